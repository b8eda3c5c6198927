/-! THE CLAIM OUT OF ONE WALK OF THE LAW'S BODY. Your part is whole_start (and what it stands on); all else here is the same for every law, but numbers. -/
def R_law : String := "StrawMapLaw"
def lw_P (b : Addr) (xs : List Int32) (args : Array Value) (s : State) : Prop := args = #[.ref b] ∧ s.IntsAt b xs ∧ xs.length ≤ 2048 ∧ (Jvm.Cond.and given_1 narrow_1).before args s = true
def lw_Q (_ : Array Value) (s : State) (o : Outcome) (t : State) : Prop := o = .returned (some (.int 1)) ∧ Framed s o t [] 600000 7302250
def lw_Z (below : List Frame) (a : Array Value) (s : State) : State → Prop := fun t => ∃ o, t.status = .running ∧ Ended t below o ∧ lw_Q a s o t
/-- the law's own end, with 1 on the stack, nothing written that was there before, its room as the claim has it -/
theorem lw_ret {p : Program} {l : Launch} {e : Env} {s : State} {m : MethodId} {below : List Frame} {meth : Method} {c : Code} {b : Nat} (hx : p.tables.exec = Jvm.exec) (hb : c.code = code) (hr : meth.sig.returnType = ret) (hlocks : meth.locks = false) {pc : Nat} {H : Heap} {ls : Array Slot} (hdg : decode code pc = .ok (.ireturn, 1)) : W p l e room_1 s m #[Value.ref b] below meth c H [] 600000 7302250 (lw_Z below #[Value.ref b] s) (F0 m pc ls [.int 1]) := by
  intro T hT X
  obtain ⟨fs, hret, hrun, hended, hW, hframe⟩ := X.leave (v := some (.int 1)) (hlocks := hlocks) (fun h => by rw [hr] at h; cases h)
  have hmeth' : T.vm.method? m = some meth := X.method'
  refine ⟨T.setFrames fs, ?_, .returned (some (.int 1)), hrun, hended, rfl, ⟨_, rfl⟩, hW, hframe⟩
  jvm_step X.here [X.here.top, hx, hb, hdg, hmeth', hr, ret, narrow_b1]
  (try refine ⟨rfl, ?_⟩); (try refine ⟨rfl, ?_⟩)
  first | (intro acts; rw [hret _ acts rfl rfl rfl]) | rw [hret _ _ rfl rfl rfl]
  exact Steps.refl _
/-- what holds at the law's entry: the machine, the code, the tables' words (any of lw_tbl by 'hts w (by decide +kernel)'), the script of L ints xs at the cell b, what the Statement gives of the start (any of its parts by flat_of_before) -/
def lw_At (p : Program) (s : State) (m : MethodId) (meth : Method) (c : Code) (b L : Nat) (xs : Nat → Int32) : Prop :=
  p.tables.exec = Jvm.exec ∧ c.code = code ∧ meth.sig.returnType = ret ∧ c.maxLocals = 4 ∧ s.vm.findClass R_law = some m.cls ∧ (∀ w ∈ lw_tbl, w.before #[Value.ref b] s = true) ∧ va_X b L xs s s.heap ∧ b < s.heap.size ∧ meth.locks = false ∧ (Jvm.Cond.and given_1 narrow_1).before #[Value.ref b] s = true
theorem dL_law_0 : decode code 0 = .ok (.new 7, 3) := by decide +kernel
theorem dL_law_3 : decode code 3 = .ok (.dup, 1) := by decide +kernel
theorem dL_law_4 : decode code 4 = .ok (.invokespecial 9, 3) := by decide +kernel
theorem dL_law_7 : decode code 7 = .ok (.astore_n 1, 1) := by decide +kernel
theorem dL_law_8 : decode code 8 = .ok (.new 10, 3) := by decide +kernel
theorem dL_law_11 : decode code 11 = .ok (.dup, 1) := by decide +kernel
theorem dL_law_12 : decode code 12 = .ok (.invokespecial 12, 3) := by decide +kernel
theorem dL_law_15 : decode code 15 = .ok (.astore_n 2, 1) := by decide +kernel
theorem dL_law_16 : decode code 16 = .ok (.iconst 0, 1) := by decide +kernel
theorem dL_law_17 : decode code 17 = .ok (.istore_n 3, 1) := by decide +kernel
theorem dL_law_18 : decode code 18 = .ok (.iload_n 3, 1) := by decide +kernel
theorem dL_law_19 : decode code 19 = .ok (.aload_n 0, 1) := by decide +kernel
theorem dL_law_20 : decode code 20 = .ok (.arraylength, 1) := by decide +kernel
theorem dL_law_21 : decode code 21 = .ok (.iconst 4, 1) := by decide +kernel
theorem dL_law_22 : decode code 22 = .ok (.isub, 1) := by decide +kernel
theorem dL_law_23 : decode code 23 = .ok (.if_icmp .gt 1445, 3) := by decide +kernel
theorem dL_law_26 : decode code 26 = .ok (.aload_n 0, 1) := by decide +kernel
theorem dL_law_27 : decode code 27 = .ok (.iload_n 3, 1) := by decide +kernel
theorem dL_law_28 : decode code 28 = .ok (.iaload, 1) := by decide +kernel
theorem dL_law_29 : decode code 29 = .ok (.bipush 63, 2) := by decide +kernel
theorem dL_law_31 : decode code 31 = .ok (.iand, 1) := by decide +kernel
theorem dL_law_32 : decode code 32 = .ok (.tableswitch 1430 0 41 #[184, 207, 220, 233, 246, 279, 312, 345, 378, 391, 434, 457, 500, 523, 566, 599, 622, 645, 688, 711, 754, 787, 820, 843, 856, 889, 932, 965, 1008, 1041, 1064, 1097, 1120, 1153, 1176, 1209, 1242, 1275, 1318, 1361, 1374, 1407], 184) := by decide +kernel
theorem dL_law_1462 : decode code 1462 = .ok (.iinc 3 4, 3) := by decide +kernel
theorem dL_law_1465 : decode code 1465 = .ok (.goto (-1447), 3) := by decide +kernel
theorem dL_law_1468 : decode code 1468 = .ok (.iconst 1, 1) := by decide +kernel
theorem dL_law_1469 : decode code 1469 = .ok (.ireturn, 1) := by decide +kernel
theorem LI.w {lay : LyT} {c b : Nat} {i : Int} {r : RfT} {h : HpT} (hLI : LI lay c b i r h) : LI lay c b (i + 4) r h := by
  obtain ⟨q, n, tx, ep, km, mp, F, ux, sz, ho, sn, row, a1, a2, a3⟩ := hLI
  exact ⟨q, n, tx, ep, km, mp, F, ux, sz, ho, sn, row, a1, a2, by omega⟩
set_option maxHeartbeats 4000000 in
set_option maxRecDepth 20000 in
/-- one call of the script -/
theorem law_call {E : EnT} {nm : String} {lay : LyT} {r : RfT} {h : HpT} {c b b0 L N : Nat} {sx : Int → Int} {i z : Int} (hX : ScE E b0 L sx) (hi : 0 ≤ i ∧ i + 4 ≤ L) (hL : L ≤ 2048) (hcb : b = c + 101) (hLI : LI lay c b i r h) (hz9 : -2147483648 ≤ z ∧ z < 2147483648) (K : ∀ r' h', LI lay c b (i + 4) r' h' → St E (mL_law nm) 1462 [some (.ref b0), some (.ref c), some (.ref b), some (vI i)] [] (122, 20801) N lay r' h') : St E (mL_law nm) 32 [some (.ref b0), some (.ref c), some (.ref b), some (vI i)] [vI z] (122, 20801) N lay r h := by
  rcases (show z = 0 ∨ z = 1 ∨ z = 2 ∨ z = 3 ∨ z = 4 ∨ z = 5 ∨ z = 6 ∨ z = 7 ∨ z = 8 ∨ z = 9 ∨ z = 10 ∨ z = 11 ∨ z = 12 ∨ z = 13 ∨ z = 14 ∨ z = 15 ∨ z = 16 ∨ z = 17 ∨ z = 18 ∨ z = 19 ∨ z = 20 ∨ z = 21 ∨ z = 22 ∨ z = 23 ∨ z = 24 ∨ z = 25 ∨ z = 26 ∨ z = 27 ∨ z = 28 ∨ z = 29 ∨ z = 30 ∨ z = 31 ∨ z = 32 ∨ z = 33 ∨ z = 34 ∨ z = 35 ∨ z = 36 ∨ z = 37 ∨ z = 38 ∨ z = 39 ∨ z = 40 ∨ z = 41 ∨ (z < 0 ∨ 41 < z) by omega) with rfl | rfl | rfl | rfl | rfl | rfl | rfl | rfl | rfl | rfl | rfl | rfl | rfl | rfl | rfl | rfl | rfl | rfl | rfl | rfl | rfl | rfl | rfl | rfl | rfl | rfl | rfl | rfl | rfl | rfl | rfl | rfl | rfl | rfl | rfl | rfl | rfl | rfl | rfl | rfl | rfl | rfl | hsw
  · exact r_tableIn (pc := 32) (off := 184) (tgt := 216) dL_law_32 (by decide) (by decide) (by decide) (by decide) (by decide) (law_write hX hi hL hcb hLI K)
  · exact r_tableIn (pc := 32) (off := 207) (tgt := 239) dL_law_32 (by decide) (by decide) (by decide) (by decide) (by decide) (law_wipe hX hi hL hcb hLI K)
  · exact r_tableIn (pc := 32) (off := 220) (tgt := 252) dL_law_32 (by decide) (by decide) (by decide) (by decide) (by decide) (law_fault hX hi hL hcb hLI K)
  · exact r_tableIn (pc := 32) (off := 233) (tgt := 265) dL_law_32 (by decide) (by decide) (by decide) (by decide) (by decide) (law_lay hX hi hL hcb hLI K)
  · exact r_tableIn (pc := 32) (off := 246) (tgt := 278) dL_law_32 (by decide) (by decide) (by decide) (by decide) (by decide) (law_node hX hi hL hcb hLI K)
  · exact r_tableIn (pc := 32) (off := 279) (tgt := 311) dL_law_32 (by decide) (by decide) (by decide) (by decide) (by decide) (law_override hX hi hL hcb hLI K)
  · exact r_tableIn (pc := 32) (off := 312) (tgt := 344) dL_law_32 (by decide) (by decide) (by decide) (by decide) (by decide) (law_weigh hX hi hL hcb hLI K)
  · exact r_tableIn (pc := 32) (off := 345) (tgt := 377) dL_law_32 (by decide) (by decide) (by decide) (by decide) (by decide) (law_reweigh hX hi hL hcb hLI K)
  · exact r_tableIn (pc := 32) (off := 378) (tgt := 410) dL_law_32 (by decide) (by decide) (by decide) (by decide) (by decide) (law_refill hX hi hL hcb hLI K)
  · exact r_tableIn (pc := 32) (off := 391) (tgt := 423) dL_law_32 (by decide) (by decide) (by decide) (by decide) (by decide) (law_divert hX hi hL hcb hLI K)
  · exact r_tableIn (pc := 32) (off := 434) (tgt := 466) dL_law_32 (by decide) (by decide) (by decide) (by decide) (by decide) (law_lift hX hi hL hcb hLI K)
  · exact r_tableIn (pc := 32) (off := 457) (tgt := 489) dL_law_32 (by decide) (by decide) (by decide) (by decide) (by decide) (law_rule hX hi hL hcb hLI K)
  · exact r_tableIn (pc := 32) (off := 500) (tgt := 532) dL_law_32 (by decide) (by decide) (by decide) (by decide) (by decide) (law_rack hX hi hL hcb hLI K)
  · exact r_tableIn (pc := 32) (off := 523) (tgt := 555) dL_law_32 (by decide) (by decide) (by decide) (by decide) (by decide) (law_disk hX hi hL hcb hLI K)
  · exact r_tableIn (pc := 32) (off := 566) (tgt := 598) dL_law_32 (by decide) (by decide) (by decide) (by decide) (by decide) (law_move hX hi hL hcb hLI K)
  · exact r_tableIn (pc := 32) (off := 599) (tgt := 631) dL_law_32 (by decide) (by decide) (by decide) (by decide) (by decide) (law_back hX hi hL hcb hLI K)
  · exact r_tableIn (pc := 32) (off := 622) (tgt := 654) dL_law_32 (by decide) (by decide) (by decide) (by decide) (by decide) (law_group hX hi hL hcb hLI K)
  · exact r_tableIn (pc := 32) (off := 645) (tgt := 677) dL_law_32 (by decide) (by decide) (by decide) (by decide) (by decide) (law_draw hX hi hL hcb hLI K)
  · exact r_tableIn (pc := 32) (off := 688) (tgt := 720) dL_law_32 (by decide) (by decide) (by decide) (by decide) (by decide) (law_want hX hi hL hcb hLI K)
  · exact r_tableIn (pc := 32) (off := 711) (tgt := 743) dL_law_32 (by decide) (by decide) (by decide) (by decide) (by decide) (law_chosen hX hi hL hcb hLI K)
  · exact r_tableIn (pc := 32) (off := 754) (tgt := 786) dL_law_32 (by decide) (by decide) (by decide) (by decide) (by decide) (law_place hX hi hL hcb hLI K)
  · exact r_tableIn (pc := 32) (off := 787) (tgt := 819) dL_law_32 (by decide) (by decide) (by decide) (by decide) (by decide) (law_taken hX hi hL hcb hLI K)
  · exact r_tableIn (pc := 32) (off := 820) (tgt := 852) dL_law_32 (by decide) (by decide) (by decide) (by decide) (by decide) (law_groups hX hi hL hcb hLI K)
  · exact r_tableIn (pc := 32) (off := 843) (tgt := 875) dL_law_32 (by decide) (by decide) (by decide) (by decide) (by decide) (law_spread hX hi hL hcb hLI K)
  · exact r_tableIn (pc := 32) (off := 856) (tgt := 888) dL_law_32 (by decide) (by decide) (by decide) (by decide) (by decide) (law_share hX hi hL hcb hLI K)
  · exact r_tableIn (pc := 32) (off := 889) (tgt := 921) dL_law_32 (by decide) (by decide) (by decide) (by decide) (by decide) (law_old hX hi hL hcb hLI K)
  · exact r_tableIn (pc := 32) (off := 932) (tgt := 964) dL_law_32 (by decide) (by decide) (by decide) (by decide) (by decide) (law_since hX hi hL hcb hLI K)
  · exact r_tableIn (pc := 32) (off := 965) (tgt := 997) dL_law_32 (by decide) (by decide) (by decide) (by decide) (by decide) (law_would hX hi hL hcb hLI K)
  · exact r_tableIn (pc := 32) (off := 1008) (tgt := 1040) dL_law_32 (by decide) (by decide) (by decide) (by decide) (by decide) (law_least hX hi hL hcb hLI K)
  · exact r_tableIn (pc := 32) (off := 1041) (tgt := 1073) dL_law_32 (by decide) (by decide) (by decide) (by decide) (by decide) (law_even hX hi hL hcb hLI K)
  · exact r_tableIn (pc := 32) (off := 1064) (tgt := 1096) dL_law_32 (by decide) (by decide) (by decide) (by decide) (by decide) (law_put hX hi hL hcb hLI K)
  · exact r_tableIn (pc := 32) (off := 1097) (tgt := 1129) dL_law_32 (by decide) (by decide) (by decide) (by decide) (by decide) (law_tick hX hi hL hcb hLI K)
  · exact r_tableIn (pc := 32) (off := 1120) (tgt := 1152) dL_law_32 (by decide) (by decide) (by decide) (by decide) (by decide) (law_up hX hi hL hcb hLI K)
  · exact r_tableIn (pc := 32) (off := 1153) (tgt := 1185) dL_law_32 (by decide) (by decide) (by decide) (by decide) (by decide) (law_fail hX hi hL hcb hLI K)
  · exact r_tableIn (pc := 32) (off := 1176) (tgt := 1208) dL_law_32 (by decide) (by decide) (by decide) (by decide) (by decide) (law_held hX hi hL hcb hLI K)
  · exact r_tableIn (pc := 32) (off := 1209) (tgt := 1241) dL_law_32 (by decide) (by decide) (by decide) (by decide) (by decide) (law_load hX hi hL hcb hLI K)
  · exact r_tableIn (pc := 32) (off := 1242) (tgt := 1274) dL_law_32 (by decide) (by decide) (by decide) (by decide) (by decide) (law_loses hX hi hL hcb hLI K)
  · exact r_tableIn (pc := 32) (off := 1275) (tgt := 1307) dL_law_32 (by decide) (by decide) (by decide) (by decide) (by decide) (law_storm hX hi hL hcb hLI K)
  · exact r_tableIn (pc := 32) (off := 1318) (tgt := 1350) dL_law_32 (by decide) (by decide) (by decide) (by decide) (by decide) (law_seen hX hi hL hcb hLI K)
  · exact r_tableIn (pc := 32) (off := 1361) (tgt := 1393) dL_law_32 (by decide) (by decide) (by decide) (by decide) (by decide) (law_forget hX hi hL hcb hLI K)
  · exact r_tableIn (pc := 32) (off := 1374) (tgt := 1406) dL_law_32 (by decide) (by decide) (by decide) (by decide) (by decide) (law_weights hX hi hL hcb hLI K)
  · exact r_tableIn (pc := 32) (off := 1407) (tgt := 1439) dL_law_32 (by decide) (by decide) (by decide) (by decide) (by decide) (law_count hX hi hL hcb hLI K)
  · exact r_tableOut (pc := 32) (tgt := 1462) dL_law_32 hz9 hsw (by decide) (K r h hLI.w)
set_option maxHeartbeats 4000000 in
set_option maxRecDepth 20000 in
theorem law_loop {E : EnT} {nm : String} {lay : LyT} {c b b0 L N : Nat} {sx : Int → Int} (hX : ScE E b0 L sx) (hL : L ≤ 2048) (hcb : b = c + 101) (K : ∀ (i : Int) (r : RfT) (h : HpT), St E (mL_law nm) 1468 [some (.ref b0), some (.ref c), some (.ref b), some (vI i)] [] (122, 20801) N lay r h) : ∀ (n_ : Nat) (i : Int) (r : RfT) (h : HpT), (2048 - i).toNat = n_ → (0 ≤ i ∧ i ≤ 2048) → LI lay c b i r h → St E (mL_law nm) 18 [some (.ref b0), some (.ref c), some (.ref b), some (vI i)] [] (122, 20801) N lay r h := by
  intro n_
  induction n_ using Nat.strongRecOn with
  | ind n_ ih =>
    intro i r h hn_ hi hLI
    refine r_iload_3 (pc := 18) dL_law_18 ?_
    refine r_aload_0 (pc := 19) dL_law_19 ?_
    refine r_slen (pc := 20) hX (by omega) dL_law_20 ?_
    refine r_iconst (pc := 21) dL_law_21 ?_
    refine r_isub (pc := 22) dL_law_22 ?_
    refine r_icmp_gt (pc := 23) (tgt := 1468) dL_law_23 (by decide) (by omega) (by omega) (fun z => ?_) (fun z => ?_)
    · exact K i r h
    · refine r_aload_0 (pc := 26) dL_law_26 ?_
      refine r_iload_3 (pc := 27) dL_law_27 ?_
      refine r_sld (pc := 28) hX dL_law_28 (by omega) (by omega) (fun i_28 => ?_)
      refine r_bipush (pc := 29) dL_law_29 (by decide) ?_
      refine r_iand (pc := 31) dL_law_31 (fun i_31 => ?_)
      refine law_call hX (by omega) hL hcb hLI i_31 (fun r' h' hLI' => ?_)
      refine r_iinc_3 (pc := 1462) dL_law_1462 rfl ?_
      refine r_goto (pc := 1465) (tgt := 18) dL_law_1465 (by decide) ?_
      exact ih _ (by omega) (i + 4) r' h' rfl (by omega) hLI'
