/-! WORDS BY PROGRAM: fields, methods, calls -/
set_option maxRecDepth 20000 in
theorem inT_X0 : ∀ w ∈ u_ws RX0 TX0 3, w ∈ lwT := by decide +kernel
set_option maxRecDepth 20000 in
theorem inT_X1 : ∀ w ∈ u_ws RX1 TX1 5, w ∈ lwT := by decide +kernel
set_option maxRecDepth 20000 in
theorem inT_X2 : ∀ w ∈ u_ws RX2 TX2 4, w ∈ lwT := by decide +kernel
set_option maxRecDepth 20000 in
theorem inT_X3 : ∀ w ∈ u_ws RX3 TX3 12, w ∈ lwT := by decide +kernel
set_option maxRecDepth 20000 in
theorem inT_X4 : ∀ w ∈ u_ws RX4 TX4 1, w ∈ lwT := by decide +kernel
set_option maxRecDepth 20000 in
theorem inT_X5 : ∀ w ∈ u_ws RX5 TX5 4, w ∈ lwT := by decide +kernel
set_option maxRecDepth 20000 in
theorem inT_X6 : ∀ w ∈ u_ws RX6 TX6 5, w ∈ lwT := by decide +kernel
set_option maxRecDepth 20000 in
theorem inT_X7 : ∀ w ∈ u_ws RX7 TX7 9, w ∈ lwT := by decide +kernel
set_option maxRecDepth 20000 in
theorem inT_X8 : ∀ w ∈ u_ws RX8 TX8 25, w ∈ lwT := by decide +kernel
section ROWS
variable {E : EnT} {M : MtT} {pc : Nat} {l : LcT} {st : List Value} {κ : Nat × Nat} {N : Nat} {lay : LyT} {r : RfT} {h : HpT}
theorem w_256 : Cond.fieldLink "StrawMap$Data" 9 "StrawMap$Data" "size" "[I" ∈ lwT := inT 256 (by decide +kernel) rfl
theorem gf_X0_9 {a b n : Nat} (hM : M.1.cls = RX0) (hla : lay a = (1, n)) (d : decode M.2.1 pc = .ok (.getfield 9, 3)) (hb : r a 1 = some b) (kk : St E M (pc + 3) l (.ref b :: st) κ N lay r h) : St E M pc l (.ref a :: st) κ N lay r h := rg_getR (k := 0) (j := 1) (C := RX0) (T := TX0) (Nf := 3) rfl inT_X0 (by decide) rfl (by decide) rfl (by rw [hM]; exact w_256) hla d hb kk
theorem pf_X0_9 {a b n : Nat} (hM : M.1.cls = RX0) (hmn : M.1.name = "<init>") (hla : lay a = (1, n)) (d : decode M.2.1 pc = .ok (.putfield 9, 3)) (kk : St E M (pc + 3) l st κ N lay (rr r a (rup (r a) 1 (some b))) h) : St E M pc l (.ref b :: .ref a :: st) κ N lay r h := rg_putF (k := 0) (j := 1) (ft := tyX0 1) (C := RX0) (T := TX0) (Nf := 3) (ty0 := tyX0) rfl inT_X0 tyX0_ok nmX0 (by decide) rfl (by decide) rfl (by rw [hM]; exact w_256) rfl (by decide +kernel) rfl rfl hmn hM hla d kk
theorem w_258 : Cond.fieldLink "StrawMap$Data" 15 "StrawMap$Data" "holders" "[I" ∈ lwT := inT 258 (by decide +kernel) rfl
theorem gf_X0_15 {a b n : Nat} (hM : M.1.cls = RX0) (hla : lay a = (1, n)) (d : decode M.2.1 pc = .ok (.getfield 15, 3)) (hb : r a 2 = some b) (kk : St E M (pc + 3) l (.ref b :: st) κ N lay r h) : St E M pc l (.ref a :: st) κ N lay r h := rg_getR (k := 0) (j := 2) (C := RX0) (T := TX0) (Nf := 3) rfl inT_X0 (by decide) rfl (by decide) rfl (by rw [hM]; exact w_258) hla d hb kk
theorem pf_X0_15 {a b n : Nat} (hM : M.1.cls = RX0) (hmn : M.1.name = "<init>") (hla : lay a = (1, n)) (d : decode M.2.1 pc = .ok (.putfield 15, 3)) (kk : St E M (pc + 3) l st κ N lay (rr r a (rup (r a) 2 (some b))) h) : St E M pc l (.ref b :: .ref a :: st) κ N lay r h := rg_putF (k := 0) (j := 2) (ft := tyX0 2) (C := RX0) (T := TX0) (Nf := 3) (ty0 := tyX0) rfl inT_X0 tyX0_ok nmX0 (by decide) rfl (by decide) rfl (by rw [hM]; exact w_258) rfl (by decide +kernel) rfl rfl hmn hM hla d kk
theorem w_196 : Cond.fieldLink "StrawMap$Data" 18 "StrawMap$Plan" "tree" "LStrawMap$Tree;" ∈ lwT := inT 196 (by decide +kernel) rfl
theorem gf_X0_18 {a b n : Nat} (hM : M.1.cls = RX0) (hla : lay a = (4, n)) (d : decode M.2.1 pc = .ok (.getfield 18, 3)) (hb : r a 0 = some b) (kk : St E M (pc + 3) l (.ref b :: st) κ N lay r h) : St E M pc l (.ref a :: st) κ N lay r h := rg_getR (k := 3) (j := 0) (C := RX3) (T := TX3) (Nf := 12) rfl inT_X3 (by decide) rfl (by decide) rfl (by rw [hM]; exact w_196) hla d hb kk
theorem w_254 : Cond.fieldLink "StrawMap$Data" 30 "StrawMap$Data" "upSet" "I" ∈ lwT := inT 254 (by decide +kernel) rfl
theorem gf_X0_30 {a n : Nat} (hM : M.1.cls = RX0) (hla : lay a = (1, n)) (d : decode M.2.1 pc = .ok (.getfield 30, 3)) (kk : -2147483648 ≤ h a 0 ∧ h a 0 < 2147483648 → St E M (pc + 3) l (vI (h a 0) :: st) κ N lay r h) : St E M pc l (.ref a :: st) κ N lay r h := rg_getI (k := 0) (j := 0) (C := RX0) (T := TX0) (Nf := 3) rfl inT_X0 (by decide) rfl (by decide) rfl (by rw [hM]; exact w_254) hla d kk
theorem pf_X0_30 {a n : Nat} {z : Int} (hM : M.1.cls = RX0) (hla : lay a = (1, n)) (d : decode M.2.1 pc = .ok (.putfield 30, 3)) (hz : -2147483648 ≤ z ∧ z < 2147483648) (kk : St E M (pc + 3) l st κ N lay r (hr h a (up (h a) 0 z))) : St E M pc l (vI z :: .ref a :: st) κ N lay r h := rg_putI (k := 0) (j := 0) (C := RX0) (T := TX0) (Nf := 3) (ty0 := tyX0) rfl inT_X0 tyX0_ok nmX0 (by decide) rfl (by decide) rfl (by rw [hM]; exact w_254) rfl (by decide +kernel) hla d hz kk
theorem w_220 : Cond.fieldLink "StrawMap$Data" 34 "StrawMap$Plan" "placed" "[I" ∈ lwT := inT 220 (by decide +kernel) rfl
theorem gf_X0_34 {a b n : Nat} (hM : M.1.cls = RX0) (hla : lay a = (4, n)) (d : decode M.2.1 pc = .ok (.getfield 34, 3)) (hb : r a 11 = some b) (kk : St E M (pc + 3) l (.ref b :: st) κ N lay r h) : St E M pc l (.ref a :: st) κ N lay r h := rg_getR (k := 3) (j := 11) (C := RX3) (T := TX3) (Nf := 12) rfl inT_X3 (by decide) rfl (by decide) rfl (by rw [hM]; exact w_220) hla d hb kk
theorem w_145 : Cond.fieldLink "StrawMap$Data" 83 "StrawMap$Tree" "disks" "I" ∈ lwT := inT 145 (by decide +kernel) rfl
theorem gf_X0_83 {a n : Nat} (hM : M.1.cls = RX0) (hla : lay a = (7, n)) (d : decode M.2.1 pc = .ok (.getfield 83, 3)) (kk : -2147483648 ≤ h a 2 ∧ h a 2 < 2147483648 → St E M (pc + 3) l (vI (h a 2) :: st) κ N lay r h) : St E M pc l (.ref a :: st) κ N lay r h := rg_getI (k := 6) (j := 2) (C := RX6) (T := TX6) (Nf := 5) rfl inT_X6 (by decide) rfl (by decide) rfl (by rw [hM]; exact w_145) hla d kk
theorem w_172 : Cond.fieldLink "StrawMap$Diversions" 9 "StrawMap$Diversions" "ofGroup" "[I" ∈ lwT := inT 172 (by decide +kernel) rfl
theorem gf_X1_9 {a b n : Nat} (hM : M.1.cls = RX1) (hla : lay a = (2, n)) (d : decode M.2.1 pc = .ok (.getfield 9, 3)) (hb : r a 1 = some b) (kk : St E M (pc + 3) l (.ref b :: st) κ N lay r h) : St E M pc l (.ref a :: st) κ N lay r h := rg_getR (k := 1) (j := 1) (C := RX1) (T := TX1) (Nf := 5) rfl inT_X1 (by decide) rfl (by decide) rfl (by rw [hM]; exact w_172) hla d hb kk
theorem pf_X1_9 {a b n : Nat} (hM : M.1.cls = RX1) (hmn : M.1.name = "<init>") (hla : lay a = (2, n)) (d : decode M.2.1 pc = .ok (.putfield 9, 3)) (kk : St E M (pc + 3) l st κ N lay (rr r a (rup (r a) 1 (some b))) h) : St E M pc l (.ref b :: .ref a :: st) κ N lay r h := rg_putF (k := 1) (j := 1) (ft := tyX1 1) (C := RX1) (T := TX1) (Nf := 5) (ty0 := tyX1) rfl inT_X1 tyX1_ok nmX1 (by decide) rfl (by decide) rfl (by rw [hM]; exact w_172) rfl (by decide +kernel) rfl rfl hmn hM hla d kk
theorem w_175 : Cond.fieldLink "StrawMap$Diversions" 15 "StrawMap$Diversions" "from" "[I" ∈ lwT := inT 175 (by decide +kernel) rfl
theorem gf_X1_15 {a b n : Nat} (hM : M.1.cls = RX1) (hla : lay a = (2, n)) (d : decode M.2.1 pc = .ok (.getfield 15, 3)) (hb : r a 2 = some b) (kk : St E M (pc + 3) l (.ref b :: st) κ N lay r h) : St E M pc l (.ref a :: st) κ N lay r h := rg_getR (k := 1) (j := 2) (C := RX1) (T := TX1) (Nf := 5) rfl inT_X1 (by decide) rfl (by decide) rfl (by rw [hM]; exact w_175) hla d hb kk
theorem pf_X1_15 {a b n : Nat} (hM : M.1.cls = RX1) (hmn : M.1.name = "<init>") (hla : lay a = (2, n)) (d : decode M.2.1 pc = .ok (.putfield 15, 3)) (kk : St E M (pc + 3) l st κ N lay (rr r a (rup (r a) 2 (some b))) h) : St E M pc l (.ref b :: .ref a :: st) κ N lay r h := rg_putF (k := 1) (j := 2) (ft := tyX1 2) (C := RX1) (T := TX1) (Nf := 5) (ty0 := tyX1) rfl inT_X1 tyX1_ok nmX1 (by decide) rfl (by decide) rfl (by rw [hM]; exact w_175) rfl (by decide +kernel) rfl rfl hmn hM hla d kk
theorem w_178 : Cond.fieldLink "StrawMap$Diversions" 18 "StrawMap$Diversions" "to" "[I" ∈ lwT := inT 178 (by decide +kernel) rfl
theorem gf_X1_18 {a b n : Nat} (hM : M.1.cls = RX1) (hla : lay a = (2, n)) (d : decode M.2.1 pc = .ok (.getfield 18, 3)) (hb : r a 3 = some b) (kk : St E M (pc + 3) l (.ref b :: st) κ N lay r h) : St E M pc l (.ref a :: st) κ N lay r h := rg_getR (k := 1) (j := 3) (C := RX1) (T := TX1) (Nf := 5) rfl inT_X1 (by decide) rfl (by decide) rfl (by rw [hM]; exact w_178) hla d hb kk
theorem pf_X1_18 {a b n : Nat} (hM : M.1.cls = RX1) (hmn : M.1.name = "<init>") (hla : lay a = (2, n)) (d : decode M.2.1 pc = .ok (.putfield 18, 3)) (kk : St E M (pc + 3) l st κ N lay (rr r a (rup (r a) 3 (some b))) h) : St E M pc l (.ref b :: .ref a :: st) κ N lay r h := rg_putF (k := 1) (j := 3) (ft := tyX1 3) (C := RX1) (T := TX1) (Nf := 5) (ty0 := tyX1) rfl inT_X1 tyX1_ok nmX1 (by decide) rfl (by decide) rfl (by rw [hM]; exact w_178) rfl (by decide +kernel) rfl rfl hmn hM hla d kk
theorem w_181 : Cond.fieldLink "StrawMap$Diversions" 21 "StrawMap$Diversions" "works" "[I" ∈ lwT := inT 181 (by decide +kernel) rfl
theorem gf_X1_21 {a b n : Nat} (hM : M.1.cls = RX1) (hla : lay a = (2, n)) (d : decode M.2.1 pc = .ok (.getfield 21, 3)) (hb : r a 4 = some b) (kk : St E M (pc + 3) l (.ref b :: st) κ N lay r h) : St E M pc l (.ref a :: st) κ N lay r h := rg_getR (k := 1) (j := 4) (C := RX1) (T := TX1) (Nf := 5) rfl inT_X1 (by decide) rfl (by decide) rfl (by rw [hM]; exact w_181) hla d hb kk
theorem pf_X1_21 {a b n : Nat} (hM : M.1.cls = RX1) (hmn : M.1.name = "<init>") (hla : lay a = (2, n)) (d : decode M.2.1 pc = .ok (.putfield 21, 3)) (kk : St E M (pc + 3) l st κ N lay (rr r a (rup (r a) 4 (some b))) h) : St E M pc l (.ref b :: .ref a :: st) κ N lay r h := rg_putF (k := 1) (j := 4) (ft := tyX1 4) (C := RX1) (T := TX1) (Nf := 5) (ty0 := tyX1) rfl inT_X1 tyX1_ok nmX1 (by decide) rfl (by decide) rfl (by rw [hM]; exact w_181) rfl (by decide +kernel) rfl rfl hmn hM hla d kk
theorem w_169 : Cond.fieldLink "StrawMap$Diversions" 24 "StrawMap$Diversions" "number" "I" ∈ lwT := inT 169 (by decide +kernel) rfl
theorem gf_X1_24 {a n : Nat} (hM : M.1.cls = RX1) (hla : lay a = (2, n)) (d : decode M.2.1 pc = .ok (.getfield 24, 3)) (kk : -2147483648 ≤ h a 0 ∧ h a 0 < 2147483648 → St E M (pc + 3) l (vI (h a 0) :: st) κ N lay r h) : St E M pc l (.ref a :: st) κ N lay r h := rg_getI (k := 1) (j := 0) (C := RX1) (T := TX1) (Nf := 5) rfl inT_X1 (by decide) rfl (by decide) rfl (by rw [hM]; exact w_169) hla d kk
theorem pf_X1_24 {a n : Nat} {z : Int} (hM : M.1.cls = RX1) (hla : lay a = (2, n)) (d : decode M.2.1 pc = .ok (.putfield 24, 3)) (hz : -2147483648 ≤ z ∧ z < 2147483648) (kk : St E M (pc + 3) l st κ N lay r (hr h a (up (h a) 0 z))) : St E M pc l (vI z :: .ref a :: st) κ N lay r h := rg_putI (k := 1) (j := 0) (C := RX1) (T := TX1) (Nf := 5) (ty0 := tyX1) rfl inT_X1 tyX1_ok nmX1 (by decide) rfl (by decide) rfl (by rw [hM]; exact w_169) rfl (by decide +kernel) hla d hz kk
theorem w_275 : Cond.fieldLink "StrawMap$Observations" 9 "StrawMap$Observations" "ofGroup" "[I" ∈ lwT := inT 275 (by decide +kernel) rfl
theorem gf_X2_9 {a b n : Nat} (hM : M.1.cls = RX2) (hla : lay a = (3, n)) (d : decode M.2.1 pc = .ok (.getfield 9, 3)) (hb : r a 1 = some b) (kk : St E M (pc + 3) l (.ref b :: st) κ N lay r h) : St E M pc l (.ref a :: st) κ N lay r h := rg_getR (k := 2) (j := 1) (C := RX2) (T := TX2) (Nf := 4) rfl inT_X2 (by decide) rfl (by decide) rfl (by rw [hM]; exact w_275) hla d hb kk
theorem pf_X2_9 {a b n : Nat} (hM : M.1.cls = RX2) (hmn : M.1.name = "<init>") (hla : lay a = (3, n)) (d : decode M.2.1 pc = .ok (.putfield 9, 3)) (kk : St E M (pc + 3) l st κ N lay (rr r a (rup (r a) 1 (some b))) h) : St E M pc l (.ref b :: .ref a :: st) κ N lay r h := rg_putF (k := 2) (j := 1) (ft := tyX2 1) (C := RX2) (T := TX2) (Nf := 4) (ty0 := tyX2) rfl inT_X2 tyX2_ok nmX2 (by decide) rfl (by decide) rfl (by rw [hM]; exact w_275) rfl (by decide +kernel) rfl rfl hmn hM hla d kk
theorem w_276 : Cond.fieldLink "StrawMap$Observations" 15 "StrawMap$Observations" "ofDisk" "[I" ∈ lwT := inT 276 (by decide +kernel) rfl
theorem gf_X2_15 {a b n : Nat} (hM : M.1.cls = RX2) (hla : lay a = (3, n)) (d : decode M.2.1 pc = .ok (.getfield 15, 3)) (hb : r a 2 = some b) (kk : St E M (pc + 3) l (.ref b :: st) κ N lay r h) : St E M pc l (.ref a :: st) κ N lay r h := rg_getR (k := 2) (j := 2) (C := RX2) (T := TX2) (Nf := 4) rfl inT_X2 (by decide) rfl (by decide) rfl (by rw [hM]; exact w_276) hla d hb kk
theorem pf_X2_15 {a b n : Nat} (hM : M.1.cls = RX2) (hmn : M.1.name = "<init>") (hla : lay a = (3, n)) (d : decode M.2.1 pc = .ok (.putfield 15, 3)) (kk : St E M (pc + 3) l st κ N lay (rr r a (rup (r a) 2 (some b))) h) : St E M pc l (.ref b :: .ref a :: st) κ N lay r h := rg_putF (k := 2) (j := 2) (ft := tyX2 2) (C := RX2) (T := TX2) (Nf := 4) (ty0 := tyX2) rfl inT_X2 tyX2_ok nmX2 (by decide) rfl (by decide) rfl (by rw [hM]; exact w_276) rfl (by decide +kernel) rfl rfl hmn hM hla d kk
theorem w_277 : Cond.fieldLink "StrawMap$Observations" 18 "StrawMap$Observations" "has" "[Z" ∈ lwT := inT 277 (by decide +kernel) rfl
theorem gf_X2_18 {a b n : Nat} (hM : M.1.cls = RX2) (hla : lay a = (3, n)) (d : decode M.2.1 pc = .ok (.getfield 18, 3)) (hb : r a 3 = some b) (kk : St E M (pc + 3) l (.ref b :: st) κ N lay r h) : St E M pc l (.ref a :: st) κ N lay r h := rg_getR (k := 2) (j := 3) (C := RX2) (T := TX2) (Nf := 4) rfl inT_X2 (by decide) rfl (by decide) rfl (by rw [hM]; exact w_277) hla d hb kk
theorem pf_X2_18 {a b n : Nat} (hM : M.1.cls = RX2) (hmn : M.1.name = "<init>") (hla : lay a = (3, n)) (d : decode M.2.1 pc = .ok (.putfield 18, 3)) (kk : St E M (pc + 3) l st κ N lay (rr r a (rup (r a) 3 (some b))) h) : St E M pc l (.ref b :: .ref a :: st) κ N lay r h := rg_putF (k := 2) (j := 3) (ft := tyX2 3) (C := RX2) (T := TX2) (Nf := 4) (ty0 := tyX2) rfl inT_X2 tyX2_ok nmX2 (by decide) rfl (by decide) rfl (by rw [hM]; exact w_277) rfl (by decide +kernel) rfl rfl hmn hM hla d kk
theorem w_273 : Cond.fieldLink "StrawMap$Observations" 22 "StrawMap$Observations" "number" "I" ∈ lwT := inT 273 (by decide +kernel) rfl
theorem gf_X2_22 {a n : Nat} (hM : M.1.cls = RX2) (hla : lay a = (3, n)) (d : decode M.2.1 pc = .ok (.getfield 22, 3)) (kk : -2147483648 ≤ h a 0 ∧ h a 0 < 2147483648 → St E M (pc + 3) l (vI (h a 0) :: st) κ N lay r h) : St E M pc l (.ref a :: st) κ N lay r h := rg_getI (k := 2) (j := 0) (C := RX2) (T := TX2) (Nf := 4) rfl inT_X2 (by decide) rfl (by decide) rfl (by rw [hM]; exact w_273) hla d kk
theorem pf_X2_22 {a n : Nat} {z : Int} (hM : M.1.cls = RX2) (hla : lay a = (3, n)) (d : decode M.2.1 pc = .ok (.putfield 22, 3)) (hz : -2147483648 ≤ z ∧ z < 2147483648) (kk : St E M (pc + 3) l st κ N lay r (hr h a (up (h a) 0 z))) : St E M pc l (vI z :: .ref a :: st) κ N lay r h := rg_putI (k := 2) (j := 0) (C := RX2) (T := TX2) (Nf := 4) (ty0 := tyX2) rfl inT_X2 tyX2_ok nmX2 (by decide) rfl (by decide) rfl (by rw [hM]; exact w_273) rfl (by decide +kernel) hla d hz kk
theorem w_221 : Cond.fieldLink "StrawMap$Observations" 32 "StrawMap$Plan" "placed" "[I" ∈ lwT := inT 221 (by decide +kernel) rfl
theorem gf_X2_32 {a b n : Nat} (hM : M.1.cls = RX2) (hla : lay a = (4, n)) (d : decode M.2.1 pc = .ok (.getfield 32, 3)) (hb : r a 11 = some b) (kk : St E M (pc + 3) l (.ref b :: st) κ N lay r h) : St E M pc l (.ref a :: st) κ N lay r h := rg_getR (k := 3) (j := 11) (C := RX3) (T := TX3) (Nf := 12) rfl inT_X3 (by decide) rfl (by decide) rfl (by rw [hM]; exact w_221) hla d hb kk
theorem w_195 : Cond.fieldLink "StrawMap$Plan" 12 "StrawMap$Plan" "tree" "LStrawMap$Tree;" ∈ lwT := inT 195 (by decide +kernel) rfl
theorem gf_X3_12 {a b n : Nat} (hM : M.1.cls = RX3) (hla : lay a = (4, n)) (d : decode M.2.1 pc = .ok (.getfield 12, 3)) (hb : r a 0 = some b) (kk : St E M (pc + 3) l (.ref b :: st) κ N lay r h) : St E M pc l (.ref a :: st) κ N lay r h := rg_getR (k := 3) (j := 0) (C := RX3) (T := TX3) (Nf := 12) rfl inT_X3 (by decide) rfl (by decide) rfl (by rw [hM]; exact w_195) hla d hb kk
theorem pf_X3_12 {a b n : Nat} (hM : M.1.cls = RX3) (hmn : M.1.name = "<init>") (hla : lay a = (4, n)) (d : decode M.2.1 pc = .ok (.putfield 12, 3)) (kk : St E M (pc + 3) l st κ N lay (rr r a (rup (r a) 0 (some b))) h) : St E M pc l (.ref b :: .ref a :: st) κ N lay r h := rg_putF (k := 3) (j := 0) (ft := tyX3 0) (C := RX3) (T := TX3) (Nf := 12) (ty0 := tyX3) rfl inT_X3 tyX3_ok nmX3 (by decide) rfl (by decide) rfl (by rw [hM]; exact w_195) rfl (by decide +kernel) rfl rfl hmn hM hla d kk
theorem w_199 : Cond.fieldLink "StrawMap$Plan" 21 "StrawMap$Plan" "diversions" "LStrawMap$Diversions;" ∈ lwT := inT 199 (by decide +kernel) rfl
theorem gf_X3_21 {a b n : Nat} (hM : M.1.cls = RX3) (hla : lay a = (4, n)) (d : decode M.2.1 pc = .ok (.getfield 21, 3)) (hb : r a 1 = some b) (kk : St E M (pc + 3) l (.ref b :: st) κ N lay r h) : St E M pc l (.ref a :: st) κ N lay r h := rg_getR (k := 3) (j := 1) (C := RX3) (T := TX3) (Nf := 12) rfl inT_X3 (by decide) rfl (by decide) rfl (by rw [hM]; exact w_199) hla d hb kk
theorem pf_X3_21 {a b n : Nat} (hM : M.1.cls = RX3) (hmn : M.1.name = "<init>") (hla : lay a = (4, n)) (d : decode M.2.1 pc = .ok (.putfield 21, 3)) (kk : St E M (pc + 3) l st κ N lay (rr r a (rup (r a) 1 (some b))) h) : St E M pc l (.ref b :: .ref a :: st) κ N lay r h := rg_putF (k := 3) (j := 1) (ft := tyX3 1) (C := RX3) (T := TX3) (Nf := 12) (ty0 := tyX3) rfl inT_X3 tyX3_ok nmX3 (by decide) rfl (by decide) rfl (by rw [hM]; exact w_199) rfl (by decide +kernel) rfl rfl hmn hM hla d kk
theorem w_201 : Cond.fieldLink "StrawMap$Plan" 25 "StrawMap$Plan" "capacity" "[I" ∈ lwT := inT 201 (by decide +kernel) rfl
theorem gf_X3_25 {a b n : Nat} (hM : M.1.cls = RX3) (hla : lay a = (4, n)) (d : decode M.2.1 pc = .ok (.getfield 25, 3)) (hb : r a 2 = some b) (kk : St E M (pc + 3) l (.ref b :: st) κ N lay r h) : St E M pc l (.ref a :: st) κ N lay r h := rg_getR (k := 3) (j := 2) (C := RX3) (T := TX3) (Nf := 12) rfl inT_X3 (by decide) rfl (by decide) rfl (by rw [hM]; exact w_201) hla d hb kk
theorem pf_X3_25 {a b n : Nat} (hM : M.1.cls = RX3) (hmn : M.1.name = "<init>") (hla : lay a = (4, n)) (d : decode M.2.1 pc = .ok (.putfield 25, 3)) (kk : St E M (pc + 3) l st κ N lay (rr r a (rup (r a) 2 (some b))) h) : St E M pc l (.ref b :: .ref a :: st) κ N lay r h := rg_putF (k := 3) (j := 2) (ft := tyX3 2) (C := RX3) (T := TX3) (Nf := 12) (ty0 := tyX3) rfl inT_X3 tyX3_ok nmX3 (by decide) rfl (by decide) rfl (by rw [hM]; exact w_201) rfl (by decide +kernel) rfl rfl hmn hM hla d kk
theorem w_203 : Cond.fieldLink "StrawMap$Plan" 29 "StrawMap$Plan" "reweight" "[I" ∈ lwT := inT 203 (by decide +kernel) rfl
theorem gf_X3_29 {a b n : Nat} (hM : M.1.cls = RX3) (hla : lay a = (4, n)) (d : decode M.2.1 pc = .ok (.getfield 29, 3)) (hb : r a 3 = some b) (kk : St E M (pc + 3) l (.ref b :: st) κ N lay r h) : St E M pc l (.ref a :: st) κ N lay r h := rg_getR (k := 3) (j := 3) (C := RX3) (T := TX3) (Nf := 12) rfl inT_X3 (by decide) rfl (by decide) rfl (by rw [hM]; exact w_203) hla d hb kk
theorem pf_X3_29 {a b n : Nat} (hM : M.1.cls = RX3) (hmn : M.1.name = "<init>") (hla : lay a = (4, n)) (d : decode M.2.1 pc = .ok (.putfield 29, 3)) (kk : St E M (pc + 3) l st κ N lay (rr r a (rup (r a) 3 (some b))) h) : St E M pc l (.ref b :: .ref a :: st) κ N lay r h := rg_putF (k := 3) (j := 3) (ft := tyX3 3) (C := RX3) (T := TX3) (Nf := 12) (ty0 := tyX3) rfl inT_X3 tyX3_ok nmX3 (by decide) rfl (by decide) rfl (by rw [hM]; exact w_203) rfl (by decide +kernel) rfl rfl hmn hM hla d kk
theorem w_216 : Cond.fieldLink "StrawMap$Plan" 32 "StrawMap$Plan" "diskOf" "[I" ∈ lwT := inT 216 (by decide +kernel) rfl
theorem gf_X3_32 {a b n : Nat} (hM : M.1.cls = RX3) (hla : lay a = (4, n)) (d : decode M.2.1 pc = .ok (.getfield 32, 3)) (hb : r a 9 = some b) (kk : St E M (pc + 3) l (.ref b :: st) κ N lay r h) : St E M pc l (.ref a :: st) κ N lay r h := rg_getR (k := 3) (j := 9) (C := RX3) (T := TX3) (Nf := 12) rfl inT_X3 (by decide) rfl (by decide) rfl (by rw [hM]; exact w_216) hla d hb kk
theorem pf_X3_32 {a b n : Nat} (hM : M.1.cls = RX3) (hmn : M.1.name = "<init>") (hla : lay a = (4, n)) (d : decode M.2.1 pc = .ok (.putfield 32, 3)) (kk : St E M (pc + 3) l st κ N lay (rr r a (rup (r a) 9 (some b))) h) : St E M pc l (.ref b :: .ref a :: st) κ N lay r h := rg_putF (k := 3) (j := 9) (ft := tyX3 9) (C := RX3) (T := TX3) (Nf := 12) (ty0 := tyX3) rfl inT_X3 tyX3_ok nmX3 (by decide) rfl (by decide) rfl (by rw [hM]; exact w_216) rfl (by decide +kernel) rfl rfl hmn hM hla d kk
theorem w_217 : Cond.fieldLink "StrawMap$Plan" 35 "StrawMap$Plan" "tryOf" "[I" ∈ lwT := inT 217 (by decide +kernel) rfl
theorem gf_X3_35 {a b n : Nat} (hM : M.1.cls = RX3) (hla : lay a = (4, n)) (d : decode M.2.1 pc = .ok (.getfield 35, 3)) (hb : r a 10 = some b) (kk : St E M (pc + 3) l (.ref b :: st) κ N lay r h) : St E M pc l (.ref a :: st) κ N lay r h := rg_getR (k := 3) (j := 10) (C := RX3) (T := TX3) (Nf := 12) rfl inT_X3 (by decide) rfl (by decide) rfl (by rw [hM]; exact w_217) hla d hb kk
theorem pf_X3_35 {a b n : Nat} (hM : M.1.cls = RX3) (hmn : M.1.name = "<init>") (hla : lay a = (4, n)) (d : decode M.2.1 pc = .ok (.putfield 35, 3)) (kk : St E M (pc + 3) l st κ N lay (rr r a (rup (r a) 10 (some b))) h) : St E M pc l (.ref b :: .ref a :: st) κ N lay r h := rg_putF (k := 3) (j := 10) (ft := tyX3 10) (C := RX3) (T := TX3) (Nf := 12) (ty0 := tyX3) rfl inT_X3 tyX3_ok nmX3 (by decide) rfl (by decide) rfl (by rw [hM]; exact w_217) rfl (by decide +kernel) rfl rfl hmn hM hla d kk
theorem w_219 : Cond.fieldLink "StrawMap$Plan" 38 "StrawMap$Plan" "placed" "[I" ∈ lwT := inT 219 (by decide +kernel) rfl
theorem gf_X3_38 {a b n : Nat} (hM : M.1.cls = RX3) (hla : lay a = (4, n)) (d : decode M.2.1 pc = .ok (.getfield 38, 3)) (hb : r a 11 = some b) (kk : St E M (pc + 3) l (.ref b :: st) κ N lay r h) : St E M pc l (.ref a :: st) κ N lay r h := rg_getR (k := 3) (j := 11) (C := RX3) (T := TX3) (Nf := 12) rfl inT_X3 (by decide) rfl (by decide) rfl (by rw [hM]; exact w_219) hla d hb kk
theorem pf_X3_38 {a b n : Nat} (hM : M.1.cls = RX3) (hmn : M.1.name = "<init>") (hla : lay a = (4, n)) (d : decode M.2.1 pc = .ok (.putfield 38, 3)) (kk : St E M (pc + 3) l st κ N lay (rr r a (rup (r a) 11 (some b))) h) : St E M pc l (.ref b :: .ref a :: st) κ N lay r h := rg_putF (k := 3) (j := 11) (ft := tyX3 11) (C := RX3) (T := TX3) (Nf := 12) (ty0 := tyX3) rfl inT_X3 tyX3_ok nmX3 (by decide) rfl (by decide) rfl (by rw [hM]; exact w_219) rfl (by decide +kernel) rfl rfl hmn hM hla d kk
theorem w_170 : Cond.fieldLink "StrawMap$Plan" 44 "StrawMap$Diversions" "number" "I" ∈ lwT := inT 170 (by decide +kernel) rfl
theorem gf_X3_44 {a n : Nat} (hM : M.1.cls = RX3) (hla : lay a = (2, n)) (d : decode M.2.1 pc = .ok (.getfield 44, 3)) (kk : -2147483648 ≤ h a 0 ∧ h a 0 < 2147483648 → St E M (pc + 3) l (vI (h a 0) :: st) κ N lay r h) : St E M pc l (.ref a :: st) κ N lay r h := rg_getI (k := 1) (j := 0) (C := RX1) (T := TX1) (Nf := 5) rfl inT_X1 (by decide) rfl (by decide) rfl (by rw [hM]; exact w_170) hla d kk
theorem pf_X3_44 {a n : Nat} {z : Int} (hM : M.1.cls = RX3) (hla : lay a = (2, n)) (d : decode M.2.1 pc = .ok (.putfield 44, 3)) (hz : -2147483648 ≤ z ∧ z < 2147483648) (kk : St E M (pc + 3) l st κ N lay r (hr h a (up (h a) 0 z))) : St E M pc l (vI z :: .ref a :: st) κ N lay r h := rg_putI (k := 1) (j := 0) (C := RX1) (T := TX1) (Nf := 5) (ty0 := tyX1) rfl inT_X1 tyX1_ok nmX1 (by decide) rfl (by decide) rfl (by rw [hM]; exact w_170) rfl (by decide +kernel) hla d hz kk
theorem w_205 : Cond.fieldLink "StrawMap$Plan" 48 "StrawMap$Plan" "fullSet" "I" ∈ lwT := inT 205 (by decide +kernel) rfl
theorem gf_X3_48 {a n : Nat} (hM : M.1.cls = RX3) (hla : lay a = (4, n)) (d : decode M.2.1 pc = .ok (.getfield 48, 3)) (kk : -2147483648 ≤ h a 4 ∧ h a 4 < 2147483648 → St E M (pc + 3) l (vI (h a 4) :: st) κ N lay r h) : St E M pc l (.ref a :: st) κ N lay r h := rg_getI (k := 3) (j := 4) (C := RX3) (T := TX3) (Nf := 12) rfl inT_X3 (by decide) rfl (by decide) rfl (by rw [hM]; exact w_205) hla d kk
theorem pf_X3_48 {a n : Nat} {z : Int} (hM : M.1.cls = RX3) (hla : lay a = (4, n)) (d : decode M.2.1 pc = .ok (.putfield 48, 3)) (hz : -2147483648 ≤ z ∧ z < 2147483648) (kk : St E M (pc + 3) l st κ N lay r (hr h a (up (h a) 4 z))) : St E M pc l (vI z :: .ref a :: st) κ N lay r h := rg_putI (k := 3) (j := 4) (C := RX3) (T := TX3) (Nf := 12) (ty0 := tyX3) rfl inT_X3 tyX3_ok nmX3 (by decide) rfl (by decide) rfl (by rw [hM]; exact w_205) rfl (by decide +kernel) hla d hz kk
theorem w_213 : Cond.fieldLink "StrawMap$Plan" 55 "StrawMap$Plan" "tries" "I" ∈ lwT := inT 213 (by decide +kernel) rfl
theorem gf_X3_55 {a n : Nat} (hM : M.1.cls = RX3) (hla : lay a = (4, n)) (d : decode M.2.1 pc = .ok (.getfield 55, 3)) (kk : -2147483648 ≤ h a 8 ∧ h a 8 < 2147483648 → St E M (pc + 3) l (vI (h a 8) :: st) κ N lay r h) : St E M pc l (.ref a :: st) κ N lay r h := rg_getI (k := 3) (j := 8) (C := RX3) (T := TX3) (Nf := 12) rfl inT_X3 (by decide) rfl (by decide) rfl (by rw [hM]; exact w_213) hla d kk
theorem pf_X3_55 {a n : Nat} {z : Int} (hM : M.1.cls = RX3) (hla : lay a = (4, n)) (d : decode M.2.1 pc = .ok (.putfield 55, 3)) (hz : -2147483648 ≤ z ∧ z < 2147483648) (kk : St E M (pc + 3) l st κ N lay r (hr h a (up (h a) 8 z))) : St E M pc l (vI z :: .ref a :: st) κ N lay r h := rg_putI (k := 3) (j := 8) (C := RX3) (T := TX3) (Nf := 12) (ty0 := tyX3) rfl inT_X3 tyX3_ok nmX3 (by decide) rfl (by decide) rfl (by rw [hM]; exact w_213) rfl (by decide +kernel) hla d hz kk
theorem w_207 : Cond.fieldLink "StrawMap$Plan" 71 "StrawMap$Plan" "copies" "I" ∈ lwT := inT 207 (by decide +kernel) rfl
theorem gf_X3_71 {a n : Nat} (hM : M.1.cls = RX3) (hla : lay a = (4, n)) (d : decode M.2.1 pc = .ok (.getfield 71, 3)) (kk : -2147483648 ≤ h a 5 ∧ h a 5 < 2147483648 → St E M (pc + 3) l (vI (h a 5) :: st) κ N lay r h) : St E M pc l (.ref a :: st) κ N lay r h := rg_getI (k := 3) (j := 5) (C := RX3) (T := TX3) (Nf := 12) rfl inT_X3 (by decide) rfl (by decide) rfl (by rw [hM]; exact w_207) hla d kk
theorem pf_X3_71 {a n : Nat} {z : Int} (hM : M.1.cls = RX3) (hla : lay a = (4, n)) (d : decode M.2.1 pc = .ok (.putfield 71, 3)) (hz : -2147483648 ≤ z ∧ z < 2147483648) (kk : St E M (pc + 3) l st κ N lay r (hr h a (up (h a) 5 z))) : St E M pc l (vI z :: .ref a :: st) κ N lay r h := rg_putI (k := 3) (j := 5) (C := RX3) (T := TX3) (Nf := 12) (ty0 := tyX3) rfl inT_X3 tyX3_ok nmX3 (by decide) rfl (by decide) rfl (by rw [hM]; exact w_207) rfl (by decide +kernel) hla d hz kk
theorem w_209 : Cond.fieldLink "StrawMap$Plan" 74 "StrawMap$Plan" "level" "I" ∈ lwT := inT 209 (by decide +kernel) rfl
theorem gf_X3_74 {a n : Nat} (hM : M.1.cls = RX3) (hla : lay a = (4, n)) (d : decode M.2.1 pc = .ok (.getfield 74, 3)) (kk : -2147483648 ≤ h a 6 ∧ h a 6 < 2147483648 → St E M (pc + 3) l (vI (h a 6) :: st) κ N lay r h) : St E M pc l (.ref a :: st) κ N lay r h := rg_getI (k := 3) (j := 6) (C := RX3) (T := TX3) (Nf := 12) rfl inT_X3 (by decide) rfl (by decide) rfl (by rw [hM]; exact w_209) hla d kk
theorem pf_X3_74 {a n : Nat} {z : Int} (hM : M.1.cls = RX3) (hla : lay a = (4, n)) (d : decode M.2.1 pc = .ok (.putfield 74, 3)) (hz : -2147483648 ≤ z ∧ z < 2147483648) (kk : St E M (pc + 3) l st κ N lay r (hr h a (up (h a) 6 z))) : St E M pc l (vI z :: .ref a :: st) κ N lay r h := rg_putI (k := 3) (j := 6) (C := RX3) (T := TX3) (Nf := 12) (ty0 := tyX3) rfl inT_X3 tyX3_ok nmX3 (by decide) rfl (by decide) rfl (by rw [hM]; exact w_209) rfl (by decide +kernel) hla d hz kk
theorem w_211 : Cond.fieldLink "StrawMap$Plan" 77 "StrawMap$Plan" "mode" "I" ∈ lwT := inT 211 (by decide +kernel) rfl
theorem gf_X3_77 {a n : Nat} (hM : M.1.cls = RX3) (hla : lay a = (4, n)) (d : decode M.2.1 pc = .ok (.getfield 77, 3)) (kk : -2147483648 ≤ h a 7 ∧ h a 7 < 2147483648 → St E M (pc + 3) l (vI (h a 7) :: st) κ N lay r h) : St E M pc l (.ref a :: st) κ N lay r h := rg_getI (k := 3) (j := 7) (C := RX3) (T := TX3) (Nf := 12) rfl inT_X3 (by decide) rfl (by decide) rfl (by rw [hM]; exact w_211) hla d kk
theorem pf_X3_77 {a n : Nat} {z : Int} (hM : M.1.cls = RX3) (hla : lay a = (4, n)) (d : decode M.2.1 pc = .ok (.putfield 77, 3)) (hz : -2147483648 ≤ z ∧ z < 2147483648) (kk : St E M (pc + 3) l st κ N lay r (hr h a (up (h a) 7 z))) : St E M pc l (vI z :: .ref a :: st) κ N lay r h := rg_putI (k := 3) (j := 7) (C := RX3) (T := TX3) (Nf := 12) (ty0 := tyX3) rfl inT_X3 tyX3_ok nmX3 (by decide) rfl (by decide) rfl (by rw [hM]; exact w_211) rfl (by decide +kernel) hla d hz kk
theorem w_148 : Cond.fieldLink "StrawMap$Plan" 127 "StrawMap$Tree" "above" "[I" ∈ lwT := inT 148 (by decide +kernel) rfl
theorem gf_X3_127 {a b n : Nat} (hM : M.1.cls = RX3) (hla : lay a = (7, n)) (d : decode M.2.1 pc = .ok (.getfield 127, 3)) (hb : r a 3 = some b) (kk : St E M (pc + 3) l (.ref b :: st) κ N lay r h) : St E M pc l (.ref a :: st) κ N lay r h := rg_getR (k := 6) (j := 3) (C := RX6) (T := TX6) (Nf := 5) rfl inT_X6 (by decide) rfl (by decide) rfl (by rw [hM]; exact w_148) hla d hb kk
theorem w_174 : Cond.fieldLink "StrawMap$Plan" 130 "StrawMap$Diversions" "ofGroup" "[I" ∈ lwT := inT 174 (by decide +kernel) rfl
theorem gf_X3_130 {a b n : Nat} (hM : M.1.cls = RX3) (hla : lay a = (2, n)) (d : decode M.2.1 pc = .ok (.getfield 130, 3)) (hb : r a 1 = some b) (kk : St E M (pc + 3) l (.ref b :: st) κ N lay r h) : St E M pc l (.ref a :: st) κ N lay r h := rg_getR (k := 1) (j := 1) (C := RX1) (T := TX1) (Nf := 5) rfl inT_X1 (by decide) rfl (by decide) rfl (by rw [hM]; exact w_174) hla d hb kk
theorem w_177 : Cond.fieldLink "StrawMap$Plan" 133 "StrawMap$Diversions" "from" "[I" ∈ lwT := inT 177 (by decide +kernel) rfl
theorem gf_X3_133 {a b n : Nat} (hM : M.1.cls = RX3) (hla : lay a = (2, n)) (d : decode M.2.1 pc = .ok (.getfield 133, 3)) (hb : r a 2 = some b) (kk : St E M (pc + 3) l (.ref b :: st) κ N lay r h) : St E M pc l (.ref a :: st) κ N lay r h := rg_getR (k := 1) (j := 2) (C := RX1) (T := TX1) (Nf := 5) rfl inT_X1 (by decide) rfl (by decide) rfl (by rw [hM]; exact w_177) hla d hb kk
theorem w_180 : Cond.fieldLink "StrawMap$Plan" 136 "StrawMap$Diversions" "to" "[I" ∈ lwT := inT 180 (by decide +kernel) rfl
theorem gf_X3_136 {a b n : Nat} (hM : M.1.cls = RX3) (hla : lay a = (2, n)) (d : decode M.2.1 pc = .ok (.getfield 136, 3)) (hb : r a 3 = some b) (kk : St E M (pc + 3) l (.ref b :: st) κ N lay r h) : St E M pc l (.ref a :: st) κ N lay r h := rg_getR (k := 1) (j := 3) (C := RX1) (T := TX1) (Nf := 5) rfl inT_X1 (by decide) rfl (by decide) rfl (by rw [hM]; exact w_180) hla d hb kk
theorem w_183 : Cond.fieldLink "StrawMap$Plan" 142 "StrawMap$Diversions" "works" "[I" ∈ lwT := inT 183 (by decide +kernel) rfl
theorem gf_X3_142 {a b n : Nat} (hM : M.1.cls = RX3) (hla : lay a = (2, n)) (d : decode M.2.1 pc = .ok (.getfield 142, 3)) (hb : r a 4 = some b) (kk : St E M (pc + 3) l (.ref b :: st) κ N lay r h) : St E M pc l (.ref a :: st) κ N lay r h := rg_getR (k := 1) (j := 4) (C := RX1) (T := TX1) (Nf := 5) rfl inT_X1 (by decide) rfl (by decide) rfl (by rw [hM]; exact w_183) hla d hb kk
theorem w_151 : Cond.fieldLink "StrawMap$Plan" 145 "StrawMap$Tree" "weight" "[I" ∈ lwT := inT 151 (by decide +kernel) rfl
theorem gf_X3_145 {a b n : Nat} (hM : M.1.cls = RX3) (hla : lay a = (7, n)) (d : decode M.2.1 pc = .ok (.getfield 145, 3)) (hb : r a 4 = some b) (kk : St E M (pc + 3) l (.ref b :: st) κ N lay r h) : St E M pc l (.ref a :: st) κ N lay r h := rg_getR (k := 6) (j := 4) (C := RX6) (T := TX6) (Nf := 5) rfl inT_X6 (by decide) rfl (by decide) rfl (by rw [hM]; exact w_151) hla d hb kk
theorem w_120 : Cond.fieldLink "StrawMap$Straws" 9 "StrawMap$Straws" "kept" "[I" ∈ lwT := inT 120 (by decide +kernel) rfl
theorem gf_X4_9 {a b n : Nat} (hM : M.1.cls = RX4) (hla : lay a = (5, n)) (d : decode M.2.1 pc = .ok (.getfield 9, 3)) (hb : r a 0 = some b) (kk : St E M (pc + 3) l (.ref b :: st) κ N lay r h) : St E M pc l (.ref a :: st) κ N lay r h := rg_getR (k := 4) (j := 0) (C := RX4) (T := TX4) (Nf := 1) rfl inT_X4 (by decide) rfl (by decide) rfl (by rw [hM]; exact w_120) hla d hb kk
theorem pf_X4_9 {a b n : Nat} (hM : M.1.cls = RX4) (hmn : M.1.name = "<init>") (hla : lay a = (5, n)) (d : decode M.2.1 pc = .ok (.putfield 9, 3)) (kk : St E M (pc + 3) l st κ N lay (rr r a (rup (r a) 0 (some b))) h) : St E M pc l (.ref b :: .ref a :: st) κ N lay r h := rg_putF (k := 4) (j := 0) (ft := tyX4 0) (C := RX4) (T := TX4) (Nf := 1) (ty0 := tyX4) rfl inT_X4 tyX4_ok nmX4 (by decide) rfl (by decide) rfl (by rw [hM]; exact w_120) rfl (by decide +kernel) rfl rfl hmn hM hla d kk
theorem w_100 : Cond.fieldLink "StrawMap$Text" 9 "StrawMap$Text" "letters" "[C" ∈ lwT := inT 100 (by decide +kernel) rfl
theorem gf_X5_9 {a b n : Nat} (hM : M.1.cls = RX5) (hla : lay a = (6, n)) (d : decode M.2.1 pc = .ok (.getfield 9, 3)) (hb : r a 1 = some b) (kk : St E M (pc + 3) l (.ref b :: st) κ N lay r h) : St E M pc l (.ref a :: st) κ N lay r h := rg_getR (k := 5) (j := 1) (C := RX5) (T := TX5) (Nf := 4) rfl inT_X5 (by decide) rfl (by decide) rfl (by rw [hM]; exact w_100) hla d hb kk
theorem pf_X5_9 {a b n : Nat} (hM : M.1.cls = RX5) (hmn : M.1.name = "<init>") (hla : lay a = (6, n)) (d : decode M.2.1 pc = .ok (.putfield 9, 3)) (kk : St E M (pc + 3) l st κ N lay (rr r a (rup (r a) 1 (some b))) h) : St E M pc l (.ref b :: .ref a :: st) κ N lay r h := rg_putF (k := 5) (j := 1) (ft := tyX5 1) (C := RX5) (T := TX5) (Nf := 4) (ty0 := tyX5) rfl inT_X5 tyX5_ok nmX5 (by decide) rfl (by decide) rfl (by rw [hM]; exact w_100) rfl (by decide +kernel) rfl rfl hmn hM hla d kk
theorem w_102 : Cond.fieldLink "StrawMap$Text" 15 "StrawMap$Text" "numbers" "[I" ∈ lwT := inT 102 (by decide +kernel) rfl
theorem gf_X5_15 {a b n : Nat} (hM : M.1.cls = RX5) (hla : lay a = (6, n)) (d : decode M.2.1 pc = .ok (.getfield 15, 3)) (hb : r a 3 = some b) (kk : St E M (pc + 3) l (.ref b :: st) κ N lay r h) : St E M pc l (.ref a :: st) κ N lay r h := rg_getR (k := 5) (j := 3) (C := RX5) (T := TX5) (Nf := 4) rfl inT_X5 (by decide) rfl (by decide) rfl (by rw [hM]; exact w_102) hla d hb kk
theorem pf_X5_15 {a b n : Nat} (hM : M.1.cls = RX5) (hmn : M.1.name = "<init>") (hla : lay a = (6, n)) (d : decode M.2.1 pc = .ok (.putfield 15, 3)) (kk : St E M (pc + 3) l st κ N lay (rr r a (rup (r a) 3 (some b))) h) : St E M pc l (.ref b :: .ref a :: st) κ N lay r h := rg_putF (k := 5) (j := 3) (ft := tyX5 3) (C := RX5) (T := TX5) (Nf := 4) (ty0 := tyX5) rfl inT_X5 tyX5_ok nmX5 (by decide) rfl (by decide) rfl (by rw [hM]; exact w_102) rfl (by decide +kernel) rfl rfl hmn hM hla d kk
theorem w_99 : Cond.fieldLink "StrawMap$Text" 19 "StrawMap$Text" "length" "I" ∈ lwT := inT 99 (by decide +kernel) rfl
theorem gf_X5_19 {a n : Nat} (hM : M.1.cls = RX5) (hla : lay a = (6, n)) (d : decode M.2.1 pc = .ok (.getfield 19, 3)) (kk : -2147483648 ≤ h a 0 ∧ h a 0 < 2147483648 → St E M (pc + 3) l (vI (h a 0) :: st) κ N lay r h) : St E M pc l (.ref a :: st) κ N lay r h := rg_getI (k := 5) (j := 0) (C := RX5) (T := TX5) (Nf := 4) rfl inT_X5 (by decide) rfl (by decide) rfl (by rw [hM]; exact w_99) hla d kk
theorem pf_X5_19 {a n : Nat} {z : Int} (hM : M.1.cls = RX5) (hla : lay a = (6, n)) (d : decode M.2.1 pc = .ok (.putfield 19, 3)) (hz : -2147483648 ≤ z ∧ z < 2147483648) (kk : St E M (pc + 3) l st κ N lay r (hr h a (up (h a) 0 z))) : St E M pc l (vI z :: .ref a :: st) κ N lay r h := rg_putI (k := 5) (j := 0) (C := RX5) (T := TX5) (Nf := 4) (ty0 := tyX5) rfl inT_X5 tyX5_ok nmX5 (by decide) rfl (by decide) rfl (by rw [hM]; exact w_99) rfl (by decide +kernel) hla d hz kk
theorem w_101 : Cond.fieldLink "StrawMap$Text" 28 "StrawMap$Text" "at" "I" ∈ lwT := inT 101 (by decide +kernel) rfl
theorem gf_X5_28 {a n : Nat} (hM : M.1.cls = RX5) (hla : lay a = (6, n)) (d : decode M.2.1 pc = .ok (.getfield 28, 3)) (kk : -2147483648 ≤ h a 2 ∧ h a 2 < 2147483648 → St E M (pc + 3) l (vI (h a 2) :: st) κ N lay r h) : St E M pc l (.ref a :: st) κ N lay r h := rg_getI (k := 5) (j := 2) (C := RX5) (T := TX5) (Nf := 4) rfl inT_X5 (by decide) rfl (by decide) rfl (by rw [hM]; exact w_101) hla d kk
theorem pf_X5_28 {a n : Nat} {z : Int} (hM : M.1.cls = RX5) (hla : lay a = (6, n)) (d : decode M.2.1 pc = .ok (.putfield 28, 3)) (hz : -2147483648 ≤ z ∧ z < 2147483648) (kk : St E M (pc + 3) l st κ N lay r (hr h a (up (h a) 2 z))) : St E M pc l (vI z :: .ref a :: st) κ N lay r h := rg_putI (k := 5) (j := 2) (C := RX5) (T := TX5) (Nf := 4) (ty0 := tyX5) rfl inT_X5 tyX5_ok nmX5 (by decide) rfl (by decide) rfl (by rw [hM]; exact w_101) rfl (by decide +kernel) hla d hz kk
theorem w_198 : Cond.fieldLink "StrawMap$Text" 59 "StrawMap$Plan" "tree" "LStrawMap$Tree;" ∈ lwT := inT 198 (by decide +kernel) rfl
theorem gf_X5_59 {a b n : Nat} (hM : M.1.cls = RX5) (hla : lay a = (4, n)) (d : decode M.2.1 pc = .ok (.getfield 59, 3)) (hb : r a 0 = some b) (kk : St E M (pc + 3) l (.ref b :: st) κ N lay r h) : St E M pc l (.ref a :: st) κ N lay r h := rg_getR (k := 3) (j := 0) (C := RX3) (T := TX3) (Nf := 12) rfl inT_X3 (by decide) rfl (by decide) rfl (by rw [hM]; exact w_198) hla d hb kk
theorem w_138 : Cond.fieldLink "StrawMap$Text" 68 "StrawMap$Tree" "halls" "I" ∈ lwT := inT 138 (by decide +kernel) rfl
theorem gf_X5_68 {a n : Nat} (hM : M.1.cls = RX5) (hla : lay a = (7, n)) (d : decode M.2.1 pc = .ok (.getfield 68, 3)) (kk : -2147483648 ≤ h a 0 ∧ h a 0 < 2147483648 → St E M (pc + 3) l (vI (h a 0) :: st) κ N lay r h) : St E M pc l (.ref a :: st) κ N lay r h := rg_getI (k := 6) (j := 0) (C := RX6) (T := TX6) (Nf := 5) rfl inT_X6 (by decide) rfl (by decide) rfl (by rw [hM]; exact w_138) hla d kk
theorem w_141 : Cond.fieldLink "StrawMap$Text" 77 "StrawMap$Tree" "racks" "I" ∈ lwT := inT 141 (by decide +kernel) rfl
theorem gf_X5_77 {a n : Nat} (hM : M.1.cls = RX5) (hla : lay a = (7, n)) (d : decode M.2.1 pc = .ok (.getfield 77, 3)) (kk : -2147483648 ≤ h a 1 ∧ h a 1 < 2147483648 → St E M (pc + 3) l (vI (h a 1) :: st) κ N lay r h) : St E M pc l (.ref a :: st) κ N lay r h := rg_getI (k := 6) (j := 1) (C := RX6) (T := TX6) (Nf := 5) rfl inT_X6 (by decide) rfl (by decide) rfl (by rw [hM]; exact w_141) hla d kk
theorem w_214 : Cond.fieldLink "StrawMap$Text" 91 "StrawMap$Plan" "tries" "I" ∈ lwT := inT 214 (by decide +kernel) rfl
theorem pf_X5_91 {a n : Nat} {z : Int} (hM : M.1.cls = RX5) (hla : lay a = (4, n)) (d : decode M.2.1 pc = .ok (.putfield 91, 3)) (hz : -2147483648 ≤ z ∧ z < 2147483648) (kk : St E M (pc + 3) l st κ N lay r (hr h a (up (h a) 8 z))) : St E M pc l (vI z :: .ref a :: st) κ N lay r h := rg_putI (k := 3) (j := 8) (C := RX3) (T := TX3) (Nf := 12) (ty0 := tyX3) rfl inT_X3 tyX3_ok nmX3 (by decide) rfl (by decide) rfl (by rw [hM]; exact w_214) rfl (by decide +kernel) hla d hz kk
theorem w_146 : Cond.fieldLink "StrawMap$Tree" 9 "StrawMap$Tree" "above" "[I" ∈ lwT := inT 146 (by decide +kernel) rfl
theorem gf_X6_9 {a b n : Nat} (hM : M.1.cls = RX6) (hla : lay a = (7, n)) (d : decode M.2.1 pc = .ok (.getfield 9, 3)) (hb : r a 3 = some b) (kk : St E M (pc + 3) l (.ref b :: st) κ N lay r h) : St E M pc l (.ref a :: st) κ N lay r h := rg_getR (k := 6) (j := 3) (C := RX6) (T := TX6) (Nf := 5) rfl inT_X6 (by decide) rfl (by decide) rfl (by rw [hM]; exact w_146) hla d hb kk
theorem pf_X6_9 {a b n : Nat} (hM : M.1.cls = RX6) (hmn : M.1.name = "<init>") (hla : lay a = (7, n)) (d : decode M.2.1 pc = .ok (.putfield 9, 3)) (kk : St E M (pc + 3) l st κ N lay (rr r a (rup (r a) 3 (some b))) h) : St E M pc l (.ref b :: .ref a :: st) κ N lay r h := rg_putF (k := 6) (j := 3) (ft := tyX6 3) (C := RX6) (T := TX6) (Nf := 5) (ty0 := tyX6) rfl inT_X6 tyX6_ok nmX6 (by decide) rfl (by decide) rfl (by rw [hM]; exact w_146) rfl (by decide +kernel) rfl rfl hmn hM hla d kk
theorem w_149 : Cond.fieldLink "StrawMap$Tree" 15 "StrawMap$Tree" "weight" "[I" ∈ lwT := inT 149 (by decide +kernel) rfl
theorem gf_X6_15 {a b n : Nat} (hM : M.1.cls = RX6) (hla : lay a = (7, n)) (d : decode M.2.1 pc = .ok (.getfield 15, 3)) (hb : r a 4 = some b) (kk : St E M (pc + 3) l (.ref b :: st) κ N lay r h) : St E M pc l (.ref a :: st) κ N lay r h := rg_getR (k := 6) (j := 4) (C := RX6) (T := TX6) (Nf := 5) rfl inT_X6 (by decide) rfl (by decide) rfl (by rw [hM]; exact w_149) hla d hb kk
theorem pf_X6_15 {a b n : Nat} (hM : M.1.cls = RX6) (hmn : M.1.name = "<init>") (hla : lay a = (7, n)) (d : decode M.2.1 pc = .ok (.putfield 15, 3)) (kk : St E M (pc + 3) l st κ N lay (rr r a (rup (r a) 4 (some b))) h) : St E M pc l (.ref b :: .ref a :: st) κ N lay r h := rg_putF (k := 6) (j := 4) (ft := tyX6 4) (C := RX6) (T := TX6) (Nf := 5) (ty0 := tyX6) rfl inT_X6 tyX6_ok nmX6 (by decide) rfl (by decide) rfl (by rw [hM]; exact w_149) rfl (by decide +kernel) rfl rfl hmn hM hla d kk
theorem w_137 : Cond.fieldLink "StrawMap$Tree" 18 "StrawMap$Tree" "halls" "I" ∈ lwT := inT 137 (by decide +kernel) rfl
theorem gf_X6_18 {a n : Nat} (hM : M.1.cls = RX6) (hla : lay a = (7, n)) (d : decode M.2.1 pc = .ok (.getfield 18, 3)) (kk : -2147483648 ≤ h a 0 ∧ h a 0 < 2147483648 → St E M (pc + 3) l (vI (h a 0) :: st) κ N lay r h) : St E M pc l (.ref a :: st) κ N lay r h := rg_getI (k := 6) (j := 0) (C := RX6) (T := TX6) (Nf := 5) rfl inT_X6 (by decide) rfl (by decide) rfl (by rw [hM]; exact w_137) hla d kk
theorem pf_X6_18 {a n : Nat} {z : Int} (hM : M.1.cls = RX6) (hla : lay a = (7, n)) (d : decode M.2.1 pc = .ok (.putfield 18, 3)) (hz : -2147483648 ≤ z ∧ z < 2147483648) (kk : St E M (pc + 3) l st κ N lay r (hr h a (up (h a) 0 z))) : St E M pc l (vI z :: .ref a :: st) κ N lay r h := rg_putI (k := 6) (j := 0) (C := RX6) (T := TX6) (Nf := 5) (ty0 := tyX6) rfl inT_X6 tyX6_ok nmX6 (by decide) rfl (by decide) rfl (by rw [hM]; exact w_137) rfl (by decide +kernel) hla d hz kk
theorem w_140 : Cond.fieldLink "StrawMap$Tree" 22 "StrawMap$Tree" "racks" "I" ∈ lwT := inT 140 (by decide +kernel) rfl
theorem gf_X6_22 {a n : Nat} (hM : M.1.cls = RX6) (hla : lay a = (7, n)) (d : decode M.2.1 pc = .ok (.getfield 22, 3)) (kk : -2147483648 ≤ h a 1 ∧ h a 1 < 2147483648 → St E M (pc + 3) l (vI (h a 1) :: st) κ N lay r h) : St E M pc l (.ref a :: st) κ N lay r h := rg_getI (k := 6) (j := 1) (C := RX6) (T := TX6) (Nf := 5) rfl inT_X6 (by decide) rfl (by decide) rfl (by rw [hM]; exact w_140) hla d kk
theorem pf_X6_22 {a n : Nat} {z : Int} (hM : M.1.cls = RX6) (hla : lay a = (7, n)) (d : decode M.2.1 pc = .ok (.putfield 22, 3)) (hz : -2147483648 ≤ z ∧ z < 2147483648) (kk : St E M (pc + 3) l st κ N lay r (hr h a (up (h a) 1 z))) : St E M pc l (vI z :: .ref a :: st) κ N lay r h := rg_putI (k := 6) (j := 1) (C := RX6) (T := TX6) (Nf := 5) (ty0 := tyX6) rfl inT_X6 tyX6_ok nmX6 (by decide) rfl (by decide) rfl (by rw [hM]; exact w_140) rfl (by decide +kernel) hla d hz kk
theorem w_143 : Cond.fieldLink "StrawMap$Tree" 25 "StrawMap$Tree" "disks" "I" ∈ lwT := inT 143 (by decide +kernel) rfl
theorem gf_X6_25 {a n : Nat} (hM : M.1.cls = RX6) (hla : lay a = (7, n)) (d : decode M.2.1 pc = .ok (.getfield 25, 3)) (kk : -2147483648 ≤ h a 2 ∧ h a 2 < 2147483648 → St E M (pc + 3) l (vI (h a 2) :: st) κ N lay r h) : St E M pc l (.ref a :: st) κ N lay r h := rg_getI (k := 6) (j := 2) (C := RX6) (T := TX6) (Nf := 5) rfl inT_X6 (by decide) rfl (by decide) rfl (by rw [hM]; exact w_143) hla d kk
theorem pf_X6_25 {a n : Nat} {z : Int} (hM : M.1.cls = RX6) (hla : lay a = (7, n)) (d : decode M.2.1 pc = .ok (.putfield 25, 3)) (hz : -2147483648 ≤ z ∧ z < 2147483648) (kk : St E M (pc + 3) l st κ N lay r (hr h a (up (h a) 2 z))) : St E M pc l (vI z :: .ref a :: st) κ N lay r h := rg_putI (k := 6) (j := 2) (C := RX6) (T := TX6) (Nf := 5) (ty0 := tyX6) rfl inT_X6 tyX6_ok nmX6 (by decide) rfl (by decide) rfl (by rw [hM]; exact w_143) rfl (by decide +kernel) hla d hz kk
theorem w_526 : Cond.fieldLink "StrawMap" 10 "StrawMap" "text" "LStrawMap$Text;" ∈ lwT := inT 526 (by decide +kernel) rfl
theorem gf_X7_10 {a b n : Nat} (hM : M.1.cls = RX7) (hla : lay a = (8, n)) (d : decode M.2.1 pc = .ok (.getfield 10, 3)) (hb : r a 0 = some b) (kk : St E M (pc + 3) l (.ref b :: st) κ N lay r h) : St E M pc l (.ref a :: st) κ N lay r h := rg_getR (k := 7) (j := 0) (C := RX7) (T := TX7) (Nf := 9) rfl inT_X7 (by decide) rfl (by decide) rfl (by rw [hM]; exact w_526) hla d hb kk
theorem pf_X7_10 {a b n : Nat} (hM : M.1.cls = RX7) (hmn : M.1.name = "<init>") (hla : lay a = (8, n)) (d : decode M.2.1 pc = .ok (.putfield 10, 3)) (kk : St E M (pc + 3) l st κ N lay (rr r a (rup (r a) 0 (some b))) h) : St E M pc l (.ref b :: .ref a :: st) κ N lay r h := rg_putF (k := 7) (j := 0) (ft := tyX7 0) (C := RX7) (T := TX7) (Nf := 9) (ty0 := tyX7) rfl inT_X7 tyX7_ok nmX7 (by decide) rfl (by decide) rfl (by rw [hM]; exact w_526) rfl (by decide +kernel) rfl rfl hmn hM hla d kk
theorem w_527 : Cond.fieldLink "StrawMap" 19 "StrawMap" "straws" "LStrawMap$Straws;" ∈ lwT := inT 527 (by decide +kernel) rfl
theorem gf_X7_19 {a b n : Nat} (hM : M.1.cls = RX7) (hla : lay a = (8, n)) (d : decode M.2.1 pc = .ok (.getfield 19, 3)) (hb : r a 1 = some b) (kk : St E M (pc + 3) l (.ref b :: st) κ N lay r h) : St E M pc l (.ref a :: st) κ N lay r h := rg_getR (k := 7) (j := 1) (C := RX7) (T := TX7) (Nf := 9) rfl inT_X7 (by decide) rfl (by decide) rfl (by rw [hM]; exact w_527) hla d hb kk
theorem pf_X7_19 {a b n : Nat} (hM : M.1.cls = RX7) (hmn : M.1.name = "<init>") (hla : lay a = (8, n)) (d : decode M.2.1 pc = .ok (.putfield 19, 3)) (kk : St E M (pc + 3) l st κ N lay (rr r a (rup (r a) 1 (some b))) h) : St E M pc l (.ref b :: .ref a :: st) κ N lay r h := rg_putF (k := 7) (j := 1) (ft := tyX7 1) (C := RX7) (T := TX7) (Nf := 9) (ty0 := tyX7) rfl inT_X7 tyX7_ok nmX7 (by decide) rfl (by decide) rfl (by rw [hM]; exact w_527) rfl (by decide +kernel) rfl rfl hmn hM hla d kk
theorem w_528 : Cond.fieldLink "StrawMap" 25 "StrawMap" "latest" "[LStrawMap$Plan;" ∈ lwT := inT 528 (by decide +kernel) rfl
theorem gf_X7_25 {a b n : Nat} (hM : M.1.cls = RX7) (hla : lay a = (8, n)) (d : decode M.2.1 pc = .ok (.getfield 25, 3)) (hb : r a 2 = some b) (kk : St E M (pc + 3) l (.ref b :: st) κ N lay r h) : St E M pc l (.ref a :: st) κ N lay r h := rg_getR (k := 7) (j := 2) (C := RX7) (T := TX7) (Nf := 9) rfl inT_X7 (by decide) rfl (by decide) rfl (by rw [hM]; exact w_528) hla d hb kk
theorem pf_X7_25 {a b n : Nat} (hM : M.1.cls = RX7) (hmn : M.1.name = "<init>") (hla : lay a = (8, n)) (d : decode M.2.1 pc = .ok (.putfield 25, 3)) (kk : St E M (pc + 3) l st κ N lay (rr r a (rup (r a) 2 (some b))) h) : St E M pc l (.ref b :: .ref a :: st) κ N lay r h := rg_putF (k := 7) (j := 2) (ft := tyX7 2) (C := RX7) (T := TX7) (Nf := 9) (ty0 := tyX7) rfl inT_X7 tyX7_ok nmX7 (by decide) rfl (by decide) rfl (by rw [hM]; exact w_528) rfl (by decide +kernel) rfl rfl hmn hM hla d kk
theorem w_529 : Cond.fieldLink "StrawMap" 30 "StrawMap" "trial" "LStrawMap$Plan;" ∈ lwT := inT 529 (by decide +kernel) rfl
theorem gf_X7_30 {a b n : Nat} (hM : M.1.cls = RX7) (hla : lay a = (8, n)) (d : decode M.2.1 pc = .ok (.getfield 30, 3)) (hb : r a 3 = some b) (kk : St E M (pc + 3) l (.ref b :: st) κ N lay r h) : St E M pc l (.ref a :: st) κ N lay r h := rg_getR (k := 7) (j := 3) (C := RX7) (T := TX7) (Nf := 9) rfl inT_X7 (by decide) rfl (by decide) rfl (by rw [hM]; exact w_529) hla d hb kk
theorem pf_X7_30 {a b n : Nat} (hM : M.1.cls = RX7) (hmn : M.1.name = "<init>") (hla : lay a = (8, n)) (d : decode M.2.1 pc = .ok (.putfield 30, 3)) (kk : St E M (pc + 3) l st κ N lay (rr r a (rup (r a) 3 (some b))) h) : St E M pc l (.ref b :: .ref a :: st) κ N lay r h := rg_putF (k := 7) (j := 3) (ft := tyX7 3) (C := RX7) (T := TX7) (Nf := 9) (ty0 := tyX7) rfl inT_X7 tyX7_ok nmX7 (by decide) rfl (by decide) rfl (by rw [hM]; exact w_529) rfl (by decide +kernel) rfl rfl hmn hM hla d kk
theorem w_530 : Cond.fieldLink "StrawMap" 37 "StrawMap" "data" "LStrawMap$Data;" ∈ lwT := inT 530 (by decide +kernel) rfl
theorem gf_X7_37 {a b n : Nat} (hM : M.1.cls = RX7) (hla : lay a = (8, n)) (d : decode M.2.1 pc = .ok (.getfield 37, 3)) (hb : r a 4 = some b) (kk : St E M (pc + 3) l (.ref b :: st) κ N lay r h) : St E M pc l (.ref a :: st) κ N lay r h := rg_getR (k := 7) (j := 4) (C := RX7) (T := TX7) (Nf := 9) rfl inT_X7 (by decide) rfl (by decide) rfl (by rw [hM]; exact w_530) hla d hb kk
theorem pf_X7_37 {a b n : Nat} (hM : M.1.cls = RX7) (hmn : M.1.name = "<init>") (hla : lay a = (8, n)) (d : decode M.2.1 pc = .ok (.putfield 37, 3)) (kk : St E M (pc + 3) l st κ N lay (rr r a (rup (r a) 4 (some b))) h) : St E M pc l (.ref b :: .ref a :: st) κ N lay r h := rg_putF (k := 7) (j := 4) (ft := tyX7 4) (C := RX7) (T := TX7) (Nf := 9) (ty0 := tyX7) rfl inT_X7 tyX7_ok nmX7 (by decide) rfl (by decide) rfl (by rw [hM]; exact w_530) rfl (by decide +kernel) rfl rfl hmn hM hla d kk
theorem w_531 : Cond.fieldLink "StrawMap" 41 "StrawMap" "rehearsal" "LStrawMap$Data;" ∈ lwT := inT 531 (by decide +kernel) rfl
theorem gf_X7_41 {a b n : Nat} (hM : M.1.cls = RX7) (hla : lay a = (8, n)) (d : decode M.2.1 pc = .ok (.getfield 41, 3)) (hb : r a 5 = some b) (kk : St E M (pc + 3) l (.ref b :: st) κ N lay r h) : St E M pc l (.ref a :: st) κ N lay r h := rg_getR (k := 7) (j := 5) (C := RX7) (T := TX7) (Nf := 9) rfl inT_X7 (by decide) rfl (by decide) rfl (by rw [hM]; exact w_531) hla d hb kk
theorem pf_X7_41 {a b n : Nat} (hM : M.1.cls = RX7) (hmn : M.1.name = "<init>") (hla : lay a = (8, n)) (d : decode M.2.1 pc = .ok (.putfield 41, 3)) (kk : St E M (pc + 3) l st κ N lay (rr r a (rup (r a) 5 (some b))) h) : St E M pc l (.ref b :: .ref a :: st) κ N lay r h := rg_putF (k := 7) (j := 5) (ft := tyX7 5) (C := RX7) (T := TX7) (Nf := 9) (ty0 := tyX7) rfl inT_X7 tyX7_ok nmX7 (by decide) rfl (by decide) rfl (by rw [hM]; exact w_531) rfl (by decide +kernel) rfl rfl hmn hM hla d kk
theorem w_532 : Cond.fieldLink "StrawMap" 47 "StrawMap" "observations" "LStrawMap$Observations;" ∈ lwT := inT 532 (by decide +kernel) rfl
theorem gf_X7_47 {a b n : Nat} (hM : M.1.cls = RX7) (hla : lay a = (8, n)) (d : decode M.2.1 pc = .ok (.getfield 47, 3)) (hb : r a 6 = some b) (kk : St E M (pc + 3) l (.ref b :: st) κ N lay r h) : St E M pc l (.ref a :: st) κ N lay r h := rg_getR (k := 7) (j := 6) (C := RX7) (T := TX7) (Nf := 9) rfl inT_X7 (by decide) rfl (by decide) rfl (by rw [hM]; exact w_532) hla d hb kk
theorem pf_X7_47 {a b n : Nat} (hM : M.1.cls = RX7) (hmn : M.1.name = "<init>") (hla : lay a = (8, n)) (d : decode M.2.1 pc = .ok (.putfield 47, 3)) (kk : St E M (pc + 3) l st κ N lay (rr r a (rup (r a) 6 (some b))) h) : St E M pc l (.ref b :: .ref a :: st) κ N lay r h := rg_putF (k := 7) (j := 6) (ft := tyX7 6) (C := RX7) (T := TX7) (Nf := 9) (ty0 := tyX7) rfl inT_X7 tyX7_ok nmX7 (by decide) rfl (by decide) rfl (by rw [hM]; exact w_532) rfl (by decide +kernel) rfl rfl hmn hM hla d kk
theorem w_533 : Cond.fieldLink "StrawMap" 51 "StrawMap" "present" "LStrawMap$Plan;" ∈ lwT := inT 533 (by decide +kernel) rfl
theorem gf_X7_51 {a b n : Nat} (hM : M.1.cls = RX7) (hla : lay a = (8, n)) (d : decode M.2.1 pc = .ok (.getfield 51, 3)) (hb : r a 7 = some b) (kk : St E M (pc + 3) l (.ref b :: st) κ N lay r h) : St E M pc l (.ref a :: st) κ N lay r h := rg_getR (k := 7) (j := 7) (C := RX7) (T := TX7) (Nf := 9) rfl inT_X7 (by decide) rfl (by decide) rfl (by rw [hM]; exact w_533) hla d hb kk
theorem pf_X7_51 {a b n : Nat} (hM : M.1.cls = RX7) (hla : lay a = (8, n)) (d : decode M.2.1 pc = .ok (.putfield 51, 3)) (kk : St E M (pc + 3) l st κ N lay (rr r a (rup (r a) 7 (some b))) h) : St E M pc l (.ref b :: .ref a :: st) κ N lay r h := rg_putR (k := 7) (j := 7) (cn := "StrawMap$Plan") (C := RX7) (T := TX7) (Nf := 9) (ty0 := tyX7) rfl inT_X7 tyX7_ok nmX7 (by decide) rfl (by decide) rfl (by rw [hM]; exact w_533) rfl (by decide +kernel) hla d kk
theorem w_98 : Cond.fieldLink "StrawMap" 81 "StrawMap$Text" "length" "I" ∈ lwT := inT 98 (by decide +kernel) rfl
theorem gf_X7_81 {a n : Nat} (hM : M.1.cls = RX7) (hla : lay a = (6, n)) (d : decode M.2.1 pc = .ok (.getfield 81, 3)) (kk : -2147483648 ≤ h a 0 ∧ h a 0 < 2147483648 → St E M (pc + 3) l (vI (h a 0) :: st) κ N lay r h) : St E M pc l (.ref a :: st) κ N lay r h := rg_getI (k := 5) (j := 0) (C := RX5) (T := TX5) (Nf := 4) rfl inT_X5 (by decide) rfl (by decide) rfl (by rw [hM]; exact w_98) hla d kk
theorem pf_X7_81 {a n : Nat} {z : Int} (hM : M.1.cls = RX7) (hla : lay a = (6, n)) (d : decode M.2.1 pc = .ok (.putfield 81, 3)) (hz : -2147483648 ≤ z ∧ z < 2147483648) (kk : St E M (pc + 3) l st κ N lay r (hr h a (up (h a) 0 z))) : St E M pc l (vI z :: .ref a :: st) κ N lay r h := rg_putI (k := 5) (j := 0) (C := RX5) (T := TX5) (Nf := 4) (ty0 := tyX5) rfl inT_X5 tyX5_ok nmX5 (by decide) rfl (by decide) rfl (by rw [hM]; exact w_98) rfl (by decide +kernel) hla d hz kk
theorem w_197 : Cond.fieldLink "StrawMap" 84 "StrawMap$Plan" "tree" "LStrawMap$Tree;" ∈ lwT := inT 197 (by decide +kernel) rfl
theorem gf_X7_84 {a b n : Nat} (hM : M.1.cls = RX7) (hla : lay a = (4, n)) (d : decode M.2.1 pc = .ok (.getfield 84, 3)) (hb : r a 0 = some b) (kk : St E M (pc + 3) l (.ref b :: st) κ N lay r h) : St E M pc l (.ref a :: st) κ N lay r h := rg_getR (k := 3) (j := 0) (C := RX3) (T := TX3) (Nf := 12) rfl inT_X3 (by decide) rfl (by decide) rfl (by rw [hM]; exact w_197) hla d hb kk
theorem w_144 : Cond.fieldLink "StrawMap" 88 "StrawMap$Tree" "disks" "I" ∈ lwT := inT 144 (by decide +kernel) rfl
theorem gf_X7_88 {a n : Nat} (hM : M.1.cls = RX7) (hla : lay a = (7, n)) (d : decode M.2.1 pc = .ok (.getfield 88, 3)) (kk : -2147483648 ≤ h a 2 ∧ h a 2 < 2147483648 → St E M (pc + 3) l (vI (h a 2) :: st) κ N lay r h) : St E M pc l (.ref a :: st) κ N lay r h := rg_getI (k := 6) (j := 2) (C := RX6) (T := TX6) (Nf := 5) rfl inT_X6 (by decide) rfl (by decide) rfl (by rw [hM]; exact w_144) hla d kk
theorem w_150 : Cond.fieldLink "StrawMap" 100 "StrawMap$Tree" "weight" "[I" ∈ lwT := inT 150 (by decide +kernel) rfl
theorem gf_X7_100 {a b n : Nat} (hM : M.1.cls = RX7) (hla : lay a = (7, n)) (d : decode M.2.1 pc = .ok (.getfield 100, 3)) (hb : r a 4 = some b) (kk : St E M (pc + 3) l (.ref b :: st) κ N lay r h) : St E M pc l (.ref a :: st) κ N lay r h := rg_getR (k := 6) (j := 4) (C := RX6) (T := TX6) (Nf := 5) rfl inT_X6 (by decide) rfl (by decide) rfl (by rw [hM]; exact w_150) hla d hb kk
theorem w_147 : Cond.fieldLink "StrawMap" 104 "StrawMap$Tree" "above" "[I" ∈ lwT := inT 147 (by decide +kernel) rfl
theorem gf_X7_104 {a b n : Nat} (hM : M.1.cls = RX7) (hla : lay a = (7, n)) (d : decode M.2.1 pc = .ok (.getfield 104, 3)) (hb : r a 3 = some b) (kk : St E M (pc + 3) l (.ref b :: st) κ N lay r h) : St E M pc l (.ref a :: st) κ N lay r h := rg_getR (k := 6) (j := 3) (C := RX6) (T := TX6) (Nf := 5) rfl inT_X6 (by decide) rfl (by decide) rfl (by rw [hM]; exact w_147) hla d hb kk
theorem w_204 : Cond.fieldLink "StrawMap" 111 "StrawMap$Plan" "reweight" "[I" ∈ lwT := inT 204 (by decide +kernel) rfl
theorem gf_X7_111 {a b n : Nat} (hM : M.1.cls = RX7) (hla : lay a = (4, n)) (d : decode M.2.1 pc = .ok (.getfield 111, 3)) (hb : r a 3 = some b) (kk : St E M (pc + 3) l (.ref b :: st) κ N lay r h) : St E M pc l (.ref a :: st) κ N lay r h := rg_getR (k := 3) (j := 3) (C := RX3) (T := TX3) (Nf := 12) rfl inT_X3 (by decide) rfl (by decide) rfl (by rw [hM]; exact w_204) hla d hb kk
theorem w_202 : Cond.fieldLink "StrawMap" 117 "StrawMap$Plan" "capacity" "[I" ∈ lwT := inT 202 (by decide +kernel) rfl
theorem gf_X7_117 {a b n : Nat} (hM : M.1.cls = RX7) (hla : lay a = (4, n)) (d : decode M.2.1 pc = .ok (.getfield 117, 3)) (hb : r a 2 = some b) (kk : St E M (pc + 3) l (.ref b :: st) κ N lay r h) : St E M pc l (.ref a :: st) κ N lay r h := rg_getR (k := 3) (j := 2) (C := RX3) (T := TX3) (Nf := 12) rfl inT_X3 (by decide) rfl (by decide) rfl (by rw [hM]; exact w_202) hla d hb kk
theorem w_200 : Cond.fieldLink "StrawMap" 123 "StrawMap$Plan" "diversions" "LStrawMap$Diversions;" ∈ lwT := inT 200 (by decide +kernel) rfl
theorem gf_X7_123 {a b n : Nat} (hM : M.1.cls = RX7) (hla : lay a = (4, n)) (d : decode M.2.1 pc = .ok (.getfield 123, 3)) (hb : r a 1 = some b) (kk : St E M (pc + 3) l (.ref b :: st) κ N lay r h) : St E M pc l (.ref a :: st) κ N lay r h := rg_getR (k := 3) (j := 1) (C := RX3) (T := TX3) (Nf := 12) rfl inT_X3 (by decide) rfl (by decide) rfl (by rw [hM]; exact w_200) hla d hb kk
theorem w_171 : Cond.fieldLink "StrawMap" 127 "StrawMap$Diversions" "number" "I" ∈ lwT := inT 171 (by decide +kernel) rfl
theorem gf_X7_127 {a n : Nat} (hM : M.1.cls = RX7) (hla : lay a = (2, n)) (d : decode M.2.1 pc = .ok (.getfield 127, 3)) (kk : -2147483648 ≤ h a 0 ∧ h a 0 < 2147483648 → St E M (pc + 3) l (vI (h a 0) :: st) κ N lay r h) : St E M pc l (.ref a :: st) κ N lay r h := rg_getI (k := 1) (j := 0) (C := RX1) (T := TX1) (Nf := 5) rfl inT_X1 (by decide) rfl (by decide) rfl (by rw [hM]; exact w_171) hla d kk
theorem w_173 : Cond.fieldLink "StrawMap" 132 "StrawMap$Diversions" "ofGroup" "[I" ∈ lwT := inT 173 (by decide +kernel) rfl
theorem gf_X7_132 {a b n : Nat} (hM : M.1.cls = RX7) (hla : lay a = (2, n)) (d : decode M.2.1 pc = .ok (.getfield 132, 3)) (hb : r a 1 = some b) (kk : St E M (pc + 3) l (.ref b :: st) κ N lay r h) : St E M pc l (.ref a :: st) κ N lay r h := rg_getR (k := 1) (j := 1) (C := RX1) (T := TX1) (Nf := 5) rfl inT_X1 (by decide) rfl (by decide) rfl (by rw [hM]; exact w_173) hla d hb kk
theorem w_176 : Cond.fieldLink "StrawMap" 135 "StrawMap$Diversions" "from" "[I" ∈ lwT := inT 176 (by decide +kernel) rfl
theorem gf_X7_135 {a b n : Nat} (hM : M.1.cls = RX7) (hla : lay a = (2, n)) (d : decode M.2.1 pc = .ok (.getfield 135, 3)) (hb : r a 2 = some b) (kk : St E M (pc + 3) l (.ref b :: st) κ N lay r h) : St E M pc l (.ref a :: st) κ N lay r h := rg_getR (k := 1) (j := 2) (C := RX1) (T := TX1) (Nf := 5) rfl inT_X1 (by decide) rfl (by decide) rfl (by rw [hM]; exact w_176) hla d hb kk
theorem w_179 : Cond.fieldLink "StrawMap" 138 "StrawMap$Diversions" "to" "[I" ∈ lwT := inT 179 (by decide +kernel) rfl
theorem gf_X7_138 {a b n : Nat} (hM : M.1.cls = RX7) (hla : lay a = (2, n)) (d : decode M.2.1 pc = .ok (.getfield 138, 3)) (hb : r a 3 = some b) (kk : St E M (pc + 3) l (.ref b :: st) κ N lay r h) : St E M pc l (.ref a :: st) κ N lay r h := rg_getR (k := 1) (j := 3) (C := RX1) (T := TX1) (Nf := 5) rfl inT_X1 (by decide) rfl (by decide) rfl (by rw [hM]; exact w_179) hla d hb kk
theorem w_182 : Cond.fieldLink "StrawMap" 141 "StrawMap$Diversions" "works" "[I" ∈ lwT := inT 182 (by decide +kernel) rfl
theorem gf_X7_141 {a b n : Nat} (hM : M.1.cls = RX7) (hla : lay a = (2, n)) (d : decode M.2.1 pc = .ok (.getfield 141, 3)) (hb : r a 4 = some b) (kk : St E M (pc + 3) l (.ref b :: st) κ N lay r h) : St E M pc l (.ref a :: st) κ N lay r h := rg_getR (k := 1) (j := 4) (C := RX1) (T := TX1) (Nf := 5) rfl inT_X1 (by decide) rfl (by decide) rfl (by rw [hM]; exact w_182) hla d hb kk
theorem w_259 : Cond.fieldLink "StrawMap" 154 "StrawMap$Data" "holders" "[I" ∈ lwT := inT 259 (by decide +kernel) rfl
theorem gf_X7_154 {a b n : Nat} (hM : M.1.cls = RX7) (hla : lay a = (1, n)) (d : decode M.2.1 pc = .ok (.getfield 154, 3)) (hb : r a 2 = some b) (kk : St E M (pc + 3) l (.ref b :: st) κ N lay r h) : St E M pc l (.ref a :: st) κ N lay r h := rg_getR (k := 0) (j := 2) (C := RX0) (T := TX0) (Nf := 3) rfl inT_X0 (by decide) rfl (by decide) rfl (by rw [hM]; exact w_259) hla d hb kk
theorem w_206 : Cond.fieldLink "StrawMap" 164 "StrawMap$Plan" "fullSet" "I" ∈ lwT := inT 206 (by decide +kernel) rfl
theorem gf_X7_164 {a n : Nat} (hM : M.1.cls = RX7) (hla : lay a = (4, n)) (d : decode M.2.1 pc = .ok (.getfield 164, 3)) (kk : -2147483648 ≤ h a 4 ∧ h a 4 < 2147483648 → St E M (pc + 3) l (vI (h a 4) :: st) κ N lay r h) : St E M pc l (.ref a :: st) κ N lay r h := rg_getI (k := 3) (j := 4) (C := RX3) (T := TX3) (Nf := 12) rfl inT_X3 (by decide) rfl (by decide) rfl (by rw [hM]; exact w_206) hla d kk
theorem pf_X7_164 {a n : Nat} {z : Int} (hM : M.1.cls = RX7) (hla : lay a = (4, n)) (d : decode M.2.1 pc = .ok (.putfield 164, 3)) (hz : -2147483648 ≤ z ∧ z < 2147483648) (kk : St E M (pc + 3) l st κ N lay r (hr h a (up (h a) 4 z))) : St E M pc l (vI z :: .ref a :: st) κ N lay r h := rg_putI (k := 3) (j := 4) (C := RX3) (T := TX3) (Nf := 12) (ty0 := tyX3) rfl inT_X3 tyX3_ok nmX3 (by decide) rfl (by decide) rfl (by rw [hM]; exact w_206) rfl (by decide +kernel) hla d hz kk
theorem w_208 : Cond.fieldLink "StrawMap" 190 "StrawMap$Plan" "copies" "I" ∈ lwT := inT 208 (by decide +kernel) rfl
theorem gf_X7_190 {a n : Nat} (hM : M.1.cls = RX7) (hla : lay a = (4, n)) (d : decode M.2.1 pc = .ok (.getfield 190, 3)) (kk : -2147483648 ≤ h a 5 ∧ h a 5 < 2147483648 → St E M (pc + 3) l (vI (h a 5) :: st) κ N lay r h) : St E M pc l (.ref a :: st) κ N lay r h := rg_getI (k := 3) (j := 5) (C := RX3) (T := TX3) (Nf := 12) rfl inT_X3 (by decide) rfl (by decide) rfl (by rw [hM]; exact w_208) hla d kk
theorem w_210 : Cond.fieldLink "StrawMap" 193 "StrawMap$Plan" "level" "I" ∈ lwT := inT 210 (by decide +kernel) rfl
theorem gf_X7_193 {a n : Nat} (hM : M.1.cls = RX7) (hla : lay a = (4, n)) (d : decode M.2.1 pc = .ok (.getfield 193, 3)) (kk : -2147483648 ≤ h a 6 ∧ h a 6 < 2147483648 → St E M (pc + 3) l (vI (h a 6) :: st) κ N lay r h) : St E M pc l (.ref a :: st) κ N lay r h := rg_getI (k := 3) (j := 6) (C := RX3) (T := TX3) (Nf := 12) rfl inT_X3 (by decide) rfl (by decide) rfl (by rw [hM]; exact w_210) hla d kk
theorem w_212 : Cond.fieldLink "StrawMap" 196 "StrawMap$Plan" "mode" "I" ∈ lwT := inT 212 (by decide +kernel) rfl
theorem gf_X7_196 {a n : Nat} (hM : M.1.cls = RX7) (hla : lay a = (4, n)) (d : decode M.2.1 pc = .ok (.getfield 196, 3)) (kk : -2147483648 ≤ h a 7 ∧ h a 7 < 2147483648 → St E M (pc + 3) l (vI (h a 7) :: st) κ N lay r h) : St E M pc l (.ref a :: st) κ N lay r h := rg_getI (k := 3) (j := 7) (C := RX3) (T := TX3) (Nf := 12) rfl inT_X3 (by decide) rfl (by decide) rfl (by rw [hM]; exact w_212) hla d kk
theorem w_142 : Cond.fieldLink "StrawMap" 205 "StrawMap$Tree" "racks" "I" ∈ lwT := inT 142 (by decide +kernel) rfl
theorem gf_X7_205 {a n : Nat} (hM : M.1.cls = RX7) (hla : lay a = (7, n)) (d : decode M.2.1 pc = .ok (.getfield 205, 3)) (kk : -2147483648 ≤ h a 1 ∧ h a 1 < 2147483648 → St E M (pc + 3) l (vI (h a 1) :: st) κ N lay r h) : St E M pc l (.ref a :: st) κ N lay r h := rg_getI (k := 6) (j := 1) (C := RX6) (T := TX6) (Nf := 5) rfl inT_X6 (by decide) rfl (by decide) rfl (by rw [hM]; exact w_142) hla d kk
theorem w_534 : Cond.fieldLink "StrawMap" 225 "StrawMap" "epoch" "I" ∈ lwT := inT 534 (by decide +kernel) rfl
theorem gf_X7_225 {a n : Nat} (hM : M.1.cls = RX7) (hla : lay a = (8, n)) (d : decode M.2.1 pc = .ok (.getfield 225, 3)) (kk : -2147483648 ≤ h a 8 ∧ h a 8 < 2147483648 → St E M (pc + 3) l (vI (h a 8) :: st) κ N lay r h) : St E M pc l (.ref a :: st) κ N lay r h := rg_getI (k := 7) (j := 8) (C := RX7) (T := TX7) (Nf := 9) rfl inT_X7 (by decide) rfl (by decide) rfl (by rw [hM]; exact w_534) hla d kk
theorem pf_X7_225 {a n : Nat} {z : Int} (hM : M.1.cls = RX7) (hla : lay a = (8, n)) (d : decode M.2.1 pc = .ok (.putfield 225, 3)) (hz : -2147483648 ≤ z ∧ z < 2147483648) (kk : St E M (pc + 3) l st κ N lay r (hr h a (up (h a) 8 z))) : St E M pc l (vI z :: .ref a :: st) κ N lay r h := rg_putI (k := 7) (j := 8) (C := RX7) (T := TX7) (Nf := 9) (ty0 := tyX7) rfl inT_X7 tyX7_ok nmX7 (by decide) rfl (by decide) rfl (by rw [hM]; exact w_534) rfl (by decide +kernel) hla d hz kk
theorem w_218 : Cond.fieldLink "StrawMap" 253 "StrawMap$Plan" "tryOf" "[I" ∈ lwT := inT 218 (by decide +kernel) rfl
theorem gf_X7_253 {a b n : Nat} (hM : M.1.cls = RX7) (hla : lay a = (4, n)) (d : decode M.2.1 pc = .ok (.getfield 253, 3)) (hb : r a 10 = some b) (kk : St E M (pc + 3) l (.ref b :: st) κ N lay r h) : St E M pc l (.ref a :: st) κ N lay r h := rg_getR (k := 3) (j := 10) (C := RX3) (T := TX3) (Nf := 12) rfl inT_X3 (by decide) rfl (by decide) rfl (by rw [hM]; exact w_218) hla d hb kk
theorem w_222 : Cond.fieldLink "StrawMap" 259 "StrawMap$Plan" "placed" "[I" ∈ lwT := inT 222 (by decide +kernel) rfl
theorem gf_X7_259 {a b n : Nat} (hM : M.1.cls = RX7) (hla : lay a = (4, n)) (d : decode M.2.1 pc = .ok (.getfield 259, 3)) (hb : r a 11 = some b) (kk : St E M (pc + 3) l (.ref b :: st) κ N lay r h) : St E M pc l (.ref a :: st) κ N lay r h := rg_getR (k := 3) (j := 11) (C := RX3) (T := TX3) (Nf := 12) rfl inT_X3 (by decide) rfl (by decide) rfl (by rw [hM]; exact w_222) hla d hb kk
theorem w_255 : Cond.fieldLink "StrawMap" 284 "StrawMap$Data" "upSet" "I" ∈ lwT := inT 255 (by decide +kernel) rfl
theorem gf_X7_284 {a n : Nat} (hM : M.1.cls = RX7) (hla : lay a = (1, n)) (d : decode M.2.1 pc = .ok (.getfield 284, 3)) (kk : -2147483648 ≤ h a 0 ∧ h a 0 < 2147483648 → St E M (pc + 3) l (vI (h a 0) :: st) κ N lay r h) : St E M pc l (.ref a :: st) κ N lay r h := rg_getI (k := 0) (j := 0) (C := RX0) (T := TX0) (Nf := 3) rfl inT_X0 (by decide) rfl (by decide) rfl (by rw [hM]; exact w_255) hla d kk
theorem w_257 : Cond.fieldLink "StrawMap" 287 "StrawMap$Data" "size" "[I" ∈ lwT := inT 257 (by decide +kernel) rfl
theorem gf_X7_287 {a b n : Nat} (hM : M.1.cls = RX7) (hla : lay a = (1, n)) (d : decode M.2.1 pc = .ok (.getfield 287, 3)) (hb : r a 1 = some b) (kk : St E M (pc + 3) l (.ref b :: st) κ N lay r h) : St E M pc l (.ref a :: st) κ N lay r h := rg_getR (k := 0) (j := 1) (C := RX0) (T := TX0) (Nf := 3) rfl inT_X0 (by decide) rfl (by decide) rfl (by rw [hM]; exact w_257) hla d hb kk
theorem w_274 : Cond.fieldLink "StrawMap" 316 "StrawMap$Observations" "number" "I" ∈ lwT := inT 274 (by decide +kernel) rfl
theorem gf_X7_316 {a n : Nat} (hM : M.1.cls = RX7) (hla : lay a = (3, n)) (d : decode M.2.1 pc = .ok (.getfield 316, 3)) (kk : -2147483648 ≤ h a 0 ∧ h a 0 < 2147483648 → St E M (pc + 3) l (vI (h a 0) :: st) κ N lay r h) : St E M pc l (.ref a :: st) κ N lay r h := rg_getI (k := 2) (j := 0) (C := RX2) (T := TX2) (Nf := 4) rfl inT_X2 (by decide) rfl (by decide) rfl (by rw [hM]; exact w_274) hla d kk
theorem pf_X7_316 {a n : Nat} {z : Int} (hM : M.1.cls = RX7) (hla : lay a = (3, n)) (d : decode M.2.1 pc = .ok (.putfield 316, 3)) (hz : -2147483648 ≤ z ∧ z < 2147483648) (kk : St E M (pc + 3) l st κ N lay r (hr h a (up (h a) 0 z))) : St E M pc l (vI z :: .ref a :: st) κ N lay r h := rg_putI (k := 2) (j := 0) (C := RX2) (T := TX2) (Nf := 4) (ty0 := tyX2) rfl inT_X2 tyX2_ok nmX2 (by decide) rfl (by decide) rfl (by rw [hM]; exact w_274) rfl (by decide +kernel) hla d hz kk
theorem w_139 : Cond.fieldLink "StrawMap" 327 "StrawMap$Tree" "halls" "I" ∈ lwT := inT 139 (by decide +kernel) rfl
theorem gf_X7_327 {a n : Nat} (hM : M.1.cls = RX7) (hla : lay a = (7, n)) (d : decode M.2.1 pc = .ok (.getfield 327, 3)) (kk : -2147483648 ≤ h a 0 ∧ h a 0 < 2147483648 → St E M (pc + 3) l (vI (h a 0) :: st) κ N lay r h) : St E M pc l (.ref a :: st) κ N lay r h := rg_getI (k := 6) (j := 0) (C := RX6) (T := TX6) (Nf := 5) rfl inT_X6 (by decide) rfl (by decide) rfl (by rw [hM]; exact w_139) hla d kk
theorem w_215 : Cond.fieldLink "StrawMap" 330 "StrawMap$Plan" "tries" "I" ∈ lwT := inT 215 (by decide +kernel) rfl
theorem gf_X7_330 {a n : Nat} (hM : M.1.cls = RX7) (hla : lay a = (4, n)) (d : decode M.2.1 pc = .ok (.getfield 330, 3)) (kk : -2147483648 ≤ h a 8 ∧ h a 8 < 2147483648 → St E M (pc + 3) l (vI (h a 8) :: st) κ N lay r h) : St E M pc l (.ref a :: st) κ N lay r h := rg_getI (k := 3) (j := 8) (C := RX3) (T := TX3) (Nf := 12) rfl inT_X3 (by decide) rfl (by decide) rfl (by rw [hM]; exact w_215) hla d kk
theorem w_1015 : Cond.fieldLink "StrawMapModel" 7 "StrawMapModel" "text" "[I" ∈ lwT := inT 1015 (by decide +kernel) rfl
theorem gf_X8_7 {a b n : Nat} (hM : M.1.cls = RX8) (hla : lay a = (9, n)) (d : decode M.2.1 pc = .ok (.getfield 7, 3)) (hb : r a 1 = some b) (kk : St E M (pc + 3) l (.ref b :: st) κ N lay r h) : St E M pc l (.ref a :: st) κ N lay r h := rg_getR (k := 8) (j := 1) (C := RX8) (T := TX8) (Nf := 25) rfl inT_X8 (by decide) rfl (by decide) rfl (by rw [hM]; exact w_1015) hla d hb kk
theorem pf_X8_7 {a b n : Nat} (hM : M.1.cls = RX8) (hmn : M.1.name = "<init>") (hla : lay a = (9, n)) (d : decode M.2.1 pc = .ok (.putfield 7, 3)) (kk : St E M (pc + 3) l st κ N lay (rr r a (rup (r a) 1 (some b))) h) : St E M pc l (.ref b :: .ref a :: st) κ N lay r h := rg_putF (k := 8) (j := 1) (ft := tyX8 1) (C := RX8) (T := TX8) (Nf := 25) (ty0 := tyX8) rfl inT_X8 tyX8_ok nmX8 (by decide) rfl (by decide) rfl (by rw [hM]; exact w_1015) rfl (by decide +kernel) rfl rfl hmn hM hla d kk
theorem w_1016 : Cond.fieldLink "StrawMapModel" 13 "StrawMapModel" "map" "[I" ∈ lwT := inT 1016 (by decide +kernel) rfl
theorem gf_X8_13 {a b n : Nat} (hM : M.1.cls = RX8) (hla : lay a = (9, n)) (d : decode M.2.1 pc = .ok (.getfield 13, 3)) (hb : r a 2 = some b) (kk : St E M (pc + 3) l (.ref b :: st) κ N lay r h) : St E M pc l (.ref a :: st) κ N lay r h := rg_getR (k := 8) (j := 2) (C := RX8) (T := TX8) (Nf := 25) rfl inT_X8 (by decide) rfl (by decide) rfl (by rw [hM]; exact w_1016) hla d hb kk
theorem pf_X8_13 {a b n : Nat} (hM : M.1.cls = RX8) (hmn : M.1.name = "<init>") (hla : lay a = (9, n)) (d : decode M.2.1 pc = .ok (.putfield 13, 3)) (kk : St E M (pc + 3) l st κ N lay (rr r a (rup (r a) 2 (some b))) h) : St E M pc l (.ref b :: .ref a :: st) κ N lay r h := rg_putF (k := 8) (j := 2) (ft := tyX8 2) (C := RX8) (T := TX8) (Nf := 25) (ty0 := tyX8) rfl inT_X8 tyX8_ok nmX8 (by decide) rfl (by decide) rfl (by rw [hM]; exact w_1016) rfl (by decide +kernel) rfl rfl hmn hM hla d kk
theorem w_1017 : Cond.fieldLink "StrawMapModel" 16 "StrawMapModel" "kept" "[I" ∈ lwT := inT 1017 (by decide +kernel) rfl
theorem gf_X8_16 {a b n : Nat} (hM : M.1.cls = RX8) (hla : lay a = (9, n)) (d : decode M.2.1 pc = .ok (.getfield 16, 3)) (hb : r a 3 = some b) (kk : St E M (pc + 3) l (.ref b :: st) κ N lay r h) : St E M pc l (.ref a :: st) κ N lay r h := rg_getR (k := 8) (j := 3) (C := RX8) (T := TX8) (Nf := 25) rfl inT_X8 (by decide) rfl (by decide) rfl (by rw [hM]; exact w_1017) hla d hb kk
theorem pf_X8_16 {a b n : Nat} (hM : M.1.cls = RX8) (hmn : M.1.name = "<init>") (hla : lay a = (9, n)) (d : decode M.2.1 pc = .ok (.putfield 16, 3)) (kk : St E M (pc + 3) l st κ N lay (rr r a (rup (r a) 3 (some b))) h) : St E M pc l (.ref b :: .ref a :: st) κ N lay r h := rg_putF (k := 8) (j := 3) (ft := tyX8 3) (C := RX8) (T := TX8) (Nf := 25) (ty0 := tyX8) rfl inT_X8 tyX8_ok nmX8 (by decide) rfl (by decide) rfl (by rw [hM]; exact w_1017) rfl (by decide +kernel) rfl rfl hmn hM hla d kk
theorem w_1018 : Cond.fieldLink "StrawMapModel" 19 "StrawMapModel" "keptEpochs" "[I" ∈ lwT := inT 1018 (by decide +kernel) rfl
theorem gf_X8_19 {a b n : Nat} (hM : M.1.cls = RX8) (hla : lay a = (9, n)) (d : decode M.2.1 pc = .ok (.getfield 19, 3)) (hb : r a 4 = some b) (kk : St E M (pc + 3) l (.ref b :: st) κ N lay r h) : St E M pc l (.ref a :: st) κ N lay r h := rg_getR (k := 8) (j := 4) (C := RX8) (T := TX8) (Nf := 25) rfl inT_X8 (by decide) rfl (by decide) rfl (by rw [hM]; exact w_1018) hla d hb kk
theorem pf_X8_19 {a b n : Nat} (hM : M.1.cls = RX8) (hmn : M.1.name = "<init>") (hla : lay a = (9, n)) (d : decode M.2.1 pc = .ok (.putfield 19, 3)) (kk : St E M (pc + 3) l st κ N lay (rr r a (rup (r a) 4 (some b))) h) : St E M pc l (.ref b :: .ref a :: st) κ N lay r h := rg_putF (k := 8) (j := 4) (ft := tyX8 4) (C := RX8) (T := TX8) (Nf := 25) (ty0 := tyX8) rfl inT_X8 tyX8_ok nmX8 (by decide) rfl (by decide) rfl (by rw [hM]; exact w_1018) rfl (by decide +kernel) rfl rfl hmn hM hla d kk
theorem w_1020 : Cond.fieldLink "StrawMapModel" 22 "StrawMapModel" "aside" "[I" ∈ lwT := inT 1020 (by decide +kernel) rfl
theorem gf_X8_22 {a b n : Nat} (hM : M.1.cls = RX8) (hla : lay a = (9, n)) (d : decode M.2.1 pc = .ok (.getfield 22, 3)) (hb : r a 6 = some b) (kk : St E M (pc + 3) l (.ref b :: st) κ N lay r h) : St E M pc l (.ref a :: st) κ N lay r h := rg_getR (k := 8) (j := 6) (C := RX8) (T := TX8) (Nf := 25) rfl inT_X8 (by decide) rfl (by decide) rfl (by rw [hM]; exact w_1020) hla d hb kk
theorem pf_X8_22 {a b n : Nat} (hM : M.1.cls = RX8) (hmn : M.1.name = "<init>") (hla : lay a = (9, n)) (d : decode M.2.1 pc = .ok (.putfield 22, 3)) (kk : St E M (pc + 3) l st κ N lay (rr r a (rup (r a) 6 (some b))) h) : St E M pc l (.ref b :: .ref a :: st) κ N lay r h := rg_putF (k := 8) (j := 6) (ft := tyX8 6) (C := RX8) (T := TX8) (Nf := 25) (ty0 := tyX8) rfl inT_X8 tyX8_ok nmX8 (by decide) rfl (by decide) rfl (by rw [hM]; exact w_1020) rfl (by decide +kernel) rfl rfl hmn hM hla d kk
theorem w_1021 : Cond.fieldLink "StrawMapModel" 25 "StrawMapModel" "told" "[I" ∈ lwT := inT 1021 (by decide +kernel) rfl
theorem gf_X8_25 {a b n : Nat} (hM : M.1.cls = RX8) (hla : lay a = (9, n)) (d : decode M.2.1 pc = .ok (.getfield 25, 3)) (hb : r a 7 = some b) (kk : St E M (pc + 3) l (.ref b :: st) κ N lay r h) : St E M pc l (.ref a :: st) κ N lay r h := rg_getR (k := 8) (j := 7) (C := RX8) (T := TX8) (Nf := 25) rfl inT_X8 (by decide) rfl (by decide) rfl (by rw [hM]; exact w_1021) hla d hb kk
theorem pf_X8_25 {a b n : Nat} (hM : M.1.cls = RX8) (hmn : M.1.name = "<init>") (hla : lay a = (9, n)) (d : decode M.2.1 pc = .ok (.putfield 25, 3)) (kk : St E M (pc + 3) l st κ N lay (rr r a (rup (r a) 7 (some b))) h) : St E M pc l (.ref b :: .ref a :: st) κ N lay r h := rg_putF (k := 8) (j := 7) (ft := tyX8 7) (C := RX8) (T := TX8) (Nf := 25) (ty0 := tyX8) rfl inT_X8 tyX8_ok nmX8 (by decide) rfl (by decide) rfl (by rw [hM]; exact w_1021) rfl (by decide +kernel) rfl rfl hmn hM hla d kk
theorem w_1022 : Cond.fieldLink "StrawMapModel" 28 "StrawMapModel" "wants" "[I" ∈ lwT := inT 1022 (by decide +kernel) rfl
theorem gf_X8_28 {a b n : Nat} (hM : M.1.cls = RX8) (hla : lay a = (9, n)) (d : decode M.2.1 pc = .ok (.getfield 28, 3)) (hb : r a 8 = some b) (kk : St E M (pc + 3) l (.ref b :: st) κ N lay r h) : St E M pc l (.ref a :: st) κ N lay r h := rg_getR (k := 8) (j := 8) (C := RX8) (T := TX8) (Nf := 25) rfl inT_X8 (by decide) rfl (by decide) rfl (by rw [hM]; exact w_1022) hla d hb kk
theorem pf_X8_28 {a b n : Nat} (hM : M.1.cls = RX8) (hmn : M.1.name = "<init>") (hla : lay a = (9, n)) (d : decode M.2.1 pc = .ok (.putfield 28, 3)) (kk : St E M (pc + 3) l st κ N lay (rr r a (rup (r a) 8 (some b))) h) : St E M pc l (.ref b :: .ref a :: st) κ N lay r h := rg_putF (k := 8) (j := 8) (ft := tyX8 8) (C := RX8) (T := TX8) (Nf := 25) (ty0 := tyX8) rfl inT_X8 tyX8_ok nmX8 (by decide) rfl (by decide) rfl (by rw [hM]; exact w_1022) rfl (by decide +kernel) rfl rfl hmn hM hla d kk
theorem w_1023 : Cond.fieldLink "StrawMapModel" 31 "StrawMapModel" "weighs" "[I" ∈ lwT := inT 1023 (by decide +kernel) rfl
theorem gf_X8_31 {a b n : Nat} (hM : M.1.cls = RX8) (hla : lay a = (9, n)) (d : decode M.2.1 pc = .ok (.getfield 31, 3)) (hb : r a 9 = some b) (kk : St E M (pc + 3) l (.ref b :: st) κ N lay r h) : St E M pc l (.ref a :: st) κ N lay r h := rg_getR (k := 8) (j := 9) (C := RX8) (T := TX8) (Nf := 25) rfl inT_X8 (by decide) rfl (by decide) rfl (by rw [hM]; exact w_1023) hla d hb kk
theorem pf_X8_31 {a b n : Nat} (hM : M.1.cls = RX8) (hmn : M.1.name = "<init>") (hla : lay a = (9, n)) (d : decode M.2.1 pc = .ok (.putfield 31, 3)) (kk : St E M (pc + 3) l st κ N lay (rr r a (rup (r a) 9 (some b))) h) : St E M pc l (.ref b :: .ref a :: st) κ N lay r h := rg_putF (k := 8) (j := 9) (ft := tyX8 9) (C := RX8) (T := TX8) (Nf := 25) (ty0 := tyX8) rfl inT_X8 tyX8_ok nmX8 (by decide) rfl (by decide) rfl (by rw [hM]; exact w_1023) rfl (by decide +kernel) rfl rfl hmn hM hla d kk
theorem w_1024 : Cond.fieldLink "StrawMapModel" 34 "StrawMapModel" "copies" "[I" ∈ lwT := inT 1024 (by decide +kernel) rfl
theorem gf_X8_34 {a b n : Nat} (hM : M.1.cls = RX8) (hla : lay a = (9, n)) (d : decode M.2.1 pc = .ok (.getfield 34, 3)) (hb : r a 10 = some b) (kk : St E M (pc + 3) l (.ref b :: st) κ N lay r h) : St E M pc l (.ref a :: st) κ N lay r h := rg_getR (k := 8) (j := 10) (C := RX8) (T := TX8) (Nf := 25) rfl inT_X8 (by decide) rfl (by decide) rfl (by rw [hM]; exact w_1024) hla d hb kk
theorem pf_X8_34 {a b n : Nat} (hM : M.1.cls = RX8) (hmn : M.1.name = "<init>") (hla : lay a = (9, n)) (d : decode M.2.1 pc = .ok (.putfield 34, 3)) (kk : St E M (pc + 3) l st κ N lay (rr r a (rup (r a) 10 (some b))) h) : St E M pc l (.ref b :: .ref a :: st) κ N lay r h := rg_putF (k := 8) (j := 10) (ft := tyX8 10) (C := RX8) (T := TX8) (Nf := 25) (ty0 := tyX8) rfl inT_X8 tyX8_ok nmX8 (by decide) rfl (by decide) rfl (by rw [hM]; exact w_1024) rfl (by decide +kernel) rfl rfl hmn hM hla d kk
theorem w_1025 : Cond.fieldLink "StrawMapModel" 37 "StrawMapModel" "triesOf" "[I" ∈ lwT := inT 1025 (by decide +kernel) rfl
theorem gf_X8_37 {a b n : Nat} (hM : M.1.cls = RX8) (hla : lay a = (9, n)) (d : decode M.2.1 pc = .ok (.getfield 37, 3)) (hb : r a 11 = some b) (kk : St E M (pc + 3) l (.ref b :: st) κ N lay r h) : St E M pc l (.ref a :: st) κ N lay r h := rg_getR (k := 8) (j := 11) (C := RX8) (T := TX8) (Nf := 25) rfl inT_X8 (by decide) rfl (by decide) rfl (by rw [hM]; exact w_1025) hla d hb kk
theorem pf_X8_37 {a b n : Nat} (hM : M.1.cls = RX8) (hmn : M.1.name = "<init>") (hla : lay a = (9, n)) (d : decode M.2.1 pc = .ok (.putfield 37, 3)) (kk : St E M (pc + 3) l st κ N lay (rr r a (rup (r a) 11 (some b))) h) : St E M pc l (.ref b :: .ref a :: st) κ N lay r h := rg_putF (k := 8) (j := 11) (ft := tyX8 11) (C := RX8) (T := TX8) (Nf := 25) (ty0 := tyX8) rfl inT_X8 tyX8_ok nmX8 (by decide) rfl (by decide) rfl (by rw [hM]; exact w_1025) rfl (by decide +kernel) rfl rfl hmn hM hla d kk
theorem w_1026 : Cond.fieldLink "StrawMapModel" 40 "StrawMapModel" "stands" "[I" ∈ lwT := inT 1026 (by decide +kernel) rfl
theorem gf_X8_40 {a b n : Nat} (hM : M.1.cls = RX8) (hla : lay a = (9, n)) (d : decode M.2.1 pc = .ok (.getfield 40, 3)) (hb : r a 12 = some b) (kk : St E M (pc + 3) l (.ref b :: st) κ N lay r h) : St E M pc l (.ref a :: st) κ N lay r h := rg_getR (k := 8) (j := 12) (C := RX8) (T := TX8) (Nf := 25) rfl inT_X8 (by decide) rfl (by decide) rfl (by rw [hM]; exact w_1026) hla d hb kk
theorem pf_X8_40 {a b n : Nat} (hM : M.1.cls = RX8) (hmn : M.1.name = "<init>") (hla : lay a = (9, n)) (d : decode M.2.1 pc = .ok (.putfield 40, 3)) (kk : St E M (pc + 3) l st κ N lay (rr r a (rup (r a) 12 (some b))) h) : St E M pc l (.ref b :: .ref a :: st) κ N lay r h := rg_putF (k := 8) (j := 12) (ft := tyX8 12) (C := RX8) (T := TX8) (Nf := 25) (ty0 := tyX8) rfl inT_X8 tyX8_ok nmX8 (by decide) rfl (by decide) rfl (by rw [hM]; exact w_1026) rfl (by decide +kernel) rfl rfl hmn hM hla d kk
theorem w_1027 : Cond.fieldLink "StrawMapModel" 43 "StrawMapModel" "now" "[I" ∈ lwT := inT 1027 (by decide +kernel) rfl
theorem gf_X8_43 {a b n : Nat} (hM : M.1.cls = RX8) (hla : lay a = (9, n)) (d : decode M.2.1 pc = .ok (.getfield 43, 3)) (hb : r a 13 = some b) (kk : St E M (pc + 3) l (.ref b :: st) κ N lay r h) : St E M pc l (.ref a :: st) κ N lay r h := rg_getR (k := 8) (j := 13) (C := RX8) (T := TX8) (Nf := 25) rfl inT_X8 (by decide) rfl (by decide) rfl (by rw [hM]; exact w_1027) hla d hb kk
theorem pf_X8_43 {a b n : Nat} (hM : M.1.cls = RX8) (hmn : M.1.name = "<init>") (hla : lay a = (9, n)) (d : decode M.2.1 pc = .ok (.putfield 43, 3)) (kk : St E M (pc + 3) l st κ N lay (rr r a (rup (r a) 13 (some b))) h) : St E M pc l (.ref b :: .ref a :: st) κ N lay r h := rg_putF (k := 8) (j := 13) (ft := tyX8 13) (C := RX8) (T := TX8) (Nf := 25) (ty0 := tyX8) rfl inT_X8 tyX8_ok nmX8 (by decide) rfl (by decide) rfl (by rw [hM]; exact w_1027) rfl (by decide +kernel) rfl rfl hmn hM hla d kk
theorem w_1028 : Cond.fieldLink "StrawMapModel" 46 "StrawMapModel" "then" "[I" ∈ lwT := inT 1028 (by decide +kernel) rfl
theorem gf_X8_46 {a b n : Nat} (hM : M.1.cls = RX8) (hla : lay a = (9, n)) (d : decode M.2.1 pc = .ok (.getfield 46, 3)) (hb : r a 14 = some b) (kk : St E M (pc + 3) l (.ref b :: st) κ N lay r h) : St E M pc l (.ref a :: st) κ N lay r h := rg_getR (k := 8) (j := 14) (C := RX8) (T := TX8) (Nf := 25) rfl inT_X8 (by decide) rfl (by decide) rfl (by rw [hM]; exact w_1028) hla d hb kk
theorem pf_X8_46 {a b n : Nat} (hM : M.1.cls = RX8) (hmn : M.1.name = "<init>") (hla : lay a = (9, n)) (d : decode M.2.1 pc = .ok (.putfield 46, 3)) (kk : St E M (pc + 3) l st κ N lay (rr r a (rup (r a) 14 (some b))) h) : St E M pc l (.ref b :: .ref a :: st) κ N lay r h := rg_putF (k := 8) (j := 14) (ft := tyX8 14) (C := RX8) (T := TX8) (Nf := 25) (ty0 := tyX8) rfl inT_X8 tyX8_ok nmX8 (by decide) rfl (by decide) rfl (by rw [hM]; exact w_1028) rfl (by decide +kernel) rfl rfl hmn hM hla d kk
theorem w_1029 : Cond.fieldLink "StrawMapModel" 49 "StrawMapModel" "holders" "[I" ∈ lwT := inT 1029 (by decide +kernel) rfl
theorem gf_X8_49 {a b n : Nat} (hM : M.1.cls = RX8) (hla : lay a = (9, n)) (d : decode M.2.1 pc = .ok (.getfield 49, 3)) (hb : r a 15 = some b) (kk : St E M (pc + 3) l (.ref b :: st) κ N lay r h) : St E M pc l (.ref a :: st) κ N lay r h := rg_getR (k := 8) (j := 15) (C := RX8) (T := TX8) (Nf := 25) rfl inT_X8 (by decide) rfl (by decide) rfl (by rw [hM]; exact w_1029) hla d hb kk
theorem pf_X8_49 {a b n : Nat} (hM : M.1.cls = RX8) (hmn : M.1.name = "<init>") (hla : lay a = (9, n)) (d : decode M.2.1 pc = .ok (.putfield 49, 3)) (kk : St E M (pc + 3) l st κ N lay (rr r a (rup (r a) 15 (some b))) h) : St E M pc l (.ref b :: .ref a :: st) κ N lay r h := rg_putF (k := 8) (j := 15) (ft := tyX8 15) (C := RX8) (T := TX8) (Nf := 25) (ty0 := tyX8) rfl inT_X8 tyX8_ok nmX8 (by decide) rfl (by decide) rfl (by rw [hM]; exact w_1029) rfl (by decide +kernel) rfl rfl hmn hM hla d kk
theorem w_1030 : Cond.fieldLink "StrawMapModel" 52 "StrawMapModel" "sizes" "[I" ∈ lwT := inT 1030 (by decide +kernel) rfl
theorem gf_X8_52 {a b n : Nat} (hM : M.1.cls = RX8) (hla : lay a = (9, n)) (d : decode M.2.1 pc = .ok (.getfield 52, 3)) (hb : r a 16 = some b) (kk : St E M (pc + 3) l (.ref b :: st) κ N lay r h) : St E M pc l (.ref a :: st) κ N lay r h := rg_getR (k := 8) (j := 16) (C := RX8) (T := TX8) (Nf := 25) rfl inT_X8 (by decide) rfl (by decide) rfl (by rw [hM]; exact w_1030) hla d hb kk
theorem pf_X8_52 {a b n : Nat} (hM : M.1.cls = RX8) (hmn : M.1.name = "<init>") (hla : lay a = (9, n)) (d : decode M.2.1 pc = .ok (.putfield 52, 3)) (kk : St E M (pc + 3) l st κ N lay (rr r a (rup (r a) 16 (some b))) h) : St E M pc l (.ref b :: .ref a :: st) κ N lay r h := rg_putF (k := 8) (j := 16) (ft := tyX8 16) (C := RX8) (T := TX8) (Nf := 25) (ty0 := tyX8) rfl inT_X8 tyX8_ok nmX8 (by decide) rfl (by decide) rfl (by rw [hM]; exact w_1030) rfl (by decide +kernel) rfl rfl hmn hM hla d kk
theorem w_1032 : Cond.fieldLink "StrawMapModel" 55 "StrawMapModel" "holdersAside" "[I" ∈ lwT := inT 1032 (by decide +kernel) rfl
theorem gf_X8_55 {a b n : Nat} (hM : M.1.cls = RX8) (hla : lay a = (9, n)) (d : decode M.2.1 pc = .ok (.getfield 55, 3)) (hb : r a 18 = some b) (kk : St E M (pc + 3) l (.ref b :: st) κ N lay r h) : St E M pc l (.ref a :: st) κ N lay r h := rg_getR (k := 8) (j := 18) (C := RX8) (T := TX8) (Nf := 25) rfl inT_X8 (by decide) rfl (by decide) rfl (by rw [hM]; exact w_1032) hla d hb kk
theorem pf_X8_55 {a b n : Nat} (hM : M.1.cls = RX8) (hmn : M.1.name = "<init>") (hla : lay a = (9, n)) (d : decode M.2.1 pc = .ok (.putfield 55, 3)) (kk : St E M (pc + 3) l st κ N lay (rr r a (rup (r a) 18 (some b))) h) : St E M pc l (.ref b :: .ref a :: st) κ N lay r h := rg_putF (k := 8) (j := 18) (ft := tyX8 18) (C := RX8) (T := TX8) (Nf := 25) (ty0 := tyX8) rfl inT_X8 tyX8_ok nmX8 (by decide) rfl (by decide) rfl (by rw [hM]; exact w_1032) rfl (by decide +kernel) rfl rfl hmn hM hla d kk
theorem w_1034 : Cond.fieldLink "StrawMapModel" 58 "StrawMapModel" "seenRow" "[I" ∈ lwT := inT 1034 (by decide +kernel) rfl
theorem gf_X8_58 {a b n : Nat} (hM : M.1.cls = RX8) (hla : lay a = (9, n)) (d : decode M.2.1 pc = .ok (.getfield 58, 3)) (hb : r a 20 = some b) (kk : St E M (pc + 3) l (.ref b :: st) κ N lay r h) : St E M pc l (.ref a :: st) κ N lay r h := rg_getR (k := 8) (j := 20) (C := RX8) (T := TX8) (Nf := 25) rfl inT_X8 (by decide) rfl (by decide) rfl (by rw [hM]; exact w_1034) hla d hb kk
theorem pf_X8_58 {a b n : Nat} (hM : M.1.cls = RX8) (hmn : M.1.name = "<init>") (hla : lay a = (9, n)) (d : decode M.2.1 pc = .ok (.putfield 58, 3)) (kk : St E M (pc + 3) l st κ N lay (rr r a (rup (r a) 20 (some b))) h) : St E M pc l (.ref b :: .ref a :: st) κ N lay r h := rg_putF (k := 8) (j := 20) (ft := tyX8 20) (C := RX8) (T := TX8) (Nf := 25) (ty0 := tyX8) rfl inT_X8 tyX8_ok nmX8 (by decide) rfl (by decide) rfl (by rw [hM]; exact w_1034) rfl (by decide +kernel) rfl rfl hmn hM hla d kk
theorem w_1035 : Cond.fieldLink "StrawMapModel" 61 "StrawMapModel" "firstRacks" "[I" ∈ lwT := inT 1035 (by decide +kernel) rfl
theorem gf_X8_61 {a b n : Nat} (hM : M.1.cls = RX8) (hla : lay a = (9, n)) (d : decode M.2.1 pc = .ok (.getfield 61, 3)) (hb : r a 21 = some b) (kk : St E M (pc + 3) l (.ref b :: st) κ N lay r h) : St E M pc l (.ref a :: st) κ N lay r h := rg_getR (k := 8) (j := 21) (C := RX8) (T := TX8) (Nf := 25) rfl inT_X8 (by decide) rfl (by decide) rfl (by rw [hM]; exact w_1035) hla d hb kk
theorem pf_X8_61 {a b n : Nat} (hM : M.1.cls = RX8) (hmn : M.1.name = "<init>") (hla : lay a = (9, n)) (d : decode M.2.1 pc = .ok (.putfield 61, 3)) (kk : St E M (pc + 3) l st κ N lay (rr r a (rup (r a) 21 (some b))) h) : St E M pc l (.ref b :: .ref a :: st) κ N lay r h := rg_putF (k := 8) (j := 21) (ft := tyX8 21) (C := RX8) (T := TX8) (Nf := 25) (ty0 := tyX8) rfl inT_X8 tyX8_ok nmX8 (by decide) rfl (by decide) rfl (by rw [hM]; exact w_1035) rfl (by decide +kernel) rfl rfl hmn hM hla d kk
theorem w_1036 : Cond.fieldLink "StrawMapModel" 64 "StrawMapModel" "firstDisks" "[I" ∈ lwT := inT 1036 (by decide +kernel) rfl
theorem gf_X8_64 {a b n : Nat} (hM : M.1.cls = RX8) (hla : lay a = (9, n)) (d : decode M.2.1 pc = .ok (.getfield 64, 3)) (hb : r a 22 = some b) (kk : St E M (pc + 3) l (.ref b :: st) κ N lay r h) : St E M pc l (.ref a :: st) κ N lay r h := rg_getR (k := 8) (j := 22) (C := RX8) (T := TX8) (Nf := 25) rfl inT_X8 (by decide) rfl (by decide) rfl (by rw [hM]; exact w_1036) hla d hb kk
theorem pf_X8_64 {a b n : Nat} (hM : M.1.cls = RX8) (hmn : M.1.name = "<init>") (hla : lay a = (9, n)) (d : decode M.2.1 pc = .ok (.putfield 64, 3)) (kk : St E M (pc + 3) l st κ N lay (rr r a (rup (r a) 22 (some b))) h) : St E M pc l (.ref b :: .ref a :: st) κ N lay r h := rg_putF (k := 8) (j := 22) (ft := tyX8 22) (C := RX8) (T := TX8) (Nf := 25) (ty0 := tyX8) rfl inT_X8 tyX8_ok nmX8 (by decide) rfl (by decide) rfl (by rw [hM]; exact w_1036) rfl (by decide +kernel) rfl rfl hmn hM hla d kk
theorem w_1037 : Cond.fieldLink "StrawMapModel" 67 "StrawMapModel" "firstWeights" "[I" ∈ lwT := inT 1037 (by decide +kernel) rfl
theorem gf_X8_67 {a b n : Nat} (hM : M.1.cls = RX8) (hla : lay a = (9, n)) (d : decode M.2.1 pc = .ok (.getfield 67, 3)) (hb : r a 23 = some b) (kk : St E M (pc + 3) l (.ref b :: st) κ N lay r h) : St E M pc l (.ref a :: st) κ N lay r h := rg_getR (k := 8) (j := 23) (C := RX8) (T := TX8) (Nf := 25) rfl inT_X8 (by decide) rfl (by decide) rfl (by rw [hM]; exact w_1037) hla d hb kk
theorem pf_X8_67 {a b n : Nat} (hM : M.1.cls = RX8) (hmn : M.1.name = "<init>") (hla : lay a = (9, n)) (d : decode M.2.1 pc = .ok (.putfield 67, 3)) (kk : St E M (pc + 3) l st κ N lay (rr r a (rup (r a) 23 (some b))) h) : St E M pc l (.ref b :: .ref a :: st) κ N lay r h := rg_putF (k := 8) (j := 23) (ft := tyX8 23) (C := RX8) (T := TX8) (Nf := 25) (ty0 := tyX8) rfl inT_X8 tyX8_ok nmX8 (by decide) rfl (by decide) rfl (by rw [hM]; exact w_1037) rfl (by decide +kernel) rfl rfl hmn hM hla d kk
theorem w_1014 : Cond.fieldLink "StrawMapModel" 85 "StrawMapModel" "length" "I" ∈ lwT := inT 1014 (by decide +kernel) rfl
theorem gf_X8_85 {a n : Nat} (hM : M.1.cls = RX8) (hla : lay a = (9, n)) (d : decode M.2.1 pc = .ok (.getfield 85, 3)) (kk : -2147483648 ≤ h a 0 ∧ h a 0 < 2147483648 → St E M (pc + 3) l (vI (h a 0) :: st) κ N lay r h) : St E M pc l (.ref a :: st) κ N lay r h := rg_getI (k := 8) (j := 0) (C := RX8) (T := TX8) (Nf := 25) rfl inT_X8 (by decide) rfl (by decide) rfl (by rw [hM]; exact w_1014) hla d kk
theorem pf_X8_85 {a n : Nat} {z : Int} (hM : M.1.cls = RX8) (hla : lay a = (9, n)) (d : decode M.2.1 pc = .ok (.putfield 85, 3)) (hz : -2147483648 ≤ z ∧ z < 2147483648) (kk : St E M (pc + 3) l st κ N lay r (hr h a (up (h a) 0 z))) : St E M pc l (vI z :: .ref a :: st) κ N lay r h := rg_putI (k := 8) (j := 0) (C := RX8) (T := TX8) (Nf := 25) (ty0 := tyX8) rfl inT_X8 tyX8_ok nmX8 (by decide) rfl (by decide) rfl (by rw [hM]; exact w_1014) rfl (by decide +kernel) hla d hz kk
theorem w_1038 : Cond.fieldLink "StrawMapModel" 96 "StrawMapModel" "ends" "I" ∈ lwT := inT 1038 (by decide +kernel) rfl
theorem gf_X8_96 {a n : Nat} (hM : M.1.cls = RX8) (hla : lay a = (9, n)) (d : decode M.2.1 pc = .ok (.getfield 96, 3)) (kk : -2147483648 ≤ h a 24 ∧ h a 24 < 2147483648 → St E M (pc + 3) l (vI (h a 24) :: st) κ N lay r h) : St E M pc l (.ref a :: st) κ N lay r h := rg_getI (k := 8) (j := 24) (C := RX8) (T := TX8) (Nf := 25) rfl inT_X8 (by decide) rfl (by decide) rfl (by rw [hM]; exact w_1038) hla d kk
theorem pf_X8_96 {a n : Nat} {z : Int} (hM : M.1.cls = RX8) (hla : lay a = (9, n)) (d : decode M.2.1 pc = .ok (.putfield 96, 3)) (hz : -2147483648 ≤ z ∧ z < 2147483648) (kk : St E M (pc + 3) l st κ N lay r (hr h a (up (h a) 24 z))) : St E M pc l (vI z :: .ref a :: st) κ N lay r h := rg_putI (k := 8) (j := 24) (C := RX8) (T := TX8) (Nf := 25) (ty0 := tyX8) rfl inT_X8 tyX8_ok nmX8 (by decide) rfl (by decide) rfl (by rw [hM]; exact w_1038) rfl (by decide +kernel) hla d hz kk
theorem w_1019 : Cond.fieldLink "StrawMapModel" 116 "StrawMapModel" "epoch" "I" ∈ lwT := inT 1019 (by decide +kernel) rfl
theorem gf_X8_116 {a n : Nat} (hM : M.1.cls = RX8) (hla : lay a = (9, n)) (d : decode M.2.1 pc = .ok (.getfield 116, 3)) (kk : -2147483648 ≤ h a 5 ∧ h a 5 < 2147483648 → St E M (pc + 3) l (vI (h a 5) :: st) κ N lay r h) : St E M pc l (.ref a :: st) κ N lay r h := rg_getI (k := 8) (j := 5) (C := RX8) (T := TX8) (Nf := 25) rfl inT_X8 (by decide) rfl (by decide) rfl (by rw [hM]; exact w_1019) hla d kk
theorem pf_X8_116 {a n : Nat} {z : Int} (hM : M.1.cls = RX8) (hla : lay a = (9, n)) (d : decode M.2.1 pc = .ok (.putfield 116, 3)) (hz : -2147483648 ≤ z ∧ z < 2147483648) (kk : St E M (pc + 3) l st κ N lay r (hr h a (up (h a) 5 z))) : St E M pc l (vI z :: .ref a :: st) κ N lay r h := rg_putI (k := 8) (j := 5) (C := RX8) (T := TX8) (Nf := 25) (ty0 := tyX8) rfl inT_X8 tyX8_ok nmX8 (by decide) rfl (by decide) rfl (by rw [hM]; exact w_1019) rfl (by decide +kernel) hla d hz kk
theorem w_1031 : Cond.fieldLink "StrawMapModel" 125 "StrawMapModel" "ups" "I" ∈ lwT := inT 1031 (by decide +kernel) rfl
theorem gf_X8_125 {a n : Nat} (hM : M.1.cls = RX8) (hla : lay a = (9, n)) (d : decode M.2.1 pc = .ok (.getfield 125, 3)) (kk : -2147483648 ≤ h a 17 ∧ h a 17 < 2147483648 → St E M (pc + 3) l (vI (h a 17) :: st) κ N lay r h) : St E M pc l (.ref a :: st) κ N lay r h := rg_getI (k := 8) (j := 17) (C := RX8) (T := TX8) (Nf := 25) rfl inT_X8 (by decide) rfl (by decide) rfl (by rw [hM]; exact w_1031) hla d kk
theorem pf_X8_125 {a n : Nat} {z : Int} (hM : M.1.cls = RX8) (hla : lay a = (9, n)) (d : decode M.2.1 pc = .ok (.putfield 125, 3)) (hz : -2147483648 ≤ z ∧ z < 2147483648) (kk : St E M (pc + 3) l st κ N lay r (hr h a (up (h a) 17 z))) : St E M pc l (vI z :: .ref a :: st) κ N lay r h := rg_putI (k := 8) (j := 17) (C := RX8) (T := TX8) (Nf := 25) (ty0 := tyX8) rfl inT_X8 tyX8_ok nmX8 (by decide) rfl (by decide) rfl (by rw [hM]; exact w_1031) rfl (by decide +kernel) hla d hz kk
theorem w_1033 : Cond.fieldLink "StrawMapModel" 131 "StrawMapModel" "seenMany" "I" ∈ lwT := inT 1033 (by decide +kernel) rfl
theorem gf_X8_131 {a n : Nat} (hM : M.1.cls = RX8) (hla : lay a = (9, n)) (d : decode M.2.1 pc = .ok (.getfield 131, 3)) (kk : -2147483648 ≤ h a 19 ∧ h a 19 < 2147483648 → St E M (pc + 3) l (vI (h a 19) :: st) κ N lay r h) : St E M pc l (.ref a :: st) κ N lay r h := rg_getI (k := 8) (j := 19) (C := RX8) (T := TX8) (Nf := 25) rfl inT_X8 (by decide) rfl (by decide) rfl (by rw [hM]; exact w_1033) hla d kk
theorem pf_X8_131 {a n : Nat} {z : Int} (hM : M.1.cls = RX8) (hla : lay a = (9, n)) (d : decode M.2.1 pc = .ok (.putfield 131, 3)) (hz : -2147483648 ≤ z ∧ z < 2147483648) (kk : St E M (pc + 3) l st κ N lay r (hr h a (up (h a) 19 z))) : St E M pc l (vI z :: .ref a :: st) κ N lay r h := rg_putI (k := 8) (j := 19) (C := RX8) (T := TX8) (Nf := 25) (ty0 := tyX8) rfl inT_X8 tyX8_ok nmX8 (by decide) rfl (by decide) rfl (by rw [hM]; exact w_1033) rfl (by decide +kernel) hla d hz kk
def mX0_init : MtT := (yX0_init, cX0_init, 1, none, { frames := 1, cells := 2, slots := 32, locals := 20 })
def mX0_begin : MtT := (yX0_begin, cX0_begin, 3, none, { frames := 2, cells := 0, slots := 0, locals := 44 })
def mX0_copyFrom : MtT := (yX0_copyFrom, cX0_copyFrom, 2, none, { frames := 1, cells := 0, slots := 0, locals := 60 })
def mX0_isUp : MtT := (yX0_isUp, cX0_isUp, 2, (some .boolean), { frames := 1, cells := 0, slots := 0, locals := 20 })
def mX0_setUp : MtT := (yX0_setUp, cX0_setUp, 3, none, { frames := 1, cells := 0, slots := 0, locals := 20 })
def mX0_letFail : MtT := (yX0_letFail, cX0_letFail, 4, (some .int), { frames := 2, cells := 0, slots := 0, locals := 42 })
def mX0_sizeOn : MtT := (yX0_sizeOn, cX0_sizeOn, 5, (some .int), { frames := 1, cells := 0, slots := 0, locals := 20 })
def mX0_isWaiting : MtT := (yX0_isWaiting, cX0_isWaiting, 2, (some .boolean), { frames := 0, cells := 0, slots := 0, locals := 0 })
def mX0_isIncomplete : MtT := (yX0_isIncomplete, cX0_isIncomplete, 3, (some .boolean), { frames := 1, cells := 0, slots := 0, locals := 21 })
def mX0_countLost : MtT := (yX0_countLost, cX0_countLost, 3, (some .int), { frames := 0, cells := 0, slots := 0, locals := 0 })
def mX0_countWaiting : MtT := (yX0_countWaiting, cX0_countWaiting, 3, (some .int), { frames := 1, cells := 0, slots := 0, locals := 21 })
def mX0_countIncomplete : MtT := (yX0_countIncomplete, cX0_countIncomplete, 4, (some .int), { frames := 2, cells := 0, slots := 0, locals := 43 })
def mX0_serverOf : MtT := (yX0_serverOf, cX0_serverOf, 6, (some .int), { frames := 2, cells := 0, slots := 0, locals := 46 })
def mX0_firstCopyIn : MtT := (yX0_firstCopyIn, cX0_firstCopyIn, 5, (some .int), { frames := 1, cells := 0, slots := 0, locals := 22 })
def mX0_makeTick : MtT := (yX0_makeTick, cX0_makeTick, 6, (some .int), { frames := 4, cells := 0, slots := 0, locals := 92 })
def mX0_copyOnce : MtT := (yX0_copyOnce, cX0_copyOnce, 4, (some .boolean), { frames := 3, cells := 0, slots := 0, locals := 69 })
def mX0_mostUrgent : MtT := (yX0_mostUrgent, cX0_mostUrgent, 7, (some .int), { frames := 2, cells := 0, slots := 0, locals := 43 })
def mX0_dropSpare : MtT := (yX0_dropSpare, cX0_dropSpare, 4, none, { frames := 0, cells := 0, slots := 0, locals := 0 })
def mX0_strike : MtT := (yX0_strike, cX0_strike, 6, none, { frames := 3, cells := 0, slots := 0, locals := 65 })
def mX1_init : MtT := (yX1_init, cX1_init, 1, none, { frames := 1, cells := 4, slots := 24, locals := 20 })
def mX1_copyFrom : MtT := (yX1_copyFrom, cX1_copyFrom, 2, none, { frames := 1, cells := 0, slots := 0, locals := 60 })
def mX1_has : MtT := (yX1_has, cX1_has, 5, (some .boolean), { frames := 0, cells := 0, slots := 0, locals := 0 })
def mX1_add : MtT := (yX1_add, cX1_add, 4, none, { frames := 0, cells := 0, slots := 0, locals := 0 })
def mX1_removeAt : MtT := (yX1_removeAt, cX1_removeAt, 3, none, { frames := 0, cells := 0, slots := 0, locals := 0 })
def mX2_init : MtT := (yX2_init, cX2_init, 1, none, { frames := 1, cells := 3, slots := 18, locals := 20 })
def mX2_add : MtT := (yX2_add, cX2_add, 4, none, { frames := 0, cells := 0, slots := 0, locals := 0 })
def mX2_areTrueIn : MtT := (yX2_areTrueIn, cX2_areTrueIn, 5, (some .boolean), { frames := 5, cells := 0, slots := 0, locals := 131 })
def mX3_init : MtT := (yX3_init, cX3_init, 1, none, { frames := 2, cells := 13, slots := 266, locals := 40 })
def mX3_isRule : MtT := (yX3_isRule, cX3_isRule, 3, (some .boolean), { frames := 0, cells := 0, slots := 0, locals := 0 })
def mX3_clear : MtT := (yX3_clear, cX3_clear, 1, none, { frames := 1, cells := 0, slots := 0, locals := 23 })
def mX3_copyFrom : MtT := (yX3_copyFrom, cX3_copyFrom, 2, none, { frames := 2, cells := 0, slots := 0, locals := 81 })
def mX3_setRule : MtT := (yX3_setRule, cX3_setRule, 4, none, { frames := 0, cells := 0, slots := 0, locals := 0 })
def mX3_addDisk : MtT := (yX3_addDisk, cX3_addDisk, 5, (some .boolean), { frames := 2, cells := 0, slots := 0, locals := 43 })
def mX3_isFull : MtT := (yX3_isFull, cX3_isFull, 2, (some .boolean), { frames := 1, cells := 0, slots := 0, locals := 20 })
def mX3_copyOf : MtT := (yX3_copyOf, cX3_copyOf, 3, (some .int), { frames := 0, cells := 0, slots := 0, locals := 0 })
def mX3_settleAll : MtT := (yX3_settleAll, cX3_settleAll, 3, none, { frames := 5, cells := 0, slots := 0, locals := 131 })
def mX3_settleGroup : MtT := (yX3_settleGroup, cX3_settleGroup, 8, none, { frames := 4, cells := 0, slots := 0, locals := 104 })
def mX3_isAcceptable : MtT := (yX3_isAcceptable, cX3_isAcceptable, 3, (some .boolean), { frames := 2, cells := 0, slots := 0, locals := 41 })
def mX3_isApart : MtT := (yX3_isApart, cX3_isApart, 6, (some .boolean), { frames := 1, cells := 0, slots := 0, locals := 22 })
def mX3_partOf : MtT := (yX3_partOf, cX3_partOf, 3, (some .int), { frames := 0, cells := 0, slots := 0, locals := 0 })
def mX3_applyDiversions : MtT := (yX3_applyDiversions, cX3_applyDiversions, 4, none, { frames := 3, cells := 0, slots := 0, locals := 71 })
def mX3_replaceCopy : MtT := (yX3_replaceCopy, cX3_replaceCopy, 5, (some .boolean), { frames := 2, cells := 0, slots := 0, locals := 47 })
def mX3_takesPart : MtT := (yX3_takesPart, cX3_takesPart, 2, (some .boolean), { frames := 2, cells := 0, slots := 0, locals := 41 })
def mX3_countPairs : MtT := (yX3_countPairs, cX3_countPairs, 4, (some .int), { frames := 1, cells := 0, slots := 0, locals := 20 })
def mX3_spreadOfPairs : MtT := (yX3_spreadOfPairs, cX3_spreadOfPairs, 5, (some .int), { frames := 3, cells := 0, slots := 0, locals := 62 })
def mX3_hasSameCopies : MtT := (yX3_hasSameCopies, cX3_hasSameCopies, 4, (some .boolean), { frames := 1, cells := 0, slots := 0, locals := 22 })
def mX4_init : MtT := (yX4_init, cX4_init, 1, none, { frames := 1, cells := 1, slots := 8448, locals := 20 })
def mX4_drawOf : MtT := (yX4_drawOf, cX4_drawOf, 5, (some .int), { frames := 0, cells := 0, slots := 0, locals := 0 })
def mX4_wantOf : MtT := (yX4_wantOf, cX4_wantOf, 6, (some .int), { frames := 0, cells := 0, slots := 0, locals := 0 })
def mX4_lengthOf : MtT := (yX4_lengthOf, cX4_lengthOf, 5, (some .int), { frames := 1, cells := 0, slots := 0, locals := 25 })
def mX5_init : MtT := (yX5_init, cX5_init, 1, none, { frames := 1, cells := 2, slots := 203, locals := 20 })
def mX5_append : MtT := (yX5_append, cX5_append, 2, none, { frames := 0, cells := 0, slots := 0, locals := 0 })
def mX5_readInto : MtT := (yX5_readInto, cX5_readInto, 4, (some .int), { frames := 5, cells := 0, slots := 0, locals := 111 })
def mX5_readItem : MtT := (yX5_readItem, cX5_readItem, 3, (some .boolean), { frames := 4, cells := 0, slots := 0, locals := 89 })
def mX5_numbersOf : MtT := (yX5_numbersOf, cX5_numbersOf, 1, (some .int), { frames := 0, cells := 0, slots := 0, locals := 0 })
def mX5_accept : MtT := (yX5_accept, cX5_accept, 2, (some .boolean), { frames := 0, cells := 0, slots := 0, locals := 0 })
def mX5_readNumbers : MtT := (yX5_readNumbers, cX5_readNumbers, 3, (some .boolean), { frames := 1, cells := 0, slots := 0, locals := 21 })
def mX5_isDigitNext : MtT := (yX5_isDigitNext, cX5_isDigitNext, 1, (some .boolean), { frames := 0, cells := 0, slots := 0, locals := 0 })
def mX5_readDigit : MtT := (yX5_readDigit, cX5_readDigit, 2, (some .int), { frames := 0, cells := 0, slots := 0, locals := 0 })
def mX5_apply : MtT := (yX5_apply, cX5_apply, 3, (some .boolean), { frames := 3, cells := 0, slots := 0, locals := 67 })
def mX6_init : MtT := (yX6_init, cX6_init, 1, none, { frames := 1, cells := 2, slots := 44, locals := 20 })
def mX6_clear : MtT := (yX6_clear, cX6_clear, 1, none, { frames := 0, cells := 0, slots := 0, locals := 0 })
def mX6_copyFrom : MtT := (yX6_copyFrom, cX6_copyFrom, 2, none, { frames := 1, cells := 0, slots := 0, locals := 60 })
def mX6_endOfDisks : MtT := (yX6_endOfDisks, cX6_endOfDisks, 1, (some .int), { frames := 0, cells := 0, slots := 0, locals := 0 })
def mX6_isHall : MtT := (yX6_isHall, cX6_isHall, 2, (some .boolean), { frames := 0, cells := 0, slots := 0, locals := 0 })
def mX6_isRack : MtT := (yX6_isRack, cX6_isRack, 2, (some .boolean), { frames := 0, cells := 0, slots := 0, locals := 0 })
def mX6_isDisk : MtT := (yX6_isDisk, cX6_isDisk, 2, (some .boolean), { frames := 0, cells := 0, slots := 0, locals := 0 })
def mX6_isNode : MtT := (yX6_isNode, cX6_isNode, 2, (some .boolean), { frames := 1, cells := 0, slots := 0, locals := 21 })
def mX6_addHall : MtT := (yX6_addHall, cX6_addHall, 1, (some .boolean), { frames := 0, cells := 0, slots := 0, locals := 0 })
def mX6_addRack : MtT := (yX6_addRack, cX6_addRack, 2, (some .boolean), { frames := 1, cells := 0, slots := 0, locals := 21 })
def mX6_addDisk : MtT := (yX6_addDisk, cX6_addDisk, 3, (some .boolean), { frames := 1, cells := 0, slots := 0, locals := 21 })
def mX6_sumWeights : MtT := (yX6_sumWeights, cX6_sumWeights, 3, none, { frames := 1, cells := 0, slots := 0, locals := 20 })
def mX6_hallOf : MtT := (yX6_hallOf, cX6_hallOf, 2, (some .int), { frames := 0, cells := 0, slots := 0, locals := 0 })
def mX6_disksWithin : MtT := (yX6_disksWithin, cX6_disksWithin, 4, (some .int), { frames := 1, cells := 0, slots := 0, locals := 21 })
def mX6_firstBelow : MtT := (yX6_firstBelow, cX6_firstBelow, 2, (some .int), { frames := 0, cells := 0, slots := 0, locals := 0 })
def mX6_endBelow : MtT := (yX6_endBelow, cX6_endBelow, 2, (some .int), { frames := 1, cells := 0, slots := 0, locals := 20 })
def mX6_countBelow : MtT := (yX6_countBelow, cX6_countBelow, 5, (some .int), { frames := 2, cells := 0, slots := 0, locals := 41 })
def mX6_choiceAt : MtT := (yX6_choiceAt, cX6_choiceAt, 11, (some .int), { frames := 2, cells := 0, slots := 0, locals := 49 })
def mX6_diskOfTry : MtT := (yX6_diskOfTry, cX6_diskOfTry, 6, (some .int), { frames := 3, cells := 0, slots := 0, locals := 79 })
def mX7_init : MtT := (yX7_init, cX7_init, 2, none, { frames := 6, cells := 100, slots := 10421, locals := 153 })
def mX7_write : MtT := (yX7_write, cX7_write, 2, (some .int), { frames := 1, cells := 0, slots := 0, locals := 21 })
def mX7_wipe : MtT := (yX7_wipe, cX7_wipe, 2, (some .int), { frames := 0, cells := 0, slots := 0, locals := 0 })
def mX7_fault : MtT := (yX7_fault, cX7_fault, 1, (some .int), { frames := 6, cells := 0, slots := 0, locals := 134 })
def mX7_lay : MtT := (yX7_lay, cX7_lay, 1, (some .int), { frames := 6, cells := 0, slots := 0, locals := 153 })
def mX7_node : MtT := (yX7_node, cX7_node, 4, (some .int), { frames := 3, cells := 0, slots := 0, locals := 65 })
def mX7_override : MtT := (yX7_override, cX7_override, 3, (some .int), { frames := 0, cells := 0, slots := 0, locals := 0 })
def mX7_weigh : MtT := (yX7_weigh, cX7_weigh, 4, (some .int), { frames := 6, cells := 0, slots := 0, locals := 153 })
def mX7_reweigh : MtT := (yX7_reweigh, cX7_reweigh, 4, (some .int), { frames := 6, cells := 0, slots := 0, locals := 153 })
def mX7_refill : MtT := (yX7_refill, cX7_refill, 3, (some .int), { frames := 6, cells := 0, slots := 0, locals := 153 })
def mX7_divert : MtT := (yX7_divert, cX7_divert, 4, (some .int), { frames := 6, cells := 0, slots := 0, locals := 153 })
def mX7_lift : MtT := (yX7_lift, cX7_lift, 2, (some .int), { frames := 6, cells := 0, slots := 0, locals := 153 })
def mX7_rule : MtT := (yX7_rule, cX7_rule, 5, (some .int), { frames := 6, cells := 0, slots := 0, locals := 153 })
def mX7_rack : MtT := (yX7_rack, cX7_rack, 2, (some .int), { frames := 6, cells := 0, slots := 0, locals := 153 })
def mX7_disk : MtT := (yX7_disk, cX7_disk, 5, (some .int), { frames := 6, cells := 0, slots := 0, locals := 153 })
def mX7_move : MtT := (yX7_move, cX7_move, 7, (some .int), { frames := 6, cells := 0, slots := 0, locals := 153 })
def mX7_back : MtT := (yX7_back, cX7_back, 3, (some .int), { frames := 4, cells := 0, slots := 0, locals := 125 })
def mX7_group : MtT := (yX7_group, cX7_group, 2, (some .int), { frames := 1, cells := 0, slots := 0, locals := 20 })
def mX7_draw : MtT := (yX7_draw, cX7_draw, 4, (some .int), { frames := 2, cells := 0, slots := 0, locals := 42 })
def mX7_want : MtT := (yX7_want, cX7_want, 2, (some .int), { frames := 1, cells := 0, slots := 0, locals := 25 })
def mX7_chosen : MtT := (yX7_chosen, cX7_chosen, 5, (some .int), { frames := 3, cells := 0, slots := 0, locals := 79 })
def mX7_place : MtT := (yX7_place, cX7_place, 3, (some .int), { frames := 1, cells := 0, slots := 0, locals := 22 })
def mX7_taken : MtT := (yX7_taken, cX7_taken, 3, (some .int), { frames := 1, cells := 0, slots := 0, locals := 20 })
def mX7_groups : MtT := (yX7_groups, cX7_groups, 5, (some .int), { frames := 2, cells := 0, slots := 0, locals := 44 })
def mX7_spread : MtT := (yX7_spread, cX7_spread, 1, (some .int), { frames := 4, cells := 0, slots := 0, locals := 86 })
def mX7_share : MtT := (yX7_share, cX7_share, 6, (some .int), { frames := 2, cells := 0, slots := 0, locals := 42 })
def mX7_old : MtT := (yX7_old, cX7_old, 5, (some .int), { frames := 1, cells := 0, slots := 0, locals := 22 })
def mX7_since : MtT := (yX7_since, cX7_since, 8, (some .int), { frames := 2, cells := 0, slots := 0, locals := 45 })
def mX7_would : MtT := (yX7_would, cX7_would, 7, (some .int), { frames := 6, cells := 0, slots := 0, locals := 153 })
def mX7_least : MtT := (yX7_least, cX7_least, 4, (some .int), { frames := 6, cells := 0, slots := 0, locals := 153 })
def mX7_even : MtT := (yX7_even, cX7_even, 9, (some .int), { frames := 6, cells := 0, slots := 0, locals := 153 })
def mX7_put : MtT := (yX7_put, cX7_put, 4, (some .int), { frames := 1, cells := 0, slots := 0, locals := 20 })
def mX7_tick : MtT := (yX7_tick, cX7_tick, 2, (some .int), { frames := 5, cells := 0, slots := 0, locals := 117 })
def mX7_up : MtT := (yX7_up, cX7_up, 3, (some .int), { frames := 2, cells := 0, slots := 0, locals := 42 })
def mX7_fail : MtT := (yX7_fail, cX7_fail, 2, (some .int), { frames := 3, cells := 0, slots := 0, locals := 65 })
def mX7_held : MtT := (yX7_held, cX7_held, 3, (some .int), { frames := 3, cells := 0, slots := 0, locals := 71 })
def mX7_load : MtT := (yX7_load, cX7_load, 3, (some .int), { frames := 2, cells := 0, slots := 0, locals := 44 })
def mX7_loses : MtT := (yX7_loses, cX7_loses, 6, (some .int), { frames := 2, cells := 0, slots := 0, locals := 44 })
def mX7_storm : MtT := (yX7_storm, cX7_storm, 8, (some .int), { frames := 5, cells := 0, slots := 0, locals := 117 })
def mX7_seen : MtT := (yX7_seen, cX7_seen, 4, (some .int), { frames := 1, cells := 0, slots := 0, locals := 23 })
def mX7_forget : MtT := (yX7_forget, cX7_forget, 2, (some .int), { frames := 0, cells := 0, slots := 0, locals := 0 })
def mX7_weights : MtT := (yX7_weights, cX7_weights, 7, (some .int), { frames := 6, cells := 0, slots := 0, locals := 155 })
def mX7_count : MtT := (yX7_count, cX7_count, 2, (some .int), { frames := 3, cells := 0, slots := 0, locals := 66 })
def mX7_isGroup : MtT := (yX7_isGroup, cX7_isGroup, 1, (some .boolean), { frames := 0, cells := 0, slots := 0, locals := 0 })
def mX7_isCopy : MtT := (yX7_isCopy, cX7_isCopy, 1, (some .boolean), { frames := 0, cells := 0, slots := 0, locals := 0 })
def mX7_isWeight : MtT := (yX7_isWeight, cX7_isWeight, 1, (some .boolean), { frames := 0, cells := 0, slots := 0, locals := 0 })
def mX7_isKey : MtT := (yX7_isKey, cX7_isKey, 1, (some .boolean), { frames := 0, cells := 0, slots := 0, locals := 0 })
def mX7_groupOf : MtT := (yX7_groupOf, cX7_groupOf, 1, (some .int), { frames := 0, cells := 0, slots := 0, locals := 0 })
def mX7_bitOf : MtT := (yX7_bitOf, cX7_bitOf, 1, (some .int), { frames := 0, cells := 0, slots := 0, locals := 0 })
def mX7_commonDivisor : MtT := (yX7_commonDivisor, cX7_commonDivisor, 6, (some .int), { frames := 0, cells := 0, slots := 0, locals := 0 })
def mX7_planOf : MtT := (yX7_planOf, cX7_planOf, 2, (some (.object "StrawMap$Plan")), { frames := 0, cells := 0, slots := 0, locals := 0 })
def mX7_beginEpoch : MtT := (yX7_beginEpoch, cX7_beginEpoch, 4, none, { frames := 3, cells := 0, slots := 0, locals := 102 })
def mX7_beginWithTrial : MtT := (yX7_beginWithTrial, cX7_beginWithTrial, 1, none, { frames := 3, cells := 0, slots := 0, locals := 102 })
def mX8_init : MtT := (yX8_init, cX8_init, 4, none, { frames := 8, cells := 20, slots := 10346, locals := 192 })
def mX8_begins : MtT := (yX8_begins, cX8_begins, 3, none, { frames := 0, cells := 0, slots := 0, locals := 0 })
def mX8_letterAt : MtT := (yX8_letterAt, cX8_letterAt, 2, (some .int), { frames := 0, cells := 0, slots := 0, locals := 0 })
def mX8_isFigure : MtT := (yX8_isFigure, cX8_isFigure, 2, (some .boolean), { frames := 1, cells := 0, slots := 0, locals := 21 })
def mX8_number : MtT := (yX8_number, cX8_number, 5, (some .int), { frames := 2, cells := 0, slots := 0, locals := 42 })
def mX8_readsDisk : MtT := (yX8_readsDisk, cX8_readsDisk, 5, (some .int), { frames := 3, cells := 0, slots := 0, locals := 66 })
def mX8_readsRule : MtT := (yX8_readsRule, cX8_readsRule, 5, (some .int), { frames := 3, cells := 0, slots := 0, locals := 66 })
def mX8_readsItem : MtT := (yX8_readsItem, cX8_readsItem, 4, (some .int), { frames := 4, cells := 0, slots := 0, locals := 90 })
def mX8_reads : MtT := (yX8_reads, cX8_reads, 3, (some .int), { frames := 5, cells := 0, slots := 0, locals := 113 })
def mX8_write : MtT := (yX8_write, cX8_write, 2, (some .int), { frames := 0, cells := 0, slots := 0, locals := 0 })
def mX8_wipe : MtT := (yX8_wipe, cX8_wipe, 2, (some .int), { frames := 0, cells := 0, slots := 0, locals := 0 })
def mX8_fault : MtT := (yX8_fault, cX8_fault, 1, (some .int), { frames := 6, cells := 0, slots := 0, locals := 135 })
def mX8_copies : MtT := (yX8_copies, cX8_copies, 4, none, { frames := 0, cells := 0, slots := 0, locals := 0 })
def mX8_keeps : MtT := (yX8_keeps, cX8_keeps, 3, none, { frames := 6, cells := 0, slots := 0, locals := 149 })
def mX8_lays : MtT := (yX8_lays, cX8_lays, 2, none, { frames := 7, cells := 0, slots := 0, locals := 171 })
def mX8_lay : MtT := (yX8_lay, cX8_lay, 1, (some .int), { frames := 8, cells := 0, slots := 0, locals := 192 })
def mX8_isIn : MtT := (yX8_isIn, cX8_isIn, 4, (some .boolean), { frames := 0, cells := 0, slots := 0, locals := 0 })
def mX8_isHall : MtT := (yX8_isHall, cX8_isHall, 2, (some .boolean), { frames := 1, cells := 0, slots := 0, locals := 23 })
def mX8_isRack : MtT := (yX8_isRack, cX8_isRack, 2, (some .boolean), { frames := 1, cells := 0, slots := 0, locals := 23 })
def mX8_isDisk : MtT := (yX8_isDisk, cX8_isDisk, 2, (some .boolean), { frames := 1, cells := 0, slots := 0, locals := 23 })
def mX8_isNode : MtT := (yX8_isNode, cX8_isNode, 2, (some .boolean), { frames := 2, cells := 0, slots := 0, locals := 44 })
def mX8_isGroup : MtT := (yX8_isGroup, cX8_isGroup, 1, (some .boolean), { frames := 0, cells := 0, slots := 0, locals := 0 })
def mX8_isBelow : MtT := (yX8_isBelow, cX8_isBelow, 4, (some .boolean), { frames := 0, cells := 0, slots := 0, locals := 0 })
def mX8_weightOf : MtT := (yX8_weightOf, cX8_weightOf, 4, (some .int), { frames := 1, cells := 0, slots := 0, locals := 23 })
def mX8_node : MtT := (yX8_node, cX8_node, 5, (some .int), { frames := 3, cells := 0, slots := 0, locals := 65 })
def mX8_override : MtT := (yX8_override, cX8_override, 3, (some .int), { frames := 5, cells := 0, slots := 0, locals := 126 })
def mX8_drawn : MtT := (yX8_drawn, cX8_drawn, 5, (some .int), { frames := 0, cells := 0, slots := 0, locals := 0 })
def mX8_wanted : MtT := (yX8_wanted, cX8_wanted, 6, (some .int), { frames := 0, cells := 0, slots := 0, locals := 0 })
def mX8_group : MtT := (yX8_group, cX8_group, 2, (some .int), { frames := 1, cells := 0, slots := 0, locals := 23 })
def mX8_draw : MtT := (yX8_draw, cX8_draw, 4, (some .int), { frames := 3, cells := 0, slots := 0, locals := 65 })
def mX8_want : MtT := (yX8_want, cX8_want, 2, (some .int), { frames := 1, cells := 0, slots := 0, locals := 25 })
def mX8_weighsAll : MtT := (yX8_weighsAll, cX8_weighsAll, 2, none, { frames := 3, cells := 0, slots := 0, locals := 65 })
def mX8_chooses : MtT := (yX8_chooses, cX8_chooses, 10, (some .int), { frames := 1, cells := 0, slots := 0, locals := 25 })
def mX8_chosen : MtT := (yX8_chosen, cX8_chosen, 4, (some .int), { frames := 4, cells := 0, slots := 0, locals := 86 })
def mX8_tryOf : MtT := (yX8_tryOf, cX8_tryOf, 5, (some .int), { frames := 2, cells := 0, slots := 0, locals := 54 })
def mX8_partOf : MtT := (yX8_partOf, cX8_partOf, 2, (some .int), { frames := 0, cells := 0, slots := 0, locals := 0 })
def mX8_isApart : MtT := (yX8_isApart, cX8_isApart, 4, (some .boolean), { frames := 1, cells := 0, slots := 0, locals := 21 })
def mX8_mayBe : MtT := (yX8_mayBe, cX8_mayBe, 3, (some .boolean), { frames := 1, cells := 0, slots := 0, locals := 24 })
def mX8_takes : MtT := (yX8_takes, cX8_takes, 5, none, { frames := 3, cells := 0, slots := 0, locals := 78 })
def mX8_diverts : MtT := (yX8_diverts, cX8_diverts, 6, none, { frames := 2, cells := 0, slots := 0, locals := 44 })
def mX8_places : MtT := (yX8_places, cX8_places, 5, none, { frames := 4, cells := 0, slots := 0, locals := 102 })
def mX8_placesAll : MtT := (yX8_placesAll, cX8_placesAll, 4, none, { frames := 5, cells := 0, slots := 0, locals := 126 })
def mX8_has : MtT := (yX8_has, cX8_has, 4, (some .boolean), { frames := 0, cells := 0, slots := 0, locals := 0 })
def mX8_placeBits : MtT := (yX8_placeBits, cX8_placeBits, 4, (some .int), { frames := 0, cells := 0, slots := 0, locals := 0 })
def mX8_place : MtT := (yX8_place, cX8_place, 3, (some .int), { frames := 1, cells := 0, slots := 0, locals := 23 })
def mX8_taken : MtT := (yX8_taken, cX8_taken, 3, (some .int), { frames := 5, cells := 0, slots := 0, locals := 126 })
def mX8_groups : MtT := (yX8_groups, cX8_groups, 6, (some .int), { frames := 3, cells := 0, slots := 0, locals := 65 })
def mX8_groupsOf : MtT := (yX8_groupsOf, cX8_groupsOf, 4, (some .int), { frames := 1, cells := 0, slots := 0, locals := 23 })
def mX8_takesPart : MtT := (yX8_takesPart, cX8_takesPart, 2, (some .boolean), { frames := 0, cells := 0, slots := 0, locals := 0 })
def mX8_spreadOf : MtT := (yX8_spreadOf, cX8_spreadOf, 6, (some .int), { frames := 2, cells := 0, slots := 0, locals := 46 })
def mX8_spread : MtT := (yX8_spread, cX8_spread, 1, (some .int), { frames := 3, cells := 0, slots := 0, locals := 71 })
def mX8_share : MtT := (yX8_share, cX8_share, 6, (some .int), { frames := 3, cells := 0, slots := 0, locals := 65 })
def mX8_changed : MtT := (yX8_changed, cX8_changed, 1, none, { frames := 7, cells := 0, slots := 0, locals := 171 })
def mX8_weigh : MtT := (yX8_weigh, cX8_weigh, 4, (some .int), { frames := 8, cells := 0, slots := 0, locals := 191 })
def mX8_reweigh : MtT := (yX8_reweigh, cX8_reweigh, 4, (some .int), { frames := 8, cells := 0, slots := 0, locals := 191 })
def mX8_loadOf : MtT := (yX8_loadOf, cX8_loadOf, 4, (some .int), { frames := 0, cells := 0, slots := 0, locals := 0 })
def mX8_refill : MtT := (yX8_refill, cX8_refill, 4, (some .int), { frames := 8, cells := 0, slots := 0, locals := 191 })
def mX8_divert : MtT := (yX8_divert, cX8_divert, 5, (some .int), { frames := 8, cells := 0, slots := 0, locals := 191 })
def mX8_lift : MtT := (yX8_lift, cX8_lift, 3, (some .int), { frames := 8, cells := 0, slots := 0, locals := 191 })
def mX8_rule : MtT := (yX8_rule, cX8_rule, 5, (some .int), { frames := 8, cells := 0, slots := 0, locals := 191 })
def mX8_rack : MtT := (yX8_rack, cX8_rack, 3, (some .int), { frames := 8, cells := 0, slots := 0, locals := 191 })
def mX8_disk : MtT := (yX8_disk, cX8_disk, 5, (some .int), { frames := 8, cells := 0, slots := 0, locals := 191 })
def mX8_move : MtT := (yX8_move, cX8_move, 5, (some .int), { frames := 8, cells := 0, slots := 0, locals := 191 })
def mX8_isKept : MtT := (yX8_isKept, cX8_isKept, 2, (some .boolean), { frames := 0, cells := 0, slots := 0, locals := 0 })
def mX8_back : MtT := (yX8_back, cX8_back, 4, (some .int), { frames := 8, cells := 0, slots := 0, locals := 191 })
def mX8_placesBy : MtT := (yX8_placesBy, cX8_placesBy, 3, none, { frames := 6, cells := 0, slots := 0, locals := 149 })
def mX8_old : MtT := (yX8_old, cX8_old, 4, (some .int), { frames := 7, cells := 0, slots := 0, locals := 171 })
def mX8_since : MtT := (yX8_since, cX8_since, 11, (some .int), { frames := 7, cells := 0, slots := 0, locals := 171 })
def mX8_placesIf : MtT := (yX8_placesIf, cX8_placesIf, 4, none, { frames := 6, cells := 0, slots := 0, locals := 149 })
def mX8_would : MtT := (yX8_would, cX8_would, 9, (some .int), { frames := 7, cells := 0, slots := 0, locals := 172 })
def mX8_least : MtT := (yX8_least, cX8_least, 4, (some .int), { frames := 7, cells := 0, slots := 0, locals := 172 })
def mX8_even : MtT := (yX8_even, cX8_even, 9, (some .int), { frames := 7, cells := 0, slots := 0, locals := 172 })
def mX8_bitsIn : MtT := (yX8_bitsIn, cX8_bitsIn, 3, (some .int), { frames := 0, cells := 0, slots := 0, locals := 0 })
def mX8_isWanting : MtT := (yX8_isWanting, cX8_isWanting, 2, (some .boolean), { frames := 1, cells := 0, slots := 0, locals := 23 })
def mX8_put : MtT := (yX8_put, cX8_put, 4, (some .int), { frames := 1, cells := 0, slots := 0, locals := 23 })
def mX8_pressing : MtT := (yX8_pressing, cX8_pressing, 5, (some .int), { frames := 2, cells := 0, slots := 0, locals := 44 })
def mX8_copiesTo : MtT := (yX8_copiesTo, cX8_copiesTo, 4, none, { frames := 0, cells := 0, slots := 0, locals := 0 })
def mX8_ticks : MtT := (yX8_ticks, cX8_ticks, 6, (some .int), { frames := 3, cells := 0, slots := 0, locals := 68 })
def mX8_tick : MtT := (yX8_tick, cX8_tick, 2, (some .int), { frames := 4, cells := 0, slots := 0, locals := 93 })
def mX8_up : MtT := (yX8_up, cX8_up, 3, (some .int), { frames := 2, cells := 0, slots := 0, locals := 44 })
def mX8_fails : MtT := (yX8_fails, cX8_fails, 4, (some .int), { frames := 0, cells := 0, slots := 0, locals := 0 })
def mX8_fail : MtT := (yX8_fail, cX8_fail, 2, (some .int), { frames := 2, cells := 0, slots := 0, locals := 44 })
def mX8_held : MtT := (yX8_held, cX8_held, 6, (some .int), { frames := 1, cells := 0, slots := 0, locals := 23 })
def mX8_load : MtT := (yX8_load, cX8_load, 5, (some .int), { frames := 2, cells := 0, slots := 0, locals := 44 })
def mX8_loses : MtT := (yX8_loses, cX8_loses, 6, (some .int), { frames := 3, cells := 0, slots := 0, locals := 65 })
def mX8_lost : MtT := (yX8_lost, cX8_lost, 3, (some .int), { frames := 0, cells := 0, slots := 0, locals := 0 })
def mX8_storm : MtT := (yX8_storm, cX8_storm, 12, (some .int), { frames := 4, cells := 0, slots := 0, locals := 93 })
def mX8_seen : MtT := (yX8_seen, cX8_seen, 4, (some .int), { frames := 2, cells := 0, slots := 0, locals := 44 })
def mX8_forget : MtT := (yX8_forget, cX8_forget, 2, (some .int), { frames := 0, cells := 0, slots := 0, locals := 0 })
def mX8_isAllSo : MtT := (yX8_isAllSo, cX8_isAllSo, 3, (some .boolean), { frames := 1, cells := 0, slots := 0, locals := 23 })
def mX8_weights : MtT := (yX8_weights, cX8_weights, 7, (some .int), { frames := 7, cells := 0, slots := 0, locals := 172 })
def mX8_known : MtT := (yX8_known, cX8_known, 3, (some .int), { frames := 0, cells := 0, slots := 0, locals := 0 })
def mX8_groupsThat : MtT := (yX8_groupsThat, cX8_groupsThat, 5, (some .int), { frames := 2, cells := 0, slots := 0, locals := 44 })
def mX8_full : MtT := (yX8_full, cX8_full, 3, (some .int), { frames := 0, cells := 0, slots := 0, locals := 0 })
def mX8_count : MtT := (yX8_count, cX8_count, 2, (some .int), { frames := 3, cells := 0, slots := 0, locals := 68 })
def mJ6_bitCount_0f7a4 : MtT := (yJ6_bitCount_0f7a4, cJ6_bitCount_0f7a4, 1, (some .int), { frames := 0, cells := 0, slots := 0, locals := 0 })
def mJ9_max_7cf53 : MtT := (yJ9_max_7cf53, cJ9_max_7cf53, 2, (some .int), { frames := 0, cells := 0, slots := 0, locals := 0 })
def mJ9_min_7cf53 : MtT := (yJ9_min_7cf53, cJ9_min_7cf53, 2, (some .int), { frames := 0, cells := 0, slots := 0, locals := 0 })
theorem w_88 : Cond.code yX7_init cX7_init 2 none ∈ lwT := inT 88 (by decide +kernel) rfl
theorem w_68 : Cond.initialized "StrawMap" ∈ lwT := inT 68 (by decide +kernel) rfl
theorem w_86 : Cond.methodLink "StrawMapLaw" 9 yX7_init ∈ lwT := inT 86 (by decide +kernel) rfl
theorem w_87 : Cond.instanceMethod yX7_init ∈ lwT := inT 87 (by decide +kernel) rfl
theorem lk_L_9 : LkI RL 9 0 mX7_init := ⟨w_86, w_87, w_68, w_88, ⟨by decide, by decide, by decide +kernel⟩, rfl, rfl⟩
theorem w_914 : Cond.code yX8_init cX8_init 4 none ∈ lwT := inT 914 (by decide +kernel) rfl
theorem w_81 : Cond.initialized "StrawMapModel" ∈ lwT := inT 81 (by decide +kernel) rfl
theorem w_912 : Cond.methodLink "StrawMapLaw" 12 yX8_init ∈ lwT := inT 912 (by decide +kernel) rfl
theorem w_913 : Cond.instanceMethod yX8_init ∈ lwT := inT 913 (by decide +kernel) rfl
theorem lk_L_12 : LkI RL 12 0 mX8_init := ⟨w_912, w_913, w_81, w_914, ⟨by decide, by decide, by decide +kernel⟩, rfl, rfl⟩
theorem w_558 : Cond.code yX7_write cX7_write 2 (some .int) ∈ lwT := inT 558 (by decide +kernel) rfl
theorem w_555 : Cond.methodLink "StrawMapLaw" 13 yX7_write ∈ lwT := inT 555 (by decide +kernel) rfl
theorem w_556 : Cond.instanceMethod yX7_write ∈ lwT := inT 556 (by decide +kernel) rfl
theorem w_557 : Cond.selects "StrawMap" yX7_write yX7_write ∈ lwT := inT 557 (by decide +kernel) rfl
theorem lk_L_13 : LkV RL 13 1 mX7_write := ⟨w_555, w_556, w_557, w_68, w_558, ⟨by decide, by decide, by decide +kernel⟩⟩
theorem w_1093 : Cond.code yX8_write cX8_write 2 (some .int) ∈ lwT := inT 1093 (by decide +kernel) rfl
theorem w_1090 : Cond.methodLink "StrawMapLaw" 17 yX8_write ∈ lwT := inT 1090 (by decide +kernel) rfl
theorem w_1091 : Cond.instanceMethod yX8_write ∈ lwT := inT 1091 (by decide +kernel) rfl
theorem w_1092 : Cond.selects "StrawMapModel" yX8_write yX8_write ∈ lwT := inT 1092 (by decide +kernel) rfl
theorem lk_L_17 : LkV RL 17 1 mX8_write := ⟨w_1090, w_1091, w_1092, w_81, w_1093, ⟨by decide, by decide, by decide +kernel⟩⟩
theorem w_562 : Cond.code yX7_wipe cX7_wipe 2 (some .int) ∈ lwT := inT 562 (by decide +kernel) rfl
theorem w_559 : Cond.methodLink "StrawMapLaw" 18 yX7_wipe ∈ lwT := inT 559 (by decide +kernel) rfl
theorem w_560 : Cond.instanceMethod yX7_wipe ∈ lwT := inT 560 (by decide +kernel) rfl
theorem w_561 : Cond.selects "StrawMap" yX7_wipe yX7_wipe ∈ lwT := inT 561 (by decide +kernel) rfl
theorem lk_L_18 : LkV RL 18 0 mX7_wipe := ⟨w_559, w_560, w_561, w_68, w_562, ⟨by decide, by decide, by decide +kernel⟩⟩
theorem w_1097 : Cond.code yX8_wipe cX8_wipe 2 (some .int) ∈ lwT := inT 1097 (by decide +kernel) rfl
theorem w_1094 : Cond.methodLink "StrawMapLaw" 22 yX8_wipe ∈ lwT := inT 1094 (by decide +kernel) rfl
theorem w_1095 : Cond.instanceMethod yX8_wipe ∈ lwT := inT 1095 (by decide +kernel) rfl
theorem w_1096 : Cond.selects "StrawMapModel" yX8_wipe yX8_wipe ∈ lwT := inT 1096 (by decide +kernel) rfl
theorem lk_L_22 : LkV RL 22 0 mX8_wipe := ⟨w_1094, w_1095, w_1096, w_81, w_1097, ⟨by decide, by decide, by decide +kernel⟩⟩
theorem w_566 : Cond.code yX7_fault cX7_fault 1 (some .int) ∈ lwT := inT 566 (by decide +kernel) rfl
theorem w_563 : Cond.methodLink "StrawMapLaw" 23 yX7_fault ∈ lwT := inT 563 (by decide +kernel) rfl
theorem w_564 : Cond.instanceMethod yX7_fault ∈ lwT := inT 564 (by decide +kernel) rfl
theorem w_565 : Cond.selects "StrawMap" yX7_fault yX7_fault ∈ lwT := inT 565 (by decide +kernel) rfl
theorem lk_L_23 : LkV RL 23 0 mX7_fault := ⟨w_563, w_564, w_565, w_68, w_566, ⟨by decide, by decide, by decide +kernel⟩⟩
theorem w_1101 : Cond.code yX8_fault cX8_fault 1 (some .int) ∈ lwT := inT 1101 (by decide +kernel) rfl
theorem w_1098 : Cond.methodLink "StrawMapLaw" 26 yX8_fault ∈ lwT := inT 1098 (by decide +kernel) rfl
theorem w_1099 : Cond.instanceMethod yX8_fault ∈ lwT := inT 1099 (by decide +kernel) rfl
theorem w_1100 : Cond.selects "StrawMapModel" yX8_fault yX8_fault ∈ lwT := inT 1100 (by decide +kernel) rfl
theorem lk_L_26 : LkV RL 26 0 mX8_fault := ⟨w_1098, w_1099, w_1100, w_81, w_1101, ⟨by decide, by decide, by decide +kernel⟩⟩
theorem w_570 : Cond.code yX7_lay cX7_lay 1 (some .int) ∈ lwT := inT 570 (by decide +kernel) rfl
theorem w_567 : Cond.methodLink "StrawMapLaw" 27 yX7_lay ∈ lwT := inT 567 (by decide +kernel) rfl
theorem w_568 : Cond.instanceMethod yX7_lay ∈ lwT := inT 568 (by decide +kernel) rfl
theorem w_569 : Cond.selects "StrawMap" yX7_lay yX7_lay ∈ lwT := inT 569 (by decide +kernel) rfl
theorem lk_L_27 : LkV RL 27 0 mX7_lay := ⟨w_567, w_568, w_569, w_68, w_570, ⟨by decide, by decide, by decide +kernel⟩⟩
theorem w_1133 : Cond.code yX8_lay cX8_lay 1 (some .int) ∈ lwT := inT 1133 (by decide +kernel) rfl
theorem w_1130 : Cond.methodLink "StrawMapLaw" 30 yX8_lay ∈ lwT := inT 1130 (by decide +kernel) rfl
theorem w_1131 : Cond.instanceMethod yX8_lay ∈ lwT := inT 1131 (by decide +kernel) rfl
theorem w_1132 : Cond.selects "StrawMapModel" yX8_lay yX8_lay ∈ lwT := inT 1132 (by decide +kernel) rfl
theorem lk_L_30 : LkV RL 30 0 mX8_lay := ⟨w_1130, w_1131, w_1132, w_81, w_1133, ⟨by decide, by decide, by decide +kernel⟩⟩
theorem w_574 : Cond.code yX7_node cX7_node 4 (some .int) ∈ lwT := inT 574 (by decide +kernel) rfl
theorem w_571 : Cond.methodLink "StrawMapLaw" 31 yX7_node ∈ lwT := inT 571 (by decide +kernel) rfl
theorem w_572 : Cond.instanceMethod yX7_node ∈ lwT := inT 572 (by decide +kernel) rfl
theorem w_573 : Cond.selects "StrawMap" yX7_node yX7_node ∈ lwT := inT 573 (by decide +kernel) rfl
theorem lk_L_31 : LkV RL 31 2 mX7_node := ⟨w_571, w_572, w_573, w_68, w_574, ⟨by decide, by decide, by decide +kernel⟩⟩
theorem w_1141 : Cond.code yX8_node cX8_node 5 (some .int) ∈ lwT := inT 1141 (by decide +kernel) rfl
theorem w_1138 : Cond.methodLink "StrawMapLaw" 35 yX8_node ∈ lwT := inT 1138 (by decide +kernel) rfl
theorem w_1139 : Cond.instanceMethod yX8_node ∈ lwT := inT 1139 (by decide +kernel) rfl
theorem w_1140 : Cond.selects "StrawMapModel" yX8_node yX8_node ∈ lwT := inT 1140 (by decide +kernel) rfl
theorem lk_L_35 : LkV RL 35 2 mX8_node := ⟨w_1138, w_1139, w_1140, w_81, w_1141, ⟨by decide, by decide, by decide +kernel⟩⟩
theorem w_597 : Cond.code yX7_override cX7_override 3 (some .int) ∈ lwT := inT 597 (by decide +kernel) rfl
theorem w_594 : Cond.methodLink "StrawMapLaw" 36 yX7_override ∈ lwT := inT 594 (by decide +kernel) rfl
theorem w_595 : Cond.instanceMethod yX7_override ∈ lwT := inT 595 (by decide +kernel) rfl
theorem w_596 : Cond.selects "StrawMap" yX7_override yX7_override ∈ lwT := inT 596 (by decide +kernel) rfl
theorem lk_L_36 : LkV RL 36 2 mX7_override := ⟨w_594, w_595, w_596, w_68, w_597, ⟨by decide, by decide, by decide +kernel⟩⟩
theorem w_1145 : Cond.code yX8_override cX8_override 3 (some .int) ∈ lwT := inT 1145 (by decide +kernel) rfl
theorem w_1142 : Cond.methodLink "StrawMapLaw" 39 yX8_override ∈ lwT := inT 1142 (by decide +kernel) rfl
theorem w_1143 : Cond.instanceMethod yX8_override ∈ lwT := inT 1143 (by decide +kernel) rfl
theorem w_1144 : Cond.selects "StrawMapModel" yX8_override yX8_override ∈ lwT := inT 1144 (by decide +kernel) rfl
theorem lk_L_39 : LkV RL 39 2 mX8_override := ⟨w_1142, w_1143, w_1144, w_81, w_1145, ⟨by decide, by decide, by decide +kernel⟩⟩
theorem w_601 : Cond.code yX7_weigh cX7_weigh 4 (some .int) ∈ lwT := inT 601 (by decide +kernel) rfl
theorem w_598 : Cond.methodLink "StrawMapLaw" 40 yX7_weigh ∈ lwT := inT 598 (by decide +kernel) rfl
theorem w_599 : Cond.instanceMethod yX7_weigh ∈ lwT := inT 599 (by decide +kernel) rfl
theorem w_600 : Cond.selects "StrawMap" yX7_weigh yX7_weigh ∈ lwT := inT 600 (by decide +kernel) rfl
theorem lk_L_40 : LkV RL 40 2 mX7_weigh := ⟨w_598, w_599, w_600, w_68, w_601, ⟨by decide, by decide, by decide +kernel⟩⟩
theorem w_1203 : Cond.code yX8_weigh cX8_weigh 4 (some .int) ∈ lwT := inT 1203 (by decide +kernel) rfl
theorem w_1200 : Cond.methodLink "StrawMapLaw" 43 yX8_weigh ∈ lwT := inT 1200 (by decide +kernel) rfl
theorem w_1201 : Cond.instanceMethod yX8_weigh ∈ lwT := inT 1201 (by decide +kernel) rfl
theorem w_1202 : Cond.selects "StrawMapModel" yX8_weigh yX8_weigh ∈ lwT := inT 1202 (by decide +kernel) rfl
theorem lk_L_43 : LkV RL 43 2 mX8_weigh := ⟨w_1200, w_1201, w_1202, w_81, w_1203, ⟨by decide, by decide, by decide +kernel⟩⟩
theorem w_610 : Cond.code yX7_reweigh cX7_reweigh 4 (some .int) ∈ lwT := inT 610 (by decide +kernel) rfl
theorem w_607 : Cond.methodLink "StrawMapLaw" 44 yX7_reweigh ∈ lwT := inT 607 (by decide +kernel) rfl
theorem w_608 : Cond.instanceMethod yX7_reweigh ∈ lwT := inT 608 (by decide +kernel) rfl
theorem w_609 : Cond.selects "StrawMap" yX7_reweigh yX7_reweigh ∈ lwT := inT 609 (by decide +kernel) rfl
theorem lk_L_44 : LkV RL 44 2 mX7_reweigh := ⟨w_607, w_608, w_609, w_68, w_610, ⟨by decide, by decide, by decide +kernel⟩⟩
theorem w_1211 : Cond.code yX8_reweigh cX8_reweigh 4 (some .int) ∈ lwT := inT 1211 (by decide +kernel) rfl
theorem w_1208 : Cond.methodLink "StrawMapLaw" 47 yX8_reweigh ∈ lwT := inT 1208 (by decide +kernel) rfl
theorem w_1209 : Cond.instanceMethod yX8_reweigh ∈ lwT := inT 1209 (by decide +kernel) rfl
theorem w_1210 : Cond.selects "StrawMapModel" yX8_reweigh yX8_reweigh ∈ lwT := inT 1210 (by decide +kernel) rfl
theorem lk_L_47 : LkV RL 47 2 mX8_reweigh := ⟨w_1208, w_1209, w_1210, w_81, w_1211, ⟨by decide, by decide, by decide +kernel⟩⟩
theorem w_614 : Cond.code yX7_refill cX7_refill 3 (some .int) ∈ lwT := inT 614 (by decide +kernel) rfl
theorem w_611 : Cond.methodLink "StrawMapLaw" 48 yX7_refill ∈ lwT := inT 611 (by decide +kernel) rfl
theorem w_612 : Cond.instanceMethod yX7_refill ∈ lwT := inT 612 (by decide +kernel) rfl
theorem w_613 : Cond.selects "StrawMap" yX7_refill yX7_refill ∈ lwT := inT 613 (by decide +kernel) rfl
theorem lk_L_48 : LkV RL 48 0 mX7_refill := ⟨w_611, w_612, w_613, w_68, w_614, ⟨by decide, by decide, by decide +kernel⟩⟩
theorem w_1215 : Cond.code yX8_refill cX8_refill 4 (some .int) ∈ lwT := inT 1215 (by decide +kernel) rfl
theorem w_1212 : Cond.methodLink "StrawMapLaw" 51 yX8_refill ∈ lwT := inT 1212 (by decide +kernel) rfl
theorem w_1213 : Cond.instanceMethod yX8_refill ∈ lwT := inT 1213 (by decide +kernel) rfl
theorem w_1214 : Cond.selects "StrawMapModel" yX8_refill yX8_refill ∈ lwT := inT 1214 (by decide +kernel) rfl
theorem lk_L_51 : LkV RL 51 0 mX8_refill := ⟨w_1212, w_1213, w_1214, w_81, w_1215, ⟨by decide, by decide, by decide +kernel⟩⟩
theorem w_630 : Cond.code yX7_divert cX7_divert 4 (some .int) ∈ lwT := inT 630 (by decide +kernel) rfl
theorem w_627 : Cond.methodLink "StrawMapLaw" 52 yX7_divert ∈ lwT := inT 627 (by decide +kernel) rfl
theorem w_628 : Cond.instanceMethod yX7_divert ∈ lwT := inT 628 (by decide +kernel) rfl
theorem w_629 : Cond.selects "StrawMap" yX7_divert yX7_divert ∈ lwT := inT 629 (by decide +kernel) rfl
theorem lk_L_52 : LkV RL 52 3 mX7_divert := ⟨w_627, w_628, w_629, w_68, w_630, ⟨by decide, by decide, by decide +kernel⟩⟩
theorem w_1223 : Cond.code yX8_divert cX8_divert 5 (some .int) ∈ lwT := inT 1223 (by decide +kernel) rfl
theorem w_1220 : Cond.methodLink "StrawMapLaw" 56 yX8_divert ∈ lwT := inT 1220 (by decide +kernel) rfl
theorem w_1221 : Cond.instanceMethod yX8_divert ∈ lwT := inT 1221 (by decide +kernel) rfl
theorem w_1222 : Cond.selects "StrawMapModel" yX8_divert yX8_divert ∈ lwT := inT 1222 (by decide +kernel) rfl
theorem lk_L_56 : LkV RL 56 3 mX8_divert := ⟨w_1220, w_1221, w_1222, w_81, w_1223, ⟨by decide, by decide, by decide +kernel⟩⟩
theorem w_645 : Cond.code yX7_lift cX7_lift 2 (some .int) ∈ lwT := inT 645 (by decide +kernel) rfl
theorem w_642 : Cond.methodLink "StrawMapLaw" 57 yX7_lift ∈ lwT := inT 642 (by decide +kernel) rfl
theorem w_643 : Cond.instanceMethod yX7_lift ∈ lwT := inT 643 (by decide +kernel) rfl
theorem w_644 : Cond.selects "StrawMap" yX7_lift yX7_lift ∈ lwT := inT 644 (by decide +kernel) rfl
theorem lk_L_57 : LkV RL 57 1 mX7_lift := ⟨w_642, w_643, w_644, w_68, w_645, ⟨by decide, by decide, by decide +kernel⟩⟩
theorem w_1227 : Cond.code yX8_lift cX8_lift 3 (some .int) ∈ lwT := inT 1227 (by decide +kernel) rfl
theorem w_1224 : Cond.methodLink "StrawMapLaw" 60 yX8_lift ∈ lwT := inT 1224 (by decide +kernel) rfl
theorem w_1225 : Cond.instanceMethod yX8_lift ∈ lwT := inT 1225 (by decide +kernel) rfl
theorem w_1226 : Cond.selects "StrawMapModel" yX8_lift yX8_lift ∈ lwT := inT 1226 (by decide +kernel) rfl
theorem lk_L_60 : LkV RL 60 1 mX8_lift := ⟨w_1224, w_1225, w_1226, w_81, w_1227, ⟨by decide, by decide, by decide +kernel⟩⟩
theorem w_653 : Cond.code yX7_rule cX7_rule 5 (some .int) ∈ lwT := inT 653 (by decide +kernel) rfl
theorem w_650 : Cond.methodLink "StrawMapLaw" 61 yX7_rule ∈ lwT := inT 650 (by decide +kernel) rfl
theorem w_651 : Cond.instanceMethod yX7_rule ∈ lwT := inT 651 (by decide +kernel) rfl
theorem w_652 : Cond.selects "StrawMap" yX7_rule yX7_rule ∈ lwT := inT 652 (by decide +kernel) rfl
theorem lk_L_61 : LkV RL 61 3 mX7_rule := ⟨w_650, w_651, w_652, w_68, w_653, ⟨by decide, by decide, by decide +kernel⟩⟩
theorem w_1231 : Cond.code yX8_rule cX8_rule 5 (some .int) ∈ lwT := inT 1231 (by decide +kernel) rfl
theorem w_1228 : Cond.methodLink "StrawMapLaw" 64 yX8_rule ∈ lwT := inT 1228 (by decide +kernel) rfl
theorem w_1229 : Cond.instanceMethod yX8_rule ∈ lwT := inT 1229 (by decide +kernel) rfl
theorem w_1230 : Cond.selects "StrawMapModel" yX8_rule yX8_rule ∈ lwT := inT 1230 (by decide +kernel) rfl
theorem lk_L_64 : LkV RL 64 3 mX8_rule := ⟨w_1228, w_1229, w_1230, w_81, w_1231, ⟨by decide, by decide, by decide +kernel⟩⟩
theorem w_659 : Cond.code yX7_rack cX7_rack 2 (some .int) ∈ lwT := inT 659 (by decide +kernel) rfl
theorem w_656 : Cond.methodLink "StrawMapLaw" 65 yX7_rack ∈ lwT := inT 656 (by decide +kernel) rfl
theorem w_657 : Cond.instanceMethod yX7_rack ∈ lwT := inT 657 (by decide +kernel) rfl
theorem w_658 : Cond.selects "StrawMap" yX7_rack yX7_rack ∈ lwT := inT 658 (by decide +kernel) rfl
theorem lk_L_65 : LkV RL 65 1 mX7_rack := ⟨w_656, w_657, w_658, w_68, w_659, ⟨by decide, by decide, by decide +kernel⟩⟩
theorem w_1235 : Cond.code yX8_rack cX8_rack 3 (some .int) ∈ lwT := inT 1235 (by decide +kernel) rfl
theorem w_1232 : Cond.methodLink "StrawMapLaw" 68 yX8_rack ∈ lwT := inT 1232 (by decide +kernel) rfl
theorem w_1233 : Cond.instanceMethod yX8_rack ∈ lwT := inT 1233 (by decide +kernel) rfl
theorem w_1234 : Cond.selects "StrawMapModel" yX8_rack yX8_rack ∈ lwT := inT 1234 (by decide +kernel) rfl
theorem lk_L_68 : LkV RL 68 1 mX8_rack := ⟨w_1232, w_1233, w_1234, w_81, w_1235, ⟨by decide, by decide, by decide +kernel⟩⟩
theorem w_665 : Cond.code yX7_disk cX7_disk 5 (some .int) ∈ lwT := inT 665 (by decide +kernel) rfl
theorem w_662 : Cond.methodLink "StrawMapLaw" 69 yX7_disk ∈ lwT := inT 662 (by decide +kernel) rfl
theorem w_663 : Cond.instanceMethod yX7_disk ∈ lwT := inT 663 (by decide +kernel) rfl
theorem w_664 : Cond.selects "StrawMap" yX7_disk yX7_disk ∈ lwT := inT 664 (by decide +kernel) rfl
theorem lk_L_69 : LkV RL 69 3 mX7_disk := ⟨w_662, w_663, w_664, w_68, w_665, ⟨by decide, by decide, by decide +kernel⟩⟩
theorem w_1239 : Cond.code yX8_disk cX8_disk 5 (some .int) ∈ lwT := inT 1239 (by decide +kernel) rfl
theorem w_1236 : Cond.methodLink "StrawMapLaw" 72 yX8_disk ∈ lwT := inT 1236 (by decide +kernel) rfl
theorem w_1237 : Cond.instanceMethod yX8_disk ∈ lwT := inT 1237 (by decide +kernel) rfl
theorem w_1238 : Cond.selects "StrawMapModel" yX8_disk yX8_disk ∈ lwT := inT 1238 (by decide +kernel) rfl
theorem lk_L_72 : LkV RL 72 3 mX8_disk := ⟨w_1236, w_1237, w_1238, w_81, w_1239, ⟨by decide, by decide, by decide +kernel⟩⟩
theorem w_675 : Cond.code yX7_move cX7_move 7 (some .int) ∈ lwT := inT 675 (by decide +kernel) rfl
theorem w_672 : Cond.methodLink "StrawMapLaw" 73 yX7_move ∈ lwT := inT 672 (by decide +kernel) rfl
theorem w_673 : Cond.instanceMethod yX7_move ∈ lwT := inT 673 (by decide +kernel) rfl
theorem w_674 : Cond.selects "StrawMap" yX7_move yX7_move ∈ lwT := inT 674 (by decide +kernel) rfl
theorem lk_L_73 : LkV RL 73 2 mX7_move := ⟨w_672, w_673, w_674, w_68, w_675, ⟨by decide, by decide, by decide +kernel⟩⟩
theorem w_1243 : Cond.code yX8_move cX8_move 5 (some .int) ∈ lwT := inT 1243 (by decide +kernel) rfl
theorem w_1240 : Cond.methodLink "StrawMapLaw" 76 yX8_move ∈ lwT := inT 1240 (by decide +kernel) rfl
theorem w_1241 : Cond.instanceMethod yX8_move ∈ lwT := inT 1241 (by decide +kernel) rfl
theorem w_1242 : Cond.selects "StrawMapModel" yX8_move yX8_move ∈ lwT := inT 1242 (by decide +kernel) rfl
theorem lk_L_76 : LkV RL 76 2 mX8_move := ⟨w_1240, w_1241, w_1242, w_81, w_1243, ⟨by decide, by decide, by decide +kernel⟩⟩
theorem w_679 : Cond.code yX7_back cX7_back 3 (some .int) ∈ lwT := inT 679 (by decide +kernel) rfl
theorem w_676 : Cond.methodLink "StrawMapLaw" 77 yX7_back ∈ lwT := inT 676 (by decide +kernel) rfl
theorem w_677 : Cond.instanceMethod yX7_back ∈ lwT := inT 677 (by decide +kernel) rfl
theorem w_678 : Cond.selects "StrawMap" yX7_back yX7_back ∈ lwT := inT 678 (by decide +kernel) rfl
theorem lk_L_77 : LkV RL 77 1 mX7_back := ⟨w_676, w_677, w_678, w_68, w_679, ⟨by decide, by decide, by decide +kernel⟩⟩
theorem w_1247 : Cond.code yX8_back cX8_back 4 (some .int) ∈ lwT := inT 1247 (by decide +kernel) rfl
theorem w_1244 : Cond.methodLink "StrawMapLaw" 80 yX8_back ∈ lwT := inT 1244 (by decide +kernel) rfl
theorem w_1245 : Cond.instanceMethod yX8_back ∈ lwT := inT 1245 (by decide +kernel) rfl
theorem w_1246 : Cond.selects "StrawMapModel" yX8_back yX8_back ∈ lwT := inT 1246 (by decide +kernel) rfl
theorem lk_L_80 : LkV RL 80 1 mX8_back := ⟨w_1244, w_1245, w_1246, w_81, w_1247, ⟨by decide, by decide, by decide +kernel⟩⟩
theorem w_687 : Cond.code yX7_group cX7_group 2 (some .int) ∈ lwT := inT 687 (by decide +kernel) rfl
theorem w_684 : Cond.methodLink "StrawMapLaw" 81 yX7_group ∈ lwT := inT 684 (by decide +kernel) rfl
theorem w_685 : Cond.instanceMethod yX7_group ∈ lwT := inT 685 (by decide +kernel) rfl
theorem w_686 : Cond.selects "StrawMap" yX7_group yX7_group ∈ lwT := inT 686 (by decide +kernel) rfl
theorem lk_L_81 : LkV RL 81 1 mX7_group := ⟨w_684, w_685, w_686, w_68, w_687, ⟨by decide, by decide, by decide +kernel⟩⟩
theorem w_1149 : Cond.code yX8_group cX8_group 2 (some .int) ∈ lwT := inT 1149 (by decide +kernel) rfl
theorem w_1146 : Cond.methodLink "StrawMapLaw" 84 yX8_group ∈ lwT := inT 1146 (by decide +kernel) rfl
theorem w_1147 : Cond.instanceMethod yX8_group ∈ lwT := inT 1147 (by decide +kernel) rfl
theorem w_1148 : Cond.selects "StrawMapModel" yX8_group yX8_group ∈ lwT := inT 1148 (by decide +kernel) rfl
theorem lk_L_84 : LkV RL 84 1 mX8_group := ⟨w_1146, w_1147, w_1148, w_81, w_1149, ⟨by decide, by decide, by decide +kernel⟩⟩
theorem w_698 : Cond.code yX7_draw cX7_draw 4 (some .int) ∈ lwT := inT 698 (by decide +kernel) rfl
theorem w_695 : Cond.methodLink "StrawMapLaw" 85 yX7_draw ∈ lwT := inT 695 (by decide +kernel) rfl
theorem w_696 : Cond.instanceMethod yX7_draw ∈ lwT := inT 696 (by decide +kernel) rfl
theorem w_697 : Cond.selects "StrawMap" yX7_draw yX7_draw ∈ lwT := inT 697 (by decide +kernel) rfl
theorem lk_L_85 : LkV RL 85 3 mX7_draw := ⟨w_695, w_696, w_697, w_68, w_698, ⟨by decide, by decide, by decide +kernel⟩⟩
theorem w_1154 : Cond.code yX8_draw cX8_draw 4 (some .int) ∈ lwT := inT 1154 (by decide +kernel) rfl
theorem w_1151 : Cond.methodLink "StrawMapLaw" 88 yX8_draw ∈ lwT := inT 1151 (by decide +kernel) rfl
theorem w_1152 : Cond.instanceMethod yX8_draw ∈ lwT := inT 1152 (by decide +kernel) rfl
theorem w_1153 : Cond.selects "StrawMapModel" yX8_draw yX8_draw ∈ lwT := inT 1153 (by decide +kernel) rfl
theorem lk_L_88 : LkV RL 88 3 mX8_draw := ⟨w_1151, w_1152, w_1153, w_81, w_1154, ⟨by decide, by decide, by decide +kernel⟩⟩
theorem w_703 : Cond.code yX7_want cX7_want 2 (some .int) ∈ lwT := inT 703 (by decide +kernel) rfl
theorem w_700 : Cond.methodLink "StrawMapLaw" 89 yX7_want ∈ lwT := inT 700 (by decide +kernel) rfl
theorem w_701 : Cond.instanceMethod yX7_want ∈ lwT := inT 701 (by decide +kernel) rfl
theorem w_702 : Cond.selects "StrawMap" yX7_want yX7_want ∈ lwT := inT 702 (by decide +kernel) rfl
theorem lk_L_89 : LkV RL 89 1 mX7_want := ⟨w_700, w_701, w_702, w_68, w_703, ⟨by decide, by decide, by decide +kernel⟩⟩
theorem w_1161 : Cond.code yX8_want cX8_want 2 (some .int) ∈ lwT := inT 1161 (by decide +kernel) rfl
theorem w_1158 : Cond.methodLink "StrawMapLaw" 92 yX8_want ∈ lwT := inT 1158 (by decide +kernel) rfl
theorem w_1159 : Cond.instanceMethod yX8_want ∈ lwT := inT 1159 (by decide +kernel) rfl
theorem w_1160 : Cond.selects "StrawMapModel" yX8_want yX8_want ∈ lwT := inT 1160 (by decide +kernel) rfl
theorem lk_L_92 : LkV RL 92 1 mX8_want := ⟨w_1158, w_1159, w_1160, w_81, w_1161, ⟨by decide, by decide, by decide +kernel⟩⟩
theorem w_708 : Cond.code yX7_chosen cX7_chosen 5 (some .int) ∈ lwT := inT 708 (by decide +kernel) rfl
theorem w_705 : Cond.methodLink "StrawMapLaw" 93 yX7_chosen ∈ lwT := inT 705 (by decide +kernel) rfl
theorem w_706 : Cond.instanceMethod yX7_chosen ∈ lwT := inT 706 (by decide +kernel) rfl
theorem w_707 : Cond.selects "StrawMap" yX7_chosen yX7_chosen ∈ lwT := inT 707 (by decide +kernel) rfl
theorem lk_L_93 : LkV RL 93 3 mX7_chosen := ⟨w_705, w_706, w_707, w_68, w_708, ⟨by decide, by decide, by decide +kernel⟩⟩
theorem w_1165 : Cond.code yX8_chosen cX8_chosen 4 (some .int) ∈ lwT := inT 1165 (by decide +kernel) rfl
theorem w_1162 : Cond.methodLink "StrawMapLaw" 96 yX8_chosen ∈ lwT := inT 1162 (by decide +kernel) rfl
theorem w_1163 : Cond.instanceMethod yX8_chosen ∈ lwT := inT 1163 (by decide +kernel) rfl
theorem w_1164 : Cond.selects "StrawMapModel" yX8_chosen yX8_chosen ∈ lwT := inT 1164 (by decide +kernel) rfl
theorem lk_L_96 : LkV RL 96 3 mX8_chosen := ⟨w_1162, w_1163, w_1164, w_81, w_1165, ⟨by decide, by decide, by decide +kernel⟩⟩
theorem w_713 : Cond.code yX7_place cX7_place 3 (some .int) ∈ lwT := inT 713 (by decide +kernel) rfl
theorem w_710 : Cond.methodLink "StrawMapLaw" 97 yX7_place ∈ lwT := inT 710 (by decide +kernel) rfl
theorem w_711 : Cond.instanceMethod yX7_place ∈ lwT := inT 711 (by decide +kernel) rfl
theorem w_712 : Cond.selects "StrawMap" yX7_place yX7_place ∈ lwT := inT 712 (by decide +kernel) rfl
theorem lk_L_97 : LkV RL 97 2 mX7_place := ⟨w_710, w_711, w_712, w_68, w_713, ⟨by decide, by decide, by decide +kernel⟩⟩
theorem w_1169 : Cond.code yX8_place cX8_place 3 (some .int) ∈ lwT := inT 1169 (by decide +kernel) rfl
theorem w_1166 : Cond.methodLink "StrawMapLaw" 100 yX8_place ∈ lwT := inT 1166 (by decide +kernel) rfl
theorem w_1167 : Cond.instanceMethod yX8_place ∈ lwT := inT 1167 (by decide +kernel) rfl
theorem w_1168 : Cond.selects "StrawMapModel" yX8_place yX8_place ∈ lwT := inT 1168 (by decide +kernel) rfl
theorem lk_L_100 : LkV RL 100 2 mX8_place := ⟨w_1166, w_1167, w_1168, w_81, w_1169, ⟨by decide, by decide, by decide +kernel⟩⟩
theorem w_724 : Cond.code yX7_taken cX7_taken 3 (some .int) ∈ lwT := inT 724 (by decide +kernel) rfl
theorem w_721 : Cond.methodLink "StrawMapLaw" 101 yX7_taken ∈ lwT := inT 721 (by decide +kernel) rfl
theorem w_722 : Cond.instanceMethod yX7_taken ∈ lwT := inT 722 (by decide +kernel) rfl
theorem w_723 : Cond.selects "StrawMap" yX7_taken yX7_taken ∈ lwT := inT 723 (by decide +kernel) rfl
theorem lk_L_101 : LkV RL 101 2 mX7_taken := ⟨w_721, w_722, w_723, w_68, w_724, ⟨by decide, by decide, by decide +kernel⟩⟩
theorem w_1173 : Cond.code yX8_taken cX8_taken 3 (some .int) ∈ lwT := inT 1173 (by decide +kernel) rfl
theorem w_1170 : Cond.methodLink "StrawMapLaw" 104 yX8_taken ∈ lwT := inT 1170 (by decide +kernel) rfl
theorem w_1171 : Cond.instanceMethod yX8_taken ∈ lwT := inT 1171 (by decide +kernel) rfl
theorem w_1172 : Cond.selects "StrawMapModel" yX8_taken yX8_taken ∈ lwT := inT 1172 (by decide +kernel) rfl
theorem lk_L_104 : LkV RL 104 2 mX8_taken := ⟨w_1170, w_1171, w_1172, w_81, w_1173, ⟨by decide, by decide, by decide +kernel⟩⟩
theorem w_728 : Cond.code yX7_groups cX7_groups 5 (some .int) ∈ lwT := inT 728 (by decide +kernel) rfl
theorem w_725 : Cond.methodLink "StrawMapLaw" 105 yX7_groups ∈ lwT := inT 725 (by decide +kernel) rfl
theorem w_726 : Cond.instanceMethod yX7_groups ∈ lwT := inT 726 (by decide +kernel) rfl
theorem w_727 : Cond.selects "StrawMap" yX7_groups yX7_groups ∈ lwT := inT 727 (by decide +kernel) rfl
theorem lk_L_105 : LkV RL 105 1 mX7_groups := ⟨w_725, w_726, w_727, w_68, w_728, ⟨by decide, by decide, by decide +kernel⟩⟩
theorem w_1177 : Cond.code yX8_groups cX8_groups 6 (some .int) ∈ lwT := inT 1177 (by decide +kernel) rfl
theorem w_1174 : Cond.methodLink "StrawMapLaw" 108 yX8_groups ∈ lwT := inT 1174 (by decide +kernel) rfl
theorem w_1175 : Cond.instanceMethod yX8_groups ∈ lwT := inT 1175 (by decide +kernel) rfl
theorem w_1176 : Cond.selects "StrawMapModel" yX8_groups yX8_groups ∈ lwT := inT 1176 (by decide +kernel) rfl
theorem lk_L_108 : LkV RL 108 1 mX8_groups := ⟨w_1174, w_1175, w_1176, w_81, w_1177, ⟨by decide, by decide, by decide +kernel⟩⟩
theorem w_733 : Cond.code yX7_spread cX7_spread 1 (some .int) ∈ lwT := inT 733 (by decide +kernel) rfl
theorem w_730 : Cond.methodLink "StrawMapLaw" 109 yX7_spread ∈ lwT := inT 730 (by decide +kernel) rfl
theorem w_731 : Cond.instanceMethod yX7_spread ∈ lwT := inT 731 (by decide +kernel) rfl
theorem w_732 : Cond.selects "StrawMap" yX7_spread yX7_spread ∈ lwT := inT 732 (by decide +kernel) rfl
theorem lk_L_109 : LkV RL 109 0 mX7_spread := ⟨w_730, w_731, w_732, w_68, w_733, ⟨by decide, by decide, by decide +kernel⟩⟩
theorem w_1181 : Cond.code yX8_spread cX8_spread 1 (some .int) ∈ lwT := inT 1181 (by decide +kernel) rfl
theorem w_1178 : Cond.methodLink "StrawMapLaw" 112 yX8_spread ∈ lwT := inT 1178 (by decide +kernel) rfl
theorem w_1179 : Cond.instanceMethod yX8_spread ∈ lwT := inT 1179 (by decide +kernel) rfl
theorem w_1180 : Cond.selects "StrawMapModel" yX8_spread yX8_spread ∈ lwT := inT 1180 (by decide +kernel) rfl
theorem lk_L_112 : LkV RL 112 0 mX8_spread := ⟨w_1178, w_1179, w_1180, w_81, w_1181, ⟨by decide, by decide, by decide +kernel⟩⟩
theorem w_755 : Cond.code yX7_share cX7_share 6 (some .int) ∈ lwT := inT 755 (by decide +kernel) rfl
theorem w_752 : Cond.methodLink "StrawMapLaw" 113 yX7_share ∈ lwT := inT 752 (by decide +kernel) rfl
theorem w_753 : Cond.instanceMethod yX7_share ∈ lwT := inT 753 (by decide +kernel) rfl
theorem w_754 : Cond.selects "StrawMap" yX7_share yX7_share ∈ lwT := inT 754 (by decide +kernel) rfl
theorem lk_L_113 : LkV RL 113 2 mX7_share := ⟨w_752, w_753, w_754, w_68, w_755, ⟨by decide, by decide, by decide +kernel⟩⟩
theorem w_1199 : Cond.code yX8_share cX8_share 6 (some .int) ∈ lwT := inT 1199 (by decide +kernel) rfl
theorem w_1196 : Cond.methodLink "StrawMapLaw" 116 yX8_share ∈ lwT := inT 1196 (by decide +kernel) rfl
theorem w_1197 : Cond.instanceMethod yX8_share ∈ lwT := inT 1197 (by decide +kernel) rfl
theorem w_1198 : Cond.selects "StrawMapModel" yX8_share yX8_share ∈ lwT := inT 1198 (by decide +kernel) rfl
theorem lk_L_116 : LkV RL 116 2 mX8_share := ⟨w_1196, w_1197, w_1198, w_81, w_1199, ⟨by decide, by decide, by decide +kernel⟩⟩
theorem w_762 : Cond.code yX7_old cX7_old 5 (some .int) ∈ lwT := inT 762 (by decide +kernel) rfl
theorem w_759 : Cond.methodLink "StrawMapLaw" 117 yX7_old ∈ lwT := inT 759 (by decide +kernel) rfl
theorem w_760 : Cond.instanceMethod yX7_old ∈ lwT := inT 760 (by decide +kernel) rfl
theorem w_761 : Cond.selects "StrawMap" yX7_old yX7_old ∈ lwT := inT 761 (by decide +kernel) rfl
theorem lk_L_117 : LkV RL 117 3 mX7_old := ⟨w_759, w_760, w_761, w_68, w_762, ⟨by decide, by decide, by decide +kernel⟩⟩
theorem w_1255 : Cond.code yX8_old cX8_old 4 (some .int) ∈ lwT := inT 1255 (by decide +kernel) rfl
theorem w_1252 : Cond.methodLink "StrawMapLaw" 120 yX8_old ∈ lwT := inT 1252 (by decide +kernel) rfl
theorem w_1253 : Cond.instanceMethod yX8_old ∈ lwT := inT 1253 (by decide +kernel) rfl
theorem w_1254 : Cond.selects "StrawMapModel" yX8_old yX8_old ∈ lwT := inT 1254 (by decide +kernel) rfl
theorem lk_L_120 : LkV RL 120 3 mX8_old := ⟨w_1252, w_1253, w_1254, w_81, w_1255, ⟨by decide, by decide, by decide +kernel⟩⟩
theorem w_766 : Cond.code yX7_since cX7_since 8 (some .int) ∈ lwT := inT 766 (by decide +kernel) rfl
theorem w_763 : Cond.methodLink "StrawMapLaw" 121 yX7_since ∈ lwT := inT 763 (by decide +kernel) rfl
theorem w_764 : Cond.instanceMethod yX7_since ∈ lwT := inT 764 (by decide +kernel) rfl
theorem w_765 : Cond.selects "StrawMap" yX7_since yX7_since ∈ lwT := inT 765 (by decide +kernel) rfl
theorem lk_L_121 : LkV RL 121 2 mX7_since := ⟨w_763, w_764, w_765, w_68, w_766, ⟨by decide, by decide, by decide +kernel⟩⟩
theorem w_1263 : Cond.code yX8_since cX8_since 11 (some .int) ∈ lwT := inT 1263 (by decide +kernel) rfl
theorem w_1260 : Cond.methodLink "StrawMapLaw" 124 yX8_since ∈ lwT := inT 1260 (by decide +kernel) rfl
theorem w_1261 : Cond.instanceMethod yX8_since ∈ lwT := inT 1261 (by decide +kernel) rfl
theorem w_1262 : Cond.selects "StrawMapModel" yX8_since yX8_since ∈ lwT := inT 1262 (by decide +kernel) rfl
theorem lk_L_124 : LkV RL 124 2 mX8_since := ⟨w_1260, w_1261, w_1262, w_81, w_1263, ⟨by decide, by decide, by decide +kernel⟩⟩
theorem w_775 : Cond.code yX7_would cX7_would 7 (some .int) ∈ lwT := inT 775 (by decide +kernel) rfl
theorem w_772 : Cond.methodLink "StrawMapLaw" 125 yX7_would ∈ lwT := inT 772 (by decide +kernel) rfl
theorem w_773 : Cond.instanceMethod yX7_would ∈ lwT := inT 773 (by decide +kernel) rfl
theorem w_774 : Cond.selects "StrawMap" yX7_would yX7_would ∈ lwT := inT 774 (by decide +kernel) rfl
theorem lk_L_125 : LkV RL 125 3 mX7_would := ⟨w_772, w_773, w_774, w_68, w_775, ⟨by decide, by decide, by decide +kernel⟩⟩
theorem w_1267 : Cond.code yX8_would cX8_would 9 (some .int) ∈ lwT := inT 1267 (by decide +kernel) rfl
theorem w_1264 : Cond.methodLink "StrawMapLaw" 128 yX8_would ∈ lwT := inT 1264 (by decide +kernel) rfl
theorem w_1265 : Cond.instanceMethod yX8_would ∈ lwT := inT 1265 (by decide +kernel) rfl
theorem w_1266 : Cond.selects "StrawMapModel" yX8_would yX8_would ∈ lwT := inT 1266 (by decide +kernel) rfl
theorem lk_L_128 : LkV RL 128 3 mX8_would := ⟨w_1264, w_1265, w_1266, w_81, w_1267, ⟨by decide, by decide, by decide +kernel⟩⟩
theorem w_780 : Cond.code yX7_least cX7_least 4 (some .int) ∈ lwT := inT 780 (by decide +kernel) rfl
theorem w_777 : Cond.methodLink "StrawMapLaw" 129 yX7_least ∈ lwT := inT 777 (by decide +kernel) rfl
theorem w_778 : Cond.instanceMethod yX7_least ∈ lwT := inT 778 (by decide +kernel) rfl
theorem w_779 : Cond.selects "StrawMap" yX7_least yX7_least ∈ lwT := inT 779 (by decide +kernel) rfl
theorem lk_L_129 : LkV RL 129 2 mX7_least := ⟨w_777, w_778, w_779, w_68, w_780, ⟨by decide, by decide, by decide +kernel⟩⟩
theorem w_1275 : Cond.code yX8_least cX8_least 4 (some .int) ∈ lwT := inT 1275 (by decide +kernel) rfl
theorem w_1272 : Cond.methodLink "StrawMapLaw" 132 yX8_least ∈ lwT := inT 1272 (by decide +kernel) rfl
theorem w_1273 : Cond.instanceMethod yX8_least ∈ lwT := inT 1273 (by decide +kernel) rfl
theorem w_1274 : Cond.selects "StrawMapModel" yX8_least yX8_least ∈ lwT := inT 1274 (by decide +kernel) rfl
theorem lk_L_132 : LkV RL 132 2 mX8_least := ⟨w_1272, w_1273, w_1274, w_81, w_1275, ⟨by decide, by decide, by decide +kernel⟩⟩
theorem w_785 : Cond.code yX7_even cX7_even 9 (some .int) ∈ lwT := inT 785 (by decide +kernel) rfl
theorem w_782 : Cond.methodLink "StrawMapLaw" 133 yX7_even ∈ lwT := inT 782 (by decide +kernel) rfl
theorem w_783 : Cond.instanceMethod yX7_even ∈ lwT := inT 783 (by decide +kernel) rfl
theorem w_784 : Cond.selects "StrawMap" yX7_even yX7_even ∈ lwT := inT 784 (by decide +kernel) rfl
theorem lk_L_133 : LkV RL 133 1 mX7_even := ⟨w_782, w_783, w_784, w_68, w_785, ⟨by decide, by decide, by decide +kernel⟩⟩
theorem w_1279 : Cond.code yX8_even cX8_even 9 (some .int) ∈ lwT := inT 1279 (by decide +kernel) rfl
theorem w_1276 : Cond.methodLink "StrawMapLaw" 136 yX8_even ∈ lwT := inT 1276 (by decide +kernel) rfl
theorem w_1277 : Cond.instanceMethod yX8_even ∈ lwT := inT 1277 (by decide +kernel) rfl
theorem w_1278 : Cond.selects "StrawMapModel" yX8_even yX8_even ∈ lwT := inT 1278 (by decide +kernel) rfl
theorem lk_L_136 : LkV RL 136 1 mX8_even := ⟨w_1276, w_1277, w_1278, w_81, w_1279, ⟨by decide, by decide, by decide +kernel⟩⟩
theorem w_790 : Cond.code yX7_put cX7_put 4 (some .int) ∈ lwT := inT 790 (by decide +kernel) rfl
theorem w_787 : Cond.methodLink "StrawMapLaw" 137 yX7_put ∈ lwT := inT 787 (by decide +kernel) rfl
theorem w_788 : Cond.instanceMethod yX7_put ∈ lwT := inT 788 (by decide +kernel) rfl
theorem w_789 : Cond.selects "StrawMap" yX7_put yX7_put ∈ lwT := inT 789 (by decide +kernel) rfl
theorem lk_L_137 : LkV RL 137 2 mX7_put := ⟨w_787, w_788, w_789, w_68, w_790, ⟨by decide, by decide, by decide +kernel⟩⟩
theorem w_1283 : Cond.code yX8_put cX8_put 4 (some .int) ∈ lwT := inT 1283 (by decide +kernel) rfl
theorem w_1280 : Cond.methodLink "StrawMapLaw" 140 yX8_put ∈ lwT := inT 1280 (by decide +kernel) rfl
theorem w_1281 : Cond.instanceMethod yX8_put ∈ lwT := inT 1281 (by decide +kernel) rfl
theorem w_1282 : Cond.selects "StrawMapModel" yX8_put yX8_put ∈ lwT := inT 1282 (by decide +kernel) rfl
theorem lk_L_140 : LkV RL 140 2 mX8_put := ⟨w_1280, w_1281, w_1282, w_81, w_1283, ⟨by decide, by decide, by decide +kernel⟩⟩
theorem w_794 : Cond.code yX7_tick cX7_tick 2 (some .int) ∈ lwT := inT 794 (by decide +kernel) rfl
theorem w_791 : Cond.methodLink "StrawMapLaw" 141 yX7_tick ∈ lwT := inT 791 (by decide +kernel) rfl
theorem w_792 : Cond.instanceMethod yX7_tick ∈ lwT := inT 792 (by decide +kernel) rfl
theorem w_793 : Cond.selects "StrawMap" yX7_tick yX7_tick ∈ lwT := inT 793 (by decide +kernel) rfl
theorem lk_L_141 : LkV RL 141 1 mX7_tick := ⟨w_791, w_792, w_793, w_68, w_794, ⟨by decide, by decide, by decide +kernel⟩⟩
theorem w_1287 : Cond.code yX8_tick cX8_tick 2 (some .int) ∈ lwT := inT 1287 (by decide +kernel) rfl
theorem w_1284 : Cond.methodLink "StrawMapLaw" 144 yX8_tick ∈ lwT := inT 1284 (by decide +kernel) rfl
theorem w_1285 : Cond.instanceMethod yX8_tick ∈ lwT := inT 1285 (by decide +kernel) rfl
theorem w_1286 : Cond.selects "StrawMapModel" yX8_tick yX8_tick ∈ lwT := inT 1286 (by decide +kernel) rfl
theorem lk_L_144 : LkV RL 144 1 mX8_tick := ⟨w_1284, w_1285, w_1286, w_81, w_1287, ⟨by decide, by decide, by decide +kernel⟩⟩
theorem w_827 : Cond.code yX7_up cX7_up 3 (some .int) ∈ lwT := inT 827 (by decide +kernel) rfl
theorem w_824 : Cond.methodLink "StrawMapLaw" 145 yX7_up ∈ lwT := inT 824 (by decide +kernel) rfl
theorem w_825 : Cond.instanceMethod yX7_up ∈ lwT := inT 825 (by decide +kernel) rfl
theorem w_826 : Cond.selects "StrawMap" yX7_up yX7_up ∈ lwT := inT 826 (by decide +kernel) rfl
theorem lk_L_145 : LkV RL 145 2 mX7_up := ⟨w_824, w_825, w_826, w_68, w_827, ⟨by decide, by decide, by decide +kernel⟩⟩
theorem w_1310 : Cond.code yX8_up cX8_up 3 (some .int) ∈ lwT := inT 1310 (by decide +kernel) rfl
theorem w_1307 : Cond.methodLink "StrawMapLaw" 148 yX8_up ∈ lwT := inT 1307 (by decide +kernel) rfl
theorem w_1308 : Cond.instanceMethod yX8_up ∈ lwT := inT 1308 (by decide +kernel) rfl
theorem w_1309 : Cond.selects "StrawMapModel" yX8_up yX8_up ∈ lwT := inT 1309 (by decide +kernel) rfl
theorem lk_L_148 : LkV RL 148 2 mX8_up := ⟨w_1307, w_1308, w_1309, w_81, w_1310, ⟨by decide, by decide, by decide +kernel⟩⟩
theorem w_831 : Cond.code yX7_fail cX7_fail 2 (some .int) ∈ lwT := inT 831 (by decide +kernel) rfl
theorem w_828 : Cond.methodLink "StrawMapLaw" 149 yX7_fail ∈ lwT := inT 828 (by decide +kernel) rfl
theorem w_829 : Cond.instanceMethod yX7_fail ∈ lwT := inT 829 (by decide +kernel) rfl
theorem w_830 : Cond.selects "StrawMap" yX7_fail yX7_fail ∈ lwT := inT 830 (by decide +kernel) rfl
theorem lk_L_149 : LkV RL 149 1 mX7_fail := ⟨w_828, w_829, w_830, w_68, w_831, ⟨by decide, by decide, by decide +kernel⟩⟩
theorem w_1314 : Cond.code yX8_fail cX8_fail 2 (some .int) ∈ lwT := inT 1314 (by decide +kernel) rfl
theorem w_1311 : Cond.methodLink "StrawMapLaw" 152 yX8_fail ∈ lwT := inT 1311 (by decide +kernel) rfl
theorem w_1312 : Cond.instanceMethod yX8_fail ∈ lwT := inT 1312 (by decide +kernel) rfl
theorem w_1313 : Cond.selects "StrawMapModel" yX8_fail yX8_fail ∈ lwT := inT 1313 (by decide +kernel) rfl
theorem lk_L_152 : LkV RL 152 1 mX8_fail := ⟨w_1311, w_1312, w_1313, w_81, w_1314, ⟨by decide, by decide, by decide +kernel⟩⟩
theorem w_840 : Cond.code yX7_held cX7_held 3 (some .int) ∈ lwT := inT 840 (by decide +kernel) rfl
theorem w_837 : Cond.methodLink "StrawMapLaw" 153 yX7_held ∈ lwT := inT 837 (by decide +kernel) rfl
theorem w_838 : Cond.instanceMethod yX7_held ∈ lwT := inT 838 (by decide +kernel) rfl
theorem w_839 : Cond.selects "StrawMap" yX7_held yX7_held ∈ lwT := inT 839 (by decide +kernel) rfl
theorem lk_L_153 : LkV RL 153 2 mX7_held := ⟨w_837, w_838, w_839, w_68, w_840, ⟨by decide, by decide, by decide +kernel⟩⟩
theorem w_1322 : Cond.code yX8_held cX8_held 6 (some .int) ∈ lwT := inT 1322 (by decide +kernel) rfl
theorem w_1319 : Cond.methodLink "StrawMapLaw" 156 yX8_held ∈ lwT := inT 1319 (by decide +kernel) rfl
theorem w_1320 : Cond.instanceMethod yX8_held ∈ lwT := inT 1320 (by decide +kernel) rfl
theorem w_1321 : Cond.selects "StrawMapModel" yX8_held yX8_held ∈ lwT := inT 1321 (by decide +kernel) rfl
theorem lk_L_156 : LkV RL 156 2 mX8_held := ⟨w_1319, w_1320, w_1321, w_81, w_1322, ⟨by decide, by decide, by decide +kernel⟩⟩
theorem w_848 : Cond.code yX7_load cX7_load 3 (some .int) ∈ lwT := inT 848 (by decide +kernel) rfl
theorem w_845 : Cond.methodLink "StrawMapLaw" 157 yX7_load ∈ lwT := inT 845 (by decide +kernel) rfl
theorem w_846 : Cond.instanceMethod yX7_load ∈ lwT := inT 846 (by decide +kernel) rfl
theorem w_847 : Cond.selects "StrawMap" yX7_load yX7_load ∈ lwT := inT 847 (by decide +kernel) rfl
theorem lk_L_157 : LkV RL 157 2 mX7_load := ⟨w_845, w_846, w_847, w_68, w_848, ⟨by decide, by decide, by decide +kernel⟩⟩
theorem w_1326 : Cond.code yX8_load cX8_load 5 (some .int) ∈ lwT := inT 1326 (by decide +kernel) rfl
theorem w_1323 : Cond.methodLink "StrawMapLaw" 160 yX8_load ∈ lwT := inT 1323 (by decide +kernel) rfl
theorem w_1324 : Cond.instanceMethod yX8_load ∈ lwT := inT 1324 (by decide +kernel) rfl
theorem w_1325 : Cond.selects "StrawMapModel" yX8_load yX8_load ∈ lwT := inT 1325 (by decide +kernel) rfl
theorem lk_L_160 : LkV RL 160 2 mX8_load := ⟨w_1323, w_1324, w_1325, w_81, w_1326, ⟨by decide, by decide, by decide +kernel⟩⟩
theorem w_852 : Cond.code yX7_loses cX7_loses 6 (some .int) ∈ lwT := inT 852 (by decide +kernel) rfl
theorem w_849 : Cond.methodLink "StrawMapLaw" 161 yX7_loses ∈ lwT := inT 849 (by decide +kernel) rfl
theorem w_850 : Cond.instanceMethod yX7_loses ∈ lwT := inT 850 (by decide +kernel) rfl
theorem w_851 : Cond.selects "StrawMap" yX7_loses yX7_loses ∈ lwT := inT 851 (by decide +kernel) rfl
theorem lk_L_161 : LkV RL 161 2 mX7_loses := ⟨w_849, w_850, w_851, w_68, w_852, ⟨by decide, by decide, by decide +kernel⟩⟩
theorem w_1330 : Cond.code yX8_loses cX8_loses 6 (some .int) ∈ lwT := inT 1330 (by decide +kernel) rfl
theorem w_1327 : Cond.methodLink "StrawMapLaw" 164 yX8_loses ∈ lwT := inT 1327 (by decide +kernel) rfl
theorem w_1328 : Cond.instanceMethod yX8_loses ∈ lwT := inT 1328 (by decide +kernel) rfl
theorem w_1329 : Cond.selects "StrawMapModel" yX8_loses yX8_loses ∈ lwT := inT 1329 (by decide +kernel) rfl
theorem lk_L_164 : LkV RL 164 2 mX8_loses := ⟨w_1327, w_1328, w_1329, w_81, w_1330, ⟨by decide, by decide, by decide +kernel⟩⟩
theorem w_856 : Cond.code yX7_storm cX7_storm 8 (some .int) ∈ lwT := inT 856 (by decide +kernel) rfl
theorem w_853 : Cond.methodLink "StrawMapLaw" 165 yX7_storm ∈ lwT := inT 853 (by decide +kernel) rfl
theorem w_854 : Cond.instanceMethod yX7_storm ∈ lwT := inT 854 (by decide +kernel) rfl
theorem w_855 : Cond.selects "StrawMap" yX7_storm yX7_storm ∈ lwT := inT 855 (by decide +kernel) rfl
theorem lk_L_165 : LkV RL 165 3 mX7_storm := ⟨w_853, w_854, w_855, w_68, w_856, ⟨by decide, by decide, by decide +kernel⟩⟩
theorem w_1334 : Cond.code yX8_storm cX8_storm 12 (some .int) ∈ lwT := inT 1334 (by decide +kernel) rfl
theorem w_1331 : Cond.methodLink "StrawMapLaw" 168 yX8_storm ∈ lwT := inT 1331 (by decide +kernel) rfl
theorem w_1332 : Cond.instanceMethod yX8_storm ∈ lwT := inT 1332 (by decide +kernel) rfl
theorem w_1333 : Cond.selects "StrawMapModel" yX8_storm yX8_storm ∈ lwT := inT 1333 (by decide +kernel) rfl
theorem lk_L_168 : LkV RL 168 3 mX8_storm := ⟨w_1331, w_1332, w_1333, w_81, w_1334, ⟨by decide, by decide, by decide +kernel⟩⟩
theorem w_877 : Cond.code yX7_seen cX7_seen 4 (some .int) ∈ lwT := inT 877 (by decide +kernel) rfl
theorem w_874 : Cond.methodLink "StrawMapLaw" 169 yX7_seen ∈ lwT := inT 874 (by decide +kernel) rfl
theorem w_875 : Cond.instanceMethod yX7_seen ∈ lwT := inT 875 (by decide +kernel) rfl
theorem w_876 : Cond.selects "StrawMap" yX7_seen yX7_seen ∈ lwT := inT 876 (by decide +kernel) rfl
theorem lk_L_169 : LkV RL 169 3 mX7_seen := ⟨w_874, w_875, w_876, w_68, w_877, ⟨by decide, by decide, by decide +kernel⟩⟩
theorem w_1343 : Cond.code yX8_seen cX8_seen 4 (some .int) ∈ lwT := inT 1343 (by decide +kernel) rfl
theorem w_1340 : Cond.methodLink "StrawMapLaw" 172 yX8_seen ∈ lwT := inT 1340 (by decide +kernel) rfl
theorem w_1341 : Cond.instanceMethod yX8_seen ∈ lwT := inT 1341 (by decide +kernel) rfl
theorem w_1342 : Cond.selects "StrawMapModel" yX8_seen yX8_seen ∈ lwT := inT 1342 (by decide +kernel) rfl
theorem lk_L_172 : LkV RL 172 3 mX8_seen := ⟨w_1340, w_1341, w_1342, w_81, w_1343, ⟨by decide, by decide, by decide +kernel⟩⟩
theorem w_885 : Cond.code yX7_forget cX7_forget 2 (some .int) ∈ lwT := inT 885 (by decide +kernel) rfl
theorem w_882 : Cond.methodLink "StrawMapLaw" 173 yX7_forget ∈ lwT := inT 882 (by decide +kernel) rfl
theorem w_883 : Cond.instanceMethod yX7_forget ∈ lwT := inT 883 (by decide +kernel) rfl
theorem w_884 : Cond.selects "StrawMap" yX7_forget yX7_forget ∈ lwT := inT 884 (by decide +kernel) rfl
theorem lk_L_173 : LkV RL 173 0 mX7_forget := ⟨w_882, w_883, w_884, w_68, w_885, ⟨by decide, by decide, by decide +kernel⟩⟩
theorem w_1347 : Cond.code yX8_forget cX8_forget 2 (some .int) ∈ lwT := inT 1347 (by decide +kernel) rfl
theorem w_1344 : Cond.methodLink "StrawMapLaw" 176 yX8_forget ∈ lwT := inT 1344 (by decide +kernel) rfl
theorem w_1345 : Cond.instanceMethod yX8_forget ∈ lwT := inT 1345 (by decide +kernel) rfl
theorem w_1346 : Cond.selects "StrawMapModel" yX8_forget yX8_forget ∈ lwT := inT 1346 (by decide +kernel) rfl
theorem lk_L_176 : LkV RL 176 0 mX8_forget := ⟨w_1344, w_1345, w_1346, w_81, w_1347, ⟨by decide, by decide, by decide +kernel⟩⟩
theorem w_889 : Cond.code yX7_weights cX7_weights 7 (some .int) ∈ lwT := inT 889 (by decide +kernel) rfl
theorem w_886 : Cond.methodLink "StrawMapLaw" 177 yX7_weights ∈ lwT := inT 886 (by decide +kernel) rfl
theorem w_887 : Cond.instanceMethod yX7_weights ∈ lwT := inT 887 (by decide +kernel) rfl
theorem w_888 : Cond.selects "StrawMap" yX7_weights yX7_weights ∈ lwT := inT 888 (by decide +kernel) rfl
theorem lk_L_177 : LkV RL 177 2 mX7_weights := ⟨w_886, w_887, w_888, w_68, w_889, ⟨by decide, by decide, by decide +kernel⟩⟩
theorem w_1351 : Cond.code yX8_weights cX8_weights 7 (some .int) ∈ lwT := inT 1351 (by decide +kernel) rfl
theorem w_1348 : Cond.methodLink "StrawMapLaw" 180 yX8_weights ∈ lwT := inT 1348 (by decide +kernel) rfl
theorem w_1349 : Cond.instanceMethod yX8_weights ∈ lwT := inT 1349 (by decide +kernel) rfl
theorem w_1350 : Cond.selects "StrawMapModel" yX8_weights yX8_weights ∈ lwT := inT 1350 (by decide +kernel) rfl
theorem lk_L_180 : LkV RL 180 2 mX8_weights := ⟨w_1348, w_1349, w_1350, w_81, w_1351, ⟨by decide, by decide, by decide +kernel⟩⟩
theorem w_900 : Cond.code yX7_count cX7_count 2 (some .int) ∈ lwT := inT 900 (by decide +kernel) rfl
theorem w_897 : Cond.methodLink "StrawMapLaw" 181 yX7_count ∈ lwT := inT 897 (by decide +kernel) rfl
theorem w_898 : Cond.instanceMethod yX7_count ∈ lwT := inT 898 (by decide +kernel) rfl
theorem w_899 : Cond.selects "StrawMap" yX7_count yX7_count ∈ lwT := inT 899 (by decide +kernel) rfl
theorem lk_L_181 : LkV RL 181 1 mX7_count := ⟨w_897, w_898, w_899, w_68, w_900, ⟨by decide, by decide, by decide +kernel⟩⟩
theorem w_1359 : Cond.code yX8_count cX8_count 2 (some .int) ∈ lwT := inT 1359 (by decide +kernel) rfl
theorem w_1356 : Cond.methodLink "StrawMapLaw" 184 yX8_count ∈ lwT := inT 1356 (by decide +kernel) rfl
theorem w_1357 : Cond.instanceMethod yX8_count ∈ lwT := inT 1357 (by decide +kernel) rfl
theorem w_1358 : Cond.selects "StrawMapModel" yX8_count yX8_count ∈ lwT := inT 1358 (by decide +kernel) rfl
theorem lk_L_184 : LkV RL 184 1 mX8_count := ⟨w_1356, w_1357, w_1358, w_81, w_1359, ⟨by decide, by decide, by decide +kernel⟩⟩
theorem w_520 : Cond.code yX6_disksWithin cX6_disksWithin 4 (some .int) ∈ lwT := inT 520 (by decide +kernel) rfl
theorem w_72 : Cond.initialized "StrawMap$Tree" ∈ lwT := inT 72 (by decide +kernel) rfl
theorem w_517 : Cond.methodLink "StrawMap$Data" 24 yX6_disksWithin ∈ lwT := inT 517 (by decide +kernel) rfl
theorem w_518 : Cond.instanceMethod yX6_disksWithin ∈ lwT := inT 518 (by decide +kernel) rfl
theorem w_519 : Cond.selects "StrawMap$Tree" yX6_disksWithin yX6_disksWithin ∈ lwT := inT 519 (by decide +kernel) rfl
theorem lk_X0_24 : LkV RX0 24 1 mX6_disksWithin := ⟨w_517, w_518, w_519, w_72, w_520, ⟨by decide, by decide, by decide +kernel⟩⟩
theorem w_474 : Cond.code yX7_bitOf cX7_bitOf 1 (some .int) ∈ lwT := inT 474 (by decide +kernel) rfl
theorem w_473 : Cond.static yX7_bitOf ∈ lwT := inT 473 (by decide +kernel) rfl
theorem lk_X0_43 : LkSN RX0 43 1 mX7_bitOf := ⟨⟨"StrawMap", List.mem_filter.mpr ⟨List.mem_of_getElem? (i := 593) (by decide +kernel), rfl⟩⟩, w_473, w_68, w_474, ⟨by decide, by decide, by decide +kernel⟩⟩
theorem w_671 : Cond.code yX0_setUp cX0_setUp 3 none ∈ lwT := inT 671 (by decide +kernel) rfl
theorem w_74 : Cond.initialized "StrawMap$Data" ∈ lwT := inT 74 (by decide +kernel) rfl
theorem w_836 : Cond.methodLink "StrawMap$Data" 46 yX0_setUp ∈ lwT := inT 836 (by decide +kernel) rfl
theorem w_669 : Cond.instanceMethod yX0_setUp ∈ lwT := inT 669 (by decide +kernel) rfl
theorem w_670 : Cond.selects "StrawMap$Data" yX0_setUp yX0_setUp ∈ lwT := inT 670 (by decide +kernel) rfl
theorem lk_X0_46 : LkV RX0 46 2 mX0_setUp := ⟨w_836, w_669, w_670, w_74, w_671, ⟨by decide, by decide, by decide +kernel⟩⟩
theorem w_814 : Cond.code yX0_isWaiting cX0_isWaiting 2 (some .boolean) ∈ lwT := inT 814 (by decide +kernel) rfl
theorem w_811 : Cond.methodLink "StrawMap$Data" 50 yX0_isWaiting ∈ lwT := inT 811 (by decide +kernel) rfl
theorem w_813 : Cond.instanceMethod yX0_isWaiting ∈ lwT := inT 813 (by decide +kernel) rfl
theorem w_19 : Cond.selects "StrawMap$Data" yX0_isWaiting yX0_isWaiting ∈ lwT := inT 19 (by decide +kernel) rfl
theorem lk_X0_50 : LkV RX0 50 1 mX0_isWaiting := ⟨w_811, w_813, w_19, w_74, w_814, ⟨by decide, by decide, by decide +kernel⟩⟩
theorem w_810 : Cond.code yX0_isIncomplete cX0_isIncomplete 3 (some .boolean) ∈ lwT := inT 810 (by decide +kernel) rfl
theorem w_807 : Cond.methodLink "StrawMap$Data" 54 yX0_isIncomplete ∈ lwT := inT 807 (by decide +kernel) rfl
theorem w_809 : Cond.instanceMethod yX0_isIncomplete ∈ lwT := inT 809 (by decide +kernel) rfl
theorem w_18 : Cond.selects "StrawMap$Data" yX0_isIncomplete yX0_isIncomplete ∈ lwT := inT 18 (by decide +kernel) rfl
theorem lk_X0_54 : LkV RX0 54 2 mX0_isIncomplete := ⟨w_807, w_809, w_18, w_74, w_810, ⟨by decide, by decide, by decide +kernel⟩⟩
theorem w_818 : Cond.code yX0_firstCopyIn cX0_firstCopyIn 5 (some .int) ∈ lwT := inT 818 (by decide +kernel) rfl
theorem w_816 : Cond.methodLink "StrawMap$Data" 58 yX0_firstCopyIn ∈ lwT := inT 816 (by decide +kernel) rfl
theorem w_817 : Cond.static yX0_firstCopyIn ∈ lwT := inT 817 (by decide +kernel) rfl
theorem lk_X0_58 : LkS RX0 58 3 mX0_firstCopyIn := ⟨w_816, w_817, w_74, w_818, ⟨by decide, by decide, by decide +kernel⟩⟩
theorem w_720 : Cond.code yX3_copyOf cX3_copyOf 3 (some .int) ∈ lwT := inT 720 (by decide +kernel) rfl
theorem w_71 : Cond.initialized "StrawMap$Plan" ∈ lwT := inT 71 (by decide +kernel) rfl
theorem w_819 : Cond.methodLink "StrawMap$Data" 62 yX3_copyOf ∈ lwT := inT 819 (by decide +kernel) rfl
theorem w_718 : Cond.instanceMethod yX3_copyOf ∈ lwT := inT 718 (by decide +kernel) rfl
theorem w_719 : Cond.selects "StrawMap$Plan" yX3_copyOf yX3_copyOf ∈ lwT := inT 719 (by decide +kernel) rfl
theorem lk_X0_62 : LkV RX0 62 2 mX3_copyOf := ⟨w_819, w_718, w_719, w_71, w_720, ⟨by decide, by decide, by decide +kernel⟩⟩
theorem w_802 : Cond.code yX0_copyOnce cX0_copyOnce 4 (some .boolean) ∈ lwT := inT 802 (by decide +kernel) rfl
theorem w_799 : Cond.methodLink "StrawMap$Data" 66 yX0_copyOnce ∈ lwT := inT 799 (by decide +kernel) rfl
theorem w_801 : Cond.instanceMethod yX0_copyOnce ∈ lwT := inT 801 (by decide +kernel) rfl
theorem w_16 : Cond.selects "StrawMap$Data" yX0_copyOnce yX0_copyOnce ∈ lwT := inT 16 (by decide +kernel) rfl
theorem lk_X0_66 : LkV RX0 66 1 mX0_copyOnce := ⟨w_799, w_801, w_16, w_74, w_802, ⟨by decide, by decide, by decide +kernel⟩⟩
theorem w_823 : Cond.code yX0_dropSpare cX0_dropSpare 4 none ∈ lwT := inT 823 (by decide +kernel) rfl
theorem w_820 : Cond.methodLink "StrawMap$Data" 70 yX0_dropSpare ∈ lwT := inT 820 (by decide +kernel) rfl
theorem w_822 : Cond.instanceMethod yX0_dropSpare ∈ lwT := inT 822 (by decide +kernel) rfl
theorem w_20 : Cond.selects "StrawMap$Data" yX0_dropSpare yX0_dropSpare ∈ lwT := inT 20 (by decide +kernel) rfl
theorem lk_X0_70 : LkV RX0 70 1 mX0_dropSpare := ⟨w_820, w_822, w_20, w_74, w_823, ⟨by decide, by decide, by decide +kernel⟩⟩
theorem w_806 : Cond.code yX0_mostUrgent cX0_mostUrgent 7 (some .int) ∈ lwT := inT 806 (by decide +kernel) rfl
theorem w_803 : Cond.methodLink "StrawMap$Data" 74 yX0_mostUrgent ∈ lwT := inT 803 (by decide +kernel) rfl
theorem w_805 : Cond.instanceMethod yX0_mostUrgent ∈ lwT := inT 805 (by decide +kernel) rfl
theorem w_17 : Cond.selects "StrawMap$Data" yX0_mostUrgent yX0_mostUrgent ∈ lwT := inT 17 (by decide +kernel) rfl
theorem lk_X0_74 : LkV RX0 74 1 mX0_mostUrgent := ⟨w_803, w_805, w_17, w_74, w_806, ⟨by decide, by decide, by decide +kernel⟩⟩
theorem w_623 : Cond.code yJ6_bitCount_0f7a4 cJ6_bitCount_0f7a4 1 (some .int) ∈ lwT := inT 623 (by decide +kernel) rfl
theorem w_82 : Cond.initialized "java/lang/Integer" ∈ lwT := inT 82 (by decide +kernel) rfl
theorem w_815 : Cond.methodLink "StrawMap$Data" 78 yJ6_bitCount_0f7a4 ∈ lwT := inT 815 (by decide +kernel) rfl
theorem w_622 : Cond.static yJ6_bitCount_0f7a4 ∈ lwT := inT 622 (by decide +kernel) rfl
theorem lk_X0_78 : LkS RX0 78 1 mJ6_bitCount_0f7a4 := ⟨w_815, w_622, w_82, w_623, ⟨by decide, by decide, by decide +kernel⟩⟩
theorem w_835 : Cond.code yX0_letFail cX0_letFail 4 (some .int) ∈ lwT := inT 835 (by decide +kernel) rfl
theorem w_869 : Cond.methodLink "StrawMap$Data" 86 yX0_letFail ∈ lwT := inT 869 (by decide +kernel) rfl
theorem w_833 : Cond.instanceMethod yX0_letFail ∈ lwT := inT 833 (by decide +kernel) rfl
theorem w_834 : Cond.selects "StrawMap$Data" yX0_letFail yX0_letFail ∈ lwT := inT 834 (by decide +kernel) rfl
theorem lk_X0_86 : LkV RX0 86 1 mX0_letFail := ⟨w_869, w_833, w_834, w_74, w_835, ⟨by decide, by decide, by decide +kernel⟩⟩
theorem w_431 : Cond.code yX3_settleGroup cX3_settleGroup 8 none ∈ lwT := inT 431 (by decide +kernel) rfl
theorem w_895 : Cond.methodLink "StrawMap$Observations" 26 yX3_settleGroup ∈ lwT := inT 895 (by decide +kernel) rfl
theorem w_429 : Cond.instanceMethod yX3_settleGroup ∈ lwT := inT 429 (by decide +kernel) rfl
theorem w_430 : Cond.selects "StrawMap$Plan" yX3_settleGroup yX3_settleGroup ∈ lwT := inT 430 (by decide +kernel) rfl
theorem lk_X2_26 : LkV RX2 26 2 mX3_settleGroup := ⟨w_895, w_429, w_430, w_71, w_431, ⟨by decide, by decide, by decide +kernel⟩⟩
theorem lk_X2_35 : LkSN RX2 35 1 mX7_bitOf := ⟨⟨"StrawMap", List.mem_filter.mpr ⟨List.mem_of_getElem? (i := 896) (by decide +kernel), rfl⟩⟩, w_473, w_68, w_474, ⟨by decide, by decide, by decide +kernel⟩⟩
theorem w_135 : Cond.code yX6_init cX6_init 1 none ∈ lwT := inT 135 (by decide +kernel) rfl
theorem w_134 : Cond.instanceMethod yX6_init ∈ lwT := inT 134 (by decide +kernel) rfl
theorem lk_X3_11 : LkIN RX3 11 0 mX6_init := ⟨⟨"StrawMap", List.mem_filter.mpr ⟨List.mem_of_getElem? (i := 133) (by decide +kernel), rfl⟩⟩, w_134, w_72, w_135, ⟨by decide, by decide, by decide +kernel⟩, rfl, rfl⟩
theorem w_167 : Cond.code yX1_init cX1_init 1 none ∈ lwT := inT 167 (by decide +kernel) rfl
theorem w_73 : Cond.initialized "StrawMap$Diversions" ∈ lwT := inT 73 (by decide +kernel) rfl
theorem w_166 : Cond.instanceMethod yX1_init ∈ lwT := inT 166 (by decide +kernel) rfl
theorem lk_X3_20 : LkIN RX3 20 0 mX1_init := ⟨⟨"StrawMap", List.mem_filter.mpr ⟨List.mem_of_getElem? (i := 165) (by decide +kernel), rfl⟩⟩, w_166, w_73, w_167, ⟨by decide, by decide, by decide +kernel⟩, rfl, rfl⟩
theorem w_352 : Cond.code yX6_clear cX6_clear 1 none ∈ lwT := inT 352 (by decide +kernel) rfl
theorem w_349 : Cond.methodLink "StrawMap$Plan" 41 yX6_clear ∈ lwT := inT 349 (by decide +kernel) rfl
theorem w_350 : Cond.instanceMethod yX6_clear ∈ lwT := inT 350 (by decide +kernel) rfl
theorem w_351 : Cond.selects "StrawMap$Tree" yX6_clear yX6_clear ∈ lwT := inT 351 (by decide +kernel) rfl
theorem lk_X3_41 : LkV RX3 41 0 mX6_clear := ⟨w_349, w_350, w_351, w_72, w_352, ⟨by decide, by decide, by decide +kernel⟩⟩
theorem w_356 : Cond.code yX3_setRule cX3_setRule 4 none ∈ lwT := inT 356 (by decide +kernel) rfl
theorem w_353 : Cond.methodLink "StrawMap$Plan" 51 yX3_setRule ∈ lwT := inT 353 (by decide +kernel) rfl
theorem w_354 : Cond.instanceMethod yX3_setRule ∈ lwT := inT 354 (by decide +kernel) rfl
theorem w_355 : Cond.selects "StrawMap$Plan" yX3_setRule yX3_setRule ∈ lwT := inT 355 (by decide +kernel) rfl
theorem lk_X3_51 : LkV RX3 51 3 mX3_setRule := ⟨w_353, w_354, w_355, w_71, w_356, ⟨by decide, by decide, by decide +kernel⟩⟩
theorem w_503 : Cond.code yX6_copyFrom cX6_copyFrom 2 none ∈ lwT := inT 503 (by decide +kernel) rfl
theorem w_500 : Cond.methodLink "StrawMap$Plan" 58 yX6_copyFrom ∈ lwT := inT 500 (by decide +kernel) rfl
theorem w_501 : Cond.instanceMethod yX6_copyFrom ∈ lwT := inT 501 (by decide +kernel) rfl
theorem w_502 : Cond.selects "StrawMap$Tree" yX6_copyFrom yX6_copyFrom ∈ lwT := inT 502 (by decide +kernel) rfl
theorem lk_X3_58 : LkV RX3 58 1 mX6_copyFrom := ⟨w_500, w_501, w_502, w_72, w_503, ⟨by decide, by decide, by decide +kernel⟩⟩
theorem w_510 : Cond.code yX1_copyFrom cX1_copyFrom 2 none ∈ lwT := inT 510 (by decide +kernel) rfl
theorem w_507 : Cond.methodLink "StrawMap$Plan" 62 yX1_copyFrom ∈ lwT := inT 507 (by decide +kernel) rfl
theorem w_508 : Cond.instanceMethod yX1_copyFrom ∈ lwT := inT 508 (by decide +kernel) rfl
theorem w_509 : Cond.selects "StrawMap$Diversions" yX1_copyFrom yX1_copyFrom ∈ lwT := inT 509 (by decide +kernel) rfl
theorem lk_X3_62 : LkV RX3 62 1 mX1_copyFrom := ⟨w_507, w_508, w_509, w_73, w_510, ⟨by decide, by decide, by decide +kernel⟩⟩
theorem w_406 : Cond.code yX6_addDisk cX6_addDisk 3 (some .boolean) ∈ lwT := inT 406 (by decide +kernel) rfl
theorem w_403 : Cond.methodLink "StrawMap$Plan" 80 yX6_addDisk ∈ lwT := inT 403 (by decide +kernel) rfl
theorem w_404 : Cond.instanceMethod yX6_addDisk ∈ lwT := inT 404 (by decide +kernel) rfl
theorem w_405 : Cond.selects "StrawMap$Tree" yX6_addDisk yX6_addDisk ∈ lwT := inT 405 (by decide +kernel) rfl
theorem lk_X3_80 : LkV RX3 80 2 mX6_addDisk := ⟨w_403, w_404, w_405, w_72, w_406, ⟨by decide, by decide, by decide +kernel⟩⟩
theorem w_414 : Cond.code yX6_endOfDisks cX6_endOfDisks 1 (some .int) ∈ lwT := inT 414 (by decide +kernel) rfl
theorem w_411 : Cond.methodLink "StrawMap$Plan" 84 yX6_endOfDisks ∈ lwT := inT 411 (by decide +kernel) rfl
theorem w_412 : Cond.instanceMethod yX6_endOfDisks ∈ lwT := inT 412 (by decide +kernel) rfl
theorem w_413 : Cond.selects "StrawMap$Tree" yX6_endOfDisks yX6_endOfDisks ∈ lwT := inT 413 (by decide +kernel) rfl
theorem lk_X3_84 : LkV RX3 84 0 mX6_endOfDisks := ⟨w_411, w_412, w_413, w_72, w_414, ⟨by decide, by decide, by decide +kernel⟩⟩
theorem lk_X3_88 : LkSN RX3 88 1 mX7_bitOf := ⟨⟨"StrawMap", List.mem_filter.mpr ⟨List.mem_of_getElem? (i := 472) (by decide +kernel), rfl⟩⟩, w_473, w_68, w_474, ⟨by decide, by decide, by decide +kernel⟩⟩
theorem w_426 : Cond.code yX6_sumWeights cX6_sumWeights 3 none ∈ lwT := inT 426 (by decide +kernel) rfl
theorem w_423 : Cond.methodLink "StrawMap$Plan" 92 yX6_sumWeights ∈ lwT := inT 423 (by decide +kernel) rfl
theorem w_424 : Cond.instanceMethod yX6_sumWeights ∈ lwT := inT 424 (by decide +kernel) rfl
theorem w_425 : Cond.selects "StrawMap$Tree" yX6_sumWeights yX6_sumWeights ∈ lwT := inT 425 (by decide +kernel) rfl
theorem lk_X3_92 : LkV RX3 92 0 mX6_sumWeights := ⟨w_423, w_424, w_425, w_72, w_426, ⟨by decide, by decide, by decide +kernel⟩⟩
theorem w_428 : Cond.methodLink "StrawMap$Plan" 95 yX3_settleGroup ∈ lwT := inT 428 (by decide +kernel) rfl
theorem lk_X3_95 : LkV RX3 95 2 mX3_settleGroup := ⟨w_428, w_429, w_430, w_71, w_431, ⟨by decide, by decide, by decide +kernel⟩⟩
theorem w_435 : Cond.code yX6_diskOfTry cX6_diskOfTry 6 (some .int) ∈ lwT := inT 435 (by decide +kernel) rfl
theorem w_432 : Cond.methodLink "StrawMap$Plan" 99 yX6_diskOfTry ∈ lwT := inT 432 (by decide +kernel) rfl
theorem w_433 : Cond.instanceMethod yX6_diskOfTry ∈ lwT := inT 433 (by decide +kernel) rfl
theorem w_434 : Cond.selects "StrawMap$Tree" yX6_diskOfTry yX6_diskOfTry ∈ lwT := inT 434 (by decide +kernel) rfl
theorem lk_X3_99 : LkV RX3 99 3 mX6_diskOfTry := ⟨w_432, w_433, w_434, w_72, w_435, ⟨by decide, by decide, by decide +kernel⟩⟩
theorem w_467 : Cond.code yX3_isAcceptable cX3_isAcceptable 3 (some .boolean) ∈ lwT := inT 467 (by decide +kernel) rfl
theorem w_464 : Cond.methodLink "StrawMap$Plan" 103 yX3_isAcceptable ∈ lwT := inT 464 (by decide +kernel) rfl
theorem w_466 : Cond.instanceMethod yX3_isAcceptable ∈ lwT := inT 466 (by decide +kernel) rfl
theorem w_8 : Cond.selects "StrawMap$Plan" yX3_isAcceptable yX3_isAcceptable ∈ lwT := inT 8 (by decide +kernel) rfl
theorem lk_X3_103 : LkV RX3 103 2 mX3_isAcceptable := ⟨w_464, w_466, w_8, w_71, w_467, ⟨by decide, by decide, by decide +kernel⟩⟩
theorem w_479 : Cond.code yX3_isApart cX3_isApart 6 (some .boolean) ∈ lwT := inT 479 (by decide +kernel) rfl
theorem w_476 : Cond.methodLink "StrawMap$Plan" 106 yX3_isApart ∈ lwT := inT 476 (by decide +kernel) rfl
theorem w_478 : Cond.instanceMethod yX3_isApart ∈ lwT := inT 478 (by decide +kernel) rfl
theorem w_9 : Cond.selects "StrawMap$Plan" yX3_isApart yX3_isApart ∈ lwT := inT 9 (by decide +kernel) rfl
theorem lk_X3_106 : LkV RX3 106 3 mX3_isApart := ⟨w_476, w_478, w_9, w_71, w_479, ⟨by decide, by decide, by decide +kernel⟩⟩
theorem w_487 : Cond.code yX3_applyDiversions cX3_applyDiversions 4 none ∈ lwT := inT 487 (by decide +kernel) rfl
theorem w_484 : Cond.methodLink "StrawMap$Plan" 110 yX3_applyDiversions ∈ lwT := inT 484 (by decide +kernel) rfl
theorem w_486 : Cond.instanceMethod yX3_applyDiversions ∈ lwT := inT 486 (by decide +kernel) rfl
theorem w_11 : Cond.selects "StrawMap$Plan" yX3_applyDiversions yX3_applyDiversions ∈ lwT := inT 11 (by decide +kernel) rfl
theorem lk_X3_110 : LkV RX3 110 1 mX3_applyDiversions := ⟨w_484, w_486, w_11, w_71, w_487, ⟨by decide, by decide, by decide +kernel⟩⟩
theorem w_471 : Cond.code yX3_isFull cX3_isFull 2 (some .boolean) ∈ lwT := inT 471 (by decide +kernel) rfl
theorem w_468 : Cond.methodLink "StrawMap$Plan" 114 yX3_isFull ∈ lwT := inT 468 (by decide +kernel) rfl
theorem w_469 : Cond.instanceMethod yX3_isFull ∈ lwT := inT 469 (by decide +kernel) rfl
theorem w_470 : Cond.selects "StrawMap$Plan" yX3_isFull yX3_isFull ∈ lwT := inT 470 (by decide +kernel) rfl
theorem lk_X3_114 : LkV RX3 114 1 mX3_isFull := ⟨w_468, w_469, w_470, w_71, w_471, ⟨by decide, by decide, by decide +kernel⟩⟩
theorem w_454 : Cond.code yX4_drawOf cX4_drawOf 5 (some .int) ∈ lwT := inT 454 (by decide +kernel) rfl
theorem w_70 : Cond.initialized "StrawMap$Straws" ∈ lwT := inT 70 (by decide +kernel) rfl
theorem w_475 : Cond.methodLink "StrawMap$Plan" 118 yX4_drawOf ∈ lwT := inT 475 (by decide +kernel) rfl
theorem w_453 : Cond.static yX4_drawOf ∈ lwT := inT 453 (by decide +kernel) rfl
theorem lk_X3_118 : LkS RX3 118 3 mX4_drawOf := ⟨w_475, w_453, w_70, w_454, ⟨by decide, by decide, by decide +kernel⟩⟩
theorem w_483 : Cond.code yX3_partOf cX3_partOf 3 (some .int) ∈ lwT := inT 483 (by decide +kernel) rfl
theorem w_480 : Cond.methodLink "StrawMap$Plan" 124 yX3_partOf ∈ lwT := inT 480 (by decide +kernel) rfl
theorem w_482 : Cond.instanceMethod yX3_partOf ∈ lwT := inT 482 (by decide +kernel) rfl
theorem w_10 : Cond.selects "StrawMap$Plan" yX3_partOf yX3_partOf ∈ lwT := inT 10 (by decide +kernel) rfl
theorem lk_X3_124 : LkV RX3 124 1 mX3_partOf := ⟨w_480, w_482, w_10, w_71, w_483, ⟨by decide, by decide, by decide +kernel⟩⟩
theorem w_491 : Cond.code yX3_replaceCopy cX3_replaceCopy 5 (some .boolean) ∈ lwT := inT 491 (by decide +kernel) rfl
theorem w_488 : Cond.methodLink "StrawMap$Plan" 139 yX3_replaceCopy ∈ lwT := inT 488 (by decide +kernel) rfl
theorem w_490 : Cond.instanceMethod yX3_replaceCopy ∈ lwT := inT 490 (by decide +kernel) rfl
theorem w_12 : Cond.selects "StrawMap$Plan" yX3_replaceCopy yX3_replaceCopy ∈ lwT := inT 12 (by decide +kernel) rfl
theorem lk_X3_139 : LkV RX3 139 3 mX3_replaceCopy := ⟨w_488, w_490, w_12, w_71, w_491, ⟨by decide, by decide, by decide +kernel⟩⟩
theorem w_741 : Cond.code yX3_takesPart cX3_takesPart 2 (some .boolean) ∈ lwT := inT 741 (by decide +kernel) rfl
theorem w_738 : Cond.methodLink "StrawMap$Plan" 148 yX3_takesPart ∈ lwT := inT 738 (by decide +kernel) rfl
theorem w_739 : Cond.instanceMethod yX3_takesPart ∈ lwT := inT 739 (by decide +kernel) rfl
theorem w_740 : Cond.selects "StrawMap$Plan" yX3_takesPart yX3_takesPart ∈ lwT := inT 740 (by decide +kernel) rfl
theorem lk_X3_148 : LkV RX3 148 1 mX3_takesPart := ⟨w_738, w_739, w_740, w_71, w_741, ⟨by decide, by decide, by decide +kernel⟩⟩
theorem w_745 : Cond.code yX3_countPairs cX3_countPairs 4 (some .int) ∈ lwT := inT 745 (by decide +kernel) rfl
theorem w_742 : Cond.methodLink "StrawMap$Plan" 151 yX3_countPairs ∈ lwT := inT 742 (by decide +kernel) rfl
theorem w_743 : Cond.instanceMethod yX3_countPairs ∈ lwT := inT 743 (by decide +kernel) rfl
theorem w_744 : Cond.selects "StrawMap$Plan" yX3_countPairs yX3_countPairs ∈ lwT := inT 744 (by decide +kernel) rfl
theorem lk_X3_151 : LkV RX3 151 1 mX3_countPairs := ⟨w_742, w_743, w_744, w_71, w_745, ⟨by decide, by decide, by decide +kernel⟩⟩
theorem w_748 : Cond.code yJ9_max_7cf53 cJ9_max_7cf53 2 (some .int) ∈ lwT := inT 748 (by decide +kernel) rfl
theorem w_83 : Cond.initialized "java/lang/Math" ∈ lwT := inT 83 (by decide +kernel) rfl
theorem w_746 : Cond.methodLink "StrawMap$Plan" 154 yJ9_max_7cf53 ∈ lwT := inT 746 (by decide +kernel) rfl
theorem w_747 : Cond.static yJ9_max_7cf53 ∈ lwT := inT 747 (by decide +kernel) rfl
theorem lk_X3_154 : LkS RX3 154 2 mJ9_max_7cf53 := ⟨w_746, w_747, w_83, w_748, ⟨by decide, by decide, by decide +kernel⟩⟩
theorem w_751 : Cond.code yJ9_min_7cf53 cJ9_min_7cf53 2 (some .int) ∈ lwT := inT 751 (by decide +kernel) rfl
theorem w_749 : Cond.methodLink "StrawMap$Plan" 160 yJ9_min_7cf53 ∈ lwT := inT 749 (by decide +kernel) rfl
theorem w_750 : Cond.static yJ9_min_7cf53 ∈ lwT := inT 750 (by decide +kernel) rfl
theorem lk_X3_160 : LkS RX3 160 2 mJ9_min_7cf53 := ⟨w_749, w_750, w_83, w_751, ⟨by decide, by decide, by decide +kernel⟩⟩
theorem w_771 : Cond.methodLink "StrawMap$Plan" 163 yX3_copyOf ∈ lwT := inT 771 (by decide +kernel) rfl
theorem lk_X3_163 : LkV RX3 163 2 mX3_copyOf := ⟨w_771, w_718, w_719, w_71, w_720, ⟨by decide, by decide, by decide +kernel⟩⟩
theorem w_452 : Cond.methodLink "StrawMap$Straws" 26 yX4_drawOf ∈ lwT := inT 452 (by decide +kernel) rfl
theorem lk_X4_26 : LkS RX4 26 3 mX4_drawOf := ⟨w_452, w_453, w_70, w_454, ⟨by decide, by decide, by decide +kernel⟩⟩
theorem w_461 : Cond.code yX4_wantOf cX4_wantOf 6 (some .int) ∈ lwT := inT 461 (by decide +kernel) rfl
theorem w_459 : Cond.methodLink "StrawMap$Straws" 30 yX4_wantOf ∈ lwT := inT 459 (by decide +kernel) rfl
theorem w_460 : Cond.static yX4_wantOf ∈ lwT := inT 460 (by decide +kernel) rfl
theorem lk_X4_30 : LkS RX4 30 1 mX4_wantOf := ⟨w_459, w_460, w_70, w_461, ⟨by decide, by decide, by decide +kernel⟩⟩
theorem w_348 : Cond.code yX3_clear cX3_clear 1 none ∈ lwT := inT 348 (by decide +kernel) rfl
theorem w_345 : Cond.methodLink "StrawMap$Text" 23 yX3_clear ∈ lwT := inT 345 (by decide +kernel) rfl
theorem w_346 : Cond.instanceMethod yX3_clear ∈ lwT := inT 346 (by decide +kernel) rfl
theorem w_347 : Cond.selects "StrawMap$Plan" yX3_clear yX3_clear ∈ lwT := inT 347 (by decide +kernel) rfl
theorem lk_X5_23 : LkV RX5 23 0 mX3_clear := ⟨w_345, w_346, w_347, w_71, w_348, ⟨by decide, by decide, by decide +kernel⟩⟩
theorem w_360 : Cond.code yX5_readItem cX5_readItem 3 (some .boolean) ∈ lwT := inT 360 (by decide +kernel) rfl
theorem w_69 : Cond.initialized "StrawMap$Text" ∈ lwT := inT 69 (by decide +kernel) rfl
theorem w_357 : Cond.methodLink "StrawMap$Text" 31 yX5_readItem ∈ lwT := inT 357 (by decide +kernel) rfl
theorem w_359 : Cond.instanceMethod yX5_readItem ∈ lwT := inT 359 (by decide +kernel) rfl
theorem w_0 : Cond.selects "StrawMap$Text" yX5_readItem yX5_readItem ∈ lwT := inT 0 (by decide +kernel) rfl
theorem lk_X5_31 : LkV RX5 31 1 mX5_readItem := ⟨w_357, w_359, w_0, w_69, w_360, ⟨by decide, by decide, by decide +kernel⟩⟩
theorem w_363 : Cond.code yX5_numbersOf cX5_numbersOf 1 (some .int) ∈ lwT := inT 363 (by decide +kernel) rfl
theorem w_361 : Cond.methodLink "StrawMap$Text" 35 yX5_numbersOf ∈ lwT := inT 361 (by decide +kernel) rfl
theorem w_362 : Cond.static yX5_numbersOf ∈ lwT := inT 362 (by decide +kernel) rfl
theorem lk_X5_35 : LkS RX5 35 1 mX5_numbersOf := ⟨w_361, w_362, w_69, w_363, ⟨by decide, by decide, by decide +kernel⟩⟩
theorem w_367 : Cond.code yX5_readNumbers cX5_readNumbers 3 (some .boolean) ∈ lwT := inT 367 (by decide +kernel) rfl
theorem w_364 : Cond.methodLink "StrawMap$Text" 39 yX5_readNumbers ∈ lwT := inT 364 (by decide +kernel) rfl
theorem w_366 : Cond.instanceMethod yX5_readNumbers ∈ lwT := inT 366 (by decide +kernel) rfl
theorem w_1 : Cond.selects "StrawMap$Text" yX5_readNumbers yX5_readNumbers ∈ lwT := inT 1 (by decide +kernel) rfl
theorem lk_X5_39 : LkV RX5 39 1 mX5_readNumbers := ⟨w_364, w_366, w_1, w_69, w_367, ⟨by decide, by decide, by decide +kernel⟩⟩
theorem w_371 : Cond.code yX5_accept cX5_accept 2 (some .boolean) ∈ lwT := inT 371 (by decide +kernel) rfl
theorem w_368 : Cond.methodLink "StrawMap$Text" 43 yX5_accept ∈ lwT := inT 368 (by decide +kernel) rfl
theorem w_370 : Cond.instanceMethod yX5_accept ∈ lwT := inT 370 (by decide +kernel) rfl
theorem w_2 : Cond.selects "StrawMap$Text" yX5_accept yX5_accept ∈ lwT := inT 2 (by decide +kernel) rfl
theorem lk_X5_43 : LkV RX5 43 1 mX5_accept := ⟨w_368, w_370, w_2, w_69, w_371, ⟨by decide, by decide, by decide +kernel⟩⟩
theorem w_383 : Cond.code yX5_apply cX5_apply 3 (some .boolean) ∈ lwT := inT 383 (by decide +kernel) rfl
theorem w_380 : Cond.methodLink "StrawMap$Text" 47 yX5_apply ∈ lwT := inT 380 (by decide +kernel) rfl
theorem w_382 : Cond.instanceMethod yX5_apply ∈ lwT := inT 382 (by decide +kernel) rfl
theorem w_5 : Cond.selects "StrawMap$Text" yX5_apply yX5_apply ∈ lwT := inT 5 (by decide +kernel) rfl
theorem lk_X5_47 : LkV RX5 47 2 mX5_apply := ⟨w_380, w_382, w_5, w_69, w_383, ⟨by decide, by decide, by decide +kernel⟩⟩
theorem w_375 : Cond.code yX5_isDigitNext cX5_isDigitNext 1 (some .boolean) ∈ lwT := inT 375 (by decide +kernel) rfl
theorem w_372 : Cond.methodLink "StrawMap$Text" 51 yX5_isDigitNext ∈ lwT := inT 372 (by decide +kernel) rfl
theorem w_374 : Cond.instanceMethod yX5_isDigitNext ∈ lwT := inT 374 (by decide +kernel) rfl
theorem w_3 : Cond.selects "StrawMap$Text" yX5_isDigitNext yX5_isDigitNext ∈ lwT := inT 3 (by decide +kernel) rfl
theorem lk_X5_51 : LkV RX5 51 0 mX5_isDigitNext := ⟨w_372, w_374, w_3, w_69, w_375, ⟨by decide, by decide, by decide +kernel⟩⟩
theorem w_379 : Cond.code yX5_readDigit cX5_readDigit 2 (some .int) ∈ lwT := inT 379 (by decide +kernel) rfl
theorem w_376 : Cond.methodLink "StrawMap$Text" 55 yX5_readDigit ∈ lwT := inT 376 (by decide +kernel) rfl
theorem w_378 : Cond.instanceMethod yX5_readDigit ∈ lwT := inT 378 (by decide +kernel) rfl
theorem w_4 : Cond.selects "StrawMap$Text" yX5_readDigit yX5_readDigit ∈ lwT := inT 4 (by decide +kernel) rfl
theorem lk_X5_55 : LkV RX5 55 0 mX5_readDigit := ⟨w_376, w_378, w_4, w_69, w_379, ⟨by decide, by decide, by decide +kernel⟩⟩
theorem w_387 : Cond.code yX6_addHall cX6_addHall 1 (some .boolean) ∈ lwT := inT 387 (by decide +kernel) rfl
theorem w_384 : Cond.methodLink "StrawMap$Text" 63 yX6_addHall ∈ lwT := inT 384 (by decide +kernel) rfl
theorem w_385 : Cond.instanceMethod yX6_addHall ∈ lwT := inT 385 (by decide +kernel) rfl
theorem w_386 : Cond.selects "StrawMap$Tree" yX6_addHall yX6_addHall ∈ lwT := inT 386 (by decide +kernel) rfl
theorem lk_X5_63 : LkV RX5 63 0 mX6_addHall := ⟨w_384, w_385, w_386, w_72, w_387, ⟨by decide, by decide, by decide +kernel⟩⟩
theorem w_391 : Cond.code yX6_addRack cX6_addRack 2 (some .boolean) ∈ lwT := inT 391 (by decide +kernel) rfl
theorem w_388 : Cond.methodLink "StrawMap$Text" 71 yX6_addRack ∈ lwT := inT 388 (by decide +kernel) rfl
theorem w_389 : Cond.instanceMethod yX6_addRack ∈ lwT := inT 389 (by decide +kernel) rfl
theorem w_390 : Cond.selects "StrawMap$Tree" yX6_addRack yX6_addRack ∈ lwT := inT 390 (by decide +kernel) rfl
theorem lk_X5_71 : LkV RX5 71 1 mX6_addRack := ⟨w_388, w_389, w_390, w_72, w_391, ⟨by decide, by decide, by decide +kernel⟩⟩
theorem w_398 : Cond.code yX7_isWeight cX7_isWeight 1 (some .boolean) ∈ lwT := inT 398 (by decide +kernel) rfl
theorem w_397 : Cond.static yX7_isWeight ∈ lwT := inT 397 (by decide +kernel) rfl
theorem lk_X5_74 : LkSN RX5 74 1 mX7_isWeight := ⟨⟨"StrawMap", List.mem_filter.mpr ⟨List.mem_of_getElem? (i := 396) (by decide +kernel), rfl⟩⟩, w_397, w_68, w_398, ⟨by decide, by decide, by decide +kernel⟩⟩
theorem w_402 : Cond.code yX3_addDisk cX3_addDisk 5 (some .boolean) ∈ lwT := inT 402 (by decide +kernel) rfl
theorem w_399 : Cond.methodLink "StrawMap$Text" 80 yX3_addDisk ∈ lwT := inT 399 (by decide +kernel) rfl
theorem w_400 : Cond.instanceMethod yX3_addDisk ∈ lwT := inT 400 (by decide +kernel) rfl
theorem w_401 : Cond.selects "StrawMap$Plan" yX3_addDisk yX3_addDisk ∈ lwT := inT 401 (by decide +kernel) rfl
theorem lk_X5_80 : LkV RX5 80 3 mX3_addDisk := ⟨w_399, w_400, w_401, w_71, w_402, ⟨by decide, by decide, by decide +kernel⟩⟩
theorem w_417 : Cond.code yX3_isRule cX3_isRule 3 (some .boolean) ∈ lwT := inT 417 (by decide +kernel) rfl
theorem w_415 : Cond.methodLink "StrawMap$Text" 84 yX3_isRule ∈ lwT := inT 415 (by decide +kernel) rfl
theorem w_416 : Cond.static yX3_isRule ∈ lwT := inT 416 (by decide +kernel) rfl
theorem lk_X5_84 : LkS RX5 84 3 mX3_isRule := ⟨w_415, w_416, w_71, w_417, ⟨by decide, by decide, by decide +kernel⟩⟩
theorem w_418 : Cond.methodLink "StrawMap$Text" 87 yX3_setRule ∈ lwT := inT 418 (by decide +kernel) rfl
theorem lk_X5_87 : LkV RX5 87 3 mX3_setRule := ⟨w_418, w_354, w_355, w_71, w_356, ⟨by decide, by decide, by decide +kernel⟩⟩
theorem w_395 : Cond.code yX6_isHall cX6_isHall 2 (some .boolean) ∈ lwT := inT 395 (by decide +kernel) rfl
theorem w_392 : Cond.methodLink "StrawMap$Tree" 34 yX6_isHall ∈ lwT := inT 392 (by decide +kernel) rfl
theorem w_393 : Cond.instanceMethod yX6_isHall ∈ lwT := inT 393 (by decide +kernel) rfl
theorem w_394 : Cond.selects "StrawMap$Tree" yX6_isHall yX6_isHall ∈ lwT := inT 394 (by decide +kernel) rfl
theorem lk_X6_34 : LkV RX6 34 1 mX6_isHall := ⟨w_392, w_393, w_394, w_72, w_395, ⟨by decide, by decide, by decide +kernel⟩⟩
theorem w_410 : Cond.code yX6_isRack cX6_isRack 2 (some .boolean) ∈ lwT := inT 410 (by decide +kernel) rfl
theorem w_407 : Cond.methodLink "StrawMap$Tree" 38 yX6_isRack ∈ lwT := inT 407 (by decide +kernel) rfl
theorem w_408 : Cond.instanceMethod yX6_isRack ∈ lwT := inT 408 (by decide +kernel) rfl
theorem w_409 : Cond.selects "StrawMap$Tree" yX6_isRack yX6_isRack ∈ lwT := inT 409 (by decide +kernel) rfl
theorem lk_X6_38 : LkV RX6 38 1 mX6_isRack := ⟨w_407, w_408, w_409, w_72, w_410, ⟨by decide, by decide, by decide +kernel⟩⟩
theorem w_582 : Cond.code yX6_isDisk cX6_isDisk 2 (some .boolean) ∈ lwT := inT 582 (by decide +kernel) rfl
theorem w_579 : Cond.methodLink "StrawMap$Tree" 41 yX6_isDisk ∈ lwT := inT 579 (by decide +kernel) rfl
theorem w_580 : Cond.instanceMethod yX6_isDisk ∈ lwT := inT 580 (by decide +kernel) rfl
theorem w_581 : Cond.selects "StrawMap$Tree" yX6_isDisk yX6_isDisk ∈ lwT := inT 581 (by decide +kernel) rfl
theorem lk_X6_41 : LkV RX6 41 1 mX6_isDisk := ⟨w_579, w_580, w_581, w_72, w_582, ⟨by decide, by decide, by decide +kernel⟩⟩
theorem w_427 : Cond.methodLink "StrawMap$Tree" 44 yX6_endOfDisks ∈ lwT := inT 427 (by decide +kernel) rfl
theorem lk_X6_44 : LkV RX6 44 0 mX6_endOfDisks := ⟨w_427, w_412, w_413, w_72, w_414, ⟨by decide, by decide, by decide +kernel⟩⟩
theorem w_524 : Cond.code yX6_hallOf cX6_hallOf 2 (some .int) ∈ lwT := inT 524 (by decide +kernel) rfl
theorem w_521 : Cond.methodLink "StrawMap$Tree" 48 yX6_hallOf ∈ lwT := inT 521 (by decide +kernel) rfl
theorem w_522 : Cond.instanceMethod yX6_hallOf ∈ lwT := inT 522 (by decide +kernel) rfl
theorem w_523 : Cond.selects "StrawMap$Tree" yX6_hallOf yX6_hallOf ∈ lwT := inT 523 (by decide +kernel) rfl
theorem lk_X6_48 : LkV RX6 48 1 mX6_hallOf := ⟨w_521, w_522, w_523, w_72, w_524, ⟨by decide, by decide, by decide +kernel⟩⟩
theorem lk_X6_52 : LkSN RX6 52 1 mX7_bitOf := ⟨⟨"StrawMap", List.mem_filter.mpr ⟨List.mem_of_getElem? (i := 525) (by decide +kernel), rfl⟩⟩, w_473, w_68, w_474, ⟨by decide, by decide, by decide +kernel⟩⟩
theorem w_443 : Cond.code yX6_endBelow cX6_endBelow 2 (some .int) ∈ lwT := inT 443 (by decide +kernel) rfl
theorem w_440 : Cond.methodLink "StrawMap$Tree" 55 yX6_endBelow ∈ lwT := inT 440 (by decide +kernel) rfl
theorem w_442 : Cond.instanceMethod yX6_endBelow ∈ lwT := inT 442 (by decide +kernel) rfl
theorem w_6 : Cond.selects "StrawMap$Tree" yX6_endBelow yX6_endBelow ∈ lwT := inT 6 (by decide +kernel) rfl
theorem lk_X6_55 : LkV RX6 55 1 mX6_endBelow := ⟨w_440, w_442, w_6, w_72, w_443, ⟨by decide, by decide, by decide +kernel⟩⟩
theorem w_447 : Cond.code yX6_firstBelow cX6_firstBelow 2 (some .int) ∈ lwT := inT 447 (by decide +kernel) rfl
theorem w_444 : Cond.methodLink "StrawMap$Tree" 58 yX6_firstBelow ∈ lwT := inT 444 (by decide +kernel) rfl
theorem w_446 : Cond.instanceMethod yX6_firstBelow ∈ lwT := inT 446 (by decide +kernel) rfl
theorem w_7 : Cond.selects "StrawMap$Tree" yX6_firstBelow yX6_firstBelow ∈ lwT := inT 7 (by decide +kernel) rfl
theorem lk_X6_58 : LkV RX6 58 1 mX6_firstBelow := ⟨w_444, w_446, w_7, w_72, w_447, ⟨by decide, by decide, by decide +kernel⟩⟩
theorem w_451 : Cond.code yX4_lengthOf cX4_lengthOf 5 (some .int) ∈ lwT := inT 451 (by decide +kernel) rfl
theorem w_448 : Cond.methodLink "StrawMap$Tree" 61 yX4_lengthOf ∈ lwT := inT 448 (by decide +kernel) rfl
theorem w_449 : Cond.instanceMethod yX4_lengthOf ∈ lwT := inT 449 (by decide +kernel) rfl
theorem w_450 : Cond.selects "StrawMap$Straws" yX4_lengthOf yX4_lengthOf ∈ lwT := inT 450 (by decide +kernel) rfl
theorem lk_X6_61 : LkV RX6 61 3 mX4_lengthOf := ⟨w_448, w_449, w_450, w_70, w_451, ⟨by decide, by decide, by decide +kernel⟩⟩
theorem w_439 : Cond.code yX6_choiceAt cX6_choiceAt 11 (some .int) ∈ lwT := inT 439 (by decide +kernel) rfl
theorem w_436 : Cond.methodLink "StrawMap$Tree" 67 yX6_choiceAt ∈ lwT := inT 436 (by decide +kernel) rfl
theorem w_437 : Cond.instanceMethod yX6_choiceAt ∈ lwT := inT 437 (by decide +kernel) rfl
theorem w_438 : Cond.selects "StrawMap$Tree" yX6_choiceAt yX6_choiceAt ∈ lwT := inT 438 (by decide +kernel) rfl
theorem lk_X6_67 : LkV RX6 67 4 mX6_choiceAt := ⟨w_436, w_437, w_438, w_72, w_439, ⟨by decide, by decide, by decide +kernel⟩⟩
theorem w_96 : Cond.code yX5_init cX5_init 1 none ∈ lwT := inT 96 (by decide +kernel) rfl
theorem w_95 : Cond.instanceMethod yX5_init ∈ lwT := inT 95 (by decide +kernel) rfl
theorem lk_X7_9 : LkIN RX7 9 0 mX5_init := ⟨⟨"StrawMap", List.mem_filter.mpr ⟨List.mem_of_getElem? (i := 94) (by decide +kernel), rfl⟩⟩, w_95, w_69, w_96, ⟨by decide, by decide, by decide +kernel⟩, rfl, rfl⟩
theorem w_118 : Cond.code yX4_init cX4_init 1 none ∈ lwT := inT 118 (by decide +kernel) rfl
theorem w_117 : Cond.instanceMethod yX4_init ∈ lwT := inT 117 (by decide +kernel) rfl
theorem lk_X7_18 : LkIN RX7 18 0 mX4_init := ⟨⟨"StrawMap", List.mem_filter.mpr ⟨List.mem_of_getElem? (i := 116) (by decide +kernel), rfl⟩⟩, w_117, w_70, w_118, ⟨by decide, by decide, by decide +kernel⟩, rfl, rfl⟩
theorem w_129 : Cond.code yX3_init cX3_init 1 none ∈ lwT := inT 129 (by decide +kernel) rfl
theorem w_128 : Cond.instanceMethod yX3_init ∈ lwT := inT 128 (by decide +kernel) rfl
theorem lk_X7_29 : LkIN RX7 29 0 mX3_init := ⟨⟨"StrawMap", List.mem_filter.mpr ⟨List.mem_of_getElem? (i := 127) (by decide +kernel), rfl⟩⟩, w_128, w_71, w_129, ⟨by decide, by decide, by decide +kernel⟩, rfl, rfl⟩
theorem w_252 : Cond.code yX0_init cX0_init 1 none ∈ lwT := inT 252 (by decide +kernel) rfl
theorem w_251 : Cond.instanceMethod yX0_init ∈ lwT := inT 251 (by decide +kernel) rfl
theorem lk_X7_36 : LkIN RX7 36 0 mX0_init := ⟨⟨"StrawMap", List.mem_filter.mpr ⟨List.mem_of_getElem? (i := 250) (by decide +kernel), rfl⟩⟩, w_251, w_74, w_252, ⟨by decide, by decide, by decide +kernel⟩, rfl, rfl⟩
theorem w_271 : Cond.code yX2_init cX2_init 1 none ∈ lwT := inT 271 (by decide +kernel) rfl
theorem w_75 : Cond.initialized "StrawMap$Observations" ∈ lwT := inT 75 (by decide +kernel) rfl
theorem w_270 : Cond.instanceMethod yX2_init ∈ lwT := inT 270 (by decide +kernel) rfl
theorem lk_X7_46 : LkIN RX7 46 0 mX2_init := ⟨⟨"StrawMap", List.mem_filter.mpr ⟨List.mem_of_getElem? (i := 269) (by decide +kernel), rfl⟩⟩, w_270, w_75, w_271, ⟨by decide, by decide, by decide +kernel⟩, rfl, rfl⟩
theorem w_340 : Cond.code yX5_append cX5_append 2 none ∈ lwT := inT 340 (by decide +kernel) rfl
theorem w_337 : Cond.methodLink "StrawMap" 66 yX5_append ∈ lwT := inT 337 (by decide +kernel) rfl
theorem w_338 : Cond.instanceMethod yX5_append ∈ lwT := inT 338 (by decide +kernel) rfl
theorem w_339 : Cond.selects "StrawMap$Text" yX5_append yX5_append ∈ lwT := inT 339 (by decide +kernel) rfl
theorem lk_X7_66 : LkV RX7 66 1 mX5_append := ⟨w_337, w_338, w_339, w_69, w_340, ⟨by decide, by decide, by decide +kernel⟩⟩
theorem w_344 : Cond.code yX5_readInto cX5_readInto 4 (some .int) ∈ lwT := inT 344 (by decide +kernel) rfl
theorem w_341 : Cond.methodLink "StrawMap" 70 yX5_readInto ∈ lwT := inT 341 (by decide +kernel) rfl
theorem w_342 : Cond.instanceMethod yX5_readInto ∈ lwT := inT 342 (by decide +kernel) rfl
theorem w_343 : Cond.selects "StrawMap$Text" yX5_readInto yX5_readInto ∈ lwT := inT 343 (by decide +kernel) rfl
theorem lk_X7_70 : LkV RX7 70 1 mX5_readInto := ⟨w_341, w_342, w_343, w_69, w_344, ⟨by decide, by decide, by decide +kernel⟩⟩
theorem w_422 : Cond.code yX3_settleAll cX3_settleAll 3 none ∈ lwT := inT 422 (by decide +kernel) rfl
theorem w_419 : Cond.methodLink "StrawMap" 74 yX3_settleAll ∈ lwT := inT 419 (by decide +kernel) rfl
theorem w_420 : Cond.instanceMethod yX3_settleAll ∈ lwT := inT 420 (by decide +kernel) rfl
theorem w_421 : Cond.selects "StrawMap$Plan" yX3_settleAll yX3_settleAll ∈ lwT := inT 421 (by decide +kernel) rfl
theorem lk_X7_74 : LkV RX7 74 1 mX3_settleAll := ⟨w_419, w_420, w_421, w_71, w_422, ⟨by decide, by decide, by decide +kernel⟩⟩
theorem w_495 : Cond.code yX7_beginWithTrial cX7_beginWithTrial 1 none ∈ lwT := inT 495 (by decide +kernel) rfl
theorem w_492 : Cond.methodLink "StrawMap" 78 yX7_beginWithTrial ∈ lwT := inT 492 (by decide +kernel) rfl
theorem w_494 : Cond.instanceMethod yX7_beginWithTrial ∈ lwT := inT 494 (by decide +kernel) rfl
theorem w_13 : Cond.selects "StrawMap" yX7_beginWithTrial yX7_beginWithTrial ∈ lwT := inT 13 (by decide +kernel) rfl
theorem lk_X7_78 : LkV RX7 78 0 mX7_beginWithTrial := ⟨w_492, w_494, w_13, w_68, w_495, ⟨by decide, by decide, by decide +kernel⟩⟩
theorem w_578 : Cond.code yX6_isNode cX6_isNode 2 (some .boolean) ∈ lwT := inT 578 (by decide +kernel) rfl
theorem w_575 : Cond.methodLink "StrawMap" 93 yX6_isNode ∈ lwT := inT 575 (by decide +kernel) rfl
theorem w_576 : Cond.instanceMethod yX6_isNode ∈ lwT := inT 576 (by decide +kernel) rfl
theorem w_577 : Cond.selects "StrawMap$Tree" yX6_isNode yX6_isNode ∈ lwT := inT 577 (by decide +kernel) rfl
theorem lk_X7_93 : LkV RX7 93 1 mX6_isNode := ⟨w_575, w_576, w_577, w_72, w_578, ⟨by decide, by decide, by decide +kernel⟩⟩
theorem w_583 : Cond.methodLink "StrawMap" 97 yX6_isDisk ∈ lwT := inT 583 (by decide +kernel) rfl
theorem lk_X7_97 : LkV RX7 97 1 mX6_isDisk := ⟨w_583, w_580, w_581, w_72, w_582, ⟨by decide, by decide, by decide +kernel⟩⟩
theorem w_587 : Cond.code yX6_countBelow cX6_countBelow 5 (some .int) ∈ lwT := inT 587 (by decide +kernel) rfl
theorem w_584 : Cond.methodLink "StrawMap" 107 yX6_countBelow ∈ lwT := inT 584 (by decide +kernel) rfl
theorem w_585 : Cond.instanceMethod yX6_countBelow ∈ lwT := inT 585 (by decide +kernel) rfl
theorem w_586 : Cond.selects "StrawMap$Tree" yX6_countBelow yX6_countBelow ∈ lwT := inT 586 (by decide +kernel) rfl
theorem lk_X7_107 : LkV RX7 107 1 mX6_countBelow := ⟨w_584, w_585, w_586, w_72, w_587, ⟨by decide, by decide, by decide +kernel⟩⟩
theorem w_588 : Cond.methodLink "StrawMap" 114 yX3_isFull ∈ lwT := inT 588 (by decide +kernel) rfl
theorem lk_X7_114 : LkV RX7 114 1 mX3_isFull := ⟨w_588, w_469, w_470, w_71, w_471, ⟨by decide, by decide, by decide +kernel⟩⟩
theorem w_592 : Cond.code yX0_isUp cX0_isUp 2 (some .boolean) ∈ lwT := inT 592 (by decide +kernel) rfl
theorem w_589 : Cond.methodLink "StrawMap" 120 yX0_isUp ∈ lwT := inT 589 (by decide +kernel) rfl
theorem w_590 : Cond.instanceMethod yX0_isUp ∈ lwT := inT 590 (by decide +kernel) rfl
theorem w_591 : Cond.selects "StrawMap$Data" yX0_isUp yX0_isUp ∈ lwT := inT 591 (by decide +kernel) rfl
theorem lk_X7_120 : LkV RX7 120 1 mX0_isUp := ⟨w_589, w_590, w_591, w_74, w_592, ⟨by decide, by decide, by decide +kernel⟩⟩
theorem w_602 : Cond.methodLink "StrawMap" 144 yX7_isWeight ∈ lwT := inT 602 (by decide +kernel) rfl
theorem lk_X7_144 : LkS RX7 144 1 mX7_isWeight := ⟨w_602, w_397, w_68, w_398, ⟨by decide, by decide, by decide +kernel⟩⟩
theorem w_606 : Cond.code yX7_beginEpoch cX7_beginEpoch 4 none ∈ lwT := inT 606 (by decide +kernel) rfl
theorem w_603 : Cond.methodLink "StrawMap" 147 yX7_beginEpoch ∈ lwT := inT 603 (by decide +kernel) rfl
theorem w_605 : Cond.instanceMethod yX7_beginEpoch ∈ lwT := inT 605 (by decide +kernel) rfl
theorem w_14 : Cond.selects "StrawMap" yX7_beginEpoch yX7_beginEpoch ∈ lwT := inT 14 (by decide +kernel) rfl
theorem lk_X7_147 : LkV RX7 147 1 mX7_beginEpoch := ⟨w_603, w_605, w_14, w_68, w_606, ⟨by decide, by decide, by decide +kernel⟩⟩
theorem w_615 : Cond.methodLink "StrawMap" 151 yX6_endOfDisks ∈ lwT := inT 615 (by decide +kernel) rfl
theorem lk_X7_151 : LkV RX7 151 0 mX6_endOfDisks := ⟨w_615, w_412, w_413, w_72, w_414, ⟨by decide, by decide, by decide +kernel⟩⟩
theorem w_619 : Cond.code yX0_sizeOn cX0_sizeOn 5 (some .int) ∈ lwT := inT 619 (by decide +kernel) rfl
theorem w_616 : Cond.methodLink "StrawMap" 157 yX0_sizeOn ∈ lwT := inT 616 (by decide +kernel) rfl
theorem w_617 : Cond.instanceMethod yX0_sizeOn ∈ lwT := inT 617 (by decide +kernel) rfl
theorem w_618 : Cond.selects "StrawMap$Data" yX0_sizeOn yX0_sizeOn ∈ lwT := inT 618 (by decide +kernel) rfl
theorem lk_X7_157 : LkV RX7 157 2 mX0_sizeOn := ⟨w_616, w_617, w_618, w_74, w_619, ⟨by decide, by decide, by decide +kernel⟩⟩
theorem w_620 : Cond.methodLink "StrawMap" 161 yX7_bitOf ∈ lwT := inT 620 (by decide +kernel) rfl
theorem lk_X7_161 : LkS RX7 161 1 mX7_bitOf := ⟨w_620, w_473, w_68, w_474, ⟨by decide, by decide, by decide +kernel⟩⟩
theorem w_621 : Cond.methodLink "StrawMap" 167 yJ6_bitCount_0f7a4 ∈ lwT := inT 621 (by decide +kernel) rfl
theorem lk_X7_167 : LkS RX7 167 1 mJ6_bitCount_0f7a4 := ⟨w_621, w_622, w_82, w_623, ⟨by decide, by decide, by decide +kernel⟩⟩
theorem w_633 : Cond.code yX7_isGroup cX7_isGroup 1 (some .boolean) ∈ lwT := inT 633 (by decide +kernel) rfl
theorem w_631 : Cond.methodLink "StrawMap" 172 yX7_isGroup ∈ lwT := inT 631 (by decide +kernel) rfl
theorem w_632 : Cond.static yX7_isGroup ∈ lwT := inT 632 (by decide +kernel) rfl
theorem lk_X7_172 : LkS RX7 172 1 mX7_isGroup := ⟨w_631, w_632, w_68, w_633, ⟨by decide, by decide, by decide +kernel⟩⟩
theorem w_637 : Cond.code yX1_has cX1_has 5 (some .boolean) ∈ lwT := inT 637 (by decide +kernel) rfl
theorem w_634 : Cond.methodLink "StrawMap" 175 yX1_has ∈ lwT := inT 634 (by decide +kernel) rfl
theorem w_635 : Cond.instanceMethod yX1_has ∈ lwT := inT 635 (by decide +kernel) rfl
theorem w_636 : Cond.selects "StrawMap$Diversions" yX1_has yX1_has ∈ lwT := inT 636 (by decide +kernel) rfl
theorem lk_X7_175 : LkV RX7 175 3 mX1_has := ⟨w_634, w_635, w_636, w_73, w_637, ⟨by decide, by decide, by decide +kernel⟩⟩
theorem w_641 : Cond.code yX1_add cX1_add 4 none ∈ lwT := inT 641 (by decide +kernel) rfl
theorem w_638 : Cond.methodLink "StrawMap" 179 yX1_add ∈ lwT := inT 638 (by decide +kernel) rfl
theorem w_639 : Cond.instanceMethod yX1_add ∈ lwT := inT 639 (by decide +kernel) rfl
theorem w_640 : Cond.selects "StrawMap$Diversions" yX1_add yX1_add ∈ lwT := inT 640 (by decide +kernel) rfl
theorem lk_X7_179 : LkV RX7 179 3 mX1_add := ⟨w_638, w_639, w_640, w_73, w_641, ⟨by decide, by decide, by decide +kernel⟩⟩
theorem w_649 : Cond.code yX1_removeAt cX1_removeAt 3 none ∈ lwT := inT 649 (by decide +kernel) rfl
theorem w_646 : Cond.methodLink "StrawMap" 183 yX1_removeAt ∈ lwT := inT 646 (by decide +kernel) rfl
theorem w_647 : Cond.instanceMethod yX1_removeAt ∈ lwT := inT 647 (by decide +kernel) rfl
theorem w_648 : Cond.selects "StrawMap$Diversions" yX1_removeAt yX1_removeAt ∈ lwT := inT 648 (by decide +kernel) rfl
theorem lk_X7_183 : LkV RX7 183 1 mX1_removeAt := ⟨w_646, w_647, w_648, w_73, w_649, ⟨by decide, by decide, by decide +kernel⟩⟩
theorem w_654 : Cond.methodLink "StrawMap" 187 yX3_isRule ∈ lwT := inT 654 (by decide +kernel) rfl
theorem lk_X7_187 : LkS RX7 187 3 mX3_isRule := ⟨w_654, w_416, w_71, w_417, ⟨by decide, by decide, by decide +kernel⟩⟩
theorem w_655 : Cond.methodLink "StrawMap" 199 yX3_setRule ∈ lwT := inT 655 (by decide +kernel) rfl
theorem lk_X7_199 : LkV RX7 199 3 mX3_setRule := ⟨w_655, w_354, w_355, w_71, w_356, ⟨by decide, by decide, by decide +kernel⟩⟩
theorem w_660 : Cond.methodLink "StrawMap" 202 yX6_isHall ∈ lwT := inT 660 (by decide +kernel) rfl
theorem lk_X7_202 : LkV RX7 202 1 mX6_isHall := ⟨w_660, w_393, w_394, w_72, w_395, ⟨by decide, by decide, by decide +kernel⟩⟩
theorem w_661 : Cond.methodLink "StrawMap" 208 yX6_addRack ∈ lwT := inT 661 (by decide +kernel) rfl
theorem lk_X7_208 : LkV RX7 208 1 mX6_addRack := ⟨w_661, w_389, w_390, w_72, w_391, ⟨by decide, by decide, by decide +kernel⟩⟩
theorem w_666 : Cond.methodLink "StrawMap" 211 yX6_isRack ∈ lwT := inT 666 (by decide +kernel) rfl
theorem lk_X7_211 : LkV RX7 211 1 mX6_isRack := ⟨w_666, w_408, w_409, w_72, w_410, ⟨by decide, by decide, by decide +kernel⟩⟩
theorem w_667 : Cond.methodLink "StrawMap" 214 yX3_addDisk ∈ lwT := inT 667 (by decide +kernel) rfl
theorem lk_X7_214 : LkV RX7 214 3 mX3_addDisk := ⟨w_667, w_400, w_401, w_71, w_402, ⟨by decide, by decide, by decide +kernel⟩⟩
theorem w_668 : Cond.methodLink "StrawMap" 217 yX0_setUp ∈ lwT := inT 668 (by decide +kernel) rfl
theorem lk_X7_217 : LkV RX7 217 2 mX0_setUp := ⟨w_668, w_669, w_670, w_74, w_671, ⟨by decide, by decide, by decide +kernel⟩⟩
theorem w_683 : Cond.code yX7_planOf cX7_planOf 2 (some (.object "StrawMap$Plan")) ∈ lwT := inT 683 (by decide +kernel) rfl
theorem w_680 : Cond.methodLink "StrawMap" 221 yX7_planOf ∈ lwT := inT 680 (by decide +kernel) rfl
theorem w_682 : Cond.instanceMethod yX7_planOf ∈ lwT := inT 682 (by decide +kernel) rfl
theorem w_15 : Cond.selects "StrawMap" yX7_planOf yX7_planOf ∈ lwT := inT 15 (by decide +kernel) rfl
theorem lk_X7_221 : LkV RX7 221 1 mX7_planOf := ⟨w_680, w_682, w_15, w_68, w_683, ⟨by decide, by decide, by decide +kernel⟩⟩
theorem w_690 : Cond.code yX7_isKey cX7_isKey 1 (some .boolean) ∈ lwT := inT 690 (by decide +kernel) rfl
theorem w_688 : Cond.methodLink "StrawMap" 228 yX7_isKey ∈ lwT := inT 688 (by decide +kernel) rfl
theorem w_689 : Cond.static yX7_isKey ∈ lwT := inT 689 (by decide +kernel) rfl
theorem lk_X7_228 : LkS RX7 228 1 mX7_isKey := ⟨w_688, w_689, w_68, w_690, ⟨by decide, by decide, by decide +kernel⟩⟩
theorem w_693 : Cond.code yX7_groupOf cX7_groupOf 1 (some .int) ∈ lwT := inT 693 (by decide +kernel) rfl
theorem w_691 : Cond.methodLink "StrawMap" 231 yX7_groupOf ∈ lwT := inT 691 (by decide +kernel) rfl
theorem w_692 : Cond.static yX7_groupOf ∈ lwT := inT 692 (by decide +kernel) rfl
theorem lk_X7_231 : LkS RX7 231 1 mX7_groupOf := ⟨w_691, w_692, w_68, w_693, ⟨by decide, by decide, by decide +kernel⟩⟩
theorem w_699 : Cond.methodLink "StrawMap" 234 yX4_drawOf ∈ lwT := inT 699 (by decide +kernel) rfl
theorem lk_X7_234 : LkS RX7 234 3 mX4_drawOf := ⟨w_699, w_453, w_70, w_454, ⟨by decide, by decide, by decide +kernel⟩⟩
theorem w_704 : Cond.methodLink "StrawMap" 239 yX4_wantOf ∈ lwT := inT 704 (by decide +kernel) rfl
theorem lk_X7_239 : LkS RX7 239 1 mX4_wantOf := ⟨w_704, w_460, w_70, w_461, ⟨by decide, by decide, by decide +kernel⟩⟩
theorem w_709 : Cond.methodLink "StrawMap" 242 yX6_choiceAt ∈ lwT := inT 709 (by decide +kernel) rfl
theorem lk_X7_242 : LkV RX7 242 4 mX6_choiceAt := ⟨w_709, w_437, w_438, w_72, w_439, ⟨by decide, by decide, by decide +kernel⟩⟩
theorem w_716 : Cond.code yX7_isCopy cX7_isCopy 1 (some .boolean) ∈ lwT := inT 716 (by decide +kernel) rfl
theorem w_714 : Cond.methodLink "StrawMap" 246 yX7_isCopy ∈ lwT := inT 714 (by decide +kernel) rfl
theorem w_715 : Cond.static yX7_isCopy ∈ lwT := inT 715 (by decide +kernel) rfl
theorem lk_X7_246 : LkS RX7 246 1 mX7_isCopy := ⟨w_714, w_715, w_68, w_716, ⟨by decide, by decide, by decide +kernel⟩⟩
theorem w_717 : Cond.methodLink "StrawMap" 249 yX3_copyOf ∈ lwT := inT 717 (by decide +kernel) rfl
theorem lk_X7_249 : LkV RX7 249 2 mX3_copyOf := ⟨w_717, w_718, w_719, w_71, w_720, ⟨by decide, by decide, by decide +kernel⟩⟩
theorem w_729 : Cond.methodLink "StrawMap" 256 yX6_disksWithin ∈ lwT := inT 729 (by decide +kernel) rfl
theorem lk_X7_256 : LkV RX7 256 1 mX6_disksWithin := ⟨w_729, w_518, w_519, w_72, w_520, ⟨by decide, by decide, by decide +kernel⟩⟩
theorem w_737 : Cond.code yX3_spreadOfPairs cX3_spreadOfPairs 5 (some .int) ∈ lwT := inT 737 (by decide +kernel) rfl
theorem w_734 : Cond.methodLink "StrawMap" 262 yX3_spreadOfPairs ∈ lwT := inT 734 (by decide +kernel) rfl
theorem w_735 : Cond.instanceMethod yX3_spreadOfPairs ∈ lwT := inT 735 (by decide +kernel) rfl
theorem w_736 : Cond.selects "StrawMap$Plan" yX3_spreadOfPairs yX3_spreadOfPairs ∈ lwT := inT 736 (by decide +kernel) rfl
theorem lk_X7_262 : LkV RX7 262 0 mX3_spreadOfPairs := ⟨w_734, w_735, w_736, w_71, w_737, ⟨by decide, by decide, by decide +kernel⟩⟩
theorem w_758 : Cond.code yX7_commonDivisor cX7_commonDivisor 6 (some .int) ∈ lwT := inT 758 (by decide +kernel) rfl
theorem w_756 : Cond.methodLink "StrawMap" 265 yX7_commonDivisor ∈ lwT := inT 756 (by decide +kernel) rfl
theorem w_757 : Cond.static yX7_commonDivisor ∈ lwT := inT 757 (by decide +kernel) rfl
theorem lk_X7_265 : LkS RX7 265 2 mX7_commonDivisor := ⟨w_756, w_757, w_68, w_758, ⟨by decide, by decide, by decide +kernel⟩⟩
theorem w_770 : Cond.code yX3_hasSameCopies cX3_hasSameCopies 4 (some .boolean) ∈ lwT := inT 770 (by decide +kernel) rfl
theorem w_767 : Cond.methodLink "StrawMap" 268 yX3_hasSameCopies ∈ lwT := inT 767 (by decide +kernel) rfl
theorem w_768 : Cond.instanceMethod yX3_hasSameCopies ∈ lwT := inT 768 (by decide +kernel) rfl
theorem w_769 : Cond.selects "StrawMap$Plan" yX3_hasSameCopies yX3_hasSameCopies ∈ lwT := inT 769 (by decide +kernel) rfl
theorem lk_X7_268 : LkV RX7 268 2 mX3_hasSameCopies := ⟨w_767, w_768, w_769, w_71, w_770, ⟨by decide, by decide, by decide +kernel⟩⟩
theorem w_776 : Cond.methodLink "StrawMap" 272 yX6_hallOf ∈ lwT := inT 776 (by decide +kernel) rfl
theorem lk_X7_272 : LkV RX7 272 1 mX6_hallOf := ⟨w_776, w_522, w_523, w_72, w_524, ⟨by decide, by decide, by decide +kernel⟩⟩
theorem w_499 : Cond.code yX3_copyFrom cX3_copyFrom 2 none ∈ lwT := inT 499 (by decide +kernel) rfl
theorem w_496 : Cond.methodLink "StrawMap" 275 yX3_copyFrom ∈ lwT := inT 496 (by decide +kernel) rfl
theorem w_497 : Cond.instanceMethod yX3_copyFrom ∈ lwT := inT 497 (by decide +kernel) rfl
theorem w_498 : Cond.selects "StrawMap$Plan" yX3_copyFrom yX3_copyFrom ∈ lwT := inT 498 (by decide +kernel) rfl
theorem lk_X7_275 : LkV RX7 275 1 mX3_copyFrom := ⟨w_496, w_497, w_498, w_71, w_499, ⟨by decide, by decide, by decide +kernel⟩⟩
theorem w_781 : Cond.methodLink "StrawMap" 278 yX3_countPairs ∈ lwT := inT 781 (by decide +kernel) rfl
theorem lk_X7_278 : LkV RX7 278 1 mX3_countPairs := ⟨w_781, w_743, w_744, w_71, w_745, ⟨by decide, by decide, by decide +kernel⟩⟩
theorem w_786 : Cond.methodLink "StrawMap" 281 yX3_takesPart ∈ lwT := inT 786 (by decide +kernel) rfl
theorem lk_X7_281 : LkV RX7 281 1 mX3_takesPart := ⟨w_786, w_739, w_740, w_71, w_741, ⟨by decide, by decide, by decide +kernel⟩⟩
theorem w_798 : Cond.code yX0_makeTick cX0_makeTick 6 (some .int) ∈ lwT := inT 798 (by decide +kernel) rfl
theorem w_795 : Cond.methodLink "StrawMap" 290 yX0_makeTick ∈ lwT := inT 795 (by decide +kernel) rfl
theorem w_796 : Cond.instanceMethod yX0_makeTick ∈ lwT := inT 796 (by decide +kernel) rfl
theorem w_797 : Cond.selects "StrawMap$Data" yX0_makeTick yX0_makeTick ∈ lwT := inT 797 (by decide +kernel) rfl
theorem lk_X7_290 : LkV RX7 290 2 mX0_makeTick := ⟨w_795, w_796, w_797, w_74, w_798, ⟨by decide, by decide, by decide +kernel⟩⟩
theorem w_832 : Cond.methodLink "StrawMap" 294 yX0_letFail ∈ lwT := inT 832 (by decide +kernel) rfl
theorem lk_X7_294 : LkV RX7 294 1 mX0_letFail := ⟨w_832, w_833, w_834, w_74, w_835, ⟨by decide, by decide, by decide +kernel⟩⟩
theorem w_844 : Cond.code yX0_serverOf cX0_serverOf 6 (some .int) ∈ lwT := inT 844 (by decide +kernel) rfl
theorem w_841 : Cond.methodLink "StrawMap" 297 yX0_serverOf ∈ lwT := inT 841 (by decide +kernel) rfl
theorem w_842 : Cond.instanceMethod yX0_serverOf ∈ lwT := inT 842 (by decide +kernel) rfl
theorem w_843 : Cond.selects "StrawMap$Data" yX0_serverOf yX0_serverOf ∈ lwT := inT 843 (by decide +kernel) rfl
theorem lk_X7_297 : LkV RX7 297 2 mX0_serverOf := ⟨w_841, w_842, w_843, w_74, w_844, ⟨by decide, by decide, by decide +kernel⟩⟩
theorem w_860 : Cond.code yX0_copyFrom cX0_copyFrom 2 none ∈ lwT := inT 860 (by decide +kernel) rfl
theorem w_857 : Cond.methodLink "StrawMap" 300 yX0_copyFrom ∈ lwT := inT 857 (by decide +kernel) rfl
theorem w_858 : Cond.instanceMethod yX0_copyFrom ∈ lwT := inT 858 (by decide +kernel) rfl
theorem w_859 : Cond.selects "StrawMap$Data" yX0_copyFrom yX0_copyFrom ∈ lwT := inT 859 (by decide +kernel) rfl
theorem lk_X7_300 : LkV RX7 300 1 mX0_copyFrom := ⟨w_857, w_858, w_859, w_74, w_860, ⟨by decide, by decide, by decide +kernel⟩⟩
theorem w_868 : Cond.code yX0_strike cX0_strike 6 none ∈ lwT := inT 868 (by decide +kernel) rfl
theorem w_865 : Cond.methodLink "StrawMap" 309 yX0_strike ∈ lwT := inT 865 (by decide +kernel) rfl
theorem w_866 : Cond.instanceMethod yX0_strike ∈ lwT := inT 866 (by decide +kernel) rfl
theorem w_867 : Cond.selects "StrawMap$Data" yX0_strike yX0_strike ∈ lwT := inT 867 (by decide +kernel) rfl
theorem lk_X7_309 : LkV RX7 309 2 mX0_strike := ⟨w_865, w_866, w_867, w_74, w_868, ⟨by decide, by decide, by decide +kernel⟩⟩
theorem w_873 : Cond.code yX0_countLost cX0_countLost 3 (some .int) ∈ lwT := inT 873 (by decide +kernel) rfl
theorem w_870 : Cond.methodLink "StrawMap" 313 yX0_countLost ∈ lwT := inT 870 (by decide +kernel) rfl
theorem w_871 : Cond.instanceMethod yX0_countLost ∈ lwT := inT 871 (by decide +kernel) rfl
theorem w_872 : Cond.selects "StrawMap$Data" yX0_countLost yX0_countLost ∈ lwT := inT 872 (by decide +kernel) rfl
theorem lk_X7_313 : LkV RX7 313 0 mX0_countLost := ⟨w_870, w_871, w_872, w_74, w_873, ⟨by decide, by decide, by decide +kernel⟩⟩
theorem w_881 : Cond.code yX2_add cX2_add 4 none ∈ lwT := inT 881 (by decide +kernel) rfl
theorem w_878 : Cond.methodLink "StrawMap" 317 yX2_add ∈ lwT := inT 878 (by decide +kernel) rfl
theorem w_879 : Cond.instanceMethod yX2_add ∈ lwT := inT 879 (by decide +kernel) rfl
theorem w_880 : Cond.selects "StrawMap$Observations" yX2_add yX2_add ∈ lwT := inT 880 (by decide +kernel) rfl
theorem lk_X7_317 : LkV RX7 317 3 mX2_add := ⟨w_878, w_879, w_880, w_75, w_881, ⟨by decide, by decide, by decide +kernel⟩⟩
theorem w_890 : Cond.methodLink "StrawMap" 320 yX6_sumWeights ∈ lwT := inT 890 (by decide +kernel) rfl
theorem lk_X7_320 : LkV RX7 320 0 mX6_sumWeights := ⟨w_890, w_424, w_425, w_72, w_426, ⟨by decide, by decide, by decide +kernel⟩⟩
theorem w_894 : Cond.code yX2_areTrueIn cX2_areTrueIn 5 (some .boolean) ∈ lwT := inT 894 (by decide +kernel) rfl
theorem w_891 : Cond.methodLink "StrawMap" 323 yX2_areTrueIn ∈ lwT := inT 891 (by decide +kernel) rfl
theorem w_892 : Cond.instanceMethod yX2_areTrueIn ∈ lwT := inT 892 (by decide +kernel) rfl
theorem w_893 : Cond.selects "StrawMap$Observations" yX2_areTrueIn yX2_areTrueIn ∈ lwT := inT 893 (by decide +kernel) rfl
theorem lk_X7_323 : LkV RX7 323 2 mX2_areTrueIn := ⟨w_891, w_892, w_893, w_75, w_894, ⟨by decide, by decide, by decide +kernel⟩⟩
theorem w_901 : Cond.methodLink "StrawMap" 333 yJ9_min_7cf53 ∈ lwT := inT 901 (by decide +kernel) rfl
theorem lk_X7_333 : LkS RX7 333 2 mJ9_min_7cf53 := ⟨w_901, w_750, w_83, w_751, ⟨by decide, by decide, by decide +kernel⟩⟩
theorem w_905 : Cond.code yX0_countWaiting cX0_countWaiting 3 (some .int) ∈ lwT := inT 905 (by decide +kernel) rfl
theorem w_902 : Cond.methodLink "StrawMap" 338 yX0_countWaiting ∈ lwT := inT 902 (by decide +kernel) rfl
theorem w_903 : Cond.instanceMethod yX0_countWaiting ∈ lwT := inT 903 (by decide +kernel) rfl
theorem w_904 : Cond.selects "StrawMap$Data" yX0_countWaiting yX0_countWaiting ∈ lwT := inT 904 (by decide +kernel) rfl
theorem lk_X7_338 : LkV RX7 338 0 mX0_countWaiting := ⟨w_902, w_903, w_904, w_74, w_905, ⟨by decide, by decide, by decide +kernel⟩⟩
theorem w_909 : Cond.code yX0_countIncomplete cX0_countIncomplete 4 (some .int) ∈ lwT := inT 909 (by decide +kernel) rfl
theorem w_906 : Cond.methodLink "StrawMap" 341 yX0_countIncomplete ∈ lwT := inT 906 (by decide +kernel) rfl
theorem w_907 : Cond.instanceMethod yX0_countIncomplete ∈ lwT := inT 907 (by decide +kernel) rfl
theorem w_908 : Cond.selects "StrawMap$Data" yX0_countIncomplete yX0_countIncomplete ∈ lwT := inT 908 (by decide +kernel) rfl
theorem lk_X7_341 : LkV RX7 341 1 mX0_countIncomplete := ⟨w_906, w_907, w_908, w_74, w_909, ⟨by decide, by decide, by decide +kernel⟩⟩
theorem w_516 : Cond.code yX0_begin cX0_begin 3 none ∈ lwT := inT 516 (by decide +kernel) rfl
theorem w_513 : Cond.methodLink "StrawMap" 344 yX0_begin ∈ lwT := inT 513 (by decide +kernel) rfl
theorem w_514 : Cond.instanceMethod yX0_begin ∈ lwT := inT 514 (by decide +kernel) rfl
theorem w_515 : Cond.selects "StrawMap$Data" yX0_begin yX0_begin ∈ lwT := inT 515 (by decide +kernel) rfl
theorem lk_X7_344 : LkV RX7 344 1 mX0_begin := ⟨w_513, w_514, w_515, w_74, w_516, ⟨by decide, by decide, by decide +kernel⟩⟩
theorem w_918 : Cond.code yX8_drawn cX8_drawn 5 (some .int) ∈ lwT := inT 918 (by decide +kernel) rfl
theorem w_916 : Cond.methodLink "StrawMapModel" 70 yX8_drawn ∈ lwT := inT 916 (by decide +kernel) rfl
theorem w_917 : Cond.static yX8_drawn ∈ lwT := inT 917 (by decide +kernel) rfl
theorem lk_X8_70 : LkS RX8 70 3 mX8_drawn := ⟨w_916, w_917, w_81, w_918, ⟨by decide, by decide, by decide +kernel⟩⟩
theorem w_925 : Cond.code yX8_wanted cX8_wanted 6 (some .int) ∈ lwT := inT 925 (by decide +kernel) rfl
theorem w_923 : Cond.methodLink "StrawMapModel" 74 yX8_wanted ∈ lwT := inT 923 (by decide +kernel) rfl
theorem w_924 : Cond.static yX8_wanted ∈ lwT := inT 924 (by decide +kernel) rfl
theorem lk_X8_74 : LkS RX8 74 1 mX8_wanted := ⟨w_923, w_924, w_81, w_925, ⟨by decide, by decide, by decide +kernel⟩⟩
theorem w_933 : Cond.code yX8_begins cX8_begins 3 none ∈ lwT := inT 933 (by decide +kernel) rfl
theorem w_930 : Cond.methodLink "StrawMapModel" 78 yX8_begins ∈ lwT := inT 930 (by decide +kernel) rfl
theorem w_932 : Cond.instanceMethod yX8_begins ∈ lwT := inT 932 (by decide +kernel) rfl
theorem w_21 : Cond.selects "StrawMapModel" yX8_begins yX8_begins ∈ lwT := inT 21 (by decide +kernel) rfl
theorem lk_X8_78 : LkV RX8 78 1 mX8_begins := ⟨w_930, w_932, w_21, w_81, w_933, ⟨by decide, by decide, by decide +kernel⟩⟩
theorem w_937 : Cond.code yX8_lays cX8_lays 2 none ∈ lwT := inT 937 (by decide +kernel) rfl
theorem w_934 : Cond.methodLink "StrawMapModel" 82 yX8_lays ∈ lwT := inT 934 (by decide +kernel) rfl
theorem w_936 : Cond.instanceMethod yX8_lays ∈ lwT := inT 936 (by decide +kernel) rfl
theorem w_22 : Cond.selects "StrawMapModel" yX8_lays yX8_lays ∈ lwT := inT 22 (by decide +kernel) rfl
theorem lk_X8_82 : LkV RX8 82 0 mX8_lays := ⟨w_934, w_936, w_22, w_81, w_937, ⟨by decide, by decide, by decide +kernel⟩⟩
theorem w_1125 : Cond.code yX8_letterAt cX8_letterAt 2 (some .int) ∈ lwT := inT 1125 (by decide +kernel) rfl
theorem w_1122 : Cond.methodLink "StrawMapModel" 89 yX8_letterAt ∈ lwT := inT 1122 (by decide +kernel) rfl
theorem w_1124 : Cond.instanceMethod yX8_letterAt ∈ lwT := inT 1124 (by decide +kernel) rfl
theorem w_47 : Cond.selects "StrawMapModel" yX8_letterAt yX8_letterAt ∈ lwT := inT 47 (by decide +kernel) rfl
theorem lk_X8_89 : LkV RX8 89 1 mX8_letterAt := ⟨w_1122, w_1124, w_47, w_81, w_1125, ⟨by decide, by decide, by decide +kernel⟩⟩
theorem w_1121 : Cond.code yX8_isFigure cX8_isFigure 2 (some .boolean) ∈ lwT := inT 1121 (by decide +kernel) rfl
theorem w_1118 : Cond.methodLink "StrawMapModel" 92 yX8_isFigure ∈ lwT := inT 1118 (by decide +kernel) rfl
theorem w_1120 : Cond.instanceMethod yX8_isFigure ∈ lwT := inT 1120 (by decide +kernel) rfl
theorem w_46 : Cond.selects "StrawMapModel" yX8_isFigure yX8_isFigure ∈ lwT := inT 46 (by decide +kernel) rfl
theorem lk_X8_92 : LkV RX8 92 1 mX8_isFigure := ⟨w_1118, w_1120, w_46, w_81, w_1121, ⟨by decide, by decide, by decide +kernel⟩⟩
theorem w_1117 : Cond.code yX8_number cX8_number 5 (some .int) ∈ lwT := inT 1117 (by decide +kernel) rfl
theorem w_1114 : Cond.methodLink "StrawMapModel" 99 yX8_number ∈ lwT := inT 1114 (by decide +kernel) rfl
theorem w_1116 : Cond.instanceMethod yX8_number ∈ lwT := inT 1116 (by decide +kernel) rfl
theorem w_45 : Cond.selects "StrawMapModel" yX8_number yX8_number ∈ lwT := inT 45 (by decide +kernel) rfl
theorem lk_X8_99 : LkV RX8 99 3 mX8_number := ⟨w_1114, w_1116, w_45, w_81, w_1117, ⟨by decide, by decide, by decide +kernel⟩⟩
theorem w_1113 : Cond.code yX8_readsDisk cX8_readsDisk 5 (some .int) ∈ lwT := inT 1113 (by decide +kernel) rfl
theorem w_1110 : Cond.methodLink "StrawMapModel" 102 yX8_readsDisk ∈ lwT := inT 1110 (by decide +kernel) rfl
theorem w_1112 : Cond.instanceMethod yX8_readsDisk ∈ lwT := inT 1112 (by decide +kernel) rfl
theorem w_44 : Cond.selects "StrawMapModel" yX8_readsDisk yX8_readsDisk ∈ lwT := inT 44 (by decide +kernel) rfl
theorem lk_X8_102 : LkV RX8 102 1 mX8_readsDisk := ⟨w_1110, w_1112, w_44, w_81, w_1113, ⟨by decide, by decide, by decide +kernel⟩⟩
theorem w_1129 : Cond.code yX8_readsRule cX8_readsRule 5 (some .int) ∈ lwT := inT 1129 (by decide +kernel) rfl
theorem w_1126 : Cond.methodLink "StrawMapModel" 105 yX8_readsRule ∈ lwT := inT 1126 (by decide +kernel) rfl
theorem w_1128 : Cond.instanceMethod yX8_readsRule ∈ lwT := inT 1128 (by decide +kernel) rfl
theorem w_48 : Cond.selects "StrawMapModel" yX8_readsRule yX8_readsRule ∈ lwT := inT 48 (by decide +kernel) rfl
theorem lk_X8_105 : LkV RX8 105 1 mX8_readsRule := ⟨w_1126, w_1128, w_48, w_81, w_1129, ⟨by decide, by decide, by decide +kernel⟩⟩
theorem w_1109 : Cond.code yX8_readsItem cX8_readsItem 4 (some .int) ∈ lwT := inT 1109 (by decide +kernel) rfl
theorem w_1106 : Cond.methodLink "StrawMapModel" 108 yX8_readsItem ∈ lwT := inT 1106 (by decide +kernel) rfl
theorem w_1108 : Cond.instanceMethod yX8_readsItem ∈ lwT := inT 1108 (by decide +kernel) rfl
theorem w_43 : Cond.selects "StrawMapModel" yX8_readsItem yX8_readsItem ∈ lwT := inT 43 (by decide +kernel) rfl
theorem lk_X8_108 : LkV RX8 108 2 mX8_readsItem := ⟨w_1106, w_1108, w_43, w_81, w_1109, ⟨by decide, by decide, by decide +kernel⟩⟩
theorem w_1105 : Cond.code yX8_reads cX8_reads 3 (some .int) ∈ lwT := inT 1105 (by decide +kernel) rfl
theorem w_1102 : Cond.methodLink "StrawMapModel" 112 yX8_reads ∈ lwT := inT 1102 (by decide +kernel) rfl
theorem w_1104 : Cond.instanceMethod yX8_reads ∈ lwT := inT 1104 (by decide +kernel) rfl
theorem w_42 : Cond.selects "StrawMapModel" yX8_reads yX8_reads ∈ lwT := inT 42 (by decide +kernel) rfl
theorem lk_X8_112 : LkV RX8 112 0 mX8_reads := ⟨w_1102, w_1104, w_42, w_81, w_1105, ⟨by decide, by decide, by decide +kernel⟩⟩
theorem w_945 : Cond.code yX8_placesAll cX8_placesAll 4 none ∈ lwT := inT 945 (by decide +kernel) rfl
theorem w_942 : Cond.methodLink "StrawMapModel" 119 yX8_placesAll ∈ lwT := inT 942 (by decide +kernel) rfl
theorem w_944 : Cond.instanceMethod yX8_placesAll ∈ lwT := inT 944 (by decide +kernel) rfl
theorem w_24 : Cond.selects "StrawMapModel" yX8_placesAll yX8_placesAll ∈ lwT := inT 24 (by decide +kernel) rfl
theorem lk_X8_119 : LkV RX8 119 1 mX8_placesAll := ⟨w_942, w_944, w_24, w_81, w_945, ⟨by decide, by decide, by decide +kernel⟩⟩
theorem w_941 : Cond.code yX8_keeps cX8_keeps 3 none ∈ lwT := inT 941 (by decide +kernel) rfl
theorem w_938 : Cond.methodLink "StrawMapModel" 122 yX8_keeps ∈ lwT := inT 938 (by decide +kernel) rfl
theorem w_940 : Cond.instanceMethod yX8_keeps ∈ lwT := inT 940 (by decide +kernel) rfl
theorem w_23 : Cond.selects "StrawMapModel" yX8_keeps yX8_keeps ∈ lwT := inT 23 (by decide +kernel) rfl
theorem lk_X8_122 : LkV RX8 122 0 mX8_keeps := ⟨w_938, w_940, w_23, w_81, w_941, ⟨by decide, by decide, by decide +kernel⟩⟩
theorem w_1013 : Cond.code yX8_placeBits cX8_placeBits 4 (some .int) ∈ lwT := inT 1013 (by decide +kernel) rfl
theorem w_1010 : Cond.methodLink "StrawMapModel" 128 yX8_placeBits ∈ lwT := inT 1010 (by decide +kernel) rfl
theorem w_1012 : Cond.instanceMethod yX8_placeBits ∈ lwT := inT 1012 (by decide +kernel) rfl
theorem w_41 : Cond.selects "StrawMapModel" yX8_placeBits yX8_placeBits ∈ lwT := inT 41 (by decide +kernel) rfl
theorem lk_X8_128 : LkV RX8 128 1 mX8_placeBits := ⟨w_1010, w_1012, w_41, w_81, w_1013, ⟨by decide, by decide, by decide +kernel⟩⟩
theorem w_1137 : Cond.code yX8_copies cX8_copies 4 none ∈ lwT := inT 1137 (by decide +kernel) rfl
theorem w_1134 : Cond.methodLink "StrawMapModel" 134 yX8_copies ∈ lwT := inT 1134 (by decide +kernel) rfl
theorem w_1136 : Cond.instanceMethod yX8_copies ∈ lwT := inT 1136 (by decide +kernel) rfl
theorem w_49 : Cond.selects "StrawMapModel" yX8_copies yX8_copies ∈ lwT := inT 49 (by decide +kernel) rfl
theorem lk_X8_134 : LkV RX8 134 2 mX8_copies := ⟨w_1134, w_1136, w_49, w_81, w_1137, ⟨by decide, by decide, by decide +kernel⟩⟩
theorem w_961 : Cond.code yX8_isIn cX8_isIn 4 (some .boolean) ∈ lwT := inT 961 (by decide +kernel) rfl
theorem w_958 : Cond.methodLink "StrawMapModel" 137 yX8_isIn ∈ lwT := inT 958 (by decide +kernel) rfl
theorem w_960 : Cond.instanceMethod yX8_isIn ∈ lwT := inT 960 (by decide +kernel) rfl
theorem w_28 : Cond.selects "StrawMapModel" yX8_isIn yX8_isIn ∈ lwT := inT 28 (by decide +kernel) rfl
theorem lk_X8_137 : LkV RX8 137 3 mX8_isIn := ⟨w_958, w_960, w_28, w_81, w_961, ⟨by decide, by decide, by decide +kernel⟩⟩
theorem w_957 : Cond.code yX8_isHall cX8_isHall 2 (some .boolean) ∈ lwT := inT 957 (by decide +kernel) rfl
theorem w_954 : Cond.methodLink "StrawMapModel" 141 yX8_isHall ∈ lwT := inT 954 (by decide +kernel) rfl
theorem w_956 : Cond.instanceMethod yX8_isHall ∈ lwT := inT 956 (by decide +kernel) rfl
theorem w_27 : Cond.selects "StrawMapModel" yX8_isHall yX8_isHall ∈ lwT := inT 27 (by decide +kernel) rfl
theorem lk_X8_141 : LkV RX8 141 1 mX8_isHall := ⟨w_954, w_956, w_27, w_81, w_957, ⟨by decide, by decide, by decide +kernel⟩⟩
theorem w_965 : Cond.code yX8_isRack cX8_isRack 2 (some .boolean) ∈ lwT := inT 965 (by decide +kernel) rfl
theorem w_962 : Cond.methodLink "StrawMapModel" 144 yX8_isRack ∈ lwT := inT 962 (by decide +kernel) rfl
theorem w_964 : Cond.instanceMethod yX8_isRack ∈ lwT := inT 964 (by decide +kernel) rfl
theorem w_29 : Cond.selects "StrawMapModel" yX8_isRack yX8_isRack ∈ lwT := inT 29 (by decide +kernel) rfl
theorem lk_X8_144 : LkV RX8 144 1 mX8_isRack := ⟨w_962, w_964, w_29, w_81, w_965, ⟨by decide, by decide, by decide +kernel⟩⟩
theorem w_969 : Cond.code yX8_isDisk cX8_isDisk 2 (some .boolean) ∈ lwT := inT 969 (by decide +kernel) rfl
theorem w_966 : Cond.methodLink "StrawMapModel" 147 yX8_isDisk ∈ lwT := inT 966 (by decide +kernel) rfl
theorem w_968 : Cond.instanceMethod yX8_isDisk ∈ lwT := inT 968 (by decide +kernel) rfl
theorem w_30 : Cond.selects "StrawMapModel" yX8_isDisk yX8_isDisk ∈ lwT := inT 30 (by decide +kernel) rfl
theorem lk_X8_147 : LkV RX8 147 1 mX8_isDisk := ⟨w_966, w_968, w_30, w_81, w_969, ⟨by decide, by decide, by decide +kernel⟩⟩
theorem w_977 : Cond.code yX8_isBelow cX8_isBelow 4 (some .boolean) ∈ lwT := inT 977 (by decide +kernel) rfl
theorem w_974 : Cond.methodLink "StrawMapModel" 150 yX8_isBelow ∈ lwT := inT 974 (by decide +kernel) rfl
theorem w_976 : Cond.instanceMethod yX8_isBelow ∈ lwT := inT 976 (by decide +kernel) rfl
theorem w_32 : Cond.selects "StrawMapModel" yX8_isBelow yX8_isBelow ∈ lwT := inT 32 (by decide +kernel) rfl
theorem lk_X8_150 : LkV RX8 150 2 mX8_isBelow := ⟨w_974, w_976, w_32, w_81, w_977, ⟨by decide, by decide, by decide +kernel⟩⟩
theorem w_953 : Cond.code yX8_isNode cX8_isNode 2 (some .boolean) ∈ lwT := inT 953 (by decide +kernel) rfl
theorem w_950 : Cond.methodLink "StrawMapModel" 154 yX8_isNode ∈ lwT := inT 950 (by decide +kernel) rfl
theorem w_952 : Cond.instanceMethod yX8_isNode ∈ lwT := inT 952 (by decide +kernel) rfl
theorem w_26 : Cond.selects "StrawMapModel" yX8_isNode yX8_isNode ∈ lwT := inT 26 (by decide +kernel) rfl
theorem lk_X8_154 : LkV RX8 154 1 mX8_isNode := ⟨w_950, w_952, w_26, w_81, w_953, ⟨by decide, by decide, by decide +kernel⟩⟩
theorem w_973 : Cond.code yX8_weightOf cX8_weightOf 4 (some .int) ∈ lwT := inT 973 (by decide +kernel) rfl
theorem w_970 : Cond.methodLink "StrawMapModel" 157 yX8_weightOf ∈ lwT := inT 970 (by decide +kernel) rfl
theorem w_972 : Cond.instanceMethod yX8_weightOf ∈ lwT := inT 972 (by decide +kernel) rfl
theorem w_31 : Cond.selects "StrawMapModel" yX8_weightOf yX8_weightOf ∈ lwT := inT 31 (by decide +kernel) rfl
theorem lk_X8_157 : LkV RX8 157 1 mX8_weightOf := ⟨w_970, w_972, w_31, w_81, w_973, ⟨by decide, by decide, by decide +kernel⟩⟩
theorem w_949 : Cond.code yX8_weighsAll cX8_weighsAll 2 none ∈ lwT := inT 949 (by decide +kernel) rfl
theorem w_946 : Cond.methodLink "StrawMapModel" 160 yX8_weighsAll ∈ lwT := inT 946 (by decide +kernel) rfl
theorem w_948 : Cond.instanceMethod yX8_weighsAll ∈ lwT := inT 948 (by decide +kernel) rfl
theorem w_25 : Cond.selects "StrawMapModel" yX8_weighsAll yX8_weighsAll ∈ lwT := inT 25 (by decide +kernel) rfl
theorem lk_X8_160 : LkV RX8 160 0 mX8_weighsAll := ⟨w_946, w_948, w_25, w_81, w_949, ⟨by decide, by decide, by decide +kernel⟩⟩
theorem w_981 : Cond.code yX8_places cX8_places 5 none ∈ lwT := inT 981 (by decide +kernel) rfl
theorem w_978 : Cond.methodLink "StrawMapModel" 163 yX8_places ∈ lwT := inT 978 (by decide +kernel) rfl
theorem w_980 : Cond.instanceMethod yX8_places ∈ lwT := inT 980 (by decide +kernel) rfl
theorem w_33 : Cond.selects "StrawMapModel" yX8_places yX8_places ∈ lwT := inT 33 (by decide +kernel) rfl
theorem lk_X8_163 : LkV RX8 163 1 mX8_places := ⟨w_978, w_980, w_33, w_81, w_981, ⟨by decide, by decide, by decide +kernel⟩⟩
theorem w_1157 : Cond.code yX8_isGroup cX8_isGroup 1 (some .boolean) ∈ lwT := inT 1157 (by decide +kernel) rfl
theorem w_1155 : Cond.methodLink "StrawMapModel" 183 yX8_isGroup ∈ lwT := inT 1155 (by decide +kernel) rfl
theorem w_1156 : Cond.static yX8_isGroup ∈ lwT := inT 1156 (by decide +kernel) rfl
theorem lk_X8_183 : LkS RX8 183 1 mX8_isGroup := ⟨w_1155, w_1156, w_81, w_1157, ⟨by decide, by decide, by decide +kernel⟩⟩
theorem w_993 : Cond.code yX8_chooses cX8_chooses 10 (some .int) ∈ lwT := inT 993 (by decide +kernel) rfl
theorem w_990 : Cond.methodLink "StrawMapModel" 186 yX8_chooses ∈ lwT := inT 990 (by decide +kernel) rfl
theorem w_992 : Cond.instanceMethod yX8_chooses ∈ lwT := inT 992 (by decide +kernel) rfl
theorem w_36 : Cond.selects "StrawMapModel" yX8_chooses yX8_chooses ∈ lwT := inT 36 (by decide +kernel) rfl
theorem lk_X8_186 : LkV RX8 186 3 mX8_chooses := ⟨w_990, w_992, w_36, w_81, w_993, ⟨by decide, by decide, by decide +kernel⟩⟩
theorem w_1005 : Cond.code yX8_partOf cX8_partOf 2 (some .int) ∈ lwT := inT 1005 (by decide +kernel) rfl
theorem w_1002 : Cond.methodLink "StrawMapModel" 189 yX8_partOf ∈ lwT := inT 1002 (by decide +kernel) rfl
theorem w_1004 : Cond.instanceMethod yX8_partOf ∈ lwT := inT 1004 (by decide +kernel) rfl
theorem w_39 : Cond.selects "StrawMapModel" yX8_partOf yX8_partOf ∈ lwT := inT 39 (by decide +kernel) rfl
theorem lk_X8_189 : LkV RX8 189 1 mX8_partOf := ⟨w_1002, w_1004, w_39, w_81, w_1005, ⟨by decide, by decide, by decide +kernel⟩⟩
theorem w_989 : Cond.code yX8_tryOf cX8_tryOf 5 (some .int) ∈ lwT := inT 989 (by decide +kernel) rfl
theorem w_986 : Cond.methodLink "StrawMapModel" 192 yX8_tryOf ∈ lwT := inT 986 (by decide +kernel) rfl
theorem w_988 : Cond.instanceMethod yX8_tryOf ∈ lwT := inT 988 (by decide +kernel) rfl
theorem w_35 : Cond.selects "StrawMapModel" yX8_tryOf yX8_tryOf ∈ lwT := inT 35 (by decide +kernel) rfl
theorem lk_X8_192 : LkV RX8 192 2 mX8_tryOf := ⟨w_986, w_988, w_35, w_81, w_989, ⟨by decide, by decide, by decide +kernel⟩⟩
theorem w_997 : Cond.code yX8_mayBe cX8_mayBe 3 (some .boolean) ∈ lwT := inT 997 (by decide +kernel) rfl
theorem w_994 : Cond.methodLink "StrawMapModel" 195 yX8_mayBe ∈ lwT := inT 994 (by decide +kernel) rfl
theorem w_996 : Cond.instanceMethod yX8_mayBe ∈ lwT := inT 996 (by decide +kernel) rfl
theorem w_37 : Cond.selects "StrawMapModel" yX8_mayBe yX8_mayBe ∈ lwT := inT 37 (by decide +kernel) rfl
theorem lk_X8_195 : LkV RX8 195 2 mX8_mayBe := ⟨w_994, w_996, w_37, w_81, w_997, ⟨by decide, by decide, by decide +kernel⟩⟩
theorem w_1001 : Cond.code yX8_isApart cX8_isApart 4 (some .boolean) ∈ lwT := inT 1001 (by decide +kernel) rfl
theorem w_998 : Cond.methodLink "StrawMapModel" 198 yX8_isApart ∈ lwT := inT 998 (by decide +kernel) rfl
theorem w_1000 : Cond.instanceMethod yX8_isApart ∈ lwT := inT 1000 (by decide +kernel) rfl
theorem w_38 : Cond.selects "StrawMapModel" yX8_isApart yX8_isApart ∈ lwT := inT 38 (by decide +kernel) rfl
theorem lk_X8_198 : LkV RX8 198 2 mX8_isApart := ⟨w_998, w_1000, w_38, w_81, w_1001, ⟨by decide, by decide, by decide +kernel⟩⟩
theorem w_985 : Cond.code yX8_takes cX8_takes 5 none ∈ lwT := inT 985 (by decide +kernel) rfl
theorem w_982 : Cond.methodLink "StrawMapModel" 201 yX8_takes ∈ lwT := inT 982 (by decide +kernel) rfl
theorem w_984 : Cond.instanceMethod yX8_takes ∈ lwT := inT 984 (by decide +kernel) rfl
theorem w_34 : Cond.selects "StrawMapModel" yX8_takes yX8_takes ∈ lwT := inT 34 (by decide +kernel) rfl
theorem lk_X8_201 : LkV RX8 201 3 mX8_takes := ⟨w_982, w_984, w_34, w_81, w_985, ⟨by decide, by decide, by decide +kernel⟩⟩
theorem w_1009 : Cond.code yX8_diverts cX8_diverts 6 none ∈ lwT := inT 1009 (by decide +kernel) rfl
theorem w_1006 : Cond.methodLink "StrawMapModel" 205 yX8_diverts ∈ lwT := inT 1006 (by decide +kernel) rfl
theorem w_1008 : Cond.instanceMethod yX8_diverts ∈ lwT := inT 1008 (by decide +kernel) rfl
theorem w_40 : Cond.selects "StrawMapModel" yX8_diverts yX8_diverts ∈ lwT := inT 40 (by decide +kernel) rfl
theorem lk_X8_205 : LkV RX8 205 1 mX8_diverts := ⟨w_1006, w_1008, w_40, w_81, w_1009, ⟨by decide, by decide, by decide +kernel⟩⟩
theorem w_1195 : Cond.code yX8_has cX8_has 4 (some .boolean) ∈ lwT := inT 1195 (by decide +kernel) rfl
theorem w_1193 : Cond.methodLink "StrawMapModel" 208 yX8_has ∈ lwT := inT 1193 (by decide +kernel) rfl
theorem w_1194 : Cond.static yX8_has ∈ lwT := inT 1194 (by decide +kernel) rfl
theorem lk_X8_208 : LkS RX8 208 3 mX8_has := ⟨w_1193, w_1194, w_81, w_1195, ⟨by decide, by decide, by decide +kernel⟩⟩
theorem w_1189 : Cond.code yX8_takesPart cX8_takesPart 2 (some .boolean) ∈ lwT := inT 1189 (by decide +kernel) rfl
theorem w_1186 : Cond.methodLink "StrawMapModel" 212 yX8_takesPart ∈ lwT := inT 1186 (by decide +kernel) rfl
theorem w_1188 : Cond.instanceMethod yX8_takesPart ∈ lwT := inT 1188 (by decide +kernel) rfl
theorem w_51 : Cond.selects "StrawMapModel" yX8_takesPart yX8_takesPart ∈ lwT := inT 51 (by decide +kernel) rfl
theorem lk_X8_212 : LkV RX8 212 1 mX8_takesPart := ⟨w_1186, w_1188, w_51, w_81, w_1189, ⟨by decide, by decide, by decide +kernel⟩⟩
theorem w_1192 : Cond.code yX8_groupsOf cX8_groupsOf 4 (some .int) ∈ lwT := inT 1192 (by decide +kernel) rfl
theorem w_1190 : Cond.methodLink "StrawMapModel" 215 yX8_groupsOf ∈ lwT := inT 1190 (by decide +kernel) rfl
theorem w_1191 : Cond.static yX8_groupsOf ∈ lwT := inT 1191 (by decide +kernel) rfl
theorem lk_X8_215 : LkS RX8 215 2 mX8_groupsOf := ⟨w_1190, w_1191, w_81, w_1192, ⟨by decide, by decide, by decide +kernel⟩⟩
theorem w_1185 : Cond.code yX8_spreadOf cX8_spreadOf 6 (some .int) ∈ lwT := inT 1185 (by decide +kernel) rfl
theorem w_1182 : Cond.methodLink "StrawMapModel" 219 yX8_spreadOf ∈ lwT := inT 1182 (by decide +kernel) rfl
theorem w_1184 : Cond.instanceMethod yX8_spreadOf ∈ lwT := inT 1184 (by decide +kernel) rfl
theorem w_50 : Cond.selects "StrawMapModel" yX8_spreadOf yX8_spreadOf ∈ lwT := inT 50 (by decide +kernel) rfl
theorem lk_X8_219 : LkV RX8 219 1 mX8_spreadOf := ⟨w_1182, w_1184, w_50, w_81, w_1185, ⟨by decide, by decide, by decide +kernel⟩⟩
theorem w_1207 : Cond.code yX8_changed cX8_changed 1 none ∈ lwT := inT 1207 (by decide +kernel) rfl
theorem w_1204 : Cond.methodLink "StrawMapModel" 223 yX8_changed ∈ lwT := inT 1204 (by decide +kernel) rfl
theorem w_1206 : Cond.instanceMethod yX8_changed ∈ lwT := inT 1206 (by decide +kernel) rfl
theorem w_52 : Cond.selects "StrawMapModel" yX8_changed yX8_changed ∈ lwT := inT 52 (by decide +kernel) rfl
theorem lk_X8_223 : LkV RX8 223 0 mX8_changed := ⟨w_1204, w_1206, w_52, w_81, w_1207, ⟨by decide, by decide, by decide +kernel⟩⟩
theorem w_1219 : Cond.code yX8_loadOf cX8_loadOf 4 (some .int) ∈ lwT := inT 1219 (by decide +kernel) rfl
theorem w_1216 : Cond.methodLink "StrawMapModel" 226 yX8_loadOf ∈ lwT := inT 1216 (by decide +kernel) rfl
theorem w_1218 : Cond.instanceMethod yX8_loadOf ∈ lwT := inT 1218 (by decide +kernel) rfl
theorem w_53 : Cond.selects "StrawMapModel" yX8_loadOf yX8_loadOf ∈ lwT := inT 53 (by decide +kernel) rfl
theorem lk_X8_226 : LkV RX8 226 1 mX8_loadOf := ⟨w_1216, w_1218, w_53, w_81, w_1219, ⟨by decide, by decide, by decide +kernel⟩⟩
theorem w_1251 : Cond.code yX8_isKept cX8_isKept 2 (some .boolean) ∈ lwT := inT 1251 (by decide +kernel) rfl
theorem w_1248 : Cond.methodLink "StrawMapModel" 229 yX8_isKept ∈ lwT := inT 1248 (by decide +kernel) rfl
theorem w_1250 : Cond.instanceMethod yX8_isKept ∈ lwT := inT 1250 (by decide +kernel) rfl
theorem w_54 : Cond.selects "StrawMapModel" yX8_isKept yX8_isKept ∈ lwT := inT 54 (by decide +kernel) rfl
theorem lk_X8_229 : LkV RX8 229 1 mX8_isKept := ⟨w_1248, w_1250, w_54, w_81, w_1251, ⟨by decide, by decide, by decide +kernel⟩⟩
theorem w_1259 : Cond.code yX8_placesBy cX8_placesBy 3 none ∈ lwT := inT 1259 (by decide +kernel) rfl
theorem w_1256 : Cond.methodLink "StrawMapModel" 232 yX8_placesBy ∈ lwT := inT 1256 (by decide +kernel) rfl
theorem w_1258 : Cond.instanceMethod yX8_placesBy ∈ lwT := inT 1258 (by decide +kernel) rfl
theorem w_55 : Cond.selects "StrawMapModel" yX8_placesBy yX8_placesBy ∈ lwT := inT 55 (by decide +kernel) rfl
theorem lk_X8_232 : LkV RX8 232 1 mX8_placesBy := ⟨w_1256, w_1258, w_55, w_81, w_1259, ⟨by decide, by decide, by decide +kernel⟩⟩
theorem w_1271 : Cond.code yX8_placesIf cX8_placesIf 4 none ∈ lwT := inT 1271 (by decide +kernel) rfl
theorem w_1268 : Cond.methodLink "StrawMapModel" 235 yX8_placesIf ∈ lwT := inT 1268 (by decide +kernel) rfl
theorem w_1270 : Cond.instanceMethod yX8_placesIf ∈ lwT := inT 1270 (by decide +kernel) rfl
theorem w_56 : Cond.selects "StrawMapModel" yX8_placesIf yX8_placesIf ∈ lwT := inT 56 (by decide +kernel) rfl
theorem lk_X8_235 : LkV RX8 235 2 mX8_placesIf := ⟨w_1268, w_1270, w_56, w_81, w_1271, ⟨by decide, by decide, by decide +kernel⟩⟩
theorem w_1299 : Cond.code yX8_isWanting cX8_isWanting 2 (some .boolean) ∈ lwT := inT 1299 (by decide +kernel) rfl
theorem w_1296 : Cond.methodLink "StrawMapModel" 239 yX8_isWanting ∈ lwT := inT 1296 (by decide +kernel) rfl
theorem w_1298 : Cond.instanceMethod yX8_isWanting ∈ lwT := inT 1298 (by decide +kernel) rfl
theorem w_59 : Cond.selects "StrawMapModel" yX8_isWanting yX8_isWanting ∈ lwT := inT 59 (by decide +kernel) rfl
theorem lk_X8_239 : LkV RX8 239 1 mX8_isWanting := ⟨w_1296, w_1298, w_59, w_81, w_1299, ⟨by decide, by decide, by decide +kernel⟩⟩
theorem w_1302 : Cond.code yX8_bitsIn cX8_bitsIn 3 (some .int) ∈ lwT := inT 1302 (by decide +kernel) rfl
theorem w_1300 : Cond.methodLink "StrawMapModel" 242 yX8_bitsIn ∈ lwT := inT 1300 (by decide +kernel) rfl
theorem w_1301 : Cond.static yX8_bitsIn ∈ lwT := inT 1301 (by decide +kernel) rfl
theorem lk_X8_242 : LkS RX8 242 1 mX8_bitsIn := ⟨w_1300, w_1301, w_81, w_1302, ⟨by decide, by decide, by decide +kernel⟩⟩
theorem w_1295 : Cond.code yX8_pressing cX8_pressing 5 (some .int) ∈ lwT := inT 1295 (by decide +kernel) rfl
theorem w_1292 : Cond.methodLink "StrawMapModel" 245 yX8_pressing ∈ lwT := inT 1292 (by decide +kernel) rfl
theorem w_1294 : Cond.instanceMethod yX8_pressing ∈ lwT := inT 1294 (by decide +kernel) rfl
theorem w_58 : Cond.selects "StrawMapModel" yX8_pressing yX8_pressing ∈ lwT := inT 58 (by decide +kernel) rfl
theorem lk_X8_245 : LkV RX8 245 0 mX8_pressing := ⟨w_1292, w_1294, w_58, w_81, w_1295, ⟨by decide, by decide, by decide +kernel⟩⟩
theorem w_1306 : Cond.code yX8_copiesTo cX8_copiesTo 4 none ∈ lwT := inT 1306 (by decide +kernel) rfl
theorem w_1303 : Cond.methodLink "StrawMapModel" 248 yX8_copiesTo ∈ lwT := inT 1303 (by decide +kernel) rfl
theorem w_1305 : Cond.instanceMethod yX8_copiesTo ∈ lwT := inT 1305 (by decide +kernel) rfl
theorem w_60 : Cond.selects "StrawMapModel" yX8_copiesTo yX8_copiesTo ∈ lwT := inT 60 (by decide +kernel) rfl
theorem lk_X8_248 : LkV RX8 248 1 mX8_copiesTo := ⟨w_1303, w_1305, w_60, w_81, w_1306, ⟨by decide, by decide, by decide +kernel⟩⟩
theorem w_1291 : Cond.code yX8_ticks cX8_ticks 6 (some .int) ∈ lwT := inT 1291 (by decide +kernel) rfl
theorem w_1288 : Cond.methodLink "StrawMapModel" 251 yX8_ticks ∈ lwT := inT 1288 (by decide +kernel) rfl
theorem w_1290 : Cond.instanceMethod yX8_ticks ∈ lwT := inT 1290 (by decide +kernel) rfl
theorem w_57 : Cond.selects "StrawMapModel" yX8_ticks yX8_ticks ∈ lwT := inT 57 (by decide +kernel) rfl
theorem lk_X8_251 : LkV RX8 251 1 mX8_ticks := ⟨w_1288, w_1290, w_57, w_81, w_1291, ⟨by decide, by decide, by decide +kernel⟩⟩
theorem w_1318 : Cond.code yX8_fails cX8_fails 4 (some .int) ∈ lwT := inT 1318 (by decide +kernel) rfl
theorem w_1315 : Cond.methodLink "StrawMapModel" 254 yX8_fails ∈ lwT := inT 1315 (by decide +kernel) rfl
theorem w_1317 : Cond.instanceMethod yX8_fails ∈ lwT := inT 1317 (by decide +kernel) rfl
theorem w_61 : Cond.selects "StrawMapModel" yX8_fails yX8_fails ∈ lwT := inT 61 (by decide +kernel) rfl
theorem lk_X8_254 : LkV RX8 254 1 mX8_fails := ⟨w_1315, w_1317, w_61, w_81, w_1318, ⟨by decide, by decide, by decide +kernel⟩⟩
theorem w_1339 : Cond.code yX8_lost cX8_lost 3 (some .int) ∈ lwT := inT 1339 (by decide +kernel) rfl
theorem w_1336 : Cond.methodLink "StrawMapModel" 259 yX8_lost ∈ lwT := inT 1336 (by decide +kernel) rfl
theorem w_1338 : Cond.instanceMethod yX8_lost ∈ lwT := inT 1338 (by decide +kernel) rfl
theorem w_62 : Cond.selects "StrawMapModel" yX8_lost yX8_lost ∈ lwT := inT 62 (by decide +kernel) rfl
theorem lk_X8_259 : LkV RX8 259 0 mX8_lost := ⟨w_1336, w_1338, w_62, w_81, w_1339, ⟨by decide, by decide, by decide +kernel⟩⟩
theorem w_1355 : Cond.code yX8_isAllSo cX8_isAllSo 3 (some .boolean) ∈ lwT := inT 1355 (by decide +kernel) rfl
theorem w_1352 : Cond.methodLink "StrawMapModel" 262 yX8_isAllSo ∈ lwT := inT 1352 (by decide +kernel) rfl
theorem w_1354 : Cond.instanceMethod yX8_isAllSo ∈ lwT := inT 1354 (by decide +kernel) rfl
theorem w_63 : Cond.selects "StrawMapModel" yX8_isAllSo yX8_isAllSo ∈ lwT := inT 63 (by decide +kernel) rfl
theorem lk_X8_262 : LkV RX8 262 0 mX8_isAllSo := ⟨w_1352, w_1354, w_63, w_81, w_1355, ⟨by decide, by decide, by decide +kernel⟩⟩
theorem w_1363 : Cond.code yX8_known cX8_known 3 (some .int) ∈ lwT := inT 1363 (by decide +kernel) rfl
theorem w_1360 : Cond.methodLink "StrawMapModel" 266 yX8_known ∈ lwT := inT 1360 (by decide +kernel) rfl
theorem w_1362 : Cond.instanceMethod yX8_known ∈ lwT := inT 1362 (by decide +kernel) rfl
theorem w_64 : Cond.selects "StrawMapModel" yX8_known yX8_known ∈ lwT := inT 64 (by decide +kernel) rfl
theorem lk_X8_266 : LkV RX8 266 0 mX8_known := ⟨w_1360, w_1362, w_64, w_81, w_1363, ⟨by decide, by decide, by decide +kernel⟩⟩
theorem w_1367 : Cond.code yX8_full cX8_full 3 (some .int) ∈ lwT := inT 1367 (by decide +kernel) rfl
theorem w_1364 : Cond.methodLink "StrawMapModel" 269 yX8_full ∈ lwT := inT 1364 (by decide +kernel) rfl
theorem w_1366 : Cond.instanceMethod yX8_full ∈ lwT := inT 1366 (by decide +kernel) rfl
theorem w_65 : Cond.selects "StrawMapModel" yX8_full yX8_full ∈ lwT := inT 65 (by decide +kernel) rfl
theorem lk_X8_269 : LkV RX8 269 0 mX8_full := ⟨w_1364, w_1366, w_65, w_81, w_1367, ⟨by decide, by decide, by decide +kernel⟩⟩
theorem w_1371 : Cond.code yX8_groupsThat cX8_groupsThat 5 (some .int) ∈ lwT := inT 1371 (by decide +kernel) rfl
theorem w_1368 : Cond.methodLink "StrawMapModel" 272 yX8_groupsThat ∈ lwT := inT 1368 (by decide +kernel) rfl
theorem w_1370 : Cond.instanceMethod yX8_groupsThat ∈ lwT := inT 1370 (by decide +kernel) rfl
theorem w_66 : Cond.selects "StrawMapModel" yX8_groupsThat yX8_groupsThat ∈ lwT := inT 66 (by decide +kernel) rfl
theorem lk_X8_272 : LkV RX8 272 1 mX8_groupsThat := ⟨w_1368, w_1370, w_66, w_81, w_1371, ⟨by decide, by decide, by decide +kernel⟩⟩
end ROWS
