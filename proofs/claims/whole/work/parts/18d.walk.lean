/-! Walks, laid by wip/whole/gen.py: for each method f_ (what it does to its world) and c_ (its contract). -/
def f_X13_meanPlants (v0 : SV) : Option UInt64 :=
  bd1 (f_X13_allPlants v0) fun r_1 =>
  ckD (FP.ddiv (FP.i2d r_1) 4622945017495814144) <|
  some (FP.ddiv (FP.i2d r_1) 4622945017495814144)
abbrev rm_X13_meanPlants : Room := { frames := 2, cells := 0, slots := 0, locals := 43 }
set_option maxHeartbeats 4000000 in
set_option maxRecDepth 100000 in
theorem c_X13_meanPlants (l : Launch) (D : va_G) (G : Nat → ClassId) (q0 : Nat → Nat) (v0 : SV) (r : UInt64) (hf : f_X13_meanPlants v0 = some r) (sz : Nat) : mC l yX13_meanPlants wsX13_meanPlants rm_X13_meanPlants D (tyG G) kT [.ref (q0 0)] (kModel G q0 v0) (kModel G q0 v0) sz (some (.double r)) 0 0 := by
  refine mC_ofD (cc := cX13_meanPlants) (maxL := 1) (ret := (some .double)) (by decide) rfl rfl (Nat.le_of_ble_eq_true rfl) ?_
  intro p e s m args below meth c Q0 hx hb hml hts hown hN hK A hD hA hE hP hS hJ ls hl
  have hl : lv_has ls 1 [(0, .ref (q0 0))] := hl
  unfold f_X13_meanPlants at hf
  have hw1 := hts (.constantDouble RX13 285 (4622945017495814144)) (by decide +kernel)
  refine lv_aload_n hx hb dX13_meanPlants_0 rfl (lv_at hl 0 rfl) ?_
  obtain ⟨r_1, hc, hf⟩ := bd1_of hf
  refine k_V (As := []) (rest := []) (ws1 := (kModel G q0 v0)) ⟨hx, hb, hml, hown, hts⟩ (c_X13_allPlants l D G q0  v0 _ hc  _) (cwV 0 hts gX13_meanPlants_X13_allPlants rfl rfl rfl (by decide +kernel) ⟨Nat.le_of_ble_eq_true rfl, Nat.le_of_ble_eq_true rfl⟩) hl.1 (Nat.le_of_ble_eq_true rfl) dX13_meanPlants_1 ⟨Nat.le_of_ble_eq_true rfl, Nat.le_of_ble_eq_true rfl⟩ rfl kT_bl (fun _ _ _ => trivial) hN hK hP hD hS hA 0 11 rfl rfl rfl [0, 1, 2, 3, 4, 5, 6, 7, 8, 9, 10, 11] [] [0, 1, 2, 3, 4, 5, 6, 7, 8, 9, 10, 11] [0, 1, 2, 3] rfl rfl rfl ⟨by decide, by decide, by decide, by decide⟩ rfl (fun H locs hP hD hS => ?_)
  refine lv_i2d hx hb dX13_meanPlants_4 ?_
  refine lv_ldc2d (v := 4622945017495814144) hx hb hown hw1 dX13_meanPlants_5 ?_
  obtain ⟨hnn, hf⟩ := ckD_of hf
  refine lv_ddiv hx hb dX13_meanPlants_8 hnn ?_
  obtain rfl := re1 hf
  exact hE hP hD hS dX13_meanPlants_9
def f_X13_homeShare (v0 : SV) : Option UInt32 :=
  ckI 1 240 <|
  if (v0.2 0 (1 : Int32).toNatClampNeg) = 0 then
    some FP.fconst0
  else
    bd1 (f_X13_atHome v0) fun r_1 =>
    ckI 1 240 <|
    ckF (FP.fdiv (FP.i2f r_1) (FP.i2f (v0.2 0 (1 : Int32).toNatClampNeg))) <|
    some (FP.fdiv (FP.i2f r_1) (FP.i2f (v0.2 0 (1 : Int32).toNatClampNeg)))
abbrev rm_X13_homeShare : Room := { frames := 2, cells := 0, slots := 0, locals := 44 }
set_option maxHeartbeats 4000000 in
set_option maxRecDepth 100000 in
theorem c_X13_homeShare (l : Launch) (D : va_G) (G : Nat → ClassId) (q0 : Nat → Nat) (v0 : SV) (r : UInt32) (hf : f_X13_homeShare v0 = some r) (sz : Nat) : mC l yX13_homeShare wsX13_homeShare rm_X13_homeShare D (tyG G) kT [.ref (q0 0)] (kModel G q0 v0) (kModel G q0 v0) sz (some (.float r)) 0 0 := by
  refine mC_ofF (cc := cX13_homeShare) (maxL := 1) (ret := (some .float)) (by decide) rfl rfl (Nat.le_of_ble_eq_true rfl) ?_
  intro p e s m args below meth c Q0 hx hb hml hts hown hN hK A hD hA hE hP hS hJ ls hl
  have hl : lv_has ls 1 [(0, .ref (q0 0))] := hl
  unfold f_X13_homeShare at hf
  have hi11 : ∀ w ∈ u_ws RX13 TX13 27, w ∈ wsX13_homeShare := by decide +kernel
  have hw1 := hts (.fieldLink RX13 7 "BalconyCensusModel" "now" "[I") (by decide +kernel)
  refine lv_aload_n hx hb dX13_homeShare_0 rfl (lv_at hl 0 rfl) ?_
  refine va_get (D := D) (ci := 11) (v := .ref (q0 1)) (C := RX13) (T := TX13) (N := 27) hx hb hts hi11 hown hK hP 0 rfl rfl 0 (by decide) hw1 (fun _ h9 => h9) rfl dX13_homeShare_1 ?_
  refine lv_iconst (v := 1) hx hb dX13_homeShare_4 (by decide) ?_
  obtain ⟨hin, hf⟩ := ckI_of hf
  refine va_iald (D := D) hx hb hK hP 1 0 rfl rfl hin dX13_homeShare_5 ?_
  refine lv_if_ne (tgt := 13) hx hb dX13_homeShare_6 (by decide) (fun cc => ?_) (fun cc => ?_)
  · replace hf := ifF cc hf
    refine lv_aload_n hx hb dX13_homeShare_13 rfl (lv_at hl 0 rfl) ?_
    obtain ⟨r_1, hc, hf⟩ := bd1_of hf
    refine k_V (As := []) (rest := []) (ws1 := (kModel G q0 v0)) ⟨hx, hb, hml, hown, hts⟩ (c_X13_atHome l D G q0  v0 _ hc  _) (cwV 0 hts gX13_homeShare_X13_atHome rfl rfl rfl (by decide +kernel) ⟨Nat.le_of_ble_eq_true rfl, Nat.le_of_ble_eq_true rfl⟩) hl.1 (Nat.le_of_ble_eq_true rfl) dX13_homeShare_14 ⟨Nat.le_of_ble_eq_true rfl, Nat.le_of_ble_eq_true rfl⟩ rfl kT_bl (fun _ _ _ => trivial) hN hK hP hD hS hA 0 11 rfl rfl rfl [0, 1, 2, 3, 4, 5, 6, 7, 8, 9, 10, 11] [] [0, 1, 2, 3, 4, 5, 6, 7, 8, 9, 10, 11] [0, 1, 2, 3] rfl rfl rfl ⟨by decide, by decide, by decide, by decide⟩ rfl (fun H locs hP hD hS => ?_)
    refine lv_i2f hx hb dX13_homeShare_17 ?_
    refine lv_aload_n hx hb dX13_homeShare_18 rfl (lv_at hl 0 rfl) ?_
    refine va_get (D := D) (ci := 11) (v := .ref (q0 1)) (C := RX13) (T := TX13) (N := 27) hx hb hts hi11 hown hK hP 0 rfl rfl 0 (by decide) hw1 (fun _ h9 => h9) rfl dX13_homeShare_19 ?_
    refine lv_iconst (v := 1) hx hb dX13_homeShare_22 (by decide) ?_
    obtain ⟨hin, hf⟩ := ckI_of hf
    refine va_iald (D := D) hx hb hK hP 1 0 rfl rfl hin dX13_homeShare_23 ?_
    refine lv_i2f hx hb dX13_homeShare_24 ?_
    obtain ⟨hnn, hf⟩ := ckF_of hf
    refine lv_fdiv hx hb dX13_homeShare_25 hnn ?_
    obtain rfl := re1 hf
    exact hE hP hD hS dX13_homeShare_26
  · replace hf := ifT cc hf
    refine lv_fconst0 hx hb dX13_homeShare_9 ?_
    refine lv_goto (tgt := 26) hx hb dX13_homeShare_10 (by decide) ?_
    obtain rfl := re1 hf
    exact hE hP hD hS dX13_homeShare_26
def f_X12_meanPlants (vmn : SV) (vho : SV) : Option UInt64 :=
  bd1 (f_X6_plantSum vho) fun r_1 =>
  ckD (FP.ddiv (FP.i2d r_1) 4622945017495814144) <|
  some (FP.ddiv (FP.i2d r_1) 4622945017495814144)
abbrev rm_X12_meanPlants : Room := { frames := 1, cells := 0, slots := 0, locals := 22 }
set_option maxHeartbeats 4000000 in
set_option maxRecDepth 100000 in
theorem c_X12_meanPlants (l : Launch) (D : va_G) (G : Nat → ClassId) (Q : Nat → Nat → Nat) (vmn : SV) (vho : SV) (r : UInt64) (hf : f_X12_meanPlants vmn vho = some r) (sz : Nat) : mC l yX12_meanPlants wsX12_meanPlants rm_X12_meanPlants D (tyG G) kT [.ref ((Q 0) 0)] (kMain Q vmn ++ kHouse G (Q 1) vho) (kMain Q vmn ++ kHouse G (Q 1) vho) sz (some (.double r)) 0 0 := by
  refine mC_ofD (cc := cX12_meanPlants) (maxL := 1) (ret := (some .double)) (by decide) rfl rfl (Nat.le_of_ble_eq_true rfl) ?_
  intro p e s m args below meth c Q0 hx hb hml hts hown hN hK A hD hA hE hP hS hJ ls hl
  have hl : lv_has ls 1 [(0, .ref ((Q 0) 0))] := hl
  unfold f_X12_meanPlants at hf
  have hi10 : ∀ w ∈ u_ws RX12 TX12 11, w ∈ wsX12_meanPlants := by decide +kernel
  have hw1 := hts (.fieldLink RX12 12 "BalconyCensus" "house" "LBalconyCensus$House;") (by decide +kernel)
  have hw2 := hts (.constantDouble RX12 320 (4622945017495814144)) (by decide +kernel)
  refine lv_aload_n hx hb dX12_meanPlants_0 rfl (lv_at hl 0 rfl) ?_
  refine va_get (D := D) (ci := 10) (v := .ref (Q 1 0)) (C := RX12) (T := TX12) (N := 11) hx hb hts hi10 hown hK hP 0 rfl rfl 0 (by decide) hw1 (fun _ h9 => h9) rfl dX12_meanPlants_1 ?_
  obtain ⟨r_1, hc, hf⟩ := bd1_of hf
  refine k_V (As := []) (rest := []) (ws1 := (kMain Q vmn ++ kHouse G (Q 1) vho)) ⟨hx, hb, hml, hown, hts⟩ (c_X6_plantSum l D G (Q 1)  vho _ hc  _) (cwV 0 hts gX12_meanPlants_X6_plantSum rfl rfl rfl (by decide +kernel) ⟨Nat.le_of_ble_eq_true rfl, Nat.le_of_ble_eq_true rfl⟩) hl.1 (Nat.le_of_ble_eq_true rfl) dX12_meanPlants_4 ⟨Nat.le_of_ble_eq_true rfl, Nat.le_of_ble_eq_true rfl⟩ rfl kT_bl (fun _ _ _ => trivial) hN hK hP hD hS hA 1 4 rfl rfl rfl [1, 2, 3, 4, 5, 6, 7, 8, 9, 10, 11, 12, 13, 14, 15] [0] [0, 1, 2, 3, 4, 5, 6, 7, 8, 9, 10, 11, 12, 13, 14, 15] [0, 1, 2, 3] rfl rfl rfl ⟨by decide, by decide, by decide, by decide⟩ rfl (fun H locs hP hD hS => ?_)
  refine lv_i2d hx hb dX12_meanPlants_7 ?_
  refine lv_ldc2d (v := 4622945017495814144) hx hb hown hw2 dX12_meanPlants_8 ?_
  obtain ⟨hnn, hf⟩ := ckD_of hf
  refine lv_ddiv hx hb dX12_meanPlants_11 hnn ?_
  obtain rfl := re1 hf
  exact hE hP hD hS dX12_meanPlants_12
def f_X12_homeShare (vmn : SV) (vho : SV) : Option UInt32 :=
  if (vho.1 6) = 0 then
    some FP.fconst0
  else
    bd1 (f_X1_countAtHome vho) fun r_1 =>
    ckF (FP.fdiv (FP.i2f r_1) (FP.i2f (vho.1 6))) <|
    some (FP.fdiv (FP.i2f r_1) (FP.i2f (vho.1 6)))
abbrev rm_X12_homeShare : Room := { frames := 1, cells := 0, slots := 0, locals := 22 }
set_option maxHeartbeats 4000000 in
set_option maxRecDepth 100000 in
theorem c_X12_homeShare (l : Launch) (D : va_G) (G : Nat → ClassId) (Q : Nat → Nat → Nat) (vmn : SV) (vho : SV) (r : UInt32) (hf : f_X12_homeShare vmn vho = some r) (sz : Nat) : mC l yX12_homeShare wsX12_homeShare rm_X12_homeShare D (tyG G) kT [.ref ((Q 0) 0)] (kMain Q vmn ++ kHouse G (Q 1) vho) (kMain Q vmn ++ kHouse G (Q 1) vho) sz (some (.float r)) 0 0 := by
  refine mC_ofF (cc := cX12_homeShare) (maxL := 1) (ret := (some .float)) (by decide) rfl rfl (Nat.le_of_ble_eq_true rfl) ?_
  intro p e s m args below meth c Q0 hx hb hml hts hown hN hK A hD hA hE hP hS hJ ls hl
  have hl : lv_has ls 1 [(0, .ref ((Q 0) 0))] := hl
  unfold f_X12_homeShare at hf
  have hi10 : ∀ w ∈ u_ws RX12 TX12 11, w ∈ wsX12_homeShare := by decide +kernel
  have hi4 : ∀ w ∈ u_ws RX6 TX6 10, w ∈ wsX12_homeShare := by decide +kernel
  have hi1 : ∀ w ∈ u_ws RX1 TX1 4, w ∈ wsX12_homeShare := by decide +kernel
  have hw1 := hts (.fieldLink RX12 12 "BalconyCensus" "house" "LBalconyCensus$House;") (by decide +kernel)
  have hw2 := hts (.fieldLink RX12 157 "BalconyCensus$House" "cats" "LBalconyCensus$Cats;") (by decide +kernel)
  have hw3 := hts (.fieldLink RX12 207 "BalconyCensus$Cats" "count" "I") (by decide +kernel)
  refine lv_aload_n hx hb dX12_homeShare_0 rfl (lv_at hl 0 rfl) ?_
  refine va_get (D := D) (ci := 10) (v := .ref (Q 1 0)) (C := RX12) (T := TX12) (N := 11) hx hb hts hi10 hown hK hP 0 rfl rfl 0 (by decide) hw1 (fun _ h9 => h9) rfl dX12_homeShare_1 ?_
  refine va_get (D := D) (ci := 4) (v := .ref ((Q 1) 10)) (C := RX6) (T := TX6) (N := 10) hx hb hts hi4 hown hK hP 1 rfl rfl 4 (by decide) hw2 (fun _ h9 => h9) rfl dX12_homeShare_4 ?_
  refine va_get (D := D) (ci := 1) (v := .int (vho.1 6)) (C := RX1) (T := TX1) (N := 4) hx hb hts hi1 hown hK hP 11 rfl rfl 3 (by decide) hw3 (fun _ h9 => h9) rfl dX12_homeShare_7 ?_
  refine lv_if_ne (tgt := 15) hx hb dX12_homeShare_10 (by decide) (fun cc => ?_) (fun cc => ?_)
  · replace hf := ifF cc hf
    refine lv_aload_n hx hb dX12_homeShare_15 rfl (lv_at hl 0 rfl) ?_
    refine va_get (D := D) (ci := 10) (v := .ref (Q 1 0)) (C := RX12) (T := TX12) (N := 11) hx hb hts hi10 hown hK hP 0 rfl rfl 0 (by decide) hw1 (fun _ h9 => h9) rfl dX12_homeShare_16 ?_
    refine va_get (D := D) (ci := 4) (v := .ref ((Q 1) 10)) (C := RX6) (T := TX6) (N := 10) hx hb hts hi4 hown hK hP 1 rfl rfl 4 (by decide) hw2 (fun _ h9 => h9) rfl dX12_homeShare_19 ?_
    obtain ⟨r_1, hc, hf⟩ := bd1_of hf
    refine k_V (As := []) (rest := []) (ws1 := (kMain Q vmn ++ kHouse G (Q 1) vho)) ⟨hx, hb, hml, hown, hts⟩ (c_X1_countAtHome l D G (Q 1)  vho _ hc  _) (cwV 0 hts gX12_homeShare_X1_countAtHome rfl rfl rfl (by decide +kernel) ⟨Nat.le_of_ble_eq_true rfl, Nat.le_of_ble_eq_true rfl⟩) hl.1 (Nat.le_of_ble_eq_true rfl) dX12_homeShare_22 ⟨Nat.le_of_ble_eq_true rfl, Nat.le_of_ble_eq_true rfl⟩ rfl kT_bl (fun _ _ _ => trivial) hN hK hP hD hS hA 11 1 rfl rfl rfl [11, 12, 13, 14] [0, 1, 2, 3, 4, 5, 6, 7, 8, 9, 10, 15] [0, 1, 2, 3, 4, 5, 6, 7, 8, 9, 10, 12, 13, 14, 15, 11] [0, 1, 2, 3] rfl rfl rfl ⟨by decide, by decide, by decide, by decide⟩ rfl (fun H locs hP hD hS => ?_)
    refine lv_i2f hx hb dX12_homeShare_25 ?_
    refine lv_aload_n hx hb dX12_homeShare_26 rfl (lv_at hl 0 rfl) ?_
    refine va_get (D := D) (ci := 10) (v := .ref (Q 1 0)) (C := RX12) (T := TX12) (N := 11) hx hb hts hi10 hown hK hP 0 rfl rfl 0 (by decide) hw1 (fun _ h9 => h9) rfl dX12_homeShare_27 ?_
    refine va_get (D := D) (ci := 4) (v := .ref ((Q 1) 10)) (C := RX6) (T := TX6) (N := 10) hx hb hts hi4 hown hK hP 1 rfl rfl 4 (by decide) hw2 (fun _ h9 => h9) rfl dX12_homeShare_30 ?_
    refine va_get (D := D) (ci := 1) (v := .int (vho.1 6)) (C := RX1) (T := TX1) (N := 4) hx hb hts hi1 hown hK hP 11 rfl rfl 3 (by decide) hw3 (fun _ h9 => h9) rfl dX12_homeShare_33 ?_
    refine lv_i2f hx hb dX12_homeShare_36 ?_
    obtain ⟨hnn, hf⟩ := ckF_of hf
    refine lv_fdiv hx hb dX12_homeShare_37 hnn ?_
    obtain rfl := re1 hf
    exact hE hP hD hS dX12_homeShare_38
  · replace hf := ifT cc hf
    refine lv_fconst0 hx hb dX12_homeShare_13 ?_
    obtain rfl := re1 hf
    exact hE hP hD hS dX12_homeShare_14
