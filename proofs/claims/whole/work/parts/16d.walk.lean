/-! Walks, laid by wip/whole/gen.py: for each method f_ (what it does to its world) and c_ (its contract). -/
def f_X12_steps (a1 : Int32) (a2 : Int32) (vmn : SV) (vho : SV) (vpa : SV) : Option (Int32 × SV) :=
  bd1 (f_X12_areBalconies a1 a2) fun r_1 =>
  if r_1 = 0 then
    some ((-1), vpa)
  else
    bd1 (f_X9_walkFrom a1 vpa vho) fun w_2 =>
    ckI a2 12 <|
    some ((w_2.2 0 a2.toNatClampNeg), w_2)
abbrev rm_X12_steps : Room := { frames := 5, cells := 0, slots := 0, locals := 120 }
set_option maxHeartbeats 4000000 in
set_option maxRecDepth 100000 in
theorem c_X12_steps (l : Launch) (D : va_G) (G : Nat → ClassId) (Q : Nat → Nat → Nat) (a1 : Int32) (a2 : Int32) (vmn : SV) (vho : SV) (vpa : SV) (r : Int32) (vpa' : SV) (hf : f_X12_steps a1 a2 vmn vho vpa = some (r, vpa')) (sz : Nat) : mC l yX12_steps wsX12_steps rm_X12_steps D (tyG G) kT [.ref ((Q 0) 0), .int a1, .int a2] (kMain Q vmn ++ kHouse G (Q 1) vho ++ kPaths G (Q 7) vpa) (kMain Q vmn ++ kHouse G (Q 1) vho ++ kPaths G (Q 7) vpa') sz (some (.int r)) 0 0 := by
  refine mC_ofI (cc := cX12_steps) (maxL := 3) (ret := (some .int)) (by decide) rfl rfl (Nat.le_of_ble_eq_true rfl) ?_
  intro p e s m args below meth c Q0 hx hb hml hts hown hN hK A hD hA hE hP hS hJ ls hl
  have hl : lv_has ls 3 [(0, .ref ((Q 0) 0)), (1, .int a1), (2, .int a2)] := hl
  unfold f_X12_steps at hf
  have hi10 : ∀ w ∈ u_ws RX12 TX12 11, w ∈ wsX12_steps := by decide +kernel
  have hi7 : ∀ w ∈ u_ws RX9 TX9 2, w ∈ wsX12_steps := by decide +kernel
  have hw1 := hts (.fieldLink RX12 50 "BalconyCensus" "paths" "LBalconyCensus$Paths;") (by decide +kernel)
  have hw2 := hts (.fieldLink RX12 12 "BalconyCensus" "house" "LBalconyCensus$House;") (by decide +kernel)
  have hw3 := hts (.fieldLink RX12 223 "BalconyCensus$Paths" "walked" "[I") (by decide +kernel)
  refine lv_iload_n hx hb dX12_steps_0 rfl (lv_at hl 1 rfl) ?_
  refine lv_iload_n hx hb dX12_steps_1 rfl (lv_at hl 2 rfl) ?_
  obtain ⟨r_1, hc, hf⟩ := bd1_of hf
  refine k_S (As := [.int a1, .int a2]) (rest := []) (ws1 := (kMain Q vmn ++ kHouse G (Q 1) vho ++ kPaths G (Q 7) vpa)) ⟨hx, hb, hml, hown, hts⟩ (c_X12_areBalconies l D G  a1 a2  _ hc  _) (va_cwS 2 hts gX12_steps_X12_areBalconies rfl rfl rfl (by decide +kernel) ⟨Nat.le_of_ble_eq_true rfl, Nat.le_of_ble_eq_true rfl⟩) hl.1 (Nat.le_of_ble_eq_true rfl) dX12_steps_2 ⟨Nat.le_of_ble_eq_true rfl, Nat.le_of_ble_eq_true rfl⟩ rfl kT_bl (fun _ _ _ => trivial) hN hK hP hD hS hA [] [0, 1, 2, 3, 4, 5, 6, 7, 8, 9, 10, 11, 12, 13, 14, 15, 16, 17, 18] [0, 1, 2, 3, 4, 5, 6, 7, 8, 9, 10, 11, 12, 13, 14, 15, 16, 17, 18] [0, 1, 2, 3] rfl rfl rfl ⟨by decide, by decide, by decide, by decide⟩ rfl (fun H locs hP hD hS => ?_)
  refine lv_if_ne (tgt := 10) hx hb dX12_steps_5 (by decide) (fun cc => ?_) (fun cc => ?_)
  · replace hf := ifF cc hf
    refine lv_aload_n hx hb dX12_steps_10 rfl (lv_at hl 0 rfl) ?_
    refine va_get (D := D) (ci := 10) (v := .ref (Q 7 0)) (C := RX12) (T := TX12) (N := 11) hx hb hts hi10 hown hK hP 0 rfl rfl 7 (by decide) hw1 (fun _ h9 => h9) rfl dX12_steps_11 ?_
    refine lv_aload_n hx hb dX12_steps_14 rfl (lv_at hl 0 rfl) ?_
    refine va_get (D := D) (ci := 10) (v := .ref (Q 1 0)) (C := RX12) (T := TX12) (N := 11) hx hb hts hi10 hown hK hP 0 rfl rfl 0 (by decide) hw2 (fun _ h9 => h9) rfl dX12_steps_15 ?_
    refine lv_iload_n hx hb dX12_steps_18 rfl (lv_at hl 1 rfl) ?_
    obtain ⟨w_2, hc, hf⟩ := bd1_of hf
    refine k_V (As := [.ref ((Q 1) 0), .int a1]) (rest := []) (ws1 := (kMain Q vmn ++ kHouse G (Q 1) vho ++ kPaths G (Q 7) w_2)) ⟨hx, hb, hml, hown, hts⟩ (c_X9_walkFrom l D G (Q 7) (Q 1) a1 vpa vho _ hc  _) (cwV 2 hts gX12_steps_X9_walkFrom rfl rfl rfl (by decide +kernel) ⟨Nat.le_of_ble_eq_true rfl, Nat.le_of_ble_eq_true rfl⟩) hl.1 (Nat.le_of_ble_eq_true rfl) dX12_steps_19 ⟨Nat.le_of_ble_eq_true rfl, Nat.le_of_ble_eq_true rfl⟩ rfl kT_bl (fun _ _ _ => trivial) hN hK hP hD hS hA 16 7 rfl rfl rfl [16, 17, 18, 1, 2, 3, 4, 5, 6, 7, 8, 9, 10, 11, 12, 13, 14, 15] [0] [0, 4, 5, 6, 7, 8, 9, 10, 11, 12, 13, 14, 15, 16, 17, 18, 1, 2, 3] [0, 1, 2, 3] rfl rfl rfl ⟨by decide, by decide, by decide, by decide⟩ rfl (fun H locs hP hD hS => ?_)
    refine lv_aload_n hx hb dX12_steps_22 rfl (lv_at hl 0 rfl) ?_
    refine va_get (D := D) (ci := 10) (v := .ref (Q 7 0)) (C := RX12) (T := TX12) (N := 11) hx hb hts hi10 hown hK hP 0 rfl rfl 7 (by decide) hw1 (fun _ h9 => h9) rfl dX12_steps_23 ?_
    refine va_get (D := D) (ci := 7) (v := .ref ((Q 7) 1)) (C := RX9) (T := TX9) (N := 2) hx hb hts hi7 hown hK hP 16 rfl rfl 0 (by decide) hw3 (fun _ h9 => h9) rfl dX12_steps_26 ?_
    refine lv_iload_n hx hb dX12_steps_29 rfl (lv_at hl 2 rfl) ?_
    obtain ⟨hin, hf⟩ := ckI_of hf
    refine va_iald (D := D) hx hb hK hP 17 0 rfl rfl hin dX12_steps_30 ?_
    obtain ⟨rfl, rfl⟩ := re2 hf
    exact hE hP hD hS dX12_steps_31
  · replace hf := ifT cc hf
    refine lv_iconst (v := (-1)) hx hb dX12_steps_8 (by decide) ?_
    obtain ⟨rfl, rfl⟩ := re2 hf
    exact hE hP hD hS dX12_steps_9
def f_X12_stepsAgain (a1 : Int32) (a2 : Int32) (vmn : SV) (vho : SV) (vpa : SV) : Option (Int32 × SV) :=
  bd1 (f_X12_areBalconies a1 a2) fun r_1 =>
  if r_1 = 0 then
    some ((-1), vpa)
  else
    bd1 (f_X9_lessenFrom a1 vpa vho) fun w_2 =>
    ckI a2 12 <|
    some ((w_2.2 1 a2.toNatClampNeg), w_2)
abbrev rm_X12_stepsAgain : Room := { frames := 5, cells := 0, slots := 0, locals := 122 }
set_option maxHeartbeats 4000000 in
set_option maxRecDepth 100000 in
theorem c_X12_stepsAgain (l : Launch) (D : va_G) (G : Nat → ClassId) (Q : Nat → Nat → Nat) (a1 : Int32) (a2 : Int32) (vmn : SV) (vho : SV) (vpa : SV) (r : Int32) (vpa' : SV) (hf : f_X12_stepsAgain a1 a2 vmn vho vpa = some (r, vpa')) (sz : Nat) : mC l yX12_stepsAgain wsX12_stepsAgain rm_X12_stepsAgain D (tyG G) kT [.ref ((Q 0) 0), .int a1, .int a2] (kMain Q vmn ++ kHouse G (Q 1) vho ++ kPaths G (Q 7) vpa) (kMain Q vmn ++ kHouse G (Q 1) vho ++ kPaths G (Q 7) vpa') sz (some (.int r)) 0 0 := by
  refine mC_ofI (cc := cX12_stepsAgain) (maxL := 3) (ret := (some .int)) (by decide) rfl rfl (Nat.le_of_ble_eq_true rfl) ?_
  intro p e s m args below meth c Q0 hx hb hml hts hown hN hK A hD hA hE hP hS hJ ls hl
  have hl : lv_has ls 3 [(0, .ref ((Q 0) 0)), (1, .int a1), (2, .int a2)] := hl
  unfold f_X12_stepsAgain at hf
  have hi10 : ∀ w ∈ u_ws RX12 TX12 11, w ∈ wsX12_stepsAgain := by decide +kernel
  have hi7 : ∀ w ∈ u_ws RX9 TX9 2, w ∈ wsX12_stepsAgain := by decide +kernel
  have hw1 := hts (.fieldLink RX12 50 "BalconyCensus" "paths" "LBalconyCensus$Paths;") (by decide +kernel)
  have hw2 := hts (.fieldLink RX12 12 "BalconyCensus" "house" "LBalconyCensus$House;") (by decide +kernel)
  have hw3 := hts (.fieldLink RX12 258 "BalconyCensus$Paths" "lessened" "[I") (by decide +kernel)
  refine lv_iload_n hx hb dX12_stepsAgain_0 rfl (lv_at hl 1 rfl) ?_
  refine lv_iload_n hx hb dX12_stepsAgain_1 rfl (lv_at hl 2 rfl) ?_
  obtain ⟨r_1, hc, hf⟩ := bd1_of hf
  refine k_S (As := [.int a1, .int a2]) (rest := []) (ws1 := (kMain Q vmn ++ kHouse G (Q 1) vho ++ kPaths G (Q 7) vpa)) ⟨hx, hb, hml, hown, hts⟩ (c_X12_areBalconies l D G  a1 a2  _ hc  _) (va_cwS 2 hts gX12_stepsAgain_X12_areBalconies rfl rfl rfl (by decide +kernel) ⟨Nat.le_of_ble_eq_true rfl, Nat.le_of_ble_eq_true rfl⟩) hl.1 (Nat.le_of_ble_eq_true rfl) dX12_stepsAgain_2 ⟨Nat.le_of_ble_eq_true rfl, Nat.le_of_ble_eq_true rfl⟩ rfl kT_bl (fun _ _ _ => trivial) hN hK hP hD hS hA [] [0, 1, 2, 3, 4, 5, 6, 7, 8, 9, 10, 11, 12, 13, 14, 15, 16, 17, 18] [0, 1, 2, 3, 4, 5, 6, 7, 8, 9, 10, 11, 12, 13, 14, 15, 16, 17, 18] [0, 1, 2, 3] rfl rfl rfl ⟨by decide, by decide, by decide, by decide⟩ rfl (fun H locs hP hD hS => ?_)
  refine lv_if_ne (tgt := 10) hx hb dX12_stepsAgain_5 (by decide) (fun cc => ?_) (fun cc => ?_)
  · replace hf := ifF cc hf
    refine lv_aload_n hx hb dX12_stepsAgain_10 rfl (lv_at hl 0 rfl) ?_
    refine va_get (D := D) (ci := 10) (v := .ref (Q 7 0)) (C := RX12) (T := TX12) (N := 11) hx hb hts hi10 hown hK hP 0 rfl rfl 7 (by decide) hw1 (fun _ h9 => h9) rfl dX12_stepsAgain_11 ?_
    refine lv_aload_n hx hb dX12_stepsAgain_14 rfl (lv_at hl 0 rfl) ?_
    refine va_get (D := D) (ci := 10) (v := .ref (Q 1 0)) (C := RX12) (T := TX12) (N := 11) hx hb hts hi10 hown hK hP 0 rfl rfl 0 (by decide) hw2 (fun _ h9 => h9) rfl dX12_stepsAgain_15 ?_
    refine lv_iload_n hx hb dX12_stepsAgain_18 rfl (lv_at hl 1 rfl) ?_
    obtain ⟨w_2, hc, hf⟩ := bd1_of hf
    refine k_V (As := [.ref ((Q 1) 0), .int a1]) (rest := []) (ws1 := (kMain Q vmn ++ kHouse G (Q 1) vho ++ kPaths G (Q 7) w_2)) ⟨hx, hb, hml, hown, hts⟩ (c_X9_lessenFrom l D G (Q 7) (Q 1) a1 vpa vho _ hc  _) (cwV 2 hts gX12_stepsAgain_X9_lessenFrom rfl rfl rfl (by decide +kernel) ⟨Nat.le_of_ble_eq_true rfl, Nat.le_of_ble_eq_true rfl⟩) hl.1 (Nat.le_of_ble_eq_true rfl) dX12_stepsAgain_19 ⟨Nat.le_of_ble_eq_true rfl, Nat.le_of_ble_eq_true rfl⟩ rfl kT_bl (fun _ _ _ => trivial) hN hK hP hD hS hA 16 7 rfl rfl rfl [16, 17, 18, 1, 2, 3, 4, 5, 6, 7, 8, 9, 10, 11, 12, 13, 14, 15] [0] [0, 4, 5, 6, 7, 8, 9, 10, 11, 12, 13, 14, 15, 16, 17, 18, 1, 2, 3] [0, 1, 2, 3] rfl rfl rfl ⟨by decide, by decide, by decide, by decide⟩ rfl (fun H locs hP hD hS => ?_)
    refine lv_aload_n hx hb dX12_stepsAgain_22 rfl (lv_at hl 0 rfl) ?_
    refine va_get (D := D) (ci := 10) (v := .ref (Q 7 0)) (C := RX12) (T := TX12) (N := 11) hx hb hts hi10 hown hK hP 0 rfl rfl 7 (by decide) hw1 (fun _ h9 => h9) rfl dX12_stepsAgain_23 ?_
    refine va_get (D := D) (ci := 7) (v := .ref ((Q 7) 2)) (C := RX9) (T := TX9) (N := 2) hx hb hts hi7 hown hK hP 16 rfl rfl 1 (by decide) hw3 (fun _ h9 => h9) rfl dX12_stepsAgain_26 ?_
    refine lv_iload_n hx hb dX12_stepsAgain_29 rfl (lv_at hl 2 rfl) ?_
    obtain ⟨hin, hf⟩ := ckI_of hf
    refine va_iald (D := D) hx hb hK hP 18 0 rfl rfl hin dX12_stepsAgain_30 ?_
    obtain ⟨rfl, rfl⟩ := re2 hf
    exact hE hP hD hS dX12_stepsAgain_31
  · replace hf := ifT cc hf
    refine lv_iconst (v := (-1)) hx hb dX12_stepsAgain_8 (by decide) ?_
    obtain ⟨rfl, rfl⟩ := re2 hf
    exact hE hP hD hS dX12_stepsAgain_9
def f_X12_way (a1 : Int32) (a2 : Int32) (a3 : Int32) (vmn : SV) (vho : SV) (vpa : SV) : Option (Int32 × SV) :=
  bd1 (f_X12_areBalconies a1 a2) fun r_1 =>
  if r_1 = 0 then
    some ((-1), vpa)
  else
    bd2 (f_X9_placeOnWay a1 a2 a3 vpa vho) fun r_2 w_3 =>
    some (r_2, w_3)
abbrev rm_X12_way : Room := { frames := 6, cells := 0, slots := 0, locals := 146 }
set_option maxHeartbeats 4000000 in
set_option maxRecDepth 100000 in
theorem c_X12_way (l : Launch) (D : va_G) (G : Nat → ClassId) (Q : Nat → Nat → Nat) (a1 : Int32) (a2 : Int32) (a3 : Int32) (vmn : SV) (vho : SV) (vpa : SV) (r : Int32) (vpa' : SV) (hf : f_X12_way a1 a2 a3 vmn vho vpa = some (r, vpa')) (sz : Nat) : mC l yX12_way wsX12_way rm_X12_way D (tyG G) kT [.ref ((Q 0) 0), .int a1, .int a2, .int a3] (kMain Q vmn ++ kHouse G (Q 1) vho ++ kPaths G (Q 7) vpa) (kMain Q vmn ++ kHouse G (Q 1) vho ++ kPaths G (Q 7) vpa') sz (some (.int r)) 0 0 := by
  refine mC_ofI (cc := cX12_way) (maxL := 4) (ret := (some .int)) (by decide) rfl rfl (Nat.le_of_ble_eq_true rfl) ?_
  intro p e s m args below meth c Q0 hx hb hml hts hown hN hK A hD hA hE hP hS hJ ls hl
  have hl : lv_has ls 4 [(0, .ref ((Q 0) 0)), (1, .int a1), (2, .int a2), (3, .int a3)] := hl
  unfold f_X12_way at hf
  have hi10 : ∀ w ∈ u_ws RX12 TX12 11, w ∈ wsX12_way := by decide +kernel
  have hw1 := hts (.fieldLink RX12 50 "BalconyCensus" "paths" "LBalconyCensus$Paths;") (by decide +kernel)
  have hw2 := hts (.fieldLink RX12 12 "BalconyCensus" "house" "LBalconyCensus$House;") (by decide +kernel)
  refine lv_iload_n hx hb dX12_way_0 rfl (lv_at hl 1 rfl) ?_
  refine lv_iload_n hx hb dX12_way_1 rfl (lv_at hl 2 rfl) ?_
  obtain ⟨r_1, hc, hf⟩ := bd1_of hf
  refine k_S (As := [.int a1, .int a2]) (rest := []) (ws1 := (kMain Q vmn ++ kHouse G (Q 1) vho ++ kPaths G (Q 7) vpa)) ⟨hx, hb, hml, hown, hts⟩ (c_X12_areBalconies l D G  a1 a2  _ hc  _) (va_cwS 2 hts gX12_way_X12_areBalconies rfl rfl rfl (by decide +kernel) ⟨Nat.le_of_ble_eq_true rfl, Nat.le_of_ble_eq_true rfl⟩) hl.1 (Nat.le_of_ble_eq_true rfl) dX12_way_2 ⟨Nat.le_of_ble_eq_true rfl, Nat.le_of_ble_eq_true rfl⟩ rfl kT_bl (fun _ _ _ => trivial) hN hK hP hD hS hA [] [0, 1, 2, 3, 4, 5, 6, 7, 8, 9, 10, 11, 12, 13, 14, 15, 16, 17, 18] [0, 1, 2, 3, 4, 5, 6, 7, 8, 9, 10, 11, 12, 13, 14, 15, 16, 17, 18] [0, 1, 2, 3] rfl rfl rfl ⟨by decide, by decide, by decide, by decide⟩ rfl (fun H locs hP hD hS => ?_)
  refine lv_if_ne (tgt := 10) hx hb dX12_way_5 (by decide) (fun cc => ?_) (fun cc => ?_)
  · replace hf := ifF cc hf
    refine lv_aload_n hx hb dX12_way_10 rfl (lv_at hl 0 rfl) ?_
    refine va_get (D := D) (ci := 10) (v := .ref (Q 7 0)) (C := RX12) (T := TX12) (N := 11) hx hb hts hi10 hown hK hP 0 rfl rfl 7 (by decide) hw1 (fun _ h9 => h9) rfl dX12_way_11 ?_
    refine lv_aload_n hx hb dX12_way_14 rfl (lv_at hl 0 rfl) ?_
    refine va_get (D := D) (ci := 10) (v := .ref (Q 1 0)) (C := RX12) (T := TX12) (N := 11) hx hb hts hi10 hown hK hP 0 rfl rfl 0 (by decide) hw2 (fun _ h9 => h9) rfl dX12_way_15 ?_
    refine lv_iload_n hx hb dX12_way_18 rfl (lv_at hl 1 rfl) ?_
    refine lv_iload_n hx hb dX12_way_19 rfl (lv_at hl 2 rfl) ?_
    refine lv_iload_n hx hb dX12_way_20 rfl (lv_at hl 3 rfl) ?_
    obtain ⟨r_2, w_3, hc, hf⟩ := bd2_of hf
    refine k_V (As := [.ref ((Q 1) 0), .int a1, .int a2, .int a3]) (rest := []) (ws1 := (kMain Q vmn ++ kHouse G (Q 1) vho ++ kPaths G (Q 7) w_3)) ⟨hx, hb, hml, hown, hts⟩ (c_X9_placeOnWay l D G (Q 7) (Q 1) a1 a2 a3 vpa vho _ _ hc  _) (cwV 4 hts gX12_way_X9_placeOnWay rfl rfl rfl (by decide +kernel) ⟨Nat.le_of_ble_eq_true rfl, Nat.le_of_ble_eq_true rfl⟩) hl.1 (Nat.le_of_ble_eq_true rfl) dX12_way_21 ⟨Nat.le_of_ble_eq_true rfl, Nat.le_of_ble_eq_true rfl⟩ rfl kT_bl (fun _ _ _ => trivial) hN hK hP hD hS hA 16 7 rfl rfl rfl [16, 17, 18, 1, 2, 3, 4, 5, 6, 7, 8, 9, 10, 11, 12, 13, 14, 15] [0] [0, 4, 5, 6, 7, 8, 9, 10, 11, 12, 13, 14, 15, 16, 17, 18, 1, 2, 3] [0, 1, 2, 3] rfl rfl rfl ⟨by decide, by decide, by decide, by decide⟩ rfl (fun H locs hP hD hS => ?_)
    obtain ⟨rfl, rfl⟩ := re2 hf
    exact hE hP hD hS dX12_way_24
  · replace hf := ifT cc hf
    refine lv_iconst (v := (-1)) hx hb dX12_way_8 (by decide) ?_
    obtain ⟨rfl, rfl⟩ := re2 hf
    exact hE hP hD hS dX12_way_9
def f_X12_circles (vmn : SV) (vho : SV) : Option Int32 :=
  bd1 (f_X4_countCircles vho) fun r_1 =>
  some r_1
abbrev rm_X12_circles : Room := { frames := 5, cells := 0, slots := 0, locals := 115 }
set_option maxHeartbeats 4000000 in
set_option maxRecDepth 100000 in
theorem c_X12_circles (l : Launch) (D : va_G) (G : Nat → ClassId) (Q : Nat → Nat → Nat) (vmn : SV) (vho : SV) (r : Int32) (hf : f_X12_circles vmn vho = some r) (sz : Nat) : mC l yX12_circles wsX12_circles rm_X12_circles D (tyG G) kT [.ref ((Q 0) 0)] (kMain Q vmn ++ kHouse G (Q 1) vho) (kMain Q vmn ++ kHouse G (Q 1) vho) sz (some (.int r)) 0 0 := by
  refine mC_ofI (cc := cX12_circles) (maxL := 1) (ret := (some .int)) (by decide) rfl rfl (Nat.le_of_ble_eq_true rfl) ?_
  intro p e s m args below meth c Q0 hx hb hml hts hown hN hK A hD hA hE hP hS hJ ls hl
  have hl : lv_has ls 1 [(0, .ref ((Q 0) 0))] := hl
  unfold f_X12_circles at hf
  have hi10 : ∀ w ∈ u_ws RX12 TX12 11, w ∈ wsX12_circles := by decide +kernel
  have hi4 : ∀ w ∈ u_ws RX6 TX6 10, w ∈ wsX12_circles := by decide +kernel
  have hw1 := hts (.fieldLink RX12 12 "BalconyCensus" "house" "LBalconyCensus$House;") (by decide +kernel)
  have hw2 := hts (.fieldLink RX12 172 "BalconyCensus$House" "greetings" "LBalconyCensus$Greetings;") (by decide +kernel)
  refine lv_aload_n hx hb dX12_circles_0 rfl (lv_at hl 0 rfl) ?_
  refine va_get (D := D) (ci := 10) (v := .ref (Q 1 0)) (C := RX12) (T := TX12) (N := 11) hx hb hts hi10 hown hK hP 0 rfl rfl 0 (by decide) hw1 (fun _ h9 => h9) rfl dX12_circles_1 ?_
  refine va_get (D := D) (ci := 4) (v := .ref ((Q 1) 7)) (C := RX6) (T := TX6) (N := 10) hx hb hts hi4 hown hK hP 1 rfl rfl 3 (by decide) hw2 (fun _ h9 => h9) rfl dX12_circles_4 ?_
  obtain ⟨r_1, hc, hf⟩ := bd1_of hf
  refine k_V (As := []) (rest := []) (ws1 := (kMain Q vmn ++ kHouse G (Q 1) vho)) ⟨hx, hb, hml, hown, hts⟩ (c_X4_countCircles l D G (Q 1)  vho _ hc  _) (cwV 0 hts gX12_circles_X4_countCircles rfl rfl rfl (by decide +kernel) ⟨Nat.le_of_ble_eq_true rfl, Nat.le_of_ble_eq_true rfl⟩) hl.1 (Nat.le_of_ble_eq_true rfl) dX12_circles_7 ⟨Nat.le_of_ble_eq_true rfl, Nat.le_of_ble_eq_true rfl⟩ rfl kT_bl (fun _ _ _ => trivial) hN hK hP hD hS hA 8 2 rfl rfl rfl [8, 9, 10] [0, 1, 2, 3, 4, 5, 6, 7, 11, 12, 13, 14, 15] [0, 1, 2, 3, 4, 5, 6, 7, 13, 14, 15, 8, 9, 10, 11, 12] [0, 1, 2, 3] rfl rfl rfl ⟨by decide, by decide, by decide, by decide⟩ rfl (fun H locs hP hD hS => ?_)
  obtain rfl := re1 hf
  exact hE hP hD hS dX12_circles_10
def f_X12_wouldGrow_K26 (y_10 : Int32) (z_11 : SV) : Option (Int32 × SV) :=
  bd1 (f_X6_plantSum z_11) fun r_12 =>
  some (r_12, z_11)
def f_X12_wouldGrow_B26 (a1 : Int32) (selfL_7 : (Int32 → SV → Option (Int32 × SV))) (x_5 : Int32) (u_6 : SV) : Option (Int32 × SV) :=
  if a1 ≤ x_5 then
    f_X12_wouldGrow_K26 x_5 u_6
  else
    bd2 (f_X6_endDay u_6) fun r_8 w_9 =>
    selfL_7 (x_5 + 1) w_9
def f_X12_wouldGrow (a1 : Int32) (vmn : SV) (vho : SV) (vdr : SV) : Option (Int32 × SV) :=
  if a1 < 0 then
    some ((-2), vdr)
  else
    if a1 ≤ 20 then
      bd1 (f_X6_take vdr vho) fun w_1 =>
      lz2 (f_X12_wouldGrow_B26 a1) FU 0 w_1
    else
      some ((-2), vdr)
abbrev rm_X12_wouldGrow : Room := { frames := 3, cells := 0, slots := 0, locals := 65 }
set_option maxHeartbeats 4000000 in
set_option maxRecDepth 100000 in
theorem c_X12_wouldGrow (l : Launch) (D : va_G) (G : Nat → ClassId) (Q : Nat → Nat → Nat) (a1 : Int32) (vmn : SV) (vho : SV) (vdr : SV) (r : Int32) (vdr' : SV) (hf : f_X12_wouldGrow a1 vmn vho vdr = some (r, vdr')) (sz : Nat) : mC l yX12_wouldGrow wsX12_wouldGrow rm_X12_wouldGrow D (tyG G) kT [.ref ((Q 0) 0), .int a1] (kMain Q vmn ++ kHouse G (Q 1) vho ++ kHouse G (Q 2) vdr) (kMain Q vmn ++ kHouse G (Q 1) vho ++ kHouse G (Q 2) vdr') sz (some (.int r)) 0 0 := by
  refine mC_ofI (cc := cX12_wouldGrow) (maxL := 3) (ret := (some .int)) (by decide) rfl rfl (Nat.le_of_ble_eq_true rfl) ?_
  intro p e s m args below meth c Q0 hx hb hml hts hown hN hK A hD hA hE hP hS hJ ls hl
  have hl : lv_has ls 3 [(0, .ref ((Q 0) 0)), (1, .int a1)] := hl
  unfold f_X12_wouldGrow at hf
  have hi10 : ∀ w ∈ u_ws RX12 TX12 11, w ∈ wsX12_wouldGrow := by decide +kernel
  have hw1 := hts (.fieldLink RX12 16 "BalconyCensus" "draft" "LBalconyCensus$House;") (by decide +kernel)
  have hw2 := hts (.fieldLink RX12 12 "BalconyCensus" "house" "LBalconyCensus$House;") (by decide +kernel)
  refine lv_iload_n hx hb dX12_wouldGrow_0 rfl (lv_at hl 1 rfl) ?_
  refine lv_if_lt (tgt := 10) hx hb dX12_wouldGrow_1 (by decide) (fun cc => ?_) (fun cc => ?_)
  · replace hf := ifT cc hf
    refine lv_bipush (v := (-2)) hx hb dX12_wouldGrow_10 (by decide +kernel) ?_
    obtain ⟨rfl, rfl⟩ := re2 hf
    exact hE hP hD hS dX12_wouldGrow_12
  · replace hf := ifF cc hf
    refine lv_iload_n hx hb dX12_wouldGrow_4 rfl (lv_at hl 1 rfl) ?_
    refine lv_bipush (v := 20) hx hb dX12_wouldGrow_5 (by decide +kernel) ?_
    refine lv_icmp_le (tgt := 13) hx hb dX12_wouldGrow_7 (by decide) (fun cc => ?_) (fun cc => ?_)
    · replace hf := ifT cc hf
      refine lv_aload_n hx hb dX12_wouldGrow_13 rfl (lv_at hl 0 rfl) ?_
      refine va_get (D := D) (ci := 10) (v := .ref (Q 2 0)) (C := RX12) (T := TX12) (N := 11) hx hb hts hi10 hown hK hP 0 rfl rfl 1 (by decide) hw1 (fun _ h9 => h9) rfl dX12_wouldGrow_14 ?_
      refine lv_aload_n hx hb dX12_wouldGrow_17 rfl (lv_at hl 0 rfl) ?_
      refine va_get (D := D) (ci := 10) (v := .ref (Q 1 0)) (C := RX12) (T := TX12) (N := 11) hx hb hts hi10 hown hK hP 0 rfl rfl 0 (by decide) hw2 (fun _ h9 => h9) rfl dX12_wouldGrow_18 ?_
      obtain ⟨w_1, hc, hf⟩ := bd1_of hf
      refine k_V (As := [.ref ((Q 1) 0)]) (rest := []) (ws1 := (kMain Q vmn ++ kHouse G (Q 1) vho ++ kHouse G (Q 2) w_1)) ⟨hx, hb, hml, hown, hts⟩ (c_X6_take l D G (Q 2) (Q 1)  vdr vho _ hc  _) (cwV 1 hts gX12_wouldGrow_X6_take rfl rfl rfl (by decide +kernel) ⟨Nat.le_of_ble_eq_true rfl, Nat.le_of_ble_eq_true rfl⟩) hl.1 (Nat.le_of_ble_eq_true rfl) dX12_wouldGrow_21 ⟨Nat.le_of_ble_eq_true rfl, Nat.le_of_ble_eq_true rfl⟩ rfl kT_bl (fun _ _ _ => trivial) hN hK hP hD hS hA 16 4 rfl rfl rfl [16, 17, 18, 19, 20, 21, 22, 23, 24, 25, 26, 27, 28, 29, 30, 1, 2, 3, 4, 5, 6, 7, 8, 9, 10, 11, 12, 13, 14, 15] [0] [0, 16, 17, 18, 19, 20, 21, 22, 23, 24, 25, 26, 27, 28, 29, 30, 1, 2, 3, 4, 5, 6, 7, 8, 9, 10, 11, 12, 13, 14, 15] [0, 1, 2, 3] rfl rfl rfl ⟨by decide, by decide, by decide, by decide⟩ rfl (fun H locs hP hD hS => ?_)
      refine lv_iconst (v := 0) hx hb dX12_wouldGrow_24 (by decide) ?_
      refine lv_istore_n (lv' := [(2, .int 0), (0, .ref ((Q 0) 0)), (1, .int a1)]) hx hb dX12_wouldGrow_25 rfl hl (by decide) rfl (fun ls hl => ?_)
      have exL_7 : ∀ (y_10 : Int32) (z_11 : SV) (H : Heap) (locs : List Loc) (ls : Array Slot), lv_has ls 3 [(2, .int y_10), (0, .ref ((Q 0) 0)), (1, .int a1)] → va_P D vwCl (kMain Q vmn ++ kHouse G (Q 1) vho ++ kHouse G (Q 2) z_11) H → va_D A (kMain Q vmn ++ kHouse G (Q 1) vho ++ kHouse G (Q 2) z_11) → va_S A s.heap H locs → f_X12_wouldGrow_K26 y_10 z_11 = some (r, vdr') → W p l e rm_X12_wouldGrow s m args below meth c H locs 0 0 Q0 (F0 m 45 ls []) := by
        intro y_10 z_11 H locs ls hl hP hD hS hf
        unfold f_X12_wouldGrow_K26 at hf
        refine lv_aload_n hx hb dX12_wouldGrow_45 rfl (lv_at hl 1 rfl) ?_
        refine va_get (D := D) (ci := 10) (v := .ref (Q 2 0)) (C := RX12) (T := TX12) (N := 11) hx hb hts hi10 hown hK hP 0 rfl rfl 1 (by decide) hw1 (fun _ h9 => h9) rfl dX12_wouldGrow_46 ?_
        obtain ⟨r_12, hc, hf⟩ := bd1_of hf
        refine k_V (As := []) (rest := []) (ws1 := (kMain Q vmn ++ kHouse G (Q 1) vho ++ kHouse G (Q 2) z_11)) ⟨hx, hb, hml, hown, hts⟩ (c_X6_plantSum l D G (Q 2)  z_11 _ hc  _) (cwV 0 hts gX12_wouldGrow_X6_plantSum rfl rfl rfl (by decide +kernel) ⟨Nat.le_of_ble_eq_true rfl, Nat.le_of_ble_eq_true rfl⟩) hl.1 (Nat.le_of_ble_eq_true rfl) dX12_wouldGrow_49 ⟨Nat.le_of_ble_eq_true rfl, Nat.le_of_ble_eq_true rfl⟩ rfl kT_bl (fun _ _ _ => trivial) hN hK hP hD hS hA 16 4 rfl rfl rfl [16, 17, 18, 19, 20, 21, 22, 23, 24, 25, 26, 27, 28, 29, 30] [0, 1, 2, 3, 4, 5, 6, 7, 8, 9, 10, 11, 12, 13, 14, 15] [0, 1, 2, 3, 4, 5, 6, 7, 8, 9, 10, 11, 12, 13, 14, 15, 16, 17, 18, 19, 20, 21, 22, 23, 24, 25, 26, 27, 28, 29, 30] [0, 1, 2, 3] rfl rfl rfl ⟨by decide, by decide, by decide, by decide⟩ rfl (fun H locs hP hD hS => ?_)
        obtain ⟨rfl, rfl⟩ := re2 hf
        exact hE hP hD hS dX12_wouldGrow_52
      have loL_7 : ∀ (n : Nat) (x_5 : Int32) (u_6 : SV) (H : Heap) (locs : List Loc) (ls : Array Slot), lv_has ls 3 [(2, .int x_5), (0, .ref ((Q 0) 0)), (1, .int a1)] → va_P D vwCl (kMain Q vmn ++ kHouse G (Q 1) vho ++ kHouse G (Q 2) u_6) H → va_D A (kMain Q vmn ++ kHouse G (Q 1) vho ++ kHouse G (Q 2) u_6) → va_S A s.heap H locs → lz2 (f_X12_wouldGrow_B26 a1) n x_5 u_6 = some (r, vdr') → W p l e rm_X12_wouldGrow s m args below meth c H locs 0 0 Q0 (F0 m 26 ls []) := by
        intro n
        induction n with
        | zero => intro x_5 u_6 H locs ls hl hP hD hS hf; cases hf
        | succ n ihL_7 =>
          intro x_5 u_6 H locs ls hl hP hD hS hf
          replace hf := lz2_s hf
          unfold f_X12_wouldGrow_B26 at hf
          refine lv_iload_n hx hb dX12_wouldGrow_26 rfl (lv_at hl 0 rfl) ?_
          refine lv_iload_n hx hb dX12_wouldGrow_27 rfl (lv_at hl 2 rfl) ?_
          refine lv_icmp_ge (tgt := 45) hx hb dX12_wouldGrow_28 (by decide) (fun cc => ?_) (fun cc => ?_)
          · replace hf := ifT cc hf
            exact exL_7 x_5 u_6 _ _ _ (lv_sub hl [0, 1, 2] rfl) hP hD hS hf
          · replace hf := ifF cc hf
            refine lv_aload_n hx hb dX12_wouldGrow_31 rfl (lv_at hl 1 rfl) ?_
            refine va_get (D := D) (ci := 10) (v := .ref (Q 2 0)) (C := RX12) (T := TX12) (N := 11) hx hb hts hi10 hown hK hP 0 rfl rfl 1 (by decide) hw1 (fun _ h9 => h9) rfl dX12_wouldGrow_32 ?_
            obtain ⟨r_8, w_9, hc, hf⟩ := bd2_of hf
            refine k_V (As := []) (rest := []) (ws1 := (kMain Q vmn ++ kHouse G (Q 1) vho ++ kHouse G (Q 2) w_9)) ⟨hx, hb, hml, hown, hts⟩ (c_X6_endDay l D G (Q 2)  u_6 _ _ hc  _) (cwV 0 hts gX12_wouldGrow_X6_endDay rfl rfl rfl (by decide +kernel) ⟨Nat.le_of_ble_eq_true rfl, Nat.le_of_ble_eq_true rfl⟩) hl.1 (Nat.le_of_ble_eq_true rfl) dX12_wouldGrow_35 ⟨Nat.le_of_ble_eq_true rfl, Nat.le_of_ble_eq_true rfl⟩ rfl kT_bl (fun _ _ _ => trivial) hN hK hP hD hS hA 16 4 rfl rfl rfl [16, 17, 18, 19, 20, 21, 22, 23, 24, 25, 26, 27, 28, 29, 30] [0, 1, 2, 3, 4, 5, 6, 7, 8, 9, 10, 11, 12, 13, 14, 15] [0, 1, 2, 3, 4, 5, 6, 7, 8, 9, 10, 11, 12, 13, 14, 15, 16, 17, 18, 19, 20, 21, 22, 23, 24, 25, 26, 27, 28, 29, 30] [0, 1, 2, 3] rfl rfl rfl ⟨by decide, by decide, by decide, by decide⟩ rfl (fun H locs hP hD hS => ?_)
            refine lv_pop hx hb dX12_wouldGrow_38 rfl ?_
            refine lv_iinc (v := (x_5 + 1)) (lv' := [(2, .int (x_5 + 1)), (0, .ref ((Q 0) 0)), (1, .int a1)]) hx hb dX12_wouldGrow_39 hl (k := 0) rfl rfl (by decide) rfl (fun ls hl => ?_)
            refine lv_goto (tgt := 26) hx hb dX12_wouldGrow_42 (by decide) ?_
            exact ihL_7 (x_5 + 1) w_9 _ _ _ (lv_sub hl [0, 1, 2] rfl) hP hD hS hf
      exact loL_7 FU 0 w_1 _ _ _ hl hP hD hS hf
    · replace hf := ifF cc hf
      refine lv_bipush (v := (-2)) hx hb dX12_wouldGrow_10 (by decide +kernel) ?_
      obtain ⟨rfl, rfl⟩ := re2 hf
      exact hE hP hD hS dX12_wouldGrow_12
def f_X12_kindest_K2 (a1 : Int32) (y_11 : Int32) (z_12 : SV) : Option (Int32 × SV) :=
  bd1 (f_X8_balconyAt a1 z_12) fun r_13 =>
  some (r_13, z_12)
def f_X12_kindest_B2 (a1 : Int32) (vho : SV) (selfL_7 : (Int32 → SV → Option (Int32 × SV))) (x_5 : Int32) (u_6 : SV) : Option (Int32 × SV) :=
  if 12 ≤ x_5 then
    f_X12_kindest_K2 a1 x_5 u_6
  else
    bd1 (f_X4_givenBy x_5 vho) fun r_8 =>
    bd1 (f_X4_gotBy x_5 vho) fun r_9 =>
    bd1 (f_X8_setKeys x_5 r_8 r_9 u_6) fun w_10 =>
    selfL_7 (x_5 + 1) w_10
def f_X12_kindest (a1 : Int32) (vmn : SV) (vho : SV) (vod : SV) : Option (Int32 × SV) :=
  lz2 (f_X12_kindest_B2 a1 vho) FU 0 vod
abbrev rm_X12_kindest : Room := { frames := 3, cells := 0, slots := 0, locals := 67 }
set_option maxHeartbeats 4000000 in
set_option maxRecDepth 100000 in
theorem c_X12_kindest (l : Launch) (D : va_G) (G : Nat → ClassId) (Q : Nat → Nat → Nat) (a1 : Int32) (vmn : SV) (vho : SV) (vod : SV) (r : Int32) (vod' : SV) (hf : f_X12_kindest a1 vmn vho vod = some (r, vod')) (sz : Nat) : mC l yX12_kindest wsX12_kindest rm_X12_kindest D (tyG G) kT [.ref ((Q 0) 0), .int a1] (kMain Q vmn ++ kHouse G (Q 1) vho ++ kOrder G (Q 8) vod) (kMain Q vmn ++ kHouse G (Q 1) vho ++ kOrder G (Q 8) vod') sz (some (.int r)) 0 0 := by
  refine mC_ofI (cc := cX12_kindest) (maxL := 3) (ret := (some .int)) (by decide) rfl rfl (Nat.le_of_ble_eq_true rfl) ?_
  intro p e s m args below meth c Q0 hx hb hml hts hown hN hK A hD hA hE hP hS hJ ls hl
  have hl : lv_has ls 3 [(0, .ref ((Q 0) 0)), (1, .int a1)] := hl
  unfold f_X12_kindest at hf
  have hi10 : ∀ w ∈ u_ws RX12 TX12 11, w ∈ wsX12_kindest := by decide +kernel
  have hi4 : ∀ w ∈ u_ws RX6 TX6 10, w ∈ wsX12_kindest := by decide +kernel
  have hw1 := hts (.fieldLink RX12 57 "BalconyCensus" "order" "LBalconyCensus$Order;") (by decide +kernel)
  have hw2 := hts (.fieldLink RX12 12 "BalconyCensus" "house" "LBalconyCensus$House;") (by decide +kernel)
  have hw3 := hts (.fieldLink RX12 172 "BalconyCensus$House" "greetings" "LBalconyCensus$Greetings;") (by decide +kernel)
  refine lv_iconst (v := 0) hx hb dX12_kindest_0 (by decide) ?_
  refine lv_istore_n (lv' := [(2, .int 0), (0, .ref ((Q 0) 0)), (1, .int a1)]) hx hb dX12_kindest_1 rfl hl (by decide) rfl (fun ls hl => ?_)
  have exL_7 : ∀ (y_11 : Int32) (z_12 : SV) (H : Heap) (locs : List Loc) (ls : Array Slot), lv_has ls 3 [(2, .int y_11), (0, .ref ((Q 0) 0)), (1, .int a1)] → va_P D vwCl (kMain Q vmn ++ kHouse G (Q 1) vho ++ kOrder G (Q 8) z_12) H → va_D A (kMain Q vmn ++ kHouse G (Q 1) vho ++ kOrder G (Q 8) z_12) → va_S A s.heap H locs → f_X12_kindest_K2 a1 y_11 z_12 = some (r, vod') → W p l e rm_X12_kindest s m args below meth c H locs 0 0 Q0 (F0 m 44 ls []) := by
    intro y_11 z_12 H locs ls hl hP hD hS hf
    unfold f_X12_kindest_K2 at hf
    refine lv_aload_n hx hb dX12_kindest_44 rfl (lv_at hl 1 rfl) ?_
    refine va_get (D := D) (ci := 10) (v := .ref (Q 8 0)) (C := RX12) (T := TX12) (N := 11) hx hb hts hi10 hown hK hP 0 rfl rfl 8 (by decide) hw1 (fun _ h9 => h9) rfl dX12_kindest_45 ?_
    refine lv_iload_n hx hb dX12_kindest_48 rfl (lv_at hl 2 rfl) ?_
    obtain ⟨r_13, hc, hf⟩ := bd1_of hf
    refine k_V (As := [.int a1]) (rest := []) (ws1 := (kMain Q vmn ++ kHouse G (Q 1) vho ++ kOrder G (Q 8) z_12)) ⟨hx, hb, hml, hown, hts⟩ (c_X8_balconyAt l D G (Q 8) a1 z_12 _ hc  _) (cwV 1 hts gX12_kindest_X8_balconyAt rfl rfl rfl (by decide +kernel) ⟨Nat.le_of_ble_eq_true rfl, Nat.le_of_ble_eq_true rfl⟩) hl.1 (Nat.le_of_ble_eq_true rfl) dX12_kindest_49 ⟨Nat.le_of_ble_eq_true rfl, Nat.le_of_ble_eq_true rfl⟩ rfl kT_bl (fun _ _ _ => trivial) hN hK hP hD hS hA 16 6 rfl rfl rfl [16, 17, 18] [0, 1, 2, 3, 4, 5, 6, 7, 8, 9, 10, 11, 12, 13, 14, 15] [0, 1, 2, 3, 4, 5, 6, 7, 8, 9, 10, 11, 12, 13, 14, 15, 16, 17, 18] [0, 1, 2, 3] rfl rfl rfl ⟨by decide, by decide, by decide, by decide⟩ rfl (fun H locs hP hD hS => ?_)
    obtain ⟨rfl, rfl⟩ := re2 hf
    exact hE hP hD hS dX12_kindest_52
  have loL_7 : ∀ (n : Nat) (x_5 : Int32) (u_6 : SV) (H : Heap) (locs : List Loc) (ls : Array Slot), lv_has ls 3 [(2, .int x_5), (0, .ref ((Q 0) 0)), (1, .int a1)] → va_P D vwCl (kMain Q vmn ++ kHouse G (Q 1) vho ++ kOrder G (Q 8) u_6) H → va_D A (kMain Q vmn ++ kHouse G (Q 1) vho ++ kOrder G (Q 8) u_6) → va_S A s.heap H locs → lz2 (f_X12_kindest_B2 a1 vho) n x_5 u_6 = some (r, vod') → W p l e rm_X12_kindest s m args below meth c H locs 0 0 Q0 (F0 m 2 ls []) := by
    intro n
    induction n with
    | zero => intro x_5 u_6 H locs ls hl hP hD hS hf; cases hf
    | succ n ihL_7 =>
      intro x_5 u_6 H locs ls hl hP hD hS hf
      replace hf := lz2_s hf
      unfold f_X12_kindest_B2 at hf
      refine lv_iload_n hx hb dX12_kindest_2 rfl (lv_at hl 0 rfl) ?_
      refine lv_bipush (v := 12) hx hb dX12_kindest_3 (by decide +kernel) ?_
      refine lv_icmp_ge (tgt := 44) hx hb dX12_kindest_5 (by decide) (fun cc => ?_) (fun cc => ?_)
      · replace hf := ifT cc hf
        exact exL_7 x_5 u_6 _ _ _ (lv_sub hl [0, 1, 2] rfl) hP hD hS hf
      · replace hf := ifF cc hf
        refine lv_aload_n hx hb dX12_kindest_8 rfl (lv_at hl 1 rfl) ?_
        refine va_get (D := D) (ci := 10) (v := .ref (Q 8 0)) (C := RX12) (T := TX12) (N := 11) hx hb hts hi10 hown hK hP 0 rfl rfl 8 (by decide) hw1 (fun _ h9 => h9) rfl dX12_kindest_9 ?_
        refine lv_iload_n hx hb dX12_kindest_12 rfl (lv_at hl 0 rfl) ?_
        refine lv_aload_n hx hb dX12_kindest_13 rfl (lv_at hl 1 rfl) ?_
        refine va_get (D := D) (ci := 10) (v := .ref (Q 1 0)) (C := RX12) (T := TX12) (N := 11) hx hb hts hi10 hown hK hP 0 rfl rfl 0 (by decide) hw2 (fun _ h9 => h9) rfl dX12_kindest_14 ?_
        refine va_get (D := D) (ci := 4) (v := .ref ((Q 1) 7)) (C := RX6) (T := TX6) (N := 10) hx hb hts hi4 hown hK hP 1 rfl rfl 3 (by decide) hw3 (fun _ h9 => h9) rfl dX12_kindest_17 ?_
        refine lv_iload_n hx hb dX12_kindest_20 rfl (lv_at hl 0 rfl) ?_
        obtain ⟨r_8, hc, hf⟩ := bd1_of hf
        refine k_V (As := [.int x_5]) (rest := [.int x_5, .ref ((Q 8) 0)]) (ws1 := (kMain Q vmn ++ kHouse G (Q 1) vho ++ kOrder G (Q 8) u_6)) ⟨hx, hb, hml, hown, hts⟩ (c_X4_givenBy l D G (Q 1) x_5 vho _ hc  _) (cwV 1 hts gX12_kindest_X4_givenBy rfl rfl rfl (by decide +kernel) ⟨Nat.le_of_ble_eq_true rfl, Nat.le_of_ble_eq_true rfl⟩) hl.1 (Nat.le_of_ble_eq_true rfl) dX12_kindest_21 ⟨Nat.le_of_ble_eq_true rfl, Nat.le_of_ble_eq_true rfl⟩ rfl kT_bl (fun _ _ _ => trivial) hN hK hP hD hS hA 8 2 rfl rfl rfl [8, 9, 10] [0, 1, 2, 3, 4, 5, 6, 7, 11, 12, 13, 14, 15, 16, 17, 18] [0, 1, 2, 3, 4, 5, 6, 7, 16, 17, 18, 8, 9, 10, 11, 12, 13, 14, 15] [0, 1, 2, 3] rfl rfl rfl ⟨by decide, by decide, by decide, by decide⟩ rfl (fun H locs hP hD hS => ?_)
        refine lv_aload_n hx hb dX12_kindest_24 rfl (lv_at hl 1 rfl) ?_
        refine va_get (D := D) (ci := 10) (v := .ref (Q 1 0)) (C := RX12) (T := TX12) (N := 11) hx hb hts hi10 hown hK hP 0 rfl rfl 0 (by decide) hw2 (fun _ h9 => h9) rfl dX12_kindest_25 ?_
        refine va_get (D := D) (ci := 4) (v := .ref ((Q 1) 7)) (C := RX6) (T := TX6) (N := 10) hx hb hts hi4 hown hK hP 1 rfl rfl 3 (by decide) hw3 (fun _ h9 => h9) rfl dX12_kindest_28 ?_
        refine lv_iload_n hx hb dX12_kindest_31 rfl (lv_at hl 0 rfl) ?_
        obtain ⟨r_9, hc, hf⟩ := bd1_of hf
        refine k_V (As := [.int x_5]) (rest := [.int r_8, .int x_5, .ref ((Q 8) 0)]) (ws1 := (kMain Q vmn ++ kHouse G (Q 1) vho ++ kOrder G (Q 8) u_6)) ⟨hx, hb, hml, hown, hts⟩ (c_X4_gotBy l D G (Q 1) x_5 vho _ hc  _) (cwV 1 hts gX12_kindest_X4_gotBy rfl rfl rfl (by decide +kernel) ⟨Nat.le_of_ble_eq_true rfl, Nat.le_of_ble_eq_true rfl⟩) hl.1 (Nat.le_of_ble_eq_true rfl) dX12_kindest_32 ⟨Nat.le_of_ble_eq_true rfl, Nat.le_of_ble_eq_true rfl⟩ rfl kT_bl (fun _ _ _ => trivial) hN hK hP hD hS hA 8 2 rfl rfl rfl [8, 9, 10] [0, 1, 2, 3, 4, 5, 6, 7, 11, 12, 13, 14, 15, 16, 17, 18] [0, 1, 2, 3, 4, 5, 6, 7, 16, 17, 18, 8, 9, 10, 11, 12, 13, 14, 15] [0, 1, 2, 3] rfl rfl rfl ⟨by decide, by decide, by decide, by decide⟩ rfl (fun H locs hP hD hS => ?_)
        obtain ⟨w_10, hc, hf⟩ := bd1_of hf
        refine k_V (As := [.int x_5, .int r_8, .int r_9]) (rest := []) (ws1 := (kMain Q vmn ++ kHouse G (Q 1) vho ++ kOrder G (Q 8) w_10)) ⟨hx, hb, hml, hown, hts⟩ (c_X8_setKeys l D G (Q 8) x_5 r_8 r_9 u_6 _ hc  _) (cwV 3 hts gX12_kindest_X8_setKeys rfl rfl rfl (by decide +kernel) ⟨Nat.le_of_ble_eq_true rfl, Nat.le_of_ble_eq_true rfl⟩) hl.1 (Nat.le_of_ble_eq_true rfl) dX12_kindest_35 ⟨Nat.le_of_ble_eq_true rfl, Nat.le_of_ble_eq_true rfl⟩ rfl kT_bl (fun _ _ _ => trivial) hN hK hP hD hS hA 16 6 rfl rfl rfl [16, 17, 18] [0, 1, 2, 3, 4, 5, 6, 7, 8, 9, 10, 11, 12, 13, 14, 15] [0, 1, 2, 3, 4, 5, 6, 7, 8, 9, 10, 11, 12, 13, 14, 15, 16, 17, 18] [0, 1, 2, 3] rfl rfl rfl ⟨by decide, by decide, by decide, by decide⟩ rfl (fun H locs hP hD hS => ?_)
        refine lv_iinc (v := (x_5 + 1)) (lv' := [(2, .int (x_5 + 1)), (0, .ref ((Q 0) 0)), (1, .int a1)]) hx hb dX12_kindest_38 hl (k := 0) rfl rfl (by decide) rfl (fun ls hl => ?_)
        refine lv_goto (tgt := 2) hx hb dX12_kindest_41 (by decide) ?_
        exact ihL_7 (x_5 + 1) w_10 _ _ _ (lv_sub hl [0, 1, 2] rfl) hP hD hS hf
  exact loL_7 FU 0 vod _ _ _ hl hP hD hS hf
def f_X12_worst_K2 (a1 : Int32) (y_9 : Int32) (z_10 : SV) : Option (Int32 × SV) :=
  bd1 (f_X8_balconyAt a1 z_10) fun r_11 =>
  some (r_11, z_10)
def f_X12_worst_B2 (a1 : Int32) (vho : SV) (selfL_6 : (Int32 → SV → Option (Int32 × SV))) (x_4 : Int32) (u_5 : SV) : Option (Int32 × SV) :=
  if 12 ≤ x_4 then
    f_X12_worst_K2 a1 x_4 u_5
  else
    bd1 (f_X3_ofBalcony x_4 vho) fun r_7 =>
    ckI x_4 12 <|
    bd1 (f_X8_setKeys x_4 r_7 (vho.2 0 x_4.toNatClampNeg) u_5) fun w_8 =>
    selfL_6 (x_4 + 1) w_8
def f_X12_worst (a1 : Int32) (vmn : SV) (vho : SV) (vod : SV) : Option (Int32 × SV) :=
  lz2 (f_X12_worst_B2 a1 vho) FU 0 vod
abbrev rm_X12_worst : Room := { frames := 3, cells := 0, slots := 0, locals := 72 }
set_option maxHeartbeats 4000000 in
set_option maxRecDepth 100000 in
theorem c_X12_worst (l : Launch) (D : va_G) (G : Nat → ClassId) (Q : Nat → Nat → Nat) (a1 : Int32) (vmn : SV) (vho : SV) (vod : SV) (r : Int32) (vod' : SV) (hf : f_X12_worst a1 vmn vho vod = some (r, vod')) (sz : Nat) : mC l yX12_worst wsX12_worst rm_X12_worst D (tyG G) kT [.ref ((Q 0) 0), .int a1] (kMain Q vmn ++ kHouse G (Q 1) vho ++ kOrder G (Q 8) vod) (kMain Q vmn ++ kHouse G (Q 1) vho ++ kOrder G (Q 8) vod') sz (some (.int r)) 0 0 := by
  refine mC_ofI (cc := cX12_worst) (maxL := 3) (ret := (some .int)) (by decide) rfl rfl (Nat.le_of_ble_eq_true rfl) ?_
  intro p e s m args below meth c Q0 hx hb hml hts hown hN hK A hD hA hE hP hS hJ ls hl
  have hl : lv_has ls 3 [(0, .ref ((Q 0) 0)), (1, .int a1)] := hl
  unfold f_X12_worst at hf
  have hi10 : ∀ w ∈ u_ws RX12 TX12 11, w ∈ wsX12_worst := by decide +kernel
  have hi4 : ∀ w ∈ u_ws RX6 TX6 10, w ∈ wsX12_worst := by decide +kernel
  have hw1 := hts (.fieldLink RX12 57 "BalconyCensus" "order" "LBalconyCensus$Order;") (by decide +kernel)
  have hw2 := hts (.fieldLink RX12 12 "BalconyCensus" "house" "LBalconyCensus$House;") (by decide +kernel)
  have hw3 := hts (.fieldLink RX12 150 "BalconyCensus$House" "plants" "[I") (by decide +kernel)
  refine lv_iconst (v := 0) hx hb dX12_worst_0 (by decide) ?_
  refine lv_istore_n (lv' := [(2, .int 0), (0, .ref ((Q 0) 0)), (1, .int a1)]) hx hb dX12_worst_1 rfl hl (by decide) rfl (fun ls hl => ?_)
  have exL_6 : ∀ (y_9 : Int32) (z_10 : SV) (H : Heap) (locs : List Loc) (ls : Array Slot), lv_has ls 3 [(2, .int y_9), (0, .ref ((Q 0) 0)), (1, .int a1)] → va_P D vwCl (kMain Q vmn ++ kHouse G (Q 1) vho ++ kOrder G (Q 8) z_10) H → va_D A (kMain Q vmn ++ kHouse G (Q 1) vho ++ kOrder G (Q 8) z_10) → va_S A s.heap H locs → f_X12_worst_K2 a1 y_9 z_10 = some (r, vod') → W p l e rm_X12_worst s m args below meth c H locs 0 0 Q0 (F0 m 39 ls []) := by
    intro y_9 z_10 H locs ls hl hP hD hS hf
    unfold f_X12_worst_K2 at hf
    refine lv_aload_n hx hb dX12_worst_39 rfl (lv_at hl 1 rfl) ?_
    refine va_get (D := D) (ci := 10) (v := .ref (Q 8 0)) (C := RX12) (T := TX12) (N := 11) hx hb hts hi10 hown hK hP 0 rfl rfl 8 (by decide) hw1 (fun _ h9 => h9) rfl dX12_worst_40 ?_
    refine lv_iload_n hx hb dX12_worst_43 rfl (lv_at hl 2 rfl) ?_
    obtain ⟨r_11, hc, hf⟩ := bd1_of hf
    refine k_V (As := [.int a1]) (rest := []) (ws1 := (kMain Q vmn ++ kHouse G (Q 1) vho ++ kOrder G (Q 8) z_10)) ⟨hx, hb, hml, hown, hts⟩ (c_X8_balconyAt l D G (Q 8) a1 z_10 _ hc  _) (cwV 1 hts gX12_worst_X8_balconyAt rfl rfl rfl (by decide +kernel) ⟨Nat.le_of_ble_eq_true rfl, Nat.le_of_ble_eq_true rfl⟩) hl.1 (Nat.le_of_ble_eq_true rfl) dX12_worst_44 ⟨Nat.le_of_ble_eq_true rfl, Nat.le_of_ble_eq_true rfl⟩ rfl kT_bl (fun _ _ _ => trivial) hN hK hP hD hS hA 16 6 rfl rfl rfl [16, 17, 18] [0, 1, 2, 3, 4, 5, 6, 7, 8, 9, 10, 11, 12, 13, 14, 15] [0, 1, 2, 3, 4, 5, 6, 7, 8, 9, 10, 11, 12, 13, 14, 15, 16, 17, 18] [0, 1, 2, 3] rfl rfl rfl ⟨by decide, by decide, by decide, by decide⟩ rfl (fun H locs hP hD hS => ?_)
    obtain ⟨rfl, rfl⟩ := re2 hf
    exact hE hP hD hS dX12_worst_47
  have loL_6 : ∀ (n : Nat) (x_4 : Int32) (u_5 : SV) (H : Heap) (locs : List Loc) (ls : Array Slot), lv_has ls 3 [(2, .int x_4), (0, .ref ((Q 0) 0)), (1, .int a1)] → va_P D vwCl (kMain Q vmn ++ kHouse G (Q 1) vho ++ kOrder G (Q 8) u_5) H → va_D A (kMain Q vmn ++ kHouse G (Q 1) vho ++ kOrder G (Q 8) u_5) → va_S A s.heap H locs → lz2 (f_X12_worst_B2 a1 vho) n x_4 u_5 = some (r, vod') → W p l e rm_X12_worst s m args below meth c H locs 0 0 Q0 (F0 m 2 ls []) := by
    intro n
    induction n with
    | zero => intro x_4 u_5 H locs ls hl hP hD hS hf; cases hf
    | succ n ihL_6 =>
      intro x_4 u_5 H locs ls hl hP hD hS hf
      replace hf := lz2_s hf
      unfold f_X12_worst_B2 at hf
      refine lv_iload_n hx hb dX12_worst_2 rfl (lv_at hl 0 rfl) ?_
      refine lv_bipush (v := 12) hx hb dX12_worst_3 (by decide +kernel) ?_
      refine lv_icmp_ge (tgt := 39) hx hb dX12_worst_5 (by decide) (fun cc => ?_) (fun cc => ?_)
      · replace hf := ifT cc hf
        exact exL_6 x_4 u_5 _ _ _ (lv_sub hl [0, 1, 2] rfl) hP hD hS hf
      · replace hf := ifF cc hf
        refine lv_aload_n hx hb dX12_worst_8 rfl (lv_at hl 1 rfl) ?_
        refine va_get (D := D) (ci := 10) (v := .ref (Q 8 0)) (C := RX12) (T := TX12) (N := 11) hx hb hts hi10 hown hK hP 0 rfl rfl 8 (by decide) hw1 (fun _ h9 => h9) rfl dX12_worst_9 ?_
        refine lv_iload_n hx hb dX12_worst_12 rfl (lv_at hl 0 rfl) ?_
        refine lv_aload_n hx hb dX12_worst_13 rfl (lv_at hl 1 rfl) ?_
        refine va_get (D := D) (ci := 10) (v := .ref (Q 1 0)) (C := RX12) (T := TX12) (N := 11) hx hb hts hi10 hown hK hP 0 rfl rfl 0 (by decide) hw2 (fun _ h9 => h9) rfl dX12_worst_14 ?_
        refine lv_iload_n hx hb dX12_worst_17 rfl (lv_at hl 0 rfl) ?_
        obtain ⟨r_7, hc, hf⟩ := bd1_of hf
        refine k_S (As := [.ref ((Q 1) 0), .int x_4]) (rest := [.int x_4, .ref ((Q 8) 0)]) (ws1 := (kMain Q vmn ++ kHouse G (Q 1) vho ++ kOrder G (Q 8) u_5)) ⟨hx, hb, hml, hown, hts⟩ (c_X3_ofBalcony l D G (Q 1) x_4 vho _ hc  _) (va_cwS 2 hts gX12_worst_X3_ofBalcony rfl rfl rfl (by decide +kernel) ⟨Nat.le_of_ble_eq_true rfl, Nat.le_of_ble_eq_true rfl⟩) hl.1 (Nat.le_of_ble_eq_true rfl) dX12_worst_18 ⟨Nat.le_of_ble_eq_true rfl, Nat.le_of_ble_eq_true rfl⟩ rfl kT_bl (fun _ _ _ => trivial) hN hK hP hD hS hA [1, 2, 3, 4, 5, 6, 7, 8, 9, 10, 11, 12, 13, 14, 15] [0, 16, 17, 18] [0, 4, 5, 6, 7, 8, 9, 10, 11, 12, 13, 14, 15, 16, 17, 18, 1, 2, 3] [0, 1, 2, 3] rfl rfl rfl ⟨by decide, by decide, by decide, by decide⟩ rfl (fun H locs hP hD hS => ?_)
        refine lv_aload_n hx hb dX12_worst_21 rfl (lv_at hl 1 rfl) ?_
        refine va_get (D := D) (ci := 10) (v := .ref (Q 1 0)) (C := RX12) (T := TX12) (N := 11) hx hb hts hi10 hown hK hP 0 rfl rfl 0 (by decide) hw2 (fun _ h9 => h9) rfl dX12_worst_22 ?_
        refine va_get (D := D) (ci := 4) (v := .ref ((Q 1) 1)) (C := RX6) (T := TX6) (N := 10) hx hb hts hi4 hown hK hP 1 rfl rfl 0 (by decide) hw3 (fun _ h9 => h9) rfl dX12_worst_25 ?_
        refine lv_iload_n hx hb dX12_worst_28 rfl (lv_at hl 0 rfl) ?_
        obtain ⟨hin, hf⟩ := ckI_of hf
        refine va_iald (D := D) hx hb hK hP 2 0 rfl rfl hin dX12_worst_29 ?_
        obtain ⟨w_8, hc, hf⟩ := bd1_of hf
        refine k_V (As := [.int x_4, .int r_7, .int (vho.2 0 x_4.toNatClampNeg)]) (rest := []) (ws1 := (kMain Q vmn ++ kHouse G (Q 1) vho ++ kOrder G (Q 8) w_8)) ⟨hx, hb, hml, hown, hts⟩ (c_X8_setKeys l D G (Q 8) x_4 r_7 (vho.2 0 x_4.toNatClampNeg) u_5 _ hc  _) (cwV 3 hts gX12_worst_X8_setKeys rfl rfl rfl (by decide +kernel) ⟨Nat.le_of_ble_eq_true rfl, Nat.le_of_ble_eq_true rfl⟩) hl.1 (Nat.le_of_ble_eq_true rfl) dX12_worst_30 ⟨Nat.le_of_ble_eq_true rfl, Nat.le_of_ble_eq_true rfl⟩ rfl kT_bl (fun _ _ _ => trivial) hN hK hP hD hS hA 16 6 rfl rfl rfl [16, 17, 18] [0, 1, 2, 3, 4, 5, 6, 7, 8, 9, 10, 11, 12, 13, 14, 15] [0, 1, 2, 3, 4, 5, 6, 7, 8, 9, 10, 11, 12, 13, 14, 15, 16, 17, 18] [0, 1, 2, 3] rfl rfl rfl ⟨by decide, by decide, by decide, by decide⟩ rfl (fun H locs hP hD hS => ?_)
        refine lv_iinc (v := (x_4 + 1)) (lv' := [(2, .int (x_4 + 1)), (0, .ref ((Q 0) 0)), (1, .int a1)]) hx hb dX12_worst_33 hl (k := 0) rfl rfl (by decide) rfl (fun ls hl => ?_)
        refine lv_goto (tgt := 2) hx hb dX12_worst_36 (by decide) ?_
        exact ihL_6 (x_4 + 1) w_8 _ _ _ (lv_sub hl [0, 1, 2] rfl) hP hD hS hf
  exact loL_6 FU 0 vod _ _ _ hl hP hD hS hf
def f_X12_areStepsAlike_K2 (y_11 : Int32) (z_12 : SV) : Option (Int32 × SV) :=
  some (1, z_12)
def f_X12_areStepsAlike_B2 (vho : SV) (selfL_7 : (Int32 → SV → Option (Int32 × SV))) (x_5 : Int32) (u_6 : SV) : Option (Int32 × SV) :=
  if 12 ≤ x_5 then
    f_X12_areStepsAlike_K2 x_5 u_6
  else
    bd1 (f_X9_walkFrom x_5 u_6 vho) fun w_8 =>
    bd1 (f_X9_lessenFrom x_5 w_8 vho) fun w_9 =>
    bd1 (f_X9_areAlike w_9) fun r_10 =>
    if r_10 = 0 then
      some (0, w_9)
    else
      selfL_7 (x_5 + 1) w_9
def f_X12_areStepsAlike (vmn : SV) (vho : SV) (vpa : SV) : Option (Int32 × SV) :=
  lz2 (f_X12_areStepsAlike_B2 vho) FU 0 vpa
abbrev rm_X12_areStepsAlike : Room := { frames := 5, cells := 0, slots := 0, locals := 122 }
set_option maxHeartbeats 4000000 in
set_option maxRecDepth 100000 in
theorem c_X12_areStepsAlike (l : Launch) (D : va_G) (G : Nat → ClassId) (Q : Nat → Nat → Nat) (vmn : SV) (vho : SV) (vpa : SV) (r : Int32) (vpa' : SV) (hf : f_X12_areStepsAlike vmn vho vpa = some (r, vpa')) (sz : Nat) : mC l yX12_areStepsAlike wsX12_areStepsAlike rm_X12_areStepsAlike D (tyG G) kT [.ref ((Q 0) 0)] (kMain Q vmn ++ kHouse G (Q 1) vho ++ kPaths G (Q 7) vpa) (kMain Q vmn ++ kHouse G (Q 1) vho ++ kPaths G (Q 7) vpa') sz (some (.int r)) 0 0 := by
  refine mC_ofZ (cc := cX12_areStepsAlike) (maxL := 2) (ret := (some .boolean)) (by decide) rfl rfl (Nat.le_of_ble_eq_true rfl) ?_
  intro p e s m args below meth c Q0 hx hb hml hts hown hN hK A hD hA hE hP hS hJ ls hl
  have hl : lv_has ls 2 [(0, .ref ((Q 0) 0))] := hl
  unfold f_X12_areStepsAlike at hf
  have hi10 : ∀ w ∈ u_ws RX12 TX12 11, w ∈ wsX12_areStepsAlike := by decide +kernel
  have hw1 := hts (.fieldLink RX12 50 "BalconyCensus" "paths" "LBalconyCensus$Paths;") (by decide +kernel)
  have hw2 := hts (.fieldLink RX12 12 "BalconyCensus" "house" "LBalconyCensus$House;") (by decide +kernel)
  refine lv_iconst (v := 0) hx hb dX12_areStepsAlike_0 (by decide) ?_
  refine lv_istore_n (lv' := [(1, .int 0), (0, .ref ((Q 0) 0))]) hx hb dX12_areStepsAlike_1 rfl hl (by decide) rfl (fun ls hl => ?_)
  have exL_7 : ∀ (y_11 : Int32) (z_12 : SV) (H : Heap) (locs : List Loc) (ls : Array Slot), lv_has ls 2 [(1, .int y_11), (0, .ref ((Q 0) 0))] → va_P D vwCl (kMain Q vmn ++ kHouse G (Q 1) vho ++ kPaths G (Q 7) z_12) H → va_D A (kMain Q vmn ++ kHouse G (Q 1) vho ++ kPaths G (Q 7) z_12) → va_S A s.heap H locs → f_X12_areStepsAlike_K2 y_11 z_12 = some (r, vpa') → W p l e rm_X12_areStepsAlike s m args below meth c H locs 0 0 Q0 (F0 m 50 ls []) := by
    intro y_11 z_12 H locs ls hl hP hD hS hf
    unfold f_X12_areStepsAlike_K2 at hf
    refine lv_iconst (v := 1) hx hb dX12_areStepsAlike_50 (by decide) ?_
    obtain ⟨rfl, rfl⟩ := re2 hf
    exact hE (.inr rfl) hP hD hS dX12_areStepsAlike_51
  have loL_7 : ∀ (n : Nat) (x_5 : Int32) (u_6 : SV) (H : Heap) (locs : List Loc) (ls : Array Slot), lv_has ls 2 [(1, .int x_5), (0, .ref ((Q 0) 0))] → va_P D vwCl (kMain Q vmn ++ kHouse G (Q 1) vho ++ kPaths G (Q 7) u_6) H → va_D A (kMain Q vmn ++ kHouse G (Q 1) vho ++ kPaths G (Q 7) u_6) → va_S A s.heap H locs → lz2 (f_X12_areStepsAlike_B2 vho) n x_5 u_6 = some (r, vpa') → W p l e rm_X12_areStepsAlike s m args below meth c H locs 0 0 Q0 (F0 m 2 ls []) := by
    intro n
    induction n with
    | zero => intro x_5 u_6 H locs ls hl hP hD hS hf; cases hf
    | succ n ihL_7 =>
      intro x_5 u_6 H locs ls hl hP hD hS hf
      replace hf := lz2_s hf
      unfold f_X12_areStepsAlike_B2 at hf
      refine lv_iload_n hx hb dX12_areStepsAlike_2 rfl (lv_at hl 0 rfl) ?_
      refine lv_bipush (v := 12) hx hb dX12_areStepsAlike_3 (by decide +kernel) ?_
      refine lv_icmp_ge (tgt := 50) hx hb dX12_areStepsAlike_5 (by decide) (fun cc => ?_) (fun cc => ?_)
      · replace hf := ifT cc hf
        exact exL_7 x_5 u_6 _ _ _ (lv_sub hl [0, 1] rfl) hP hD hS hf
      · replace hf := ifF cc hf
        refine lv_aload_n hx hb dX12_areStepsAlike_8 rfl (lv_at hl 1 rfl) ?_
        refine va_get (D := D) (ci := 10) (v := .ref (Q 7 0)) (C := RX12) (T := TX12) (N := 11) hx hb hts hi10 hown hK hP 0 rfl rfl 7 (by decide) hw1 (fun _ h9 => h9) rfl dX12_areStepsAlike_9 ?_
        refine lv_aload_n hx hb dX12_areStepsAlike_12 rfl (lv_at hl 1 rfl) ?_
        refine va_get (D := D) (ci := 10) (v := .ref (Q 1 0)) (C := RX12) (T := TX12) (N := 11) hx hb hts hi10 hown hK hP 0 rfl rfl 0 (by decide) hw2 (fun _ h9 => h9) rfl dX12_areStepsAlike_13 ?_
        refine lv_iload_n hx hb dX12_areStepsAlike_16 rfl (lv_at hl 0 rfl) ?_
        obtain ⟨w_8, hc, hf⟩ := bd1_of hf
        refine k_V (As := [.ref ((Q 1) 0), .int x_5]) (rest := []) (ws1 := (kMain Q vmn ++ kHouse G (Q 1) vho ++ kPaths G (Q 7) w_8)) ⟨hx, hb, hml, hown, hts⟩ (c_X9_walkFrom l D G (Q 7) (Q 1) x_5 u_6 vho _ hc  _) (cwV 2 hts gX12_areStepsAlike_X9_walkFrom rfl rfl rfl (by decide +kernel) ⟨Nat.le_of_ble_eq_true rfl, Nat.le_of_ble_eq_true rfl⟩) hl.1 (Nat.le_of_ble_eq_true rfl) dX12_areStepsAlike_17 ⟨Nat.le_of_ble_eq_true rfl, Nat.le_of_ble_eq_true rfl⟩ rfl kT_bl (fun _ _ _ => trivial) hN hK hP hD hS hA 16 7 rfl rfl rfl [16, 17, 18, 1, 2, 3, 4, 5, 6, 7, 8, 9, 10, 11, 12, 13, 14, 15] [0] [0, 4, 5, 6, 7, 8, 9, 10, 11, 12, 13, 14, 15, 16, 17, 18, 1, 2, 3] [0, 1, 2, 3] rfl rfl rfl ⟨by decide, by decide, by decide, by decide⟩ rfl (fun H locs hP hD hS => ?_)
        refine lv_aload_n hx hb dX12_areStepsAlike_20 rfl (lv_at hl 1 rfl) ?_
        refine va_get (D := D) (ci := 10) (v := .ref (Q 7 0)) (C := RX12) (T := TX12) (N := 11) hx hb hts hi10 hown hK hP 0 rfl rfl 7 (by decide) hw1 (fun _ h9 => h9) rfl dX12_areStepsAlike_21 ?_
        refine lv_aload_n hx hb dX12_areStepsAlike_24 rfl (lv_at hl 1 rfl) ?_
        refine va_get (D := D) (ci := 10) (v := .ref (Q 1 0)) (C := RX12) (T := TX12) (N := 11) hx hb hts hi10 hown hK hP 0 rfl rfl 0 (by decide) hw2 (fun _ h9 => h9) rfl dX12_areStepsAlike_25 ?_
        refine lv_iload_n hx hb dX12_areStepsAlike_28 rfl (lv_at hl 0 rfl) ?_
        obtain ⟨w_9, hc, hf⟩ := bd1_of hf
        refine k_V (As := [.ref ((Q 1) 0), .int x_5]) (rest := []) (ws1 := (kMain Q vmn ++ kHouse G (Q 1) vho ++ kPaths G (Q 7) w_9)) ⟨hx, hb, hml, hown, hts⟩ (c_X9_lessenFrom l D G (Q 7) (Q 1) x_5 w_8 vho _ hc  _) (cwV 2 hts gX12_areStepsAlike_X9_lessenFrom rfl rfl rfl (by decide +kernel) ⟨Nat.le_of_ble_eq_true rfl, Nat.le_of_ble_eq_true rfl⟩) hl.1 (Nat.le_of_ble_eq_true rfl) dX12_areStepsAlike_29 ⟨Nat.le_of_ble_eq_true rfl, Nat.le_of_ble_eq_true rfl⟩ rfl kT_bl (fun _ _ _ => trivial) hN hK hP hD hS hA 16 7 rfl rfl rfl [16, 17, 18, 1, 2, 3, 4, 5, 6, 7, 8, 9, 10, 11, 12, 13, 14, 15] [0] [0, 4, 5, 6, 7, 8, 9, 10, 11, 12, 13, 14, 15, 16, 17, 18, 1, 2, 3] [0, 1, 2, 3] rfl rfl rfl ⟨by decide, by decide, by decide, by decide⟩ rfl (fun H locs hP hD hS => ?_)
        refine lv_aload_n hx hb dX12_areStepsAlike_32 rfl (lv_at hl 1 rfl) ?_
        refine va_get (D := D) (ci := 10) (v := .ref (Q 7 0)) (C := RX12) (T := TX12) (N := 11) hx hb hts hi10 hown hK hP 0 rfl rfl 7 (by decide) hw1 (fun _ h9 => h9) rfl dX12_areStepsAlike_33 ?_
        obtain ⟨r_10, hc, hf⟩ := bd1_of hf
        refine k_V (As := []) (rest := []) (ws1 := (kMain Q vmn ++ kHouse G (Q 1) vho ++ kPaths G (Q 7) w_9)) ⟨hx, hb, hml, hown, hts⟩ (c_X9_areAlike l D G (Q 7)  w_9 _ hc  _) (cwV 0 hts gX12_areStepsAlike_X9_areAlike rfl rfl rfl (by decide +kernel) ⟨Nat.le_of_ble_eq_true rfl, Nat.le_of_ble_eq_true rfl⟩) hl.1 (Nat.le_of_ble_eq_true rfl) dX12_areStepsAlike_36 ⟨Nat.le_of_ble_eq_true rfl, Nat.le_of_ble_eq_true rfl⟩ rfl kT_bl (fun _ _ _ => trivial) hN hK hP hD hS hA 16 7 rfl rfl rfl [16, 17, 18] [0, 1, 2, 3, 4, 5, 6, 7, 8, 9, 10, 11, 12, 13, 14, 15] [0, 1, 2, 3, 4, 5, 6, 7, 8, 9, 10, 11, 12, 13, 14, 15, 16, 17, 18] [0, 1, 2, 3] rfl rfl rfl ⟨by decide, by decide, by decide, by decide⟩ rfl (fun H locs hP hD hS => ?_)
        refine lv_if_ne (tgt := 44) hx hb dX12_areStepsAlike_39 (by decide) (fun cc => ?_) (fun cc => ?_)
        · replace hf := ifF cc hf
          refine lv_iinc (v := (x_5 + 1)) (lv' := [(1, .int (x_5 + 1)), (0, .ref ((Q 0) 0))]) hx hb dX12_areStepsAlike_44 hl (k := 0) rfl rfl (by decide) rfl (fun ls hl => ?_)
          refine lv_goto (tgt := 2) hx hb dX12_areStepsAlike_47 (by decide) ?_
          exact ihL_7 (x_5 + 1) w_9 _ _ _ (lv_sub hl [0, 1] rfl) hP hD hS hf
        · replace hf := ifT cc hf
          refine lv_iconst (v := 0) hx hb dX12_areStepsAlike_42 (by decide) ?_
          obtain ⟨rfl, rfl⟩ := re2 hf
          exact hE (.inl rfl) hP hD hS dX12_areStepsAlike_43
  exact loL_7 FU 0 vpa _ _ _ hl hP hD hS hf
