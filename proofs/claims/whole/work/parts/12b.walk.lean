/-! Walks, laid by wip/whole/gen.py: for each method f_ (what it does to its world) and c_ (its contract). -/
def f_X13_plant (a1 : Int32) (a2 : Int32) (v0 : SV) : Option (Int32 × SV) :=
  bd1 (f_X13_begins v0) fun w_1 =>
  bd1 (f_X13_isBalcony a1) fun r_2 =>
  if r_2 = 0 then
    some ((-1), w_1)
  else
    bd1 (f_X13_areMany a2) fun r_3 =>
    if r_3 = 0 then
      some ((-2), w_1)
    else
      bd2 (f_X13_isRefusedPlant a1 a2 w_1) fun r_4 w_5 =>
      if r_4 = 0 then
        bd2 (f_X13_puts a1 a2 w_5) fun r_6 w_7 =>
        bd2 (f_X13_keeps r_6 w_7) fun r_8 w_9 =>
        some (r_8, w_9)
      else
        bd2 (f_X13_refused w_5) fun r_10 w_11 =>
        some (r_10, w_11)
abbrev rm_X13_plant : Room := { frames := 2, cells := 0, slots := 0, locals := 46 }
set_option maxHeartbeats 4000000 in
set_option maxRecDepth 100000 in
theorem c_X13_plant (l : Launch) (D : va_G) (G : Nat → ClassId) (q0 : Nat → Nat) (a1 : Int32) (a2 : Int32) (v0 : SV) (r : Int32) (v0' : SV) (hf : f_X13_plant a1 a2 v0 = some (r, v0')) (sz : Nat) : mC l yX13_plant wsX13_plant rm_X13_plant D (tyG G) kT [.ref (q0 0), .int a1, .int a2] (kModel G q0 v0) (kModel G q0 v0') sz (some (.int r)) 0 0 := by
  refine mC_ofI (cc := cX13_plant) (maxL := 3) (ret := (some .int)) (by decide) rfl rfl (Nat.le_of_ble_eq_true rfl) ?_
  intro p e s m args below meth c Q0 hx hb hml hts hown hN hK A hD hA hE hP hS hJ ls hl
  have hl : lv_has ls 3 [(0, .ref (q0 0)), (1, .int a1), (2, .int a2)] := hl
  unfold f_X13_plant at hf
  refine lv_aload_n hx hb dX13_plant_0 rfl (lv_at hl 0 rfl) ?_
  obtain ⟨w_1, hc, hf⟩ := bd1_of hf
  refine k_V (As := []) (rest := []) (ws1 := (kModel G q0 w_1)) ⟨hx, hb, hml, hown, hts⟩ (c_X13_begins l D G q0  v0 _ hc  _) (cwV 0 hts gX13_plant_X13_begins rfl rfl rfl (by decide +kernel) ⟨Nat.le_of_ble_eq_true rfl, Nat.le_of_ble_eq_true rfl⟩) hl.1 (Nat.le_of_ble_eq_true rfl) dX13_plant_1 ⟨Nat.le_of_ble_eq_true rfl, Nat.le_of_ble_eq_true rfl⟩ rfl kT_bl (fun _ _ _ => trivial) hN hK hP hD hS hA 0 11 rfl rfl rfl [0, 1, 2, 3, 4, 5, 6, 7, 8, 9, 10, 11] [] [0, 1, 2, 3, 4, 5, 6, 7, 8, 9, 10, 11] [0, 1, 2, 3] rfl rfl rfl ⟨by decide, by decide, by decide, by decide⟩ rfl (fun H locs hP hD hS => ?_)
  refine lv_iload_n hx hb dX13_plant_4 rfl (lv_at hl 1 rfl) ?_
  obtain ⟨r_2, hc, hf⟩ := bd1_of hf
  refine k_S (As := [.int a1]) (rest := []) (ws1 := (kModel G q0 w_1)) ⟨hx, hb, hml, hown, hts⟩ (c_X13_isBalcony l D G  a1  _ hc  _) (va_cwS 1 hts gX13_plant_X13_isBalcony rfl rfl rfl (by decide +kernel) ⟨Nat.le_of_ble_eq_true rfl, Nat.le_of_ble_eq_true rfl⟩) hl.1 (Nat.le_of_ble_eq_true rfl) dX13_plant_5 ⟨Nat.le_of_ble_eq_true rfl, Nat.le_of_ble_eq_true rfl⟩ rfl kT_bl (fun _ _ _ => trivial) hN hK hP hD hS hA [] [0, 1, 2, 3, 4, 5, 6, 7, 8, 9, 10, 11] [0, 1, 2, 3, 4, 5, 6, 7, 8, 9, 10, 11] [0, 1, 2, 3] rfl rfl rfl ⟨by decide, by decide, by decide, by decide⟩ rfl (fun H locs hP hD hS => ?_)
  refine lv_if_ne (tgt := 13) hx hb dX13_plant_8 (by decide) (fun cc => ?_) (fun cc => ?_)
  · replace hf := ifF cc hf
    refine lv_iload_n hx hb dX13_plant_13 rfl (lv_at hl 2 rfl) ?_
    obtain ⟨r_3, hc, hf⟩ := bd1_of hf
    refine k_S (As := [.int a2]) (rest := []) (ws1 := (kModel G q0 w_1)) ⟨hx, hb, hml, hown, hts⟩ (c_X13_areMany l D G  a2  _ hc  _) (va_cwS 1 hts gX13_plant_X13_areMany rfl rfl rfl (by decide +kernel) ⟨Nat.le_of_ble_eq_true rfl, Nat.le_of_ble_eq_true rfl⟩) hl.1 (Nat.le_of_ble_eq_true rfl) dX13_plant_14 ⟨Nat.le_of_ble_eq_true rfl, Nat.le_of_ble_eq_true rfl⟩ rfl kT_bl (fun _ _ _ => trivial) hN hK hP hD hS hA [] [0, 1, 2, 3, 4, 5, 6, 7, 8, 9, 10, 11] [0, 1, 2, 3, 4, 5, 6, 7, 8, 9, 10, 11] [0, 1, 2, 3] rfl rfl rfl ⟨by decide, by decide, by decide, by decide⟩ rfl (fun H locs hP hD hS => ?_)
    refine lv_if_ne (tgt := 23) hx hb dX13_plant_17 (by decide) (fun cc => ?_) (fun cc => ?_)
    · replace hf := ifF cc hf
      refine lv_aload_n hx hb dX13_plant_23 rfl (lv_at hl 0 rfl) ?_
      refine lv_iload_n hx hb dX13_plant_24 rfl (lv_at hl 1 rfl) ?_
      refine lv_iload_n hx hb dX13_plant_25 rfl (lv_at hl 2 rfl) ?_
      obtain ⟨r_4, w_5, hc, hf⟩ := bd2_of hf
      refine k_V (As := [.int a1, .int a2]) (rest := []) (ws1 := (kModel G q0 w_5)) ⟨hx, hb, hml, hown, hts⟩ (c_X13_isRefusedPlant l D G q0 a1 a2 w_1 _ _ hc  _) (cwV 2 hts gX13_plant_X13_isRefusedPlant rfl rfl rfl (by decide +kernel) ⟨Nat.le_of_ble_eq_true rfl, Nat.le_of_ble_eq_true rfl⟩) hl.1 (Nat.le_of_ble_eq_true rfl) dX13_plant_26 ⟨Nat.le_of_ble_eq_true rfl, Nat.le_of_ble_eq_true rfl⟩ rfl kT_bl (fun _ _ _ => trivial) hN hK hP hD hS hA 0 11 rfl rfl rfl [0, 1, 2, 3, 4, 5, 6, 7, 8, 9, 10, 11] [] [0, 1, 2, 3, 4, 5, 6, 7, 8, 9, 10, 11] [0, 1, 2, 3] rfl rfl rfl ⟨by decide, by decide, by decide, by decide⟩ rfl (fun H locs hP hD hS => ?_)
      refine lv_if_eq (tgt := 39) hx hb dX13_plant_29 (by decide) (fun cc => ?_) (fun cc => ?_)
      · replace hf := ifT cc hf
        refine lv_aload_n hx hb dX13_plant_39 rfl (lv_at hl 0 rfl) ?_
        refine lv_aload_n hx hb dX13_plant_40 rfl (lv_at hl 0 rfl) ?_
        refine lv_iload_n hx hb dX13_plant_41 rfl (lv_at hl 1 rfl) ?_
        refine lv_iload_n hx hb dX13_plant_42 rfl (lv_at hl 2 rfl) ?_
        obtain ⟨r_6, w_7, hc, hf⟩ := bd2_of hf
        refine k_V (As := [.int a1, .int a2]) (rest := [.ref (q0 0)]) (ws1 := (kModel G q0 w_7)) ⟨hx, hb, hml, hown, hts⟩ (c_X13_puts l D G q0 a1 a2 w_5 _ _ hc  _) (cwV 2 hts gX13_plant_X13_puts rfl rfl rfl (by decide +kernel) ⟨Nat.le_of_ble_eq_true rfl, Nat.le_of_ble_eq_true rfl⟩) hl.1 (Nat.le_of_ble_eq_true rfl) dX13_plant_43 ⟨Nat.le_of_ble_eq_true rfl, Nat.le_of_ble_eq_true rfl⟩ rfl kT_bl (fun _ _ _ => trivial) hN hK hP hD hS hA 0 11 rfl rfl rfl [0, 1, 2, 3, 4, 5, 6, 7, 8, 9, 10, 11] [] [0, 1, 2, 3, 4, 5, 6, 7, 8, 9, 10, 11] [0, 1, 2, 3] rfl rfl rfl ⟨by decide, by decide, by decide, by decide⟩ rfl (fun H locs hP hD hS => ?_)
        obtain ⟨r_8, w_9, hc, hf⟩ := bd2_of hf
        refine k_V (As := [.int r_6]) (rest := []) (ws1 := (kModel G q0 w_9)) ⟨hx, hb, hml, hown, hts⟩ (c_X13_keeps l D G q0 r_6 w_7 _ _ hc  _) (cwV 1 hts gX13_plant_X13_keeps rfl rfl rfl (by decide +kernel) ⟨Nat.le_of_ble_eq_true rfl, Nat.le_of_ble_eq_true rfl⟩) hl.1 (Nat.le_of_ble_eq_true rfl) dX13_plant_46 ⟨Nat.le_of_ble_eq_true rfl, Nat.le_of_ble_eq_true rfl⟩ rfl kT_bl (fun _ _ _ => trivial) hN hK hP hD hS hA 0 11 rfl rfl rfl [0, 1, 2, 3, 4, 5, 6, 7, 8, 9, 10, 11] [] [0, 1, 2, 3, 4, 5, 6, 7, 8, 9, 10, 11] [0, 1, 2, 3] rfl rfl rfl ⟨by decide, by decide, by decide, by decide⟩ rfl (fun H locs hP hD hS => ?_)
        obtain ⟨rfl, rfl⟩ := re2 hf
        exact hE hP hD hS dX13_plant_49
      · replace hf := ifF cc hf
        refine lv_aload_n hx hb dX13_plant_32 rfl (lv_at hl 0 rfl) ?_
        obtain ⟨r_10, w_11, hc, hf⟩ := bd2_of hf
        refine k_V (As := []) (rest := []) (ws1 := (kModel G q0 w_11)) ⟨hx, hb, hml, hown, hts⟩ (c_X13_refused l D G q0  w_5 _ _ hc  _) (cwV 0 hts gX13_plant_X13_refused rfl rfl rfl (by decide +kernel) ⟨Nat.le_of_ble_eq_true rfl, Nat.le_of_ble_eq_true rfl⟩) hl.1 (Nat.le_of_ble_eq_true rfl) dX13_plant_33 ⟨Nat.le_of_ble_eq_true rfl, Nat.le_of_ble_eq_true rfl⟩ rfl kT_bl (fun _ _ _ => trivial) hN hK hP hD hS hA 0 11 rfl rfl rfl [0, 1, 2, 3, 4, 5, 6, 7, 8, 9, 10, 11] [] [0, 1, 2, 3, 4, 5, 6, 7, 8, 9, 10, 11] [0, 1, 2, 3] rfl rfl rfl ⟨by decide, by decide, by decide, by decide⟩ rfl (fun H locs hP hD hS => ?_)
        refine lv_goto (tgt := 49) hx hb dX13_plant_36 (by decide) ?_
        obtain ⟨rfl, rfl⟩ := re2 hf
        exact hE hP hD hS dX13_plant_49
    · replace hf := ifT cc hf
      refine lv_bipush (v := (-2)) hx hb dX13_plant_20 (by decide +kernel) ?_
      obtain ⟨rfl, rfl⟩ := re2 hf
      exact hE hP hD hS dX13_plant_22
  · replace hf := ifT cc hf
    refine lv_iconst (v := (-1)) hx hb dX13_plant_11 (by decide) ?_
    obtain ⟨rfl, rfl⟩ := re2 hf
    exact hE hP hD hS dX13_plant_12
def f_X13_isTolerance (a0 : Int32) : Option Int32 :=
  bd1 (f_X13_in a0 0 9) fun r_1 =>
  ckB r_1 <|
  some r_1
abbrev rm_X13_isTolerance : Room := { frames := 1, cells := 0, slots := 0, locals := 22 }
set_option maxHeartbeats 4000000 in
set_option maxRecDepth 100000 in
theorem c_X13_isTolerance (l : Launch) (D : va_G) (G : Nat → ClassId) (a0 : Int32) (r : Int32) (hf : f_X13_isTolerance a0 = some r) (sz : Nat) : mC l yX13_isTolerance wsX13_isTolerance rm_X13_isTolerance D (tyG G) kT [.int a0] ([] : va_W) ([] : va_W) sz (some (.int r)) 0 0 := by
  refine mC_ofZ (cc := cX13_isTolerance) (maxL := 1) (ret := (some .boolean)) (by decide) rfl rfl (Nat.le_of_ble_eq_true rfl) ?_
  intro p e s m args below meth c Q0 hx hb hml hts hown hN hK A hD hA hE hP hS hJ ls hl
  have hl : lv_has ls 1 [(0, .int a0)] := hl
  unfold f_X13_isTolerance at hf
  refine lv_iload_n hx hb dX13_isTolerance_0 rfl (lv_at hl 0 rfl) ?_
  refine lv_iconst (v := 0) hx hb dX13_isTolerance_1 (by decide) ?_
  refine lv_bipush (v := 9) hx hb dX13_isTolerance_2 (by decide +kernel) ?_
  obtain ⟨r_1, hc, hf⟩ := bd1_of hf
  refine k_S (As := [.int a0, .int 0, .int 9]) (rest := []) (ws1 := ([] : va_W)) ⟨hx, hb, hml, hown, hts⟩ (c_X13_in l D G  a0 0 9  _ hc  _) (va_cwS 3 hts gX13_isTolerance_X13_in rfl rfl rfl (by decide +kernel) ⟨Nat.le_of_ble_eq_true rfl, Nat.le_of_ble_eq_true rfl⟩) hl.1 (Nat.le_of_ble_eq_true rfl) dX13_isTolerance_4 ⟨Nat.le_of_ble_eq_true rfl, Nat.le_of_ble_eq_true rfl⟩ rfl kT_bl (fun _ _ _ => trivial) hN hK hP hD hS hA [] [] [] [0, 1, 2, 3] rfl rfl rfl ⟨by decide, by decide, by decide, by decide⟩ rfl (fun H locs hP hD hS => ?_)
  obtain ⟨h01, hf⟩ := ckB_of hf
  obtain rfl := re1 hf
  exact hE h01 hP hD hS dX13_isTolerance_7
def f_X13_isRefusedBear (a1 : Int32) (a2 : Int32) (v0 : SV) : Option (Int32 × SV) :=
  ckI (22 + a1) 240 <|
  if (v0.2 0 (22 + a1).toNatClampNeg) = a2 then
    bd2 (f_X13_isBad 3 a2 v0) fun r_1 w_2 =>
    if r_1 = 0 then
      some (0, w_2)
    else
      some (1, w_2)
  else
    some (0, v0)
abbrev rm_X13_isRefusedBear : Room := { frames := 1, cells := 0, slots := 0, locals := 22 }
set_option maxHeartbeats 4000000 in
set_option maxRecDepth 100000 in
theorem c_X13_isRefusedBear (l : Launch) (D : va_G) (G : Nat → ClassId) (q0 : Nat → Nat) (a1 : Int32) (a2 : Int32) (v0 : SV) (r : Int32) (v0' : SV) (hf : f_X13_isRefusedBear a1 a2 v0 = some (r, v0')) (sz : Nat) : mC l yX13_isRefusedBear wsX13_isRefusedBear rm_X13_isRefusedBear D (tyG G) kT [.ref (q0 0), .int a1, .int a2] (kModel G q0 v0) (kModel G q0 v0') sz (some (.int r)) 0 0 := by
  refine mC_ofZ (cc := cX13_isRefusedBear) (maxL := 3) (ret := (some .boolean)) (by decide) rfl rfl (Nat.le_of_ble_eq_true rfl) ?_
  intro p e s m args below meth c Q0 hx hb hml hts hown hN hK A hD hA hE hP hS hJ ls hl
  have hl : lv_has ls 3 [(0, .ref (q0 0)), (1, .int a1), (2, .int a2)] := hl
  unfold f_X13_isRefusedBear at hf
  have hi11 : ∀ w ∈ u_ws RX13 TX13 27, w ∈ wsX13_isRefusedBear := by decide +kernel
  have hw1 := hts (.fieldLink RX13 7 "BalconyCensusModel" "now" "[I") (by decide +kernel)
  refine lv_aload_n hx hb dX13_isRefusedBear_0 rfl (lv_at hl 0 rfl) ?_
  refine va_get (D := D) (ci := 11) (v := .ref (q0 1)) (C := RX13) (T := TX13) (N := 27) hx hb hts hi11 hown hK hP 0 rfl rfl 0 (by decide) hw1 (fun _ h9 => h9) rfl dX13_isRefusedBear_1 ?_
  refine lv_bipush (v := 22) hx hb dX13_isRefusedBear_4 (by decide +kernel) ?_
  refine lv_iload_n hx hb dX13_isRefusedBear_6 rfl (lv_at hl 1 rfl) ?_
  refine lv_iadd hx hb dX13_isRefusedBear_7 ?_
  obtain ⟨hin, hf⟩ := ckI_of hf
  refine va_iald (D := D) hx hb hK hP 1 0 rfl rfl hin dX13_isRefusedBear_8 ?_
  refine lv_iload_n hx hb dX13_isRefusedBear_9 rfl (lv_at hl 2 rfl) ?_
  refine lv_icmp_ne (tgt := 26) hx hb dX13_isRefusedBear_10 (by decide) (fun cc => ?_) (fun cc => ?_)
  · replace hf := ifF cc hf
    refine lv_iconst (v := 0) hx hb dX13_isRefusedBear_26 (by decide) ?_
    obtain ⟨rfl, rfl⟩ := re2 hf
    exact hE (.inl rfl) hP hD hS dX13_isRefusedBear_27
  · replace hf := ifT cc hf
    refine lv_aload_n hx hb dX13_isRefusedBear_13 rfl (lv_at hl 0 rfl) ?_
    refine lv_iconst (v := 3) hx hb dX13_isRefusedBear_14 (by decide) ?_
    refine lv_iload_n hx hb dX13_isRefusedBear_15 rfl (lv_at hl 2 rfl) ?_
    obtain ⟨r_1, w_2, hc, hf⟩ := bd2_of hf
    refine k_V (As := [.int 3, .int a2]) (rest := []) (ws1 := (kModel G q0 w_2)) ⟨hx, hb, hml, hown, hts⟩ (c_X13_isBad l D G q0 3 a2 v0 _ _ hc  _) (cwV 2 hts gX13_isRefusedBear_X13_isBad rfl rfl rfl (by decide +kernel) ⟨Nat.le_of_ble_eq_true rfl, Nat.le_of_ble_eq_true rfl⟩) hl.1 (Nat.le_of_ble_eq_true rfl) dX13_isRefusedBear_16 ⟨Nat.le_of_ble_eq_true rfl, Nat.le_of_ble_eq_true rfl⟩ rfl kT_bl (fun _ _ _ => trivial) hN hK hP hD hS hA 0 11 rfl rfl rfl [0, 1, 2, 3, 4, 5, 6, 7, 8, 9, 10, 11] [] [0, 1, 2, 3, 4, 5, 6, 7, 8, 9, 10, 11] [0, 1, 2, 3] rfl rfl rfl ⟨by decide, by decide, by decide, by decide⟩ rfl (fun H locs hP hD hS => ?_)
    refine lv_if_eq (tgt := 26) hx hb dX13_isRefusedBear_19 (by decide) (fun cc => ?_) (fun cc => ?_)
    · replace hf := ifT cc hf
      refine lv_iconst (v := 0) hx hb dX13_isRefusedBear_26 (by decide) ?_
      obtain ⟨rfl, rfl⟩ := re2 hf
      exact hE (.inl rfl) hP hD hS dX13_isRefusedBear_27
    · replace hf := ifF cc hf
      refine lv_iconst (v := 1) hx hb dX13_isRefusedBear_22 (by decide) ?_
      refine lv_goto (tgt := 27) hx hb dX13_isRefusedBear_23 (by decide) ?_
      obtain ⟨rfl, rfl⟩ := re2 hf
      exact hE (.inr rfl) hP hD hS dX13_isRefusedBear_27
def f_X13_tells (a1 : Int32) (a2 : Int32) (v0 : SV) : Option (Int32 × SV) :=
  ckI (22 + a1) 240 <|
  nm (v0.2 0 (22 + a1).toNatClampNeg) fun t_1 =>
  ckI (22 + a1) 240 <|
  nm (pA v0 0 (22 + a1) a2) fun v_2 =>
  some (t_1, v_2)
abbrev rm_X13_tells : Room := { frames := 0, cells := 0, slots := 0, locals := 0 }
set_option maxHeartbeats 4000000 in
set_option maxRecDepth 100000 in
theorem c_X13_tells (l : Launch) (D : va_G) (G : Nat → ClassId) (q0 : Nat → Nat) (a1 : Int32) (a2 : Int32) (v0 : SV) (r : Int32) (v0' : SV) (hf : f_X13_tells a1 a2 v0 = some (r, v0')) (sz : Nat) : mC l yX13_tells wsX13_tells rm_X13_tells D (tyG G) kT [.ref (q0 0), .int a1, .int a2] (kModel G q0 v0) (kModel G q0 v0') sz (some (.int r)) 0 0 := by
  refine mC_ofI (cc := cX13_tells) (maxL := 4) (ret := (some .int)) (by decide) rfl rfl (Nat.le_of_ble_eq_true rfl) ?_
  intro p e s m args below meth c Q0 hx hb hml hts hown hN hK A hD hA hE hP hS hJ ls hl
  have hl : lv_has ls 4 [(0, .ref (q0 0)), (1, .int a1), (2, .int a2)] := hl
  unfold f_X13_tells at hf
  have hi11 : ∀ w ∈ u_ws RX13 TX13 27, w ∈ wsX13_tells := by decide +kernel
  have hw1 := hts (.fieldLink RX13 7 "BalconyCensusModel" "now" "[I") (by decide +kernel)
  refine lv_aload_n hx hb dX13_tells_0 rfl (lv_at hl 0 rfl) ?_
  refine va_get (D := D) (ci := 11) (v := .ref (q0 1)) (C := RX13) (T := TX13) (N := 27) hx hb hts hi11 hown hK hP 0 rfl rfl 0 (by decide) hw1 (fun _ h9 => h9) rfl dX13_tells_1 ?_
  refine lv_bipush (v := 22) hx hb dX13_tells_4 (by decide +kernel) ?_
  refine lv_iload_n hx hb dX13_tells_6 rfl (lv_at hl 1 rfl) ?_
  refine lv_iadd hx hb dX13_tells_7 ?_
  obtain ⟨hin, hf⟩ := ckI_of hf
  refine va_iald (D := D) hx hb hK hP 1 0 rfl rfl hin dX13_tells_8 ?_
  obtain ⟨t_1, et_1, hf⟩ := nm_of hf
  rw [← et_1]
  refine lv_istore_n (lv' := [(3, .int t_1), (0, .ref (q0 0)), (1, .int a1), (2, .int a2)]) hx hb dX13_tells_9 rfl hl (by decide) rfl (fun ls hl => ?_)
  refine lv_aload_n hx hb dX13_tells_10 rfl (lv_at hl 1 rfl) ?_
  refine va_get (D := D) (ci := 11) (v := .ref (q0 1)) (C := RX13) (T := TX13) (N := 27) hx hb hts hi11 hown hK hP 0 rfl rfl 0 (by decide) hw1 (fun _ h9 => h9) rfl dX13_tells_11 ?_
  refine lv_bipush (v := 22) hx hb dX13_tells_14 (by decide +kernel) ?_
  refine lv_iload_n hx hb dX13_tells_16 rfl (lv_at hl 2 rfl) ?_
  refine lv_iadd hx hb dX13_tells_17 ?_
  refine lv_iload_n hx hb dX13_tells_18 rfl (lv_at hl 3 rfl) ?_
  obtain ⟨hin, hf⟩ := ckI_of hf
  obtain ⟨v_2, ev_2, hf⟩ := nm_of hf
  refine va_iast (D := D) hx hb hK hP hD hS 1 0 rfl rfl hin dX13_tells_19 (fun H locs hP hD hS => ?_)
  have hP : va_P D vwCl (kModel G q0 v_2) H := by rw [ev_2]; exact hP
  have hD : va_D A (kModel G q0 v_2) := by rw [ev_2]; exact hD
  refine lv_iload_n hx hb dX13_tells_20 rfl (lv_at hl 0 rfl) ?_
  obtain ⟨rfl, rfl⟩ := re2 hf
  exact hE hP hD hS dX13_tells_21
def f_X13_bear (a1 : Int32) (a2 : Int32) (v0 : SV) : Option (Int32 × SV) :=
  bd1 (f_X13_begins v0) fun w_1 =>
  bd1 (f_X13_isBalcony a1) fun r_2 =>
  if r_2 = 0 then
    some ((-1), w_1)
  else
    bd1 (f_X13_isTolerance a2) fun r_3 =>
    if r_3 = 0 then
      some ((-2), w_1)
    else
      bd2 (f_X13_isRefusedBear a1 a2 w_1) fun r_4 w_5 =>
      if r_4 = 0 then
        bd2 (f_X13_tells a1 a2 w_5) fun r_6 w_7 =>
        bd2 (f_X13_keeps r_6 w_7) fun r_8 w_9 =>
        some (r_8, w_9)
      else
        bd2 (f_X13_refused w_5) fun r_10 w_11 =>
        some (r_10, w_11)
abbrev rm_X13_bear : Room := { frames := 2, cells := 0, slots := 0, locals := 46 }
set_option maxHeartbeats 4000000 in
set_option maxRecDepth 100000 in
theorem c_X13_bear (l : Launch) (D : va_G) (G : Nat → ClassId) (q0 : Nat → Nat) (a1 : Int32) (a2 : Int32) (v0 : SV) (r : Int32) (v0' : SV) (hf : f_X13_bear a1 a2 v0 = some (r, v0')) (sz : Nat) : mC l yX13_bear wsX13_bear rm_X13_bear D (tyG G) kT [.ref (q0 0), .int a1, .int a2] (kModel G q0 v0) (kModel G q0 v0') sz (some (.int r)) 0 0 := by
  refine mC_ofI (cc := cX13_bear) (maxL := 3) (ret := (some .int)) (by decide) rfl rfl (Nat.le_of_ble_eq_true rfl) ?_
  intro p e s m args below meth c Q0 hx hb hml hts hown hN hK A hD hA hE hP hS hJ ls hl
  have hl : lv_has ls 3 [(0, .ref (q0 0)), (1, .int a1), (2, .int a2)] := hl
  unfold f_X13_bear at hf
  refine lv_aload_n hx hb dX13_bear_0 rfl (lv_at hl 0 rfl) ?_
  obtain ⟨w_1, hc, hf⟩ := bd1_of hf
  refine k_V (As := []) (rest := []) (ws1 := (kModel G q0 w_1)) ⟨hx, hb, hml, hown, hts⟩ (c_X13_begins l D G q0  v0 _ hc  _) (cwV 0 hts gX13_bear_X13_begins rfl rfl rfl (by decide +kernel) ⟨Nat.le_of_ble_eq_true rfl, Nat.le_of_ble_eq_true rfl⟩) hl.1 (Nat.le_of_ble_eq_true rfl) dX13_bear_1 ⟨Nat.le_of_ble_eq_true rfl, Nat.le_of_ble_eq_true rfl⟩ rfl kT_bl (fun _ _ _ => trivial) hN hK hP hD hS hA 0 11 rfl rfl rfl [0, 1, 2, 3, 4, 5, 6, 7, 8, 9, 10, 11] [] [0, 1, 2, 3, 4, 5, 6, 7, 8, 9, 10, 11] [0, 1, 2, 3] rfl rfl rfl ⟨by decide, by decide, by decide, by decide⟩ rfl (fun H locs hP hD hS => ?_)
  refine lv_iload_n hx hb dX13_bear_4 rfl (lv_at hl 1 rfl) ?_
  obtain ⟨r_2, hc, hf⟩ := bd1_of hf
  refine k_S (As := [.int a1]) (rest := []) (ws1 := (kModel G q0 w_1)) ⟨hx, hb, hml, hown, hts⟩ (c_X13_isBalcony l D G  a1  _ hc  _) (va_cwS 1 hts gX13_bear_X13_isBalcony rfl rfl rfl (by decide +kernel) ⟨Nat.le_of_ble_eq_true rfl, Nat.le_of_ble_eq_true rfl⟩) hl.1 (Nat.le_of_ble_eq_true rfl) dX13_bear_5 ⟨Nat.le_of_ble_eq_true rfl, Nat.le_of_ble_eq_true rfl⟩ rfl kT_bl (fun _ _ _ => trivial) hN hK hP hD hS hA [] [0, 1, 2, 3, 4, 5, 6, 7, 8, 9, 10, 11] [0, 1, 2, 3, 4, 5, 6, 7, 8, 9, 10, 11] [0, 1, 2, 3] rfl rfl rfl ⟨by decide, by decide, by decide, by decide⟩ rfl (fun H locs hP hD hS => ?_)
  refine lv_if_ne (tgt := 13) hx hb dX13_bear_8 (by decide) (fun cc => ?_) (fun cc => ?_)
  · replace hf := ifF cc hf
    refine lv_iload_n hx hb dX13_bear_13 rfl (lv_at hl 2 rfl) ?_
    obtain ⟨r_3, hc, hf⟩ := bd1_of hf
    refine k_S (As := [.int a2]) (rest := []) (ws1 := (kModel G q0 w_1)) ⟨hx, hb, hml, hown, hts⟩ (c_X13_isTolerance l D G  a2  _ hc  _) (va_cwS 1 hts gX13_bear_X13_isTolerance rfl rfl rfl (by decide +kernel) ⟨Nat.le_of_ble_eq_true rfl, Nat.le_of_ble_eq_true rfl⟩) hl.1 (Nat.le_of_ble_eq_true rfl) dX13_bear_14 ⟨Nat.le_of_ble_eq_true rfl, Nat.le_of_ble_eq_true rfl⟩ rfl kT_bl (fun _ _ _ => trivial) hN hK hP hD hS hA [] [0, 1, 2, 3, 4, 5, 6, 7, 8, 9, 10, 11] [0, 1, 2, 3, 4, 5, 6, 7, 8, 9, 10, 11] [0, 1, 2, 3] rfl rfl rfl ⟨by decide, by decide, by decide, by decide⟩ rfl (fun H locs hP hD hS => ?_)
    refine lv_if_ne (tgt := 23) hx hb dX13_bear_17 (by decide) (fun cc => ?_) (fun cc => ?_)
    · replace hf := ifF cc hf
      refine lv_aload_n hx hb dX13_bear_23 rfl (lv_at hl 0 rfl) ?_
      refine lv_iload_n hx hb dX13_bear_24 rfl (lv_at hl 1 rfl) ?_
      refine lv_iload_n hx hb dX13_bear_25 rfl (lv_at hl 2 rfl) ?_
      obtain ⟨r_4, w_5, hc, hf⟩ := bd2_of hf
      refine k_V (As := [.int a1, .int a2]) (rest := []) (ws1 := (kModel G q0 w_5)) ⟨hx, hb, hml, hown, hts⟩ (c_X13_isRefusedBear l D G q0 a1 a2 w_1 _ _ hc  _) (cwV 2 hts gX13_bear_X13_isRefusedBear rfl rfl rfl (by decide +kernel) ⟨Nat.le_of_ble_eq_true rfl, Nat.le_of_ble_eq_true rfl⟩) hl.1 (Nat.le_of_ble_eq_true rfl) dX13_bear_26 ⟨Nat.le_of_ble_eq_true rfl, Nat.le_of_ble_eq_true rfl⟩ rfl kT_bl (fun _ _ _ => trivial) hN hK hP hD hS hA 0 11 rfl rfl rfl [0, 1, 2, 3, 4, 5, 6, 7, 8, 9, 10, 11] [] [0, 1, 2, 3, 4, 5, 6, 7, 8, 9, 10, 11] [0, 1, 2, 3] rfl rfl rfl ⟨by decide, by decide, by decide, by decide⟩ rfl (fun H locs hP hD hS => ?_)
      refine lv_if_eq (tgt := 39) hx hb dX13_bear_29 (by decide) (fun cc => ?_) (fun cc => ?_)
      · replace hf := ifT cc hf
        refine lv_aload_n hx hb dX13_bear_39 rfl (lv_at hl 0 rfl) ?_
        refine lv_aload_n hx hb dX13_bear_40 rfl (lv_at hl 0 rfl) ?_
        refine lv_iload_n hx hb dX13_bear_41 rfl (lv_at hl 1 rfl) ?_
        refine lv_iload_n hx hb dX13_bear_42 rfl (lv_at hl 2 rfl) ?_
        obtain ⟨r_6, w_7, hc, hf⟩ := bd2_of hf
        refine k_V (As := [.int a1, .int a2]) (rest := [.ref (q0 0)]) (ws1 := (kModel G q0 w_7)) ⟨hx, hb, hml, hown, hts⟩ (c_X13_tells l D G q0 a1 a2 w_5 _ _ hc  _) (cwV 2 hts gX13_bear_X13_tells rfl rfl rfl (by decide +kernel) ⟨Nat.le_of_ble_eq_true rfl, Nat.le_of_ble_eq_true rfl⟩) hl.1 (Nat.le_of_ble_eq_true rfl) dX13_bear_43 ⟨Nat.le_of_ble_eq_true rfl, Nat.le_of_ble_eq_true rfl⟩ rfl kT_bl (fun _ _ _ => trivial) hN hK hP hD hS hA 0 11 rfl rfl rfl [0, 1, 2, 3, 4, 5, 6, 7, 8, 9, 10, 11] [] [0, 1, 2, 3, 4, 5, 6, 7, 8, 9, 10, 11] [0, 1, 2, 3] rfl rfl rfl ⟨by decide, by decide, by decide, by decide⟩ rfl (fun H locs hP hD hS => ?_)
        obtain ⟨r_8, w_9, hc, hf⟩ := bd2_of hf
        refine k_V (As := [.int r_6]) (rest := []) (ws1 := (kModel G q0 w_9)) ⟨hx, hb, hml, hown, hts⟩ (c_X13_keeps l D G q0 r_6 w_7 _ _ hc  _) (cwV 1 hts gX13_bear_X13_keeps rfl rfl rfl (by decide +kernel) ⟨Nat.le_of_ble_eq_true rfl, Nat.le_of_ble_eq_true rfl⟩) hl.1 (Nat.le_of_ble_eq_true rfl) dX13_bear_46 ⟨Nat.le_of_ble_eq_true rfl, Nat.le_of_ble_eq_true rfl⟩ rfl kT_bl (fun _ _ _ => trivial) hN hK hP hD hS hA 0 11 rfl rfl rfl [0, 1, 2, 3, 4, 5, 6, 7, 8, 9, 10, 11] [] [0, 1, 2, 3, 4, 5, 6, 7, 8, 9, 10, 11] [0, 1, 2, 3] rfl rfl rfl ⟨by decide, by decide, by decide, by decide⟩ rfl (fun H locs hP hD hS => ?_)
        obtain ⟨rfl, rfl⟩ := re2 hf
        exact hE hP hD hS dX13_bear_49
      · replace hf := ifF cc hf
        refine lv_aload_n hx hb dX13_bear_32 rfl (lv_at hl 0 rfl) ?_
        obtain ⟨r_10, w_11, hc, hf⟩ := bd2_of hf
        refine k_V (As := []) (rest := []) (ws1 := (kModel G q0 w_11)) ⟨hx, hb, hml, hown, hts⟩ (c_X13_refused l D G q0  w_5 _ _ hc  _) (cwV 0 hts gX13_bear_X13_refused rfl rfl rfl (by decide +kernel) ⟨Nat.le_of_ble_eq_true rfl, Nat.le_of_ble_eq_true rfl⟩) hl.1 (Nat.le_of_ble_eq_true rfl) dX13_bear_33 ⟨Nat.le_of_ble_eq_true rfl, Nat.le_of_ble_eq_true rfl⟩ rfl kT_bl (fun _ _ _ => trivial) hN hK hP hD hS hA 0 11 rfl rfl rfl [0, 1, 2, 3, 4, 5, 6, 7, 8, 9, 10, 11] [] [0, 1, 2, 3, 4, 5, 6, 7, 8, 9, 10, 11] [0, 1, 2, 3] rfl rfl rfl ⟨by decide, by decide, by decide, by decide⟩ rfl (fun H locs hP hD hS => ?_)
        refine lv_goto (tgt := 49) hx hb dX13_bear_36 (by decide) ?_
        obtain ⟨rfl, rfl⟩ := re2 hf
        exact hE hP hD hS dX13_bear_49
    · replace hf := ifT cc hf
      refine lv_bipush (v := (-2)) hx hb dX13_bear_20 (by decide +kernel) ?_
      obtain ⟨rfl, rfl⟩ := re2 hf
      exact hE hP hD hS dX13_bear_22
  · replace hf := ifT cc hf
    refine lv_iconst (v := (-1)) hx hb dX13_bear_11 (by decide) ?_
    obtain ⟨rfl, rfl⟩ := re2 hf
    exact hE hP hD hS dX13_bear_12
def f_X13_areTwo (a0 : Int32) (a1 : Int32) : Option Int32 :=
  bd1 (f_X13_isBalcony a0) fun r_1 =>
  if r_1 = 0 then
    some 0
  else
    bd1 (f_X13_isBalcony a1) fun r_2 =>
    if r_2 = 0 then
      some 0
    else
      some 1
abbrev rm_X13_areTwo : Room := { frames := 2, cells := 0, slots := 0, locals := 42 }
set_option maxHeartbeats 4000000 in
set_option maxRecDepth 100000 in
theorem c_X13_areTwo (l : Launch) (D : va_G) (G : Nat → ClassId) (a0 : Int32) (a1 : Int32) (r : Int32) (hf : f_X13_areTwo a0 a1 = some r) (sz : Nat) : mC l yX13_areTwo wsX13_areTwo rm_X13_areTwo D (tyG G) kT [.int a0, .int a1] ([] : va_W) ([] : va_W) sz (some (.int r)) 0 0 := by
  refine mC_ofZ (cc := cX13_areTwo) (maxL := 2) (ret := (some .boolean)) (by decide) rfl rfl (Nat.le_of_ble_eq_true rfl) ?_
  intro p e s m args below meth c Q0 hx hb hml hts hown hN hK A hD hA hE hP hS hJ ls hl
  have hl : lv_has ls 2 [(0, .int a0), (1, .int a1)] := hl
  unfold f_X13_areTwo at hf
  refine lv_iload_n hx hb dX13_areTwo_0 rfl (lv_at hl 0 rfl) ?_
  obtain ⟨r_1, hc, hf⟩ := bd1_of hf
  refine k_S (As := [.int a0]) (rest := []) (ws1 := ([] : va_W)) ⟨hx, hb, hml, hown, hts⟩ (c_X13_isBalcony l D G  a0  _ hc  _) (va_cwS 1 hts gX13_areTwo_X13_isBalcony rfl rfl rfl (by decide +kernel) ⟨Nat.le_of_ble_eq_true rfl, Nat.le_of_ble_eq_true rfl⟩) hl.1 (Nat.le_of_ble_eq_true rfl) dX13_areTwo_1 ⟨Nat.le_of_ble_eq_true rfl, Nat.le_of_ble_eq_true rfl⟩ rfl kT_bl (fun _ _ _ => trivial) hN hK hP hD hS hA [] [] [] [0, 1, 2, 3] rfl rfl rfl ⟨by decide, by decide, by decide, by decide⟩ rfl (fun H locs hP hD hS => ?_)
  refine lv_if_eq (tgt := 18) hx hb dX13_areTwo_4 (by decide) (fun cc => ?_) (fun cc => ?_)
  · replace hf := ifT cc hf
    refine lv_iconst (v := 0) hx hb dX13_areTwo_18 (by decide) ?_
    obtain rfl := re1 hf
    exact hE (.inl rfl) hP hD hS dX13_areTwo_19
  · replace hf := ifF cc hf
    refine lv_iload_n hx hb dX13_areTwo_7 rfl (lv_at hl 1 rfl) ?_
    obtain ⟨r_2, hc, hf⟩ := bd1_of hf
    refine k_S (As := [.int a1]) (rest := []) (ws1 := ([] : va_W)) ⟨hx, hb, hml, hown, hts⟩ (c_X13_isBalcony l D G  a1  _ hc  _) (va_cwS 1 hts gX13_areTwo_X13_isBalcony rfl rfl rfl (by decide +kernel) ⟨Nat.le_of_ble_eq_true rfl, Nat.le_of_ble_eq_true rfl⟩) hl.1 (Nat.le_of_ble_eq_true rfl) dX13_areTwo_8 ⟨Nat.le_of_ble_eq_true rfl, Nat.le_of_ble_eq_true rfl⟩ rfl kT_bl (fun _ _ _ => trivial) hN hK hP hD hS hA [] [] [] [0, 1, 2, 3] rfl rfl rfl ⟨by decide, by decide, by decide, by decide⟩ rfl (fun H locs hP hD hS => ?_)
    refine lv_if_eq (tgt := 18) hx hb dX13_areTwo_11 (by decide) (fun cc => ?_) (fun cc => ?_)
    · replace hf := ifT cc hf
      refine lv_iconst (v := 0) hx hb dX13_areTwo_18 (by decide) ?_
      obtain rfl := re1 hf
      exact hE (.inl rfl) hP hD hS dX13_areTwo_19
    · replace hf := ifF cc hf
      refine lv_iconst (v := 1) hx hb dX13_areTwo_14 (by decide) ?_
      refine lv_goto (tgt := 19) hx hb dX13_areTwo_15 (by decide) ?_
      obtain rfl := re1 hf
      exact hE (.inr rfl) hP hD hS dX13_areTwo_19
def f_X13_isOne (a1 : Int32) (a2 : Int32) (v0 : SV) : Option (Int32 × SV) :=
  if a1 = a2 then
    bd2 (f_X13_isBad 2 a1 v0) fun r_1 w_2 =>
    if r_1 = 0 then
      some (0, w_2)
    else
      some (1, w_2)
  else
    some (0, v0)
abbrev rm_X13_isOne : Room := { frames := 1, cells := 0, slots := 0, locals := 22 }
set_option maxHeartbeats 4000000 in
set_option maxRecDepth 100000 in
theorem c_X13_isOne (l : Launch) (D : va_G) (G : Nat → ClassId) (q0 : Nat → Nat) (a1 : Int32) (a2 : Int32) (v0 : SV) (r : Int32) (v0' : SV) (hf : f_X13_isOne a1 a2 v0 = some (r, v0')) (sz : Nat) : mC l yX13_isOne wsX13_isOne rm_X13_isOne D (tyG G) kT [.ref (q0 0), .int a1, .int a2] (kModel G q0 v0) (kModel G q0 v0') sz (some (.int r)) 0 0 := by
  refine mC_ofZ (cc := cX13_isOne) (maxL := 3) (ret := (some .boolean)) (by decide) rfl rfl (Nat.le_of_ble_eq_true rfl) ?_
  intro p e s m args below meth c Q0 hx hb hml hts hown hN hK A hD hA hE hP hS hJ ls hl
  have hl : lv_has ls 3 [(0, .ref (q0 0)), (1, .int a1), (2, .int a2)] := hl
  unfold f_X13_isOne at hf
  refine lv_iload_n hx hb dX13_isOne_0 rfl (lv_at hl 1 rfl) ?_
  refine lv_iload_n hx hb dX13_isOne_1 rfl (lv_at hl 2 rfl) ?_
  refine lv_icmp_ne (tgt := 18) hx hb dX13_isOne_2 (by decide) (fun cc => ?_) (fun cc => ?_)
  · replace hf := ifF cc hf
    refine lv_iconst (v := 0) hx hb dX13_isOne_18 (by decide) ?_
    obtain ⟨rfl, rfl⟩ := re2 hf
    exact hE (.inl rfl) hP hD hS dX13_isOne_19
  · replace hf := ifT cc hf
    refine lv_aload_n hx hb dX13_isOne_5 rfl (lv_at hl 0 rfl) ?_
    refine lv_iconst (v := 2) hx hb dX13_isOne_6 (by decide) ?_
    refine lv_iload_n hx hb dX13_isOne_7 rfl (lv_at hl 1 rfl) ?_
    obtain ⟨r_1, w_2, hc, hf⟩ := bd2_of hf
    refine k_V (As := [.int 2, .int a1]) (rest := []) (ws1 := (kModel G q0 w_2)) ⟨hx, hb, hml, hown, hts⟩ (c_X13_isBad l D G q0 2 a1 v0 _ _ hc  _) (cwV 2 hts gX13_isOne_X13_isBad rfl rfl rfl (by decide +kernel) ⟨Nat.le_of_ble_eq_true rfl, Nat.le_of_ble_eq_true rfl⟩) hl.1 (Nat.le_of_ble_eq_true rfl) dX13_isOne_8 ⟨Nat.le_of_ble_eq_true rfl, Nat.le_of_ble_eq_true rfl⟩ rfl kT_bl (fun _ _ _ => trivial) hN hK hP hD hS hA 0 11 rfl rfl rfl [0, 1, 2, 3, 4, 5, 6, 7, 8, 9, 10, 11] [] [0, 1, 2, 3, 4, 5, 6, 7, 8, 9, 10, 11] [0, 1, 2, 3] rfl rfl rfl ⟨by decide, by decide, by decide, by decide⟩ rfl (fun H locs hP hD hS => ?_)
    refine lv_if_eq (tgt := 18) hx hb dX13_isOne_11 (by decide) (fun cc => ?_) (fun cc => ?_)
    · replace hf := ifT cc hf
      refine lv_iconst (v := 0) hx hb dX13_isOne_18 (by decide) ?_
      obtain ⟨rfl, rfl⟩ := re2 hf
      exact hE (.inl rfl) hP hD hS dX13_isOne_19
    · replace hf := ifF cc hf
      refine lv_iconst (v := 1) hx hb dX13_isOne_14 (by decide) ?_
      refine lv_goto (tgt := 19) hx hb dX13_isOne_15 (by decide) ?_
      obtain ⟨rfl, rfl⟩ := re2 hf
      exact hE (.inr rfl) hP hD hS dX13_isOne_19
def f_X13_isRefusedHang (a1 : Int32) (a2 : Int32) (v0 : SV) : Option (Int32 × SV) :=
  bd2 (f_X13_isOne a1 a2 v0) fun r_1 w_2 =>
  if r_1 = 0 then
    bd1 (f_X13_lineBetween a1 a2 w_2) fun r_3 =>
    if r_3 < 0 then
      ckI 0 240 <|
      if (w_2.2 0 (0 : Int32).toNatClampNeg) = 6 then
        bd2 (f_X13_isBad 1 6 w_2) fun r_4 w_5 =>
        if r_4 = 0 then
          some (0, w_5)
        else
          some (1, w_5)
      else
        some (0, w_2)
    else
      bd1 (f_X13_lineBetween a1 a2 w_2) fun r_6 =>
      bd1 (f_X13_linePart r_6 2 w_2) fun r_7 =>
      bd2 (f_X13_isBad 3 r_7 w_2) fun r_8 w_9 =>
      ckB r_8 <|
      some (r_8, w_9)
  else
    some (1, w_2)
abbrev rm_X13_isRefusedHang : Room := { frames := 2, cells := 0, slots := 0, locals := 45 }
set_option maxHeartbeats 4000000 in
set_option maxRecDepth 100000 in
theorem c_X13_isRefusedHang (l : Launch) (D : va_G) (G : Nat → ClassId) (q0 : Nat → Nat) (a1 : Int32) (a2 : Int32) (v0 : SV) (r : Int32) (v0' : SV) (hf : f_X13_isRefusedHang a1 a2 v0 = some (r, v0')) (sz : Nat) : mC l yX13_isRefusedHang wsX13_isRefusedHang rm_X13_isRefusedHang D (tyG G) kT [.ref (q0 0), .int a1, .int a2] (kModel G q0 v0) (kModel G q0 v0') sz (some (.int r)) 0 0 := by
  refine mC_ofZ (cc := cX13_isRefusedHang) (maxL := 3) (ret := (some .boolean)) (by decide) rfl rfl (Nat.le_of_ble_eq_true rfl) ?_
  intro p e s m args below meth c Q0 hx hb hml hts hown hN hK A hD hA hE hP hS hJ ls hl
  have hl : lv_has ls 3 [(0, .ref (q0 0)), (1, .int a1), (2, .int a2)] := hl
  unfold f_X13_isRefusedHang at hf
  have hi11 : ∀ w ∈ u_ws RX13 TX13 27, w ∈ wsX13_isRefusedHang := by decide +kernel
  have hw1 := hts (.fieldLink RX13 7 "BalconyCensusModel" "now" "[I") (by decide +kernel)
  refine lv_aload_n hx hb dX13_isRefusedHang_0 rfl (lv_at hl 0 rfl) ?_
  refine lv_iload_n hx hb dX13_isRefusedHang_1 rfl (lv_at hl 1 rfl) ?_
  refine lv_iload_n hx hb dX13_isRefusedHang_2 rfl (lv_at hl 2 rfl) ?_
  obtain ⟨r_1, w_2, hc, hf⟩ := bd2_of hf
  refine k_V (As := [.int a1, .int a2]) (rest := []) (ws1 := (kModel G q0 w_2)) ⟨hx, hb, hml, hown, hts⟩ (c_X13_isOne l D G q0 a1 a2 v0 _ _ hc  _) (cwV 2 hts gX13_isRefusedHang_X13_isOne rfl rfl rfl (by decide +kernel) ⟨Nat.le_of_ble_eq_true rfl, Nat.le_of_ble_eq_true rfl⟩) hl.1 (Nat.le_of_ble_eq_true rfl) dX13_isRefusedHang_3 ⟨Nat.le_of_ble_eq_true rfl, Nat.le_of_ble_eq_true rfl⟩ rfl kT_bl (fun _ _ _ => trivial) hN hK hP hD hS hA 0 11 rfl rfl rfl [0, 1, 2, 3, 4, 5, 6, 7, 8, 9, 10, 11] [] [0, 1, 2, 3, 4, 5, 6, 7, 8, 9, 10, 11] [0, 1, 2, 3] rfl rfl rfl ⟨by decide, by decide, by decide, by decide⟩ rfl (fun H locs hP hD hS => ?_)
  refine lv_if_eq (tgt := 11) hx hb dX13_isRefusedHang_6 (by decide) (fun cc => ?_) (fun cc => ?_)
  · replace hf := ifT cc hf
    refine lv_aload_n hx hb dX13_isRefusedHang_11 rfl (lv_at hl 0 rfl) ?_
    refine lv_iload_n hx hb dX13_isRefusedHang_12 rfl (lv_at hl 1 rfl) ?_
    refine lv_iload_n hx hb dX13_isRefusedHang_13 rfl (lv_at hl 2 rfl) ?_
    obtain ⟨r_3, hc, hf⟩ := bd1_of hf
    refine k_V (As := [.int a1, .int a2]) (rest := []) (ws1 := (kModel G q0 w_2)) ⟨hx, hb, hml, hown, hts⟩ (c_X13_lineBetween l D G q0 a1 a2 w_2 _ hc  _) (cwV 2 hts gX13_isRefusedHang_X13_lineBetween rfl rfl rfl (by decide +kernel) ⟨Nat.le_of_ble_eq_true rfl, Nat.le_of_ble_eq_true rfl⟩) hl.1 (Nat.le_of_ble_eq_true rfl) dX13_isRefusedHang_14 ⟨Nat.le_of_ble_eq_true rfl, Nat.le_of_ble_eq_true rfl⟩ rfl kT_bl (fun _ _ _ => trivial) hN hK hP hD hS hA 0 11 rfl rfl rfl [0, 1, 2, 3, 4, 5, 6, 7, 8, 9, 10, 11] [] [0, 1, 2, 3, 4, 5, 6, 7, 8, 9, 10, 11] [0, 1, 2, 3] rfl rfl rfl ⟨by decide, by decide, by decide, by decide⟩ rfl (fun H locs hP hD hS => ?_)
    refine lv_if_lt (tgt := 37) hx hb dX13_isRefusedHang_17 (by decide) (fun cc => ?_) (fun cc => ?_)
    · replace hf := ifT cc hf
      refine lv_aload_n hx hb dX13_isRefusedHang_37 rfl (lv_at hl 0 rfl) ?_
      refine va_get (D := D) (ci := 11) (v := .ref (q0 1)) (C := RX13) (T := TX13) (N := 27) hx hb hts hi11 hown hK hP 0 rfl rfl 0 (by decide) hw1 (fun _ h9 => h9) rfl dX13_isRefusedHang_38 ?_
      refine lv_iconst (v := 0) hx hb dX13_isRefusedHang_41 (by decide) ?_
      obtain ⟨hin, hf⟩ := ckI_of hf
      refine va_iald (D := D) hx hb hK hP 1 0 rfl rfl hin dX13_isRefusedHang_42 ?_
      refine lv_bipush (v := 6) hx hb dX13_isRefusedHang_43 (by decide +kernel) ?_
      refine lv_icmp_ne (tgt := 62) hx hb dX13_isRefusedHang_45 (by decide) (fun cc => ?_) (fun cc => ?_)
      · replace hf := ifF cc hf
        refine lv_iconst (v := 0) hx hb dX13_isRefusedHang_62 (by decide) ?_
        obtain ⟨rfl, rfl⟩ := re2 hf
        exact hE (.inl rfl) hP hD hS dX13_isRefusedHang_63
      · replace hf := ifT cc hf
        refine lv_aload_n hx hb dX13_isRefusedHang_48 rfl (lv_at hl 0 rfl) ?_
        refine lv_iconst (v := 1) hx hb dX13_isRefusedHang_49 (by decide) ?_
        refine lv_bipush (v := 6) hx hb dX13_isRefusedHang_50 (by decide +kernel) ?_
        obtain ⟨r_4, w_5, hc, hf⟩ := bd2_of hf
        refine k_V (As := [.int 1, .int 6]) (rest := []) (ws1 := (kModel G q0 w_5)) ⟨hx, hb, hml, hown, hts⟩ (c_X13_isBad l D G q0 1 6 w_2 _ _ hc  _) (cwV 2 hts gX13_isRefusedHang_X13_isBad rfl rfl rfl (by decide +kernel) ⟨Nat.le_of_ble_eq_true rfl, Nat.le_of_ble_eq_true rfl⟩) hl.1 (Nat.le_of_ble_eq_true rfl) dX13_isRefusedHang_52 ⟨Nat.le_of_ble_eq_true rfl, Nat.le_of_ble_eq_true rfl⟩ rfl kT_bl (fun _ _ _ => trivial) hN hK hP hD hS hA 0 11 rfl rfl rfl [0, 1, 2, 3, 4, 5, 6, 7, 8, 9, 10, 11] [] [0, 1, 2, 3, 4, 5, 6, 7, 8, 9, 10, 11] [0, 1, 2, 3] rfl rfl rfl ⟨by decide, by decide, by decide, by decide⟩ rfl (fun H locs hP hD hS => ?_)
        refine lv_if_eq (tgt := 62) hx hb dX13_isRefusedHang_55 (by decide) (fun cc => ?_) (fun cc => ?_)
        · replace hf := ifT cc hf
          refine lv_iconst (v := 0) hx hb dX13_isRefusedHang_62 (by decide) ?_
          obtain ⟨rfl, rfl⟩ := re2 hf
          exact hE (.inl rfl) hP hD hS dX13_isRefusedHang_63
        · replace hf := ifF cc hf
          refine lv_iconst (v := 1) hx hb dX13_isRefusedHang_58 (by decide) ?_
          refine lv_goto (tgt := 63) hx hb dX13_isRefusedHang_59 (by decide) ?_
          obtain ⟨rfl, rfl⟩ := re2 hf
          exact hE (.inr rfl) hP hD hS dX13_isRefusedHang_63
    · replace hf := ifF cc hf
      refine lv_aload_n hx hb dX13_isRefusedHang_20 rfl (lv_at hl 0 rfl) ?_
      refine lv_iconst (v := 3) hx hb dX13_isRefusedHang_21 (by decide) ?_
      refine lv_aload_n hx hb dX13_isRefusedHang_22 rfl (lv_at hl 0 rfl) ?_
      refine lv_aload_n hx hb dX13_isRefusedHang_23 rfl (lv_at hl 0 rfl) ?_
      refine lv_iload_n hx hb dX13_isRefusedHang_24 rfl (lv_at hl 1 rfl) ?_
      refine lv_iload_n hx hb dX13_isRefusedHang_25 rfl (lv_at hl 2 rfl) ?_
      obtain ⟨r_6, hc, hf⟩ := bd1_of hf
      refine k_V (As := [.int a1, .int a2]) (rest := [.ref (q0 0), .int 3, .ref (q0 0)]) (ws1 := (kModel G q0 w_2)) ⟨hx, hb, hml, hown, hts⟩ (c_X13_lineBetween l D G q0 a1 a2 w_2 _ hc  _) (cwV 2 hts gX13_isRefusedHang_X13_lineBetween rfl rfl rfl (by decide +kernel) ⟨Nat.le_of_ble_eq_true rfl, Nat.le_of_ble_eq_true rfl⟩) hl.1 (Nat.le_of_ble_eq_true rfl) dX13_isRefusedHang_26 ⟨Nat.le_of_ble_eq_true rfl, Nat.le_of_ble_eq_true rfl⟩ rfl kT_bl (fun _ _ _ => trivial) hN hK hP hD hS hA 0 11 rfl rfl rfl [0, 1, 2, 3, 4, 5, 6, 7, 8, 9, 10, 11] [] [0, 1, 2, 3, 4, 5, 6, 7, 8, 9, 10, 11] [0, 1, 2, 3] rfl rfl rfl ⟨by decide, by decide, by decide, by decide⟩ rfl (fun H locs hP hD hS => ?_)
      refine lv_iconst (v := 2) hx hb dX13_isRefusedHang_29 (by decide) ?_
      obtain ⟨r_7, hc, hf⟩ := bd1_of hf
      refine k_V (As := [.int r_6, .int 2]) (rest := [.int 3, .ref (q0 0)]) (ws1 := (kModel G q0 w_2)) ⟨hx, hb, hml, hown, hts⟩ (c_X13_linePart l D G q0 r_6 2 w_2 _ hc  _) (cwV 2 hts gX13_isRefusedHang_X13_linePart rfl rfl rfl (by decide +kernel) ⟨Nat.le_of_ble_eq_true rfl, Nat.le_of_ble_eq_true rfl⟩) hl.1 (Nat.le_of_ble_eq_true rfl) dX13_isRefusedHang_30 ⟨Nat.le_of_ble_eq_true rfl, Nat.le_of_ble_eq_true rfl⟩ rfl kT_bl (fun _ _ _ => trivial) hN hK hP hD hS hA 0 11 rfl rfl rfl [0, 1, 2, 3, 4, 5, 6, 7, 8, 9, 10, 11] [] [0, 1, 2, 3, 4, 5, 6, 7, 8, 9, 10, 11] [0, 1, 2, 3] rfl rfl rfl ⟨by decide, by decide, by decide, by decide⟩ rfl (fun H locs hP hD hS => ?_)
      obtain ⟨r_8, w_9, hc, hf⟩ := bd2_of hf
      refine k_V (As := [.int 3, .int r_7]) (rest := []) (ws1 := (kModel G q0 w_9)) ⟨hx, hb, hml, hown, hts⟩ (c_X13_isBad l D G q0 3 r_7 w_2 _ _ hc  _) (cwV 2 hts gX13_isRefusedHang_X13_isBad rfl rfl rfl (by decide +kernel) ⟨Nat.le_of_ble_eq_true rfl, Nat.le_of_ble_eq_true rfl⟩) hl.1 (Nat.le_of_ble_eq_true rfl) dX13_isRefusedHang_33 ⟨Nat.le_of_ble_eq_true rfl, Nat.le_of_ble_eq_true rfl⟩ rfl kT_bl (fun _ _ _ => trivial) hN hK hP hD hS hA 0 11 rfl rfl rfl [0, 1, 2, 3, 4, 5, 6, 7, 8, 9, 10, 11] [] [0, 1, 2, 3, 4, 5, 6, 7, 8, 9, 10, 11] [0, 1, 2, 3] rfl rfl rfl ⟨by decide, by decide, by decide, by decide⟩ rfl (fun H locs hP hD hS => ?_)
      obtain ⟨h01, hf⟩ := ckB_of hf
      obtain ⟨rfl, rfl⟩ := re2 hf
      exact hE h01 hP hD hS dX13_isRefusedHang_36
  · replace hf := ifF cc hf
    refine lv_iconst (v := 1) hx hb dX13_isRefusedHang_9 (by decide) ?_
    obtain ⟨rfl, rfl⟩ := re2 hf
    exact hE (.inr rfl) hP hD hS dX13_isRefusedHang_10
def f_X13_hangs_J55 (t_1 : Int32) (v_4 : SV) (a3 : Int32) (j_6 : Int32) : Option (Int32 × SV) :=
  ckI ((190 + (3 * t_1)) + 1) 240 <|
  nm (pA v_4 0 ((190 + (3 * t_1)) + 1) j_6) fun v_7 =>
  ckI ((190 + (3 * t_1)) + 2) 240 <|
  nm (pA v_7 0 ((190 + (3 * t_1)) + 2) a3) fun v_8 =>
  ckI 0 240 <|
  ckI 0 240 <|
  nm (pA v_8 0 0 ((v_8.2 0 (0 : Int32).toNatClampNeg) + 1)) fun v_9 =>
  ckI 7 240 <|
  ckI 7 240 <|
  nm (pA v_9 0 7 ((v_9.2 0 (7 : Int32).toNatClampNeg) + 1)) fun v_10 =>
  some (t_1, v_10)
def f_X13_hangs_J30 (t_1 : Int32) (v0 : SV) (a2 : Int32) (a1 : Int32) (a3 : Int32) (j_3 : Int32) : Option (Int32 × SV) :=
  ckI (190 + (3 * t_1)) 240 <|
  nm (pA v0 0 (190 + (3 * t_1)) j_3) fun v_4 =>
  if a2 ≤ a1 then
    f_X13_hangs_J55 t_1 v_4 a3 a1
  else
    f_X13_hangs_J55 t_1 v_4 a3 a2
def f_X13_hangs (a1 : Int32) (a2 : Int32) (a3 : Int32) (v0 : SV) : Option (Int32 × SV) :=
  ckI 0 240 <|
  nm (v0.2 0 (0 : Int32).toNatClampNeg) fun t_1 =>
  if a2 ≤ a1 then
    f_X13_hangs_J30 t_1 v0 a2 a1 a3 a2
  else
    f_X13_hangs_J30 t_1 v0 a2 a1 a3 a1
abbrev rm_X13_hangs : Room := { frames := 0, cells := 0, slots := 0, locals := 0 }
set_option maxHeartbeats 4000000 in
set_option maxRecDepth 100000 in
theorem c_X13_hangs (l : Launch) (D : va_G) (G : Nat → ClassId) (q0 : Nat → Nat) (a1 : Int32) (a2 : Int32) (a3 : Int32) (v0 : SV) (r : Int32) (v0' : SV) (hf : f_X13_hangs a1 a2 a3 v0 = some (r, v0')) (sz : Nat) : mC l yX13_hangs wsX13_hangs rm_X13_hangs D (tyG G) kT [.ref (q0 0), .int a1, .int a2, .int a3] (kModel G q0 v0) (kModel G q0 v0') sz (some (.int r)) 0 0 := by
  refine mC_ofI (cc := cX13_hangs) (maxL := 5) (ret := (some .int)) (by decide) rfl rfl (Nat.le_of_ble_eq_true rfl) ?_
  intro p e s m args below meth c Q0 hx hb hml hts hown hN hK A hD hA hE hP hS hJ ls hl
  have hl : lv_has ls 5 [(0, .ref (q0 0)), (1, .int a1), (2, .int a2), (3, .int a3)] := hl
  unfold f_X13_hangs at hf
  have hi11 : ∀ w ∈ u_ws RX13 TX13 27, w ∈ wsX13_hangs := by decide +kernel
  have hw1 := hts (.fieldLink RX13 7 "BalconyCensusModel" "now" "[I") (by decide +kernel)
  refine lv_aload_n hx hb dX13_hangs_0 rfl (lv_at hl 0 rfl) ?_
  refine va_get (D := D) (ci := 11) (v := .ref (q0 1)) (C := RX13) (T := TX13) (N := 27) hx hb hts hi11 hown hK hP 0 rfl rfl 0 (by decide) hw1 (fun _ h9 => h9) rfl dX13_hangs_1 ?_
  refine lv_iconst (v := 0) hx hb dX13_hangs_4 (by decide) ?_
  obtain ⟨hin, hf⟩ := ckI_of hf
  refine va_iald (D := D) hx hb hK hP 1 0 rfl rfl hin dX13_hangs_5 ?_
  obtain ⟨t_1, et_1, hf⟩ := nm_of hf
  rw [← et_1]
  refine lv_istore (lv' := [(4, .int t_1), (0, .ref (q0 0)), (1, .int a1), (2, .int a2), (3, .int a3)]) hx hb dX13_hangs_6 hl (by decide) rfl (fun ls hl => ?_)
  refine lv_aload_n hx hb dX13_hangs_8 rfl (lv_at hl 1 rfl) ?_
  refine va_get (D := D) (ci := 11) (v := .ref (q0 1)) (C := RX13) (T := TX13) (N := 27) hx hb hts hi11 hown hK hP 0 rfl rfl 0 (by decide) hw1 (fun _ h9 => h9) rfl dX13_hangs_9 ?_
  refine lv_sipush (v := 190) hx hb dX13_hangs_12 (by decide +kernel) ?_
  refine lv_iconst (v := 3) hx hb dX13_hangs_15 (by decide) ?_
  refine lv_iload hx hb dX13_hangs_16 (lv_at hl 0 rfl) ?_
  refine lv_imul hx hb dX13_hangs_18 ?_
  refine lv_iadd hx hb dX13_hangs_19 ?_
  refine lv_iload_n hx hb dX13_hangs_20 rfl (lv_at hl 2 rfl) ?_
  refine lv_iload_n hx hb dX13_hangs_21 rfl (lv_at hl 3 rfl) ?_
  have jnJ_2 : ∀ (j_3 : Int32) (H : Heap) (locs : List Loc) (ls : Array Slot), lv_has ls 5 [(4, .int t_1), (0, .ref (q0 0)), (1, .int a1), (2, .int a2), (3, .int a3)] → va_P D vwCl (kModel G q0 v0) H → va_D A (kModel G q0 v0) → va_S A s.heap H locs → f_X13_hangs_J30 t_1 v0 a2 a1 a3 j_3 = some (r, v0') → W p l e rm_X13_hangs s m args below meth c H locs 0 0 Q0 (F0 m 30 ls [.int j_3, .int (190 + (3 * t_1)), .ref (q0 1)]) := by
    intro j_3 H locs ls hl hP hD hS hf
    unfold f_X13_hangs_J30 at hf
    obtain ⟨hin, hf⟩ := ckI_of hf
    obtain ⟨v_4, ev_4, hf⟩ := nm_of hf
    refine va_iast (D := D) hx hb hK hP hD hS 1 0 rfl rfl hin dX13_hangs_30 (fun H locs hP hD hS => ?_)
    have hP : va_P D vwCl (kModel G q0 v_4) H := by rw [ev_4]; exact hP
    have hD : va_D A (kModel G q0 v_4) := by rw [ev_4]; exact hD
    refine lv_aload_n hx hb dX13_hangs_31 rfl (lv_at hl 1 rfl) ?_
    refine va_get (D := D) (ci := 11) (v := .ref (q0 1)) (C := RX13) (T := TX13) (N := 27) hx hb hts hi11 hown hK hP 0 rfl rfl 0 (by decide) hw1 (fun _ h9 => h9) rfl dX13_hangs_32 ?_
    refine lv_sipush (v := 190) hx hb dX13_hangs_35 (by decide +kernel) ?_
    refine lv_iconst (v := 3) hx hb dX13_hangs_38 (by decide) ?_
    refine lv_iload hx hb dX13_hangs_39 (lv_at hl 0 rfl) ?_
    refine lv_imul hx hb dX13_hangs_41 ?_
    refine lv_iadd hx hb dX13_hangs_42 ?_
    refine lv_iconst (v := 1) hx hb dX13_hangs_43 (by decide) ?_
    refine lv_iadd hx hb dX13_hangs_44 ?_
    refine lv_iload_n hx hb dX13_hangs_45 rfl (lv_at hl 2 rfl) ?_
    refine lv_iload_n hx hb dX13_hangs_46 rfl (lv_at hl 3 rfl) ?_
    have jnJ_5 : ∀ (j_6 : Int32) (H : Heap) (locs : List Loc) (ls : Array Slot), lv_has ls 5 [(4, .int t_1), (0, .ref (q0 0)), (1, .int a1), (2, .int a2), (3, .int a3)] → va_P D vwCl (kModel G q0 v_4) H → va_D A (kModel G q0 v_4) → va_S A s.heap H locs → f_X13_hangs_J55 t_1 v_4 a3 j_6 = some (r, v0') → W p l e rm_X13_hangs s m args below meth c H locs 0 0 Q0 (F0 m 55 ls [.int j_6, .int ((190 + (3 * t_1)) + 1), .ref (q0 1)]) := by
      intro j_6 H locs ls hl hP hD hS hf
      unfold f_X13_hangs_J55 at hf
      obtain ⟨hin, hf⟩ := ckI_of hf
      obtain ⟨v_7, ev_7, hf⟩ := nm_of hf
      refine va_iast (D := D) hx hb hK hP hD hS 1 0 rfl rfl hin dX13_hangs_55 (fun H locs hP hD hS => ?_)
      have hP : va_P D vwCl (kModel G q0 v_7) H := by rw [ev_7]; exact hP
      have hD : va_D A (kModel G q0 v_7) := by rw [ev_7]; exact hD
      refine lv_aload_n hx hb dX13_hangs_56 rfl (lv_at hl 1 rfl) ?_
      refine va_get (D := D) (ci := 11) (v := .ref (q0 1)) (C := RX13) (T := TX13) (N := 27) hx hb hts hi11 hown hK hP 0 rfl rfl 0 (by decide) hw1 (fun _ h9 => h9) rfl dX13_hangs_57 ?_
      refine lv_sipush (v := 190) hx hb dX13_hangs_60 (by decide +kernel) ?_
      refine lv_iconst (v := 3) hx hb dX13_hangs_63 (by decide) ?_
      refine lv_iload hx hb dX13_hangs_64 (lv_at hl 0 rfl) ?_
      refine lv_imul hx hb dX13_hangs_66 ?_
      refine lv_iadd hx hb dX13_hangs_67 ?_
      refine lv_iconst (v := 2) hx hb dX13_hangs_68 (by decide) ?_
      refine lv_iadd hx hb dX13_hangs_69 ?_
      refine lv_iload_n hx hb dX13_hangs_70 rfl (lv_at hl 4 rfl) ?_
      obtain ⟨hin, hf⟩ := ckI_of hf
      obtain ⟨v_8, ev_8, hf⟩ := nm_of hf
      refine va_iast (D := D) hx hb hK hP hD hS 1 0 rfl rfl hin dX13_hangs_71 (fun H locs hP hD hS => ?_)
      have hP : va_P D vwCl (kModel G q0 v_8) H := by rw [ev_8]; exact hP
      have hD : va_D A (kModel G q0 v_8) := by rw [ev_8]; exact hD
      refine lv_aload_n hx hb dX13_hangs_72 rfl (lv_at hl 1 rfl) ?_
      refine va_get (D := D) (ci := 11) (v := .ref (q0 1)) (C := RX13) (T := TX13) (N := 27) hx hb hts hi11 hown hK hP 0 rfl rfl 0 (by decide) hw1 (fun _ h9 => h9) rfl dX13_hangs_73 ?_
      refine lv_iconst (v := 0) hx hb dX13_hangs_76 (by decide) ?_
      refine lv_dup2_11 hx hb dX13_hangs_77 rfl rfl ?_
      obtain ⟨hin, hf⟩ := ckI_of hf
      refine va_iald (D := D) hx hb hK hP 1 0 rfl rfl hin dX13_hangs_78 ?_
      refine lv_iconst (v := 1) hx hb dX13_hangs_79 (by decide) ?_
      refine lv_iadd hx hb dX13_hangs_80 ?_
      obtain ⟨hin, hf⟩ := ckI_of hf
      obtain ⟨v_9, ev_9, hf⟩ := nm_of hf
      refine va_iast (D := D) hx hb hK hP hD hS 1 0 rfl rfl hin dX13_hangs_81 (fun H locs hP hD hS => ?_)
      have hP : va_P D vwCl (kModel G q0 v_9) H := by rw [ev_9]; exact hP
      have hD : va_D A (kModel G q0 v_9) := by rw [ev_9]; exact hD
      refine lv_aload_n hx hb dX13_hangs_82 rfl (lv_at hl 1 rfl) ?_
      refine va_get (D := D) (ci := 11) (v := .ref (q0 1)) (C := RX13) (T := TX13) (N := 27) hx hb hts hi11 hown hK hP 0 rfl rfl 0 (by decide) hw1 (fun _ h9 => h9) rfl dX13_hangs_83 ?_
      refine lv_bipush (v := 7) hx hb dX13_hangs_86 (by decide +kernel) ?_
      refine lv_dup2_11 hx hb dX13_hangs_88 rfl rfl ?_
      obtain ⟨hin, hf⟩ := ckI_of hf
      refine va_iald (D := D) hx hb hK hP 1 0 rfl rfl hin dX13_hangs_89 ?_
      refine lv_iconst (v := 1) hx hb dX13_hangs_90 (by decide) ?_
      refine lv_iadd hx hb dX13_hangs_91 ?_
      obtain ⟨hin, hf⟩ := ckI_of hf
      obtain ⟨v_10, ev_10, hf⟩ := nm_of hf
      refine va_iast (D := D) hx hb hK hP hD hS 1 0 rfl rfl hin dX13_hangs_92 (fun H locs hP hD hS => ?_)
      have hP : va_P D vwCl (kModel G q0 v_10) H := by rw [ev_10]; exact hP
      have hD : va_D A (kModel G q0 v_10) := by rw [ev_10]; exact hD
      refine lv_iload hx hb dX13_hangs_93 (lv_at hl 0 rfl) ?_
      obtain ⟨rfl, rfl⟩ := re2 hf
      exact hE hP hD hS dX13_hangs_95
    refine lv_icmp_ge (tgt := 54) hx hb dX13_hangs_47 (by decide) (fun cc => ?_) (fun cc => ?_)
    · replace hf := ifT cc hf
      refine lv_iload_n hx hb dX13_hangs_54 rfl (lv_at hl 2 rfl) ?_
      exact jnJ_5 a1 _ _ _ (lv_sub hl [0, 1, 2, 3, 4] rfl) hP hD hS hf
    · replace hf := ifF cc hf
      refine lv_iload_n hx hb dX13_hangs_50 rfl (lv_at hl 3 rfl) ?_
      refine lv_goto (tgt := 55) hx hb dX13_hangs_51 (by decide) ?_
      exact jnJ_5 a2 _ _ _ (lv_sub hl [0, 1, 2, 3, 4] rfl) hP hD hS hf
  refine lv_icmp_ge (tgt := 29) hx hb dX13_hangs_22 (by decide) (fun cc => ?_) (fun cc => ?_)
  · replace hf := ifT cc hf
    refine lv_iload_n hx hb dX13_hangs_29 rfl (lv_at hl 3 rfl) ?_
    exact jnJ_2 a2 _ _ _ (lv_sub hl [0, 1, 2, 3, 4] rfl) hP hD hS hf
  · replace hf := ifF cc hf
    refine lv_iload_n hx hb dX13_hangs_25 rfl (lv_at hl 2 rfl) ?_
    refine lv_goto (tgt := 30) hx hb dX13_hangs_26 (by decide) ?_
    exact jnJ_2 a1 _ _ _ (lv_sub hl [0, 1, 2, 3, 4] rfl) hP hD hS hf
