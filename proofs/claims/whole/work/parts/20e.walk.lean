/-! Walks, laid by wip/whole/gen.py: for each method f_ (what it does to its world) and c_ (its contract). -/
def f_X12_written (a1 : Int32) (vmn : SV) (vsb : (Nat × SV)) : Option Int32 :=
  if a1 < 0 then
    some (-1)
  else
    bd1 (f_J4_length_8abf5 vsb) fun r_1 =>
    if a1 < r_1 then
      bd1 (f_J4_charAt_5068e a1 vsb) fun r_2 =>
      some r_2
    else
      some (-1)
abbrev rm_X12_written : Room := { frames := 4, cells := 0, slots := 0, locals := 88 }
set_option maxHeartbeats 4000000 in
set_option maxRecDepth 100000 in
theorem c_X12_written (l : Launch) (D : va_G) (G : Nat → ClassId) (X : Nat → Nat → Nat) (Q : Nat → Nat → Nat) (bb : Nat) (a1 : Int32) (vmn : SV) (vsb : (Nat × SV)) (r : Int32) (hf : f_X12_written a1 vmn vsb = some r) (sz : Nat) : mC l yX12_written wsX12_written rm_X12_written D (tyG G) (kW X) [.ref ((Q 0) 0), .int a1] (kMain Q vmn ++ kSB G (Q 9 0) bb vsb) (kMain Q vmn ++ kSB G (Q 9 0) bb vsb) sz (some (.int r)) 0 0 := by
  refine mC_ofI (cc := cX12_written) (maxL := 2) (ret := (some .int)) (by decide) rfl rfl (Nat.le_of_ble_eq_true rfl) ?_
  intro p e s m args below meth c Q0 hx hb hml hts hown hN hK A hD hA hE hP hS hJ ls hl
  have hl : lv_has ls 2 [(0, .ref ((Q 0) 0)), (1, .int a1)] := hl
  unfold f_X12_written at hf
  obtain ⟨⟨⟨hX1, hX2, hX3, hX4, hX5, hX6, hX7, hX8, hX9, hX10, hX11, hX12⟩, hX13⟩, hX14, hX15, hX16, hX17⟩ := id hJ
  have hi10 : ∀ w ∈ u_ws RX12 TX12 11, w ∈ wsX12_written := by decide +kernel
  have hw1 := hts (.fieldLink RX12 64 "BalconyCensus" "writtenLine" "Ljava/lang/StringBuilder;") (by decide +kernel)
  refine lv_iload_n hx hb dX12_written_0 rfl (lv_at hl 1 rfl) ?_
  refine lv_if_lt (tgt := 15) hx hb dX12_written_1 (by decide) (fun cc => ?_) (fun cc => ?_)
  · replace hf := ifT cc hf
    refine lv_iconst (v := (-1)) hx hb dX12_written_15 (by decide) ?_
    obtain rfl := re1 hf
    exact hE hP hD hS dX12_written_16
  · replace hf := ifF cc hf
    refine lv_iload_n hx hb dX12_written_4 rfl (lv_at hl 1 rfl) ?_
    refine lv_aload_n hx hb dX12_written_5 rfl (lv_at hl 0 rfl) ?_
    refine va_get (D := D) (ci := 10) (v := .ref (Q 9 0)) (C := RX12) (T := TX12) (N := 11) hx hb hts hi10 hown hK hP 0 rfl rfl 9 (by decide) hw1 (fun _ h9 => h9) rfl dX12_written_6 ?_
    obtain ⟨r_1, hc, hf⟩ := bd1_of hf
    refine k_V (As := []) (rest := [.int a1]) (ws1 := (kMain Q vmn ++ kSB G (Q 9 0) bb vsb)) ⟨hx, hb, hml, hown, hts⟩ (c_J4_length_8abf5 l D G (Q 9 0) bb  vsb _ hc  _) (cwV 0 hts gX12_written_J4_length_8abf5 rfl rfl rfl (by decide +kernel) ⟨Nat.le_of_ble_eq_true rfl, Nat.le_of_ble_eq_true rfl⟩) hl.1 (Nat.le_of_ble_eq_true rfl) dX12_written_9 ⟨Nat.le_of_ble_eq_true rfl, Nat.le_of_ble_eq_true rfl⟩ rfl kT_bl (fun _ _ _ => trivial) hN hK hP hD hS hA 1 0 rfl rfl rfl [1, 2] [0] [0, 1, 2] [0, 1, 2, 3] rfl rfl rfl ⟨by decide, by decide, by decide, by decide⟩ rfl (fun H locs hP hD hS => ?_)
    refine lv_icmp_lt (tgt := 17) hx hb dX12_written_12 (by decide) (fun cc => ?_) (fun cc => ?_)
    · replace hf := ifT cc hf
      refine lv_aload_n hx hb dX12_written_17 rfl (lv_at hl 0 rfl) ?_
      refine va_get (D := D) (ci := 10) (v := .ref (Q 9 0)) (C := RX12) (T := TX12) (N := 11) hx hb hts hi10 hown hK hP 0 rfl rfl 9 (by decide) hw1 (fun _ h9 => h9) rfl dX12_written_18 ?_
      refine lv_iload_n hx hb dX12_written_21 rfl (lv_at hl 1 rfl) ?_
      obtain ⟨r_2, hc, hf⟩ := bd1_of hf
      refine k_V (As := [.int a1]) (rest := []) (ws1 := (kMain Q vmn ++ kSB G (Q 9 0) bb vsb)) ⟨hx, hb, hml, hown, hts⟩ (c_J4_charAt_5068e l D G X (Q 9 0) bb a1 vsb _ hc  _) (cwV 1 hts gX12_written_J4_charAt_5068e rfl rfl rfl (by decide +kernel) ⟨Nat.le_of_ble_eq_true rfl, Nat.le_of_ble_eq_true rfl⟩) hl.1 (Nat.le_of_ble_eq_true rfl) dX12_written_22 ⟨Nat.le_of_ble_eq_true rfl, Nat.le_of_ble_eq_true rfl⟩ rfl (kW_bl X) (kW_pass hJ hS (va_free (wc := (kSB G (Q 9 0) bb vsb)) hD hS hA [1, 2] rfl)) hN hK hP hD hS hA 1 0 rfl rfl rfl [1, 2] [0] [0, 1, 2] [0, 1, 2, 3] rfl rfl rfl ⟨by decide, by decide, by decide, by decide⟩ rfl (fun H locs hP hD hS => ?_)
      obtain rfl := re1 hf
      exact hE hP hD hS dX12_written_25
    · replace hf := ifF cc hf
      refine lv_iconst (v := (-1)) hx hb dX12_written_15 (by decide) ?_
      obtain rfl := re1 hf
      exact hE hP hD hS dX12_written_16
def f_X12_writeBalcony_J46 (a1 : Int32) (vho : SV) (jv_5 : (Nat × SV)) : Option (Nat × SV) :=
  bd1 (f_X3_ofBalcony a1 vho) fun r_6 =>
  if r_6 ≤ 0 then
    some jv_5
  else
    bd1 (f_J4_append_cf468 33 jv_5) fun w_7 =>
    some w_7
def f_X12_writeBalcony (a1 : Int32) (vmn : SV) (vho : SV) (vsb : (Nat × SV)) : Option (Nat × SV) :=
  ckI a1 12 <|
  bd1 (f_J4_append_bf812 (vho.2 0 a1.toNatClampNeg) vsb) fun w_1 =>
  bd1 (f_X1_catOn a1 vho) fun r_2 =>
  if r_2 < 0 then
    f_X12_writeBalcony_J46 a1 vho w_1
  else
    bd1 (f_J4_append_cf468 (((97 + r_2).toUInt32 % 65536).toInt32) w_1) fun w_4 =>
    f_X12_writeBalcony_J46 a1 vho w_4
abbrev rm_X12_writeBalcony : Room := { frames := 6, cells := 3, slots := 240, locals := 128 }
set_option maxHeartbeats 4000000 in
set_option maxRecDepth 100000 in
theorem c_X12_writeBalcony (l : Launch) (D : va_G) (G : Nat → ClassId) (X : Nat → Nat → Nat) (Q : Nat → Nat → Nat) (bb : Nat) (a1 : Int32) (vmn : SV) (vho : SV) (vsb : (Nat × SV)) (vsb' : (Nat × SV)) (hf : f_X12_writeBalcony a1 vmn vho vsb = some vsb') (sz : Nat) : mCE l yX12_writeBalcony wsX12_writeBalcony rm_X12_writeBalcony D (tyG G) (kW X) [.ref ((Q 0) 0), .int a1] (kMain Q vmn ++ kHouse G (Q 1) vho ++ kSB G (Q 9 0) bb vsb) (fun bb => (kMain Q vmn ++ kHouse G (Q 1) vho ++ kSB G (Q 9 0) bb vsb')) sz (fun _ => none) 3 240 := by
  refine mCE_of (cc := cX12_writeBalcony) (maxL := 3) (ret := none) (by decide) rfl (Nat.le_of_ble_eq_true rfl) ?_
  intro p e s m args below meth c Q0 hx hb hml hts hown hN hK A hD hA hEr hEv hEi hP hS hJ ls hl
  have hl : lv_has ls 3 [(0, .ref ((Q 0) 0)), (1, .int a1)] := hl
  unfold f_X12_writeBalcony at hf
  obtain ⟨⟨⟨hX1, hX2, hX3, hX4, hX5, hX6, hX7, hX8, hX9, hX10, hX11, hX12⟩, hX13⟩, hX14, hX15, hX16, hX17⟩ := id hJ
  have hi10 : ∀ w ∈ u_ws RX12 TX12 11, w ∈ wsX12_writeBalcony := by decide +kernel
  have hi4 : ∀ w ∈ u_ws RX6 TX6 10, w ∈ wsX12_writeBalcony := by decide +kernel
  have hw1 := hts (.fieldLink RX12 64 "BalconyCensus" "writtenLine" "Ljava/lang/StringBuilder;") (by decide +kernel)
  have hw2 := hts (.fieldLink RX12 12 "BalconyCensus" "house" "LBalconyCensus$House;") (by decide +kernel)
  have hw3 := hts (.fieldLink RX12 150 "BalconyCensus$House" "plants" "[I") (by decide +kernel)
  have hw4 := hts (.fieldLink RX12 157 "BalconyCensus$House" "cats" "LBalconyCensus$Cats;") (by decide +kernel)
  refine lv_aload_n hx hb dX12_writeBalcony_0 rfl (lv_at hl 0 rfl) ?_
  refine va_get (D := D) (ci := 10) (v := .ref (Q 9 0)) (C := RX12) (T := TX12) (N := 11) hx hb hts hi10 hown hK hP 0 rfl rfl 9 (by decide) hw1 (fun _ h9 => h9) rfl dX12_writeBalcony_1 ?_
  refine lv_aload_n hx hb dX12_writeBalcony_4 rfl (lv_at hl 0 rfl) ?_
  refine va_get (D := D) (ci := 10) (v := .ref (Q 1 0)) (C := RX12) (T := TX12) (N := 11) hx hb hts hi10 hown hK hP 0 rfl rfl 0 (by decide) hw2 (fun _ h9 => h9) rfl dX12_writeBalcony_5 ?_
  refine va_get (D := D) (ci := 4) (v := .ref ((Q 1) 1)) (C := RX6) (T := TX6) (N := 10) hx hb hts hi4 hown hK hP 1 rfl rfl 0 (by decide) hw3 (fun _ h9 => h9) rfl dX12_writeBalcony_8 ?_
  refine lv_iload_n hx hb dX12_writeBalcony_11 rfl (lv_at hl 1 rfl) ?_
  obtain ⟨hin, hf⟩ := ckI_of hf
  refine va_iald (D := D) hx hb hK hP 2 0 rfl rfl hin dX12_writeBalcony_12 ?_
  obtain ⟨w_1, hc, hf⟩ := bd1_of hf
  refine k_VE (As := [.int (vho.2 0 a1.toNatClampNeg)]) (rest := []) (ws1 := fun bb => (kMain Q vmn ++ kHouse G (Q 1) vho ++ kSB G (Q 9 0) bb w_1)) ⟨hx, hb, hml, hown, hts⟩ (c_J4_append_bf812 l D G X (Q 9 0) bb (vho.2 0 a1.toNatClampNeg) vsb _ hc  _) (cwV 1 hts gX12_writeBalcony_J4_append_bf812 rfl rfl rfl (by decide +kernel) ⟨Nat.le_of_ble_eq_true rfl, Nat.le_of_ble_eq_true rfl⟩) hl.1 (Nat.le_of_ble_eq_true rfl) dX12_writeBalcony_13 ⟨by show _ ≤ 3; omega, by show _ ≤ 240; omega⟩ rfl (kW_bl X) (kW_pass hJ hS (va_free (wc := (kSB G (Q 9 0) bb vsb)) hD hS hA [16, 17] rfl)) hN hK hP hD hS hA 16 0 rfl rfl rfl [16, 17] [0, 1, 2, 3, 4, 5, 6, 7, 8, 9, 10, 11, 12, 13, 14, 15] [0, 1, 2, 3, 4, 5, 6, 7, 8, 9, 10, 11, 12, 13, 14, 15, 16, 17] [0, 1, 2, 3] rfl rfl rfl ⟨by decide, by decide, by decide, by decide⟩ (fun _ => rfl) (fun bb H locs hP hD hS => ?_)
  refine W.widen (k := 1) (n := 80) (by omega) (by omega) ?_
  refine lv_pop hx hb dX12_writeBalcony_16 rfl ?_
  refine lv_aload_n hx hb dX12_writeBalcony_17 rfl (lv_at hl 0 rfl) ?_
  refine va_get (D := D) (ci := 10) (v := .ref (Q 1 0)) (C := RX12) (T := TX12) (N := 11) hx hb hts hi10 hown hK hP 0 rfl rfl 0 (by decide) hw2 (fun _ h9 => h9) rfl dX12_writeBalcony_18 ?_
  refine va_get (D := D) (ci := 4) (v := .ref ((Q 1) 10)) (C := RX6) (T := TX6) (N := 10) hx hb hts hi4 hown hK hP 1 rfl rfl 4 (by decide) hw4 (fun _ h9 => h9) rfl dX12_writeBalcony_21 ?_
  refine lv_iload_n hx hb dX12_writeBalcony_24 rfl (lv_at hl 1 rfl) ?_
  obtain ⟨r_2, hc, hf⟩ := bd1_of hf
  refine k_V (As := [.int a1]) (rest := []) (ws1 := (kMain Q vmn ++ kHouse G (Q 1) vho ++ kSB G (Q 9 0) bb w_1)) ⟨hx, hb, hml, hown, hts⟩ (c_X1_catOn l D G (Q 1) a1 vho _ hc  _) (cwV 1 hts gX12_writeBalcony_X1_catOn rfl rfl rfl (by decide +kernel) ⟨Nat.le_of_ble_eq_true rfl, Nat.le_of_ble_eq_true rfl⟩) hl.1 (Nat.le_of_ble_eq_true rfl) dX12_writeBalcony_25 ⟨by show _ ≤ 3; omega, by show _ ≤ 240; omega⟩ rfl kT_bl (fun _ _ _ => trivial) hN hK hP hD hS hA 11 1 rfl rfl rfl [11, 12, 13, 14] [0, 1, 2, 3, 4, 5, 6, 7, 8, 9, 10, 15, 16, 17] [0, 1, 2, 3, 4, 5, 6, 7, 8, 9, 10, 14, 15, 16, 17, 11, 12, 13] [0, 1, 2, 3] rfl rfl rfl ⟨by decide, by decide, by decide, by decide⟩ rfl (fun H locs hP hD hS => ?_)
  refine lv_istore_n (lv' := [(2, .int r_2), (0, .ref ((Q 0) 0)), (1, .int a1)]) hx hb dX12_writeBalcony_28 rfl hl (by decide) rfl (fun ls hl => ?_)
  refine lv_iload_n hx hb dX12_writeBalcony_29 rfl (lv_at hl 0 rfl) ?_
  have jnJ_3 : ∀ (bb : Nat) (jv_5 : (Nat × SV)) (H : Heap) (locs : List Loc) (ls : Array Slot), lv_has ls 3 [(2, .int r_2), (0, .ref ((Q 0) 0)), (1, .int a1)] → va_P D vwCl (kMain Q vmn ++ kHouse G (Q 1) vho ++ kSB G (Q 9 0) bb jv_5) H → va_D A (kMain Q vmn ++ kHouse G (Q 1) vho ++ kSB G (Q 9 0) bb jv_5) → va_S A s.heap H locs → f_X12_writeBalcony_J46 a1 vho jv_5 = some vsb' → W p l e rm_X12_writeBalcony s m args below meth c H locs 2 160 Q0 (F0 m 46 ls []) := by
    intro bb jv_5 H locs ls hl hP hD hS hf
    unfold f_X12_writeBalcony_J46 at hf
    refine lv_aload_n hx hb dX12_writeBalcony_46 rfl (lv_at hl 1 rfl) ?_
    refine va_get (D := D) (ci := 10) (v := .ref (Q 1 0)) (C := RX12) (T := TX12) (N := 11) hx hb hts hi10 hown hK hP 0 rfl rfl 0 (by decide) hw2 (fun _ h9 => h9) rfl dX12_writeBalcony_47 ?_
    refine lv_iload_n hx hb dX12_writeBalcony_50 rfl (lv_at hl 2 rfl) ?_
    obtain ⟨r_6, hc, hf⟩ := bd1_of hf
    refine k_S (As := [.ref ((Q 1) 0), .int a1]) (rest := []) (ws1 := (kMain Q vmn ++ kHouse G (Q 1) vho ++ kSB G (Q 9 0) bb jv_5)) ⟨hx, hb, hml, hown, hts⟩ (c_X3_ofBalcony l D G (Q 1) a1 vho _ hc  _) (va_cwS 2 hts gX12_writeBalcony_X3_ofBalcony rfl rfl rfl (by decide +kernel) ⟨Nat.le_of_ble_eq_true rfl, Nat.le_of_ble_eq_true rfl⟩) hl.1 (Nat.le_of_ble_eq_true rfl) dX12_writeBalcony_51 ⟨by show _ ≤ 3; omega, by show _ ≤ 240; omega⟩ rfl kT_bl (fun _ _ _ => trivial) hN hK hP hD hS hA [1, 2, 3, 4, 5, 6, 7, 8, 9, 10, 11, 12, 13, 14, 15] [0, 16, 17] [0, 3, 4, 5, 6, 7, 8, 9, 10, 11, 12, 13, 14, 15, 16, 17, 1, 2] [0, 1, 2, 3] rfl rfl rfl ⟨by decide, by decide, by decide, by decide⟩ rfl (fun H locs hP hD hS => ?_)
    refine lv_if_le (tgt := 67) hx hb dX12_writeBalcony_54 (by decide) (fun cc => ?_) (fun cc => ?_)
    · replace hf := ifT cc hf
      obtain rfl := re1 hf
      refine W.widen (k := 3) (n := 240) (by omega) (by omega) ?_
      exact hEv bb rfl rfl hP hD hS dX12_writeBalcony_67
    · replace hf := ifF cc hf
      refine lv_aload_n hx hb dX12_writeBalcony_57 rfl (lv_at hl 1 rfl) ?_
      refine va_get (D := D) (ci := 10) (v := .ref (Q 9 0)) (C := RX12) (T := TX12) (N := 11) hx hb hts hi10 hown hK hP 0 rfl rfl 9 (by decide) hw1 (fun _ h9 => h9) rfl dX12_writeBalcony_58 ?_
      refine lv_bipush (v := 33) hx hb dX12_writeBalcony_61 (by decide +kernel) ?_
      obtain ⟨w_7, hc, hf⟩ := bd1_of hf
      refine k_VE (As := [.int 33]) (rest := []) (ws1 := fun bb => (kMain Q vmn ++ kHouse G (Q 1) vho ++ kSB G (Q 9 0) bb w_7)) ⟨hx, hb, hml, hown, hts⟩ (c_J4_append_cf468 l D G X (Q 9 0) bb 33 jv_5 _ hc  _) (cwV 1 hts gX12_writeBalcony_J4_append_cf468 rfl rfl rfl (by decide +kernel) ⟨Nat.le_of_ble_eq_true rfl, Nat.le_of_ble_eq_true rfl⟩) hl.1 (Nat.le_of_ble_eq_true rfl) dX12_writeBalcony_63 ⟨by show _ ≤ 3; omega, by show _ ≤ 240; omega⟩ rfl (kW_bl X) (kW_pass hJ hS (va_free (wc := (kSB G (Q 9 0) bb jv_5)) hD hS hA [16, 17] rfl)) hN hK hP hD hS hA 16 0 rfl rfl rfl [16, 17] [0, 1, 2, 3, 4, 5, 6, 7, 8, 9, 10, 11, 12, 13, 14, 15] [0, 1, 2, 3, 4, 5, 6, 7, 8, 9, 10, 11, 12, 13, 14, 15, 16, 17] [0, 1, 2, 3] rfl rfl rfl ⟨by decide, by decide, by decide, by decide⟩ (fun _ => rfl) (fun bb H locs hP hD hS => ?_)
      refine W.widen (k := 3) (n := 240) (by omega) (by omega) ?_
      refine lv_pop hx hb dX12_writeBalcony_66 rfl ?_
      obtain rfl := re1 hf
      refine W.widen (k := 3) (n := 240) (by omega) (by omega) ?_
      exact hEv bb rfl rfl hP hD hS dX12_writeBalcony_67
  refine lv_if_lt (tgt := 46) hx hb dX12_writeBalcony_30 (by decide) (fun cc => ?_) (fun cc => ?_)
  · replace hf := ifT cc hf
    refine W.widen (k := 2) (n := 160) (by omega) (by omega) ?_
    exact jnJ_3 bb w_1 _ _ _ (lv_sub hl [0, 1, 2] rfl) hP hD hS hf
  · replace hf := ifF cc hf
    refine lv_aload_n hx hb dX12_writeBalcony_33 rfl (lv_at hl 1 rfl) ?_
    refine va_get (D := D) (ci := 10) (v := .ref (Q 9 0)) (C := RX12) (T := TX12) (N := 11) hx hb hts hi10 hown hK hP 0 rfl rfl 9 (by decide) hw1 (fun _ h9 => h9) rfl dX12_writeBalcony_34 ?_
    refine lv_bipush (v := 97) hx hb dX12_writeBalcony_37 (by decide +kernel) ?_
    refine lv_iload_n hx hb dX12_writeBalcony_39 rfl (lv_at hl 0 rfl) ?_
    refine lv_iadd hx hb dX12_writeBalcony_40 ?_
    refine lv_i2c hx hb dX12_writeBalcony_41 rfl ?_
    obtain ⟨w_4, hc, hf⟩ := bd1_of hf
    refine k_VE (As := [.int (((97 + r_2).toUInt32 % 65536).toInt32)]) (rest := []) (ws1 := fun bb => (kMain Q vmn ++ kHouse G (Q 1) vho ++ kSB G (Q 9 0) bb w_4)) ⟨hx, hb, hml, hown, hts⟩ (c_J4_append_cf468 l D G X (Q 9 0) bb (((97 + r_2).toUInt32 % 65536).toInt32) w_1 _ hc  _) (cwV 1 hts gX12_writeBalcony_J4_append_cf468 rfl rfl rfl (by decide +kernel) ⟨Nat.le_of_ble_eq_true rfl, Nat.le_of_ble_eq_true rfl⟩) hl.1 (Nat.le_of_ble_eq_true rfl) dX12_writeBalcony_42 ⟨by show _ ≤ 3; omega, by show _ ≤ 240; omega⟩ rfl (kW_bl X) (kW_pass hJ hS (va_free (wc := (kSB G (Q 9 0) bb w_1)) hD hS hA [16, 17] rfl)) hN hK hP hD hS hA 16 0 rfl rfl rfl [16, 17] [0, 1, 2, 3, 4, 5, 6, 7, 8, 9, 10, 11, 12, 13, 14, 15] [0, 1, 2, 3, 4, 5, 6, 7, 8, 9, 10, 11, 12, 13, 14, 15, 16, 17] [0, 1, 2, 3] rfl rfl rfl ⟨by decide, by decide, by decide, by decide⟩ (fun _ => rfl) (fun bb H locs hP hD hS => ?_)
    refine W.widen (k := 2) (n := 160) (by omega) (by omega) ?_
    refine lv_pop hx hb dX12_writeBalcony_45 rfl ?_
    refine W.widen (k := 2) (n := 160) (by omega) (by omega) ?_
    exact jnJ_3 bb w_4 _ _ _ (lv_sub hl [0, 1, 2] rfl) hP hD hS hf
def f_X12_write_K21 (y_11 : Int32) (z_12 : (Nat × SV)) : Option (Int32 × (Nat × SV)) :=
  bd1 (f_J4_length_8abf5 z_12) fun r_13 =>
  some (r_13, z_12)
def f_X12_write_J40 (a1 : Int32) (x_4 : Int32) (vmn : SV) (vho : SV) (selfL_6 : (Int32 → (Nat × SV) → Option (Int32 × (Nat × SV)))) (jv_9 : (Nat × SV)) : Option (Int32 × (Nat × SV)) :=
  bd1 (f_X12_writeBalcony ((a1 * 4) + x_4) vmn vho jv_9) fun w_10 =>
  selfL_6 (x_4 + 1) w_10
def f_X12_write_B21 (a1 : Int32) (vmn : SV) (vho : SV) (selfL_6 : (Int32 → (Nat × SV) → Option (Int32 × (Nat × SV)))) (x_4 : Int32) (u_5 : (Nat × SV)) : Option (Int32 × (Nat × SV)) :=
  if 4 ≤ x_4 then
    f_X12_write_K21 x_4 u_5
  else
    if x_4 ≤ 0 then
      f_X12_write_J40 a1 x_4 vmn vho selfL_6 u_5
    else
      bd1 (f_J4_append_cf468 32 u_5) fun w_8 =>
      f_X12_write_J40 a1 x_4 vmn vho selfL_6 w_8
def f_X12_write (a1 : Int32) (vmn : SV) (vho : SV) (vsb : (Nat × SV)) : Option (Int32 × (Nat × SV)) :=
  if a1 < 0 then
    some ((-1), vsb)
  else
    if a1 < 3 then
      bd1 (f_J4_setLength_d00df 0 vsb) fun w_1 =>
      lz2 (f_X12_write_B21 a1 vmn vho) 8 0 w_1
    else
      some ((-1), vsb)
abbrev rm_X12_write : Room := { frames := 7, cells := 33, slots := 2640, locals := 150 }
set_option maxHeartbeats 4000000 in
set_option maxRecDepth 100000 in
theorem c_X12_write (l : Launch) (D : va_G) (G : Nat → ClassId) (X : Nat → Nat → Nat) (Q : Nat → Nat → Nat) (bb : Nat) (a1 : Int32) (vmn : SV) (vho : SV) (vsb : (Nat × SV)) (r : Int32) (vsb' : (Nat × SV)) (hf : f_X12_write a1 vmn vho vsb = some (r, vsb')) (sz : Nat) : mCE l yX12_write wsX12_write rm_X12_write D (tyG G) (kW X) [.ref ((Q 0) 0), .int a1] (kMain Q vmn ++ kHouse G (Q 1) vho ++ kSB G (Q 9 0) bb vsb) (fun bb => (kMain Q vmn ++ kHouse G (Q 1) vho ++ kSB G (Q 9 0) bb vsb')) sz (fun _ => (some (.int r))) 33 2640 := by
  refine mCE_of (cc := cX12_write) (maxL := 3) (ret := (some .int)) (by decide) rfl (Nat.le_of_ble_eq_true rfl) ?_
  intro p e s m args below meth c Q0 hx hb hml hts hown hN hK A hD hA hEr hEv hEi hP hS hJ ls hl
  have hl : lv_has ls 3 [(0, .ref ((Q 0) 0)), (1, .int a1)] := hl
  unfold f_X12_write at hf
  obtain ⟨⟨⟨hX1, hX2, hX3, hX4, hX5, hX6, hX7, hX8, hX9, hX10, hX11, hX12⟩, hX13⟩, hX14, hX15, hX16, hX17⟩ := id hJ
  have hi10 : ∀ w ∈ u_ws RX12 TX12 11, w ∈ wsX12_write := by decide +kernel
  have hw1 := hts (.fieldLink RX12 64 "BalconyCensus" "writtenLine" "Ljava/lang/StringBuilder;") (by decide +kernel)
  refine lv_iload_n hx hb dX12_write_0 rfl (lv_at hl 1 rfl) ?_
  refine lv_if_lt (tgt := 9) hx hb dX12_write_1 (by decide) (fun cc => ?_) (fun cc => ?_)
  · replace hf := ifT cc hf
    refine lv_iconst (v := (-1)) hx hb dX12_write_9 (by decide) ?_
    obtain ⟨rfl, rfl⟩ := re2 hf
    refine W.widen (k := 33) (n := 2640) (by omega) (by omega) ?_
    exact hEi bb rfl rfl hP hD hS dX12_write_10
  · replace hf := ifF cc hf
    refine lv_iload_n hx hb dX12_write_4 rfl (lv_at hl 1 rfl) ?_
    refine lv_iconst (v := 3) hx hb dX12_write_5 (by decide) ?_
    refine lv_icmp_lt (tgt := 11) hx hb dX12_write_6 (by decide) (fun cc => ?_) (fun cc => ?_)
    · replace hf := ifT cc hf
      refine lv_aload_n hx hb dX12_write_11 rfl (lv_at hl 0 rfl) ?_
      refine va_get (D := D) (ci := 10) (v := .ref (Q 9 0)) (C := RX12) (T := TX12) (N := 11) hx hb hts hi10 hown hK hP 0 rfl rfl 9 (by decide) hw1 (fun _ h9 => h9) rfl dX12_write_12 ?_
      refine lv_iconst (v := 0) hx hb dX12_write_15 (by decide) ?_
      obtain ⟨w_1, hc, hf⟩ := bd1_of hf
      refine k_VE (As := [.int 0]) (rest := []) (ws1 := fun bb => (kMain Q vmn ++ kHouse G (Q 1) vho ++ kSB G (Q 9 0) bb w_1)) ⟨hx, hb, hml, hown, hts⟩ (c_J4_setLength_d00df l D G X (Q 9 0) bb 0 vsb _ hc  _) (cwV 1 hts gX12_write_J4_setLength_d00df rfl rfl rfl (by decide +kernel) ⟨Nat.le_of_ble_eq_true rfl, Nat.le_of_ble_eq_true rfl⟩) hl.1 (Nat.le_of_ble_eq_true rfl) dX12_write_16 ⟨by show _ ≤ 33; omega, by show _ ≤ 2640; omega⟩ rfl (kW_bl X) (kW_pass hJ hS (va_free (wc := (kSB G (Q 9 0) bb vsb)) hD hS hA [16, 17] rfl)) hN hK hP hD hS hA 16 0 rfl rfl rfl [16, 17] [0, 1, 2, 3, 4, 5, 6, 7, 8, 9, 10, 11, 12, 13, 14, 15] [0, 1, 2, 3, 4, 5, 6, 7, 8, 9, 10, 11, 12, 13, 14, 15, 16, 17] [0, 1, 2, 3] rfl rfl rfl ⟨by decide, by decide, by decide, by decide⟩ (fun _ => rfl) (fun bb H locs hP hD hS => ?_)
      refine W.widen (k := 1) (n := 80) (by omega) (by omega) ?_
      refine lv_iconst (v := 0) hx hb dX12_write_19 (by decide) ?_
      refine lv_istore_n (lv' := [(2, .int 0), (0, .ref ((Q 0) 0)), (1, .int a1)]) hx hb dX12_write_20 rfl hl (by decide) rfl (fun ls hl => ?_)
      have exL_6 : ∀ (bb : Nat) (y_11 : Int32) (z_12 : (Nat × SV)) (H : Heap) (locs : List Loc) (ls : Array Slot), lv_has ls 3 [(2, .int y_11), (0, .ref ((Q 0) 0)), (1, .int a1)] → va_P D vwCl (kMain Q vmn ++ kHouse G (Q 1) vho ++ kSB G (Q 9 0) bb z_12) H → va_D A (kMain Q vmn ++ kHouse G (Q 1) vho ++ kSB G (Q 9 0) bb z_12) → va_S A s.heap H locs → f_X12_write_K21 y_11 z_12 = some (r, vsb') → W p l e rm_X12_write s m args below meth c H locs 33 2640 Q0 (F0 m 55 ls []) := by
        intro bb y_11 z_12 H locs ls hl hP hD hS hf
        unfold f_X12_write_K21 at hf
        refine lv_aload_n hx hb dX12_write_55 rfl (lv_at hl 1 rfl) ?_
        refine va_get (D := D) (ci := 10) (v := .ref (Q 9 0)) (C := RX12) (T := TX12) (N := 11) hx hb hts hi10 hown hK hP 0 rfl rfl 9 (by decide) hw1 (fun _ h9 => h9) rfl dX12_write_56 ?_
        obtain ⟨r_13, hc, hf⟩ := bd1_of hf
        refine k_V (As := []) (rest := []) (ws1 := (kMain Q vmn ++ kHouse G (Q 1) vho ++ kSB G (Q 9 0) bb z_12)) ⟨hx, hb, hml, hown, hts⟩ (c_J4_length_8abf5 l D G (Q 9 0) bb  z_12 _ hc  _) (cwV 0 hts gX12_write_J4_length_8abf5 rfl rfl rfl (by decide +kernel) ⟨Nat.le_of_ble_eq_true rfl, Nat.le_of_ble_eq_true rfl⟩) hl.1 (Nat.le_of_ble_eq_true rfl) dX12_write_59 ⟨by show _ ≤ 33; omega, by show _ ≤ 2640; omega⟩ rfl kT_bl (fun _ _ _ => trivial) hN hK hP hD hS hA 16 0 rfl rfl rfl [16, 17] [0, 1, 2, 3, 4, 5, 6, 7, 8, 9, 10, 11, 12, 13, 14, 15] [0, 1, 2, 3, 4, 5, 6, 7, 8, 9, 10, 11, 12, 13, 14, 15, 16, 17] [0, 1, 2, 3] rfl rfl rfl ⟨by decide, by decide, by decide, by decide⟩ rfl (fun H locs hP hD hS => ?_)
        obtain ⟨rfl, rfl⟩ := re2 hf
        refine W.widen (k := 33) (n := 2640) (by omega) (by omega) ?_
        exact hEi bb rfl rfl hP hD hS dX12_write_62
      have loL_6 : ∀ (n : Nat) (_ : n ≤ 8) (bb : Nat) (x_4 : Int32) (u_5 : (Nat × SV)) (H : Heap) (locs : List Loc) (ls : Array Slot), lv_has ls 3 [(2, .int x_4), (0, .ref ((Q 0) 0)), (1, .int a1)] → va_P D vwCl (kMain Q vmn ++ kHouse G (Q 1) vho ++ kSB G (Q 9 0) bb u_5) H → va_D A (kMain Q vmn ++ kHouse G (Q 1) vho ++ kSB G (Q 9 0) bb u_5) → va_S A s.heap H locs → lz2 (f_X12_write_B21 a1 vmn vho) n x_4 u_5 = some (r, vsb') → W p l e rm_X12_write s m args below meth c H locs (1 + 4 * (8 - n)) (80 + 320 * (8 - n)) Q0 (F0 m 21 ls []) := by
        intro n
        induction n with
        | zero => intro hn bb x_4 u_5 H locs ls hl hP hD hS hf; cases hf
        | succ n ihL_6 =>
          intro hn bb x_4 u_5 H locs ls hl hP hD hS hf
          replace hf := lz2_s hf
          generalize lz2 (f_X12_write_B21 a1 vmn vho) n = selfL_6 at hf ihL_6
          unfold f_X12_write_B21 at hf
          refine lv_iload_n hx hb dX12_write_21 rfl (lv_at hl 0 rfl) ?_
          refine lv_iconst (v := 4) hx hb dX12_write_22 (by decide) ?_
          refine lv_icmp_ge (tgt := 55) hx hb dX12_write_23 (by decide) (fun cc => ?_) (fun cc => ?_)
          · replace hf := ifT cc hf
            refine W.widen (k := 33) (n := 2640) (by omega) (by omega) ?_
            exact exL_6 bb x_4 u_5 _ _ _ (lv_sub hl [0, 1, 2] rfl) hP hD hS hf
          · replace hf := ifF cc hf
            refine lv_iload_n hx hb dX12_write_26 rfl (lv_at hl 0 rfl) ?_
            have jnJ_7 : ∀ (bb : Nat) (jv_9 : (Nat × SV)) (H : Heap) (locs : List Loc) (ls : Array Slot), lv_has ls 3 [(2, .int x_4), (0, .ref ((Q 0) 0)), (1, .int a1)] → va_P D vwCl (kMain Q vmn ++ kHouse G (Q 1) vho ++ kSB G (Q 9 0) bb jv_9) H → va_D A (kMain Q vmn ++ kHouse G (Q 1) vho ++ kSB G (Q 9 0) bb jv_9) → va_S A s.heap H locs → f_X12_write_J40 a1 x_4 vmn vho selfL_6 jv_9 = some (r, vsb') → W p l e rm_X12_write s m args below meth c H locs ((1 + 4 * (8 - (n + 1))) + 1) ((80 + 320 * (8 - (n + 1))) + 80) Q0 (F0 m 40 ls []) := by
              intro bb jv_9 H locs ls hl hP hD hS hf
              unfold f_X12_write_J40 at hf
              refine lv_aload_n hx hb dX12_write_40 rfl (lv_at hl 1 rfl) ?_
              refine lv_iload_n hx hb dX12_write_41 rfl (lv_at hl 2 rfl) ?_
              refine lv_iconst (v := 4) hx hb dX12_write_42 (by decide) ?_
              refine lv_imul hx hb dX12_write_43 ?_
              refine lv_iload_n hx hb dX12_write_44 rfl (lv_at hl 0 rfl) ?_
              refine lv_iadd hx hb dX12_write_45 ?_
              obtain ⟨w_10, hc, hf⟩ := bd1_of hf
              refine k_VE (As := [.int ((a1 * 4) + x_4)]) (rest := []) (ws1 := fun bb => (kMain Q vmn ++ kHouse G (Q 1) vho ++ kSB G (Q 9 0) bb w_10)) ⟨hx, hb, hml, hown, hts⟩ (c_X12_writeBalcony l D G X Q bb ((a1 * 4) + x_4) vmn vho jv_9 _ hc  _) (cwV 1 hts gX12_write_X12_writeBalcony rfl rfl rfl (by decide +kernel) ⟨Nat.le_of_ble_eq_true rfl, Nat.le_of_ble_eq_true rfl⟩) hl.1 (Nat.le_of_ble_eq_true rfl) dX12_write_46 ⟨by show _ ≤ 33; omega, by show _ ≤ 2640; omega⟩ rfl (kW_bl X) (kW_pass hJ hS (va_free (wc := (kMain Q vmn ++ kHouse G (Q 1) vho ++ kSB G (Q 9 0) bb jv_9)) hD hS hA [0, 1, 2, 3, 4, 5, 6, 7, 8, 9, 10, 11, 12, 13, 14, 15, 16, 17] rfl)) hN hK hP hD hS hA 0 10 rfl rfl rfl [0, 1, 2, 3, 4, 5, 6, 7, 8, 9, 10, 11, 12, 13, 14, 15, 16, 17] [] [0, 1, 2, 3, 4, 5, 6, 7, 8, 9, 10, 11, 12, 13, 14, 15, 16, 17] [0, 1, 2, 3] rfl rfl rfl ⟨by decide, by decide, by decide, by decide⟩ (fun _ => rfl) (fun bb H locs hP hD hS => ?_)
              refine W.widen (k := ((1 + 4 * (8 - (n + 1))) + 4)) (n := ((80 + 320 * (8 - (n + 1))) + 320)) (by omega) (by omega) ?_
              refine lv_iinc (v := (x_4 + 1)) (lv' := [(2, .int (x_4 + 1)), (0, .ref ((Q 0) 0)), (1, .int a1)]) hx hb dX12_write_49 hl (k := 0) rfl rfl (by decide) rfl (fun ls hl => ?_)
              refine lv_goto (tgt := 21) hx hb dX12_write_52 (by decide) ?_
              refine W.widen (k := (1 + 4 * (8 - n))) (n := (80 + 320 * (8 - n))) (by omega) (by omega) ?_
              exact ihL_6 (by omega) bb (x_4 + 1) w_10 _ _ _ (lv_sub hl [0, 1, 2] rfl) hP hD hS hf
            refine lv_if_le (tgt := 40) hx hb dX12_write_27 (by decide) (fun cc => ?_) (fun cc => ?_)
            · replace hf := ifT cc hf
              refine W.widen (k := ((1 + 4 * (8 - (n + 1))) + 1)) (n := ((80 + 320 * (8 - (n + 1))) + 80)) (by omega) (by omega) ?_
              exact jnJ_7 bb u_5 _ _ _ (lv_sub hl [0, 1, 2] rfl) hP hD hS hf
            · replace hf := ifF cc hf
              refine lv_aload_n hx hb dX12_write_30 rfl (lv_at hl 1 rfl) ?_
              refine va_get (D := D) (ci := 10) (v := .ref (Q 9 0)) (C := RX12) (T := TX12) (N := 11) hx hb hts hi10 hown hK hP 0 rfl rfl 9 (by decide) hw1 (fun _ h9 => h9) rfl dX12_write_31 ?_
              refine lv_bipush (v := 32) hx hb dX12_write_34 (by decide +kernel) ?_
              obtain ⟨w_8, hc, hf⟩ := bd1_of hf
              refine k_VE (As := [.int 32]) (rest := []) (ws1 := fun bb => (kMain Q vmn ++ kHouse G (Q 1) vho ++ kSB G (Q 9 0) bb w_8)) ⟨hx, hb, hml, hown, hts⟩ (c_J4_append_cf468 l D G X (Q 9 0) bb 32 u_5 _ hc  _) (cwV 1 hts gX12_write_J4_append_cf468 rfl rfl rfl (by decide +kernel) ⟨Nat.le_of_ble_eq_true rfl, Nat.le_of_ble_eq_true rfl⟩) hl.1 (Nat.le_of_ble_eq_true rfl) dX12_write_36 ⟨by show _ ≤ 33; omega, by show _ ≤ 2640; omega⟩ rfl (kW_bl X) (kW_pass hJ hS (va_free (wc := (kSB G (Q 9 0) bb u_5)) hD hS hA [16, 17] rfl)) hN hK hP hD hS hA 16 0 rfl rfl rfl [16, 17] [0, 1, 2, 3, 4, 5, 6, 7, 8, 9, 10, 11, 12, 13, 14, 15] [0, 1, 2, 3, 4, 5, 6, 7, 8, 9, 10, 11, 12, 13, 14, 15, 16, 17] [0, 1, 2, 3] rfl rfl rfl ⟨by decide, by decide, by decide, by decide⟩ (fun _ => rfl) (fun bb H locs hP hD hS => ?_)
              refine W.widen (k := ((1 + 4 * (8 - (n + 1))) + 1)) (n := ((80 + 320 * (8 - (n + 1))) + 80)) (by omega) (by omega) ?_
              refine lv_pop hx hb dX12_write_39 rfl ?_
              refine W.widen (k := ((1 + 4 * (8 - (n + 1))) + 1)) (n := ((80 + 320 * (8 - (n + 1))) + 80)) (by omega) (by omega) ?_
              exact jnJ_7 bb w_8 _ _ _ (lv_sub hl [0, 1, 2] rfl) hP hD hS hf
      exact loL_6 8 (Nat.le_refl 8) bb 0 w_1 _ _ _ hl hP hD hS hf
    · replace hf := ifF cc hf
      refine lv_iconst (v := (-1)) hx hb dX12_write_9 (by decide) ?_
      obtain ⟨rfl, rfl⟩ := re2 hf
      refine W.widen (k := 33) (n := 2640) (by omega) (by omega) ?_
      exact hEi bb rfl rfl hP hD hS dX12_write_10
def f_X12_writeLines_K10 (y_19 : Int32) (z_20 : (Nat × SV)) : Option (Int32 × (Nat × SV)) :=
  bd1 (f_J4_length_8abf5 z_20) fun r_21 =>
  some (r_21, z_20)
def f_X12_writeLines_J38 (x_8 : Int32) (vho : SV) (selfL_10 : (Int32 → (Nat × SV) → Option (Int32 × (Nat × SV)))) (jv_13 : (Nat × SV)) : Option (Int32 × (Nat × SV)) :=
  ckI x_8 6 <|
  bd1 (f_J4_append_bf812 (vho.2 2 x_8.toNatClampNeg) jv_13) fun w_14 =>
  bd1 (f_J4_append_cf468 45 w_14) fun w_15 =>
  ckI x_8 6 <|
  bd1 (f_J4_append_bf812 (vho.2 3 x_8.toNatClampNeg) w_15) fun w_16 =>
  bd1 (f_J4_append_cf468 58 w_16) fun w_17 =>
  ckI x_8 6 <|
  bd1 (f_J4_append_bf812 (vho.2 4 x_8.toNatClampNeg) w_17) fun w_18 =>
  selfL_10 (x_8 + 1) w_18
def f_X12_writeLines_B10 (vho : SV) (selfL_10 : (Int32 → (Nat × SV) → Option (Int32 × (Nat × SV)))) (x_8 : Int32) (u_9 : (Nat × SV)) : Option (Int32 × (Nat × SV)) :=
  if (vho.1 4) ≤ x_8 then
    f_X12_writeLines_K10 x_8 u_9
  else
    if x_8 ≤ 0 then
      f_X12_writeLines_J38 x_8 vho selfL_10 u_9
    else
      bd1 (f_J4_append_cf468 32 u_9) fun w_12 =>
      f_X12_writeLines_J38 x_8 vho selfL_10 w_12
def f_X12_writeLines (vmn : SV) (vho : SV) (vsb : (Nat × SV)) : Option (Int32 × (Nat × SV)) :=
  bd1 (f_J4_setLength_d00df 0 vsb) fun w_1 =>
  lz2 (f_X12_writeLines_B10 vho) 8 0 w_1
abbrev rm_X12_writeLines : Room := { frames := 6, cells := 49, slots := 3920, locals := 128 }
set_option maxHeartbeats 4000000 in
set_option maxRecDepth 100000 in
theorem c_X12_writeLines (l : Launch) (D : va_G) (G : Nat → ClassId) (X : Nat → Nat → Nat) (Q : Nat → Nat → Nat) (bb : Nat) (vmn : SV) (vho : SV) (vsb : (Nat × SV)) (r : Int32) (vsb' : (Nat × SV)) (hf : f_X12_writeLines vmn vho vsb = some (r, vsb')) (sz : Nat) : mCE l yX12_writeLines wsX12_writeLines rm_X12_writeLines D (tyG G) (kW X) [.ref ((Q 0) 0)] (kMain Q vmn ++ kHouse G (Q 1) vho ++ kSB G (Q 9 0) bb vsb) (fun bb => (kMain Q vmn ++ kHouse G (Q 1) vho ++ kSB G (Q 9 0) bb vsb')) sz (fun _ => (some (.int r))) 49 3920 := by
  refine mCE_of (cc := cX12_writeLines) (maxL := 2) (ret := (some .int)) (by decide) rfl (Nat.le_of_ble_eq_true rfl) ?_
  intro p e s m args below meth c Q0 hx hb hml hts hown hN hK A hD hA hEr hEv hEi hP hS hJ ls hl
  have hl : lv_has ls 2 [(0, .ref ((Q 0) 0))] := hl
  unfold f_X12_writeLines at hf
  obtain ⟨⟨⟨hX1, hX2, hX3, hX4, hX5, hX6, hX7, hX8, hX9, hX10, hX11, hX12⟩, hX13⟩, hX14, hX15, hX16, hX17⟩ := id hJ
  have hi10 : ∀ w ∈ u_ws RX12 TX12 11, w ∈ wsX12_writeLines := by decide +kernel
  have hi4 : ∀ w ∈ u_ws RX6 TX6 10, w ∈ wsX12_writeLines := by decide +kernel
  have hi5 : ∀ w ∈ u_ws RX7 TX7 5, w ∈ wsX12_writeLines := by decide +kernel
  have hw1 := hts (.fieldLink RX12 64 "BalconyCensus" "writtenLine" "Ljava/lang/StringBuilder;") (by decide +kernel)
  have hw2 := hts (.fieldLink RX12 12 "BalconyCensus" "house" "LBalconyCensus$House;") (by decide +kernel)
  have hw3 := hts (.fieldLink RX12 184 "BalconyCensus$House" "lines" "LBalconyCensus$Lines;") (by decide +kernel)
  have hw4 := hts (.fieldLink RX12 226 "BalconyCensus$Lines" "count" "I") (by decide +kernel)
  have hw5 := hts (.fieldLink RX12 227 "BalconyCensus$Lines" "lower" "[I") (by decide +kernel)
  have hw6 := hts (.fieldLink RX12 230 "BalconyCensus$Lines" "higher" "[I") (by decide +kernel)
  have hw7 := hts (.fieldLink RX12 233 "BalconyCensus$Lines" "daysLeft" "[I") (by decide +kernel)
  refine lv_aload_n hx hb dX12_writeLines_0 rfl (lv_at hl 0 rfl) ?_
  refine va_get (D := D) (ci := 10) (v := .ref (Q 9 0)) (C := RX12) (T := TX12) (N := 11) hx hb hts hi10 hown hK hP 0 rfl rfl 9 (by decide) hw1 (fun _ h9 => h9) rfl dX12_writeLines_1 ?_
  refine lv_iconst (v := 0) hx hb dX12_writeLines_4 (by decide) ?_
  obtain ⟨w_1, hc, hf⟩ := bd1_of hf
  refine k_VE (As := [.int 0]) (rest := []) (ws1 := fun bb => (kMain Q vmn ++ kHouse G (Q 1) vho ++ kSB G (Q 9 0) bb w_1)) ⟨hx, hb, hml, hown, hts⟩ (c_J4_setLength_d00df l D G X (Q 9 0) bb 0 vsb _ hc  _) (cwV 1 hts gX12_writeLines_J4_setLength_d00df rfl rfl rfl (by decide +kernel) ⟨Nat.le_of_ble_eq_true rfl, Nat.le_of_ble_eq_true rfl⟩) hl.1 (Nat.le_of_ble_eq_true rfl) dX12_writeLines_5 ⟨by show _ ≤ 49; omega, by show _ ≤ 3920; omega⟩ rfl (kW_bl X) (kW_pass hJ hS (va_free (wc := (kSB G (Q 9 0) bb vsb)) hD hS hA [16, 17] rfl)) hN hK hP hD hS hA 16 0 rfl rfl rfl [16, 17] [0, 1, 2, 3, 4, 5, 6, 7, 8, 9, 10, 11, 12, 13, 14, 15] [0, 1, 2, 3, 4, 5, 6, 7, 8, 9, 10, 11, 12, 13, 14, 15, 16, 17] [0, 1, 2, 3] rfl rfl rfl ⟨by decide, by decide, by decide, by decide⟩ (fun _ => rfl) (fun bb H locs hP hD hS => ?_)
  refine W.widen (k := 1) (n := 80) (by omega) (by omega) ?_
  refine lv_iconst (v := 0) hx hb dX12_writeLines_8 (by decide) ?_
  refine lv_istore_n (lv' := [(1, .int 0), (0, .ref ((Q 0) 0))]) hx hb dX12_writeLines_9 rfl hl (by decide) rfl (fun ls hl => ?_)
  have exL_10 : ∀ (bb : Nat) (y_19 : Int32) (z_20 : (Nat × SV)) (H : Heap) (locs : List Loc) (ls : Array Slot), lv_has ls 2 [(1, .int y_19), (0, .ref ((Q 0) 0))] → va_P D vwCl (kMain Q vmn ++ kHouse G (Q 1) vho ++ kSB G (Q 9 0) bb z_20) H → va_D A (kMain Q vmn ++ kHouse G (Q 1) vho ++ kSB G (Q 9 0) bb z_20) → va_S A s.heap H locs → f_X12_writeLines_K10 y_19 z_20 = some (r, vsb') → W p l e rm_X12_writeLines s m args below meth c H locs 49 3920 Q0 (F0 m 109 ls []) := by
    intro bb y_19 z_20 H locs ls hl hP hD hS hf
    unfold f_X12_writeLines_K10 at hf
    refine lv_aload_n hx hb dX12_writeLines_109 rfl (lv_at hl 1 rfl) ?_
    refine va_get (D := D) (ci := 10) (v := .ref (Q 9 0)) (C := RX12) (T := TX12) (N := 11) hx hb hts hi10 hown hK hP 0 rfl rfl 9 (by decide) hw1 (fun _ h9 => h9) rfl dX12_writeLines_110 ?_
    obtain ⟨r_21, hc, hf⟩ := bd1_of hf
    refine k_V (As := []) (rest := []) (ws1 := (kMain Q vmn ++ kHouse G (Q 1) vho ++ kSB G (Q 9 0) bb z_20)) ⟨hx, hb, hml, hown, hts⟩ (c_J4_length_8abf5 l D G (Q 9 0) bb  z_20 _ hc  _) (cwV 0 hts gX12_writeLines_J4_length_8abf5 rfl rfl rfl (by decide +kernel) ⟨Nat.le_of_ble_eq_true rfl, Nat.le_of_ble_eq_true rfl⟩) hl.1 (Nat.le_of_ble_eq_true rfl) dX12_writeLines_113 ⟨by show _ ≤ 49; omega, by show _ ≤ 3920; omega⟩ rfl kT_bl (fun _ _ _ => trivial) hN hK hP hD hS hA 16 0 rfl rfl rfl [16, 17] [0, 1, 2, 3, 4, 5, 6, 7, 8, 9, 10, 11, 12, 13, 14, 15] [0, 1, 2, 3, 4, 5, 6, 7, 8, 9, 10, 11, 12, 13, 14, 15, 16, 17] [0, 1, 2, 3] rfl rfl rfl ⟨by decide, by decide, by decide, by decide⟩ rfl (fun H locs hP hD hS => ?_)
    obtain ⟨rfl, rfl⟩ := re2 hf
    refine W.widen (k := 49) (n := 3920) (by omega) (by omega) ?_
    exact hEi bb rfl rfl hP hD hS dX12_writeLines_116
  have loL_10 : ∀ (n : Nat) (_ : n ≤ 8) (bb : Nat) (x_8 : Int32) (u_9 : (Nat × SV)) (H : Heap) (locs : List Loc) (ls : Array Slot), lv_has ls 2 [(1, .int x_8), (0, .ref ((Q 0) 0))] → va_P D vwCl (kMain Q vmn ++ kHouse G (Q 1) vho ++ kSB G (Q 9 0) bb u_9) H → va_D A (kMain Q vmn ++ kHouse G (Q 1) vho ++ kSB G (Q 9 0) bb u_9) → va_S A s.heap H locs → lz2 (f_X12_writeLines_B10 vho) n x_8 u_9 = some (r, vsb') → W p l e rm_X12_writeLines s m args below meth c H locs (1 + 6 * (8 - n)) (80 + 480 * (8 - n)) Q0 (F0 m 10 ls []) := by
    intro n
    induction n with
    | zero => intro hn bb x_8 u_9 H locs ls hl hP hD hS hf; cases hf
    | succ n ihL_10 =>
      intro hn bb x_8 u_9 H locs ls hl hP hD hS hf
      replace hf := lz2_s hf
      generalize lz2 (f_X12_writeLines_B10 vho) n = selfL_10 at hf ihL_10
      unfold f_X12_writeLines_B10 at hf
      refine lv_iload_n hx hb dX12_writeLines_10 rfl (lv_at hl 0 rfl) ?_
      refine lv_aload_n hx hb dX12_writeLines_11 rfl (lv_at hl 1 rfl) ?_
      refine va_get (D := D) (ci := 10) (v := .ref (Q 1 0)) (C := RX12) (T := TX12) (N := 11) hx hb hts hi10 hown hK hP 0 rfl rfl 0 (by decide) hw2 (fun _ h9 => h9) rfl dX12_writeLines_12 ?_
      refine va_get (D := D) (ci := 4) (v := .ref ((Q 1) 3)) (C := RX6) (T := TX6) (N := 10) hx hb hts hi4 hown hK hP 1 rfl rfl 2 (by decide) hw3 (fun _ h9 => h9) rfl dX12_writeLines_15 ?_
      refine va_get (D := D) (ci := 5) (v := .int (vho.1 4)) (C := RX7) (T := TX7) (N := 5) hx hb hts hi5 hown hK hP 4 rfl rfl 3 (by decide) hw4 (fun _ h9 => h9) rfl dX12_writeLines_18 ?_
      refine lv_icmp_ge (tgt := 109) hx hb dX12_writeLines_21 (by decide) (fun cc => ?_) (fun cc => ?_)
      · replace hf := ifT cc hf
        refine W.widen (k := 49) (n := 3920) (by omega) (by omega) ?_
        exact exL_10 bb x_8 u_9 _ _ _ (lv_sub hl [0, 1] rfl) hP hD hS hf
      · replace hf := ifF cc hf
        refine lv_iload_n hx hb dX12_writeLines_24 rfl (lv_at hl 0 rfl) ?_
        have jnJ_11 : ∀ (bb : Nat) (jv_13 : (Nat × SV)) (H : Heap) (locs : List Loc) (ls : Array Slot), lv_has ls 2 [(1, .int x_8), (0, .ref ((Q 0) 0))] → va_P D vwCl (kMain Q vmn ++ kHouse G (Q 1) vho ++ kSB G (Q 9 0) bb jv_13) H → va_D A (kMain Q vmn ++ kHouse G (Q 1) vho ++ kSB G (Q 9 0) bb jv_13) → va_S A s.heap H locs → f_X12_writeLines_J38 x_8 vho selfL_10 jv_13 = some (r, vsb') → W p l e rm_X12_writeLines s m args below meth c H locs ((1 + 6 * (8 - (n + 1))) + 1) ((80 + 480 * (8 - (n + 1))) + 80) Q0 (F0 m 38 ls []) := by
          intro bb jv_13 H locs ls hl hP hD hS hf
          unfold f_X12_writeLines_J38 at hf
          refine lv_aload_n hx hb dX12_writeLines_38 rfl (lv_at hl 1 rfl) ?_
          refine va_get (D := D) (ci := 10) (v := .ref (Q 9 0)) (C := RX12) (T := TX12) (N := 11) hx hb hts hi10 hown hK hP 0 rfl rfl 9 (by decide) hw1 (fun _ h9 => h9) rfl dX12_writeLines_39 ?_
          refine lv_aload_n hx hb dX12_writeLines_42 rfl (lv_at hl 1 rfl) ?_
          refine va_get (D := D) (ci := 10) (v := .ref (Q 1 0)) (C := RX12) (T := TX12) (N := 11) hx hb hts hi10 hown hK hP 0 rfl rfl 0 (by decide) hw2 (fun _ h9 => h9) rfl dX12_writeLines_43 ?_
          refine va_get (D := D) (ci := 4) (v := .ref ((Q 1) 3)) (C := RX6) (T := TX6) (N := 10) hx hb hts hi4 hown hK hP 1 rfl rfl 2 (by decide) hw3 (fun _ h9 => h9) rfl dX12_writeLines_46 ?_
          refine va_get (D := D) (ci := 5) (v := .ref ((Q 1) 4)) (C := RX7) (T := TX7) (N := 5) hx hb hts hi5 hown hK hP 4 rfl rfl 0 (by decide) hw5 (fun _ h9 => h9) rfl dX12_writeLines_49 ?_
          refine lv_iload_n hx hb dX12_writeLines_52 rfl (lv_at hl 0 rfl) ?_
          obtain ⟨hin, hf⟩ := ckI_of hf
          refine va_iald (D := D) hx hb hK hP 5 0 rfl rfl hin dX12_writeLines_53 ?_
          obtain ⟨w_14, hc, hf⟩ := bd1_of hf
          refine k_VE (As := [.int (vho.2 2 x_8.toNatClampNeg)]) (rest := []) (ws1 := fun bb => (kMain Q vmn ++ kHouse G (Q 1) vho ++ kSB G (Q 9 0) bb w_14)) ⟨hx, hb, hml, hown, hts⟩ (c_J4_append_bf812 l D G X (Q 9 0) bb (vho.2 2 x_8.toNatClampNeg) jv_13 _ hc  _) (cwV 1 hts gX12_writeLines_J4_append_bf812 rfl rfl rfl (by decide +kernel) ⟨Nat.le_of_ble_eq_true rfl, Nat.le_of_ble_eq_true rfl⟩) hl.1 (Nat.le_of_ble_eq_true rfl) dX12_writeLines_54 ⟨by show _ ≤ 49; omega, by show _ ≤ 3920; omega⟩ rfl (kW_bl X) (kW_pass hJ hS (va_free (wc := (kSB G (Q 9 0) bb jv_13)) hD hS hA [16, 17] rfl)) hN hK hP hD hS hA 16 0 rfl rfl rfl [16, 17] [0, 1, 2, 3, 4, 5, 6, 7, 8, 9, 10, 11, 12, 13, 14, 15] [0, 1, 2, 3, 4, 5, 6, 7, 8, 9, 10, 11, 12, 13, 14, 15, 16, 17] [0, 1, 2, 3] rfl rfl rfl ⟨by decide, by decide, by decide, by decide⟩ (fun _ => rfl) (fun bb H locs hP hD hS => ?_)
          refine W.widen (k := ((1 + 6 * (8 - (n + 1))) + 2)) (n := ((80 + 480 * (8 - (n + 1))) + 160)) (by omega) (by omega) ?_
          refine lv_bipush (v := 45) hx hb dX12_writeLines_57 (by decide +kernel) ?_
          obtain ⟨w_15, hc, hf⟩ := bd1_of hf
          refine k_VE (As := [.int 45]) (rest := []) (ws1 := fun bb => (kMain Q vmn ++ kHouse G (Q 1) vho ++ kSB G (Q 9 0) bb w_15)) ⟨hx, hb, hml, hown, hts⟩ (c_J4_append_cf468 l D G X (Q 9 0) bb 45 w_14 _ hc  _) (cwV 1 hts gX12_writeLines_J4_append_cf468 rfl rfl rfl (by decide +kernel) ⟨Nat.le_of_ble_eq_true rfl, Nat.le_of_ble_eq_true rfl⟩) hl.1 (Nat.le_of_ble_eq_true rfl) dX12_writeLines_59 ⟨by show _ ≤ 49; omega, by show _ ≤ 3920; omega⟩ rfl (kW_bl X) (kW_pass hJ hS (va_free (wc := (kSB G (Q 9 0) bb w_14)) hD hS hA [16, 17] rfl)) hN hK hP hD hS hA 16 0 rfl rfl rfl [16, 17] [0, 1, 2, 3, 4, 5, 6, 7, 8, 9, 10, 11, 12, 13, 14, 15] [0, 1, 2, 3, 4, 5, 6, 7, 8, 9, 10, 11, 12, 13, 14, 15, 16, 17] [0, 1, 2, 3] rfl rfl rfl ⟨by decide, by decide, by decide, by decide⟩ (fun _ => rfl) (fun bb H locs hP hD hS => ?_)
          refine W.widen (k := ((1 + 6 * (8 - (n + 1))) + 3)) (n := ((80 + 480 * (8 - (n + 1))) + 240)) (by omega) (by omega) ?_
          refine lv_aload_n hx hb dX12_writeLines_62 rfl (lv_at hl 1 rfl) ?_
          refine va_get (D := D) (ci := 10) (v := .ref (Q 1 0)) (C := RX12) (T := TX12) (N := 11) hx hb hts hi10 hown hK hP 0 rfl rfl 0 (by decide) hw2 (fun _ h9 => h9) rfl dX12_writeLines_63 ?_
          refine va_get (D := D) (ci := 4) (v := .ref ((Q 1) 3)) (C := RX6) (T := TX6) (N := 10) hx hb hts hi4 hown hK hP 1 rfl rfl 2 (by decide) hw3 (fun _ h9 => h9) rfl dX12_writeLines_66 ?_
          refine va_get (D := D) (ci := 5) (v := .ref ((Q 1) 5)) (C := RX7) (T := TX7) (N := 5) hx hb hts hi5 hown hK hP 4 rfl rfl 1 (by decide) hw6 (fun _ h9 => h9) rfl dX12_writeLines_69 ?_
          refine lv_iload_n hx hb dX12_writeLines_72 rfl (lv_at hl 0 rfl) ?_
          obtain ⟨hin, hf⟩ := ckI_of hf
          refine va_iald (D := D) hx hb hK hP 6 0 rfl rfl hin dX12_writeLines_73 ?_
          obtain ⟨w_16, hc, hf⟩ := bd1_of hf
          refine k_VE (As := [.int (vho.2 3 x_8.toNatClampNeg)]) (rest := []) (ws1 := fun bb => (kMain Q vmn ++ kHouse G (Q 1) vho ++ kSB G (Q 9 0) bb w_16)) ⟨hx, hb, hml, hown, hts⟩ (c_J4_append_bf812 l D G X (Q 9 0) bb (vho.2 3 x_8.toNatClampNeg) w_15 _ hc  _) (cwV 1 hts gX12_writeLines_J4_append_bf812 rfl rfl rfl (by decide +kernel) ⟨Nat.le_of_ble_eq_true rfl, Nat.le_of_ble_eq_true rfl⟩) hl.1 (Nat.le_of_ble_eq_true rfl) dX12_writeLines_74 ⟨by show _ ≤ 49; omega, by show _ ≤ 3920; omega⟩ rfl (kW_bl X) (kW_pass hJ hS (va_free (wc := (kSB G (Q 9 0) bb w_15)) hD hS hA [16, 17] rfl)) hN hK hP hD hS hA 16 0 rfl rfl rfl [16, 17] [0, 1, 2, 3, 4, 5, 6, 7, 8, 9, 10, 11, 12, 13, 14, 15] [0, 1, 2, 3, 4, 5, 6, 7, 8, 9, 10, 11, 12, 13, 14, 15, 16, 17] [0, 1, 2, 3] rfl rfl rfl ⟨by decide, by decide, by decide, by decide⟩ (fun _ => rfl) (fun bb H locs hP hD hS => ?_)
          refine W.widen (k := ((1 + 6 * (8 - (n + 1))) + 4)) (n := ((80 + 480 * (8 - (n + 1))) + 320)) (by omega) (by omega) ?_
          refine lv_pop hx hb dX12_writeLines_77 rfl ?_
          refine lv_aload_n hx hb dX12_writeLines_78 rfl (lv_at hl 1 rfl) ?_
          refine va_get (D := D) (ci := 10) (v := .ref (Q 9 0)) (C := RX12) (T := TX12) (N := 11) hx hb hts hi10 hown hK hP 0 rfl rfl 9 (by decide) hw1 (fun _ h9 => h9) rfl dX12_writeLines_79 ?_
          refine lv_bipush (v := 58) hx hb dX12_writeLines_82 (by decide +kernel) ?_
          obtain ⟨w_17, hc, hf⟩ := bd1_of hf
          refine k_VE (As := [.int 58]) (rest := []) (ws1 := fun bb => (kMain Q vmn ++ kHouse G (Q 1) vho ++ kSB G (Q 9 0) bb w_17)) ⟨hx, hb, hml, hown, hts⟩ (c_J4_append_cf468 l D G X (Q 9 0) bb 58 w_16 _ hc  _) (cwV 1 hts gX12_writeLines_J4_append_cf468 rfl rfl rfl (by decide +kernel) ⟨Nat.le_of_ble_eq_true rfl, Nat.le_of_ble_eq_true rfl⟩) hl.1 (Nat.le_of_ble_eq_true rfl) dX12_writeLines_84 ⟨by show _ ≤ 49; omega, by show _ ≤ 3920; omega⟩ rfl (kW_bl X) (kW_pass hJ hS (va_free (wc := (kSB G (Q 9 0) bb w_16)) hD hS hA [16, 17] rfl)) hN hK hP hD hS hA 16 0 rfl rfl rfl [16, 17] [0, 1, 2, 3, 4, 5, 6, 7, 8, 9, 10, 11, 12, 13, 14, 15] [0, 1, 2, 3, 4, 5, 6, 7, 8, 9, 10, 11, 12, 13, 14, 15, 16, 17] [0, 1, 2, 3] rfl rfl rfl ⟨by decide, by decide, by decide, by decide⟩ (fun _ => rfl) (fun bb H locs hP hD hS => ?_)
          refine W.widen (k := ((1 + 6 * (8 - (n + 1))) + 5)) (n := ((80 + 480 * (8 - (n + 1))) + 400)) (by omega) (by omega) ?_
          refine lv_aload_n hx hb dX12_writeLines_87 rfl (lv_at hl 1 rfl) ?_
          refine va_get (D := D) (ci := 10) (v := .ref (Q 1 0)) (C := RX12) (T := TX12) (N := 11) hx hb hts hi10 hown hK hP 0 rfl rfl 0 (by decide) hw2 (fun _ h9 => h9) rfl dX12_writeLines_88 ?_
          refine va_get (D := D) (ci := 4) (v := .ref ((Q 1) 3)) (C := RX6) (T := TX6) (N := 10) hx hb hts hi4 hown hK hP 1 rfl rfl 2 (by decide) hw3 (fun _ h9 => h9) rfl dX12_writeLines_91 ?_
          refine va_get (D := D) (ci := 5) (v := .ref ((Q 1) 6)) (C := RX7) (T := TX7) (N := 5) hx hb hts hi5 hown hK hP 4 rfl rfl 2 (by decide) hw7 (fun _ h9 => h9) rfl dX12_writeLines_94 ?_
          refine lv_iload_n hx hb dX12_writeLines_97 rfl (lv_at hl 0 rfl) ?_
          obtain ⟨hin, hf⟩ := ckI_of hf
          refine va_iald (D := D) hx hb hK hP 7 0 rfl rfl hin dX12_writeLines_98 ?_
          obtain ⟨w_18, hc, hf⟩ := bd1_of hf
          refine k_VE (As := [.int (vho.2 4 x_8.toNatClampNeg)]) (rest := []) (ws1 := fun bb => (kMain Q vmn ++ kHouse G (Q 1) vho ++ kSB G (Q 9 0) bb w_18)) ⟨hx, hb, hml, hown, hts⟩ (c_J4_append_bf812 l D G X (Q 9 0) bb (vho.2 4 x_8.toNatClampNeg) w_17 _ hc  _) (cwV 1 hts gX12_writeLines_J4_append_bf812 rfl rfl rfl (by decide +kernel) ⟨Nat.le_of_ble_eq_true rfl, Nat.le_of_ble_eq_true rfl⟩) hl.1 (Nat.le_of_ble_eq_true rfl) dX12_writeLines_99 ⟨by show _ ≤ 49; omega, by show _ ≤ 3920; omega⟩ rfl (kW_bl X) (kW_pass hJ hS (va_free (wc := (kSB G (Q 9 0) bb w_17)) hD hS hA [16, 17] rfl)) hN hK hP hD hS hA 16 0 rfl rfl rfl [16, 17] [0, 1, 2, 3, 4, 5, 6, 7, 8, 9, 10, 11, 12, 13, 14, 15] [0, 1, 2, 3, 4, 5, 6, 7, 8, 9, 10, 11, 12, 13, 14, 15, 16, 17] [0, 1, 2, 3] rfl rfl rfl ⟨by decide, by decide, by decide, by decide⟩ (fun _ => rfl) (fun bb H locs hP hD hS => ?_)
          refine W.widen (k := ((1 + 6 * (8 - (n + 1))) + 6)) (n := ((80 + 480 * (8 - (n + 1))) + 480)) (by omega) (by omega) ?_
          refine lv_pop hx hb dX12_writeLines_102 rfl ?_
          refine lv_iinc (v := (x_8 + 1)) (lv' := [(1, .int (x_8 + 1)), (0, .ref ((Q 0) 0))]) hx hb dX12_writeLines_103 hl (k := 0) rfl rfl (by decide) rfl (fun ls hl => ?_)
          refine lv_goto (tgt := 10) hx hb dX12_writeLines_106 (by decide) ?_
          refine W.widen (k := (1 + 6 * (8 - n))) (n := (80 + 480 * (8 - n))) (by omega) (by omega) ?_
          exact ihL_10 (by omega) bb (x_8 + 1) w_18 _ _ _ (lv_sub hl [0, 1] rfl) hP hD hS hf
        refine lv_if_le (tgt := 38) hx hb dX12_writeLines_25 (by decide) (fun cc => ?_) (fun cc => ?_)
        · replace hf := ifT cc hf
          refine W.widen (k := ((1 + 6 * (8 - (n + 1))) + 1)) (n := ((80 + 480 * (8 - (n + 1))) + 80)) (by omega) (by omega) ?_
          exact jnJ_11 bb u_9 _ _ _ (lv_sub hl [0, 1] rfl) hP hD hS hf
        · replace hf := ifF cc hf
          refine lv_aload_n hx hb dX12_writeLines_28 rfl (lv_at hl 1 rfl) ?_
          refine va_get (D := D) (ci := 10) (v := .ref (Q 9 0)) (C := RX12) (T := TX12) (N := 11) hx hb hts hi10 hown hK hP 0 rfl rfl 9 (by decide) hw1 (fun _ h9 => h9) rfl dX12_writeLines_29 ?_
          refine lv_bipush (v := 32) hx hb dX12_writeLines_32 (by decide +kernel) ?_
          obtain ⟨w_12, hc, hf⟩ := bd1_of hf
          refine k_VE (As := [.int 32]) (rest := []) (ws1 := fun bb => (kMain Q vmn ++ kHouse G (Q 1) vho ++ kSB G (Q 9 0) bb w_12)) ⟨hx, hb, hml, hown, hts⟩ (c_J4_append_cf468 l D G X (Q 9 0) bb 32 u_9 _ hc  _) (cwV 1 hts gX12_writeLines_J4_append_cf468 rfl rfl rfl (by decide +kernel) ⟨Nat.le_of_ble_eq_true rfl, Nat.le_of_ble_eq_true rfl⟩) hl.1 (Nat.le_of_ble_eq_true rfl) dX12_writeLines_34 ⟨by show _ ≤ 49; omega, by show _ ≤ 3920; omega⟩ rfl (kW_bl X) (kW_pass hJ hS (va_free (wc := (kSB G (Q 9 0) bb u_9)) hD hS hA [16, 17] rfl)) hN hK hP hD hS hA 16 0 rfl rfl rfl [16, 17] [0, 1, 2, 3, 4, 5, 6, 7, 8, 9, 10, 11, 12, 13, 14, 15] [0, 1, 2, 3, 4, 5, 6, 7, 8, 9, 10, 11, 12, 13, 14, 15, 16, 17] [0, 1, 2, 3] rfl rfl rfl ⟨by decide, by decide, by decide, by decide⟩ (fun _ => rfl) (fun bb H locs hP hD hS => ?_)
          refine W.widen (k := ((1 + 6 * (8 - (n + 1))) + 1)) (n := ((80 + 480 * (8 - (n + 1))) + 80)) (by omega) (by omega) ?_
          refine lv_pop hx hb dX12_writeLines_37 rfl ?_
          refine W.widen (k := ((1 + 6 * (8 - (n + 1))) + 1)) (n := ((80 + 480 * (8 - (n + 1))) + 80)) (by omega) (by omega) ?_
          exact jnJ_11 bb w_12 _ _ _ (lv_sub hl [0, 1] rfl) hP hD hS hf
  exact loL_10 8 (Nat.le_refl 8) bb 0 w_1 _ _ _ hl hP hD hS hf
