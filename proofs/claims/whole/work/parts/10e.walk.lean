/-! Walks, laid by wip/whole/gen.py: for each method f_ (what it does to its world) and c_ (its contract). -/
def f_X6_putPlants (a1 : Int32) (a2 : Int32) (v0 : SV) (v1 : SV) : Option (Int32 × SV × SV) :=
  bd1 (f_X12_isBalcony a1) fun r_1 =>
  if r_1 = 0 then
    some ((-1), v0, v1)
  else
    if a2 < 1 then
      some ((-2), v0, v1)
    else
      if a2 ≤ 9 then
        ckI a1 12 <|
        if ((v0.2 0 a1.toNatClampNeg) + a2) ≤ 9 then
          ckI a1 12 <|
          ckI a1 12 <|
          nm (pA v0 0 a1 ((v0.2 0 a1.toNatClampNeg) + a2)) fun v_2 =>
          nm (pF v_2 2 ((v_2.1 2) + a2)) fun v_3 =>
          ckI a1 12 <|
          some ((v_3.2 0 a1.toNatClampNeg), v_3, v1)
        else
          ckI a1 12 <|
          bd2 (f_X11_note 4 (v0.2 0 a1.toNatClampNeg) v1) fun r_4 w_5 =>
          some (r_4, v0, w_5)
      else
        some ((-2), v0, v1)
abbrev rm_X6_putPlants : Room := { frames := 1, cells := 0, slots := 0, locals := 22 }
set_option maxHeartbeats 4000000 in
set_option maxRecDepth 100000 in
theorem c_X6_putPlants (l : Launch) (D : va_G) (G : Nat → ClassId) (q0 : Nat → Nat) (q1 : Nat → Nat) (a1 : Int32) (a2 : Int32) (v0 : SV) (v1 : SV) (r : Int32) (v0' : SV) (v1' : SV) (hf : f_X6_putPlants a1 a2 v0 v1 = some (r, v0', v1')) (sz : Nat) : mC l yX6_putPlants wsX6_putPlants rm_X6_putPlants D (tyG G) kT [.ref (q0 0), .int a1, .int a2, .ref (q1 0)] (kHouse G q0 v0 ++ kRef G q1 v1) (kHouse G q0 v0' ++ kRef G q1 v1') sz (some (.int r)) 0 0 := by
  refine mC_ofI (cc := cX6_putPlants) (maxL := 4) (ret := (some .int)) (by decide) rfl rfl (Nat.le_of_ble_eq_true rfl) ?_
  intro p e s m args below meth c Q0 hx hb hml hts hown hN hK A hD hA hE hP hS hJ ls hl
  have hl : lv_has ls 4 [(0, .ref (q0 0)), (1, .int a1), (2, .int a2), (3, .ref (q1 0))] := hl
  unfold f_X6_putPlants at hf
  have hi4 : ∀ w ∈ u_ws RX6 TX6 10, w ∈ wsX6_putPlants := by decide +kernel
  have hw1 := hts (.static yX12_isBalcony) (by decide +kernel)
  have hw2 := hts (.initialized RX12) (by decide +kernel)
  have hw3 := hts (.fieldLink RX6 9 "BalconyCensus$House" "plants" "[I") (by decide +kernel)
  have hw4 := hts (.fieldLink RX6 60 "BalconyCensus$House" "plantsPut" "I") (by decide +kernel)
  refine lv_iload_n hx hb dX6_putPlants_0 rfl (lv_at hl 1 rfl) ?_
  obtain ⟨r_1, hc, hf⟩ := bd1_of hf
  refine k_SN (As := [.int a1]) (rest := []) (host := "BalconyCensus") (ws1 := (kHouse G q0 v0 ++ kRef G q1 v1)) ⟨hx, hb, hml, hown, hts⟩ (c_X12_isBalcony l D G  a1  _ hc  _) ⟨va_cnB 1 hts gX6_putPlants_X12_isBalcony_n82 rfl rfl rfl (hN (RX6, 82, yX12_isBalcony) (by decide +kernel)) hw2 (by decide +kernel) ⟨Nat.le_of_ble_eq_true rfl, Nat.le_of_ble_eq_true rfl⟩, hw1, trivial⟩ hl.1 (Nat.le_of_ble_eq_true rfl) dX6_putPlants_1 ⟨Nat.le_of_ble_eq_true rfl, Nat.le_of_ble_eq_true rfl⟩ rfl kT_bl (fun _ _ _ => trivial) hN hK hP hD hS hA [] [0, 1, 2, 3, 4, 5, 6, 7, 8, 9, 10, 11, 12, 13, 14, 15] [0, 1, 2, 3, 4, 5, 6, 7, 8, 9, 10, 11, 12, 13, 14, 15] [0, 1, 2, 3] rfl rfl rfl ⟨by decide, by decide, by decide, by decide⟩ rfl (fun H locs hP hD hS => ?_)
  refine lv_if_ne (tgt := 9) hx hb dX6_putPlants_4 (by decide) (fun cc => ?_) (fun cc => ?_)
  · replace hf := ifF cc hf
    refine lv_iload_n hx hb dX6_putPlants_9 rfl (lv_at hl 2 rfl) ?_
    refine lv_iconst (v := 1) hx hb dX6_putPlants_10 (by decide) ?_
    refine lv_icmp_lt (tgt := 20) hx hb dX6_putPlants_11 (by decide) (fun cc => ?_) (fun cc => ?_)
    · replace hf := ifT cc hf
      refine lv_bipush (v := (-2)) hx hb dX6_putPlants_20 (by decide +kernel) ?_
      obtain ⟨rfl, rfl, rfl⟩ := re3 hf
      exact hE hP hD hS dX6_putPlants_22
    · replace hf := ifF cc hf
      refine lv_iload_n hx hb dX6_putPlants_14 rfl (lv_at hl 2 rfl) ?_
      refine lv_bipush (v := 9) hx hb dX6_putPlants_15 (by decide +kernel) ?_
      refine lv_icmp_le (tgt := 23) hx hb dX6_putPlants_17 (by decide) (fun cc => ?_) (fun cc => ?_)
      · replace hf := ifT cc hf
        refine lv_aload_n hx hb dX6_putPlants_23 rfl (lv_at hl 0 rfl) ?_
        refine va_get (D := D) (ci := 4) (v := .ref (q0 1)) (C := RX6) (T := TX6) (N := 10) hx hb hts hi4 hown hK hP 0 rfl rfl 0 (by decide) hw3 (fun _ h9 => h9) rfl dX6_putPlants_24 ?_
        refine lv_iload_n hx hb dX6_putPlants_27 rfl (lv_at hl 1 rfl) ?_
        obtain ⟨hin, hf⟩ := ckI_of hf
        refine va_iald (D := D) hx hb hK hP 1 0 rfl rfl hin dX6_putPlants_28 ?_
        refine lv_iload_n hx hb dX6_putPlants_29 rfl (lv_at hl 2 rfl) ?_
        refine lv_iadd hx hb dX6_putPlants_30 ?_
        refine lv_bipush (v := 9) hx hb dX6_putPlants_31 (by decide +kernel) ?_
        refine lv_icmp_le (tgt := 48) hx hb dX6_putPlants_33 (by decide) (fun cc => ?_) (fun cc => ?_)
        · replace hf := ifT cc hf
          refine lv_aload_n hx hb dX6_putPlants_48 rfl (lv_at hl 0 rfl) ?_
          refine va_get (D := D) (ci := 4) (v := .ref (q0 1)) (C := RX6) (T := TX6) (N := 10) hx hb hts hi4 hown hK hP 0 rfl rfl 0 (by decide) hw3 (fun _ h9 => h9) rfl dX6_putPlants_49 ?_
          refine lv_iload_n hx hb dX6_putPlants_52 rfl (lv_at hl 1 rfl) ?_
          refine lv_dup2_11 hx hb dX6_putPlants_53 rfl rfl ?_
          obtain ⟨hin, hf⟩ := ckI_of hf
          refine va_iald (D := D) hx hb hK hP 1 0 rfl rfl hin dX6_putPlants_54 ?_
          refine lv_iload_n hx hb dX6_putPlants_55 rfl (lv_at hl 2 rfl) ?_
          refine lv_iadd hx hb dX6_putPlants_56 ?_
          obtain ⟨hin, hf⟩ := ckI_of hf
          obtain ⟨v_2, ev_2, hf⟩ := nm_of hf
          refine va_iast (D := D) hx hb hK hP hD hS 1 0 rfl rfl hin dX6_putPlants_57 (fun H locs hP hD hS => ?_)
          have hP : va_P D vwCl (kHouse G q0 v_2 ++ kRef G q1 v1) H := by rw [ev_2]; exact hP
          have hD : va_D A (kHouse G q0 v_2 ++ kRef G q1 v1) := by rw [ev_2]; exact hD
          refine lv_aload_n hx hb dX6_putPlants_58 rfl (lv_at hl 0 rfl) ?_
          refine lv_dup hx hb dX6_putPlants_59 rfl ?_
          refine va_get (D := D) (ci := 4) (v := .int (v_2.1 2)) (C := RX6) (T := TX6) (N := 10) hx hb hts hi4 hown hK hP 0 rfl rfl 8 (by decide) hw4 (fun _ h9 => h9) rfl dX6_putPlants_60 ?_
          refine lv_iload_n hx hb dX6_putPlants_63 rfl (lv_at hl 2 rfl) ?_
          refine lv_iadd hx hb dX6_putPlants_64 ?_
          obtain ⟨v_3, ev_3, hf⟩ := nm_of hf
          refine va_put (D := D) (ci := 4) (v := .int ((v_2.1 2) + a2)) (ty := .int) (C := RX6) (T := TX6) (N := 10) hx hb hts hi4 tyX6 tyX6_ok nmX6 hown hK hP hD hS 0 rfl rfl 8 (by decide) hw4 (fun _ h9 => h9) rfl (by decide +kernel) rfl rfl (Nat.le_of_ble_eq_true rfl) dX6_putPlants_65 (fun H locs hP hD hS => ?_)
          have hP : va_P D vwCl (kHouse G q0 v_3 ++ kRef G q1 v1) H := by rw [ev_3]; exact hP
          have hD : va_D A (kHouse G q0 v_3 ++ kRef G q1 v1) := by rw [ev_3]; exact hD
          refine lv_aload_n hx hb dX6_putPlants_68 rfl (lv_at hl 0 rfl) ?_
          refine va_get (D := D) (ci := 4) (v := .ref (q0 1)) (C := RX6) (T := TX6) (N := 10) hx hb hts hi4 hown hK hP 0 rfl rfl 0 (by decide) hw3 (fun _ h9 => h9) rfl dX6_putPlants_69 ?_
          refine lv_iload_n hx hb dX6_putPlants_72 rfl (lv_at hl 1 rfl) ?_
          obtain ⟨hin, hf⟩ := ckI_of hf
          refine va_iald (D := D) hx hb hK hP 1 0 rfl rfl hin dX6_putPlants_73 ?_
          obtain ⟨rfl, rfl, rfl⟩ := re3 hf
          exact hE hP hD hS dX6_putPlants_74
        · replace hf := ifF cc hf
          refine lv_aload_n hx hb dX6_putPlants_36 rfl (lv_at hl 3 rfl) ?_
          refine lv_iconst (v := 4) hx hb dX6_putPlants_37 (by decide) ?_
          refine lv_aload_n hx hb dX6_putPlants_38 rfl (lv_at hl 0 rfl) ?_
          refine va_get (D := D) (ci := 4) (v := .ref (q0 1)) (C := RX6) (T := TX6) (N := 10) hx hb hts hi4 hown hK hP 0 rfl rfl 0 (by decide) hw3 (fun _ h9 => h9) rfl dX6_putPlants_39 ?_
          refine lv_iload_n hx hb dX6_putPlants_42 rfl (lv_at hl 1 rfl) ?_
          obtain ⟨hin, hf⟩ := ckI_of hf
          refine va_iald (D := D) hx hb hK hP 1 0 rfl rfl hin dX6_putPlants_43 ?_
          obtain ⟨r_4, w_5, hc, hf⟩ := bd2_of hf
          refine k_V (As := [.int 4, .int (v0.2 0 a1.toNatClampNeg)]) (rest := []) (ws1 := (kHouse G q0 v0 ++ kRef G q1 w_5)) ⟨hx, hb, hml, hown, hts⟩ (c_X11_note l D G q1 4 (v0.2 0 a1.toNatClampNeg) v1 _ _ hc  _) (cwV 2 hts gX6_putPlants_X11_note rfl rfl rfl (by decide +kernel) ⟨Nat.le_of_ble_eq_true rfl, Nat.le_of_ble_eq_true rfl⟩) hl.1 (Nat.le_of_ble_eq_true rfl) dX6_putPlants_44 ⟨Nat.le_of_ble_eq_true rfl, Nat.le_of_ble_eq_true rfl⟩ rfl kT_bl (fun _ _ _ => trivial) hN hK hP hD hS hA 15 9 rfl rfl rfl [15] [0, 1, 2, 3, 4, 5, 6, 7, 8, 9, 10, 11, 12, 13, 14] [0, 1, 2, 3, 4, 5, 6, 7, 8, 9, 10, 11, 12, 13, 14, 15] [0, 1, 2, 3] rfl rfl rfl ⟨by decide, by decide, by decide, by decide⟩ rfl (fun H locs hP hD hS => ?_)
          obtain ⟨rfl, rfl, rfl⟩ := re3 hf
          exact hE hP hD hS dX6_putPlants_47
      · replace hf := ifF cc hf
        refine lv_bipush (v := (-2)) hx hb dX6_putPlants_20 (by decide +kernel) ?_
        obtain ⟨rfl, rfl, rfl⟩ := re3 hf
        exact hE hP hD hS dX6_putPlants_22
  · replace hf := ifT cc hf
    refine lv_iconst (v := (-1)) hx hb dX6_putPlants_7 (by decide) ?_
    obtain ⟨rfl, rfl, rfl⟩ := re3 hf
    exact hE hP hD hS dX6_putPlants_8
def f_X6_changeTolerance (a1 : Int32) (a2 : Int32) (v0 : SV) (v1 : SV) : Option (Int32 × SV × SV) :=
  bd1 (f_X12_isBalcony a1) fun r_1 =>
  if r_1 = 0 then
    some ((-1), v0, v1)
  else
    if a2 < 0 then
      some ((-2), v0, v1)
    else
      if a2 ≤ 9 then
        ckI a1 12 <|
        if a2 = (v0.2 1 a1.toNatClampNeg) then
          bd2 (f_X11_note 3 (v0.2 1 a1.toNatClampNeg) v1) fun r_3 w_4 =>
          some (r_3, v0, w_4)
        else
          ckI a1 12 <|
          nm (pA v0 1 a1 a2) fun v_2 =>
          some ((v0.2 1 a1.toNatClampNeg), v_2, v1)
      else
        some ((-2), v0, v1)
abbrev rm_X6_changeTolerance : Room := { frames := 1, cells := 0, slots := 0, locals := 22 }
set_option maxHeartbeats 4000000 in
set_option maxRecDepth 100000 in
theorem c_X6_changeTolerance (l : Launch) (D : va_G) (G : Nat → ClassId) (q0 : Nat → Nat) (q1 : Nat → Nat) (a1 : Int32) (a2 : Int32) (v0 : SV) (v1 : SV) (r : Int32) (v0' : SV) (v1' : SV) (hf : f_X6_changeTolerance a1 a2 v0 v1 = some (r, v0', v1')) (sz : Nat) : mC l yX6_changeTolerance wsX6_changeTolerance rm_X6_changeTolerance D (tyG G) kT [.ref (q0 0), .int a1, .int a2, .ref (q1 0)] (kHouse G q0 v0 ++ kRef G q1 v1) (kHouse G q0 v0' ++ kRef G q1 v1') sz (some (.int r)) 0 0 := by
  refine mC_ofI (cc := cX6_changeTolerance) (maxL := 5) (ret := (some .int)) (by decide) rfl rfl (Nat.le_of_ble_eq_true rfl) ?_
  intro p e s m args below meth c Q0 hx hb hml hts hown hN hK A hD hA hE hP hS hJ ls hl
  have hl : lv_has ls 5 [(0, .ref (q0 0)), (1, .int a1), (2, .int a2), (3, .ref (q1 0))] := hl
  unfold f_X6_changeTolerance at hf
  have hi4 : ∀ w ∈ u_ws RX6 TX6 10, w ∈ wsX6_changeTolerance := by decide +kernel
  have hw1 := hts (.static yX12_isBalcony) (by decide +kernel)
  have hw2 := hts (.initialized RX12) (by decide +kernel)
  have hw3 := hts (.fieldLink RX6 15 "BalconyCensus$House" "tolerances" "[I") (by decide +kernel)
  refine lv_iload_n hx hb dX6_changeTolerance_0 rfl (lv_at hl 1 rfl) ?_
  obtain ⟨r_1, hc, hf⟩ := bd1_of hf
  refine k_SN (As := [.int a1]) (rest := []) (host := "BalconyCensus") (ws1 := (kHouse G q0 v0 ++ kRef G q1 v1)) ⟨hx, hb, hml, hown, hts⟩ (c_X12_isBalcony l D G  a1  _ hc  _) ⟨va_cnB 1 hts gX6_changeTolerance_X12_isBalcony_n82 rfl rfl rfl (hN (RX6, 82, yX12_isBalcony) (by decide +kernel)) hw2 (by decide +kernel) ⟨Nat.le_of_ble_eq_true rfl, Nat.le_of_ble_eq_true rfl⟩, hw1, trivial⟩ hl.1 (Nat.le_of_ble_eq_true rfl) dX6_changeTolerance_1 ⟨Nat.le_of_ble_eq_true rfl, Nat.le_of_ble_eq_true rfl⟩ rfl kT_bl (fun _ _ _ => trivial) hN hK hP hD hS hA [] [0, 1, 2, 3, 4, 5, 6, 7, 8, 9, 10, 11, 12, 13, 14, 15] [0, 1, 2, 3, 4, 5, 6, 7, 8, 9, 10, 11, 12, 13, 14, 15] [0, 1, 2, 3] rfl rfl rfl ⟨by decide, by decide, by decide, by decide⟩ rfl (fun H locs hP hD hS => ?_)
  refine lv_if_ne (tgt := 9) hx hb dX6_changeTolerance_4 (by decide) (fun cc => ?_) (fun cc => ?_)
  · replace hf := ifF cc hf
    refine lv_iload_n hx hb dX6_changeTolerance_9 rfl (lv_at hl 2 rfl) ?_
    refine lv_if_lt (tgt := 19) hx hb dX6_changeTolerance_10 (by decide) (fun cc => ?_) (fun cc => ?_)
    · replace hf := ifT cc hf
      refine lv_bipush (v := (-2)) hx hb dX6_changeTolerance_19 (by decide +kernel) ?_
      obtain ⟨rfl, rfl, rfl⟩ := re3 hf
      exact hE hP hD hS dX6_changeTolerance_21
    · replace hf := ifF cc hf
      refine lv_iload_n hx hb dX6_changeTolerance_13 rfl (lv_at hl 2 rfl) ?_
      refine lv_bipush (v := 9) hx hb dX6_changeTolerance_14 (by decide +kernel) ?_
      refine lv_icmp_le (tgt := 22) hx hb dX6_changeTolerance_16 (by decide) (fun cc => ?_) (fun cc => ?_)
      · replace hf := ifT cc hf
        refine lv_aload_n hx hb dX6_changeTolerance_22 rfl (lv_at hl 0 rfl) ?_
        refine va_get (D := D) (ci := 4) (v := .ref (q0 2)) (C := RX6) (T := TX6) (N := 10) hx hb hts hi4 hown hK hP 0 rfl rfl 1 (by decide) hw3 (fun _ h9 => h9) rfl dX6_changeTolerance_23 ?_
        refine lv_iload_n hx hb dX6_changeTolerance_26 rfl (lv_at hl 1 rfl) ?_
        obtain ⟨hin, hf⟩ := ckI_of hf
        refine va_iald (D := D) hx hb hK hP 2 0 rfl rfl hin dX6_changeTolerance_27 ?_
        refine lv_istore (lv' := [(4, .int (v0.2 1 a1.toNatClampNeg)), (0, .ref (q0 0)), (1, .int a1), (2, .int a2), (3, .ref (q1 0))]) hx hb dX6_changeTolerance_28 hl (by decide) rfl (fun ls hl => ?_)
        refine lv_iload_n hx hb dX6_changeTolerance_30 rfl (lv_at hl 3 rfl) ?_
        refine lv_iload hx hb dX6_changeTolerance_31 (lv_at hl 0 rfl) ?_
        refine lv_icmp_ne (tgt := 44) hx hb dX6_changeTolerance_33 (by decide) (fun cc => ?_) (fun cc => ?_)
        · replace hf := ifF cc hf
          refine lv_aload_n hx hb dX6_changeTolerance_44 rfl (lv_at hl 1 rfl) ?_
          refine va_get (D := D) (ci := 4) (v := .ref (q0 2)) (C := RX6) (T := TX6) (N := 10) hx hb hts hi4 hown hK hP 0 rfl rfl 1 (by decide) hw3 (fun _ h9 => h9) rfl dX6_changeTolerance_45 ?_
          refine lv_iload_n hx hb dX6_changeTolerance_48 rfl (lv_at hl 2 rfl) ?_
          refine lv_iload_n hx hb dX6_changeTolerance_49 rfl (lv_at hl 3 rfl) ?_
          obtain ⟨hin, hf⟩ := ckI_of hf
          obtain ⟨v_2, ev_2, hf⟩ := nm_of hf
          refine va_iast (D := D) hx hb hK hP hD hS 2 0 rfl rfl hin dX6_changeTolerance_50 (fun H locs hP hD hS => ?_)
          have hP : va_P D vwCl (kHouse G q0 v_2 ++ kRef G q1 v1) H := by rw [ev_2]; exact hP
          have hD : va_D A (kHouse G q0 v_2 ++ kRef G q1 v1) := by rw [ev_2]; exact hD
          refine lv_iload hx hb dX6_changeTolerance_51 (lv_at hl 0 rfl) ?_
          obtain ⟨rfl, rfl, rfl⟩ := re3 hf
          exact hE hP hD hS dX6_changeTolerance_53
        · replace hf := ifT cc hf
          refine lv_aload_n hx hb dX6_changeTolerance_36 rfl (lv_at hl 4 rfl) ?_
          refine lv_iconst (v := 3) hx hb dX6_changeTolerance_37 (by decide) ?_
          refine lv_iload hx hb dX6_changeTolerance_38 (lv_at hl 0 rfl) ?_
          obtain ⟨r_3, w_4, hc, hf⟩ := bd2_of hf
          refine k_V (As := [.int 3, .int (v0.2 1 a1.toNatClampNeg)]) (rest := []) (ws1 := (kHouse G q0 v0 ++ kRef G q1 w_4)) ⟨hx, hb, hml, hown, hts⟩ (c_X11_note l D G q1 3 (v0.2 1 a1.toNatClampNeg) v1 _ _ hc  _) (cwV 2 hts gX6_changeTolerance_X11_note rfl rfl rfl (by decide +kernel) ⟨Nat.le_of_ble_eq_true rfl, Nat.le_of_ble_eq_true rfl⟩) hl.1 (Nat.le_of_ble_eq_true rfl) dX6_changeTolerance_40 ⟨Nat.le_of_ble_eq_true rfl, Nat.le_of_ble_eq_true rfl⟩ rfl kT_bl (fun _ _ _ => trivial) hN hK hP hD hS hA 15 9 rfl rfl rfl [15] [0, 1, 2, 3, 4, 5, 6, 7, 8, 9, 10, 11, 12, 13, 14] [0, 1, 2, 3, 4, 5, 6, 7, 8, 9, 10, 11, 12, 13, 14, 15] [0, 1, 2, 3] rfl rfl rfl ⟨by decide, by decide, by decide, by decide⟩ rfl (fun H locs hP hD hS => ?_)
          obtain ⟨rfl, rfl, rfl⟩ := re3 hf
          exact hE hP hD hS dX6_changeTolerance_43
      · replace hf := ifF cc hf
        refine lv_bipush (v := (-2)) hx hb dX6_changeTolerance_19 (by decide +kernel) ?_
        obtain ⟨rfl, rfl, rfl⟩ := re3 hf
        exact hE hP hD hS dX6_changeTolerance_21
  · replace hf := ifT cc hf
    refine lv_iconst (v := (-1)) hx hb dX6_changeTolerance_7 (by decide) ?_
    obtain ⟨rfl, rfl, rfl⟩ := re3 hf
    exact hE hP hD hS dX6_changeTolerance_8
def f_X6_hangLine (a1 : Int32) (a2 : Int32) (a3 : Int32) (v0 : SV) (v1 : SV) : Option (Int32 × SV × SV) :=
  bd1 (f_X12_areBalconies a1 a2) fun r_1 =>
  if r_1 = 0 then
    some ((-1), v0, v1)
  else
    if a3 < 1 then
      some ((-2), v0, v1)
    else
      if a3 ≤ 9 then
        if a1 = a2 then
          bd2 (f_X11_note 2 a1 v1) fun r_10 w_11 =>
          some (r_10, v0, w_11)
        else
          bd1 (f_X7_between a1 a2 v0) fun r_2 =>
          if r_2 < 0 then
            if (v0.1 4) < 6 then
              bd2 (f_X7_add a1 a2 a3 v0) fun r_3 w_4 =>
              nm (mLines v0 w_4) fun v_5 =>
              some (r_3, v_5, v1)
            else
              bd2 (f_X11_note 1 6 v1) fun r_6 w_7 =>
              some (r_6, v0, w_7)
          else
            ckI r_2 6 <|
            bd2 (f_X11_note 3 (v0.2 4 r_2.toNatClampNeg) v1) fun r_8 w_9 =>
            some (r_8, v0, w_9)
      else
        some ((-2), v0, v1)
abbrev rm_X6_hangLine : Room := { frames := 2, cells := 0, slots := 0, locals := 41 }
set_option maxHeartbeats 4000000 in
set_option maxRecDepth 100000 in
theorem c_X6_hangLine (l : Launch) (D : va_G) (G : Nat → ClassId) (q0 : Nat → Nat) (q1 : Nat → Nat) (a1 : Int32) (a2 : Int32) (a3 : Int32) (v0 : SV) (v1 : SV) (r : Int32) (v0' : SV) (v1' : SV) (hf : f_X6_hangLine a1 a2 a3 v0 v1 = some (r, v0', v1')) (sz : Nat) : mC l yX6_hangLine wsX6_hangLine rm_X6_hangLine D (tyG G) kT [.ref (q0 0), .int a1, .int a2, .int a3, .ref (q1 0)] (kHouse G q0 v0 ++ kRef G q1 v1) (kHouse G q0 v0' ++ kRef G q1 v1') sz (some (.int r)) 0 0 := by
  refine mC_ofI (cc := cX6_hangLine) (maxL := 6) (ret := (some .int)) (by decide) rfl rfl (Nat.le_of_ble_eq_true rfl) ?_
  intro p e s m args below meth c Q0 hx hb hml hts hown hN hK A hD hA hE hP hS hJ ls hl
  have hl : lv_has ls 6 [(0, .ref (q0 0)), (1, .int a1), (2, .int a2), (3, .int a3), (4, .ref (q1 0))] := hl
  unfold f_X6_hangLine at hf
  have hi4 : ∀ w ∈ u_ws RX6 TX6 10, w ∈ wsX6_hangLine := by decide +kernel
  have hi5 : ∀ w ∈ u_ws RX7 TX7 5, w ∈ wsX6_hangLine := by decide +kernel
  have hw1 := hts (.static yX12_areBalconies) (by decide +kernel)
  have hw2 := hts (.initialized RX12) (by decide +kernel)
  have hw3 := hts (.fieldLink RX6 21 "BalconyCensus$House" "lines" "LBalconyCensus$Lines;") (by decide +kernel)
  have hw4 := hts (.fieldLink RX6 102 "BalconyCensus$Lines" "count" "I") (by decide +kernel)
  have hw5 := hts (.fieldLink RX6 99 "BalconyCensus$Lines" "daysLeft" "[I") (by decide +kernel)
  refine lv_iload_n hx hb dX6_hangLine_0 rfl (lv_at hl 1 rfl) ?_
  refine lv_iload_n hx hb dX6_hangLine_1 rfl (lv_at hl 2 rfl) ?_
  obtain ⟨r_1, hc, hf⟩ := bd1_of hf
  refine k_SN (As := [.int a1, .int a2]) (rest := []) (host := "BalconyCensus") (ws1 := (kHouse G q0 v0 ++ kRef G q1 v1)) ⟨hx, hb, hml, hown, hts⟩ (c_X12_areBalconies l D G  a1 a2  _ hc  _) ⟨va_cnB 2 hts gX6_hangLine_X12_areBalconies_n92 rfl rfl rfl (hN (RX6, 92, yX12_areBalconies) (by decide +kernel)) hw2 (by decide +kernel) ⟨Nat.le_of_ble_eq_true rfl, Nat.le_of_ble_eq_true rfl⟩, hw1, trivial⟩ hl.1 (Nat.le_of_ble_eq_true rfl) dX6_hangLine_2 ⟨Nat.le_of_ble_eq_true rfl, Nat.le_of_ble_eq_true rfl⟩ rfl kT_bl (fun _ _ _ => trivial) hN hK hP hD hS hA [] [0, 1, 2, 3, 4, 5, 6, 7, 8, 9, 10, 11, 12, 13, 14, 15] [0, 1, 2, 3, 4, 5, 6, 7, 8, 9, 10, 11, 12, 13, 14, 15] [0, 1, 2, 3] rfl rfl rfl ⟨by decide, by decide, by decide, by decide⟩ rfl (fun H locs hP hD hS => ?_)
  refine lv_if_ne (tgt := 10) hx hb dX6_hangLine_5 (by decide) (fun cc => ?_) (fun cc => ?_)
  · replace hf := ifF cc hf
    refine lv_iload_n hx hb dX6_hangLine_10 rfl (lv_at hl 3 rfl) ?_
    refine lv_iconst (v := 1) hx hb dX6_hangLine_11 (by decide) ?_
    refine lv_icmp_lt (tgt := 21) hx hb dX6_hangLine_12 (by decide) (fun cc => ?_) (fun cc => ?_)
    · replace hf := ifT cc hf
      refine lv_bipush (v := (-2)) hx hb dX6_hangLine_21 (by decide +kernel) ?_
      obtain ⟨rfl, rfl, rfl⟩ := re3 hf
      exact hE hP hD hS dX6_hangLine_23
    · replace hf := ifF cc hf
      refine lv_iload_n hx hb dX6_hangLine_15 rfl (lv_at hl 3 rfl) ?_
      refine lv_bipush (v := 9) hx hb dX6_hangLine_16 (by decide +kernel) ?_
      refine lv_icmp_le (tgt := 24) hx hb dX6_hangLine_18 (by decide) (fun cc => ?_) (fun cc => ?_)
      · replace hf := ifT cc hf
        refine lv_iload_n hx hb dX6_hangLine_24 rfl (lv_at hl 1 rfl) ?_
        refine lv_iload_n hx hb dX6_hangLine_25 rfl (lv_at hl 2 rfl) ?_
        refine lv_icmp_ne (tgt := 37) hx hb dX6_hangLine_26 (by decide) (fun cc => ?_) (fun cc => ?_)
        · replace hf := ifF cc hf
          refine lv_aload_n hx hb dX6_hangLine_37 rfl (lv_at hl 0 rfl) ?_
          refine va_get (D := D) (ci := 4) (v := .ref (q0 3)) (C := RX6) (T := TX6) (N := 10) hx hb hts hi4 hown hK hP 0 rfl rfl 2 (by decide) hw3 (fun _ h9 => h9) rfl dX6_hangLine_38 ?_
          refine lv_iload_n hx hb dX6_hangLine_41 rfl (lv_at hl 1 rfl) ?_
          refine lv_iload_n hx hb dX6_hangLine_42 rfl (lv_at hl 2 rfl) ?_
          obtain ⟨r_2, hc, hf⟩ := bd1_of hf
          refine k_V (As := [.int a1, .int a2]) (rest := []) (ws1 := (kHouse G q0 v0 ++ kRef G q1 v1)) ⟨hx, hb, hml, hown, hts⟩ (c_X7_between l D G q0 a1 a2 v0 _ hc  _) (cwV 2 hts gX6_hangLine_X7_between rfl rfl rfl (by decide +kernel) ⟨Nat.le_of_ble_eq_true rfl, Nat.le_of_ble_eq_true rfl⟩) hl.1 (Nat.le_of_ble_eq_true rfl) dX6_hangLine_43 ⟨Nat.le_of_ble_eq_true rfl, Nat.le_of_ble_eq_true rfl⟩ rfl kT_bl (fun _ _ _ => trivial) hN hK hP hD hS hA 3 5 rfl rfl rfl [3, 4, 5, 6] [0, 1, 2, 7, 8, 9, 10, 11, 12, 13, 14, 15] [0, 1, 2, 12, 13, 14, 15, 3, 4, 5, 6, 7, 8, 9, 10, 11] [0, 1, 2, 3] rfl rfl rfl ⟨by decide, by decide, by decide, by decide⟩ rfl (fun H locs hP hD hS => ?_)
          refine lv_istore (lv' := [(5, .int r_2), (0, .ref (q0 0)), (1, .int a1), (2, .int a2), (3, .int a3), (4, .ref (q1 0))]) hx hb dX6_hangLine_46 hl (by decide) rfl (fun ls hl => ?_)
          refine lv_iload hx hb dX6_hangLine_48 (lv_at hl 0 rfl) ?_
          refine lv_if_lt (tgt := 70) hx hb dX6_hangLine_50 (by decide) (fun cc => ?_) (fun cc => ?_)
          · replace hf := ifT cc hf
            refine lv_aload_n hx hb dX6_hangLine_70 rfl (lv_at hl 1 rfl) ?_
            refine va_get (D := D) (ci := 4) (v := .ref (q0 3)) (C := RX6) (T := TX6) (N := 10) hx hb hts hi4 hown hK hP 0 rfl rfl 2 (by decide) hw3 (fun _ h9 => h9) rfl dX6_hangLine_71 ?_
            refine va_get (D := D) (ci := 5) (v := .int (v0.1 4)) (C := RX7) (T := TX7) (N := 5) hx hb hts hi5 hown hK hP 3 rfl rfl 3 (by decide) hw4 (fun _ h9 => h9) rfl dX6_hangLine_74 ?_
            refine lv_bipush (v := 6) hx hb dX6_hangLine_77 (by decide +kernel) ?_
            refine lv_icmp_lt (tgt := 91) hx hb dX6_hangLine_79 (by decide) (fun cc => ?_) (fun cc => ?_)
            · replace hf := ifT cc hf
              refine lv_aload_n hx hb dX6_hangLine_91 rfl (lv_at hl 1 rfl) ?_
              refine va_get (D := D) (ci := 4) (v := .ref (q0 3)) (C := RX6) (T := TX6) (N := 10) hx hb hts hi4 hown hK hP 0 rfl rfl 2 (by decide) hw3 (fun _ h9 => h9) rfl dX6_hangLine_92 ?_
              refine lv_iload_n hx hb dX6_hangLine_95 rfl (lv_at hl 2 rfl) ?_
              refine lv_iload_n hx hb dX6_hangLine_96 rfl (lv_at hl 3 rfl) ?_
              refine lv_iload_n hx hb dX6_hangLine_97 rfl (lv_at hl 4 rfl) ?_
              obtain ⟨r_3, w_4, hc, hf⟩ := bd2_of hf
              refine k_V (As := [.int a1, .int a2, .int a3]) (rest := []) (ws1 := (kHouse G q0 (mLines v0 w_4) ++ kRef G q1 v1)) ⟨hx, hb, hml, hown, hts⟩ (c_X7_add l D G q0 a1 a2 a3 v0 _ _ hc  _) (cwV 3 hts gX6_hangLine_X7_add rfl rfl rfl (by decide +kernel) ⟨Nat.le_of_ble_eq_true rfl, Nat.le_of_ble_eq_true rfl⟩) hl.1 (Nat.le_of_ble_eq_true rfl) dX6_hangLine_98 ⟨Nat.le_of_ble_eq_true rfl, Nat.le_of_ble_eq_true rfl⟩ rfl kT_bl (fun _ _ _ => trivial) hN hK hP hD hS hA 3 5 rfl rfl rfl [3, 4, 5, 6] [0, 1, 2, 7, 8, 9, 10, 11, 12, 13, 14, 15] [0, 1, 2, 12, 13, 14, 15, 3, 4, 5, 6, 7, 8, 9, 10, 11] [0, 1, 2, 3] rfl rfl rfl ⟨by decide, by decide, by decide, by decide⟩ rfl (fun H locs hP hD hS => ?_)
              obtain ⟨v_5, ev_5, hf⟩ := nm_of hf
              have hP : va_P D vwCl (kHouse G q0 v_5 ++ kRef G q1 v1) H := by rw [ev_5]; exact hP
              have hD : va_D A (kHouse G q0 v_5 ++ kRef G q1 v1) := by rw [ev_5]; exact hD
              obtain ⟨rfl, rfl, rfl⟩ := re3 hf
              exact hE hP hD hS dX6_hangLine_101
            · replace hf := ifF cc hf
              refine lv_aload hx hb dX6_hangLine_82 (lv_at hl 5 rfl) ?_
              refine lv_iconst (v := 1) hx hb dX6_hangLine_84 (by decide) ?_
              refine lv_bipush (v := 6) hx hb dX6_hangLine_85 (by decide +kernel) ?_
              obtain ⟨r_6, w_7, hc, hf⟩ := bd2_of hf
              refine k_V (As := [.int 1, .int 6]) (rest := []) (ws1 := (kHouse G q0 v0 ++ kRef G q1 w_7)) ⟨hx, hb, hml, hown, hts⟩ (c_X11_note l D G q1 1 6 v1 _ _ hc  _) (cwV 2 hts gX6_hangLine_X11_note rfl rfl rfl (by decide +kernel) ⟨Nat.le_of_ble_eq_true rfl, Nat.le_of_ble_eq_true rfl⟩) hl.1 (Nat.le_of_ble_eq_true rfl) dX6_hangLine_87 ⟨Nat.le_of_ble_eq_true rfl, Nat.le_of_ble_eq_true rfl⟩ rfl kT_bl (fun _ _ _ => trivial) hN hK hP hD hS hA 15 9 rfl rfl rfl [15] [0, 1, 2, 3, 4, 5, 6, 7, 8, 9, 10, 11, 12, 13, 14] [0, 1, 2, 3, 4, 5, 6, 7, 8, 9, 10, 11, 12, 13, 14, 15] [0, 1, 2, 3] rfl rfl rfl ⟨by decide, by decide, by decide, by decide⟩ rfl (fun H locs hP hD hS => ?_)
              obtain ⟨rfl, rfl, rfl⟩ := re3 hf
              exact hE hP hD hS dX6_hangLine_90
          · replace hf := ifF cc hf
            refine lv_aload hx hb dX6_hangLine_53 (lv_at hl 5 rfl) ?_
            refine lv_iconst (v := 3) hx hb dX6_hangLine_55 (by decide) ?_
            refine lv_aload_n hx hb dX6_hangLine_56 rfl (lv_at hl 1 rfl) ?_
            refine va_get (D := D) (ci := 4) (v := .ref (q0 3)) (C := RX6) (T := TX6) (N := 10) hx hb hts hi4 hown hK hP 0 rfl rfl 2 (by decide) hw3 (fun _ h9 => h9) rfl dX6_hangLine_57 ?_
            refine va_get (D := D) (ci := 5) (v := .ref (q0 6)) (C := RX7) (T := TX7) (N := 5) hx hb hts hi5 hown hK hP 3 rfl rfl 2 (by decide) hw5 (fun _ h9 => h9) rfl dX6_hangLine_60 ?_
            refine lv_iload hx hb dX6_hangLine_63 (lv_at hl 0 rfl) ?_
            obtain ⟨hin, hf⟩ := ckI_of hf
            refine va_iald (D := D) hx hb hK hP 6 0 rfl rfl hin dX6_hangLine_65 ?_
            obtain ⟨r_8, w_9, hc, hf⟩ := bd2_of hf
            refine k_V (As := [.int 3, .int (v0.2 4 r_2.toNatClampNeg)]) (rest := []) (ws1 := (kHouse G q0 v0 ++ kRef G q1 w_9)) ⟨hx, hb, hml, hown, hts⟩ (c_X11_note l D G q1 3 (v0.2 4 r_2.toNatClampNeg) v1 _ _ hc  _) (cwV 2 hts gX6_hangLine_X11_note rfl rfl rfl (by decide +kernel) ⟨Nat.le_of_ble_eq_true rfl, Nat.le_of_ble_eq_true rfl⟩) hl.1 (Nat.le_of_ble_eq_true rfl) dX6_hangLine_66 ⟨Nat.le_of_ble_eq_true rfl, Nat.le_of_ble_eq_true rfl⟩ rfl kT_bl (fun _ _ _ => trivial) hN hK hP hD hS hA 15 9 rfl rfl rfl [15] [0, 1, 2, 3, 4, 5, 6, 7, 8, 9, 10, 11, 12, 13, 14] [0, 1, 2, 3, 4, 5, 6, 7, 8, 9, 10, 11, 12, 13, 14, 15] [0, 1, 2, 3] rfl rfl rfl ⟨by decide, by decide, by decide, by decide⟩ rfl (fun H locs hP hD hS => ?_)
            obtain ⟨rfl, rfl, rfl⟩ := re3 hf
            exact hE hP hD hS dX6_hangLine_69
        · replace hf := ifT cc hf
          refine lv_aload hx hb dX6_hangLine_29 (lv_at hl 4 rfl) ?_
          refine lv_iconst (v := 2) hx hb dX6_hangLine_31 (by decide) ?_
          refine lv_iload_n hx hb dX6_hangLine_32 rfl (lv_at hl 1 rfl) ?_
          obtain ⟨r_10, w_11, hc, hf⟩ := bd2_of hf
          refine k_V (As := [.int 2, .int a1]) (rest := []) (ws1 := (kHouse G q0 v0 ++ kRef G q1 w_11)) ⟨hx, hb, hml, hown, hts⟩ (c_X11_note l D G q1 2 a1 v1 _ _ hc  _) (cwV 2 hts gX6_hangLine_X11_note rfl rfl rfl (by decide +kernel) ⟨Nat.le_of_ble_eq_true rfl, Nat.le_of_ble_eq_true rfl⟩) hl.1 (Nat.le_of_ble_eq_true rfl) dX6_hangLine_33 ⟨Nat.le_of_ble_eq_true rfl, Nat.le_of_ble_eq_true rfl⟩ rfl kT_bl (fun _ _ _ => trivial) hN hK hP hD hS hA 15 9 rfl rfl rfl [15] [0, 1, 2, 3, 4, 5, 6, 7, 8, 9, 10, 11, 12, 13, 14] [0, 1, 2, 3, 4, 5, 6, 7, 8, 9, 10, 11, 12, 13, 14, 15] [0, 1, 2, 3] rfl rfl rfl ⟨by decide, by decide, by decide, by decide⟩ rfl (fun H locs hP hD hS => ?_)
          obtain ⟨rfl, rfl, rfl⟩ := re3 hf
          exact hE hP hD hS dX6_hangLine_36
      · replace hf := ifF cc hf
        refine lv_bipush (v := (-2)) hx hb dX6_hangLine_21 (by decide +kernel) ?_
        obtain ⟨rfl, rfl, rfl⟩ := re3 hf
        exact hE hP hD hS dX6_hangLine_23
  · replace hf := ifT cc hf
    refine lv_iconst (v := (-1)) hx hb dX6_hangLine_8 (by decide) ?_
    obtain ⟨rfl, rfl, rfl⟩ := re3 hf
    exact hE hP hD hS dX6_hangLine_9
def f_X6_letGreet (a1 : Int32) (a2 : Int32) (v0 : SV) (v1 : SV) : Option (Int32 × SV × SV) :=
  bd1 (f_X12_areBalconies a1 a2) fun r_1 =>
  if r_1 = 0 then
    some ((-1), v0, v1)
  else
    if a1 = a2 then
      bd2 (f_X11_note 2 a1 v1) fun r_13 w_14 =>
      some (r_13, v0, w_14)
    else
      bd1 (f_X6_isFeud a1 a2 v0) fun r_2 =>
      if r_2 = 0 then
        bd1 (f_X4_isToday a1 a2 v0) fun r_3 =>
        if r_3 = 0 then
          bd2 (f_X4_add a1 a2 v0) fun r_4 w_5 =>
          nm (mGreetings v0 w_5) fun v_6 =>
          some (r_4, v_6, v1)
        else
          bd1 (f_X4_countOf a1 a2 v0) fun r_7 =>
          bd2 (f_X11_note 7 r_7 v1) fun r_8 w_9 =>
          some (r_8, v0, w_9)
      else
        nm (if a1 < a2 then a2 else a1) fun t_10 =>
        bd2 (f_X11_note 5 t_10 v1) fun r_11 w_12 =>
        some (r_11, v0, w_12)
abbrev rm_X6_letGreet : Room := { frames := 2, cells := 0, slots := 0, locals := 49 }
set_option maxHeartbeats 4000000 in
set_option maxRecDepth 100000 in
theorem c_X6_letGreet (l : Launch) (D : va_G) (G : Nat → ClassId) (q0 : Nat → Nat) (q1 : Nat → Nat) (a1 : Int32) (a2 : Int32) (v0 : SV) (v1 : SV) (r : Int32) (v0' : SV) (v1' : SV) (hf : f_X6_letGreet a1 a2 v0 v1 = some (r, v0', v1')) (sz : Nat) : mC l yX6_letGreet wsX6_letGreet rm_X6_letGreet D (tyG G) kT [.ref (q0 0), .int a1, .int a2, .ref (q1 0)] (kHouse G q0 v0 ++ kRef G q1 v1) (kHouse G q0 v0' ++ kRef G q1 v1') sz (some (.int r)) 0 0 := by
  refine mC_ofI (cc := cX6_letGreet) (maxL := 4) (ret := (some .int)) (by decide) rfl rfl (Nat.le_of_ble_eq_true rfl) ?_
  intro p e s m args below meth c Q0 hx hb hml hts hown hN hK A hD hA hE hP hS hJ ls hl
  have hl : lv_has ls 4 [(0, .ref (q0 0)), (1, .int a1), (2, .int a2), (3, .ref (q1 0))] := hl
  unfold f_X6_letGreet at hf
  have hi4 : ∀ w ∈ u_ws RX6 TX6 10, w ∈ wsX6_letGreet := by decide +kernel
  have hw1 := hts (.static yX12_areBalconies) (by decide +kernel)
  have hw2 := hts (.initialized RX12) (by decide +kernel)
  have hw3 := hts (.fieldLink RX6 28 "BalconyCensus$House" "greetings" "LBalconyCensus$Greetings;") (by decide +kernel)
  have hw4 := hts (.methodLink RX6 112 Lib.Math.max.name) (by decide +kernel)
  have hw5 := hts (.static Lib.Math.max.name) (by decide +kernel)
  have hw6 := hts (.initialized "java/lang/Math") (by decide +kernel)
  have hw7 := hts (.code Lib.Math.max.name Lib.Math.max.code 2 (some .int)) (by decide +kernel)
  refine lv_iload_n hx hb dX6_letGreet_0 rfl (lv_at hl 1 rfl) ?_
  refine lv_iload_n hx hb dX6_letGreet_1 rfl (lv_at hl 2 rfl) ?_
  obtain ⟨r_1, hc, hf⟩ := bd1_of hf
  refine k_SN (As := [.int a1, .int a2]) (rest := []) (host := "BalconyCensus") (ws1 := (kHouse G q0 v0 ++ kRef G q1 v1)) ⟨hx, hb, hml, hown, hts⟩ (c_X12_areBalconies l D G  a1 a2  _ hc  _) ⟨va_cnB 2 hts gX6_letGreet_X12_areBalconies_n92 rfl rfl rfl (hN (RX6, 92, yX12_areBalconies) (by decide +kernel)) hw2 (by decide +kernel) ⟨Nat.le_of_ble_eq_true rfl, Nat.le_of_ble_eq_true rfl⟩, hw1, trivial⟩ hl.1 (Nat.le_of_ble_eq_true rfl) dX6_letGreet_2 ⟨Nat.le_of_ble_eq_true rfl, Nat.le_of_ble_eq_true rfl⟩ rfl kT_bl (fun _ _ _ => trivial) hN hK hP hD hS hA [] [0, 1, 2, 3, 4, 5, 6, 7, 8, 9, 10, 11, 12, 13, 14, 15] [0, 1, 2, 3, 4, 5, 6, 7, 8, 9, 10, 11, 12, 13, 14, 15] [0, 1, 2, 3] rfl rfl rfl ⟨by decide, by decide, by decide, by decide⟩ rfl (fun H locs hP hD hS => ?_)
  refine lv_if_ne (tgt := 10) hx hb dX6_letGreet_5 (by decide) (fun cc => ?_) (fun cc => ?_)
  · replace hf := ifF cc hf
    refine lv_iload_n hx hb dX6_letGreet_10 rfl (lv_at hl 1 rfl) ?_
    refine lv_iload_n hx hb dX6_letGreet_11 rfl (lv_at hl 2 rfl) ?_
    refine lv_icmp_ne (tgt := 22) hx hb dX6_letGreet_12 (by decide) (fun cc => ?_) (fun cc => ?_)
    · replace hf := ifF cc hf
      refine lv_aload_n hx hb dX6_letGreet_22 rfl (lv_at hl 0 rfl) ?_
      refine lv_iload_n hx hb dX6_letGreet_23 rfl (lv_at hl 1 rfl) ?_
      refine lv_iload_n hx hb dX6_letGreet_24 rfl (lv_at hl 2 rfl) ?_
      obtain ⟨r_2, hc, hf⟩ := bd1_of hf
      refine k_V (As := [.int a1, .int a2]) (rest := []) (ws1 := (kHouse G q0 v0 ++ kRef G q1 v1)) ⟨hx, hb, hml, hown, hts⟩ (c_X6_isFeud l D G q0 a1 a2 v0 _ hc  _) (cwV 2 hts gX6_letGreet_X6_isFeud rfl rfl rfl (by decide +kernel) ⟨Nat.le_of_ble_eq_true rfl, Nat.le_of_ble_eq_true rfl⟩) hl.1 (Nat.le_of_ble_eq_true rfl) dX6_letGreet_25 ⟨Nat.le_of_ble_eq_true rfl, Nat.le_of_ble_eq_true rfl⟩ rfl kT_bl (fun _ _ _ => trivial) hN hK hP hD hS hA 0 4 rfl rfl rfl [0, 1, 2, 3, 4, 5, 6, 7, 8, 9, 10, 11, 12, 13, 14] [15] [1, 2, 3, 4, 5, 6, 7, 8, 9, 10, 11, 12, 13, 14, 15, 0] [0, 1, 2, 3] rfl rfl rfl ⟨by decide, by decide, by decide, by decide⟩ rfl (fun H locs hP hD hS => ?_)
      refine lv_if_eq (tgt := 42) hx hb dX6_letGreet_28 (by decide) (fun cc => ?_) (fun cc => ?_)
      · replace hf := ifT cc hf
        refine lv_aload_n hx hb dX6_letGreet_42 rfl (lv_at hl 0 rfl) ?_
        refine va_get (D := D) (ci := 4) (v := .ref (q0 7)) (C := RX6) (T := TX6) (N := 10) hx hb hts hi4 hown hK hP 0 rfl rfl 3 (by decide) hw3 (fun _ h9 => h9) rfl dX6_letGreet_43 ?_
        refine lv_iload_n hx hb dX6_letGreet_46 rfl (lv_at hl 1 rfl) ?_
        refine lv_iload_n hx hb dX6_letGreet_47 rfl (lv_at hl 2 rfl) ?_
        obtain ⟨r_3, hc, hf⟩ := bd1_of hf
        refine k_V (As := [.int a1, .int a2]) (rest := []) (ws1 := (kHouse G q0 v0 ++ kRef G q1 v1)) ⟨hx, hb, hml, hown, hts⟩ (c_X4_isToday l D G q0 a1 a2 v0 _ hc  _) (cwV 2 hts gX6_letGreet_X4_isToday rfl rfl rfl (by decide +kernel) ⟨Nat.le_of_ble_eq_true rfl, Nat.le_of_ble_eq_true rfl⟩) hl.1 (Nat.le_of_ble_eq_true rfl) dX6_letGreet_48 ⟨Nat.le_of_ble_eq_true rfl, Nat.le_of_ble_eq_true rfl⟩ rfl kT_bl (fun _ _ _ => trivial) hN hK hP hD hS hA 7 2 rfl rfl rfl [7, 8, 9] [0, 1, 2, 3, 4, 5, 6, 10, 11, 12, 13, 14, 15] [0, 1, 2, 3, 4, 5, 6, 13, 14, 15, 7, 8, 9, 10, 11, 12] [0, 1, 2, 3] rfl rfl rfl ⟨by decide, by decide, by decide, by decide⟩ rfl (fun H locs hP hD hS => ?_)
        refine lv_if_eq (tgt := 70) hx hb dX6_letGreet_51 (by decide) (fun cc => ?_) (fun cc => ?_)
        · replace hf := ifT cc hf
          refine lv_aload_n hx hb dX6_letGreet_70 rfl (lv_at hl 0 rfl) ?_
          refine va_get (D := D) (ci := 4) (v := .ref (q0 7)) (C := RX6) (T := TX6) (N := 10) hx hb hts hi4 hown hK hP 0 rfl rfl 3 (by decide) hw3 (fun _ h9 => h9) rfl dX6_letGreet_71 ?_
          refine lv_iload_n hx hb dX6_letGreet_74 rfl (lv_at hl 1 rfl) ?_
          refine lv_iload_n hx hb dX6_letGreet_75 rfl (lv_at hl 2 rfl) ?_
          obtain ⟨r_4, w_5, hc, hf⟩ := bd2_of hf
          refine k_V (As := [.int a1, .int a2]) (rest := []) (ws1 := (kHouse G q0 (mGreetings v0 w_5) ++ kRef G q1 v1)) ⟨hx, hb, hml, hown, hts⟩ (c_X4_add l D G q0 a1 a2 v0 _ _ hc  _) (cwV 2 hts gX6_letGreet_X4_add rfl rfl rfl (by decide +kernel) ⟨Nat.le_of_ble_eq_true rfl, Nat.le_of_ble_eq_true rfl⟩) hl.1 (Nat.le_of_ble_eq_true rfl) dX6_letGreet_76 ⟨Nat.le_of_ble_eq_true rfl, Nat.le_of_ble_eq_true rfl⟩ rfl kT_bl (fun _ _ _ => trivial) hN hK hP hD hS hA 7 2 rfl rfl rfl [7, 8, 9] [0, 1, 2, 3, 4, 5, 6, 10, 11, 12, 13, 14, 15] [0, 1, 2, 3, 4, 5, 6, 13, 14, 15, 7, 8, 9, 10, 11, 12] [0, 1, 2, 3] rfl rfl rfl ⟨by decide, by decide, by decide, by decide⟩ rfl (fun H locs hP hD hS => ?_)
          obtain ⟨v_6, ev_6, hf⟩ := nm_of hf
          have hP : va_P D vwCl (kHouse G q0 v_6 ++ kRef G q1 v1) H := by rw [ev_6]; exact hP
          have hD : va_D A (kHouse G q0 v_6 ++ kRef G q1 v1) := by rw [ev_6]; exact hD
          obtain ⟨rfl, rfl, rfl⟩ := re3 hf
          exact hE hP hD hS dX6_letGreet_79
        · replace hf := ifF cc hf
          refine lv_aload_n hx hb dX6_letGreet_54 rfl (lv_at hl 3 rfl) ?_
          refine lv_bipush (v := 7) hx hb dX6_letGreet_55 (by decide +kernel) ?_
          refine lv_aload_n hx hb dX6_letGreet_57 rfl (lv_at hl 0 rfl) ?_
          refine va_get (D := D) (ci := 4) (v := .ref (q0 7)) (C := RX6) (T := TX6) (N := 10) hx hb hts hi4 hown hK hP 0 rfl rfl 3 (by decide) hw3 (fun _ h9 => h9) rfl dX6_letGreet_58 ?_
          refine lv_iload_n hx hb dX6_letGreet_61 rfl (lv_at hl 1 rfl) ?_
          refine lv_iload_n hx hb dX6_letGreet_62 rfl (lv_at hl 2 rfl) ?_
          obtain ⟨r_7, hc, hf⟩ := bd1_of hf
          refine k_V (As := [.int a1, .int a2]) (rest := [.int 7, .ref (q1 0)]) (ws1 := (kHouse G q0 v0 ++ kRef G q1 v1)) ⟨hx, hb, hml, hown, hts⟩ (c_X4_countOf l D G q0 a1 a2 v0 _ hc  _) (cwV 2 hts gX6_letGreet_X4_countOf rfl rfl rfl (by decide +kernel) ⟨Nat.le_of_ble_eq_true rfl, Nat.le_of_ble_eq_true rfl⟩) hl.1 (Nat.le_of_ble_eq_true rfl) dX6_letGreet_63 ⟨Nat.le_of_ble_eq_true rfl, Nat.le_of_ble_eq_true rfl⟩ rfl kT_bl (fun _ _ _ => trivial) hN hK hP hD hS hA 7 2 rfl rfl rfl [7, 8, 9] [0, 1, 2, 3, 4, 5, 6, 10, 11, 12, 13, 14, 15] [0, 1, 2, 3, 4, 5, 6, 13, 14, 15, 7, 8, 9, 10, 11, 12] [0, 1, 2, 3] rfl rfl rfl ⟨by decide, by decide, by decide, by decide⟩ rfl (fun H locs hP hD hS => ?_)
          obtain ⟨r_8, w_9, hc, hf⟩ := bd2_of hf
          refine k_V (As := [.int 7, .int r_7]) (rest := []) (ws1 := (kHouse G q0 v0 ++ kRef G q1 w_9)) ⟨hx, hb, hml, hown, hts⟩ (c_X11_note l D G q1 7 r_7 v1 _ _ hc  _) (cwV 2 hts gX6_letGreet_X11_note rfl rfl rfl (by decide +kernel) ⟨Nat.le_of_ble_eq_true rfl, Nat.le_of_ble_eq_true rfl⟩) hl.1 (Nat.le_of_ble_eq_true rfl) dX6_letGreet_66 ⟨Nat.le_of_ble_eq_true rfl, Nat.le_of_ble_eq_true rfl⟩ rfl kT_bl (fun _ _ _ => trivial) hN hK hP hD hS hA 15 9 rfl rfl rfl [15] [0, 1, 2, 3, 4, 5, 6, 7, 8, 9, 10, 11, 12, 13, 14] [0, 1, 2, 3, 4, 5, 6, 7, 8, 9, 10, 11, 12, 13, 14, 15] [0, 1, 2, 3] rfl rfl rfl ⟨by decide, by decide, by decide, by decide⟩ rfl (fun H locs hP hD hS => ?_)
          obtain ⟨rfl, rfl, rfl⟩ := re3 hf
          exact hE hP hD hS dX6_letGreet_69
      · replace hf := ifF cc hf
        refine lv_aload_n hx hb dX6_letGreet_31 rfl (lv_at hl 3 rfl) ?_
        refine lv_iconst (v := 5) hx hb dX6_letGreet_32 (by decide) ?_
        refine lv_iload_n hx hb dX6_letGreet_33 rfl (lv_at hl 1 rfl) ?_
        refine lv_iload_n hx hb dX6_letGreet_34 rfl (lv_at hl 2 rfl) ?_
        refine va_mmax hx hb (hml.trans hl.1.symm) hown hw4 hw5 hw6 hw7 (Nat.le_of_ble_eq_true rfl) (Nat.le_of_ble_eq_true rfl) (Nat.zero_le _) (Nat.zero_le _) dX6_letGreet_35 ?_
        obtain ⟨t_10, et_10, hf⟩ := nm_of hf
        rw [← et_10]
        obtain ⟨r_11, w_12, hc, hf⟩ := bd2_of hf
        refine k_V (As := [.int 5, .int t_10]) (rest := []) (ws1 := (kHouse G q0 v0 ++ kRef G q1 w_12)) ⟨hx, hb, hml, hown, hts⟩ (c_X11_note l D G q1 5 t_10 v1 _ _ hc  _) (cwV 2 hts gX6_letGreet_X11_note rfl rfl rfl (by decide +kernel) ⟨Nat.le_of_ble_eq_true rfl, Nat.le_of_ble_eq_true rfl⟩) hl.1 (Nat.le_of_ble_eq_true rfl) dX6_letGreet_38 ⟨Nat.le_of_ble_eq_true rfl, Nat.le_of_ble_eq_true rfl⟩ rfl kT_bl (fun _ _ _ => trivial) hN hK hP hD hS hA 15 9 rfl rfl rfl [15] [0, 1, 2, 3, 4, 5, 6, 7, 8, 9, 10, 11, 12, 13, 14] [0, 1, 2, 3, 4, 5, 6, 7, 8, 9, 10, 11, 12, 13, 14, 15] [0, 1, 2, 3] rfl rfl rfl ⟨by decide, by decide, by decide, by decide⟩ rfl (fun H locs hP hD hS => ?_)
        obtain ⟨rfl, rfl, rfl⟩ := re3 hf
        exact hE hP hD hS dX6_letGreet_41
    · replace hf := ifT cc hf
      refine lv_aload_n hx hb dX6_letGreet_15 rfl (lv_at hl 3 rfl) ?_
      refine lv_iconst (v := 2) hx hb dX6_letGreet_16 (by decide) ?_
      refine lv_iload_n hx hb dX6_letGreet_17 rfl (lv_at hl 1 rfl) ?_
      obtain ⟨r_13, w_14, hc, hf⟩ := bd2_of hf
      refine k_V (As := [.int 2, .int a1]) (rest := []) (ws1 := (kHouse G q0 v0 ++ kRef G q1 w_14)) ⟨hx, hb, hml, hown, hts⟩ (c_X11_note l D G q1 2 a1 v1 _ _ hc  _) (cwV 2 hts gX6_letGreet_X11_note rfl rfl rfl (by decide +kernel) ⟨Nat.le_of_ble_eq_true rfl, Nat.le_of_ble_eq_true rfl⟩) hl.1 (Nat.le_of_ble_eq_true rfl) dX6_letGreet_18 ⟨Nat.le_of_ble_eq_true rfl, Nat.le_of_ble_eq_true rfl⟩ rfl kT_bl (fun _ _ _ => trivial) hN hK hP hD hS hA 15 9 rfl rfl rfl [15] [0, 1, 2, 3, 4, 5, 6, 7, 8, 9, 10, 11, 12, 13, 14] [0, 1, 2, 3, 4, 5, 6, 7, 8, 9, 10, 11, 12, 13, 14, 15] [0, 1, 2, 3] rfl rfl rfl ⟨by decide, by decide, by decide, by decide⟩ rfl (fun H locs hP hD hS => ?_)
      obtain ⟨rfl, rfl, rfl⟩ := re3 hf
      exact hE hP hD hS dX6_letGreet_21
  · replace hf := ifT cc hf
    refine lv_iconst (v := (-1)) hx hb dX6_letGreet_8 (by decide) ?_
    obtain ⟨rfl, rfl, rfl⟩ := re3 hf
    exact hE hP hD hS dX6_letGreet_9
def f_X6_givePlants (a1 : Int32) (a2 : Int32) (a3 : Int32) (v0 : SV) (v1 : SV) : Option (Int32 × SV × SV) :=
  bd1 (f_X12_areBalconies a1 a2) fun r_1 =>
  if r_1 = 0 then
    some ((-1), v0, v1)
  else
    if a3 < 1 then
      some ((-2), v0, v1)
    else
      if a3 ≤ 9 then
        if a1 = a2 then
          bd2 (f_X11_note 2 a1 v1) fun r_13 w_14 =>
          some (r_13, v0, w_14)
        else
          bd1 (f_X6_isFeud a1 a2 v0) fun r_2 =>
          if r_2 = 0 then
            ckI a1 12 <|
            if a3 ≤ (v0.2 0 a1.toNatClampNeg) then
              ckI a2 12 <|
              if ((v0.2 0 a2.toNatClampNeg) + a3) ≤ 9 then
                ckI a1 12 <|
                ckI a1 12 <|
                nm (pA v0 0 a1 ((v0.2 0 a1.toNatClampNeg) - a3)) fun v_3 =>
                ckI a2 12 <|
                ckI a2 12 <|
                nm (pA v_3 0 a2 ((v_3.2 0 a2.toNatClampNeg) + a3)) fun v_4 =>
                nm (pF v_4 1 ((v_4.1 1) + a3)) fun v_5 =>
                ckI a2 12 <|
                some ((v_5.2 0 a2.toNatClampNeg), v_5, v1)
              else
                ckI a2 12 <|
                bd2 (f_X11_note 4 (v0.2 0 a2.toNatClampNeg) v1) fun r_6 w_7 =>
                some (r_6, v0, w_7)
            else
              ckI a1 12 <|
              bd2 (f_X11_note 6 (v0.2 0 a1.toNatClampNeg) v1) fun r_8 w_9 =>
              some (r_8, v0, w_9)
          else
            nm (if a1 < a2 then a2 else a1) fun t_10 =>
            bd2 (f_X11_note 5 t_10 v1) fun r_11 w_12 =>
            some (r_11, v0, w_12)
      else
        some ((-2), v0, v1)
abbrev rm_X6_givePlants : Room := { frames := 2, cells := 0, slots := 0, locals := 49 }
set_option maxHeartbeats 4000000 in
set_option maxRecDepth 100000 in
theorem c_X6_givePlants (l : Launch) (D : va_G) (G : Nat → ClassId) (q0 : Nat → Nat) (q1 : Nat → Nat) (a1 : Int32) (a2 : Int32) (a3 : Int32) (v0 : SV) (v1 : SV) (r : Int32) (v0' : SV) (v1' : SV) (hf : f_X6_givePlants a1 a2 a3 v0 v1 = some (r, v0', v1')) (sz : Nat) : mC l yX6_givePlants wsX6_givePlants rm_X6_givePlants D (tyG G) kT [.ref (q0 0), .int a1, .int a2, .int a3, .ref (q1 0)] (kHouse G q0 v0 ++ kRef G q1 v1) (kHouse G q0 v0' ++ kRef G q1 v1') sz (some (.int r)) 0 0 := by
  refine mC_ofI (cc := cX6_givePlants) (maxL := 5) (ret := (some .int)) (by decide) rfl rfl (Nat.le_of_ble_eq_true rfl) ?_
  intro p e s m args below meth c Q0 hx hb hml hts hown hN hK A hD hA hE hP hS hJ ls hl
  have hl : lv_has ls 5 [(0, .ref (q0 0)), (1, .int a1), (2, .int a2), (3, .int a3), (4, .ref (q1 0))] := hl
  unfold f_X6_givePlants at hf
  have hi4 : ∀ w ∈ u_ws RX6 TX6 10, w ∈ wsX6_givePlants := by decide +kernel
  have hw1 := hts (.static yX12_areBalconies) (by decide +kernel)
  have hw2 := hts (.initialized RX12) (by decide +kernel)
  have hw3 := hts (.fieldLink RX6 9 "BalconyCensus$House" "plants" "[I") (by decide +kernel)
  have hw4 := hts (.fieldLink RX6 57 "BalconyCensus$House" "plantsGiven" "I") (by decide +kernel)
  have hw5 := hts (.methodLink RX6 112 Lib.Math.max.name) (by decide +kernel)
  have hw6 := hts (.static Lib.Math.max.name) (by decide +kernel)
  have hw7 := hts (.initialized "java/lang/Math") (by decide +kernel)
  have hw8 := hts (.code Lib.Math.max.name Lib.Math.max.code 2 (some .int)) (by decide +kernel)
  refine lv_iload_n hx hb dX6_givePlants_0 rfl (lv_at hl 1 rfl) ?_
  refine lv_iload_n hx hb dX6_givePlants_1 rfl (lv_at hl 2 rfl) ?_
  obtain ⟨r_1, hc, hf⟩ := bd1_of hf
  refine k_SN (As := [.int a1, .int a2]) (rest := []) (host := "BalconyCensus") (ws1 := (kHouse G q0 v0 ++ kRef G q1 v1)) ⟨hx, hb, hml, hown, hts⟩ (c_X12_areBalconies l D G  a1 a2  _ hc  _) ⟨va_cnB 2 hts gX6_givePlants_X12_areBalconies_n92 rfl rfl rfl (hN (RX6, 92, yX12_areBalconies) (by decide +kernel)) hw2 (by decide +kernel) ⟨Nat.le_of_ble_eq_true rfl, Nat.le_of_ble_eq_true rfl⟩, hw1, trivial⟩ hl.1 (Nat.le_of_ble_eq_true rfl) dX6_givePlants_2 ⟨Nat.le_of_ble_eq_true rfl, Nat.le_of_ble_eq_true rfl⟩ rfl kT_bl (fun _ _ _ => trivial) hN hK hP hD hS hA [] [0, 1, 2, 3, 4, 5, 6, 7, 8, 9, 10, 11, 12, 13, 14, 15] [0, 1, 2, 3, 4, 5, 6, 7, 8, 9, 10, 11, 12, 13, 14, 15] [0, 1, 2, 3] rfl rfl rfl ⟨by decide, by decide, by decide, by decide⟩ rfl (fun H locs hP hD hS => ?_)
  refine lv_if_ne (tgt := 10) hx hb dX6_givePlants_5 (by decide) (fun cc => ?_) (fun cc => ?_)
  · replace hf := ifF cc hf
    refine lv_iload_n hx hb dX6_givePlants_10 rfl (lv_at hl 3 rfl) ?_
    refine lv_iconst (v := 1) hx hb dX6_givePlants_11 (by decide) ?_
    refine lv_icmp_lt (tgt := 21) hx hb dX6_givePlants_12 (by decide) (fun cc => ?_) (fun cc => ?_)
    · replace hf := ifT cc hf
      refine lv_bipush (v := (-2)) hx hb dX6_givePlants_21 (by decide +kernel) ?_
      obtain ⟨rfl, rfl, rfl⟩ := re3 hf
      exact hE hP hD hS dX6_givePlants_23
    · replace hf := ifF cc hf
      refine lv_iload_n hx hb dX6_givePlants_15 rfl (lv_at hl 3 rfl) ?_
      refine lv_bipush (v := 9) hx hb dX6_givePlants_16 (by decide +kernel) ?_
      refine lv_icmp_le (tgt := 24) hx hb dX6_givePlants_18 (by decide) (fun cc => ?_) (fun cc => ?_)
      · replace hf := ifT cc hf
        refine lv_iload_n hx hb dX6_givePlants_24 rfl (lv_at hl 1 rfl) ?_
        refine lv_iload_n hx hb dX6_givePlants_25 rfl (lv_at hl 2 rfl) ?_
        refine lv_icmp_ne (tgt := 37) hx hb dX6_givePlants_26 (by decide) (fun cc => ?_) (fun cc => ?_)
        · replace hf := ifF cc hf
          refine lv_aload_n hx hb dX6_givePlants_37 rfl (lv_at hl 0 rfl) ?_
          refine lv_iload_n hx hb dX6_givePlants_38 rfl (lv_at hl 1 rfl) ?_
          refine lv_iload_n hx hb dX6_givePlants_39 rfl (lv_at hl 2 rfl) ?_
          obtain ⟨r_2, hc, hf⟩ := bd1_of hf
          refine k_V (As := [.int a1, .int a2]) (rest := []) (ws1 := (kHouse G q0 v0 ++ kRef G q1 v1)) ⟨hx, hb, hml, hown, hts⟩ (c_X6_isFeud l D G q0 a1 a2 v0 _ hc  _) (cwV 2 hts gX6_givePlants_X6_isFeud rfl rfl rfl (by decide +kernel) ⟨Nat.le_of_ble_eq_true rfl, Nat.le_of_ble_eq_true rfl⟩) hl.1 (Nat.le_of_ble_eq_true rfl) dX6_givePlants_40 ⟨Nat.le_of_ble_eq_true rfl, Nat.le_of_ble_eq_true rfl⟩ rfl kT_bl (fun _ _ _ => trivial) hN hK hP hD hS hA 0 4 rfl rfl rfl [0, 1, 2, 3, 4, 5, 6, 7, 8, 9, 10, 11, 12, 13, 14] [15] [1, 2, 3, 4, 5, 6, 7, 8, 9, 10, 11, 12, 13, 14, 15, 0] [0, 1, 2, 3] rfl rfl rfl ⟨by decide, by decide, by decide, by decide⟩ rfl (fun H locs hP hD hS => ?_)
          refine lv_if_eq (tgt := 58) hx hb dX6_givePlants_43 (by decide) (fun cc => ?_) (fun cc => ?_)
          · replace hf := ifT cc hf
            refine lv_aload_n hx hb dX6_givePlants_58 rfl (lv_at hl 0 rfl) ?_
            refine va_get (D := D) (ci := 4) (v := .ref (q0 1)) (C := RX6) (T := TX6) (N := 10) hx hb hts hi4 hown hK hP 0 rfl rfl 0 (by decide) hw3 (fun _ h9 => h9) rfl dX6_givePlants_59 ?_
            refine lv_iload_n hx hb dX6_givePlants_62 rfl (lv_at hl 1 rfl) ?_
            obtain ⟨hin, hf⟩ := ckI_of hf
            refine va_iald (D := D) hx hb hK hP 1 0 rfl rfl hin dX6_givePlants_63 ?_
            refine lv_iload_n hx hb dX6_givePlants_64 rfl (lv_at hl 3 rfl) ?_
            refine lv_icmp_ge (tgt := 82) hx hb dX6_givePlants_65 (by decide) (fun cc => ?_) (fun cc => ?_)
            · replace hf := ifT cc hf
              refine lv_aload_n hx hb dX6_givePlants_82 rfl (lv_at hl 0 rfl) ?_
              refine va_get (D := D) (ci := 4) (v := .ref (q0 1)) (C := RX6) (T := TX6) (N := 10) hx hb hts hi4 hown hK hP 0 rfl rfl 0 (by decide) hw3 (fun _ h9 => h9) rfl dX6_givePlants_83 ?_
              refine lv_iload_n hx hb dX6_givePlants_86 rfl (lv_at hl 2 rfl) ?_
              obtain ⟨hin, hf⟩ := ckI_of hf
              refine va_iald (D := D) hx hb hK hP 1 0 rfl rfl hin dX6_givePlants_87 ?_
              refine lv_iload_n hx hb dX6_givePlants_88 rfl (lv_at hl 3 rfl) ?_
              refine lv_iadd hx hb dX6_givePlants_89 ?_
              refine lv_bipush (v := 9) hx hb dX6_givePlants_90 (by decide +kernel) ?_
              refine lv_icmp_le (tgt := 108) hx hb dX6_givePlants_92 (by decide) (fun cc => ?_) (fun cc => ?_)
              · replace hf := ifT cc hf
                refine lv_aload_n hx hb dX6_givePlants_108 rfl (lv_at hl 0 rfl) ?_
                refine va_get (D := D) (ci := 4) (v := .ref (q0 1)) (C := RX6) (T := TX6) (N := 10) hx hb hts hi4 hown hK hP 0 rfl rfl 0 (by decide) hw3 (fun _ h9 => h9) rfl dX6_givePlants_109 ?_
                refine lv_iload_n hx hb dX6_givePlants_112 rfl (lv_at hl 1 rfl) ?_
                refine lv_dup2_11 hx hb dX6_givePlants_113 rfl rfl ?_
                obtain ⟨hin, hf⟩ := ckI_of hf
                refine va_iald (D := D) hx hb hK hP 1 0 rfl rfl hin dX6_givePlants_114 ?_
                refine lv_iload_n hx hb dX6_givePlants_115 rfl (lv_at hl 3 rfl) ?_
                refine lv_isub hx hb dX6_givePlants_116 ?_
                obtain ⟨hin, hf⟩ := ckI_of hf
                obtain ⟨v_3, ev_3, hf⟩ := nm_of hf
                refine va_iast (D := D) hx hb hK hP hD hS 1 0 rfl rfl hin dX6_givePlants_117 (fun H locs hP hD hS => ?_)
                have hP : va_P D vwCl (kHouse G q0 v_3 ++ kRef G q1 v1) H := by rw [ev_3]; exact hP
                have hD : va_D A (kHouse G q0 v_3 ++ kRef G q1 v1) := by rw [ev_3]; exact hD
                refine lv_aload_n hx hb dX6_givePlants_118 rfl (lv_at hl 0 rfl) ?_
                refine va_get (D := D) (ci := 4) (v := .ref (q0 1)) (C := RX6) (T := TX6) (N := 10) hx hb hts hi4 hown hK hP 0 rfl rfl 0 (by decide) hw3 (fun _ h9 => h9) rfl dX6_givePlants_119 ?_
                refine lv_iload_n hx hb dX6_givePlants_122 rfl (lv_at hl 2 rfl) ?_
                refine lv_dup2_11 hx hb dX6_givePlants_123 rfl rfl ?_
                obtain ⟨hin, hf⟩ := ckI_of hf
                refine va_iald (D := D) hx hb hK hP 1 0 rfl rfl hin dX6_givePlants_124 ?_
                refine lv_iload_n hx hb dX6_givePlants_125 rfl (lv_at hl 3 rfl) ?_
                refine lv_iadd hx hb dX6_givePlants_126 ?_
                obtain ⟨hin, hf⟩ := ckI_of hf
                obtain ⟨v_4, ev_4, hf⟩ := nm_of hf
                refine va_iast (D := D) hx hb hK hP hD hS 1 0 rfl rfl hin dX6_givePlants_127 (fun H locs hP hD hS => ?_)
                have hP : va_P D vwCl (kHouse G q0 v_4 ++ kRef G q1 v1) H := by rw [ev_4]; exact hP
                have hD : va_D A (kHouse G q0 v_4 ++ kRef G q1 v1) := by rw [ev_4]; exact hD
                refine lv_aload_n hx hb dX6_givePlants_128 rfl (lv_at hl 0 rfl) ?_
                refine lv_dup hx hb dX6_givePlants_129 rfl ?_
                refine va_get (D := D) (ci := 4) (v := .int (v_4.1 1)) (C := RX6) (T := TX6) (N := 10) hx hb hts hi4 hown hK hP 0 rfl rfl 7 (by decide) hw4 (fun _ h9 => h9) rfl dX6_givePlants_130 ?_
                refine lv_iload_n hx hb dX6_givePlants_133 rfl (lv_at hl 3 rfl) ?_
                refine lv_iadd hx hb dX6_givePlants_134 ?_
                obtain ⟨v_5, ev_5, hf⟩ := nm_of hf
                refine va_put (D := D) (ci := 4) (v := .int ((v_4.1 1) + a3)) (ty := .int) (C := RX6) (T := TX6) (N := 10) hx hb hts hi4 tyX6 tyX6_ok nmX6 hown hK hP hD hS 0 rfl rfl 7 (by decide) hw4 (fun _ h9 => h9) rfl (by decide +kernel) rfl rfl (Nat.le_of_ble_eq_true rfl) dX6_givePlants_135 (fun H locs hP hD hS => ?_)
                have hP : va_P D vwCl (kHouse G q0 v_5 ++ kRef G q1 v1) H := by rw [ev_5]; exact hP
                have hD : va_D A (kHouse G q0 v_5 ++ kRef G q1 v1) := by rw [ev_5]; exact hD
                refine lv_aload_n hx hb dX6_givePlants_138 rfl (lv_at hl 0 rfl) ?_
                refine va_get (D := D) (ci := 4) (v := .ref (q0 1)) (C := RX6) (T := TX6) (N := 10) hx hb hts hi4 hown hK hP 0 rfl rfl 0 (by decide) hw3 (fun _ h9 => h9) rfl dX6_givePlants_139 ?_
                refine lv_iload_n hx hb dX6_givePlants_142 rfl (lv_at hl 2 rfl) ?_
                obtain ⟨hin, hf⟩ := ckI_of hf
                refine va_iald (D := D) hx hb hK hP 1 0 rfl rfl hin dX6_givePlants_143 ?_
                obtain ⟨rfl, rfl, rfl⟩ := re3 hf
                exact hE hP hD hS dX6_givePlants_144
              · replace hf := ifF cc hf
                refine lv_aload hx hb dX6_givePlants_95 (lv_at hl 4 rfl) ?_
                refine lv_iconst (v := 4) hx hb dX6_givePlants_97 (by decide) ?_
                refine lv_aload_n hx hb dX6_givePlants_98 rfl (lv_at hl 0 rfl) ?_
                refine va_get (D := D) (ci := 4) (v := .ref (q0 1)) (C := RX6) (T := TX6) (N := 10) hx hb hts hi4 hown hK hP 0 rfl rfl 0 (by decide) hw3 (fun _ h9 => h9) rfl dX6_givePlants_99 ?_
                refine lv_iload_n hx hb dX6_givePlants_102 rfl (lv_at hl 2 rfl) ?_
                obtain ⟨hin, hf⟩ := ckI_of hf
                refine va_iald (D := D) hx hb hK hP 1 0 rfl rfl hin dX6_givePlants_103 ?_
                obtain ⟨r_6, w_7, hc, hf⟩ := bd2_of hf
                refine k_V (As := [.int 4, .int (v0.2 0 a2.toNatClampNeg)]) (rest := []) (ws1 := (kHouse G q0 v0 ++ kRef G q1 w_7)) ⟨hx, hb, hml, hown, hts⟩ (c_X11_note l D G q1 4 (v0.2 0 a2.toNatClampNeg) v1 _ _ hc  _) (cwV 2 hts gX6_givePlants_X11_note rfl rfl rfl (by decide +kernel) ⟨Nat.le_of_ble_eq_true rfl, Nat.le_of_ble_eq_true rfl⟩) hl.1 (Nat.le_of_ble_eq_true rfl) dX6_givePlants_104 ⟨Nat.le_of_ble_eq_true rfl, Nat.le_of_ble_eq_true rfl⟩ rfl kT_bl (fun _ _ _ => trivial) hN hK hP hD hS hA 15 9 rfl rfl rfl [15] [0, 1, 2, 3, 4, 5, 6, 7, 8, 9, 10, 11, 12, 13, 14] [0, 1, 2, 3, 4, 5, 6, 7, 8, 9, 10, 11, 12, 13, 14, 15] [0, 1, 2, 3] rfl rfl rfl ⟨by decide, by decide, by decide, by decide⟩ rfl (fun H locs hP hD hS => ?_)
                obtain ⟨rfl, rfl, rfl⟩ := re3 hf
                exact hE hP hD hS dX6_givePlants_107
            · replace hf := ifF cc hf
              refine lv_aload hx hb dX6_givePlants_68 (lv_at hl 4 rfl) ?_
              refine lv_bipush (v := 6) hx hb dX6_givePlants_70 (by decide +kernel) ?_
              refine lv_aload_n hx hb dX6_givePlants_72 rfl (lv_at hl 0 rfl) ?_
              refine va_get (D := D) (ci := 4) (v := .ref (q0 1)) (C := RX6) (T := TX6) (N := 10) hx hb hts hi4 hown hK hP 0 rfl rfl 0 (by decide) hw3 (fun _ h9 => h9) rfl dX6_givePlants_73 ?_
              refine lv_iload_n hx hb dX6_givePlants_76 rfl (lv_at hl 1 rfl) ?_
              obtain ⟨hin, hf⟩ := ckI_of hf
              refine va_iald (D := D) hx hb hK hP 1 0 rfl rfl hin dX6_givePlants_77 ?_
              obtain ⟨r_8, w_9, hc, hf⟩ := bd2_of hf
              refine k_V (As := [.int 6, .int (v0.2 0 a1.toNatClampNeg)]) (rest := []) (ws1 := (kHouse G q0 v0 ++ kRef G q1 w_9)) ⟨hx, hb, hml, hown, hts⟩ (c_X11_note l D G q1 6 (v0.2 0 a1.toNatClampNeg) v1 _ _ hc  _) (cwV 2 hts gX6_givePlants_X11_note rfl rfl rfl (by decide +kernel) ⟨Nat.le_of_ble_eq_true rfl, Nat.le_of_ble_eq_true rfl⟩) hl.1 (Nat.le_of_ble_eq_true rfl) dX6_givePlants_78 ⟨Nat.le_of_ble_eq_true rfl, Nat.le_of_ble_eq_true rfl⟩ rfl kT_bl (fun _ _ _ => trivial) hN hK hP hD hS hA 15 9 rfl rfl rfl [15] [0, 1, 2, 3, 4, 5, 6, 7, 8, 9, 10, 11, 12, 13, 14] [0, 1, 2, 3, 4, 5, 6, 7, 8, 9, 10, 11, 12, 13, 14, 15] [0, 1, 2, 3] rfl rfl rfl ⟨by decide, by decide, by decide, by decide⟩ rfl (fun H locs hP hD hS => ?_)
              obtain ⟨rfl, rfl, rfl⟩ := re3 hf
              exact hE hP hD hS dX6_givePlants_81
          · replace hf := ifF cc hf
            refine lv_aload hx hb dX6_givePlants_46 (lv_at hl 4 rfl) ?_
            refine lv_iconst (v := 5) hx hb dX6_givePlants_48 (by decide) ?_
            refine lv_iload_n hx hb dX6_givePlants_49 rfl (lv_at hl 1 rfl) ?_
            refine lv_iload_n hx hb dX6_givePlants_50 rfl (lv_at hl 2 rfl) ?_
            refine va_mmax hx hb (hml.trans hl.1.symm) hown hw5 hw6 hw7 hw8 (Nat.le_of_ble_eq_true rfl) (Nat.le_of_ble_eq_true rfl) (Nat.zero_le _) (Nat.zero_le _) dX6_givePlants_51 ?_
            obtain ⟨t_10, et_10, hf⟩ := nm_of hf
            rw [← et_10]
            obtain ⟨r_11, w_12, hc, hf⟩ := bd2_of hf
            refine k_V (As := [.int 5, .int t_10]) (rest := []) (ws1 := (kHouse G q0 v0 ++ kRef G q1 w_12)) ⟨hx, hb, hml, hown, hts⟩ (c_X11_note l D G q1 5 t_10 v1 _ _ hc  _) (cwV 2 hts gX6_givePlants_X11_note rfl rfl rfl (by decide +kernel) ⟨Nat.le_of_ble_eq_true rfl, Nat.le_of_ble_eq_true rfl⟩) hl.1 (Nat.le_of_ble_eq_true rfl) dX6_givePlants_54 ⟨Nat.le_of_ble_eq_true rfl, Nat.le_of_ble_eq_true rfl⟩ rfl kT_bl (fun _ _ _ => trivial) hN hK hP hD hS hA 15 9 rfl rfl rfl [15] [0, 1, 2, 3, 4, 5, 6, 7, 8, 9, 10, 11, 12, 13, 14] [0, 1, 2, 3, 4, 5, 6, 7, 8, 9, 10, 11, 12, 13, 14, 15] [0, 1, 2, 3] rfl rfl rfl ⟨by decide, by decide, by decide, by decide⟩ rfl (fun H locs hP hD hS => ?_)
            obtain ⟨rfl, rfl, rfl⟩ := re3 hf
            exact hE hP hD hS dX6_givePlants_57
        · replace hf := ifT cc hf
          refine lv_aload hx hb dX6_givePlants_29 (lv_at hl 4 rfl) ?_
          refine lv_iconst (v := 2) hx hb dX6_givePlants_31 (by decide) ?_
          refine lv_iload_n hx hb dX6_givePlants_32 rfl (lv_at hl 1 rfl) ?_
          obtain ⟨r_13, w_14, hc, hf⟩ := bd2_of hf
          refine k_V (As := [.int 2, .int a1]) (rest := []) (ws1 := (kHouse G q0 v0 ++ kRef G q1 w_14)) ⟨hx, hb, hml, hown, hts⟩ (c_X11_note l D G q1 2 a1 v1 _ _ hc  _) (cwV 2 hts gX6_givePlants_X11_note rfl rfl rfl (by decide +kernel) ⟨Nat.le_of_ble_eq_true rfl, Nat.le_of_ble_eq_true rfl⟩) hl.1 (Nat.le_of_ble_eq_true rfl) dX6_givePlants_33 ⟨Nat.le_of_ble_eq_true rfl, Nat.le_of_ble_eq_true rfl⟩ rfl kT_bl (fun _ _ _ => trivial) hN hK hP hD hS hA 15 9 rfl rfl rfl [15] [0, 1, 2, 3, 4, 5, 6, 7, 8, 9, 10, 11, 12, 13, 14] [0, 1, 2, 3, 4, 5, 6, 7, 8, 9, 10, 11, 12, 13, 14, 15] [0, 1, 2, 3] rfl rfl rfl ⟨by decide, by decide, by decide, by decide⟩ rfl (fun H locs hP hD hS => ?_)
          obtain ⟨rfl, rfl, rfl⟩ := re3 hf
          exact hE hP hD hS dX6_givePlants_36
      · replace hf := ifF cc hf
        refine lv_bipush (v := (-2)) hx hb dX6_givePlants_21 (by decide +kernel) ?_
        obtain ⟨rfl, rfl, rfl⟩ := re3 hf
        exact hE hP hD hS dX6_givePlants_23
  · replace hf := ifT cc hf
    refine lv_iconst (v := (-1)) hx hb dX6_givePlants_8 (by decide) ?_
    obtain ⟨rfl, rfl, rfl⟩ := re3 hf
    exact hE hP hD hS dX6_givePlants_9
def f_X6_letCatCome (a1 : Int32) (v0 : SV) (v1 : SV) : Option (Int32 × SV × SV) :=
  bd1 (f_X12_isBalcony a1) fun r_1 =>
  if r_1 = 0 then
    some ((-1), v0, v1)
  else
    bd1 (f_X1_catOn a1 v0) fun r_2 =>
    if r_2 < 0 then
      if (v0.1 6) < 6 then
        bd2 (f_X1_add a1 v0) fun r_3 w_4 =>
        nm (mCats v0 w_4) fun v_5 =>
        some (r_3, v_5, v1)
      else
        bd2 (f_X11_note 1 6 v1) fun r_6 w_7 =>
        some (r_6, v0, w_7)
    else
      bd2 (f_X11_note 8 r_2 v1) fun r_8 w_9 =>
      some (r_8, v0, w_9)
abbrev rm_X6_letCatCome : Room := { frames := 1, cells := 0, slots := 0, locals := 22 }
set_option maxHeartbeats 4000000 in
set_option maxRecDepth 100000 in
theorem c_X6_letCatCome (l : Launch) (D : va_G) (G : Nat → ClassId) (q0 : Nat → Nat) (q1 : Nat → Nat) (a1 : Int32) (v0 : SV) (v1 : SV) (r : Int32) (v0' : SV) (v1' : SV) (hf : f_X6_letCatCome a1 v0 v1 = some (r, v0', v1')) (sz : Nat) : mC l yX6_letCatCome wsX6_letCatCome rm_X6_letCatCome D (tyG G) kT [.ref (q0 0), .int a1, .ref (q1 0)] (kHouse G q0 v0 ++ kRef G q1 v1) (kHouse G q0 v0' ++ kRef G q1 v1') sz (some (.int r)) 0 0 := by
  refine mC_ofI (cc := cX6_letCatCome) (maxL := 4) (ret := (some .int)) (by decide) rfl rfl (Nat.le_of_ble_eq_true rfl) ?_
  intro p e s m args below meth c Q0 hx hb hml hts hown hN hK A hD hA hE hP hS hJ ls hl
  have hl : lv_has ls 4 [(0, .ref (q0 0)), (1, .int a1), (2, .ref (q1 0))] := hl
  unfold f_X6_letCatCome at hf
  have hi4 : ∀ w ∈ u_ws RX6 TX6 10, w ∈ wsX6_letCatCome := by decide +kernel
  have hi1 : ∀ w ∈ u_ws RX1 TX1 4, w ∈ wsX6_letCatCome := by decide +kernel
  have hw1 := hts (.static yX12_isBalcony) (by decide +kernel)
  have hw2 := hts (.initialized RX12) (by decide +kernel)
  have hw3 := hts (.fieldLink RX6 35 "BalconyCensus$House" "cats" "LBalconyCensus$Cats;") (by decide +kernel)
  have hw4 := hts (.fieldLink RX6 129 "BalconyCensus$Cats" "count" "I") (by decide +kernel)
  refine lv_iload_n hx hb dX6_letCatCome_0 rfl (lv_at hl 1 rfl) ?_
  obtain ⟨r_1, hc, hf⟩ := bd1_of hf
  refine k_SN (As := [.int a1]) (rest := []) (host := "BalconyCensus") (ws1 := (kHouse G q0 v0 ++ kRef G q1 v1)) ⟨hx, hb, hml, hown, hts⟩ (c_X12_isBalcony l D G  a1  _ hc  _) ⟨va_cnB 1 hts gX6_letCatCome_X12_isBalcony_n82 rfl rfl rfl (hN (RX6, 82, yX12_isBalcony) (by decide +kernel)) hw2 (by decide +kernel) ⟨Nat.le_of_ble_eq_true rfl, Nat.le_of_ble_eq_true rfl⟩, hw1, trivial⟩ hl.1 (Nat.le_of_ble_eq_true rfl) dX6_letCatCome_1 ⟨Nat.le_of_ble_eq_true rfl, Nat.le_of_ble_eq_true rfl⟩ rfl kT_bl (fun _ _ _ => trivial) hN hK hP hD hS hA [] [0, 1, 2, 3, 4, 5, 6, 7, 8, 9, 10, 11, 12, 13, 14, 15] [0, 1, 2, 3, 4, 5, 6, 7, 8, 9, 10, 11, 12, 13, 14, 15] [0, 1, 2, 3] rfl rfl rfl ⟨by decide, by decide, by decide, by decide⟩ rfl (fun H locs hP hD hS => ?_)
  refine lv_if_ne (tgt := 9) hx hb dX6_letCatCome_4 (by decide) (fun cc => ?_) (fun cc => ?_)
  · replace hf := ifF cc hf
    refine lv_aload_n hx hb dX6_letCatCome_9 rfl (lv_at hl 0 rfl) ?_
    refine va_get (D := D) (ci := 4) (v := .ref (q0 10)) (C := RX6) (T := TX6) (N := 10) hx hb hts hi4 hown hK hP 0 rfl rfl 4 (by decide) hw3 (fun _ h9 => h9) rfl dX6_letCatCome_10 ?_
    refine lv_iload_n hx hb dX6_letCatCome_13 rfl (lv_at hl 1 rfl) ?_
    obtain ⟨r_2, hc, hf⟩ := bd1_of hf
    refine k_V (As := [.int a1]) (rest := []) (ws1 := (kHouse G q0 v0 ++ kRef G q1 v1)) ⟨hx, hb, hml, hown, hts⟩ (c_X1_catOn l D G q0 a1 v0 _ hc  _) (cwV 1 hts gX6_letCatCome_X1_catOn rfl rfl rfl (by decide +kernel) ⟨Nat.le_of_ble_eq_true rfl, Nat.le_of_ble_eq_true rfl⟩) hl.1 (Nat.le_of_ble_eq_true rfl) dX6_letCatCome_14 ⟨Nat.le_of_ble_eq_true rfl, Nat.le_of_ble_eq_true rfl⟩ rfl kT_bl (fun _ _ _ => trivial) hN hK hP hD hS hA 10 1 rfl rfl rfl [10, 11, 12, 13] [0, 1, 2, 3, 4, 5, 6, 7, 8, 9, 14, 15] [0, 1, 2, 3, 4, 5, 6, 7, 8, 9, 12, 13, 14, 15, 10, 11] [0, 1, 2, 3] rfl rfl rfl ⟨by decide, by decide, by decide, by decide⟩ rfl (fun H locs hP hD hS => ?_)
    refine lv_istore_n (lv' := [(3, .int r_2), (0, .ref (q0 0)), (1, .int a1), (2, .ref (q1 0))]) hx hb dX6_letCatCome_17 rfl hl (by decide) rfl (fun ls hl => ?_)
    refine lv_iload_n hx hb dX6_letCatCome_18 rfl (lv_at hl 0 rfl) ?_
    refine lv_if_lt (tgt := 30) hx hb dX6_letCatCome_19 (by decide) (fun cc => ?_) (fun cc => ?_)
    · replace hf := ifT cc hf
      refine lv_aload_n hx hb dX6_letCatCome_30 rfl (lv_at hl 1 rfl) ?_
      refine va_get (D := D) (ci := 4) (v := .ref (q0 10)) (C := RX6) (T := TX6) (N := 10) hx hb hts hi4 hown hK hP 0 rfl rfl 4 (by decide) hw3 (fun _ h9 => h9) rfl dX6_letCatCome_31 ?_
      refine va_get (D := D) (ci := 1) (v := .int (v0.1 6)) (C := RX1) (T := TX1) (N := 4) hx hb hts hi1 hown hK hP 10 rfl rfl 3 (by decide) hw4 (fun _ h9 => h9) rfl dX6_letCatCome_34 ?_
      refine lv_bipush (v := 6) hx hb dX6_letCatCome_37 (by decide +kernel) ?_
      refine lv_icmp_lt (tgt := 50) hx hb dX6_letCatCome_39 (by decide) (fun cc => ?_) (fun cc => ?_)
      · replace hf := ifT cc hf
        refine lv_aload_n hx hb dX6_letCatCome_50 rfl (lv_at hl 1 rfl) ?_
        refine va_get (D := D) (ci := 4) (v := .ref (q0 10)) (C := RX6) (T := TX6) (N := 10) hx hb hts hi4 hown hK hP 0 rfl rfl 4 (by decide) hw3 (fun _ h9 => h9) rfl dX6_letCatCome_51 ?_
        refine lv_iload_n hx hb dX6_letCatCome_54 rfl (lv_at hl 2 rfl) ?_
        obtain ⟨r_3, w_4, hc, hf⟩ := bd2_of hf
        refine k_V (As := [.int a1]) (rest := []) (ws1 := (kHouse G q0 (mCats v0 w_4) ++ kRef G q1 v1)) ⟨hx, hb, hml, hown, hts⟩ (c_X1_add l D G q0 a1 v0 _ _ hc  _) (cwV 1 hts gX6_letCatCome_X1_add rfl rfl rfl (by decide +kernel) ⟨Nat.le_of_ble_eq_true rfl, Nat.le_of_ble_eq_true rfl⟩) hl.1 (Nat.le_of_ble_eq_true rfl) dX6_letCatCome_55 ⟨Nat.le_of_ble_eq_true rfl, Nat.le_of_ble_eq_true rfl⟩ rfl kT_bl (fun _ _ _ => trivial) hN hK hP hD hS hA 10 1 rfl rfl rfl [10, 11, 12, 13] [0, 1, 2, 3, 4, 5, 6, 7, 8, 9, 14, 15] [0, 1, 2, 3, 4, 5, 6, 7, 8, 9, 12, 13, 14, 15, 10, 11] [0, 1, 2, 3] rfl rfl rfl ⟨by decide, by decide, by decide, by decide⟩ rfl (fun H locs hP hD hS => ?_)
        obtain ⟨v_5, ev_5, hf⟩ := nm_of hf
        have hP : va_P D vwCl (kHouse G q0 v_5 ++ kRef G q1 v1) H := by rw [ev_5]; exact hP
        have hD : va_D A (kHouse G q0 v_5 ++ kRef G q1 v1) := by rw [ev_5]; exact hD
        obtain ⟨rfl, rfl, rfl⟩ := re3 hf
        exact hE hP hD hS dX6_letCatCome_58
      · replace hf := ifF cc hf
        refine lv_aload_n hx hb dX6_letCatCome_42 rfl (lv_at hl 3 rfl) ?_
        refine lv_iconst (v := 1) hx hb dX6_letCatCome_43 (by decide) ?_
        refine lv_bipush (v := 6) hx hb dX6_letCatCome_44 (by decide +kernel) ?_
        obtain ⟨r_6, w_7, hc, hf⟩ := bd2_of hf
        refine k_V (As := [.int 1, .int 6]) (rest := []) (ws1 := (kHouse G q0 v0 ++ kRef G q1 w_7)) ⟨hx, hb, hml, hown, hts⟩ (c_X11_note l D G q1 1 6 v1 _ _ hc  _) (cwV 2 hts gX6_letCatCome_X11_note rfl rfl rfl (by decide +kernel) ⟨Nat.le_of_ble_eq_true rfl, Nat.le_of_ble_eq_true rfl⟩) hl.1 (Nat.le_of_ble_eq_true rfl) dX6_letCatCome_46 ⟨Nat.le_of_ble_eq_true rfl, Nat.le_of_ble_eq_true rfl⟩ rfl kT_bl (fun _ _ _ => trivial) hN hK hP hD hS hA 15 9 rfl rfl rfl [15] [0, 1, 2, 3, 4, 5, 6, 7, 8, 9, 10, 11, 12, 13, 14] [0, 1, 2, 3, 4, 5, 6, 7, 8, 9, 10, 11, 12, 13, 14, 15] [0, 1, 2, 3] rfl rfl rfl ⟨by decide, by decide, by decide, by decide⟩ rfl (fun H locs hP hD hS => ?_)
        obtain ⟨rfl, rfl, rfl⟩ := re3 hf
        exact hE hP hD hS dX6_letCatCome_49
    · replace hf := ifF cc hf
      refine lv_aload_n hx hb dX6_letCatCome_22 rfl (lv_at hl 3 rfl) ?_
      refine lv_bipush (v := 8) hx hb dX6_letCatCome_23 (by decide +kernel) ?_
      refine lv_iload_n hx hb dX6_letCatCome_25 rfl (lv_at hl 0 rfl) ?_
      obtain ⟨r_8, w_9, hc, hf⟩ := bd2_of hf
      refine k_V (As := [.int 8, .int r_2]) (rest := []) (ws1 := (kHouse G q0 v0 ++ kRef G q1 w_9)) ⟨hx, hb, hml, hown, hts⟩ (c_X11_note l D G q1 8 r_2 v1 _ _ hc  _) (cwV 2 hts gX6_letCatCome_X11_note rfl rfl rfl (by decide +kernel) ⟨Nat.le_of_ble_eq_true rfl, Nat.le_of_ble_eq_true rfl⟩) hl.1 (Nat.le_of_ble_eq_true rfl) dX6_letCatCome_26 ⟨Nat.le_of_ble_eq_true rfl, Nat.le_of_ble_eq_true rfl⟩ rfl kT_bl (fun _ _ _ => trivial) hN hK hP hD hS hA 15 9 rfl rfl rfl [15] [0, 1, 2, 3, 4, 5, 6, 7, 8, 9, 10, 11, 12, 13, 14] [0, 1, 2, 3, 4, 5, 6, 7, 8, 9, 10, 11, 12, 13, 14, 15] [0, 1, 2, 3] rfl rfl rfl ⟨by decide, by decide, by decide, by decide⟩ rfl (fun H locs hP hD hS => ?_)
      obtain ⟨rfl, rfl, rfl⟩ := re3 hf
      exact hE hP hD hS dX6_letCatCome_29
  · replace hf := ifT cc hf
    refine lv_iconst (v := (-1)) hx hb dX6_letCatCome_7 (by decide) ?_
    obtain ⟨rfl, rfl, rfl⟩ := re3 hf
    exact hE hP hD hS dX6_letCatCome_8
def f_X6_swapCats (a1 : Int32) (a2 : Int32) (v0 : SV) (v1 : SV) : Option (Int32 × SV × SV) :=
  bd1 (f_X12_areBalconies a1 a2) fun r_1 =>
  if r_1 = 0 then
    some ((-1), v0, v1)
  else
    if a1 = a2 then
      bd2 (f_X11_note 2 a1 v1) fun r_22 w_23 =>
      some (r_22, v0, w_23)
    else
      bd1 (f_X6_isFeud a1 a2 v0) fun r_2 =>
      if r_2 = 0 then
        bd1 (f_X1_catOn a1 v0) fun r_3 =>
        bd1 (f_X1_catOn a2 v0) fun r_4 =>
        if 0 ≤ r_3 then
          bd2 (f_X1_move r_3 a2 v0) fun r_5 w_6 =>
          nm (mCats v0 w_6) fun v_7 =>
          bd2 (f_X1_move r_4 a1 v_7) fun r_8 w_9 =>
          nm (mCats v_7 w_9) fun v_10 =>
          some ((r_5 + r_8), v_10, v1)
        else
          if 0 ≤ r_4 then
            bd2 (f_X1_move r_3 a2 v0) fun r_11 w_12 =>
            nm (mCats v0 w_12) fun v_13 =>
            bd2 (f_X1_move r_4 a1 v_13) fun r_14 w_15 =>
            nm (mCats v_13 w_15) fun v_16 =>
            some ((r_11 + r_14), v_16, v1)
          else
            bd2 (f_X11_note 9 (v0.1 6) v1) fun r_17 w_18 =>
            some (r_17, v0, w_18)
      else
        nm (if a1 < a2 then a2 else a1) fun t_19 =>
        bd2 (f_X11_note 5 t_19 v1) fun r_20 w_21 =>
        some (r_20, v0, w_21)
abbrev rm_X6_swapCats : Room := { frames := 2, cells := 0, slots := 0, locals := 49 }
set_option maxHeartbeats 4000000 in
set_option maxRecDepth 100000 in
theorem c_X6_swapCats (l : Launch) (D : va_G) (G : Nat → ClassId) (q0 : Nat → Nat) (q1 : Nat → Nat) (a1 : Int32) (a2 : Int32) (v0 : SV) (v1 : SV) (r : Int32) (v0' : SV) (v1' : SV) (hf : f_X6_swapCats a1 a2 v0 v1 = some (r, v0', v1')) (sz : Nat) : mC l yX6_swapCats wsX6_swapCats rm_X6_swapCats D (tyG G) kT [.ref (q0 0), .int a1, .int a2, .ref (q1 0)] (kHouse G q0 v0 ++ kRef G q1 v1) (kHouse G q0 v0' ++ kRef G q1 v1') sz (some (.int r)) 0 0 := by
  refine mC_ofI (cc := cX6_swapCats) (maxL := 6) (ret := (some .int)) (by decide) rfl rfl (Nat.le_of_ble_eq_true rfl) ?_
  intro p e s m args below meth c Q0 hx hb hml hts hown hN hK A hD hA hE hP hS hJ ls hl
  have hl : lv_has ls 6 [(0, .ref (q0 0)), (1, .int a1), (2, .int a2), (3, .ref (q1 0))] := hl
  unfold f_X6_swapCats at hf
  have hi4 : ∀ w ∈ u_ws RX6 TX6 10, w ∈ wsX6_swapCats := by decide +kernel
  have hi1 : ∀ w ∈ u_ws RX1 TX1 4, w ∈ wsX6_swapCats := by decide +kernel
  have hw1 := hts (.static yX12_areBalconies) (by decide +kernel)
  have hw2 := hts (.initialized RX12) (by decide +kernel)
  have hw3 := hts (.fieldLink RX6 35 "BalconyCensus$House" "cats" "LBalconyCensus$Cats;") (by decide +kernel)
  have hw4 := hts (.fieldLink RX6 129 "BalconyCensus$Cats" "count" "I") (by decide +kernel)
  have hw5 := hts (.methodLink RX6 112 Lib.Math.max.name) (by decide +kernel)
  have hw6 := hts (.static Lib.Math.max.name) (by decide +kernel)
  have hw7 := hts (.initialized "java/lang/Math") (by decide +kernel)
  have hw8 := hts (.code Lib.Math.max.name Lib.Math.max.code 2 (some .int)) (by decide +kernel)
  refine lv_iload_n hx hb dX6_swapCats_0 rfl (lv_at hl 1 rfl) ?_
  refine lv_iload_n hx hb dX6_swapCats_1 rfl (lv_at hl 2 rfl) ?_
  obtain ⟨r_1, hc, hf⟩ := bd1_of hf
  refine k_SN (As := [.int a1, .int a2]) (rest := []) (host := "BalconyCensus") (ws1 := (kHouse G q0 v0 ++ kRef G q1 v1)) ⟨hx, hb, hml, hown, hts⟩ (c_X12_areBalconies l D G  a1 a2  _ hc  _) ⟨va_cnB 2 hts gX6_swapCats_X12_areBalconies_n92 rfl rfl rfl (hN (RX6, 92, yX12_areBalconies) (by decide +kernel)) hw2 (by decide +kernel) ⟨Nat.le_of_ble_eq_true rfl, Nat.le_of_ble_eq_true rfl⟩, hw1, trivial⟩ hl.1 (Nat.le_of_ble_eq_true rfl) dX6_swapCats_2 ⟨Nat.le_of_ble_eq_true rfl, Nat.le_of_ble_eq_true rfl⟩ rfl kT_bl (fun _ _ _ => trivial) hN hK hP hD hS hA [] [0, 1, 2, 3, 4, 5, 6, 7, 8, 9, 10, 11, 12, 13, 14, 15] [0, 1, 2, 3, 4, 5, 6, 7, 8, 9, 10, 11, 12, 13, 14, 15] [0, 1, 2, 3] rfl rfl rfl ⟨by decide, by decide, by decide, by decide⟩ rfl (fun H locs hP hD hS => ?_)
  refine lv_if_ne (tgt := 10) hx hb dX6_swapCats_5 (by decide) (fun cc => ?_) (fun cc => ?_)
  · replace hf := ifF cc hf
    refine lv_iload_n hx hb dX6_swapCats_10 rfl (lv_at hl 1 rfl) ?_
    refine lv_iload_n hx hb dX6_swapCats_11 rfl (lv_at hl 2 rfl) ?_
    refine lv_icmp_ne (tgt := 22) hx hb dX6_swapCats_12 (by decide) (fun cc => ?_) (fun cc => ?_)
    · replace hf := ifF cc hf
      refine lv_aload_n hx hb dX6_swapCats_22 rfl (lv_at hl 0 rfl) ?_
      refine lv_iload_n hx hb dX6_swapCats_23 rfl (lv_at hl 1 rfl) ?_
      refine lv_iload_n hx hb dX6_swapCats_24 rfl (lv_at hl 2 rfl) ?_
      obtain ⟨r_2, hc, hf⟩ := bd1_of hf
      refine k_V (As := [.int a1, .int a2]) (rest := []) (ws1 := (kHouse G q0 v0 ++ kRef G q1 v1)) ⟨hx, hb, hml, hown, hts⟩ (c_X6_isFeud l D G q0 a1 a2 v0 _ hc  _) (cwV 2 hts gX6_swapCats_X6_isFeud rfl rfl rfl (by decide +kernel) ⟨Nat.le_of_ble_eq_true rfl, Nat.le_of_ble_eq_true rfl⟩) hl.1 (Nat.le_of_ble_eq_true rfl) dX6_swapCats_25 ⟨Nat.le_of_ble_eq_true rfl, Nat.le_of_ble_eq_true rfl⟩ rfl kT_bl (fun _ _ _ => trivial) hN hK hP hD hS hA 0 4 rfl rfl rfl [0, 1, 2, 3, 4, 5, 6, 7, 8, 9, 10, 11, 12, 13, 14] [15] [1, 2, 3, 4, 5, 6, 7, 8, 9, 10, 11, 12, 13, 14, 15, 0] [0, 1, 2, 3] rfl rfl rfl ⟨by decide, by decide, by decide, by decide⟩ rfl (fun H locs hP hD hS => ?_)
      refine lv_if_eq (tgt := 42) hx hb dX6_swapCats_28 (by decide) (fun cc => ?_) (fun cc => ?_)
      · replace hf := ifT cc hf
        refine lv_aload_n hx hb dX6_swapCats_42 rfl (lv_at hl 0 rfl) ?_
        refine va_get (D := D) (ci := 4) (v := .ref (q0 10)) (C := RX6) (T := TX6) (N := 10) hx hb hts hi4 hown hK hP 0 rfl rfl 4 (by decide) hw3 (fun _ h9 => h9) rfl dX6_swapCats_43 ?_
        refine lv_iload_n hx hb dX6_swapCats_46 rfl (lv_at hl 1 rfl) ?_
        obtain ⟨r_3, hc, hf⟩ := bd1_of hf
        refine k_V (As := [.int a1]) (rest := []) (ws1 := (kHouse G q0 v0 ++ kRef G q1 v1)) ⟨hx, hb, hml, hown, hts⟩ (c_X1_catOn l D G q0 a1 v0 _ hc  _) (cwV 1 hts gX6_swapCats_X1_catOn rfl rfl rfl (by decide +kernel) ⟨Nat.le_of_ble_eq_true rfl, Nat.le_of_ble_eq_true rfl⟩) hl.1 (Nat.le_of_ble_eq_true rfl) dX6_swapCats_47 ⟨Nat.le_of_ble_eq_true rfl, Nat.le_of_ble_eq_true rfl⟩ rfl kT_bl (fun _ _ _ => trivial) hN hK hP hD hS hA 10 1 rfl rfl rfl [10, 11, 12, 13] [0, 1, 2, 3, 4, 5, 6, 7, 8, 9, 14, 15] [0, 1, 2, 3, 4, 5, 6, 7, 8, 9, 12, 13, 14, 15, 10, 11] [0, 1, 2, 3] rfl rfl rfl ⟨by decide, by decide, by decide, by decide⟩ rfl (fun H locs hP hD hS => ?_)
        refine lv_istore (lv' := [(4, .int r_3), (0, .ref (q0 0)), (1, .int a1), (2, .int a2), (3, .ref (q1 0))]) hx hb dX6_swapCats_50 hl (by decide) rfl (fun ls hl => ?_)
        refine lv_aload_n hx hb dX6_swapCats_52 rfl (lv_at hl 1 rfl) ?_
        refine va_get (D := D) (ci := 4) (v := .ref (q0 10)) (C := RX6) (T := TX6) (N := 10) hx hb hts hi4 hown hK hP 0 rfl rfl 4 (by decide) hw3 (fun _ h9 => h9) rfl dX6_swapCats_53 ?_
        refine lv_iload_n hx hb dX6_swapCats_56 rfl (lv_at hl 3 rfl) ?_
        obtain ⟨r_4, hc, hf⟩ := bd1_of hf
        refine k_V (As := [.int a2]) (rest := []) (ws1 := (kHouse G q0 v0 ++ kRef G q1 v1)) ⟨hx, hb, hml, hown, hts⟩ (c_X1_catOn l D G q0 a2 v0 _ hc  _) (cwV 1 hts gX6_swapCats_X1_catOn rfl rfl rfl (by decide +kernel) ⟨Nat.le_of_ble_eq_true rfl, Nat.le_of_ble_eq_true rfl⟩) hl.1 (Nat.le_of_ble_eq_true rfl) dX6_swapCats_57 ⟨Nat.le_of_ble_eq_true rfl, Nat.le_of_ble_eq_true rfl⟩ rfl kT_bl (fun _ _ _ => trivial) hN hK hP hD hS hA 10 1 rfl rfl rfl [10, 11, 12, 13] [0, 1, 2, 3, 4, 5, 6, 7, 8, 9, 14, 15] [0, 1, 2, 3, 4, 5, 6, 7, 8, 9, 12, 13, 14, 15, 10, 11] [0, 1, 2, 3] rfl rfl rfl ⟨by decide, by decide, by decide, by decide⟩ rfl (fun H locs hP hD hS => ?_)
        refine lv_istore (lv' := [(5, .int r_4), (4, .int r_3), (0, .ref (q0 0)), (1, .int a1), (2, .int a2), (3, .ref (q1 0))]) hx hb dX6_swapCats_60 hl (by decide) rfl (fun ls hl => ?_)
        refine lv_iload hx hb dX6_swapCats_62 (lv_at hl 1 rfl) ?_
        refine lv_if_ge (tgt := 86) hx hb dX6_swapCats_64 (by decide) (fun cc => ?_) (fun cc => ?_)
        · replace hf := ifT cc hf
          refine lv_aload_n hx hb dX6_swapCats_86 rfl (lv_at hl 2 rfl) ?_
          refine va_get (D := D) (ci := 4) (v := .ref (q0 10)) (C := RX6) (T := TX6) (N := 10) hx hb hts hi4 hown hK hP 0 rfl rfl 4 (by decide) hw3 (fun _ h9 => h9) rfl dX6_swapCats_87 ?_
          refine lv_iload hx hb dX6_swapCats_90 (lv_at hl 1 rfl) ?_
          refine lv_iload_n hx hb dX6_swapCats_92 rfl (lv_at hl 4 rfl) ?_
          obtain ⟨r_5, w_6, hc, hf⟩ := bd2_of hf
          refine k_V (As := [.int r_3, .int a2]) (rest := []) (ws1 := (kHouse G q0 (mCats v0 w_6) ++ kRef G q1 v1)) ⟨hx, hb, hml, hown, hts⟩ (c_X1_move l D G q0 r_3 a2 v0 _ _ hc  _) (cwV 2 hts gX6_swapCats_X1_move rfl rfl rfl (by decide +kernel) ⟨Nat.le_of_ble_eq_true rfl, Nat.le_of_ble_eq_true rfl⟩) hl.1 (Nat.le_of_ble_eq_true rfl) dX6_swapCats_93 ⟨Nat.le_of_ble_eq_true rfl, Nat.le_of_ble_eq_true rfl⟩ rfl kT_bl (fun _ _ _ => trivial) hN hK hP hD hS hA 10 1 rfl rfl rfl [10, 11, 12, 13] [0, 1, 2, 3, 4, 5, 6, 7, 8, 9, 14, 15] [0, 1, 2, 3, 4, 5, 6, 7, 8, 9, 12, 13, 14, 15, 10, 11] [0, 1, 2, 3] rfl rfl rfl ⟨by decide, by decide, by decide, by decide⟩ rfl (fun H locs hP hD hS => ?_)
          obtain ⟨v_7, ev_7, hf⟩ := nm_of hf
          have hP : va_P D vwCl (kHouse G q0 v_7 ++ kRef G q1 v1) H := by rw [ev_7]; exact hP
          have hD : va_D A (kHouse G q0 v_7 ++ kRef G q1 v1) := by rw [ev_7]; exact hD
          refine lv_aload_n hx hb dX6_swapCats_96 rfl (lv_at hl 2 rfl) ?_
          refine va_get (D := D) (ci := 4) (v := .ref (q0 10)) (C := RX6) (T := TX6) (N := 10) hx hb hts hi4 hown hK hP 0 rfl rfl 4 (by decide) hw3 (fun _ h9 => h9) rfl dX6_swapCats_97 ?_
          refine lv_iload hx hb dX6_swapCats_100 (lv_at hl 0 rfl) ?_
          refine lv_iload_n hx hb dX6_swapCats_102 rfl (lv_at hl 3 rfl) ?_
          obtain ⟨r_8, w_9, hc, hf⟩ := bd2_of hf
          refine k_V (As := [.int r_4, .int a1]) (rest := [.int r_5]) (ws1 := (kHouse G q0 (mCats v_7 w_9) ++ kRef G q1 v1)) ⟨hx, hb, hml, hown, hts⟩ (c_X1_move l D G q0 r_4 a1 v_7 _ _ hc  _) (cwV 2 hts gX6_swapCats_X1_move rfl rfl rfl (by decide +kernel) ⟨Nat.le_of_ble_eq_true rfl, Nat.le_of_ble_eq_true rfl⟩) hl.1 (Nat.le_of_ble_eq_true rfl) dX6_swapCats_103 ⟨Nat.le_of_ble_eq_true rfl, Nat.le_of_ble_eq_true rfl⟩ rfl kT_bl (fun _ _ _ => trivial) hN hK hP hD hS hA 10 1 rfl rfl rfl [10, 11, 12, 13] [0, 1, 2, 3, 4, 5, 6, 7, 8, 9, 14, 15] [0, 1, 2, 3, 4, 5, 6, 7, 8, 9, 12, 13, 14, 15, 10, 11] [0, 1, 2, 3] rfl rfl rfl ⟨by decide, by decide, by decide, by decide⟩ rfl (fun H locs hP hD hS => ?_)
          obtain ⟨v_10, ev_10, hf⟩ := nm_of hf
          have hP : va_P D vwCl (kHouse G q0 v_10 ++ kRef G q1 v1) H := by rw [ev_10]; exact hP
          have hD : va_D A (kHouse G q0 v_10 ++ kRef G q1 v1) := by rw [ev_10]; exact hD
          refine lv_iadd hx hb dX6_swapCats_106 ?_
          obtain ⟨rfl, rfl, rfl⟩ := re3 hf
          exact hE hP hD hS dX6_swapCats_107
        · replace hf := ifF cc hf
          refine lv_iload hx hb dX6_swapCats_67 (lv_at hl 0 rfl) ?_
          refine lv_if_ge (tgt := 86) hx hb dX6_swapCats_69 (by decide) (fun cc => ?_) (fun cc => ?_)
          · replace hf := ifT cc hf
            refine lv_aload_n hx hb dX6_swapCats_86 rfl (lv_at hl 2 rfl) ?_
            refine va_get (D := D) (ci := 4) (v := .ref (q0 10)) (C := RX6) (T := TX6) (N := 10) hx hb hts hi4 hown hK hP 0 rfl rfl 4 (by decide) hw3 (fun _ h9 => h9) rfl dX6_swapCats_87 ?_
            refine lv_iload hx hb dX6_swapCats_90 (lv_at hl 1 rfl) ?_
            refine lv_iload_n hx hb dX6_swapCats_92 rfl (lv_at hl 4 rfl) ?_
            obtain ⟨r_11, w_12, hc, hf⟩ := bd2_of hf
            refine k_V (As := [.int r_3, .int a2]) (rest := []) (ws1 := (kHouse G q0 (mCats v0 w_12) ++ kRef G q1 v1)) ⟨hx, hb, hml, hown, hts⟩ (c_X1_move l D G q0 r_3 a2 v0 _ _ hc  _) (cwV 2 hts gX6_swapCats_X1_move rfl rfl rfl (by decide +kernel) ⟨Nat.le_of_ble_eq_true rfl, Nat.le_of_ble_eq_true rfl⟩) hl.1 (Nat.le_of_ble_eq_true rfl) dX6_swapCats_93 ⟨Nat.le_of_ble_eq_true rfl, Nat.le_of_ble_eq_true rfl⟩ rfl kT_bl (fun _ _ _ => trivial) hN hK hP hD hS hA 10 1 rfl rfl rfl [10, 11, 12, 13] [0, 1, 2, 3, 4, 5, 6, 7, 8, 9, 14, 15] [0, 1, 2, 3, 4, 5, 6, 7, 8, 9, 12, 13, 14, 15, 10, 11] [0, 1, 2, 3] rfl rfl rfl ⟨by decide, by decide, by decide, by decide⟩ rfl (fun H locs hP hD hS => ?_)
            obtain ⟨v_13, ev_13, hf⟩ := nm_of hf
            have hP : va_P D vwCl (kHouse G q0 v_13 ++ kRef G q1 v1) H := by rw [ev_13]; exact hP
            have hD : va_D A (kHouse G q0 v_13 ++ kRef G q1 v1) := by rw [ev_13]; exact hD
            refine lv_aload_n hx hb dX6_swapCats_96 rfl (lv_at hl 2 rfl) ?_
            refine va_get (D := D) (ci := 4) (v := .ref (q0 10)) (C := RX6) (T := TX6) (N := 10) hx hb hts hi4 hown hK hP 0 rfl rfl 4 (by decide) hw3 (fun _ h9 => h9) rfl dX6_swapCats_97 ?_
            refine lv_iload hx hb dX6_swapCats_100 (lv_at hl 0 rfl) ?_
            refine lv_iload_n hx hb dX6_swapCats_102 rfl (lv_at hl 3 rfl) ?_
            obtain ⟨r_14, w_15, hc, hf⟩ := bd2_of hf
            refine k_V (As := [.int r_4, .int a1]) (rest := [.int r_11]) (ws1 := (kHouse G q0 (mCats v_13 w_15) ++ kRef G q1 v1)) ⟨hx, hb, hml, hown, hts⟩ (c_X1_move l D G q0 r_4 a1 v_13 _ _ hc  _) (cwV 2 hts gX6_swapCats_X1_move rfl rfl rfl (by decide +kernel) ⟨Nat.le_of_ble_eq_true rfl, Nat.le_of_ble_eq_true rfl⟩) hl.1 (Nat.le_of_ble_eq_true rfl) dX6_swapCats_103 ⟨Nat.le_of_ble_eq_true rfl, Nat.le_of_ble_eq_true rfl⟩ rfl kT_bl (fun _ _ _ => trivial) hN hK hP hD hS hA 10 1 rfl rfl rfl [10, 11, 12, 13] [0, 1, 2, 3, 4, 5, 6, 7, 8, 9, 14, 15] [0, 1, 2, 3, 4, 5, 6, 7, 8, 9, 12, 13, 14, 15, 10, 11] [0, 1, 2, 3] rfl rfl rfl ⟨by decide, by decide, by decide, by decide⟩ rfl (fun H locs hP hD hS => ?_)
            obtain ⟨v_16, ev_16, hf⟩ := nm_of hf
            have hP : va_P D vwCl (kHouse G q0 v_16 ++ kRef G q1 v1) H := by rw [ev_16]; exact hP
            have hD : va_D A (kHouse G q0 v_16 ++ kRef G q1 v1) := by rw [ev_16]; exact hD
            refine lv_iadd hx hb dX6_swapCats_106 ?_
            obtain ⟨rfl, rfl, rfl⟩ := re3 hf
            exact hE hP hD hS dX6_swapCats_107
          · replace hf := ifF cc hf
            refine lv_aload_n hx hb dX6_swapCats_72 rfl (lv_at hl 5 rfl) ?_
            refine lv_bipush (v := 9) hx hb dX6_swapCats_73 (by decide +kernel) ?_
            refine lv_aload_n hx hb dX6_swapCats_75 rfl (lv_at hl 2 rfl) ?_
            refine va_get (D := D) (ci := 4) (v := .ref (q0 10)) (C := RX6) (T := TX6) (N := 10) hx hb hts hi4 hown hK hP 0 rfl rfl 4 (by decide) hw3 (fun _ h9 => h9) rfl dX6_swapCats_76 ?_
            refine va_get (D := D) (ci := 1) (v := .int (v0.1 6)) (C := RX1) (T := TX1) (N := 4) hx hb hts hi1 hown hK hP 10 rfl rfl 3 (by decide) hw4 (fun _ h9 => h9) rfl dX6_swapCats_79 ?_
            obtain ⟨r_17, w_18, hc, hf⟩ := bd2_of hf
            refine k_V (As := [.int 9, .int (v0.1 6)]) (rest := []) (ws1 := (kHouse G q0 v0 ++ kRef G q1 w_18)) ⟨hx, hb, hml, hown, hts⟩ (c_X11_note l D G q1 9 (v0.1 6) v1 _ _ hc  _) (cwV 2 hts gX6_swapCats_X11_note rfl rfl rfl (by decide +kernel) ⟨Nat.le_of_ble_eq_true rfl, Nat.le_of_ble_eq_true rfl⟩) hl.1 (Nat.le_of_ble_eq_true rfl) dX6_swapCats_82 ⟨Nat.le_of_ble_eq_true rfl, Nat.le_of_ble_eq_true rfl⟩ rfl kT_bl (fun _ _ _ => trivial) hN hK hP hD hS hA 15 9 rfl rfl rfl [15] [0, 1, 2, 3, 4, 5, 6, 7, 8, 9, 10, 11, 12, 13, 14] [0, 1, 2, 3, 4, 5, 6, 7, 8, 9, 10, 11, 12, 13, 14, 15] [0, 1, 2, 3] rfl rfl rfl ⟨by decide, by decide, by decide, by decide⟩ rfl (fun H locs hP hD hS => ?_)
            obtain ⟨rfl, rfl, rfl⟩ := re3 hf
            exact hE hP hD hS dX6_swapCats_85
      · replace hf := ifF cc hf
        refine lv_aload_n hx hb dX6_swapCats_31 rfl (lv_at hl 3 rfl) ?_
        refine lv_iconst (v := 5) hx hb dX6_swapCats_32 (by decide) ?_
        refine lv_iload_n hx hb dX6_swapCats_33 rfl (lv_at hl 1 rfl) ?_
        refine lv_iload_n hx hb dX6_swapCats_34 rfl (lv_at hl 2 rfl) ?_
        refine va_mmax hx hb (hml.trans hl.1.symm) hown hw5 hw6 hw7 hw8 (Nat.le_of_ble_eq_true rfl) (Nat.le_of_ble_eq_true rfl) (Nat.zero_le _) (Nat.zero_le _) dX6_swapCats_35 ?_
        obtain ⟨t_19, et_19, hf⟩ := nm_of hf
        rw [← et_19]
        obtain ⟨r_20, w_21, hc, hf⟩ := bd2_of hf
        refine k_V (As := [.int 5, .int t_19]) (rest := []) (ws1 := (kHouse G q0 v0 ++ kRef G q1 w_21)) ⟨hx, hb, hml, hown, hts⟩ (c_X11_note l D G q1 5 t_19 v1 _ _ hc  _) (cwV 2 hts gX6_swapCats_X11_note rfl rfl rfl (by decide +kernel) ⟨Nat.le_of_ble_eq_true rfl, Nat.le_of_ble_eq_true rfl⟩) hl.1 (Nat.le_of_ble_eq_true rfl) dX6_swapCats_38 ⟨Nat.le_of_ble_eq_true rfl, Nat.le_of_ble_eq_true rfl⟩ rfl kT_bl (fun _ _ _ => trivial) hN hK hP hD hS hA 15 9 rfl rfl rfl [15] [0, 1, 2, 3, 4, 5, 6, 7, 8, 9, 10, 11, 12, 13, 14] [0, 1, 2, 3, 4, 5, 6, 7, 8, 9, 10, 11, 12, 13, 14, 15] [0, 1, 2, 3] rfl rfl rfl ⟨by decide, by decide, by decide, by decide⟩ rfl (fun H locs hP hD hS => ?_)
        obtain ⟨rfl, rfl, rfl⟩ := re3 hf
        exact hE hP hD hS dX6_swapCats_41
    · replace hf := ifT cc hf
      refine lv_aload_n hx hb dX6_swapCats_15 rfl (lv_at hl 3 rfl) ?_
      refine lv_iconst (v := 2) hx hb dX6_swapCats_16 (by decide) ?_
      refine lv_iload_n hx hb dX6_swapCats_17 rfl (lv_at hl 1 rfl) ?_
      obtain ⟨r_22, w_23, hc, hf⟩ := bd2_of hf
      refine k_V (As := [.int 2, .int a1]) (rest := []) (ws1 := (kHouse G q0 v0 ++ kRef G q1 w_23)) ⟨hx, hb, hml, hown, hts⟩ (c_X11_note l D G q1 2 a1 v1 _ _ hc  _) (cwV 2 hts gX6_swapCats_X11_note rfl rfl rfl (by decide +kernel) ⟨Nat.le_of_ble_eq_true rfl, Nat.le_of_ble_eq_true rfl⟩) hl.1 (Nat.le_of_ble_eq_true rfl) dX6_swapCats_18 ⟨Nat.le_of_ble_eq_true rfl, Nat.le_of_ble_eq_true rfl⟩ rfl kT_bl (fun _ _ _ => trivial) hN hK hP hD hS hA 15 9 rfl rfl rfl [15] [0, 1, 2, 3, 4, 5, 6, 7, 8, 9, 10, 11, 12, 13, 14] [0, 1, 2, 3, 4, 5, 6, 7, 8, 9, 10, 11, 12, 13, 14, 15] [0, 1, 2, 3] rfl rfl rfl ⟨by decide, by decide, by decide, by decide⟩ rfl (fun H locs hP hD hS => ?_)
      obtain ⟨rfl, rfl, rfl⟩ := re3 hf
      exact hE hP hD hS dX6_swapCats_21
  · replace hf := ifT cc hf
    refine lv_iconst (v := (-1)) hx hb dX6_swapCats_8 (by decide) ?_
    obtain ⟨rfl, rfl, rfl⟩ := re3 hf
    exact hE hP hD hS dX6_swapCats_9
def f_X6_endDay_K19 (y_11 : Int32) (y_12 : Int32) (z_13 : SV) : Option (Int32 × SV) :=
  nm (pF z_13 3 ((z_13.1 3) + y_12)) fun v_14 =>
  bd1 (f_X7_passDay v_14) fun w_15 =>
  nm (mLines v_14 w_15) fun v_16 =>
  bd1 (f_X4_passDay v_16) fun w_17 =>
  nm (mGreetings v_16 w_17) fun v_18 =>
  nm (pF v_18 0 ((v_18.1 0) + 1)) fun v_19 =>
  some (y_12, v_19)
def f_X6_endDay_B19 (selfL_8 : (Int32 → Int32 → SV → Option (Int32 × SV))) (x_5 : Int32) (x_6 : Int32) (u_7 : SV) : Option (Int32 × SV) :=
  if 12 ≤ x_5 then
    f_X6_endDay_K19 x_5 x_6 u_7
  else
    bd1 (f_X6_growsBy x_5 12 (u_7.2 10)) fun r_9 =>
    if r_9 = 0 then
      selfL_8 (x_5 + 1) x_6 u_7
    else
      ckI x_5 12 <|
      ckI x_5 12 <|
      nm (pA u_7 0 x_5 ((u_7.2 0 x_5.toNatClampNeg) + 1)) fun v_10 =>
      selfL_8 (x_5 + 1) (x_6 + 1) v_10
def f_X6_endDay (v0 : SV) : Option (Int32 × SV) :=
  nm (pR v0 10 (va_cpy (v0.2 0) (v0.2 10) (0 : Int32).toNatClampNeg (0 : Int32).toNatClampNeg (12 : Int32).toNatClampNeg)) fun v_1 =>
  lz3 (f_X6_endDay_B19) FU 0 0 v_1
abbrev rm_X6_endDay : Room := { frames := 2, cells := 0, slots := 0, locals := 43 }
set_option maxHeartbeats 4000000 in
set_option maxRecDepth 100000 in
theorem c_X6_endDay (l : Launch) (D : va_G) (G : Nat → ClassId) (q0 : Nat → Nat) (v0 : SV) (r : Int32) (v0' : SV) (hf : f_X6_endDay v0 = some (r, v0')) (sz : Nat) : mC l yX6_endDay wsX6_endDay rm_X6_endDay D (tyG G) kT [.ref (q0 0)] (kHouse G q0 v0) (kHouse G q0 v0') sz (some (.int r)) 0 0 := by
  refine mC_ofI (cc := cX6_endDay) (maxL := 3) (ret := (some .int)) (by decide) rfl rfl (Nat.le_of_ble_eq_true rfl) ?_
  intro p e s m args below meth c Q0 hx hb hml hts hown hN hK A hD hA hE hP hS hJ ls hl
  have hl : lv_has ls 3 [(0, .ref (q0 0))] := hl
  unfold f_X6_endDay at hf
  have hi4 : ∀ w ∈ u_ws RX6 TX6 10, w ∈ wsX6_endDay := by decide +kernel
  have hw1 := hts (.fieldLink RX6 9 "BalconyCensus$House" "plants" "[I") (by decide +kernel)
  have hw2 := hts (.fieldLink RX6 39 "BalconyCensus$House" "plantsBefore" "[I") (by decide +kernel)
  have hw3 := hts (.methodLink RX6 66 arraycopyName) (by decide +kernel)
  have hw4 := hts (.native arraycopyName) (by decide +kernel)
  have hw5 := hts (.static arraycopyName) (by decide +kernel)
  have hw6 := hts (.initialized "java/lang/System") (by decide +kernel)
  have hw7 := hts (.fieldLink RX6 63 "BalconyCensus$House" "plantsGrown" "I") (by decide +kernel)
  have hw8 := hts (.fieldLink RX6 21 "BalconyCensus$House" "lines" "LBalconyCensus$Lines;") (by decide +kernel)
  have hw9 := hts (.fieldLink RX6 28 "BalconyCensus$House" "greetings" "LBalconyCensus$Greetings;") (by decide +kernel)
  have hw10 := hts (.fieldLink RX6 53 "BalconyCensus$House" "days" "I") (by decide +kernel)
  refine lv_aload_n hx hb dX6_endDay_0 rfl (lv_at hl 0 rfl) ?_
  refine va_get (D := D) (ci := 4) (v := .ref (q0 1)) (C := RX6) (T := TX6) (N := 10) hx hb hts hi4 hown hK hP 0 rfl rfl 0 (by decide) hw1 (fun _ h9 => h9) rfl dX6_endDay_1 ?_
  refine lv_iconst (v := 0) hx hb dX6_endDay_4 (by decide) ?_
  refine lv_aload_n hx hb dX6_endDay_5 rfl (lv_at hl 0 rfl) ?_
  refine va_get (D := D) (ci := 4) (v := .ref (q0 14)) (C := RX6) (T := TX6) (N := 10) hx hb hts hi4 hown hK hP 0 rfl rfl 5 (by decide) hw2 (fun _ h9 => h9) rfl dX6_endDay_6 ?_
  refine lv_iconst (v := 0) hx hb dX6_endDay_9 (by decide) ?_
  refine lv_bipush (v := 12) hx hb dX6_endDay_10 (by decide +kernel) ?_
  obtain ⟨v_1, ev_1, hf⟩ := nm_of hf
  refine va_copyi (D := D) (ty := .int) (c0 := G 0) (c1 := G 0) hx hb (hml.trans hl.1.symm) hown hw3 hw4 hw5 hw6 hK hP hD hS 1 14 0 0 rfl rfl rfl rfl rfl (by decide) (by decide) (by decide) (by decide) (by decide) (fun _ _ => rfl) (Nat.le_of_ble_eq_true rfl) (Nat.le_of_ble_eq_true rfl) dX6_endDay_12 (fun H locs hP hD hS => ?_)
  have hP : va_P D vwCl (kHouse G q0 v_1) H := by rw [ev_1]; exact hP
  have hD : va_D A (kHouse G q0 v_1) := by rw [ev_1]; exact hD
  refine lv_iconst (v := 0) hx hb dX6_endDay_15 (by decide) ?_
  refine lv_istore_n (lv' := [(1, .int 0), (0, .ref (q0 0))]) hx hb dX6_endDay_16 rfl hl (by decide) rfl (fun ls hl => ?_)
  refine lv_iconst (v := 0) hx hb dX6_endDay_17 (by decide) ?_
  refine lv_istore_n (lv' := [(2, .int 0), (1, .int 0), (0, .ref (q0 0))]) hx hb dX6_endDay_18 rfl hl (by decide) rfl (fun ls hl => ?_)
  have exL_8 : ∀ (y_11 : Int32) (y_12 : Int32) (z_13 : SV) (H : Heap) (locs : List Loc) (ls : Array Slot), lv_has ls 3 [(2, .int y_11), (1, .int y_12), (0, .ref (q0 0))] → va_P D vwCl (kHouse G q0 z_13) H → va_D A (kHouse G q0 z_13) → va_S A s.heap H locs → f_X6_endDay_K19 y_11 y_12 z_13 = some (r, v0') → W p l e rm_X6_endDay s m args below meth c H locs 0 0 Q0 (F0 m 55 ls []) := by
    intro y_11 y_12 z_13 H locs ls hl hP hD hS hf
    unfold f_X6_endDay_K19 at hf
    refine lv_aload_n hx hb dX6_endDay_55 rfl (lv_at hl 2 rfl) ?_
    refine lv_dup hx hb dX6_endDay_56 rfl ?_
    refine va_get (D := D) (ci := 4) (v := .int (z_13.1 3)) (C := RX6) (T := TX6) (N := 10) hx hb hts hi4 hown hK hP 0 rfl rfl 9 (by decide) hw7 (fun _ h9 => h9) rfl dX6_endDay_57 ?_
    refine lv_iload_n hx hb dX6_endDay_60 rfl (lv_at hl 1 rfl) ?_
    refine lv_iadd hx hb dX6_endDay_61 ?_
    obtain ⟨v_14, ev_14, hf⟩ := nm_of hf
    refine va_put (D := D) (ci := 4) (v := .int ((z_13.1 3) + y_12)) (ty := .int) (C := RX6) (T := TX6) (N := 10) hx hb hts hi4 tyX6 tyX6_ok nmX6 hown hK hP hD hS 0 rfl rfl 9 (by decide) hw7 (fun _ h9 => h9) rfl (by decide +kernel) rfl rfl (Nat.le_of_ble_eq_true rfl) dX6_endDay_62 (fun H locs hP hD hS => ?_)
    have hP : va_P D vwCl (kHouse G q0 v_14) H := by rw [ev_14]; exact hP
    have hD : va_D A (kHouse G q0 v_14) := by rw [ev_14]; exact hD
    refine lv_aload_n hx hb dX6_endDay_65 rfl (lv_at hl 2 rfl) ?_
    refine va_get (D := D) (ci := 4) (v := .ref (q0 3)) (C := RX6) (T := TX6) (N := 10) hx hb hts hi4 hown hK hP 0 rfl rfl 2 (by decide) hw8 (fun _ h9 => h9) rfl dX6_endDay_66 ?_
    obtain ⟨w_15, hc, hf⟩ := bd1_of hf
    refine k_V (As := []) (rest := []) (ws1 := (kHouse G q0 (mLines v_14 w_15))) ⟨hx, hb, hml, hown, hts⟩ (c_X7_passDay l D G q0  v_14 _ hc  _) (cwV 0 hts gX6_endDay_X7_passDay rfl rfl rfl (by decide +kernel) ⟨Nat.le_of_ble_eq_true rfl, Nat.le_of_ble_eq_true rfl⟩) hl.1 (Nat.le_of_ble_eq_true rfl) dX6_endDay_69 ⟨Nat.le_of_ble_eq_true rfl, Nat.le_of_ble_eq_true rfl⟩ rfl kT_bl (fun _ _ _ => trivial) hN hK hP hD hS hA 3 5 rfl rfl rfl [3, 4, 5, 6] [0, 1, 2, 7, 8, 9, 10, 11, 12, 13, 14] [0, 1, 2, 11, 12, 13, 14, 3, 4, 5, 6, 7, 8, 9, 10] [0, 1, 2, 3] rfl rfl rfl ⟨by decide, by decide, by decide, by decide⟩ rfl (fun H locs hP hD hS => ?_)
    obtain ⟨v_16, ev_16, hf⟩ := nm_of hf
    have hP : va_P D vwCl (kHouse G q0 v_16) H := by rw [ev_16]; exact hP
    have hD : va_D A (kHouse G q0 v_16) := by rw [ev_16]; exact hD
    refine lv_aload_n hx hb dX6_endDay_72 rfl (lv_at hl 2 rfl) ?_
    refine va_get (D := D) (ci := 4) (v := .ref (q0 7)) (C := RX6) (T := TX6) (N := 10) hx hb hts hi4 hown hK hP 0 rfl rfl 3 (by decide) hw9 (fun _ h9 => h9) rfl dX6_endDay_73 ?_
    obtain ⟨w_17, hc, hf⟩ := bd1_of hf
    refine k_V (As := []) (rest := []) (ws1 := (kHouse G q0 (mGreetings v_16 w_17))) ⟨hx, hb, hml, hown, hts⟩ (c_X4_passDay l D G q0  v_16 _ hc  _) (cwV 0 hts gX6_endDay_X4_passDay rfl rfl rfl (by decide +kernel) ⟨Nat.le_of_ble_eq_true rfl, Nat.le_of_ble_eq_true rfl⟩) hl.1 (Nat.le_of_ble_eq_true rfl) dX6_endDay_76 ⟨Nat.le_of_ble_eq_true rfl, Nat.le_of_ble_eq_true rfl⟩ rfl kT_bl (fun _ _ _ => trivial) hN hK hP hD hS hA 7 2 rfl rfl rfl [7, 8, 9] [0, 1, 2, 3, 4, 5, 6, 10, 11, 12, 13, 14] [0, 1, 2, 3, 4, 5, 6, 12, 13, 14, 7, 8, 9, 10, 11] [0, 1, 2, 3] rfl rfl rfl ⟨by decide, by decide, by decide, by decide⟩ rfl (fun H locs hP hD hS => ?_)
    obtain ⟨v_18, ev_18, hf⟩ := nm_of hf
    have hP : va_P D vwCl (kHouse G q0 v_18) H := by rw [ev_18]; exact hP
    have hD : va_D A (kHouse G q0 v_18) := by rw [ev_18]; exact hD
    refine lv_aload_n hx hb dX6_endDay_79 rfl (lv_at hl 2 rfl) ?_
    refine lv_dup hx hb dX6_endDay_80 rfl ?_
    refine va_get (D := D) (ci := 4) (v := .int (v_18.1 0)) (C := RX6) (T := TX6) (N := 10) hx hb hts hi4 hown hK hP 0 rfl rfl 6 (by decide) hw10 (fun _ h9 => h9) rfl dX6_endDay_81 ?_
    refine lv_iconst (v := 1) hx hb dX6_endDay_84 (by decide) ?_
    refine lv_iadd hx hb dX6_endDay_85 ?_
    obtain ⟨v_19, ev_19, hf⟩ := nm_of hf
    refine va_put (D := D) (ci := 4) (v := .int ((v_18.1 0) + 1)) (ty := .int) (C := RX6) (T := TX6) (N := 10) hx hb hts hi4 tyX6 tyX6_ok nmX6 hown hK hP hD hS 0 rfl rfl 6 (by decide) hw10 (fun _ h9 => h9) rfl (by decide +kernel) rfl rfl (Nat.le_of_ble_eq_true rfl) dX6_endDay_86 (fun H locs hP hD hS => ?_)
    have hP : va_P D vwCl (kHouse G q0 v_19) H := by rw [ev_19]; exact hP
    have hD : va_D A (kHouse G q0 v_19) := by rw [ev_19]; exact hD
    refine lv_iload_n hx hb dX6_endDay_89 rfl (lv_at hl 1 rfl) ?_
    obtain ⟨rfl, rfl⟩ := re2 hf
    exact hE hP hD hS dX6_endDay_90
  have loL_8 : ∀ (n : Nat) (x_5 : Int32) (x_6 : Int32) (u_7 : SV) (H : Heap) (locs : List Loc) (ls : Array Slot), lv_has ls 3 [(2, .int x_5), (1, .int x_6), (0, .ref (q0 0))] → va_P D vwCl (kHouse G q0 u_7) H → va_D A (kHouse G q0 u_7) → va_S A s.heap H locs → lz3 (f_X6_endDay_B19) n x_5 x_6 u_7 = some (r, v0') → W p l e rm_X6_endDay s m args below meth c H locs 0 0 Q0 (F0 m 19 ls []) := by
    intro n
    induction n with
    | zero => intro x_5 x_6 u_7 H locs ls hl hP hD hS hf; cases hf
    | succ n ihL_8 =>
      intro x_5 x_6 u_7 H locs ls hl hP hD hS hf
      replace hf := lz3_s hf
      unfold f_X6_endDay_B19 at hf
      refine lv_iload_n hx hb dX6_endDay_19 rfl (lv_at hl 0 rfl) ?_
      refine lv_bipush (v := 12) hx hb dX6_endDay_20 (by decide +kernel) ?_
      refine lv_icmp_ge (tgt := 55) hx hb dX6_endDay_22 (by decide) (fun cc => ?_) (fun cc => ?_)
      · replace hf := ifT cc hf
        exact exL_8 x_5 x_6 u_7 _ _ _ (lv_sub hl [0, 1, 2] rfl) hP hD hS hf
      · replace hf := ifF cc hf
        refine lv_aload_n hx hb dX6_endDay_25 rfl (lv_at hl 2 rfl) ?_
        refine va_get (D := D) (ci := 4) (v := .ref (q0 14)) (C := RX6) (T := TX6) (N := 10) hx hb hts hi4 hown hK hP 0 rfl rfl 5 (by decide) hw2 (fun _ h9 => h9) rfl dX6_endDay_26 ?_
        refine lv_iload_n hx hb dX6_endDay_29 rfl (lv_at hl 0 rfl) ?_
        obtain ⟨r_9, hc, hf⟩ := bd1_of hf
        refine k_S (As := [.ref (q0 14), .int x_5]) (rest := []) (ws1 := (kHouse G q0 u_7)) ⟨hx, hb, hml, hown, hts⟩ (c_X6_growsBy l D G (q0 14) 12 x_5 (u_7.2 10) _ hc  _) (va_cwS 2 hts gX6_endDay_X6_growsBy rfl rfl rfl (by decide +kernel) ⟨Nat.le_of_ble_eq_true rfl, Nat.le_of_ble_eq_true rfl⟩) hl.1 (Nat.le_of_ble_eq_true rfl) dX6_endDay_30 ⟨Nat.le_of_ble_eq_true rfl, Nat.le_of_ble_eq_true rfl⟩ rfl kT_bl (fun _ _ _ => trivial) hN hK hP hD hS hA [14] [0, 1, 2, 3, 4, 5, 6, 7, 8, 9, 10, 11, 12, 13] [0, 1, 2, 3, 4, 5, 6, 7, 8, 9, 10, 11, 12, 13, 14] [0, 1, 2, 3] rfl rfl rfl ⟨by decide, by decide, by decide, by decide⟩ rfl (fun H locs hP hD hS => ?_)
        refine lv_if_eq (tgt := 49) hx hb dX6_endDay_33 (by decide) (fun cc => ?_) (fun cc => ?_)
        · replace hf := ifT cc hf
          refine lv_iinc (v := (x_5 + 1)) (lv' := [(2, .int (x_5 + 1)), (1, .int x_6), (0, .ref (q0 0))]) hx hb dX6_endDay_49 hl (k := 0) rfl rfl (by decide) rfl (fun ls hl => ?_)
          refine lv_goto (tgt := 19) hx hb dX6_endDay_52 (by decide) ?_
          exact ihL_8 (x_5 + 1) x_6 u_7 _ _ _ (lv_sub hl [0, 1, 2] rfl) hP hD hS hf
        · replace hf := ifF cc hf
          refine lv_aload_n hx hb dX6_endDay_36 rfl (lv_at hl 2 rfl) ?_
          refine va_get (D := D) (ci := 4) (v := .ref (q0 1)) (C := RX6) (T := TX6) (N := 10) hx hb hts hi4 hown hK hP 0 rfl rfl 0 (by decide) hw1 (fun _ h9 => h9) rfl dX6_endDay_37 ?_
          refine lv_iload_n hx hb dX6_endDay_40 rfl (lv_at hl 0 rfl) ?_
          refine lv_dup2_11 hx hb dX6_endDay_41 rfl rfl ?_
          obtain ⟨hin, hf⟩ := ckI_of hf
          refine va_iald (D := D) hx hb hK hP 1 0 rfl rfl hin dX6_endDay_42 ?_
          refine lv_iconst (v := 1) hx hb dX6_endDay_43 (by decide) ?_
          refine lv_iadd hx hb dX6_endDay_44 ?_
          obtain ⟨hin, hf⟩ := ckI_of hf
          obtain ⟨v_10, ev_10, hf⟩ := nm_of hf
          refine va_iast (D := D) hx hb hK hP hD hS 1 0 rfl rfl hin dX6_endDay_45 (fun H locs hP hD hS => ?_)
          have hP : va_P D vwCl (kHouse G q0 v_10) H := by rw [ev_10]; exact hP
          have hD : va_D A (kHouse G q0 v_10) := by rw [ev_10]; exact hD
          refine lv_iinc (v := (x_6 + 1)) (lv' := [(1, .int (x_6 + 1)), (2, .int x_5), (0, .ref (q0 0))]) hx hb dX6_endDay_46 hl (k := 1) rfl rfl (by decide) rfl (fun ls hl => ?_)
          refine lv_iinc (v := (x_5 + 1)) (lv' := [(2, .int (x_5 + 1)), (1, .int (x_6 + 1)), (0, .ref (q0 0))]) hx hb dX6_endDay_49 hl (k := 1) rfl rfl (by decide) rfl (fun ls hl => ?_)
          refine lv_goto (tgt := 19) hx hb dX6_endDay_52 (by decide) ?_
          exact ihL_8 (x_5 + 1) (x_6 + 1) v_10 _ _ _ (lv_sub hl [0, 1, 2] rfl) hP hD hS hf
  exact loL_8 FU 0 0 v_1 _ _ _ hl hP hD hS hf
