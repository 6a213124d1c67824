/-! Walks, laid by wip/whole/gen.py: for each method f_ (what it does to its world) and c_ (its contract). -/
def f_X10_passOver (a1 : Int32) (v0 : SV) : Option (Int32 × SV) :=
  if (v0.1 0) ≤ (v0.1 1) then
    some (0, v0)
  else
    ckI (v0.1 1) 60 <|
    if (v0.2 0 (v0.1 1).toNatClampNeg) = a1 then
      nm (pF v0 1 ((v0.1 1) + 1)) fun v_1 =>
      some (1, v_1)
    else
      some (0, v0)
abbrev rm_X10_passOver : Room := { frames := 0, cells := 0, slots := 0, locals := 0 }
set_option maxHeartbeats 4000000 in
set_option maxRecDepth 100000 in
theorem c_X10_passOver (l : Launch) (D : va_G) (G : Nat → ClassId) (q0 : Nat → Nat) (a1 : Int32) (v0 : SV) (r : Int32) (v0' : SV) (hf : f_X10_passOver a1 v0 = some (r, v0')) (sz : Nat) : mC l yX10_passOver wsX10_passOver rm_X10_passOver D (tyG G) kT [.ref (q0 0), .int a1] (kReader G q0 v0) (kReader G q0 v0') sz (some (.int r)) 0 0 := by
  refine mC_ofZ (cc := cX10_passOver) (maxL := 2) (ret := (some .boolean)) (by decide) rfl rfl (Nat.le_of_ble_eq_true rfl) ?_
  intro p e s m args below meth c Q0 hx hb hml hts hown hN hK A hD hA hE hP hS hJ ls hl
  have hl : lv_has ls 2 [(0, .ref (q0 0)), (1, .int a1)] := hl
  unfold f_X10_passOver at hf
  have hi8 : ∀ w ∈ u_ws RX10 TX10 8, w ∈ wsX10_passOver := by decide +kernel
  have hw1 := hts (.fieldLink RX10 32 "BalconyCensus$Reader" "position" "I") (by decide +kernel)
  have hw2 := hts (.fieldLink RX10 28 "BalconyCensus$Reader" "length" "I") (by decide +kernel)
  have hw3 := hts (.fieldLink RX10 9 "BalconyCensus$Reader" "text" "[C") (by decide +kernel)
  refine lv_aload_n hx hb dX10_passOver_0 rfl (lv_at hl 0 rfl) ?_
  refine va_get (D := D) (ci := 8) (v := .int (v0.1 1)) (C := RX10) (T := TX10) (N := 8) hx hb hts hi8 hown hK hP 0 rfl rfl 2 (by decide) hw1 (fun _ h9 => h9) rfl dX10_passOver_1 ?_
  refine lv_aload_n hx hb dX10_passOver_4 rfl (lv_at hl 0 rfl) ?_
  refine va_get (D := D) (ci := 8) (v := .int (v0.1 0)) (C := RX10) (T := TX10) (N := 8) hx hb hts hi8 hown hK hP 0 rfl rfl 1 (by decide) hw2 (fun _ h9 => h9) rfl dX10_passOver_5 ?_
  refine lv_icmp_ge (tgt := 24) hx hb dX10_passOver_8 (by decide) (fun cc => ?_) (fun cc => ?_)
  · replace hf := ifT cc hf
    refine lv_iconst (v := 0) hx hb dX10_passOver_24 (by decide) ?_
    obtain ⟨rfl, rfl⟩ := re2 hf
    exact hE (.inl rfl) hP hD hS dX10_passOver_25
  · replace hf := ifF cc hf
    refine lv_aload_n hx hb dX10_passOver_11 rfl (lv_at hl 0 rfl) ?_
    refine va_get (D := D) (ci := 8) (v := .ref (q0 1)) (C := RX10) (T := TX10) (N := 8) hx hb hts hi8 hown hK hP 0 rfl rfl 0 (by decide) hw3 (fun _ h9 => h9) rfl dX10_passOver_12 ?_
    refine lv_aload_n hx hb dX10_passOver_15 rfl (lv_at hl 0 rfl) ?_
    refine va_get (D := D) (ci := 8) (v := .int (v0.1 1)) (C := RX10) (T := TX10) (N := 8) hx hb hts hi8 hown hK hP 0 rfl rfl 2 (by decide) hw1 (fun _ h9 => h9) rfl dX10_passOver_16 ?_
    obtain ⟨hin, hf⟩ := ckI_of hf
    refine va_cald (D := D) hx hb hK hP 1 1 rfl rfl hin dX10_passOver_19 ?_
    refine lv_iload_n hx hb dX10_passOver_20 rfl (lv_at hl 1 rfl) ?_
    refine lv_icmp_eq (tgt := 26) hx hb dX10_passOver_21 (by decide) (fun cc => ?_) (fun cc => ?_)
    · replace hf := ifT cc hf
      refine lv_aload_n hx hb dX10_passOver_26 rfl (lv_at hl 0 rfl) ?_
      refine lv_dup hx hb dX10_passOver_27 rfl ?_
      refine va_get (D := D) (ci := 8) (v := .int (v0.1 1)) (C := RX10) (T := TX10) (N := 8) hx hb hts hi8 hown hK hP 0 rfl rfl 2 (by decide) hw1 (fun _ h9 => h9) rfl dX10_passOver_28 ?_
      refine lv_iconst (v := 1) hx hb dX10_passOver_31 (by decide) ?_
      refine lv_iadd hx hb dX10_passOver_32 ?_
      obtain ⟨v_1, ev_1, hf⟩ := nm_of hf
      refine va_put (D := D) (ci := 8) (v := .int ((v0.1 1) + 1)) (ty := .int) (C := RX10) (T := TX10) (N := 8) hx hb hts hi8 tyX10 tyX10_ok nmX10 hown hK hP hD hS 0 rfl rfl 2 (by decide) hw1 (fun _ h9 => h9) rfl (by decide +kernel) rfl rfl (Nat.le_of_ble_eq_true rfl) dX10_passOver_33 (fun H locs hP hD hS => ?_)
      have hP : va_P D vwCl (kReader G q0 v_1) H := by rw [ev_1]; exact hP
      have hD : va_D A (kReader G q0 v_1) := by rw [ev_1]; exact hD
      refine lv_iconst (v := 1) hx hb dX10_passOver_36 (by decide) ?_
      obtain ⟨rfl, rfl⟩ := re2 hf
      exact hE (.inr rfl) hP hD hS dX10_passOver_37
    · replace hf := ifF cc hf
      refine lv_iconst (v := 0) hx hb dX10_passOver_24 (by decide) ?_
      obtain ⟨rfl, rfl⟩ := re2 hf
      exact hE (.inl rfl) hP hD hS dX10_passOver_25
def f_X10_readDigit (v0 : SV) : Option (Int32 × SV) :=
  if (v0.1 0) ≤ (v0.1 1) then
    some ((-1), v0)
  else
    ckI (v0.1 1) 60 <|
    if (v0.2 0 (v0.1 1).toNatClampNeg) < 48 then
      some ((-1), v0)
    else
      ckI (v0.1 1) 60 <|
      if (v0.2 0 (v0.1 1).toNatClampNeg) ≤ 57 then
        ckI (v0.1 1) 60 <|
        nm ((v0.2 0 (v0.1 1).toNatClampNeg) - 48) fun t_1 =>
        nm (pF v0 1 ((v0.1 1) + 1)) fun v_2 =>
        some (t_1, v_2)
      else
        some ((-1), v0)
abbrev rm_X10_readDigit : Room := { frames := 0, cells := 0, slots := 0, locals := 0 }
set_option maxHeartbeats 4000000 in
set_option maxRecDepth 100000 in
theorem c_X10_readDigit (l : Launch) (D : va_G) (G : Nat → ClassId) (q0 : Nat → Nat) (v0 : SV) (r : Int32) (v0' : SV) (hf : f_X10_readDigit v0 = some (r, v0')) (sz : Nat) : mC l yX10_readDigit wsX10_readDigit rm_X10_readDigit D (tyG G) kT [.ref (q0 0)] (kReader G q0 v0) (kReader G q0 v0') sz (some (.int r)) 0 0 := by
  refine mC_ofI (cc := cX10_readDigit) (maxL := 2) (ret := (some .int)) (by decide) rfl rfl (Nat.le_of_ble_eq_true rfl) ?_
  intro p e s m args below meth c Q0 hx hb hml hts hown hN hK A hD hA hE hP hS hJ ls hl
  have hl : lv_has ls 2 [(0, .ref (q0 0))] := hl
  unfold f_X10_readDigit at hf
  have hi8 : ∀ w ∈ u_ws RX10 TX10 8, w ∈ wsX10_readDigit := by decide +kernel
  have hw1 := hts (.fieldLink RX10 32 "BalconyCensus$Reader" "position" "I") (by decide +kernel)
  have hw2 := hts (.fieldLink RX10 28 "BalconyCensus$Reader" "length" "I") (by decide +kernel)
  have hw3 := hts (.fieldLink RX10 9 "BalconyCensus$Reader" "text" "[C") (by decide +kernel)
  refine lv_aload_n hx hb dX10_readDigit_0 rfl (lv_at hl 0 rfl) ?_
  refine va_get (D := D) (ci := 8) (v := .int (v0.1 1)) (C := RX10) (T := TX10) (N := 8) hx hb hts hi8 hown hK hP 0 rfl rfl 2 (by decide) hw1 (fun _ h9 => h9) rfl dX10_readDigit_1 ?_
  refine lv_aload_n hx hb dX10_readDigit_4 rfl (lv_at hl 0 rfl) ?_
  refine va_get (D := D) (ci := 8) (v := .int (v0.1 0)) (C := RX10) (T := TX10) (N := 8) hx hb hts hi8 hown hK hP 0 rfl rfl 1 (by decide) hw2 (fun _ h9 => h9) rfl dX10_readDigit_5 ?_
  refine lv_icmp_ge (tgt := 39) hx hb dX10_readDigit_8 (by decide) (fun cc => ?_) (fun cc => ?_)
  · replace hf := ifT cc hf
    refine lv_iconst (v := (-1)) hx hb dX10_readDigit_39 (by decide) ?_
    obtain ⟨rfl, rfl⟩ := re2 hf
    exact hE hP hD hS dX10_readDigit_40
  · replace hf := ifF cc hf
    refine lv_aload_n hx hb dX10_readDigit_11 rfl (lv_at hl 0 rfl) ?_
    refine va_get (D := D) (ci := 8) (v := .ref (q0 1)) (C := RX10) (T := TX10) (N := 8) hx hb hts hi8 hown hK hP 0 rfl rfl 0 (by decide) hw3 (fun _ h9 => h9) rfl dX10_readDigit_12 ?_
    refine lv_aload_n hx hb dX10_readDigit_15 rfl (lv_at hl 0 rfl) ?_
    refine va_get (D := D) (ci := 8) (v := .int (v0.1 1)) (C := RX10) (T := TX10) (N := 8) hx hb hts hi8 hown hK hP 0 rfl rfl 2 (by decide) hw1 (fun _ h9 => h9) rfl dX10_readDigit_16 ?_
    obtain ⟨hin, hf⟩ := ckI_of hf
    refine va_cald (D := D) hx hb hK hP 1 1 rfl rfl hin dX10_readDigit_19 ?_
    refine lv_bipush (v := 48) hx hb dX10_readDigit_20 (by decide +kernel) ?_
    refine lv_icmp_lt (tgt := 39) hx hb dX10_readDigit_22 (by decide) (fun cc => ?_) (fun cc => ?_)
    · replace hf := ifT cc hf
      refine lv_iconst (v := (-1)) hx hb dX10_readDigit_39 (by decide) ?_
      obtain ⟨rfl, rfl⟩ := re2 hf
      exact hE hP hD hS dX10_readDigit_40
    · replace hf := ifF cc hf
      refine lv_aload_n hx hb dX10_readDigit_25 rfl (lv_at hl 0 rfl) ?_
      refine va_get (D := D) (ci := 8) (v := .ref (q0 1)) (C := RX10) (T := TX10) (N := 8) hx hb hts hi8 hown hK hP 0 rfl rfl 0 (by decide) hw3 (fun _ h9 => h9) rfl dX10_readDigit_26 ?_
      refine lv_aload_n hx hb dX10_readDigit_29 rfl (lv_at hl 0 rfl) ?_
      refine va_get (D := D) (ci := 8) (v := .int (v0.1 1)) (C := RX10) (T := TX10) (N := 8) hx hb hts hi8 hown hK hP 0 rfl rfl 2 (by decide) hw1 (fun _ h9 => h9) rfl dX10_readDigit_30 ?_
      obtain ⟨hin, hf⟩ := ckI_of hf
      refine va_cald (D := D) hx hb hK hP 1 1 rfl rfl hin dX10_readDigit_33 ?_
      refine lv_bipush (v := 57) hx hb dX10_readDigit_34 (by decide +kernel) ?_
      refine lv_icmp_le (tgt := 41) hx hb dX10_readDigit_36 (by decide) (fun cc => ?_) (fun cc => ?_)
      · replace hf := ifT cc hf
        refine lv_aload_n hx hb dX10_readDigit_41 rfl (lv_at hl 0 rfl) ?_
        refine va_get (D := D) (ci := 8) (v := .ref (q0 1)) (C := RX10) (T := TX10) (N := 8) hx hb hts hi8 hown hK hP 0 rfl rfl 0 (by decide) hw3 (fun _ h9 => h9) rfl dX10_readDigit_42 ?_
        refine lv_aload_n hx hb dX10_readDigit_45 rfl (lv_at hl 0 rfl) ?_
        refine va_get (D := D) (ci := 8) (v := .int (v0.1 1)) (C := RX10) (T := TX10) (N := 8) hx hb hts hi8 hown hK hP 0 rfl rfl 2 (by decide) hw1 (fun _ h9 => h9) rfl dX10_readDigit_46 ?_
        obtain ⟨hin, hf⟩ := ckI_of hf
        refine va_cald (D := D) hx hb hK hP 1 1 rfl rfl hin dX10_readDigit_49 ?_
        refine lv_bipush (v := 48) hx hb dX10_readDigit_50 (by decide +kernel) ?_
        refine lv_isub hx hb dX10_readDigit_52 ?_
        obtain ⟨t_1, et_1, hf⟩ := nm_of hf
        rw [← et_1]
        refine lv_istore_n (lv' := [(1, .int t_1), (0, .ref (q0 0))]) hx hb dX10_readDigit_53 rfl hl (by decide) rfl (fun ls hl => ?_)
        refine lv_aload_n hx hb dX10_readDigit_54 rfl (lv_at hl 1 rfl) ?_
        refine lv_dup hx hb dX10_readDigit_55 rfl ?_
        refine va_get (D := D) (ci := 8) (v := .int (v0.1 1)) (C := RX10) (T := TX10) (N := 8) hx hb hts hi8 hown hK hP 0 rfl rfl 2 (by decide) hw1 (fun _ h9 => h9) rfl dX10_readDigit_56 ?_
        refine lv_iconst (v := 1) hx hb dX10_readDigit_59 (by decide) ?_
        refine lv_iadd hx hb dX10_readDigit_60 ?_
        obtain ⟨v_2, ev_2, hf⟩ := nm_of hf
        refine va_put (D := D) (ci := 8) (v := .int ((v0.1 1) + 1)) (ty := .int) (C := RX10) (T := TX10) (N := 8) hx hb hts hi8 tyX10 tyX10_ok nmX10 hown hK hP hD hS 0 rfl rfl 2 (by decide) hw1 (fun _ h9 => h9) rfl (by decide +kernel) rfl rfl (Nat.le_of_ble_eq_true rfl) dX10_readDigit_61 (fun H locs hP hD hS => ?_)
        have hP : va_P D vwCl (kReader G q0 v_2) H := by rw [ev_2]; exact hP
        have hD : va_D A (kReader G q0 v_2) := by rw [ev_2]; exact hD
        refine lv_iload_n hx hb dX10_readDigit_64 rfl (lv_at hl 0 rfl) ?_
        obtain ⟨rfl, rfl⟩ := re2 hf
        exact hE hP hD hS dX10_readDigit_65
      · replace hf := ifF cc hf
        refine lv_iconst (v := (-1)) hx hb dX10_readDigit_39 (by decide) ?_
        obtain ⟨rfl, rfl⟩ := re2 hf
        exact hE hP hD hS dX10_readDigit_40
def f_X10_readNumber (v0 : SV) : Option (Int32 × SV) :=
  bd2 (f_X10_readDigit v0) fun r_1 w_2 =>
  if 0 ≤ r_1 then
    bd2 (f_X10_readDigit w_2) fun r_3 w_4 =>
    if 0 ≤ r_3 then
      some (((r_1 * 10) + r_3), w_4)
    else
      some (r_1, w_4)
  else
    some ((-1), w_2)
abbrev rm_X10_readNumber : Room := { frames := 1, cells := 0, slots := 0, locals := 21 }
set_option maxHeartbeats 4000000 in
set_option maxRecDepth 100000 in
theorem c_X10_readNumber (l : Launch) (D : va_G) (G : Nat → ClassId) (q0 : Nat → Nat) (v0 : SV) (r : Int32) (v0' : SV) (hf : f_X10_readNumber v0 = some (r, v0')) (sz : Nat) : mC l yX10_readNumber wsX10_readNumber rm_X10_readNumber D (tyG G) kT [.ref (q0 0)] (kReader G q0 v0) (kReader G q0 v0') sz (some (.int r)) 0 0 := by
  refine mC_ofI (cc := cX10_readNumber) (maxL := 3) (ret := (some .int)) (by decide) rfl rfl (Nat.le_of_ble_eq_true rfl) ?_
  intro p e s m args below meth c Q0 hx hb hml hts hown hN hK A hD hA hE hP hS hJ ls hl
  have hl : lv_has ls 3 [(0, .ref (q0 0))] := hl
  unfold f_X10_readNumber at hf
  refine lv_aload_n hx hb dX10_readNumber_0 rfl (lv_at hl 0 rfl) ?_
  obtain ⟨r_1, w_2, hc, hf⟩ := bd2_of hf
  refine k_V (As := []) (rest := []) (ws1 := (kReader G q0 w_2)) ⟨hx, hb, hml, hown, hts⟩ (c_X10_readDigit l D G q0  v0 _ _ hc  _) (cwV 0 hts gX10_readNumber_X10_readDigit rfl rfl rfl (by decide +kernel) ⟨Nat.le_of_ble_eq_true rfl, Nat.le_of_ble_eq_true rfl⟩) hl.1 (Nat.le_of_ble_eq_true rfl) dX10_readNumber_1 ⟨Nat.le_of_ble_eq_true rfl, Nat.le_of_ble_eq_true rfl⟩ rfl kT_bl (fun _ _ _ => trivial) hN hK hP hD hS hA 0 8 rfl rfl rfl [0, 1, 2, 3, 4, 5] [] [0, 1, 2, 3, 4, 5] [0, 1, 2, 3] rfl rfl rfl ⟨by decide, by decide, by decide, by decide⟩ rfl (fun H locs hP hD hS => ?_)
  refine lv_istore_n (lv' := [(1, .int r_1), (0, .ref (q0 0))]) hx hb dX10_readNumber_4 rfl hl (by decide) rfl (fun ls hl => ?_)
  refine lv_iload_n hx hb dX10_readNumber_5 rfl (lv_at hl 0 rfl) ?_
  refine lv_if_ge (tgt := 11) hx hb dX10_readNumber_6 (by decide) (fun cc => ?_) (fun cc => ?_)
  · replace hf := ifT cc hf
    refine lv_aload_n hx hb dX10_readNumber_11 rfl (lv_at hl 1 rfl) ?_
    obtain ⟨r_3, w_4, hc, hf⟩ := bd2_of hf
    refine k_V (As := []) (rest := []) (ws1 := (kReader G q0 w_4)) ⟨hx, hb, hml, hown, hts⟩ (c_X10_readDigit l D G q0  w_2 _ _ hc  _) (cwV 0 hts gX10_readNumber_X10_readDigit rfl rfl rfl (by decide +kernel) ⟨Nat.le_of_ble_eq_true rfl, Nat.le_of_ble_eq_true rfl⟩) hl.1 (Nat.le_of_ble_eq_true rfl) dX10_readNumber_12 ⟨Nat.le_of_ble_eq_true rfl, Nat.le_of_ble_eq_true rfl⟩ rfl kT_bl (fun _ _ _ => trivial) hN hK hP hD hS hA 0 8 rfl rfl rfl [0, 1, 2, 3, 4, 5] [] [0, 1, 2, 3, 4, 5] [0, 1, 2, 3] rfl rfl rfl ⟨by decide, by decide, by decide, by decide⟩ rfl (fun H locs hP hD hS => ?_)
    refine lv_istore_n (lv' := [(2, .int r_3), (1, .int r_1), (0, .ref (q0 0))]) hx hb dX10_readNumber_15 rfl hl (by decide) rfl (fun ls hl => ?_)
    refine lv_iload_n hx hb dX10_readNumber_16 rfl (lv_at hl 0 rfl) ?_
    refine lv_if_ge (tgt := 24) hx hb dX10_readNumber_17 (by decide) (fun cc => ?_) (fun cc => ?_)
    · replace hf := ifT cc hf
      refine lv_iload_n hx hb dX10_readNumber_24 rfl (lv_at hl 1 rfl) ?_
      refine lv_bipush (v := 10) hx hb dX10_readNumber_25 (by decide +kernel) ?_
      refine lv_imul hx hb dX10_readNumber_27 ?_
      refine lv_iload_n hx hb dX10_readNumber_28 rfl (lv_at hl 0 rfl) ?_
      refine lv_iadd hx hb dX10_readNumber_29 ?_
      obtain ⟨rfl, rfl⟩ := re2 hf
      exact hE hP hD hS dX10_readNumber_30
    · replace hf := ifF cc hf
      refine lv_iload_n hx hb dX10_readNumber_20 rfl (lv_at hl 1 rfl) ?_
      refine lv_goto (tgt := 30) hx hb dX10_readNumber_21 (by decide) ?_
      obtain ⟨rfl, rfl⟩ := re2 hf
      exact hE hP hD hS dX10_readNumber_30
  · replace hf := ifF cc hf
    refine lv_iconst (v := (-1)) hx hb dX10_readNumber_9 (by decide) ?_
    obtain ⟨rfl, rfl⟩ := re2 hf
    exact hE hP hD hS dX10_readNumber_10
def f_X10_countAlike_K4 (y_9 : Int32) (y_10 : Int32) : Option Int32 :=
  some y_10
def f_X10_countAlike_B4 (k1 : Nat) (v0 : SV) (selfL_6 : (Int32 → Int32 → Option Int32)) (x_4 : Int32) (x_5 : Int32) : Option Int32 :=
  bd1 (f_J0_length_8abf5 k1) fun r_7 =>
  if r_7 ≤ x_4 then
    f_X10_countAlike_K4 x_4 x_5
  else
    if (v0.1 0) ≤ ((v0.1 1) + x_4) then
      some x_5
    else
      ckI ((v0.1 1) + x_4) 60 <|
      bd1 (f_J0_charAt_5068e k1 x_4) fun r_8 =>
      if (v0.2 0 ((v0.1 1) + x_4).toNatClampNeg) = r_8 then
        selfL_6 (x_4 + 1) (x_5 + 1)
      else
        some x_5
def f_X10_countAlike (k1 : Nat) (v0 : SV) : Option Int32 :=
  lz2 (f_X10_countAlike_B4 k1 v0) FU 0 0
abbrev rm_X10_countAlike : Room := { frames := 4, cells := 0, slots := 0, locals := 85 }
set_option maxHeartbeats 4000000 in
set_option maxRecDepth 100000 in
theorem c_X10_countAlike (l : Launch) (D : va_G) (G : Nat → ClassId) (X : Nat → Nat → Nat) (q0 : Nat → Nat) (k1 : Nat) (v0 : SV) (r : Int32) (hf : f_X10_countAlike k1 v0 = some r) (hk1 : k1 < 8) (sz : Nat) : mC l yX10_countAlike wsX10_countAlike rm_X10_countAlike D (tyG G) (kY X) [.ref (q0 0), .ref (X 2 k1)] (kReader G q0 v0) (kReader G q0 v0) sz (some (.int r)) 0 0 := by
  refine mC_ofI (cc := cX10_countAlike) (maxL := 4) (ret := (some .int)) (by decide) rfl rfl (Nat.le_of_ble_eq_true rfl) ?_
  intro p e s m args below meth c Q0 hx hb hml hts hown hN hK A hD hA hE hP hS hJ ls hl
  have hl : lv_has ls 4 [(0, .ref (q0 0)), (1, .ref (X 2 k1))] := hl
  unfold f_X10_countAlike at hf
  obtain ⟨⟨hX1, hX2, hX3, hX4, hX5, hX6, hX7, hX8, hX9, hX10, hX11, hX12⟩, hX13⟩ := id hJ
  have hi8 : ∀ w ∈ u_ws RX10 TX10 8, w ∈ wsX10_countAlike := by decide +kernel
  have hw1 := hts (.fieldLink RX10 32 "BalconyCensus$Reader" "position" "I") (by decide +kernel)
  have hw2 := hts (.fieldLink RX10 28 "BalconyCensus$Reader" "length" "I") (by decide +kernel)
  have hw3 := hts (.fieldLink RX10 9 "BalconyCensus$Reader" "text" "[C") (by decide +kernel)
  refine lv_iconst (v := 0) hx hb dX10_countAlike_0 (by decide) ?_
  refine lv_istore_n (lv' := [(2, .int 0), (0, .ref (q0 0)), (1, .ref (X 2 k1))]) hx hb dX10_countAlike_1 rfl hl (by decide) rfl (fun ls hl => ?_)
  refine lv_iconst (v := 0) hx hb dX10_countAlike_2 (by decide) ?_
  refine lv_istore_n (lv' := [(3, .int 0), (2, .int 0), (0, .ref (q0 0)), (1, .ref (X 2 k1))]) hx hb dX10_countAlike_3 rfl hl (by decide) rfl (fun ls hl => ?_)
  have exL_6 : ∀ (y_9 : Int32) (y_10 : Int32) (H : Heap) (locs : List Loc) (ls : Array Slot), lv_has ls 4 [(3, .int y_9), (2, .int y_10), (0, .ref (q0 0)), (1, .ref (X 2 k1))] → va_P D vwCl (kReader G q0 v0) H → va_D A (kReader G q0 v0) → va_S A s.heap H locs → f_X10_countAlike_K4 y_9 y_10 = some r → W p l e rm_X10_countAlike s m args below meth c H locs 0 0 Q0 (F0 m 55 ls []) := by
    intro y_9 y_10 H locs ls hl hP hD hS hf
    unfold f_X10_countAlike_K4 at hf
    refine lv_iload_n hx hb dX10_countAlike_55 rfl (lv_at hl 1 rfl) ?_
    obtain rfl := re1 hf
    exact hE hP hD hS dX10_countAlike_56
  have loL_6 : ∀ (n : Nat) (x_4 : Int32) (x_5 : Int32) (H : Heap) (locs : List Loc) (ls : Array Slot), lv_has ls 4 [(3, .int x_4), (2, .int x_5), (0, .ref (q0 0)), (1, .ref (X 2 k1))] → va_P D vwCl (kReader G q0 v0) H → va_D A (kReader G q0 v0) → va_S A s.heap H locs → lz2 (f_X10_countAlike_B4 k1 v0) n x_4 x_5 = some r → W p l e rm_X10_countAlike s m args below meth c H locs 0 0 Q0 (F0 m 4 ls []) := by
    intro n
    induction n with
    | zero => intro x_4 x_5 H locs ls hl hP hD hS hf; cases hf
    | succ n ihL_6 =>
      intro x_4 x_5 H locs ls hl hP hD hS hf
      replace hf := lz2_s hf
      unfold f_X10_countAlike_B4 at hf
      refine lv_iload_n hx hb dX10_countAlike_4 rfl (lv_at hl 0 rfl) ?_
      refine lv_aload_n hx hb dX10_countAlike_5 rfl (lv_at hl 3 rfl) ?_
      obtain ⟨r_7, hc, hf⟩ := bd1_of hf
      refine k_VX (As := []) (rest := [.int x_4]) (ws1 := (kReader G q0 v0)) ⟨hx, hb, hml, hown, hts⟩ (c_J0_length_8abf5 l D G X  k1  _ hc hk1 _) (cwV 0 hts gX10_countAlike_J0_length_8abf5 rfl rfl rfl (by decide +kernel) ⟨Nat.le_of_ble_eq_true rfl, Nat.le_of_ble_eq_true rfl⟩) hl.1 (Nat.le_of_ble_eq_true rfl) dX10_countAlike_6 ⟨Nat.le_of_ble_eq_true rfl, Nat.le_of_ble_eq_true rfl⟩ rfl (kY_bl X) (kY_pass hJ hS (va_free (wc := ([] : va_W)) hD hS hA [] rfl)) hN hK hP hD hS hA (vk_recv hX10 hk1 hS) [] [0, 1, 2, 3, 4, 5] [0, 1, 2, 3, 4, 5] [0, 1, 2, 3] rfl rfl rfl ⟨by decide, by decide, by decide, by decide⟩ rfl (fun H locs hP hD hS => ?_)
      refine lv_icmp_ge (tgt := 55) hx hb dX10_countAlike_9 (by decide) (fun cc => ?_) (fun cc => ?_)
      · replace hf := ifT cc hf
        exact exL_6 x_4 x_5 _ _ _ (lv_sub hl [0, 1, 2, 3] rfl) hP hD hS hf
      · replace hf := ifF cc hf
        refine lv_aload_n hx hb dX10_countAlike_12 rfl (lv_at hl 2 rfl) ?_
        refine va_get (D := D) (ci := 8) (v := .int (v0.1 1)) (C := RX10) (T := TX10) (N := 8) hx hb hts hi8 hown hK hP 0 rfl rfl 2 (by decide) hw1 (fun _ h9 => h9) rfl dX10_countAlike_13 ?_
        refine lv_iload_n hx hb dX10_countAlike_16 rfl (lv_at hl 0 rfl) ?_
        refine lv_iadd hx hb dX10_countAlike_17 ?_
        refine lv_aload_n hx hb dX10_countAlike_18 rfl (lv_at hl 2 rfl) ?_
        refine va_get (D := D) (ci := 8) (v := .int (v0.1 0)) (C := RX10) (T := TX10) (N := 8) hx hb hts hi8 hown hK hP 0 rfl rfl 1 (by decide) hw2 (fun _ h9 => h9) rfl dX10_countAlike_19 ?_
        refine lv_icmp_ge (tgt := 44) hx hb dX10_countAlike_22 (by decide) (fun cc => ?_) (fun cc => ?_)
        · replace hf := ifT cc hf
          refine lv_iload_n hx hb dX10_countAlike_44 rfl (lv_at hl 1 rfl) ?_
          obtain rfl := re1 hf
          exact hE hP hD hS dX10_countAlike_45
        · replace hf := ifF cc hf
          refine lv_aload_n hx hb dX10_countAlike_25 rfl (lv_at hl 2 rfl) ?_
          refine va_get (D := D) (ci := 8) (v := .ref (q0 1)) (C := RX10) (T := TX10) (N := 8) hx hb hts hi8 hown hK hP 0 rfl rfl 0 (by decide) hw3 (fun _ h9 => h9) rfl dX10_countAlike_26 ?_
          refine lv_aload_n hx hb dX10_countAlike_29 rfl (lv_at hl 2 rfl) ?_
          refine va_get (D := D) (ci := 8) (v := .int (v0.1 1)) (C := RX10) (T := TX10) (N := 8) hx hb hts hi8 hown hK hP 0 rfl rfl 2 (by decide) hw1 (fun _ h9 => h9) rfl dX10_countAlike_30 ?_
          refine lv_iload_n hx hb dX10_countAlike_33 rfl (lv_at hl 0 rfl) ?_
          refine lv_iadd hx hb dX10_countAlike_34 ?_
          obtain ⟨hin, hf⟩ := ckI_of hf
          refine va_cald (D := D) hx hb hK hP 1 1 rfl rfl hin dX10_countAlike_35 ?_
          refine lv_aload_n hx hb dX10_countAlike_36 rfl (lv_at hl 3 rfl) ?_
          refine lv_iload_n hx hb dX10_countAlike_37 rfl (lv_at hl 0 rfl) ?_
          obtain ⟨r_8, hc, hf⟩ := bd1_of hf
          refine k_VX (As := [.int x_4]) (rest := [.int (v0.2 0 ((v0.1 1) + x_4).toNatClampNeg)]) (ws1 := (kReader G q0 v0)) ⟨hx, hb, hml, hown, hts⟩ (c_J0_charAt_5068e l D G X  k1 x_4  _ hc hk1 _) (cwV 1 hts gX10_countAlike_J0_charAt_5068e rfl rfl rfl (by decide +kernel) ⟨Nat.le_of_ble_eq_true rfl, Nat.le_of_ble_eq_true rfl⟩) hl.1 (Nat.le_of_ble_eq_true rfl) dX10_countAlike_38 ⟨Nat.le_of_ble_eq_true rfl, Nat.le_of_ble_eq_true rfl⟩ rfl (kY_bl X) (kY_pass hJ hS (va_free (wc := ([] : va_W)) hD hS hA [] rfl)) hN hK hP hD hS hA (vk_recv hX10 hk1 hS) [] [0, 1, 2, 3, 4, 5] [0, 1, 2, 3, 4, 5] [0, 1, 2, 3] rfl rfl rfl ⟨by decide, by decide, by decide, by decide⟩ rfl (fun H locs hP hD hS => ?_)
          refine lv_icmp_eq (tgt := 46) hx hb dX10_countAlike_41 (by decide) (fun cc => ?_) (fun cc => ?_)
          · replace hf := ifT cc hf
            refine lv_iinc (v := (x_5 + 1)) (lv' := [(2, .int (x_5 + 1)), (3, .int x_4), (0, .ref (q0 0)), (1, .ref (X 2 k1))]) hx hb dX10_countAlike_46 hl (k := 1) rfl rfl (by decide) rfl (fun ls hl => ?_)
            refine lv_iinc (v := (x_4 + 1)) (lv' := [(3, .int (x_4 + 1)), (2, .int (x_5 + 1)), (0, .ref (q0 0)), (1, .ref (X 2 k1))]) hx hb dX10_countAlike_49 hl (k := 1) rfl rfl (by decide) rfl (fun ls hl => ?_)
            refine lv_goto (tgt := 4) hx hb dX10_countAlike_52 (by decide) ?_
            exact ihL_6 (x_4 + 1) (x_5 + 1) _ _ _ (lv_sub hl [0, 1, 2, 3] rfl) hP hD hS hf
          · replace hf := ifF cc hf
            refine lv_iload_n hx hb dX10_countAlike_44 rfl (lv_at hl 1 rfl) ?_
            obtain rfl := re1 hf
            exact hE hP hD hS dX10_countAlike_45
  exact loL_6 FU 0 0 _ _ _ hl hP hD hS hf
def f_X10_readWord_K6 (v0 : SV) (y_14 : Int32) (y_15 : Int32) (y_16 : Int32) : Option (Int32 × SV) :=
  nm (pF v0 1 ((v0.1 1) + y_16)) fun v_17 =>
  some (y_15, v_17)
def f_X10_readWord_B6 (v0 : SV) (selfL_9 : (Int32 → Int32 → Int32 → Option (Int32 × SV))) (x_6 : Int32) (x_7 : Int32) (x_8 : Int32) : Option (Int32 × SV) :=
  if (Int32.ofNat 8) ≤ x_6 then
    f_X10_readWord_K6 v0 x_6 x_7 x_8
  else
    ckI x_6 8 <|
    bd1 (f_X10_countAlike x_6.toNatClampNeg v0) fun r_11 =>
    nm (if x_8 < r_11 then r_11 else x_8) fun t_12 =>
    bd1 (f_J0_length_8abf5 x_6.toNatClampNeg) fun r_13 =>
    if r_11 = r_13 then
      selfL_9 (x_6 + 1) x_6 t_12
    else
      selfL_9 (x_6 + 1) x_7 t_12
def f_X10_readWord (v0 : SV) : Option (Int32 × SV) :=
  lz3 (f_X10_readWord_B6 v0) FU 0 (-1) 0
abbrev rm_X10_readWord : Room := { frames := 5, cells := 0, slots := 0, locals := 108 }
set_option maxHeartbeats 4000000 in
set_option maxRecDepth 100000 in
theorem c_X10_readWord (l : Launch) (D : va_G) (G : Nat → ClassId) (X : Nat → Nat → Nat) (q0 : Nat → Nat) (v0 : SV) (r : Int32) (v0' : SV) (hf : f_X10_readWord v0 = some (r, v0')) (sz : Nat) : mC l yX10_readWord wsX10_readWord rm_X10_readWord D (tyG G) (kY X) [.ref (q0 0)] (kReader G q0 v0) (kReader G q0 v0') sz (some (.int r)) 0 0 := by
  refine mC_ofI (cc := cX10_readWord) (maxL := 6) (ret := (some .int)) (by decide) rfl rfl (Nat.le_of_ble_eq_true rfl) ?_
  intro p e s m args below meth c Q0 hx hb hml hts hown hN hK A hD hA hE hP hS hJ ls hl
  have hl : lv_has ls 6 [(0, .ref (q0 0))] := hl
  unfold f_X10_readWord at hf
  obtain ⟨⟨hX1, hX2, hX3, hX4, hX5, hX6, hX7, hX8, hX9, hX10, hX11, hX12⟩, hX13⟩ := id hJ
  have hi8 : ∀ w ∈ u_ws RX10 TX10 8, w ∈ wsX10_readWord := by decide +kernel
  have hw1 := hts (.fieldLink RX10 69 "BalconyCensus$Command" "word" "Ljava/lang/String;") (by decide +kernel)
  have hw2 := hts (.methodLink RX10 77 Lib.Math.max.name) (by decide +kernel)
  have hw3 := hts (.static Lib.Math.max.name) (by decide +kernel)
  have hw4 := hts (.initialized "java/lang/Math") (by decide +kernel)
  have hw5 := hts (.code Lib.Math.max.name Lib.Math.max.code 2 (some .int)) (by decide +kernel)
  have hw6 := hts (.fieldLink RX10 32 "BalconyCensus$Reader" "position" "I") (by decide +kernel)
  refine lv_iconst (v := 0) hx hb dX10_readWord_0 (by decide) ?_
  refine lv_istore_n (lv' := [(1, .int 0), (0, .ref (q0 0))]) hx hb dX10_readWord_1 rfl hl (by decide) rfl (fun ls hl => ?_)
  refine lv_iconst (v := (-1)) hx hb dX10_readWord_2 (by decide) ?_
  refine lv_istore_n (lv' := [(2, .int (-1)), (1, .int 0), (0, .ref (q0 0))]) hx hb dX10_readWord_3 rfl hl (by decide) rfl (fun ls hl => ?_)
  refine lv_iconst (v := 0) hx hb dX10_readWord_4 (by decide) ?_
  refine lv_istore_n (lv' := [(3, .int 0), (2, .int (-1)), (1, .int 0), (0, .ref (q0 0))]) hx hb dX10_readWord_5 rfl hl (by decide) rfl (fun ls hl => ?_)
  have exL_9 : ∀ (y_14 : Int32) (y_15 : Int32) (y_16 : Int32) (H : Heap) (locs : List Loc) (ls : Array Slot), lv_has ls 6 [(3, .int y_14), (2, .int y_15), (1, .int y_16), (0, .ref (q0 0))] → va_P D vwCl (kReader G q0 v0) H → va_D A (kReader G q0 v0) → va_S A s.heap H locs → f_X10_readWord_K6 v0 y_14 y_15 y_16 = some (r, v0') → W p l e rm_X10_readWord s m args below meth c H locs 0 0 Q0 (F0 m 57 ls []) := by
    intro y_14 y_15 y_16 H locs ls hl hP hD hS hf
    unfold f_X10_readWord_K6 at hf
    refine lv_aload_n hx hb dX10_readWord_57 rfl (lv_at hl 3 rfl) ?_
    refine lv_dup hx hb dX10_readWord_58 rfl ?_
    refine va_get (D := D) (ci := 8) (v := .int (v0.1 1)) (C := RX10) (T := TX10) (N := 8) hx hb hts hi8 hown hK hP 0 rfl rfl 2 (by decide) hw6 (fun _ h9 => h9) rfl dX10_readWord_59 ?_
    refine lv_iload_n hx hb dX10_readWord_62 rfl (lv_at hl 2 rfl) ?_
    refine lv_iadd hx hb dX10_readWord_63 ?_
    obtain ⟨v_17, ev_17, hf⟩ := nm_of hf
    refine va_put (D := D) (ci := 8) (v := .int ((v0.1 1) + y_16)) (ty := .int) (C := RX10) (T := TX10) (N := 8) hx hb hts hi8 tyX10 tyX10_ok nmX10 hown hK hP hD hS 0 rfl rfl 2 (by decide) hw6 (fun _ h9 => h9) rfl (by decide +kernel) rfl rfl (Nat.le_of_ble_eq_true rfl) dX10_readWord_64 (fun H locs hP hD hS => ?_)
    have hP : va_P D vwCl (kReader G q0 v_17) H := by rw [ev_17]; exact hP
    have hD : va_D A (kReader G q0 v_17) := by rw [ev_17]; exact hD
    refine lv_iload_n hx hb dX10_readWord_67 rfl (lv_at hl 1 rfl) ?_
    obtain ⟨rfl, rfl⟩ := re2 hf
    exact hE hP hD hS dX10_readWord_68
  have loL_9 : ∀ (n : Nat) (x_6 : Int32) (x_7 : Int32) (x_8 : Int32) (H : Heap) (locs : List Loc) (ls : Array Slot), lv_has ls 6 [(3, .int x_6), (2, .int x_7), (1, .int x_8), (0, .ref (q0 0))] → va_P D vwCl (kReader G q0 v0) H → va_D A (kReader G q0 v0) → va_S A s.heap H locs → lz3 (f_X10_readWord_B6 v0) n x_6 x_7 x_8 = some (r, v0') → W p l e rm_X10_readWord s m args below meth c H locs 0 0 Q0 (F0 m 6 ls []) := by
    intro n
    induction n with
    | zero => intro x_6 x_7 x_8 H locs ls hl hP hD hS hf; cases hf
    | succ n ihL_9 =>
      intro x_6 x_7 x_8 H locs ls hl hP hD hS hf
      replace hf := lz3_s hf
      unfold f_X10_readWord_B6 at hf
      refine lv_iload_n hx hb dX10_readWord_6 rfl (lv_at hl 0 rfl) ?_
      refine va_getsN (host := "BalconyCensus") (v := .ref (X 0 0)) hx hb hX1 hS hown (va_Nw.use rfl hX12) (fun _ h9 => h9) dX10_readWord_7 ?_
      refine va_tlen (v := (Int32.ofNat 8)) hx hb hX2 hS rfl dX10_readWord_10 ?_
      refine lv_icmp_ge (tgt := 57) hx hb dX10_readWord_11 (by decide) (fun cc => ?_) (fun cc => ?_)
      · replace hf := ifT cc hf
        exact exL_9 x_6 x_7 x_8 _ _ _ (lv_sub hl [0, 1, 2, 3] rfl) hP hD hS hf
      · replace hf := ifF cc hf
        refine va_getsN (host := "BalconyCensus") (v := .ref (X 0 0)) hx hb hX1 hS hown (va_Nw.use rfl hX12) (fun _ h9 => h9) dX10_readWord_14 ?_
        refine lv_iload_n hx hb dX10_readWord_17 rfl (lv_at hl 0 rfl) ?_
        obtain ⟨hin, hf⟩ := ckI_of hf
        have hk_10 := vp_lt hin
        refine vb_tq (v := .ref (X 1 x_6.toNatClampNeg)) hx hb hX2 hS hin rfl dX10_readWord_18 ?_
        refine va_getX hx hb hX9 hk_10 hS hown hw1 (fun _ h9 => h9) dX10_readWord_19 ?_
        refine lv_astore (lv' := [(4, .ref (X 2 x_6.toNatClampNeg)), (3, .int x_6), (2, .int x_7), (1, .int x_8), (0, .ref (q0 0))]) hx hb dX10_readWord_22 hl (by decide) rfl (fun ls hl => ?_)
        refine lv_aload_n hx hb dX10_readWord_24 rfl (lv_at hl 4 rfl) ?_
        refine lv_aload hx hb dX10_readWord_25 (lv_at hl 0 rfl) ?_
        obtain ⟨r_11, hc, hf⟩ := bd1_of hf
        refine k_V (As := [.ref (X 2 x_6.toNatClampNeg)]) (rest := []) (ws1 := (kReader G q0 v0)) ⟨hx, hb, hml, hown, hts⟩ (c_X10_countAlike l D G X q0 x_6.toNatClampNeg v0 _ hc hk_10 _) (cwV 1 hts gX10_readWord_X10_countAlike rfl rfl rfl (by decide +kernel) ⟨Nat.le_of_ble_eq_true rfl, Nat.le_of_ble_eq_true rfl⟩) hl.1 (Nat.le_of_ble_eq_true rfl) dX10_readWord_27 ⟨Nat.le_of_ble_eq_true rfl, Nat.le_of_ble_eq_true rfl⟩ rfl (kY_bl X) (kY_pass hJ hS (va_free (wc := (kReader G q0 v0)) hD hS hA [0, 1, 2, 3, 4, 5] rfl)) hN hK hP hD hS hA 0 8 rfl rfl rfl [0, 1, 2, 3, 4, 5] [] [0, 1, 2, 3, 4, 5] [0, 1, 2, 3] rfl rfl rfl ⟨by decide, by decide, by decide, by decide⟩ rfl (fun H locs hP hD hS => ?_)
        refine lv_istore (lv' := [(5, .int r_11), (4, .ref (X 2 x_6.toNatClampNeg)), (3, .int x_6), (2, .int x_7), (1, .int x_8), (0, .ref (q0 0))]) hx hb dX10_readWord_30 hl (by decide) rfl (fun ls hl => ?_)
        refine lv_iload_n hx hb dX10_readWord_32 rfl (lv_at hl 4 rfl) ?_
        refine lv_iload hx hb dX10_readWord_33 (lv_at hl 0 rfl) ?_
        refine va_mmax hx hb (hml.trans hl.1.symm) hown hw2 hw3 hw4 hw5 (Nat.le_of_ble_eq_true rfl) (Nat.le_of_ble_eq_true rfl) (Nat.zero_le _) (Nat.zero_le _) dX10_readWord_35 ?_
        obtain ⟨t_12, et_12, hf⟩ := nm_of hf
        rw [← et_12]
        refine lv_istore_n (lv' := [(1, .int t_12), (5, .int r_11), (4, .ref (X 2 x_6.toNatClampNeg)), (3, .int x_6), (2, .int x_7), (0, .ref (q0 0))]) hx hb dX10_readWord_38 rfl hl (by decide) rfl (fun ls hl => ?_)
        refine lv_iload hx hb dX10_readWord_39 (lv_at hl 1 rfl) ?_
        refine lv_aload hx hb dX10_readWord_41 (lv_at hl 2 rfl) ?_
        obtain ⟨r_13, hc, hf⟩ := bd1_of hf
        refine k_VX (As := []) (rest := [.int r_11]) (ws1 := (kReader G q0 v0)) ⟨hx, hb, hml, hown, hts⟩ (c_J0_length_8abf5 l D G X  x_6.toNatClampNeg  _ hc hk_10 _) (cwV 0 hts gX10_readWord_J0_length_8abf5 rfl rfl rfl (by decide +kernel) ⟨Nat.le_of_ble_eq_true rfl, Nat.le_of_ble_eq_true rfl⟩) hl.1 (Nat.le_of_ble_eq_true rfl) dX10_readWord_43 ⟨Nat.le_of_ble_eq_true rfl, Nat.le_of_ble_eq_true rfl⟩ rfl (kY_bl X) (kY_pass hJ hS (va_free (wc := ([] : va_W)) hD hS hA [] rfl)) hN hK hP hD hS hA (vk_recv hX10 hk_10 hS) [] [0, 1, 2, 3, 4, 5] [0, 1, 2, 3, 4, 5] [0, 1, 2, 3] rfl rfl rfl ⟨by decide, by decide, by decide, by decide⟩ rfl (fun H locs hP hD hS => ?_)
        refine lv_icmp_ne (tgt := 51) hx hb dX10_readWord_46 (by decide) (fun cc => ?_) (fun cc => ?_)
        · replace hf := ifF cc hf
          refine lv_iinc (v := (x_6 + 1)) (lv' := [(3, .int (x_6 + 1)), (1, .int t_12), (5, .int r_11), (4, .ref (X 2 x_6.toNatClampNeg)), (2, .int x_7), (0, .ref (q0 0))]) hx hb dX10_readWord_51 hl (k := 3) rfl rfl (by decide) rfl (fun ls hl => ?_)
          refine lv_goto (tgt := 6) hx hb dX10_readWord_54 (by decide) ?_
          exact ihL_9 (x_6 + 1) x_7 t_12 _ _ _ (lv_sub hl [0, 4, 1, 5] rfl) hP hD hS hf
        · replace hf := ifT cc hf
          refine lv_iload_n hx hb dX10_readWord_49 rfl (lv_at hl 3 rfl) ?_
          refine lv_istore_n (lv' := [(2, .int x_6), (1, .int t_12), (5, .int r_11), (4, .ref (X 2 x_6.toNatClampNeg)), (3, .int x_6), (0, .ref (q0 0))]) hx hb dX10_readWord_50 rfl hl (by decide) rfl (fun ls hl => ?_)
          refine lv_iinc (v := (x_6 + 1)) (lv' := [(3, .int (x_6 + 1)), (2, .int x_6), (1, .int t_12), (5, .int r_11), (4, .ref (X 2 x_6.toNatClampNeg)), (0, .ref (q0 0))]) hx hb dX10_readWord_51 hl (k := 4) rfl rfl (by decide) rfl (fun ls hl => ?_)
          refine lv_goto (tgt := 6) hx hb dX10_readWord_54 (by decide) ?_
          exact ihL_9 (x_6 + 1) x_6 t_12 _ _ _ (lv_sub hl [0, 1, 2, 5] rfl) hP hD hS hf
  exact loL_9 FU 0 (-1) 0 _ _ _ hl hP hD hS hf
def f_X10_readCommand_J82 (a1 : Int32) (r_1 : Int32) (j_16 : Int32) (jv_17 : SV) : Option (Int32 × SV) :=
  ckI a1 20 <|
  nm (pA jv_17 3 a1 j_16) fun v_18 =>
  ckI a1 20 <|
  if 0 ≤ (v_18.2 3 a1.toNatClampNeg) then
    if (cDig r_1.toNatClampNeg) = 0 then
      some (1, v_18)
    else
      bd2 (f_X10_passOver 32 v_18) fun r_19 w_20 =>
      if r_19 = 0 then
        ckI a1 20 <|
        nm (pA w_20 4 a1 (-1)) fun v_21 =>
        ckI a1 20 <|
        if (v_21.2 4 a1.toNatClampNeg) < 0 then
          some (0, v_21)
        else
          some (1, v_21)
      else
        bd2 (f_X10_readDigit w_20) fun r_22 w_23 =>
        ckI a1 20 <|
        nm (pA w_23 4 a1 r_22) fun v_24 =>
        ckI a1 20 <|
        if (v_24.2 4 a1.toNatClampNeg) < 0 then
          some (0, v_24)
        else
          some (1, v_24)
  else
    some (0, v_18)
def f_X10_readCommand_J82_J_36 (a1 : Int32) (r_1 : Int32) (j_39 : Int32) (jv_40 : SV) : Option (Int32 × SV) :=
  ckI a1 20 <|
  nm (pA jv_40 3 a1 j_39) fun v_41 =>
  ckI a1 20 <|
  if 0 ≤ (v_41.2 3 a1.toNatClampNeg) then
    if (cDig r_1.toNatClampNeg) = 0 then
      some (1, v_41)
    else
      bd2 (f_X10_passOver 32 v_41) fun r_42 w_43 =>
      if r_42 = 0 then
        ckI a1 20 <|
        nm (pA w_43 4 a1 (-1)) fun v_44 =>
        ckI a1 20 <|
        if (v_44.2 4 a1.toNatClampNeg) < 0 then
          some (0, v_44)
        else
          some (1, v_44)
      else
        bd2 (f_X10_readDigit w_43) fun r_45 w_46 =>
        ckI a1 20 <|
        nm (pA w_46 4 a1 r_45) fun v_47 =>
        ckI a1 20 <|
        if (v_47.2 4 a1.toNatClampNeg) < 0 then
          some (0, v_47)
        else
          some (1, v_47)
  else
    some (0, v_41)
def f_X10_readCommand (a1 : Int32) (v0 : SV) : Option (Int32 × SV) :=
  bd2 (f_X10_readWord v0) fun r_1 w_2 =>
  if 0 ≤ r_1 then
    ckI a1 20 <|
    nm (pA w_2 1 a1 r_1) fun v_3 =>
    ckI r_1 8 <|
    if (cNum r_1.toNatClampNeg) ≤ 0 then
      if (cNum r_1.toNatClampNeg) ≤ 1 then
        if (cDig r_1.toNatClampNeg) = 0 then
          some (1, v_3)
        else
          bd2 (f_X10_passOver 32 v_3) fun r_5 w_6 =>
          if r_5 = 0 then
            ckI a1 20 <|
            nm (pA w_6 4 a1 (-1)) fun v_7 =>
            ckI a1 20 <|
            if (v_7.2 4 a1.toNatClampNeg) < 0 then
              some (0, v_7)
            else
              some (1, v_7)
          else
            bd2 (f_X10_readDigit w_6) fun r_8 w_9 =>
            ckI a1 20 <|
            nm (pA w_9 4 a1 r_8) fun v_10 =>
            ckI a1 20 <|
            if (v_10.2 4 a1.toNatClampNeg) < 0 then
              some (0, v_10)
            else
              some (1, v_10)
      else
        bd2 (f_X10_passOver 32 v_3) fun r_11 w_12 =>
        if r_11 = 0 then
          f_X10_readCommand_J82 a1 r_1 (-1) w_12
        else
          bd2 (f_X10_readNumber w_12) fun r_14 w_15 =>
          f_X10_readCommand_J82 a1 r_1 r_14 w_15
    else
      bd2 (f_X10_readNumber v_3) fun r_25 w_26 =>
      ckI a1 20 <|
      nm (pA w_26 2 a1 r_25) fun v_27 =>
      ckI a1 20 <|
      if 0 ≤ (v_27.2 2 a1.toNatClampNeg) then
        if (cNum r_1.toNatClampNeg) ≤ 1 then
          if (cDig r_1.toNatClampNeg) = 0 then
            some (1, v_27)
          else
            bd2 (f_X10_passOver 32 v_27) fun r_28 w_29 =>
            if r_28 = 0 then
              ckI a1 20 <|
              nm (pA w_29 4 a1 (-1)) fun v_30 =>
              ckI a1 20 <|
              if (v_30.2 4 a1.toNatClampNeg) < 0 then
                some (0, v_30)
              else
                some (1, v_30)
            else
              bd2 (f_X10_readDigit w_29) fun r_31 w_32 =>
              ckI a1 20 <|
              nm (pA w_32 4 a1 r_31) fun v_33 =>
              ckI a1 20 <|
              if (v_33.2 4 a1.toNatClampNeg) < 0 then
                some (0, v_33)
              else
                some (1, v_33)
        else
          bd2 (f_X10_passOver 32 v_27) fun r_34 w_35 =>
          if r_34 = 0 then
            f_X10_readCommand_J82_J_36 a1 r_1 (-1) w_35
          else
            bd2 (f_X10_readNumber w_35) fun r_37 w_38 =>
            f_X10_readCommand_J82_J_36 a1 r_1 r_37 w_38
      else
        some (0, v_27)
  else
    some (0, w_2)
abbrev rm_X10_readCommand : Room := { frames := 6, cells := 0, slots := 0, locals := 133 }
set_option maxHeartbeats 4000000 in
set_option maxRecDepth 100000 in
theorem c_X10_readCommand (l : Launch) (D : va_G) (G : Nat → ClassId) (X : Nat → Nat → Nat) (q0 : Nat → Nat) (a1 : Int32) (v0 : SV) (r : Int32) (v0' : SV) (hf : f_X10_readCommand a1 v0 = some (r, v0')) (sz : Nat) : mC l yX10_readCommand wsX10_readCommand rm_X10_readCommand D (tyG G) (kY X) [.ref (q0 0), .int a1] (kReader G q0 v0) (kReader G q0 v0') sz (some (.int r)) 0 0 := by
  refine mC_ofZ (cc := cX10_readCommand) (maxL := 4) (ret := (some .boolean)) (by decide) rfl rfl (Nat.le_of_ble_eq_true rfl) ?_
  intro p e s m args below meth c Q0 hx hb hml hts hown hN hK A hD hA hE hP hS hJ ls hl
  have hl : lv_has ls 4 [(0, .ref (q0 0)), (1, .int a1)] := hl
  unfold f_X10_readCommand at hf
  obtain ⟨⟨hX1, hX2, hX3, hX4, hX5, hX6, hX7, hX8, hX9, hX10, hX11, hX12⟩, hX13⟩ := id hJ
  have hi8 : ∀ w ∈ u_ws RX10 TX10 8, w ∈ wsX10_readCommand := by decide +kernel
  have hw1 := hts (.fieldLink RX10 15 "BalconyCensus$Reader" "kinds" "[I") (by decide +kernel)
  have hw2 := hts (.fieldLink RX10 54 "BalconyCensus$Command" "numbers" "I") (by decide +kernel)
  have hw3 := hts (.fieldLink RX10 62 "BalconyCensus$Command" "isDigitLast" "Z") (by decide +kernel)
  have hw4 := hts (.fieldLink RX10 25 "BalconyCensus$Reader" "digits" "[I") (by decide +kernel)
  have hw5 := hts (.fieldLink RX10 22 "BalconyCensus$Reader" "seconds" "[I") (by decide +kernel)
  have hw6 := hts (.fieldLink RX10 19 "BalconyCensus$Reader" "firsts" "[I") (by decide +kernel)
  refine lv_aload_n hx hb dX10_readCommand_0 rfl (lv_at hl 0 rfl) ?_
  obtain ⟨r_1, w_2, hc, hf⟩ := bd2_of hf
  refine k_V (As := []) (rest := []) (ws1 := (kReader G q0 w_2)) ⟨hx, hb, hml, hown, hts⟩ (c_X10_readWord l D G X q0  v0 _ _ hc  _) (cwV 0 hts gX10_readCommand_X10_readWord rfl rfl rfl (by decide +kernel) ⟨Nat.le_of_ble_eq_true rfl, Nat.le_of_ble_eq_true rfl⟩) hl.1 (Nat.le_of_ble_eq_true rfl) dX10_readCommand_1 ⟨Nat.le_of_ble_eq_true rfl, Nat.le_of_ble_eq_true rfl⟩ rfl (kY_bl X) (kY_pass hJ hS (va_free (wc := (kReader G q0 v0)) hD hS hA [0, 1, 2, 3, 4, 5] rfl)) hN hK hP hD hS hA 0 8 rfl rfl rfl [0, 1, 2, 3, 4, 5] [] [0, 1, 2, 3, 4, 5] [0, 1, 2, 3] rfl rfl rfl ⟨by decide, by decide, by decide, by decide⟩ rfl (fun H locs hP hD hS => ?_)
  refine lv_istore_n (lv' := [(2, .int r_1), (0, .ref (q0 0)), (1, .int a1)]) hx hb dX10_readCommand_4 rfl hl (by decide) rfl (fun ls hl => ?_)
  refine lv_iload_n hx hb dX10_readCommand_5 rfl (lv_at hl 0 rfl) ?_
  refine lv_if_ge (tgt := 11) hx hb dX10_readCommand_6 (by decide) (fun cc => ?_) (fun cc => ?_)
  · replace hf := ifT cc hf
    refine lv_aload_n hx hb dX10_readCommand_11 rfl (lv_at hl 1 rfl) ?_
    refine va_get (D := D) (ci := 8) (v := .ref (q0 2)) (C := RX10) (T := TX10) (N := 8) hx hb hts hi8 hown hK hP 0 rfl rfl 3 (by decide) hw1 (fun _ h9 => h9) rfl dX10_readCommand_12 ?_
    refine lv_iload_n hx hb dX10_readCommand_15 rfl (lv_at hl 2 rfl) ?_
    refine lv_iload_n hx hb dX10_readCommand_16 rfl (lv_at hl 0 rfl) ?_
    obtain ⟨hin, hf⟩ := ckI_of hf
    obtain ⟨v_3, ev_3, hf⟩ := nm_of hf
    refine va_iast (D := D) hx hb hK hP hD hS 2 0 rfl rfl hin dX10_readCommand_17 (fun H locs hP hD hS => ?_)
    have hP : va_P D vwCl (kReader G q0 v_3) H := by rw [ev_3]; exact hP
    have hD : va_D A (kReader G q0 v_3) := by rw [ev_3]; exact hD
    refine va_getsN (host := "BalconyCensus") (v := .ref (X 0 0)) hx hb hX1 hS hown (va_Nw.use rfl hX12) (fun _ h9 => h9) dX10_readCommand_18 ?_
    refine lv_iload_n hx hb dX10_readCommand_21 rfl (lv_at hl 0 rfl) ?_
    obtain ⟨hin, hf⟩ := ckI_of hf
    have hk_4 := vp_lt hin
    refine vb_tq (v := .ref (X 1 r_1.toNatClampNeg)) hx hb hX2 hS hin rfl dX10_readCommand_22 ?_
    refine lv_astore_n (lv' := [(3, .ref (X 1 r_1.toNatClampNeg)), (2, .int r_1), (0, .ref (q0 0)), (1, .int a1)]) hx hb dX10_readCommand_23 rfl hl (by decide) rfl (fun ls hl => ?_)
    refine lv_aload_n hx hb dX10_readCommand_24 rfl (lv_at hl 0 rfl) ?_
    refine va_getX hx hb hX7 hk_4 hS hown hw2 (fun _ h9 => h9) dX10_readCommand_25 ?_
    refine lv_if_le (tgt := 52) hx hb dX10_readCommand_28 (by decide) (fun cc => ?_) (fun cc => ?_)
    · replace hf := ifT cc hf
      refine lv_aload_n hx hb dX10_readCommand_52 rfl (lv_at hl 0 rfl) ?_
      refine va_getX hx hb hX7 hk_4 hS hown hw2 (fun _ h9 => h9) dX10_readCommand_53 ?_
      refine lv_iconst (v := 1) hx hb dX10_readCommand_56 (by decide) ?_
      refine lv_icmp_le (tgt := 94) hx hb dX10_readCommand_57 (by decide) (fun cc => ?_) (fun cc => ?_)
      · replace hf := ifT cc hf
        refine lv_aload_n hx hb dX10_readCommand_94 rfl (lv_at hl 0 rfl) ?_
        refine va_getX hx hb hX8 hk_4 hS hown hw3 (fun _ h9 => h9) dX10_readCommand_95 ?_
        refine lv_if_eq (tgt := 139) hx hb dX10_readCommand_98 (by decide) (fun cc => ?_) (fun cc => ?_)
        · replace hf := ifT cc hf
          refine lv_iconst (v := 1) hx hb dX10_readCommand_139 (by decide) ?_
          obtain ⟨rfl, rfl⟩ := re2 hf
          exact hE (.inr rfl) hP hD hS dX10_readCommand_140
        · replace hf := ifF cc hf
          refine lv_aload_n hx hb dX10_readCommand_101 rfl (lv_at hl 2 rfl) ?_
          refine va_get (D := D) (ci := 8) (v := .ref (q0 5)) (C := RX10) (T := TX10) (N := 8) hx hb hts hi8 hown hK hP 0 rfl rfl 6 (by decide) hw4 (fun _ h9 => h9) rfl dX10_readCommand_102 ?_
          refine lv_iload_n hx hb dX10_readCommand_105 rfl (lv_at hl 3 rfl) ?_
          refine lv_aload_n hx hb dX10_readCommand_106 rfl (lv_at hl 2 rfl) ?_
          refine lv_bipush (v := 32) hx hb dX10_readCommand_107 (by decide +kernel) ?_
          obtain ⟨r_5, w_6, hc, hf⟩ := bd2_of hf
          refine k_V (As := [.int 32]) (rest := [.int a1, .ref (q0 5)]) (ws1 := (kReader G q0 w_6)) ⟨hx, hb, hml, hown, hts⟩ (c_X10_passOver l D G q0 32 v_3 _ _ hc  _) (cwV 1 hts gX10_readCommand_X10_passOver rfl rfl rfl (by decide +kernel) ⟨Nat.le_of_ble_eq_true rfl, Nat.le_of_ble_eq_true rfl⟩) hl.1 (Nat.le_of_ble_eq_true rfl) dX10_readCommand_109 ⟨Nat.le_of_ble_eq_true rfl, Nat.le_of_ble_eq_true rfl⟩ rfl kT_bl (fun _ _ _ => trivial) hN hK hP hD hS hA 0 8 rfl rfl rfl [0, 1, 2, 3, 4, 5] [] [0, 1, 2, 3, 4, 5] [0, 1, 2, 3] rfl rfl rfl ⟨by decide, by decide, by decide, by decide⟩ rfl (fun H locs hP hD hS => ?_)
          refine lv_if_eq (tgt := 122) hx hb dX10_readCommand_112 (by decide) (fun cc => ?_) (fun cc => ?_)
          · replace hf := ifT cc hf
            refine lv_iconst (v := (-1)) hx hb dX10_readCommand_122 (by decide) ?_
            obtain ⟨hin, hf⟩ := ckI_of hf
            obtain ⟨v_7, ev_7, hf⟩ := nm_of hf
            refine va_iast (D := D) hx hb hK hP hD hS 5 0 rfl rfl hin dX10_readCommand_123 (fun H locs hP hD hS => ?_)
            have hP : va_P D vwCl (kReader G q0 v_7) H := by rw [ev_7]; exact hP
            have hD : va_D A (kReader G q0 v_7) := by rw [ev_7]; exact hD
            refine lv_aload_n hx hb dX10_readCommand_124 rfl (lv_at hl 2 rfl) ?_
            refine va_get (D := D) (ci := 8) (v := .ref (q0 5)) (C := RX10) (T := TX10) (N := 8) hx hb hts hi8 hown hK hP 0 rfl rfl 6 (by decide) hw4 (fun _ h9 => h9) rfl dX10_readCommand_125 ?_
            refine lv_iload_n hx hb dX10_readCommand_128 rfl (lv_at hl 3 rfl) ?_
            obtain ⟨hin, hf⟩ := ckI_of hf
            refine va_iald (D := D) hx hb hK hP 5 0 rfl rfl hin dX10_readCommand_129 ?_
            refine lv_if_lt (tgt := 137) hx hb dX10_readCommand_130 (by decide) (fun cc => ?_) (fun cc => ?_)
            · replace hf := ifT cc hf
              refine lv_iconst (v := 0) hx hb dX10_readCommand_137 (by decide) ?_
              obtain ⟨rfl, rfl⟩ := re2 hf
              exact hE (.inl rfl) hP hD hS dX10_readCommand_138
            · replace hf := ifF cc hf
              refine lv_iconst (v := 1) hx hb dX10_readCommand_133 (by decide) ?_
              refine lv_goto (tgt := 138) hx hb dX10_readCommand_134 (by decide) ?_
              obtain ⟨rfl, rfl⟩ := re2 hf
              exact hE (.inr rfl) hP hD hS dX10_readCommand_138
          · replace hf := ifF cc hf
            refine lv_aload_n hx hb dX10_readCommand_115 rfl (lv_at hl 2 rfl) ?_
            obtain ⟨r_8, w_9, hc, hf⟩ := bd2_of hf
            refine k_V (As := []) (rest := [.int a1, .ref (q0 5)]) (ws1 := (kReader G q0 w_9)) ⟨hx, hb, hml, hown, hts⟩ (c_X10_readDigit l D G q0  w_6 _ _ hc  _) (cwV 0 hts gX10_readCommand_X10_readDigit rfl rfl rfl (by decide +kernel) ⟨Nat.le_of_ble_eq_true rfl, Nat.le_of_ble_eq_true rfl⟩) hl.1 (Nat.le_of_ble_eq_true rfl) dX10_readCommand_116 ⟨Nat.le_of_ble_eq_true rfl, Nat.le_of_ble_eq_true rfl⟩ rfl kT_bl (fun _ _ _ => trivial) hN hK hP hD hS hA 0 8 rfl rfl rfl [0, 1, 2, 3, 4, 5] [] [0, 1, 2, 3, 4, 5] [0, 1, 2, 3] rfl rfl rfl ⟨by decide, by decide, by decide, by decide⟩ rfl (fun H locs hP hD hS => ?_)
            refine lv_goto (tgt := 123) hx hb dX10_readCommand_119 (by decide) ?_
            obtain ⟨hin, hf⟩ := ckI_of hf
            obtain ⟨v_10, ev_10, hf⟩ := nm_of hf
            refine va_iast (D := D) hx hb hK hP hD hS 5 0 rfl rfl hin dX10_readCommand_123 (fun H locs hP hD hS => ?_)
            have hP : va_P D vwCl (kReader G q0 v_10) H := by rw [ev_10]; exact hP
            have hD : va_D A (kReader G q0 v_10) := by rw [ev_10]; exact hD
            refine lv_aload_n hx hb dX10_readCommand_124 rfl (lv_at hl 2 rfl) ?_
            refine va_get (D := D) (ci := 8) (v := .ref (q0 5)) (C := RX10) (T := TX10) (N := 8) hx hb hts hi8 hown hK hP 0 rfl rfl 6 (by decide) hw4 (fun _ h9 => h9) rfl dX10_readCommand_125 ?_
            refine lv_iload_n hx hb dX10_readCommand_128 rfl (lv_at hl 3 rfl) ?_
            obtain ⟨hin, hf⟩ := ckI_of hf
            refine va_iald (D := D) hx hb hK hP 5 0 rfl rfl hin dX10_readCommand_129 ?_
            refine lv_if_lt (tgt := 137) hx hb dX10_readCommand_130 (by decide) (fun cc => ?_) (fun cc => ?_)
            · replace hf := ifT cc hf
              refine lv_iconst (v := 0) hx hb dX10_readCommand_137 (by decide) ?_
              obtain ⟨rfl, rfl⟩ := re2 hf
              exact hE (.inl rfl) hP hD hS dX10_readCommand_138
            · replace hf := ifF cc hf
              refine lv_iconst (v := 1) hx hb dX10_readCommand_133 (by decide) ?_
              refine lv_goto (tgt := 138) hx hb dX10_readCommand_134 (by decide) ?_
              obtain ⟨rfl, rfl⟩ := re2 hf
              exact hE (.inr rfl) hP hD hS dX10_readCommand_138
      · replace hf := ifF cc hf
        refine lv_aload_n hx hb dX10_readCommand_60 rfl (lv_at hl 2 rfl) ?_
        refine va_get (D := D) (ci := 8) (v := .ref (q0 4)) (C := RX10) (T := TX10) (N := 8) hx hb hts hi8 hown hK hP 0 rfl rfl 5 (by decide) hw5 (fun _ h9 => h9) rfl dX10_readCommand_61 ?_
        refine lv_iload_n hx hb dX10_readCommand_64 rfl (lv_at hl 3 rfl) ?_
        refine lv_aload_n hx hb dX10_readCommand_65 rfl (lv_at hl 2 rfl) ?_
        refine lv_bipush (v := 32) hx hb dX10_readCommand_66 (by decide +kernel) ?_
        obtain ⟨r_11, w_12, hc, hf⟩ := bd2_of hf
        refine k_V (As := [.int 32]) (rest := [.int a1, .ref (q0 4)]) (ws1 := (kReader G q0 w_12)) ⟨hx, hb, hml, hown, hts⟩ (c_X10_passOver l D G q0 32 v_3 _ _ hc  _) (cwV 1 hts gX10_readCommand_X10_passOver rfl rfl rfl (by decide +kernel) ⟨Nat.le_of_ble_eq_true rfl, Nat.le_of_ble_eq_true rfl⟩) hl.1 (Nat.le_of_ble_eq_true rfl) dX10_readCommand_68 ⟨Nat.le_of_ble_eq_true rfl, Nat.le_of_ble_eq_true rfl⟩ rfl kT_bl (fun _ _ _ => trivial) hN hK hP hD hS hA 0 8 rfl rfl rfl [0, 1, 2, 3, 4, 5] [] [0, 1, 2, 3, 4, 5] [0, 1, 2, 3] rfl rfl rfl ⟨by decide, by decide, by decide, by decide⟩ rfl (fun H locs hP hD hS => ?_)
        have jnJ_13 : ∀ (j_16 : Int32) (jv_17 : SV) (H : Heap) (locs : List Loc) (ls : Array Slot), lv_has ls 4 [(3, .ref (X 1 r_1.toNatClampNeg)), (2, .int r_1), (0, .ref (q0 0)), (1, .int a1)] → va_P D vwCl (kReader G q0 jv_17) H → va_D A (kReader G q0 jv_17) → va_S A s.heap H locs → f_X10_readCommand_J82 a1 r_1 j_16 jv_17 = some (r, v0') → W p l e rm_X10_readCommand s m args below meth c H locs 0 0 Q0 (F0 m 82 ls [.int j_16, .int a1, .ref (q0 4)]) := by
          intro j_16 jv_17 H locs ls hl hP hD hS hf
          unfold f_X10_readCommand_J82 at hf
          obtain ⟨hin, hf⟩ := ckI_of hf
          obtain ⟨v_18, ev_18, hf⟩ := nm_of hf
          refine va_iast (D := D) hx hb hK hP hD hS 4 0 rfl rfl hin dX10_readCommand_82 (fun H locs hP hD hS => ?_)
          have hP : va_P D vwCl (kReader G q0 v_18) H := by rw [ev_18]; exact hP
          have hD : va_D A (kReader G q0 v_18) := by rw [ev_18]; exact hD
          refine lv_aload_n hx hb dX10_readCommand_83 rfl (lv_at hl 2 rfl) ?_
          refine va_get (D := D) (ci := 8) (v := .ref (q0 4)) (C := RX10) (T := TX10) (N := 8) hx hb hts hi8 hown hK hP 0 rfl rfl 5 (by decide) hw5 (fun _ h9 => h9) rfl dX10_readCommand_84 ?_
          refine lv_iload_n hx hb dX10_readCommand_87 rfl (lv_at hl 3 rfl) ?_
          obtain ⟨hin, hf⟩ := ckI_of hf
          refine va_iald (D := D) hx hb hK hP 4 0 rfl rfl hin dX10_readCommand_88 ?_
          refine lv_if_ge (tgt := 94) hx hb dX10_readCommand_89 (by decide) (fun cc => ?_) (fun cc => ?_)
          · replace hf := ifT cc hf
            refine lv_aload_n hx hb dX10_readCommand_94 rfl (lv_at hl 0 rfl) ?_
            refine va_getX hx hb hX8 hk_4 hS hown hw3 (fun _ h9 => h9) dX10_readCommand_95 ?_
            refine lv_if_eq (tgt := 139) hx hb dX10_readCommand_98 (by decide) (fun cc => ?_) (fun cc => ?_)
            · replace hf := ifT cc hf
              refine lv_iconst (v := 1) hx hb dX10_readCommand_139 (by decide) ?_
              obtain ⟨rfl, rfl⟩ := re2 hf
              exact hE (.inr rfl) hP hD hS dX10_readCommand_140
            · replace hf := ifF cc hf
              refine lv_aload_n hx hb dX10_readCommand_101 rfl (lv_at hl 2 rfl) ?_
              refine va_get (D := D) (ci := 8) (v := .ref (q0 5)) (C := RX10) (T := TX10) (N := 8) hx hb hts hi8 hown hK hP 0 rfl rfl 6 (by decide) hw4 (fun _ h9 => h9) rfl dX10_readCommand_102 ?_
              refine lv_iload_n hx hb dX10_readCommand_105 rfl (lv_at hl 3 rfl) ?_
              refine lv_aload_n hx hb dX10_readCommand_106 rfl (lv_at hl 2 rfl) ?_
              refine lv_bipush (v := 32) hx hb dX10_readCommand_107 (by decide +kernel) ?_
              obtain ⟨r_19, w_20, hc, hf⟩ := bd2_of hf
              refine k_V (As := [.int 32]) (rest := [.int a1, .ref (q0 5)]) (ws1 := (kReader G q0 w_20)) ⟨hx, hb, hml, hown, hts⟩ (c_X10_passOver l D G q0 32 v_18 _ _ hc  _) (cwV 1 hts gX10_readCommand_X10_passOver rfl rfl rfl (by decide +kernel) ⟨Nat.le_of_ble_eq_true rfl, Nat.le_of_ble_eq_true rfl⟩) hl.1 (Nat.le_of_ble_eq_true rfl) dX10_readCommand_109 ⟨Nat.le_of_ble_eq_true rfl, Nat.le_of_ble_eq_true rfl⟩ rfl kT_bl (fun _ _ _ => trivial) hN hK hP hD hS hA 0 8 rfl rfl rfl [0, 1, 2, 3, 4, 5] [] [0, 1, 2, 3, 4, 5] [0, 1, 2, 3] rfl rfl rfl ⟨by decide, by decide, by decide, by decide⟩ rfl (fun H locs hP hD hS => ?_)
              refine lv_if_eq (tgt := 122) hx hb dX10_readCommand_112 (by decide) (fun cc => ?_) (fun cc => ?_)
              · replace hf := ifT cc hf
                refine lv_iconst (v := (-1)) hx hb dX10_readCommand_122 (by decide) ?_
                obtain ⟨hin, hf⟩ := ckI_of hf
                obtain ⟨v_21, ev_21, hf⟩ := nm_of hf
                refine va_iast (D := D) hx hb hK hP hD hS 5 0 rfl rfl hin dX10_readCommand_123 (fun H locs hP hD hS => ?_)
                have hP : va_P D vwCl (kReader G q0 v_21) H := by rw [ev_21]; exact hP
                have hD : va_D A (kReader G q0 v_21) := by rw [ev_21]; exact hD
                refine lv_aload_n hx hb dX10_readCommand_124 rfl (lv_at hl 2 rfl) ?_
                refine va_get (D := D) (ci := 8) (v := .ref (q0 5)) (C := RX10) (T := TX10) (N := 8) hx hb hts hi8 hown hK hP 0 rfl rfl 6 (by decide) hw4 (fun _ h9 => h9) rfl dX10_readCommand_125 ?_
                refine lv_iload_n hx hb dX10_readCommand_128 rfl (lv_at hl 3 rfl) ?_
                obtain ⟨hin, hf⟩ := ckI_of hf
                refine va_iald (D := D) hx hb hK hP 5 0 rfl rfl hin dX10_readCommand_129 ?_
                refine lv_if_lt (tgt := 137) hx hb dX10_readCommand_130 (by decide) (fun cc => ?_) (fun cc => ?_)
                · replace hf := ifT cc hf
                  refine lv_iconst (v := 0) hx hb dX10_readCommand_137 (by decide) ?_
                  obtain ⟨rfl, rfl⟩ := re2 hf
                  exact hE (.inl rfl) hP hD hS dX10_readCommand_138
                · replace hf := ifF cc hf
                  refine lv_iconst (v := 1) hx hb dX10_readCommand_133 (by decide) ?_
                  refine lv_goto (tgt := 138) hx hb dX10_readCommand_134 (by decide) ?_
                  obtain ⟨rfl, rfl⟩ := re2 hf
                  exact hE (.inr rfl) hP hD hS dX10_readCommand_138
              · replace hf := ifF cc hf
                refine lv_aload_n hx hb dX10_readCommand_115 rfl (lv_at hl 2 rfl) ?_
                obtain ⟨r_22, w_23, hc, hf⟩ := bd2_of hf
                refine k_V (As := []) (rest := [.int a1, .ref (q0 5)]) (ws1 := (kReader G q0 w_23)) ⟨hx, hb, hml, hown, hts⟩ (c_X10_readDigit l D G q0  w_20 _ _ hc  _) (cwV 0 hts gX10_readCommand_X10_readDigit rfl rfl rfl (by decide +kernel) ⟨Nat.le_of_ble_eq_true rfl, Nat.le_of_ble_eq_true rfl⟩) hl.1 (Nat.le_of_ble_eq_true rfl) dX10_readCommand_116 ⟨Nat.le_of_ble_eq_true rfl, Nat.le_of_ble_eq_true rfl⟩ rfl kT_bl (fun _ _ _ => trivial) hN hK hP hD hS hA 0 8 rfl rfl rfl [0, 1, 2, 3, 4, 5] [] [0, 1, 2, 3, 4, 5] [0, 1, 2, 3] rfl rfl rfl ⟨by decide, by decide, by decide, by decide⟩ rfl (fun H locs hP hD hS => ?_)
                refine lv_goto (tgt := 123) hx hb dX10_readCommand_119 (by decide) ?_
                obtain ⟨hin, hf⟩ := ckI_of hf
                obtain ⟨v_24, ev_24, hf⟩ := nm_of hf
                refine va_iast (D := D) hx hb hK hP hD hS 5 0 rfl rfl hin dX10_readCommand_123 (fun H locs hP hD hS => ?_)
                have hP : va_P D vwCl (kReader G q0 v_24) H := by rw [ev_24]; exact hP
                have hD : va_D A (kReader G q0 v_24) := by rw [ev_24]; exact hD
                refine lv_aload_n hx hb dX10_readCommand_124 rfl (lv_at hl 2 rfl) ?_
                refine va_get (D := D) (ci := 8) (v := .ref (q0 5)) (C := RX10) (T := TX10) (N := 8) hx hb hts hi8 hown hK hP 0 rfl rfl 6 (by decide) hw4 (fun _ h9 => h9) rfl dX10_readCommand_125 ?_
                refine lv_iload_n hx hb dX10_readCommand_128 rfl (lv_at hl 3 rfl) ?_
                obtain ⟨hin, hf⟩ := ckI_of hf
                refine va_iald (D := D) hx hb hK hP 5 0 rfl rfl hin dX10_readCommand_129 ?_
                refine lv_if_lt (tgt := 137) hx hb dX10_readCommand_130 (by decide) (fun cc => ?_) (fun cc => ?_)
                · replace hf := ifT cc hf
                  refine lv_iconst (v := 0) hx hb dX10_readCommand_137 (by decide) ?_
                  obtain ⟨rfl, rfl⟩ := re2 hf
                  exact hE (.inl rfl) hP hD hS dX10_readCommand_138
                · replace hf := ifF cc hf
                  refine lv_iconst (v := 1) hx hb dX10_readCommand_133 (by decide) ?_
                  refine lv_goto (tgt := 138) hx hb dX10_readCommand_134 (by decide) ?_
                  obtain ⟨rfl, rfl⟩ := re2 hf
                  exact hE (.inr rfl) hP hD hS dX10_readCommand_138
          · replace hf := ifF cc hf
            refine lv_iconst (v := 0) hx hb dX10_readCommand_92 (by decide) ?_
            obtain ⟨rfl, rfl⟩ := re2 hf
            exact hE (.inl rfl) hP hD hS dX10_readCommand_93
        refine lv_if_eq (tgt := 81) hx hb dX10_readCommand_71 (by decide) (fun cc => ?_) (fun cc => ?_)
        · replace hf := ifT cc hf
          refine lv_iconst (v := (-1)) hx hb dX10_readCommand_81 (by decide) ?_
          exact jnJ_13 (-1) w_12 _ _ _ (lv_sub hl [0, 1, 2, 3] rfl) hP hD hS hf
        · replace hf := ifF cc hf
          refine lv_aload_n hx hb dX10_readCommand_74 rfl (lv_at hl 2 rfl) ?_
          obtain ⟨r_14, w_15, hc, hf⟩ := bd2_of hf
          refine k_V (As := []) (rest := [.int a1, .ref (q0 4)]) (ws1 := (kReader G q0 w_15)) ⟨hx, hb, hml, hown, hts⟩ (c_X10_readNumber l D G q0  w_12 _ _ hc  _) (cwV 0 hts gX10_readCommand_X10_readNumber rfl rfl rfl (by decide +kernel) ⟨Nat.le_of_ble_eq_true rfl, Nat.le_of_ble_eq_true rfl⟩) hl.1 (Nat.le_of_ble_eq_true rfl) dX10_readCommand_75 ⟨Nat.le_of_ble_eq_true rfl, Nat.le_of_ble_eq_true rfl⟩ rfl kT_bl (fun _ _ _ => trivial) hN hK hP hD hS hA 0 8 rfl rfl rfl [0, 1, 2, 3, 4, 5] [] [0, 1, 2, 3, 4, 5] [0, 1, 2, 3] rfl rfl rfl ⟨by decide, by decide, by decide, by decide⟩ rfl (fun H locs hP hD hS => ?_)
          refine lv_goto (tgt := 82) hx hb dX10_readCommand_78 (by decide) ?_
          exact jnJ_13 r_14 w_15 _ _ _ (lv_sub hl [0, 1, 2, 3] rfl) hP hD hS hf
    · replace hf := ifF cc hf
      refine lv_aload_n hx hb dX10_readCommand_31 rfl (lv_at hl 2 rfl) ?_
      refine va_get (D := D) (ci := 8) (v := .ref (q0 3)) (C := RX10) (T := TX10) (N := 8) hx hb hts hi8 hown hK hP 0 rfl rfl 4 (by decide) hw6 (fun _ h9 => h9) rfl dX10_readCommand_32 ?_
      refine lv_iload_n hx hb dX10_readCommand_35 rfl (lv_at hl 3 rfl) ?_
      refine lv_aload_n hx hb dX10_readCommand_36 rfl (lv_at hl 2 rfl) ?_
      obtain ⟨r_25, w_26, hc, hf⟩ := bd2_of hf
      refine k_V (As := []) (rest := [.int a1, .ref (q0 3)]) (ws1 := (kReader G q0 w_26)) ⟨hx, hb, hml, hown, hts⟩ (c_X10_readNumber l D G q0  v_3 _ _ hc  _) (cwV 0 hts gX10_readCommand_X10_readNumber rfl rfl rfl (by decide +kernel) ⟨Nat.le_of_ble_eq_true rfl, Nat.le_of_ble_eq_true rfl⟩) hl.1 (Nat.le_of_ble_eq_true rfl) dX10_readCommand_37 ⟨Nat.le_of_ble_eq_true rfl, Nat.le_of_ble_eq_true rfl⟩ rfl kT_bl (fun _ _ _ => trivial) hN hK hP hD hS hA 0 8 rfl rfl rfl [0, 1, 2, 3, 4, 5] [] [0, 1, 2, 3, 4, 5] [0, 1, 2, 3] rfl rfl rfl ⟨by decide, by decide, by decide, by decide⟩ rfl (fun H locs hP hD hS => ?_)
      obtain ⟨hin, hf⟩ := ckI_of hf
      obtain ⟨v_27, ev_27, hf⟩ := nm_of hf
      refine va_iast (D := D) hx hb hK hP hD hS 3 0 rfl rfl hin dX10_readCommand_40 (fun H locs hP hD hS => ?_)
      have hP : va_P D vwCl (kReader G q0 v_27) H := by rw [ev_27]; exact hP
      have hD : va_D A (kReader G q0 v_27) := by rw [ev_27]; exact hD
      refine lv_aload_n hx hb dX10_readCommand_41 rfl (lv_at hl 2 rfl) ?_
      refine va_get (D := D) (ci := 8) (v := .ref (q0 3)) (C := RX10) (T := TX10) (N := 8) hx hb hts hi8 hown hK hP 0 rfl rfl 4 (by decide) hw6 (fun _ h9 => h9) rfl dX10_readCommand_42 ?_
      refine lv_iload_n hx hb dX10_readCommand_45 rfl (lv_at hl 3 rfl) ?_
      obtain ⟨hin, hf⟩ := ckI_of hf
      refine va_iald (D := D) hx hb hK hP 3 0 rfl rfl hin dX10_readCommand_46 ?_
      refine lv_if_ge (tgt := 52) hx hb dX10_readCommand_47 (by decide) (fun cc => ?_) (fun cc => ?_)
      · replace hf := ifT cc hf
        refine lv_aload_n hx hb dX10_readCommand_52 rfl (lv_at hl 0 rfl) ?_
        refine va_getX hx hb hX7 hk_4 hS hown hw2 (fun _ h9 => h9) dX10_readCommand_53 ?_
        refine lv_iconst (v := 1) hx hb dX10_readCommand_56 (by decide) ?_
        refine lv_icmp_le (tgt := 94) hx hb dX10_readCommand_57 (by decide) (fun cc => ?_) (fun cc => ?_)
        · replace hf := ifT cc hf
          refine lv_aload_n hx hb dX10_readCommand_94 rfl (lv_at hl 0 rfl) ?_
          refine va_getX hx hb hX8 hk_4 hS hown hw3 (fun _ h9 => h9) dX10_readCommand_95 ?_
          refine lv_if_eq (tgt := 139) hx hb dX10_readCommand_98 (by decide) (fun cc => ?_) (fun cc => ?_)
          · replace hf := ifT cc hf
            refine lv_iconst (v := 1) hx hb dX10_readCommand_139 (by decide) ?_
            obtain ⟨rfl, rfl⟩ := re2 hf
            exact hE (.inr rfl) hP hD hS dX10_readCommand_140
          · replace hf := ifF cc hf
            refine lv_aload_n hx hb dX10_readCommand_101 rfl (lv_at hl 2 rfl) ?_
            refine va_get (D := D) (ci := 8) (v := .ref (q0 5)) (C := RX10) (T := TX10) (N := 8) hx hb hts hi8 hown hK hP 0 rfl rfl 6 (by decide) hw4 (fun _ h9 => h9) rfl dX10_readCommand_102 ?_
            refine lv_iload_n hx hb dX10_readCommand_105 rfl (lv_at hl 3 rfl) ?_
            refine lv_aload_n hx hb dX10_readCommand_106 rfl (lv_at hl 2 rfl) ?_
            refine lv_bipush (v := 32) hx hb dX10_readCommand_107 (by decide +kernel) ?_
            obtain ⟨r_28, w_29, hc, hf⟩ := bd2_of hf
            refine k_V (As := [.int 32]) (rest := [.int a1, .ref (q0 5)]) (ws1 := (kReader G q0 w_29)) ⟨hx, hb, hml, hown, hts⟩ (c_X10_passOver l D G q0 32 v_27 _ _ hc  _) (cwV 1 hts gX10_readCommand_X10_passOver rfl rfl rfl (by decide +kernel) ⟨Nat.le_of_ble_eq_true rfl, Nat.le_of_ble_eq_true rfl⟩) hl.1 (Nat.le_of_ble_eq_true rfl) dX10_readCommand_109 ⟨Nat.le_of_ble_eq_true rfl, Nat.le_of_ble_eq_true rfl⟩ rfl kT_bl (fun _ _ _ => trivial) hN hK hP hD hS hA 0 8 rfl rfl rfl [0, 1, 2, 3, 4, 5] [] [0, 1, 2, 3, 4, 5] [0, 1, 2, 3] rfl rfl rfl ⟨by decide, by decide, by decide, by decide⟩ rfl (fun H locs hP hD hS => ?_)
            refine lv_if_eq (tgt := 122) hx hb dX10_readCommand_112 (by decide) (fun cc => ?_) (fun cc => ?_)
            · replace hf := ifT cc hf
              refine lv_iconst (v := (-1)) hx hb dX10_readCommand_122 (by decide) ?_
              obtain ⟨hin, hf⟩ := ckI_of hf
              obtain ⟨v_30, ev_30, hf⟩ := nm_of hf
              refine va_iast (D := D) hx hb hK hP hD hS 5 0 rfl rfl hin dX10_readCommand_123 (fun H locs hP hD hS => ?_)
              have hP : va_P D vwCl (kReader G q0 v_30) H := by rw [ev_30]; exact hP
              have hD : va_D A (kReader G q0 v_30) := by rw [ev_30]; exact hD
              refine lv_aload_n hx hb dX10_readCommand_124 rfl (lv_at hl 2 rfl) ?_
              refine va_get (D := D) (ci := 8) (v := .ref (q0 5)) (C := RX10) (T := TX10) (N := 8) hx hb hts hi8 hown hK hP 0 rfl rfl 6 (by decide) hw4 (fun _ h9 => h9) rfl dX10_readCommand_125 ?_
              refine lv_iload_n hx hb dX10_readCommand_128 rfl (lv_at hl 3 rfl) ?_
              obtain ⟨hin, hf⟩ := ckI_of hf
              refine va_iald (D := D) hx hb hK hP 5 0 rfl rfl hin dX10_readCommand_129 ?_
              refine lv_if_lt (tgt := 137) hx hb dX10_readCommand_130 (by decide) (fun cc => ?_) (fun cc => ?_)
              · replace hf := ifT cc hf
                refine lv_iconst (v := 0) hx hb dX10_readCommand_137 (by decide) ?_
                obtain ⟨rfl, rfl⟩ := re2 hf
                exact hE (.inl rfl) hP hD hS dX10_readCommand_138
              · replace hf := ifF cc hf
                refine lv_iconst (v := 1) hx hb dX10_readCommand_133 (by decide) ?_
                refine lv_goto (tgt := 138) hx hb dX10_readCommand_134 (by decide) ?_
                obtain ⟨rfl, rfl⟩ := re2 hf
                exact hE (.inr rfl) hP hD hS dX10_readCommand_138
            · replace hf := ifF cc hf
              refine lv_aload_n hx hb dX10_readCommand_115 rfl (lv_at hl 2 rfl) ?_
              obtain ⟨r_31, w_32, hc, hf⟩ := bd2_of hf
              refine k_V (As := []) (rest := [.int a1, .ref (q0 5)]) (ws1 := (kReader G q0 w_32)) ⟨hx, hb, hml, hown, hts⟩ (c_X10_readDigit l D G q0  w_29 _ _ hc  _) (cwV 0 hts gX10_readCommand_X10_readDigit rfl rfl rfl (by decide +kernel) ⟨Nat.le_of_ble_eq_true rfl, Nat.le_of_ble_eq_true rfl⟩) hl.1 (Nat.le_of_ble_eq_true rfl) dX10_readCommand_116 ⟨Nat.le_of_ble_eq_true rfl, Nat.le_of_ble_eq_true rfl⟩ rfl kT_bl (fun _ _ _ => trivial) hN hK hP hD hS hA 0 8 rfl rfl rfl [0, 1, 2, 3, 4, 5] [] [0, 1, 2, 3, 4, 5] [0, 1, 2, 3] rfl rfl rfl ⟨by decide, by decide, by decide, by decide⟩ rfl (fun H locs hP hD hS => ?_)
              refine lv_goto (tgt := 123) hx hb dX10_readCommand_119 (by decide) ?_
              obtain ⟨hin, hf⟩ := ckI_of hf
              obtain ⟨v_33, ev_33, hf⟩ := nm_of hf
              refine va_iast (D := D) hx hb hK hP hD hS 5 0 rfl rfl hin dX10_readCommand_123 (fun H locs hP hD hS => ?_)
              have hP : va_P D vwCl (kReader G q0 v_33) H := by rw [ev_33]; exact hP
              have hD : va_D A (kReader G q0 v_33) := by rw [ev_33]; exact hD
              refine lv_aload_n hx hb dX10_readCommand_124 rfl (lv_at hl 2 rfl) ?_
              refine va_get (D := D) (ci := 8) (v := .ref (q0 5)) (C := RX10) (T := TX10) (N := 8) hx hb hts hi8 hown hK hP 0 rfl rfl 6 (by decide) hw4 (fun _ h9 => h9) rfl dX10_readCommand_125 ?_
              refine lv_iload_n hx hb dX10_readCommand_128 rfl (lv_at hl 3 rfl) ?_
              obtain ⟨hin, hf⟩ := ckI_of hf
              refine va_iald (D := D) hx hb hK hP 5 0 rfl rfl hin dX10_readCommand_129 ?_
              refine lv_if_lt (tgt := 137) hx hb dX10_readCommand_130 (by decide) (fun cc => ?_) (fun cc => ?_)
              · replace hf := ifT cc hf
                refine lv_iconst (v := 0) hx hb dX10_readCommand_137 (by decide) ?_
                obtain ⟨rfl, rfl⟩ := re2 hf
                exact hE (.inl rfl) hP hD hS dX10_readCommand_138
              · replace hf := ifF cc hf
                refine lv_iconst (v := 1) hx hb dX10_readCommand_133 (by decide) ?_
                refine lv_goto (tgt := 138) hx hb dX10_readCommand_134 (by decide) ?_
                obtain ⟨rfl, rfl⟩ := re2 hf
                exact hE (.inr rfl) hP hD hS dX10_readCommand_138
        · replace hf := ifF cc hf
          refine lv_aload_n hx hb dX10_readCommand_60 rfl (lv_at hl 2 rfl) ?_
          refine va_get (D := D) (ci := 8) (v := .ref (q0 4)) (C := RX10) (T := TX10) (N := 8) hx hb hts hi8 hown hK hP 0 rfl rfl 5 (by decide) hw5 (fun _ h9 => h9) rfl dX10_readCommand_61 ?_
          refine lv_iload_n hx hb dX10_readCommand_64 rfl (lv_at hl 3 rfl) ?_
          refine lv_aload_n hx hb dX10_readCommand_65 rfl (lv_at hl 2 rfl) ?_
          refine lv_bipush (v := 32) hx hb dX10_readCommand_66 (by decide +kernel) ?_
          obtain ⟨r_34, w_35, hc, hf⟩ := bd2_of hf
          refine k_V (As := [.int 32]) (rest := [.int a1, .ref (q0 4)]) (ws1 := (kReader G q0 w_35)) ⟨hx, hb, hml, hown, hts⟩ (c_X10_passOver l D G q0 32 v_27 _ _ hc  _) (cwV 1 hts gX10_readCommand_X10_passOver rfl rfl rfl (by decide +kernel) ⟨Nat.le_of_ble_eq_true rfl, Nat.le_of_ble_eq_true rfl⟩) hl.1 (Nat.le_of_ble_eq_true rfl) dX10_readCommand_68 ⟨Nat.le_of_ble_eq_true rfl, Nat.le_of_ble_eq_true rfl⟩ rfl kT_bl (fun _ _ _ => trivial) hN hK hP hD hS hA 0 8 rfl rfl rfl [0, 1, 2, 3, 4, 5] [] [0, 1, 2, 3, 4, 5] [0, 1, 2, 3] rfl rfl rfl ⟨by decide, by decide, by decide, by decide⟩ rfl (fun H locs hP hD hS => ?_)
          have jnJ_36 : ∀ (j_39 : Int32) (jv_40 : SV) (H : Heap) (locs : List Loc) (ls : Array Slot), lv_has ls 4 [(3, .ref (X 1 r_1.toNatClampNeg)), (2, .int r_1), (0, .ref (q0 0)), (1, .int a1)] → va_P D vwCl (kReader G q0 jv_40) H → va_D A (kReader G q0 jv_40) → va_S A s.heap H locs → f_X10_readCommand_J82_J_36 a1 r_1 j_39 jv_40 = some (r, v0') → W p l e rm_X10_readCommand s m args below meth c H locs 0 0 Q0 (F0 m 82 ls [.int j_39, .int a1, .ref (q0 4)]) := by
            intro j_39 jv_40 H locs ls hl hP hD hS hf
            unfold f_X10_readCommand_J82_J_36 at hf
            obtain ⟨hin, hf⟩ := ckI_of hf
            obtain ⟨v_41, ev_41, hf⟩ := nm_of hf
            refine va_iast (D := D) hx hb hK hP hD hS 4 0 rfl rfl hin dX10_readCommand_82 (fun H locs hP hD hS => ?_)
            have hP : va_P D vwCl (kReader G q0 v_41) H := by rw [ev_41]; exact hP
            have hD : va_D A (kReader G q0 v_41) := by rw [ev_41]; exact hD
            refine lv_aload_n hx hb dX10_readCommand_83 rfl (lv_at hl 2 rfl) ?_
            refine va_get (D := D) (ci := 8) (v := .ref (q0 4)) (C := RX10) (T := TX10) (N := 8) hx hb hts hi8 hown hK hP 0 rfl rfl 5 (by decide) hw5 (fun _ h9 => h9) rfl dX10_readCommand_84 ?_
            refine lv_iload_n hx hb dX10_readCommand_87 rfl (lv_at hl 3 rfl) ?_
            obtain ⟨hin, hf⟩ := ckI_of hf
            refine va_iald (D := D) hx hb hK hP 4 0 rfl rfl hin dX10_readCommand_88 ?_
            refine lv_if_ge (tgt := 94) hx hb dX10_readCommand_89 (by decide) (fun cc => ?_) (fun cc => ?_)
            · replace hf := ifT cc hf
              refine lv_aload_n hx hb dX10_readCommand_94 rfl (lv_at hl 0 rfl) ?_
              refine va_getX hx hb hX8 hk_4 hS hown hw3 (fun _ h9 => h9) dX10_readCommand_95 ?_
              refine lv_if_eq (tgt := 139) hx hb dX10_readCommand_98 (by decide) (fun cc => ?_) (fun cc => ?_)
              · replace hf := ifT cc hf
                refine lv_iconst (v := 1) hx hb dX10_readCommand_139 (by decide) ?_
                obtain ⟨rfl, rfl⟩ := re2 hf
                exact hE (.inr rfl) hP hD hS dX10_readCommand_140
              · replace hf := ifF cc hf
                refine lv_aload_n hx hb dX10_readCommand_101 rfl (lv_at hl 2 rfl) ?_
                refine va_get (D := D) (ci := 8) (v := .ref (q0 5)) (C := RX10) (T := TX10) (N := 8) hx hb hts hi8 hown hK hP 0 rfl rfl 6 (by decide) hw4 (fun _ h9 => h9) rfl dX10_readCommand_102 ?_
                refine lv_iload_n hx hb dX10_readCommand_105 rfl (lv_at hl 3 rfl) ?_
                refine lv_aload_n hx hb dX10_readCommand_106 rfl (lv_at hl 2 rfl) ?_
                refine lv_bipush (v := 32) hx hb dX10_readCommand_107 (by decide +kernel) ?_
                obtain ⟨r_42, w_43, hc, hf⟩ := bd2_of hf
                refine k_V (As := [.int 32]) (rest := [.int a1, .ref (q0 5)]) (ws1 := (kReader G q0 w_43)) ⟨hx, hb, hml, hown, hts⟩ (c_X10_passOver l D G q0 32 v_41 _ _ hc  _) (cwV 1 hts gX10_readCommand_X10_passOver rfl rfl rfl (by decide +kernel) ⟨Nat.le_of_ble_eq_true rfl, Nat.le_of_ble_eq_true rfl⟩) hl.1 (Nat.le_of_ble_eq_true rfl) dX10_readCommand_109 ⟨Nat.le_of_ble_eq_true rfl, Nat.le_of_ble_eq_true rfl⟩ rfl kT_bl (fun _ _ _ => trivial) hN hK hP hD hS hA 0 8 rfl rfl rfl [0, 1, 2, 3, 4, 5] [] [0, 1, 2, 3, 4, 5] [0, 1, 2, 3] rfl rfl rfl ⟨by decide, by decide, by decide, by decide⟩ rfl (fun H locs hP hD hS => ?_)
                refine lv_if_eq (tgt := 122) hx hb dX10_readCommand_112 (by decide) (fun cc => ?_) (fun cc => ?_)
                · replace hf := ifT cc hf
                  refine lv_iconst (v := (-1)) hx hb dX10_readCommand_122 (by decide) ?_
                  obtain ⟨hin, hf⟩ := ckI_of hf
                  obtain ⟨v_44, ev_44, hf⟩ := nm_of hf
                  refine va_iast (D := D) hx hb hK hP hD hS 5 0 rfl rfl hin dX10_readCommand_123 (fun H locs hP hD hS => ?_)
                  have hP : va_P D vwCl (kReader G q0 v_44) H := by rw [ev_44]; exact hP
                  have hD : va_D A (kReader G q0 v_44) := by rw [ev_44]; exact hD
                  refine lv_aload_n hx hb dX10_readCommand_124 rfl (lv_at hl 2 rfl) ?_
                  refine va_get (D := D) (ci := 8) (v := .ref (q0 5)) (C := RX10) (T := TX10) (N := 8) hx hb hts hi8 hown hK hP 0 rfl rfl 6 (by decide) hw4 (fun _ h9 => h9) rfl dX10_readCommand_125 ?_
                  refine lv_iload_n hx hb dX10_readCommand_128 rfl (lv_at hl 3 rfl) ?_
                  obtain ⟨hin, hf⟩ := ckI_of hf
                  refine va_iald (D := D) hx hb hK hP 5 0 rfl rfl hin dX10_readCommand_129 ?_
                  refine lv_if_lt (tgt := 137) hx hb dX10_readCommand_130 (by decide) (fun cc => ?_) (fun cc => ?_)
                  · replace hf := ifT cc hf
                    refine lv_iconst (v := 0) hx hb dX10_readCommand_137 (by decide) ?_
                    obtain ⟨rfl, rfl⟩ := re2 hf
                    exact hE (.inl rfl) hP hD hS dX10_readCommand_138
                  · replace hf := ifF cc hf
                    refine lv_iconst (v := 1) hx hb dX10_readCommand_133 (by decide) ?_
                    refine lv_goto (tgt := 138) hx hb dX10_readCommand_134 (by decide) ?_
                    obtain ⟨rfl, rfl⟩ := re2 hf
                    exact hE (.inr rfl) hP hD hS dX10_readCommand_138
                · replace hf := ifF cc hf
                  refine lv_aload_n hx hb dX10_readCommand_115 rfl (lv_at hl 2 rfl) ?_
                  obtain ⟨r_45, w_46, hc, hf⟩ := bd2_of hf
                  refine k_V (As := []) (rest := [.int a1, .ref (q0 5)]) (ws1 := (kReader G q0 w_46)) ⟨hx, hb, hml, hown, hts⟩ (c_X10_readDigit l D G q0  w_43 _ _ hc  _) (cwV 0 hts gX10_readCommand_X10_readDigit rfl rfl rfl (by decide +kernel) ⟨Nat.le_of_ble_eq_true rfl, Nat.le_of_ble_eq_true rfl⟩) hl.1 (Nat.le_of_ble_eq_true rfl) dX10_readCommand_116 ⟨Nat.le_of_ble_eq_true rfl, Nat.le_of_ble_eq_true rfl⟩ rfl kT_bl (fun _ _ _ => trivial) hN hK hP hD hS hA 0 8 rfl rfl rfl [0, 1, 2, 3, 4, 5] [] [0, 1, 2, 3, 4, 5] [0, 1, 2, 3] rfl rfl rfl ⟨by decide, by decide, by decide, by decide⟩ rfl (fun H locs hP hD hS => ?_)
                  refine lv_goto (tgt := 123) hx hb dX10_readCommand_119 (by decide) ?_
                  obtain ⟨hin, hf⟩ := ckI_of hf
                  obtain ⟨v_47, ev_47, hf⟩ := nm_of hf
                  refine va_iast (D := D) hx hb hK hP hD hS 5 0 rfl rfl hin dX10_readCommand_123 (fun H locs hP hD hS => ?_)
                  have hP : va_P D vwCl (kReader G q0 v_47) H := by rw [ev_47]; exact hP
                  have hD : va_D A (kReader G q0 v_47) := by rw [ev_47]; exact hD
                  refine lv_aload_n hx hb dX10_readCommand_124 rfl (lv_at hl 2 rfl) ?_
                  refine va_get (D := D) (ci := 8) (v := .ref (q0 5)) (C := RX10) (T := TX10) (N := 8) hx hb hts hi8 hown hK hP 0 rfl rfl 6 (by decide) hw4 (fun _ h9 => h9) rfl dX10_readCommand_125 ?_
                  refine lv_iload_n hx hb dX10_readCommand_128 rfl (lv_at hl 3 rfl) ?_
                  obtain ⟨hin, hf⟩ := ckI_of hf
                  refine va_iald (D := D) hx hb hK hP 5 0 rfl rfl hin dX10_readCommand_129 ?_
                  refine lv_if_lt (tgt := 137) hx hb dX10_readCommand_130 (by decide) (fun cc => ?_) (fun cc => ?_)
                  · replace hf := ifT cc hf
                    refine lv_iconst (v := 0) hx hb dX10_readCommand_137 (by decide) ?_
                    obtain ⟨rfl, rfl⟩ := re2 hf
                    exact hE (.inl rfl) hP hD hS dX10_readCommand_138
                  · replace hf := ifF cc hf
                    refine lv_iconst (v := 1) hx hb dX10_readCommand_133 (by decide) ?_
                    refine lv_goto (tgt := 138) hx hb dX10_readCommand_134 (by decide) ?_
                    obtain ⟨rfl, rfl⟩ := re2 hf
                    exact hE (.inr rfl) hP hD hS dX10_readCommand_138
            · replace hf := ifF cc hf
              refine lv_iconst (v := 0) hx hb dX10_readCommand_92 (by decide) ?_
              obtain ⟨rfl, rfl⟩ := re2 hf
              exact hE (.inl rfl) hP hD hS dX10_readCommand_93
          refine lv_if_eq (tgt := 81) hx hb dX10_readCommand_71 (by decide) (fun cc => ?_) (fun cc => ?_)
          · replace hf := ifT cc hf
            refine lv_iconst (v := (-1)) hx hb dX10_readCommand_81 (by decide) ?_
            exact jnJ_36 (-1) w_35 _ _ _ (lv_sub hl [0, 1, 2, 3] rfl) hP hD hS hf
          · replace hf := ifF cc hf
            refine lv_aload_n hx hb dX10_readCommand_74 rfl (lv_at hl 2 rfl) ?_
            obtain ⟨r_37, w_38, hc, hf⟩ := bd2_of hf
            refine k_V (As := []) (rest := [.int a1, .ref (q0 4)]) (ws1 := (kReader G q0 w_38)) ⟨hx, hb, hml, hown, hts⟩ (c_X10_readNumber l D G q0  w_35 _ _ hc  _) (cwV 0 hts gX10_readCommand_X10_readNumber rfl rfl rfl (by decide +kernel) ⟨Nat.le_of_ble_eq_true rfl, Nat.le_of_ble_eq_true rfl⟩) hl.1 (Nat.le_of_ble_eq_true rfl) dX10_readCommand_75 ⟨Nat.le_of_ble_eq_true rfl, Nat.le_of_ble_eq_true rfl⟩ rfl kT_bl (fun _ _ _ => trivial) hN hK hP hD hS hA 0 8 rfl rfl rfl [0, 1, 2, 3, 4, 5] [] [0, 1, 2, 3, 4, 5] [0, 1, 2, 3] rfl rfl rfl ⟨by decide, by decide, by decide, by decide⟩ rfl (fun H locs hP hD hS => ?_)
            refine lv_goto (tgt := 82) hx hb dX10_readCommand_78 (by decide) ?_
            exact jnJ_36 r_37 w_38 _ _ _ (lv_sub hl [0, 1, 2, 3] rfl) hP hD hS hf
      · replace hf := ifF cc hf
        refine lv_iconst (v := 0) hx hb dX10_readCommand_50 (by decide) ?_
        obtain ⟨rfl, rfl⟩ := re2 hf
        exact hE (.inl rfl) hP hD hS dX10_readCommand_51
  · replace hf := ifF cc hf
    refine lv_iconst (v := 0) hx hb dX10_readCommand_9 (by decide) ?_
    obtain ⟨rfl, rfl⟩ := re2 hf
    exact hE (.inl rfl) hP hD hS dX10_readCommand_10
def f_X10_understandText_K12 (y_17 : Int32) (z_18 : SV) : Option (Int32 × SV) :=
  some (0, z_18)
def f_X10_understandText_B12 (selfL_11 : (Int32 → SV → Option (Int32 × SV))) (x_9 : Int32) (u_10 : SV) : Option (Int32 × SV) :=
  if 20 ≤ x_9 then
    f_X10_understandText_K12 x_9 u_10
  else
    bd2 (f_X10_readCommand x_9 u_10) fun r_12 w_13 =>
    if r_12 = 0 then
      some (0, w_13)
    else
      nm (pF w_13 2 ((w_13.1 2) + 1)) fun v_14 =>
      if (v_14.1 1) = (v_14.1 0) then
        some (1, v_14)
      else
        bd2 (f_X10_passOver 59 v_14) fun r_15 w_16 =>
        if r_15 = 0 then
          some (0, w_16)
        else
          selfL_11 (x_9 + 1) w_16
def f_X10_understandText (v0 : SV) : Option (Int32 × SV) :=
  nm (pF v0 1 0) fun v_1 =>
  nm (pF v_1 2 0) fun v_2 =>
  lz2 (f_X10_understandText_B12) FU 0 v_2
abbrev rm_X10_understandText : Room := { frames := 7, cells := 0, slots := 0, locals := 156 }
set_option maxHeartbeats 4000000 in
set_option maxRecDepth 100000 in
theorem c_X10_understandText (l : Launch) (D : va_G) (G : Nat → ClassId) (X : Nat → Nat → Nat) (q0 : Nat → Nat) (v0 : SV) (r : Int32) (v0' : SV) (hf : f_X10_understandText v0 = some (r, v0')) (sz : Nat) : mC l yX10_understandText wsX10_understandText rm_X10_understandText D (tyG G) (kY X) [.ref (q0 0)] (kReader G q0 v0) (kReader G q0 v0') sz (some (.int r)) 0 0 := by
  refine mC_ofZ (cc := cX10_understandText) (maxL := 2) (ret := (some .boolean)) (by decide) rfl rfl (Nat.le_of_ble_eq_true rfl) ?_
  intro p e s m args below meth c Q0 hx hb hml hts hown hN hK A hD hA hE hP hS hJ ls hl
  have hl : lv_has ls 2 [(0, .ref (q0 0))] := hl
  unfold f_X10_understandText at hf
  obtain ⟨⟨hX1, hX2, hX3, hX4, hX5, hX6, hX7, hX8, hX9, hX10, hX11, hX12⟩, hX13⟩ := id hJ
  have hi8 : ∀ w ∈ u_ws RX10 TX10 8, w ∈ wsX10_understandText := by decide +kernel
  have hw1 := hts (.fieldLink RX10 32 "BalconyCensus$Reader" "position" "I") (by decide +kernel)
  have hw2 := hts (.fieldLink RX10 35 "BalconyCensus$Reader" "commandCount" "I") (by decide +kernel)
  have hw3 := hts (.fieldLink RX10 28 "BalconyCensus$Reader" "length" "I") (by decide +kernel)
  refine lv_aload_n hx hb dX10_understandText_0 rfl (lv_at hl 0 rfl) ?_
  refine lv_iconst (v := 0) hx hb dX10_understandText_1 (by decide) ?_
  obtain ⟨v_1, ev_1, hf⟩ := nm_of hf
  refine va_put (D := D) (ci := 8) (v := .int 0) (ty := .int) (C := RX10) (T := TX10) (N := 8) hx hb hts hi8 tyX10 tyX10_ok nmX10 hown hK hP hD hS 0 rfl rfl 2 (by decide) hw1 (fun _ h9 => h9) rfl (by decide +kernel) rfl rfl (Nat.le_of_ble_eq_true rfl) dX10_understandText_2 (fun H locs hP hD hS => ?_)
  have hP : va_P D vwCl (kReader G q0 v_1) H := by rw [ev_1]; exact hP
  have hD : va_D A (kReader G q0 v_1) := by rw [ev_1]; exact hD
  refine lv_aload_n hx hb dX10_understandText_5 rfl (lv_at hl 0 rfl) ?_
  refine lv_iconst (v := 0) hx hb dX10_understandText_6 (by decide) ?_
  obtain ⟨v_2, ev_2, hf⟩ := nm_of hf
  refine va_put (D := D) (ci := 8) (v := .int 0) (ty := .int) (C := RX10) (T := TX10) (N := 8) hx hb hts hi8 tyX10 tyX10_ok nmX10 hown hK hP hD hS 0 rfl rfl 7 (by decide) hw2 (fun _ h9 => h9) rfl (by decide +kernel) rfl rfl (Nat.le_of_ble_eq_true rfl) dX10_understandText_7 (fun H locs hP hD hS => ?_)
  have hP : va_P D vwCl (kReader G q0 v_2) H := by rw [ev_2]; exact hP
  have hD : va_D A (kReader G q0 v_2) := by rw [ev_2]; exact hD
  refine lv_iconst (v := 0) hx hb dX10_understandText_10 (by decide) ?_
  refine lv_istore_n (lv' := [(1, .int 0), (0, .ref (q0 0))]) hx hb dX10_understandText_11 rfl hl (by decide) rfl (fun ls hl => ?_)
  have exL_11 : ∀ (y_17 : Int32) (z_18 : SV) (H : Heap) (locs : List Loc) (ls : Array Slot), lv_has ls 2 [(1, .int y_17), (0, .ref (q0 0))] → va_P D vwCl (kReader G q0 z_18) H → va_D A (kReader G q0 z_18) → va_S A s.heap H locs → f_X10_understandText_K12 y_17 z_18 = some (r, v0') → W p l e rm_X10_understandText s m args below meth c H locs 0 0 Q0 (F0 m 68 ls []) := by
    intro y_17 z_18 H locs ls hl hP hD hS hf
    unfold f_X10_understandText_K12 at hf
    refine lv_iconst (v := 0) hx hb dX10_understandText_68 (by decide) ?_
    obtain ⟨rfl, rfl⟩ := re2 hf
    exact hE (.inl rfl) hP hD hS dX10_understandText_69
  have loL_11 : ∀ (n : Nat) (x_9 : Int32) (u_10 : SV) (H : Heap) (locs : List Loc) (ls : Array Slot), lv_has ls 2 [(1, .int x_9), (0, .ref (q0 0))] → va_P D vwCl (kReader G q0 u_10) H → va_D A (kReader G q0 u_10) → va_S A s.heap H locs → lz2 (f_X10_understandText_B12) n x_9 u_10 = some (r, v0') → W p l e rm_X10_understandText s m args below meth c H locs 0 0 Q0 (F0 m 12 ls []) := by
    intro n
    induction n with
    | zero => intro x_9 u_10 H locs ls hl hP hD hS hf; cases hf
    | succ n ihL_11 =>
      intro x_9 u_10 H locs ls hl hP hD hS hf
      replace hf := lz2_s hf
      unfold f_X10_understandText_B12 at hf
      refine lv_iload_n hx hb dX10_understandText_12 rfl (lv_at hl 0 rfl) ?_
      refine lv_bipush (v := 20) hx hb dX10_understandText_13 (by decide +kernel) ?_
      refine lv_icmp_ge (tgt := 68) hx hb dX10_understandText_15 (by decide) (fun cc => ?_) (fun cc => ?_)
      · replace hf := ifT cc hf
        exact exL_11 x_9 u_10 _ _ _ (lv_sub hl [0, 1] rfl) hP hD hS hf
      · replace hf := ifF cc hf
        refine lv_aload_n hx hb dX10_understandText_18 rfl (lv_at hl 1 rfl) ?_
        refine lv_iload_n hx hb dX10_understandText_19 rfl (lv_at hl 0 rfl) ?_
        obtain ⟨r_12, w_13, hc, hf⟩ := bd2_of hf
        refine k_V (As := [.int x_9]) (rest := []) (ws1 := (kReader G q0 w_13)) ⟨hx, hb, hml, hown, hts⟩ (c_X10_readCommand l D G X q0 x_9 u_10 _ _ hc  _) (cwV 1 hts gX10_understandText_X10_readCommand rfl rfl rfl (by decide +kernel) ⟨Nat.le_of_ble_eq_true rfl, Nat.le_of_ble_eq_true rfl⟩) hl.1 (Nat.le_of_ble_eq_true rfl) dX10_understandText_20 ⟨Nat.le_of_ble_eq_true rfl, Nat.le_of_ble_eq_true rfl⟩ rfl (kY_bl X) (kY_pass hJ hS (va_free (wc := (kReader G q0 u_10)) hD hS hA [0, 1, 2, 3, 4, 5] rfl)) hN hK hP hD hS hA 0 8 rfl rfl rfl [0, 1, 2, 3, 4, 5] [] [0, 1, 2, 3, 4, 5] [0, 1, 2, 3] rfl rfl rfl ⟨by decide, by decide, by decide, by decide⟩ rfl (fun H locs hP hD hS => ?_)
        refine lv_if_ne (tgt := 28) hx hb dX10_understandText_23 (by decide) (fun cc => ?_) (fun cc => ?_)
        · replace hf := ifF cc hf
          refine lv_aload_n hx hb dX10_understandText_28 rfl (lv_at hl 1 rfl) ?_
          refine lv_dup hx hb dX10_understandText_29 rfl ?_
          refine va_get (D := D) (ci := 8) (v := .int (w_13.1 2)) (C := RX10) (T := TX10) (N := 8) hx hb hts hi8 hown hK hP 0 rfl rfl 7 (by decide) hw2 (fun _ h9 => h9) rfl dX10_understandText_30 ?_
          refine lv_iconst (v := 1) hx hb dX10_understandText_33 (by decide) ?_
          refine lv_iadd hx hb dX10_understandText_34 ?_
          obtain ⟨v_14, ev_14, hf⟩ := nm_of hf
          refine va_put (D := D) (ci := 8) (v := .int ((w_13.1 2) + 1)) (ty := .int) (C := RX10) (T := TX10) (N := 8) hx hb hts hi8 tyX10 tyX10_ok nmX10 hown hK hP hD hS 0 rfl rfl 7 (by decide) hw2 (fun _ h9 => h9) rfl (by decide +kernel) rfl rfl (Nat.le_of_ble_eq_true rfl) dX10_understandText_35 (fun H locs hP hD hS => ?_)
          have hP : va_P D vwCl (kReader G q0 v_14) H := by rw [ev_14]; exact hP
          have hD : va_D A (kReader G q0 v_14) := by rw [ev_14]; exact hD
          refine lv_aload_n hx hb dX10_understandText_38 rfl (lv_at hl 1 rfl) ?_
          refine va_get (D := D) (ci := 8) (v := .int (v_14.1 1)) (C := RX10) (T := TX10) (N := 8) hx hb hts hi8 hown hK hP 0 rfl rfl 2 (by decide) hw1 (fun _ h9 => h9) rfl dX10_understandText_39 ?_
          refine lv_aload_n hx hb dX10_understandText_42 rfl (lv_at hl 1 rfl) ?_
          refine va_get (D := D) (ci := 8) (v := .int (v_14.1 0)) (C := RX10) (T := TX10) (N := 8) hx hb hts hi8 hown hK hP 0 rfl rfl 1 (by decide) hw3 (fun _ h9 => h9) rfl dX10_understandText_43 ?_
          refine lv_icmp_ne (tgt := 51) hx hb dX10_understandText_46 (by decide) (fun cc => ?_) (fun cc => ?_)
          · replace hf := ifF cc hf
            refine lv_aload_n hx hb dX10_understandText_51 rfl (lv_at hl 1 rfl) ?_
            refine lv_bipush (v := 59) hx hb dX10_understandText_52 (by decide +kernel) ?_
            obtain ⟨r_15, w_16, hc, hf⟩ := bd2_of hf
            refine k_V (As := [.int 59]) (rest := []) (ws1 := (kReader G q0 w_16)) ⟨hx, hb, hml, hown, hts⟩ (c_X10_passOver l D G q0 59 v_14 _ _ hc  _) (cwV 1 hts gX10_understandText_X10_passOver rfl rfl rfl (by decide +kernel) ⟨Nat.le_of_ble_eq_true rfl, Nat.le_of_ble_eq_true rfl⟩) hl.1 (Nat.le_of_ble_eq_true rfl) dX10_understandText_54 ⟨Nat.le_of_ble_eq_true rfl, Nat.le_of_ble_eq_true rfl⟩ rfl kT_bl (fun _ _ _ => trivial) hN hK hP hD hS hA 0 8 rfl rfl rfl [0, 1, 2, 3, 4, 5] [] [0, 1, 2, 3, 4, 5] [0, 1, 2, 3] rfl rfl rfl ⟨by decide, by decide, by decide, by decide⟩ rfl (fun H locs hP hD hS => ?_)
            refine lv_if_ne (tgt := 62) hx hb dX10_understandText_57 (by decide) (fun cc => ?_) (fun cc => ?_)
            · replace hf := ifF cc hf
              refine lv_iinc (v := (x_9 + 1)) (lv' := [(1, .int (x_9 + 1)), (0, .ref (q0 0))]) hx hb dX10_understandText_62 hl (k := 0) rfl rfl (by decide) rfl (fun ls hl => ?_)
              refine lv_goto (tgt := 12) hx hb dX10_understandText_65 (by decide) ?_
              exact ihL_11 (x_9 + 1) w_16 _ _ _ (lv_sub hl [0, 1] rfl) hP hD hS hf
            · replace hf := ifT cc hf
              refine lv_iconst (v := 0) hx hb dX10_understandText_60 (by decide) ?_
              obtain ⟨rfl, rfl⟩ := re2 hf
              exact hE (.inl rfl) hP hD hS dX10_understandText_61
          · replace hf := ifT cc hf
            refine lv_iconst (v := 1) hx hb dX10_understandText_49 (by decide) ?_
            obtain ⟨rfl, rfl⟩ := re2 hf
            exact hE (.inr rfl) hP hD hS dX10_understandText_50
        · replace hf := ifT cc hf
          refine lv_iconst (v := 0) hx hb dX10_understandText_26 (by decide) ?_
          obtain ⟨rfl, rfl⟩ := re2 hf
          exact hE (.inl rfl) hP hD hS dX10_understandText_27
  exact loL_11 FU 0 v_2 _ _ _ hl hP hD hS hf
