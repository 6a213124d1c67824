/-! Walks, laid by wip/whole/gen.py: for each method f_ (what it does to its world) and c_ (its contract). -/
def f_X13_append (a1 : Int32) (v0 : SV) : Option (Int32 × SV) :=
  bd1 (f_X13_in a1 32 126) fun r_1 =>
  if r_1 = 0 then
    some ((-2), v0)
  else
    if (v0.1 10) = 60 then
      some ((-2), v0)
    else
      ckI (v0.1 10) 60 <|
      nm (pA v0 8 (v0.1 10) a1) fun v_2 =>
      nm (pF v_2 10 ((v_2.1 10) + 1)) fun v_3 =>
      some ((v_3.1 10), v_3)
abbrev rm_X13_append : Room := { frames := 1, cells := 0, slots := 0, locals := 22 }
set_option maxHeartbeats 4000000 in
set_option maxRecDepth 100000 in
theorem c_X13_append (l : Launch) (D : va_G) (G : Nat → ClassId) (q0 : Nat → Nat) (a1 : Int32) (v0 : SV) (r : Int32) (v0' : SV) (hf : f_X13_append a1 v0 = some (r, v0')) (sz : Nat) : mC l yX13_append wsX13_append rm_X13_append D (tyG G) kT [.ref (q0 0), .int a1] (kModel G q0 v0) (kModel G q0 v0') sz (some (.int r)) 0 0 := by
  refine mC_ofI (cc := cX13_append) (maxL := 2) (ret := (some .int)) (by decide) rfl rfl (Nat.le_of_ble_eq_true rfl) ?_
  intro p e s m args below meth c Q0 hx hb hml hts hown hN hK A hD hA hE hP hS hJ ls hl
  have hl : lv_has ls 2 [(0, .ref (q0 0)), (1, .int a1)] := hl
  unfold f_X13_append at hf
  have hi11 : ∀ w ∈ u_ws RX13 TX13 27, w ∈ wsX13_append := by decide +kernel
  have hw1 := hts (.fieldLink RX13 75 "BalconyCensusModel" "fed" "I") (by decide +kernel)
  have hw2 := hts (.fieldLink RX13 66 "BalconyCensusModel" "input" "[I") (by decide +kernel)
  refine lv_iload_n hx hb dX13_append_0 rfl (lv_at hl 1 rfl) ?_
  refine lv_bipush (v := 32) hx hb dX13_append_1 (by decide +kernel) ?_
  refine lv_bipush (v := 126) hx hb dX13_append_3 (by decide +kernel) ?_
  obtain ⟨r_1, hc, hf⟩ := bd1_of hf
  refine k_S (As := [.int a1, .int 32, .int 126]) (rest := []) (ws1 := (kModel G q0 v0)) ⟨hx, hb, hml, hown, hts⟩ (c_X13_in l D G  a1 32 126  _ hc  _) (va_cwS 3 hts gX13_append_X13_in rfl rfl rfl (by decide +kernel) ⟨Nat.le_of_ble_eq_true rfl, Nat.le_of_ble_eq_true rfl⟩) hl.1 (Nat.le_of_ble_eq_true rfl) dX13_append_5 ⟨Nat.le_of_ble_eq_true rfl, Nat.le_of_ble_eq_true rfl⟩ rfl kT_bl (fun _ _ _ => trivial) hN hK hP hD hS hA [] [0, 1, 2, 3, 4, 5, 6, 7, 8, 9, 10, 11] [0, 1, 2, 3, 4, 5, 6, 7, 8, 9, 10, 11] [0, 1, 2, 3] rfl rfl rfl ⟨by decide, by decide, by decide, by decide⟩ rfl (fun H locs hP hD hS => ?_)
  refine lv_if_eq (tgt := 20) hx hb dX13_append_8 (by decide) (fun cc => ?_) (fun cc => ?_)
  · replace hf := ifT cc hf
    refine lv_bipush (v := (-2)) hx hb dX13_append_20 (by decide +kernel) ?_
    obtain ⟨rfl, rfl⟩ := re2 hf
    exact hE hP hD hS dX13_append_22
  · replace hf := ifF cc hf
    refine lv_aload_n hx hb dX13_append_11 rfl (lv_at hl 0 rfl) ?_
    refine va_get (D := D) (ci := 11) (v := .int (v0.1 10)) (C := RX13) (T := TX13) (N := 27) hx hb hts hi11 hown hK hP 0 rfl rfl 21 (by decide) hw1 (fun _ h9 => h9) rfl dX13_append_12 ?_
    refine lv_bipush (v := 60) hx hb dX13_append_15 (by decide +kernel) ?_
    refine lv_icmp_ne (tgt := 23) hx hb dX13_append_17 (by decide) (fun cc => ?_) (fun cc => ?_)
    · replace hf := ifF cc hf
      refine lv_aload_n hx hb dX13_append_23 rfl (lv_at hl 0 rfl) ?_
      refine va_get (D := D) (ci := 11) (v := .ref (q0 9)) (C := RX13) (T := TX13) (N := 27) hx hb hts hi11 hown hK hP 0 rfl rfl 18 (by decide) hw2 (fun _ h9 => h9) rfl dX13_append_24 ?_
      refine lv_aload_n hx hb dX13_append_27 rfl (lv_at hl 0 rfl) ?_
      refine va_get (D := D) (ci := 11) (v := .int (v0.1 10)) (C := RX13) (T := TX13) (N := 27) hx hb hts hi11 hown hK hP 0 rfl rfl 21 (by decide) hw1 (fun _ h9 => h9) rfl dX13_append_28 ?_
      refine lv_iload_n hx hb dX13_append_31 rfl (lv_at hl 1 rfl) ?_
      obtain ⟨hin, hf⟩ := ckI_of hf
      obtain ⟨v_2, ev_2, hf⟩ := nm_of hf
      refine va_iast (D := D) hx hb hK hP hD hS 9 0 rfl rfl hin dX13_append_32 (fun H locs hP hD hS => ?_)
      have hP : va_P D vwCl (kModel G q0 v_2) H := by rw [ev_2]; exact hP
      have hD : va_D A (kModel G q0 v_2) := by rw [ev_2]; exact hD
      refine lv_aload_n hx hb dX13_append_33 rfl (lv_at hl 0 rfl) ?_
      refine lv_dup hx hb dX13_append_34 rfl ?_
      refine va_get (D := D) (ci := 11) (v := .int (v_2.1 10)) (C := RX13) (T := TX13) (N := 27) hx hb hts hi11 hown hK hP 0 rfl rfl 21 (by decide) hw1 (fun _ h9 => h9) rfl dX13_append_35 ?_
      refine lv_iconst (v := 1) hx hb dX13_append_38 (by decide) ?_
      refine lv_iadd hx hb dX13_append_39 ?_
      obtain ⟨v_3, ev_3, hf⟩ := nm_of hf
      refine va_put (D := D) (ci := 11) (v := .int ((v_2.1 10) + 1)) (ty := .int) (C := RX13) (T := TX13) (N := 27) hx hb hts hi11 tyX13 tyX13_ok nmX13 hown hK hP hD hS 0 rfl rfl 21 (by decide) hw1 (fun _ h9 => h9) rfl (by decide +kernel) rfl rfl (Nat.le_of_ble_eq_true rfl) dX13_append_40 (fun H locs hP hD hS => ?_)
      have hP : va_P D vwCl (kModel G q0 v_3) H := by rw [ev_3]; exact hP
      have hD : va_D A (kModel G q0 v_3) := by rw [ev_3]; exact hD
      refine lv_aload_n hx hb dX13_append_43 rfl (lv_at hl 0 rfl) ?_
      refine va_get (D := D) (ci := 11) (v := .int (v_3.1 10)) (C := RX13) (T := TX13) (N := 27) hx hb hts hi11 hown hK hP 0 rfl rfl 21 (by decide) hw1 (fun _ h9 => h9) rfl dX13_append_44 ?_
      obtain ⟨rfl, rfl⟩ := re2 hf
      exact hE hP hD hS dX13_append_47
    · replace hf := ifT cc hf
      refine lv_bipush (v := (-2)) hx hb dX13_append_20 (by decide +kernel) ?_
      obtain ⟨rfl, rfl⟩ := re2 hf
      exact hE hP hD hS dX13_append_22
def f_X13_mark (v0 : SV) : Option Int32 :=
  if (v0.1 14) = 0 then
    if (v0.1 11) ≤ (v0.1 12) then
      some (-1)
    else
      ckI (v0.1 12) 60 <|
      some (v0.2 8 (v0.1 12).toNatClampNeg)
  else
    some (-1)
abbrev rm_X13_mark : Room := { frames := 0, cells := 0, slots := 0, locals := 0 }
set_option maxHeartbeats 4000000 in
set_option maxRecDepth 100000 in
theorem c_X13_mark (l : Launch) (D : va_G) (G : Nat → ClassId) (q0 : Nat → Nat) (v0 : SV) (r : Int32) (hf : f_X13_mark v0 = some r) (sz : Nat) : mC l yX13_mark wsX13_mark rm_X13_mark D (tyG G) kT [.ref (q0 0)] (kModel G q0 v0) (kModel G q0 v0) sz (some (.int r)) 0 0 := by
  refine mC_ofI (cc := cX13_mark) (maxL := 1) (ret := (some .int)) (by decide) rfl rfl (Nat.le_of_ble_eq_true rfl) ?_
  intro p e s m args below meth c Q0 hx hb hml hts hown hN hK A hD hA hE hP hS hJ ls hl
  have hl : lv_has ls 1 [(0, .ref (q0 0))] := hl
  unfold f_X13_mark at hf
  have hi11 : ∀ w ∈ u_ws RX13 TX13 27, w ∈ wsX13_mark := by decide +kernel
  have hw1 := hts (.fieldLink RX13 87 "BalconyCensusModel" "isWrong" "Z") (by decide +kernel)
  have hw2 := hts (.fieldLink RX13 81 "BalconyCensusModel" "spot" "I") (by decide +kernel)
  have hw3 := hts (.fieldLink RX13 78 "BalconyCensusModel" "inputLong" "I") (by decide +kernel)
  have hw4 := hts (.fieldLink RX13 66 "BalconyCensusModel" "input" "[I") (by decide +kernel)
  refine lv_aload_n hx hb dX13_mark_0 rfl (lv_at hl 0 rfl) ?_
  refine va_get (D := D) (ci := 11) (v := .int (v0.1 14)) (C := RX13) (T := TX13) (N := 27) hx hb hts hi11 hown hK hP 0 rfl rfl 25 (by decide) hw1 (fun _ h9 => h9) rfl dX13_mark_1 ?_
  refine lv_if_ne (tgt := 30) hx hb dX13_mark_4 (by decide) (fun cc => ?_) (fun cc => ?_)
  · replace hf := ifF cc hf
    refine lv_iconst (v := (-1)) hx hb dX13_mark_30 (by decide) ?_
    obtain rfl := re1 hf
    exact hE hP hD hS dX13_mark_31
  · replace hf := ifT cc hf
    refine lv_aload_n hx hb dX13_mark_7 rfl (lv_at hl 0 rfl) ?_
    refine va_get (D := D) (ci := 11) (v := .int (v0.1 12)) (C := RX13) (T := TX13) (N := 27) hx hb hts hi11 hown hK hP 0 rfl rfl 23 (by decide) hw2 (fun _ h9 => h9) rfl dX13_mark_8 ?_
    refine lv_aload_n hx hb dX13_mark_11 rfl (lv_at hl 0 rfl) ?_
    refine va_get (D := D) (ci := 11) (v := .int (v0.1 11)) (C := RX13) (T := TX13) (N := 27) hx hb hts hi11 hown hK hP 0 rfl rfl 22 (by decide) hw3 (fun _ h9 => h9) rfl dX13_mark_12 ?_
    refine lv_icmp_ge (tgt := 30) hx hb dX13_mark_15 (by decide) (fun cc => ?_) (fun cc => ?_)
    · replace hf := ifT cc hf
      refine lv_iconst (v := (-1)) hx hb dX13_mark_30 (by decide) ?_
      obtain rfl := re1 hf
      exact hE hP hD hS dX13_mark_31
    · replace hf := ifF cc hf
      refine lv_aload_n hx hb dX13_mark_18 rfl (lv_at hl 0 rfl) ?_
      refine va_get (D := D) (ci := 11) (v := .ref (q0 9)) (C := RX13) (T := TX13) (N := 27) hx hb hts hi11 hown hK hP 0 rfl rfl 18 (by decide) hw4 (fun _ h9 => h9) rfl dX13_mark_19 ?_
      refine lv_aload_n hx hb dX13_mark_22 rfl (lv_at hl 0 rfl) ?_
      refine va_get (D := D) (ci := 11) (v := .int (v0.1 12)) (C := RX13) (T := TX13) (N := 27) hx hb hts hi11 hown hK hP 0 rfl rfl 23 (by decide) hw2 (fun _ h9 => h9) rfl dX13_mark_23 ?_
      obtain ⟨hin, hf⟩ := ckI_of hf
      refine va_iald (D := D) hx hb hK hP 9 0 rfl rfl hin dX13_mark_26 ?_
      refine lv_goto (tgt := 31) hx hb dX13_mark_27 (by decide) ?_
      obtain rfl := re1 hf
      exact hE hP hD hS dX13_mark_31
def f_X13_isDigit (v0 : SV) : Option Int32 :=
  bd1 (f_X13_mark v0) fun r_1 =>
  bd1 (f_X13_in r_1 48 57) fun r_2 =>
  ckB r_2 <|
  some r_2
abbrev rm_X13_isDigit : Room := { frames := 1, cells := 0, slots := 0, locals := 22 }
set_option maxHeartbeats 4000000 in
set_option maxRecDepth 100000 in
theorem c_X13_isDigit (l : Launch) (D : va_G) (G : Nat → ClassId) (q0 : Nat → Nat) (v0 : SV) (r : Int32) (hf : f_X13_isDigit v0 = some r) (sz : Nat) : mC l yX13_isDigit wsX13_isDigit rm_X13_isDigit D (tyG G) kT [.ref (q0 0)] (kModel G q0 v0) (kModel G q0 v0) sz (some (.int r)) 0 0 := by
  refine mC_ofZ (cc := cX13_isDigit) (maxL := 1) (ret := (some .boolean)) (by decide) rfl rfl (Nat.le_of_ble_eq_true rfl) ?_
  intro p e s m args below meth c Q0 hx hb hml hts hown hN hK A hD hA hE hP hS hJ ls hl
  have hl : lv_has ls 1 [(0, .ref (q0 0))] := hl
  unfold f_X13_isDigit at hf
  refine lv_aload_n hx hb dX13_isDigit_0 rfl (lv_at hl 0 rfl) ?_
  obtain ⟨r_1, hc, hf⟩ := bd1_of hf
  refine k_V (As := []) (rest := []) (ws1 := (kModel G q0 v0)) ⟨hx, hb, hml, hown, hts⟩ (c_X13_mark l D G q0  v0 _ hc  _) (cwV 0 hts gX13_isDigit_X13_mark rfl rfl rfl (by decide +kernel) ⟨Nat.le_of_ble_eq_true rfl, Nat.le_of_ble_eq_true rfl⟩) hl.1 (Nat.le_of_ble_eq_true rfl) dX13_isDigit_1 ⟨Nat.le_of_ble_eq_true rfl, Nat.le_of_ble_eq_true rfl⟩ rfl kT_bl (fun _ _ _ => trivial) hN hK hP hD hS hA 0 11 rfl rfl rfl [0, 1, 2, 3, 4, 5, 6, 7, 8, 9, 10, 11] [] [0, 1, 2, 3, 4, 5, 6, 7, 8, 9, 10, 11] [0, 1, 2, 3] rfl rfl rfl ⟨by decide, by decide, by decide, by decide⟩ rfl (fun H locs hP hD hS => ?_)
  refine lv_bipush (v := 48) hx hb dX13_isDigit_4 (by decide +kernel) ?_
  refine lv_bipush (v := 57) hx hb dX13_isDigit_6 (by decide +kernel) ?_
  obtain ⟨r_2, hc, hf⟩ := bd1_of hf
  refine k_S (As := [.int r_1, .int 48, .int 57]) (rest := []) (ws1 := (kModel G q0 v0)) ⟨hx, hb, hml, hown, hts⟩ (c_X13_in l D G  r_1 48 57  _ hc  _) (va_cwS 3 hts gX13_isDigit_X13_in rfl rfl rfl (by decide +kernel) ⟨Nat.le_of_ble_eq_true rfl, Nat.le_of_ble_eq_true rfl⟩) hl.1 (Nat.le_of_ble_eq_true rfl) dX13_isDigit_8 ⟨Nat.le_of_ble_eq_true rfl, Nat.le_of_ble_eq_true rfl⟩ rfl kT_bl (fun _ _ _ => trivial) hN hK hP hD hS hA [] [0, 1, 2, 3, 4, 5, 6, 7, 8, 9, 10, 11] [0, 1, 2, 3, 4, 5, 6, 7, 8, 9, 10, 11] [0, 1, 2, 3] rfl rfl rfl ⟨by decide, by decide, by decide, by decide⟩ rfl (fun H locs hP hD hS => ?_)
  obtain ⟨h01, hf⟩ := ckB_of hf
  obtain rfl := re1 hf
  exact hE h01 hP hD hS dX13_isDigit_11
def f_X13_behindBlank_K69 (y_23 : Int32) (y_24 : Int32) (z_25 : SV) : Option (Int32 × SV) :=
  some (y_24, z_25)
def f_X13_behindBlank_B69 (a1 : Int32) (selfL_19 : (Int32 → Int32 → SV → Option (Int32 × SV))) (x_16 : Int32) (x_17 : Int32) (u_18 : SV) : Option (Int32 × SV) :=
  if a1 ≤ x_16 then
    f_X13_behindBlank_K69 x_16 x_17 u_18
  else
    bd1 (f_X13_isDigit u_18) fun r_20 =>
    if r_20 = 0 then
      f_X13_behindBlank_K69 x_16 x_17 u_18
    else
      ckI (u_18.1 12) 60 <|
      nm (((10 * x_17) + (u_18.2 8 (u_18.1 12).toNatClampNeg)) - 48) fun t_21 =>
      nm (pF u_18 12 ((u_18.1 12) + 1)) fun v_22 =>
      selfL_19 (x_16 + 1) t_21 v_22
def f_X13_behindBlank_J61 (v_7 : SV) (a1 : Int32) (j_10 : Int32) : Option (Int32 × SV) :=
  ckB ((v_7.1 14) ||| j_10) <|
  nm (pF v_7 14 ((v_7.1 14) ||| j_10)) fun v_11 =>
  lz3 (f_X13_behindBlank_B69 a1) FU 0 0 v_11
def f_X13_behindBlank_J40 (v_4 : SV) (a1 : Int32) (j_6 : Int32) : Option (Int32 × SV) :=
  nm (pF v_4 12 ((v_4.1 12) + j_6)) fun v_7 =>
  bd1 (f_X13_isDigit v_7) fun r_8 =>
  if r_8 = 0 then
    f_X13_behindBlank_J61 v_7 a1 1
  else
    f_X13_behindBlank_J61 v_7 a1 0
def f_X13_behindBlank_J19 (v0 : SV) (a1 : Int32) (j_3 : Int32) : Option (Int32 × SV) :=
  ckB ((v0.1 14) ||| j_3) <|
  nm (pF v0 14 ((v0.1 14) ||| j_3)) fun v_4 =>
  if (v_4.1 14) = 0 then
    f_X13_behindBlank_J40 v_4 a1 1
  else
    f_X13_behindBlank_J40 v_4 a1 0
def f_X13_behindBlank (a1 : Int32) (v0 : SV) : Option (Int32 × SV) :=
  bd1 (f_X13_mark v0) fun r_1 =>
  if r_1 = 32 then
    f_X13_behindBlank_J19 v0 a1 0
  else
    f_X13_behindBlank_J19 v0 a1 1
abbrev rm_X13_behindBlank : Room := { frames := 2, cells := 0, slots := 0, locals := 42 }
set_option maxHeartbeats 4000000 in
set_option maxRecDepth 100000 in
theorem c_X13_behindBlank (l : Launch) (D : va_G) (G : Nat → ClassId) (q0 : Nat → Nat) (a1 : Int32) (v0 : SV) (r : Int32) (v0' : SV) (hf : f_X13_behindBlank a1 v0 = some (r, v0')) (sz : Nat) : mC l yX13_behindBlank wsX13_behindBlank rm_X13_behindBlank D (tyG G) kT [.ref (q0 0), .int a1] (kModel G q0 v0) (kModel G q0 v0') sz (some (.int r)) 0 0 := by
  refine mC_ofI (cc := cX13_behindBlank) (maxL := 4) (ret := (some .int)) (by decide) rfl rfl (Nat.le_of_ble_eq_true rfl) ?_
  intro p e s m args below meth c Q0 hx hb hml hts hown hN hK A hD hA hE hP hS hJ ls hl
  have hl : lv_has ls 4 [(0, .ref (q0 0)), (1, .int a1)] := hl
  unfold f_X13_behindBlank at hf
  have hi11 : ∀ w ∈ u_ws RX13 TX13 27, w ∈ wsX13_behindBlank := by decide +kernel
  have hw1 := hts (.fieldLink RX13 87 "BalconyCensusModel" "isWrong" "Z") (by decide +kernel)
  have hw2 := hts (.fieldLink RX13 81 "BalconyCensusModel" "spot" "I") (by decide +kernel)
  have hw3 := hts (.fieldLink RX13 66 "BalconyCensusModel" "input" "[I") (by decide +kernel)
  refine lv_aload_n hx hb dX13_behindBlank_0 rfl (lv_at hl 0 rfl) ?_
  refine lv_dup hx hb dX13_behindBlank_1 rfl ?_
  refine va_get (D := D) (ci := 11) (v := .int (v0.1 14)) (C := RX13) (T := TX13) (N := 27) hx hb hts hi11 hown hK hP 0 rfl rfl 25 (by decide) hw1 (fun _ h9 => h9) rfl dX13_behindBlank_2 ?_
  refine lv_aload_n hx hb dX13_behindBlank_5 rfl (lv_at hl 0 rfl) ?_
  obtain ⟨r_1, hc, hf⟩ := bd1_of hf
  refine k_V (As := []) (rest := [.int (v0.1 14), .ref (q0 0)]) (ws1 := (kModel G q0 v0)) ⟨hx, hb, hml, hown, hts⟩ (c_X13_mark l D G q0  v0 _ hc  _) (cwV 0 hts gX13_behindBlank_X13_mark rfl rfl rfl (by decide +kernel) ⟨Nat.le_of_ble_eq_true rfl, Nat.le_of_ble_eq_true rfl⟩) hl.1 (Nat.le_of_ble_eq_true rfl) dX13_behindBlank_6 ⟨Nat.le_of_ble_eq_true rfl, Nat.le_of_ble_eq_true rfl⟩ rfl kT_bl (fun _ _ _ => trivial) hN hK hP hD hS hA 0 11 rfl rfl rfl [0, 1, 2, 3, 4, 5, 6, 7, 8, 9, 10, 11] [] [0, 1, 2, 3, 4, 5, 6, 7, 8, 9, 10, 11] [0, 1, 2, 3] rfl rfl rfl ⟨by decide, by decide, by decide, by decide⟩ rfl (fun H locs hP hD hS => ?_)
  refine lv_bipush (v := 32) hx hb dX13_behindBlank_9 (by decide +kernel) ?_
  have jnJ_2 : ∀ (j_3 : Int32) (H : Heap) (locs : List Loc) (ls : Array Slot), lv_has ls 4 [(0, .ref (q0 0)), (1, .int a1)] → va_P D vwCl (kModel G q0 v0) H → va_D A (kModel G q0 v0) → va_S A s.heap H locs → f_X13_behindBlank_J19 v0 a1 j_3 = some (r, v0') → W p l e rm_X13_behindBlank s m args below meth c H locs 0 0 Q0 (F0 m 19 ls [.int j_3, .int (v0.1 14), .ref (q0 0)]) := by
    intro j_3 H locs ls hl hP hD hS hf
    unfold f_X13_behindBlank_J19 at hf
    refine lv_ior hx hb dX13_behindBlank_19 ?_
    obtain ⟨h01, hf⟩ := ckB_of hf
    obtain ⟨v_4, ev_4, hf⟩ := nm_of hf
    refine va_put (D := D) (ci := 11) (v := .int ((v0.1 14) ||| j_3)) (ty := .boolean) (C := RX13) (T := TX13) (N := 27) hx hb hts hi11 tyX13 tyX13_ok nmX13 hown hK hP hD hS 0 rfl rfl 25 (by decide) hw1 (fun _ h9 => h9) rfl (by decide +kernel) (narB h01) (fitB h01) (Nat.le_of_ble_eq_true rfl) dX13_behindBlank_20 (fun H locs hP hD hS => ?_)
    have hP : va_P D vwCl (kModel G q0 v_4) H := by rw [ev_4]; exact hP
    have hD : va_D A (kModel G q0 v_4) := by rw [ev_4]; exact hD
    refine lv_aload_n hx hb dX13_behindBlank_23 rfl (lv_at hl 0 rfl) ?_
    refine lv_dup hx hb dX13_behindBlank_24 rfl ?_
    refine va_get (D := D) (ci := 11) (v := .int (v_4.1 12)) (C := RX13) (T := TX13) (N := 27) hx hb hts hi11 hown hK hP 0 rfl rfl 23 (by decide) hw2 (fun _ h9 => h9) rfl dX13_behindBlank_25 ?_
    refine lv_aload_n hx hb dX13_behindBlank_28 rfl (lv_at hl 0 rfl) ?_
    refine va_get (D := D) (ci := 11) (v := .int (v_4.1 14)) (C := RX13) (T := TX13) (N := 27) hx hb hts hi11 hown hK hP 0 rfl rfl 25 (by decide) hw1 (fun _ h9 => h9) rfl dX13_behindBlank_29 ?_
    have jnJ_5 : ∀ (j_6 : Int32) (H : Heap) (locs : List Loc) (ls : Array Slot), lv_has ls 4 [(0, .ref (q0 0)), (1, .int a1)] → va_P D vwCl (kModel G q0 v_4) H → va_D A (kModel G q0 v_4) → va_S A s.heap H locs → f_X13_behindBlank_J40 v_4 a1 j_6 = some (r, v0') → W p l e rm_X13_behindBlank s m args below meth c H locs 0 0 Q0 (F0 m 40 ls [.int j_6, .int (v_4.1 12), .ref (q0 0)]) := by
      intro j_6 H locs ls hl hP hD hS hf
      unfold f_X13_behindBlank_J40 at hf
      refine lv_iadd hx hb dX13_behindBlank_40 ?_
      obtain ⟨v_7, ev_7, hf⟩ := nm_of hf
      refine va_put (D := D) (ci := 11) (v := .int ((v_4.1 12) + j_6)) (ty := .int) (C := RX13) (T := TX13) (N := 27) hx hb hts hi11 tyX13 tyX13_ok nmX13 hown hK hP hD hS 0 rfl rfl 23 (by decide) hw2 (fun _ h9 => h9) rfl (by decide +kernel) rfl rfl (Nat.le_of_ble_eq_true rfl) dX13_behindBlank_41 (fun H locs hP hD hS => ?_)
      have hP : va_P D vwCl (kModel G q0 v_7) H := by rw [ev_7]; exact hP
      have hD : va_D A (kModel G q0 v_7) := by rw [ev_7]; exact hD
      refine lv_aload_n hx hb dX13_behindBlank_44 rfl (lv_at hl 0 rfl) ?_
      refine lv_dup hx hb dX13_behindBlank_45 rfl ?_
      refine va_get (D := D) (ci := 11) (v := .int (v_7.1 14)) (C := RX13) (T := TX13) (N := 27) hx hb hts hi11 hown hK hP 0 rfl rfl 25 (by decide) hw1 (fun _ h9 => h9) rfl dX13_behindBlank_46 ?_
      refine lv_aload_n hx hb dX13_behindBlank_49 rfl (lv_at hl 0 rfl) ?_
      obtain ⟨r_8, hc, hf⟩ := bd1_of hf
      refine k_V (As := []) (rest := [.int (v_7.1 14), .ref (q0 0)]) (ws1 := (kModel G q0 v_7)) ⟨hx, hb, hml, hown, hts⟩ (c_X13_isDigit l D G q0  v_7 _ hc  _) (cwV 0 hts gX13_behindBlank_X13_isDigit rfl rfl rfl (by decide +kernel) ⟨Nat.le_of_ble_eq_true rfl, Nat.le_of_ble_eq_true rfl⟩) hl.1 (Nat.le_of_ble_eq_true rfl) dX13_behindBlank_50 ⟨Nat.le_of_ble_eq_true rfl, Nat.le_of_ble_eq_true rfl⟩ rfl kT_bl (fun _ _ _ => trivial) hN hK hP hD hS hA 0 11 rfl rfl rfl [0, 1, 2, 3, 4, 5, 6, 7, 8, 9, 10, 11] [] [0, 1, 2, 3, 4, 5, 6, 7, 8, 9, 10, 11] [0, 1, 2, 3] rfl rfl rfl ⟨by decide, by decide, by decide, by decide⟩ rfl (fun H locs hP hD hS => ?_)
      have jnJ_9 : ∀ (j_10 : Int32) (H : Heap) (locs : List Loc) (ls : Array Slot), lv_has ls 4 [(0, .ref (q0 0)), (1, .int a1)] → va_P D vwCl (kModel G q0 v_7) H → va_D A (kModel G q0 v_7) → va_S A s.heap H locs → f_X13_behindBlank_J61 v_7 a1 j_10 = some (r, v0') → W p l e rm_X13_behindBlank s m args below meth c H locs 0 0 Q0 (F0 m 61 ls [.int j_10, .int (v_7.1 14), .ref (q0 0)]) := by
        intro j_10 H locs ls hl hP hD hS hf
        unfold f_X13_behindBlank_J61 at hf
        refine lv_ior hx hb dX13_behindBlank_61 ?_
        obtain ⟨h01, hf⟩ := ckB_of hf
        obtain ⟨v_11, ev_11, hf⟩ := nm_of hf
        refine va_put (D := D) (ci := 11) (v := .int ((v_7.1 14) ||| j_10)) (ty := .boolean) (C := RX13) (T := TX13) (N := 27) hx hb hts hi11 tyX13 tyX13_ok nmX13 hown hK hP hD hS 0 rfl rfl 25 (by decide) hw1 (fun _ h9 => h9) rfl (by decide +kernel) (narB h01) (fitB h01) (Nat.le_of_ble_eq_true rfl) dX13_behindBlank_62 (fun H locs hP hD hS => ?_)
        have hP : va_P D vwCl (kModel G q0 v_11) H := by rw [ev_11]; exact hP
        have hD : va_D A (kModel G q0 v_11) := by rw [ev_11]; exact hD
        refine lv_iconst (v := 0) hx hb dX13_behindBlank_65 (by decide) ?_
        refine lv_istore_n (lv' := [(2, .int 0), (0, .ref (q0 0)), (1, .int a1)]) hx hb dX13_behindBlank_66 rfl hl (by decide) rfl (fun ls hl => ?_)
        refine lv_iconst (v := 0) hx hb dX13_behindBlank_67 (by decide) ?_
        refine lv_istore_n (lv' := [(3, .int 0), (2, .int 0), (0, .ref (q0 0)), (1, .int a1)]) hx hb dX13_behindBlank_68 rfl hl (by decide) rfl (fun ls hl => ?_)
        have exL_19 : ∀ (y_23 : Int32) (y_24 : Int32) (z_25 : SV) (H : Heap) (locs : List Loc) (ls : Array Slot), lv_has ls 4 [(3, .int y_23), (2, .int y_24), (0, .ref (q0 0)), (1, .int a1)] → va_P D vwCl (kModel G q0 z_25) H → va_D A (kModel G q0 z_25) → va_S A s.heap H locs → f_X13_behindBlank_K69 y_23 y_24 z_25 = some (r, v0') → W p l e rm_X13_behindBlank s m args below meth c H locs 0 0 Q0 (F0 m 115 ls []) := by
          intro y_23 y_24 z_25 H locs ls hl hP hD hS hf
          unfold f_X13_behindBlank_K69 at hf
          refine lv_iload_n hx hb dX13_behindBlank_115 rfl (lv_at hl 1 rfl) ?_
          obtain ⟨rfl, rfl⟩ := re2 hf
          exact hE hP hD hS dX13_behindBlank_116
        have loL_19 : ∀ (n : Nat) (x_16 : Int32) (x_17 : Int32) (u_18 : SV) (H : Heap) (locs : List Loc) (ls : Array Slot), lv_has ls 4 [(3, .int x_16), (2, .int x_17), (0, .ref (q0 0)), (1, .int a1)] → va_P D vwCl (kModel G q0 u_18) H → va_D A (kModel G q0 u_18) → va_S A s.heap H locs → lz3 (f_X13_behindBlank_B69 a1) n x_16 x_17 u_18 = some (r, v0') → W p l e rm_X13_behindBlank s m args below meth c H locs 0 0 Q0 (F0 m 69 ls []) := by
          intro n
          induction n with
          | zero => intro x_16 x_17 u_18 H locs ls hl hP hD hS hf; cases hf
          | succ n ihL_19 =>
            intro x_16 x_17 u_18 H locs ls hl hP hD hS hf
            replace hf := lz3_s hf
            unfold f_X13_behindBlank_B69 at hf
            refine lv_iload_n hx hb dX13_behindBlank_69 rfl (lv_at hl 0 rfl) ?_
            refine lv_iload_n hx hb dX13_behindBlank_70 rfl (lv_at hl 3 rfl) ?_
            refine lv_icmp_ge (tgt := 115) hx hb dX13_behindBlank_71 (by decide) (fun cc => ?_) (fun cc => ?_)
            · replace hf := ifT cc hf
              exact exL_19 x_16 x_17 u_18 _ _ _ (lv_sub hl [0, 1, 2, 3] rfl) hP hD hS hf
            · replace hf := ifF cc hf
              refine lv_aload_n hx hb dX13_behindBlank_74 rfl (lv_at hl 2 rfl) ?_
              obtain ⟨r_20, hc, hf⟩ := bd1_of hf
              refine k_V (As := []) (rest := []) (ws1 := (kModel G q0 u_18)) ⟨hx, hb, hml, hown, hts⟩ (c_X13_isDigit l D G q0  u_18 _ hc  _) (cwV 0 hts gX13_behindBlank_X13_isDigit rfl rfl rfl (by decide +kernel) ⟨Nat.le_of_ble_eq_true rfl, Nat.le_of_ble_eq_true rfl⟩) hl.1 (Nat.le_of_ble_eq_true rfl) dX13_behindBlank_75 ⟨Nat.le_of_ble_eq_true rfl, Nat.le_of_ble_eq_true rfl⟩ rfl kT_bl (fun _ _ _ => trivial) hN hK hP hD hS hA 0 11 rfl rfl rfl [0, 1, 2, 3, 4, 5, 6, 7, 8, 9, 10, 11] [] [0, 1, 2, 3, 4, 5, 6, 7, 8, 9, 10, 11] [0, 1, 2, 3] rfl rfl rfl ⟨by decide, by decide, by decide, by decide⟩ rfl (fun H locs hP hD hS => ?_)
              refine lv_if_eq (tgt := 115) hx hb dX13_behindBlank_78 (by decide) (fun cc => ?_) (fun cc => ?_)
              · replace hf := ifT cc hf
                exact exL_19 x_16 x_17 u_18 _ _ _ (lv_sub hl [0, 1, 2, 3] rfl) hP hD hS hf
              · replace hf := ifF cc hf
                refine lv_bipush (v := 10) hx hb dX13_behindBlank_81 (by decide +kernel) ?_
                refine lv_iload_n hx hb dX13_behindBlank_83 rfl (lv_at hl 1 rfl) ?_
                refine lv_imul hx hb dX13_behindBlank_84 ?_
                refine lv_aload_n hx hb dX13_behindBlank_85 rfl (lv_at hl 2 rfl) ?_
                refine va_get (D := D) (ci := 11) (v := .ref (q0 9)) (C := RX13) (T := TX13) (N := 27) hx hb hts hi11 hown hK hP 0 rfl rfl 18 (by decide) hw3 (fun _ h9 => h9) rfl dX13_behindBlank_86 ?_
                refine lv_aload_n hx hb dX13_behindBlank_89 rfl (lv_at hl 2 rfl) ?_
                refine va_get (D := D) (ci := 11) (v := .int (u_18.1 12)) (C := RX13) (T := TX13) (N := 27) hx hb hts hi11 hown hK hP 0 rfl rfl 23 (by decide) hw2 (fun _ h9 => h9) rfl dX13_behindBlank_90 ?_
                obtain ⟨hin, hf⟩ := ckI_of hf
                refine va_iald (D := D) hx hb hK hP 9 0 rfl rfl hin dX13_behindBlank_93 ?_
                refine lv_iadd hx hb dX13_behindBlank_94 ?_
                refine lv_bipush (v := 48) hx hb dX13_behindBlank_95 (by decide +kernel) ?_
                refine lv_isub hx hb dX13_behindBlank_97 ?_
                obtain ⟨t_21, et_21, hf⟩ := nm_of hf
                rw [← et_21]
                refine lv_istore_n (lv' := [(2, .int t_21), (3, .int x_16), (0, .ref (q0 0)), (1, .int a1)]) hx hb dX13_behindBlank_98 rfl hl (by decide) rfl (fun ls hl => ?_)
                refine lv_aload_n hx hb dX13_behindBlank_99 rfl (lv_at hl 2 rfl) ?_
                refine lv_dup hx hb dX13_behindBlank_100 rfl ?_
                refine va_get (D := D) (ci := 11) (v := .int (u_18.1 12)) (C := RX13) (T := TX13) (N := 27) hx hb hts hi11 hown hK hP 0 rfl rfl 23 (by decide) hw2 (fun _ h9 => h9) rfl dX13_behindBlank_101 ?_
                refine lv_iconst (v := 1) hx hb dX13_behindBlank_104 (by decide) ?_
                refine lv_iadd hx hb dX13_behindBlank_105 ?_
                obtain ⟨v_22, ev_22, hf⟩ := nm_of hf
                refine va_put (D := D) (ci := 11) (v := .int ((u_18.1 12) + 1)) (ty := .int) (C := RX13) (T := TX13) (N := 27) hx hb hts hi11 tyX13 tyX13_ok nmX13 hown hK hP hD hS 0 rfl rfl 23 (by decide) hw2 (fun _ h9 => h9) rfl (by decide +kernel) rfl rfl (Nat.le_of_ble_eq_true rfl) dX13_behindBlank_106 (fun H locs hP hD hS => ?_)
                have hP : va_P D vwCl (kModel G q0 v_22) H := by rw [ev_22]; exact hP
                have hD : va_D A (kModel G q0 v_22) := by rw [ev_22]; exact hD
                refine lv_iinc (v := (x_16 + 1)) (lv' := [(3, .int (x_16 + 1)), (2, .int t_21), (0, .ref (q0 0)), (1, .int a1)]) hx hb dX13_behindBlank_109 hl (k := 1) rfl rfl (by decide) rfl (fun ls hl => ?_)
                refine lv_goto (tgt := 69) hx hb dX13_behindBlank_112 (by decide) ?_
                exact ihL_19 (x_16 + 1) t_21 v_22 _ _ _ (lv_sub hl [0, 1, 2, 3] rfl) hP hD hS hf
        exact loL_19 FU 0 0 v_11 _ _ _ hl hP hD hS hf
      refine lv_if_ne (tgt := 60) hx hb dX13_behindBlank_53 (by decide) (fun cc => ?_) (fun cc => ?_)
      · replace hf := ifF cc hf
        refine lv_iconst (v := 0) hx hb dX13_behindBlank_60 (by decide) ?_
        exact jnJ_9 0 _ _ _ (lv_sub hl [0, 1] rfl) hP hD hS hf
      · replace hf := ifT cc hf
        refine lv_iconst (v := 1) hx hb dX13_behindBlank_56 (by decide) ?_
        refine lv_goto (tgt := 61) hx hb dX13_behindBlank_57 (by decide) ?_
        exact jnJ_9 1 _ _ _ (lv_sub hl [0, 1] rfl) hP hD hS hf
    refine lv_if_eq (tgt := 39) hx hb dX13_behindBlank_32 (by decide) (fun cc => ?_) (fun cc => ?_)
    · replace hf := ifT cc hf
      refine lv_iconst (v := 1) hx hb dX13_behindBlank_39 (by decide) ?_
      exact jnJ_5 1 _ _ _ (lv_sub hl [0, 1] rfl) hP hD hS hf
    · replace hf := ifF cc hf
      refine lv_iconst (v := 0) hx hb dX13_behindBlank_35 (by decide) ?_
      refine lv_goto (tgt := 40) hx hb dX13_behindBlank_36 (by decide) ?_
      exact jnJ_5 0 _ _ _ (lv_sub hl [0, 1] rfl) hP hD hS hf
  refine lv_icmp_eq (tgt := 18) hx hb dX13_behindBlank_11 (by decide) (fun cc => ?_) (fun cc => ?_)
  · replace hf := ifT cc hf
    refine lv_iconst (v := 0) hx hb dX13_behindBlank_18 (by decide) ?_
    exact jnJ_2 0 _ _ _ (lv_sub hl [0, 1] rfl) hP hD hS hf
  · replace hf := ifF cc hf
    refine lv_iconst (v := 1) hx hb dX13_behindBlank_14 (by decide) ?_
    refine lv_goto (tgt := 19) hx hb dX13_behindBlank_15 (by decide) ?_
    exact jnJ_2 1 _ _ _ (lv_sub hl [0, 1] rfl) hP hD hS hf
def f_X13_inWord (a0 : Int32) (a1 : Int32) (a2 : Int32) (a3 : Int32) (a4 : Int32) (a5 : Int32) : Option Int32 :=
  if a0 = 0 then
    some a1
  else
  if a0 = 1 then
    some a2
  else
  if a0 = 2 then
    some a3
  else
  if a0 = 3 then
    some a4
  else
  if a0 = 4 then
    some a5
  else
  some 0
abbrev rm_X13_inWord : Room := { frames := 0, cells := 0, slots := 0, locals := 0 }
set_option maxHeartbeats 4000000 in
set_option maxRecDepth 100000 in
theorem c_X13_inWord (l : Launch) (D : va_G) (G : Nat → ClassId) (a0 : Int32) (a1 : Int32) (a2 : Int32) (a3 : Int32) (a4 : Int32) (a5 : Int32) (r : Int32) (hf : f_X13_inWord a0 a1 a2 a3 a4 a5 = some r) (sz : Nat) : mC l yX13_inWord wsX13_inWord rm_X13_inWord D (tyG G) kT [.int a0, .int a1, .int a2, .int a3, .int a4, .int a5] ([] : va_W) ([] : va_W) sz (some (.int r)) 0 0 := by
  refine mC_ofI (cc := cX13_inWord) (maxL := 6) (ret := (some .int)) (by decide) rfl rfl (Nat.le_of_ble_eq_true rfl) ?_
  intro p e s m args below meth c Q0 hx hb hml hts hown hN hK A hD hA hE hP hS hJ ls hl
  have hl : lv_has ls 6 [(0, .int a0), (1, .int a1), (2, .int a2), (3, .int a3), (4, .int a4), (5, .int a5)] := hl
  unfold f_X13_inWord at hf
  refine lv_iload_n hx hb dX13_inWord_0 rfl (lv_at hl 0 rfl) ?_
  by_cases c0 : a0 = 0
  · replace hf := ifT c0 hf
    refine lv_tableIn (off := 35) (tgt := 36) hx hb dX13_inWord_1 (by rw [c0]; decide) (by rw [c0]; decide) (by rw [c0]; rfl) (by decide) ?_
    refine lv_iload_n hx hb dX13_inWord_36 rfl (lv_at hl 1 rfl) ?_
    obtain rfl := re1 hf
    exact hE hP hD hS dX13_inWord_37
  replace hf := ifF c0 hf
  by_cases c1 : a0 = 1
  · replace hf := ifT c1 hf
    refine lv_tableIn (off := 37) (tgt := 38) hx hb dX13_inWord_1 (by rw [c1]; decide) (by rw [c1]; decide) (by rw [c1]; rfl) (by decide) ?_
    refine lv_iload_n hx hb dX13_inWord_38 rfl (lv_at hl 2 rfl) ?_
    obtain rfl := re1 hf
    exact hE hP hD hS dX13_inWord_39
  replace hf := ifF c1 hf
  by_cases c2 : a0 = 2
  · replace hf := ifT c2 hf
    refine lv_tableIn (off := 39) (tgt := 40) hx hb dX13_inWord_1 (by rw [c2]; decide) (by rw [c2]; decide) (by rw [c2]; rfl) (by decide) ?_
    refine lv_iload_n hx hb dX13_inWord_40 rfl (lv_at hl 3 rfl) ?_
    obtain rfl := re1 hf
    exact hE hP hD hS dX13_inWord_41
  replace hf := ifF c2 hf
  by_cases c3 : a0 = 3
  · replace hf := ifT c3 hf
    refine lv_tableIn (off := 41) (tgt := 42) hx hb dX13_inWord_1 (by rw [c3]; decide) (by rw [c3]; decide) (by rw [c3]; rfl) (by decide) ?_
    refine lv_iload hx hb dX13_inWord_42 (lv_at hl 4 rfl) ?_
    obtain rfl := re1 hf
    exact hE hP hD hS dX13_inWord_44
  replace hf := ifF c3 hf
  by_cases c4 : a0 = 4
  · replace hf := ifT c4 hf
    refine lv_tableIn (off := 44) (tgt := 45) hx hb dX13_inWord_1 (by rw [c4]; decide) (by rw [c4]; decide) (by rw [c4]; rfl) (by decide) ?_
    refine lv_iload hx hb dX13_inWord_45 (lv_at hl 5 rfl) ?_
    obtain rfl := re1 hf
    exact hE hP hD hS dX13_inWord_47
  replace hf := ifF c4 hf
  refine lv_tableOut (tgt := 48) hx hb dX13_inWord_1 (by have e0 := sw_ne (z := 0) c0 (by decide); have e1 := sw_ne (z := 1) c1 (by decide); have e2 := sw_ne (z := 2) c2 (by decide); have e3 := sw_ne (z := 3) c3 (by decide); have e4 := sw_ne (z := 4) c4 (by decide); omega) (by decide) ?_
  refine lv_iconst (v := 0) hx hb dX13_inWord_48 (by decide) ?_
  obtain rfl := re1 hf
  exact hE hP hD hS dX13_inWord_49
def f_X13_letter (a0 : Int32) (a1 : Int32) : Option Int32 :=
  if a0 = 0 then
    bd1 (f_X13_inWord a1 112 108 97 110 116) fun r_1 =>
    some r_1
  else
  if a0 = 1 then
    bd1 (f_X13_inWord a1 98 101 97 114 0) fun r_2 =>
    some r_2
  else
  if a0 = 2 then
    bd1 (f_X13_inWord a1 104 97 110 103 0) fun r_3 =>
    some r_3
  else
  if a0 = 3 then
    bd1 (f_X13_inWord a1 103 114 101 101 116) fun r_4 =>
    some r_4
  else
  if a0 = 4 then
    bd1 (f_X13_inWord a1 103 105 118 101 0) fun r_5 =>
    some r_5
  else
  if a0 = 5 then
    bd1 (f_X13_inWord a1 99 97 116 0 0) fun r_6 =>
    some r_6
  else
  if a0 = 6 then
    bd1 (f_X13_inWord a1 115 119 97 112 0) fun r_7 =>
    some r_7
  else
  bd1 (f_X13_inWord a1 100 97 121 0 0) fun r_8 =>
  some r_8
abbrev rm_X13_letter : Room := { frames := 1, cells := 0, slots := 0, locals := 25 }
set_option maxHeartbeats 4000000 in
set_option maxRecDepth 100000 in
theorem c_X13_letter (l : Launch) (D : va_G) (G : Nat → ClassId) (a0 : Int32) (a1 : Int32) (r : Int32) (hf : f_X13_letter a0 a1 = some r) (sz : Nat) : mC l yX13_letter wsX13_letter rm_X13_letter D (tyG G) kT [.int a0, .int a1] ([] : va_W) ([] : va_W) sz (some (.int r)) 0 0 := by
  refine mC_ofI (cc := cX13_letter) (maxL := 2) (ret := (some .int)) (by decide) rfl rfl (Nat.le_of_ble_eq_true rfl) ?_
  intro p e s m args below meth c Q0 hx hb hml hts hown hN hK A hD hA hE hP hS hJ ls hl
  have hl : lv_has ls 2 [(0, .int a0), (1, .int a1)] := hl
  unfold f_X13_letter at hf
  refine lv_iload_n hx hb dX13_letter_0 rfl (lv_at hl 0 rfl) ?_
  by_cases c0 : a0 = 0
  · replace hf := ifT c0 hf
    refine lv_tableIn (off := 43) (tgt := 44) hx hb dX13_letter_1 (by rw [c0]; decide) (by rw [c0]; decide) (by rw [c0]; rfl) (by decide) ?_
    refine lv_iload_n hx hb dX13_letter_44 rfl (lv_at hl 1 rfl) ?_
    refine lv_bipush (v := 112) hx hb dX13_letter_45 (by decide +kernel) ?_
    refine lv_bipush (v := 108) hx hb dX13_letter_47 (by decide +kernel) ?_
    refine lv_bipush (v := 97) hx hb dX13_letter_49 (by decide +kernel) ?_
    refine lv_bipush (v := 110) hx hb dX13_letter_51 (by decide +kernel) ?_
    refine lv_bipush (v := 116) hx hb dX13_letter_53 (by decide +kernel) ?_
    obtain ⟨r_1, hc, hf⟩ := bd1_of hf
    refine k_S (As := [.int a1, .int 112, .int 108, .int 97, .int 110, .int 116]) (rest := []) (ws1 := ([] : va_W)) ⟨hx, hb, hml, hown, hts⟩ (c_X13_inWord l D G  a1 112 108 97 110 116  _ hc  _) (va_cwS 6 hts gX13_letter_X13_inWord rfl rfl rfl (by decide +kernel) ⟨Nat.le_of_ble_eq_true rfl, Nat.le_of_ble_eq_true rfl⟩) hl.1 (Nat.le_of_ble_eq_true rfl) dX13_letter_55 ⟨Nat.le_of_ble_eq_true rfl, Nat.le_of_ble_eq_true rfl⟩ rfl kT_bl (fun _ _ _ => trivial) hN hK hP hD hS hA [] [] [] [0, 1, 2, 3] rfl rfl rfl ⟨by decide, by decide, by decide, by decide⟩ rfl (fun H locs hP hD hS => ?_)
    obtain rfl := re1 hf
    exact hE hP hD hS dX13_letter_58
  replace hf := ifF c0 hf
  by_cases c1 : a0 = 1
  · replace hf := ifT c1 hf
    refine lv_tableIn (off := 58) (tgt := 59) hx hb dX13_letter_1 (by rw [c1]; decide) (by rw [c1]; decide) (by rw [c1]; rfl) (by decide) ?_
    refine lv_iload_n hx hb dX13_letter_59 rfl (lv_at hl 1 rfl) ?_
    refine lv_bipush (v := 98) hx hb dX13_letter_60 (by decide +kernel) ?_
    refine lv_bipush (v := 101) hx hb dX13_letter_62 (by decide +kernel) ?_
    refine lv_bipush (v := 97) hx hb dX13_letter_64 (by decide +kernel) ?_
    refine lv_bipush (v := 114) hx hb dX13_letter_66 (by decide +kernel) ?_
    refine lv_iconst (v := 0) hx hb dX13_letter_68 (by decide) ?_
    obtain ⟨r_2, hc, hf⟩ := bd1_of hf
    refine k_S (As := [.int a1, .int 98, .int 101, .int 97, .int 114, .int 0]) (rest := []) (ws1 := ([] : va_W)) ⟨hx, hb, hml, hown, hts⟩ (c_X13_inWord l D G  a1 98 101 97 114 0  _ hc  _) (va_cwS 6 hts gX13_letter_X13_inWord rfl rfl rfl (by decide +kernel) ⟨Nat.le_of_ble_eq_true rfl, Nat.le_of_ble_eq_true rfl⟩) hl.1 (Nat.le_of_ble_eq_true rfl) dX13_letter_69 ⟨Nat.le_of_ble_eq_true rfl, Nat.le_of_ble_eq_true rfl⟩ rfl kT_bl (fun _ _ _ => trivial) hN hK hP hD hS hA [] [] [] [0, 1, 2, 3] rfl rfl rfl ⟨by decide, by decide, by decide, by decide⟩ rfl (fun H locs hP hD hS => ?_)
    obtain rfl := re1 hf
    exact hE hP hD hS dX13_letter_72
  replace hf := ifF c1 hf
  by_cases c2 : a0 = 2
  · replace hf := ifT c2 hf
    refine lv_tableIn (off := 72) (tgt := 73) hx hb dX13_letter_1 (by rw [c2]; decide) (by rw [c2]; decide) (by rw [c2]; rfl) (by decide) ?_
    refine lv_iload_n hx hb dX13_letter_73 rfl (lv_at hl 1 rfl) ?_
    refine lv_bipush (v := 104) hx hb dX13_letter_74 (by decide +kernel) ?_
    refine lv_bipush (v := 97) hx hb dX13_letter_76 (by decide +kernel) ?_
    refine lv_bipush (v := 110) hx hb dX13_letter_78 (by decide +kernel) ?_
    refine lv_bipush (v := 103) hx hb dX13_letter_80 (by decide +kernel) ?_
    refine lv_iconst (v := 0) hx hb dX13_letter_82 (by decide) ?_
    obtain ⟨r_3, hc, hf⟩ := bd1_of hf
    refine k_S (As := [.int a1, .int 104, .int 97, .int 110, .int 103, .int 0]) (rest := []) (ws1 := ([] : va_W)) ⟨hx, hb, hml, hown, hts⟩ (c_X13_inWord l D G  a1 104 97 110 103 0  _ hc  _) (va_cwS 6 hts gX13_letter_X13_inWord rfl rfl rfl (by decide +kernel) ⟨Nat.le_of_ble_eq_true rfl, Nat.le_of_ble_eq_true rfl⟩) hl.1 (Nat.le_of_ble_eq_true rfl) dX13_letter_83 ⟨Nat.le_of_ble_eq_true rfl, Nat.le_of_ble_eq_true rfl⟩ rfl kT_bl (fun _ _ _ => trivial) hN hK hP hD hS hA [] [] [] [0, 1, 2, 3] rfl rfl rfl ⟨by decide, by decide, by decide, by decide⟩ rfl (fun H locs hP hD hS => ?_)
    obtain rfl := re1 hf
    exact hE hP hD hS dX13_letter_86
  replace hf := ifF c2 hf
  by_cases c3 : a0 = 3
  · replace hf := ifT c3 hf
    refine lv_tableIn (off := 86) (tgt := 87) hx hb dX13_letter_1 (by rw [c3]; decide) (by rw [c3]; decide) (by rw [c3]; rfl) (by decide) ?_
    refine lv_iload_n hx hb dX13_letter_87 rfl (lv_at hl 1 rfl) ?_
    refine lv_bipush (v := 103) hx hb dX13_letter_88 (by decide +kernel) ?_
    refine lv_bipush (v := 114) hx hb dX13_letter_90 (by decide +kernel) ?_
    refine lv_bipush (v := 101) hx hb dX13_letter_92 (by decide +kernel) ?_
    refine lv_bipush (v := 101) hx hb dX13_letter_94 (by decide +kernel) ?_
    refine lv_bipush (v := 116) hx hb dX13_letter_96 (by decide +kernel) ?_
    obtain ⟨r_4, hc, hf⟩ := bd1_of hf
    refine k_S (As := [.int a1, .int 103, .int 114, .int 101, .int 101, .int 116]) (rest := []) (ws1 := ([] : va_W)) ⟨hx, hb, hml, hown, hts⟩ (c_X13_inWord l D G  a1 103 114 101 101 116  _ hc  _) (va_cwS 6 hts gX13_letter_X13_inWord rfl rfl rfl (by decide +kernel) ⟨Nat.le_of_ble_eq_true rfl, Nat.le_of_ble_eq_true rfl⟩) hl.1 (Nat.le_of_ble_eq_true rfl) dX13_letter_98 ⟨Nat.le_of_ble_eq_true rfl, Nat.le_of_ble_eq_true rfl⟩ rfl kT_bl (fun _ _ _ => trivial) hN hK hP hD hS hA [] [] [] [0, 1, 2, 3] rfl rfl rfl ⟨by decide, by decide, by decide, by decide⟩ rfl (fun H locs hP hD hS => ?_)
    obtain rfl := re1 hf
    exact hE hP hD hS dX13_letter_101
  replace hf := ifF c3 hf
  by_cases c4 : a0 = 4
  · replace hf := ifT c4 hf
    refine lv_tableIn (off := 101) (tgt := 102) hx hb dX13_letter_1 (by rw [c4]; decide) (by rw [c4]; decide) (by rw [c4]; rfl) (by decide) ?_
    refine lv_iload_n hx hb dX13_letter_102 rfl (lv_at hl 1 rfl) ?_
    refine lv_bipush (v := 103) hx hb dX13_letter_103 (by decide +kernel) ?_
    refine lv_bipush (v := 105) hx hb dX13_letter_105 (by decide +kernel) ?_
    refine lv_bipush (v := 118) hx hb dX13_letter_107 (by decide +kernel) ?_
    refine lv_bipush (v := 101) hx hb dX13_letter_109 (by decide +kernel) ?_
    refine lv_iconst (v := 0) hx hb dX13_letter_111 (by decide) ?_
    obtain ⟨r_5, hc, hf⟩ := bd1_of hf
    refine k_S (As := [.int a1, .int 103, .int 105, .int 118, .int 101, .int 0]) (rest := []) (ws1 := ([] : va_W)) ⟨hx, hb, hml, hown, hts⟩ (c_X13_inWord l D G  a1 103 105 118 101 0  _ hc  _) (va_cwS 6 hts gX13_letter_X13_inWord rfl rfl rfl (by decide +kernel) ⟨Nat.le_of_ble_eq_true rfl, Nat.le_of_ble_eq_true rfl⟩) hl.1 (Nat.le_of_ble_eq_true rfl) dX13_letter_112 ⟨Nat.le_of_ble_eq_true rfl, Nat.le_of_ble_eq_true rfl⟩ rfl kT_bl (fun _ _ _ => trivial) hN hK hP hD hS hA [] [] [] [0, 1, 2, 3] rfl rfl rfl ⟨by decide, by decide, by decide, by decide⟩ rfl (fun H locs hP hD hS => ?_)
    obtain rfl := re1 hf
    exact hE hP hD hS dX13_letter_115
  replace hf := ifF c4 hf
  by_cases c5 : a0 = 5
  · replace hf := ifT c5 hf
    refine lv_tableIn (off := 115) (tgt := 116) hx hb dX13_letter_1 (by rw [c5]; decide) (by rw [c5]; decide) (by rw [c5]; rfl) (by decide) ?_
    refine lv_iload_n hx hb dX13_letter_116 rfl (lv_at hl 1 rfl) ?_
    refine lv_bipush (v := 99) hx hb dX13_letter_117 (by decide +kernel) ?_
    refine lv_bipush (v := 97) hx hb dX13_letter_119 (by decide +kernel) ?_
    refine lv_bipush (v := 116) hx hb dX13_letter_121 (by decide +kernel) ?_
    refine lv_iconst (v := 0) hx hb dX13_letter_123 (by decide) ?_
    refine lv_iconst (v := 0) hx hb dX13_letter_124 (by decide) ?_
    obtain ⟨r_6, hc, hf⟩ := bd1_of hf
    refine k_S (As := [.int a1, .int 99, .int 97, .int 116, .int 0, .int 0]) (rest := []) (ws1 := ([] : va_W)) ⟨hx, hb, hml, hown, hts⟩ (c_X13_inWord l D G  a1 99 97 116 0 0  _ hc  _) (va_cwS 6 hts gX13_letter_X13_inWord rfl rfl rfl (by decide +kernel) ⟨Nat.le_of_ble_eq_true rfl, Nat.le_of_ble_eq_true rfl⟩) hl.1 (Nat.le_of_ble_eq_true rfl) dX13_letter_125 ⟨Nat.le_of_ble_eq_true rfl, Nat.le_of_ble_eq_true rfl⟩ rfl kT_bl (fun _ _ _ => trivial) hN hK hP hD hS hA [] [] [] [0, 1, 2, 3] rfl rfl rfl ⟨by decide, by decide, by decide, by decide⟩ rfl (fun H locs hP hD hS => ?_)
    obtain rfl := re1 hf
    exact hE hP hD hS dX13_letter_128
  replace hf := ifF c5 hf
  by_cases c6 : a0 = 6
  · replace hf := ifT c6 hf
    refine lv_tableIn (off := 128) (tgt := 129) hx hb dX13_letter_1 (by rw [c6]; decide) (by rw [c6]; decide) (by rw [c6]; rfl) (by decide) ?_
    refine lv_iload_n hx hb dX13_letter_129 rfl (lv_at hl 1 rfl) ?_
    refine lv_bipush (v := 115) hx hb dX13_letter_130 (by decide +kernel) ?_
    refine lv_bipush (v := 119) hx hb dX13_letter_132 (by decide +kernel) ?_
    refine lv_bipush (v := 97) hx hb dX13_letter_134 (by decide +kernel) ?_
    refine lv_bipush (v := 112) hx hb dX13_letter_136 (by decide +kernel) ?_
    refine lv_iconst (v := 0) hx hb dX13_letter_138 (by decide) ?_
    obtain ⟨r_7, hc, hf⟩ := bd1_of hf
    refine k_S (As := [.int a1, .int 115, .int 119, .int 97, .int 112, .int 0]) (rest := []) (ws1 := ([] : va_W)) ⟨hx, hb, hml, hown, hts⟩ (c_X13_inWord l D G  a1 115 119 97 112 0  _ hc  _) (va_cwS 6 hts gX13_letter_X13_inWord rfl rfl rfl (by decide +kernel) ⟨Nat.le_of_ble_eq_true rfl, Nat.le_of_ble_eq_true rfl⟩) hl.1 (Nat.le_of_ble_eq_true rfl) dX13_letter_139 ⟨Nat.le_of_ble_eq_true rfl, Nat.le_of_ble_eq_true rfl⟩ rfl kT_bl (fun _ _ _ => trivial) hN hK hP hD hS hA [] [] [] [0, 1, 2, 3] rfl rfl rfl ⟨by decide, by decide, by decide, by decide⟩ rfl (fun H locs hP hD hS => ?_)
    obtain rfl := re1 hf
    exact hE hP hD hS dX13_letter_142
  replace hf := ifF c6 hf
  refine lv_tableOut (tgt := 143) hx hb dX13_letter_1 (by have e0 := sw_ne (z := 0) c0 (by decide); have e1 := sw_ne (z := 1) c1 (by decide); have e2 := sw_ne (z := 2) c2 (by decide); have e3 := sw_ne (z := 3) c3 (by decide); have e4 := sw_ne (z := 4) c4 (by decide); have e5 := sw_ne (z := 5) c5 (by decide); have e6 := sw_ne (z := 6) c6 (by decide); omega) (by decide) ?_
  refine lv_iload_n hx hb dX13_letter_143 rfl (lv_at hl 1 rfl) ?_
  refine lv_bipush (v := 100) hx hb dX13_letter_144 (by decide +kernel) ?_
  refine lv_bipush (v := 97) hx hb dX13_letter_146 (by decide +kernel) ?_
  refine lv_bipush (v := 121) hx hb dX13_letter_148 (by decide +kernel) ?_
  refine lv_iconst (v := 0) hx hb dX13_letter_150 (by decide) ?_
  refine lv_iconst (v := 0) hx hb dX13_letter_151 (by decide) ?_
  obtain ⟨r_8, hc, hf⟩ := bd1_of hf
  refine k_S (As := [.int a1, .int 100, .int 97, .int 121, .int 0, .int 0]) (rest := []) (ws1 := ([] : va_W)) ⟨hx, hb, hml, hown, hts⟩ (c_X13_inWord l D G  a1 100 97 121 0 0  _ hc  _) (va_cwS 6 hts gX13_letter_X13_inWord rfl rfl rfl (by decide +kernel) ⟨Nat.le_of_ble_eq_true rfl, Nat.le_of_ble_eq_true rfl⟩) hl.1 (Nat.le_of_ble_eq_true rfl) dX13_letter_152 ⟨Nat.le_of_ble_eq_true rfl, Nat.le_of_ble_eq_true rfl⟩ rfl kT_bl (fun _ _ _ => trivial) hN hK hP hD hS hA [] [] [] [0, 1, 2, 3] rfl rfl rfl ⟨by decide, by decide, by decide, by decide⟩ rfl (fun H locs hP hD hS => ?_)
  obtain rfl := re1 hf
  exact hE hP hD hS dX13_letter_155
def f_X13_kindHere_K4 (v0 : SV) (y_22 : Int32) (y_23 : Int32) : Option (Int32 × SV) :=
  nm (pF v0 12 ((v0.1 12) + y_23)) fun v_24 =>
  nm (pF v_24 14 1) fun v_25 =>
  some (0, v_25)
def f_X13_kindHere_K12 (x_12 : Int32) (v0 : SV) (x_13 : Int32) (selfL_14 : (Int32 → Int32 → Option (Int32 × SV))) (y_19 : Int32) : Option (Int32 × SV) :=
  bd1 (f_X13_letter x_12 y_19) fun r_20 =>
  if r_20 = 0 then
    nm (pF v0 12 ((v0.1 12) + y_19)) fun v_21 =>
    some (x_12, v_21)
  else
    if y_19 ≤ x_13 then
      selfL_14 (x_12 + 1) x_13
    else
      selfL_14 (x_12 + 1) y_19
def f_X13_kindHere_B12 (x_12 : Int32) (v0 : SV) (x_13 : Int32) (selfL_14 : (Int32 → Int32 → Option (Int32 × SV))) (selfL_16 : (Int32 → Option (Int32 × SV))) (x_15 : Int32) : Option (Int32 × SV) :=
  bd1 (f_X13_letter x_12 x_15) fun r_17 =>
  if r_17 ≤ 0 then
    f_X13_kindHere_K12 x_12 v0 x_13 selfL_14 x_15
  else
    if (v0.1 11) ≤ ((v0.1 12) + x_15) then
      f_X13_kindHere_K12 x_12 v0 x_13 selfL_14 x_15
    else
      ckI ((v0.1 12) + x_15) 60 <|
      bd1 (f_X13_letter x_12 x_15) fun r_18 =>
      if (v0.2 8 ((v0.1 12) + x_15).toNatClampNeg) = r_18 then
        selfL_16 (x_15 + 1)
      else
        f_X13_kindHere_K12 x_12 v0 x_13 selfL_14 x_15
def f_X13_kindHere_B4 (v0 : SV) (selfL_14 : (Int32 → Int32 → Option (Int32 × SV))) (x_12 : Int32) (x_13 : Int32) : Option (Int32 × SV) :=
  if 8 ≤ x_12 then
    f_X13_kindHere_K4 v0 x_12 x_13
  else
    lz1 (f_X13_kindHere_B12 x_12 v0 x_13 selfL_14) FU 0
def f_X13_kindHere (v0 : SV) : Option (Int32 × SV) :=
  lz2 (f_X13_kindHere_B4 v0) FU 0 0
abbrev rm_X13_kindHere : Room := { frames := 2, cells := 0, slots := 0, locals := 46 }
set_option maxHeartbeats 4000000 in
set_option maxRecDepth 100000 in
theorem c_X13_kindHere (l : Launch) (D : va_G) (G : Nat → ClassId) (q0 : Nat → Nat) (v0 : SV) (r : Int32) (v0' : SV) (hf : f_X13_kindHere v0 = some (r, v0')) (sz : Nat) : mC l yX13_kindHere wsX13_kindHere rm_X13_kindHere D (tyG G) kT [.ref (q0 0)] (kModel G q0 v0) (kModel G q0 v0') sz (some (.int r)) 0 0 := by
  refine mC_ofI (cc := cX13_kindHere) (maxL := 4) (ret := (some .int)) (by decide) rfl rfl (Nat.le_of_ble_eq_true rfl) ?_
  intro p e s m args below meth c Q0 hx hb hml hts hown hN hK A hD hA hE hP hS hJ ls hl
  have hl : lv_has ls 4 [(0, .ref (q0 0))] := hl
  unfold f_X13_kindHere at hf
  have hi11 : ∀ w ∈ u_ws RX13 TX13 27, w ∈ wsX13_kindHere := by decide +kernel
  have hw1 := hts (.fieldLink RX13 81 "BalconyCensusModel" "spot" "I") (by decide +kernel)
  have hw2 := hts (.fieldLink RX13 78 "BalconyCensusModel" "inputLong" "I") (by decide +kernel)
  have hw3 := hts (.fieldLink RX13 66 "BalconyCensusModel" "input" "[I") (by decide +kernel)
  have hw4 := hts (.fieldLink RX13 87 "BalconyCensusModel" "isWrong" "Z") (by decide +kernel)
  refine lv_iconst (v := 0) hx hb dX13_kindHere_0 (by decide) ?_
  refine lv_istore_n (lv' := [(1, .int 0), (0, .ref (q0 0))]) hx hb dX13_kindHere_1 rfl hl (by decide) rfl (fun ls hl => ?_)
  refine lv_iconst (v := 0) hx hb dX13_kindHere_2 (by decide) ?_
  refine lv_istore_n (lv' := [(2, .int 0), (1, .int 0), (0, .ref (q0 0))]) hx hb dX13_kindHere_3 rfl hl (by decide) rfl (fun ls hl => ?_)
  have exL_14 : ∀ (y_22 : Int32) (y_23 : Int32) (H : Heap) (locs : List Loc) (ls : Array Slot), lv_has ls 4 [(2, .int y_22), (1, .int y_23), (0, .ref (q0 0))] → va_P D vwCl (kModel G q0 v0) H → va_D A (kModel G q0 v0) → va_S A s.heap H locs → f_X13_kindHere_K4 v0 y_22 y_23 = some (r, v0') → W p l e rm_X13_kindHere s m args below meth c H locs 0 0 Q0 (F0 m 95 ls []) := by
    intro y_22 y_23 H locs ls hl hP hD hS hf
    unfold f_X13_kindHere_K4 at hf
    refine lv_aload_n hx hb dX13_kindHere_95 rfl (lv_at hl 2 rfl) ?_
    refine lv_dup hx hb dX13_kindHere_96 rfl ?_
    refine va_get (D := D) (ci := 11) (v := .int (v0.1 12)) (C := RX13) (T := TX13) (N := 27) hx hb hts hi11 hown hK hP 0 rfl rfl 23 (by decide) hw1 (fun _ h9 => h9) rfl dX13_kindHere_97 ?_
    refine lv_iload_n hx hb dX13_kindHere_100 rfl (lv_at hl 1 rfl) ?_
    refine lv_iadd hx hb dX13_kindHere_101 ?_
    obtain ⟨v_24, ev_24, hf⟩ := nm_of hf
    refine va_put (D := D) (ci := 11) (v := .int ((v0.1 12) + y_23)) (ty := .int) (C := RX13) (T := TX13) (N := 27) hx hb hts hi11 tyX13 tyX13_ok nmX13 hown hK hP hD hS 0 rfl rfl 23 (by decide) hw1 (fun _ h9 => h9) rfl (by decide +kernel) rfl rfl (Nat.le_of_ble_eq_true rfl) dX13_kindHere_102 (fun H locs hP hD hS => ?_)
    have hP : va_P D vwCl (kModel G q0 v_24) H := by rw [ev_24]; exact hP
    have hD : va_D A (kModel G q0 v_24) := by rw [ev_24]; exact hD
    refine lv_aload_n hx hb dX13_kindHere_105 rfl (lv_at hl 2 rfl) ?_
    refine lv_iconst (v := 1) hx hb dX13_kindHere_106 (by decide) ?_
    obtain ⟨v_25, ev_25, hf⟩ := nm_of hf
    refine va_put (D := D) (ci := 11) (v := .int 1) (ty := .boolean) (C := RX13) (T := TX13) (N := 27) hx hb hts hi11 tyX13 tyX13_ok nmX13 hown hK hP hD hS 0 rfl rfl 25 (by decide) hw4 (fun _ h9 => h9) rfl (by decide +kernel) (by decide +kernel) (by decide +kernel) (Nat.le_of_ble_eq_true rfl) dX13_kindHere_107 (fun H locs hP hD hS => ?_)
    have hP : va_P D vwCl (kModel G q0 v_25) H := by rw [ev_25]; exact hP
    have hD : va_D A (kModel G q0 v_25) := by rw [ev_25]; exact hD
    refine lv_iconst (v := 0) hx hb dX13_kindHere_110 (by decide) ?_
    obtain ⟨rfl, rfl⟩ := re2 hf
    exact hE hP hD hS dX13_kindHere_111
  have loL_14 : ∀ (n : Nat) (x_12 : Int32) (x_13 : Int32) (H : Heap) (locs : List Loc) (ls : Array Slot), lv_has ls 4 [(2, .int x_12), (1, .int x_13), (0, .ref (q0 0))] → va_P D vwCl (kModel G q0 v0) H → va_D A (kModel G q0 v0) → va_S A s.heap H locs → lz2 (f_X13_kindHere_B4 v0) n x_12 x_13 = some (r, v0') → W p l e rm_X13_kindHere s m args below meth c H locs 0 0 Q0 (F0 m 4 ls []) := by
    intro n
    induction n with
    | zero => intro x_12 x_13 H locs ls hl hP hD hS hf; cases hf
    | succ n ihL_14 =>
      intro x_12 x_13 H locs ls hl hP hD hS hf
      replace hf := lz2_s hf
      generalize lz2 (f_X13_kindHere_B4 v0) n = selfL_14 at hf ihL_14
      unfold f_X13_kindHere_B4 at hf
      refine lv_iload_n hx hb dX13_kindHere_4 rfl (lv_at hl 0 rfl) ?_
      refine lv_bipush (v := 8) hx hb dX13_kindHere_5 (by decide +kernel) ?_
      refine lv_icmp_ge (tgt := 95) hx hb dX13_kindHere_7 (by decide) (fun cc => ?_) (fun cc => ?_)
      · replace hf := ifT cc hf
        exact exL_14 x_12 x_13 _ _ _ (lv_sub hl [0, 1, 2] rfl) hP hD hS hf
      · replace hf := ifF cc hf
        refine lv_iconst (v := 0) hx hb dX13_kindHere_10 (by decide) ?_
        refine lv_istore_n (lv' := [(3, .int 0), (2, .int x_12), (1, .int x_13), (0, .ref (q0 0))]) hx hb dX13_kindHere_11 rfl hl (by decide) rfl (fun ls hl => ?_)
        have exL_16 : ∀ (y_19 : Int32) (H : Heap) (locs : List Loc) (ls : Array Slot), lv_has ls 4 [(3, .int y_19), (2, .int x_12), (1, .int x_13), (0, .ref (q0 0))] → va_P D vwCl (kModel G q0 v0) H → va_D A (kModel G q0 v0) → va_S A s.heap H locs → f_X13_kindHere_K12 x_12 v0 x_13 selfL_14 y_19 = some (r, v0') → W p l e rm_X13_kindHere s m args below meth c H locs 0 0 Q0 (F0 m 58 ls []) := by
          intro y_19 H locs ls hl hP hD hS hf
          unfold f_X13_kindHere_K12 at hf
          refine lv_iload_n hx hb dX13_kindHere_58 rfl (lv_at hl 1 rfl) ?_
          refine lv_iload_n hx hb dX13_kindHere_59 rfl (lv_at hl 0 rfl) ?_
          obtain ⟨r_20, hc, hf⟩ := bd1_of hf
          refine k_S (As := [.int x_12, .int y_19]) (rest := []) (ws1 := (kModel G q0 v0)) ⟨hx, hb, hml, hown, hts⟩ (c_X13_letter l D G  x_12 y_19  _ hc  _) (va_cwS 2 hts gX13_kindHere_X13_letter rfl rfl rfl (by decide +kernel) ⟨Nat.le_of_ble_eq_true rfl, Nat.le_of_ble_eq_true rfl⟩) hl.1 (Nat.le_of_ble_eq_true rfl) dX13_kindHere_60 ⟨Nat.le_of_ble_eq_true rfl, Nat.le_of_ble_eq_true rfl⟩ rfl kT_bl (fun _ _ _ => trivial) hN hK hP hD hS hA [] [0, 1, 2, 3, 4, 5, 6, 7, 8, 9, 10, 11] [0, 1, 2, 3, 4, 5, 6, 7, 8, 9, 10, 11] [0, 1, 2, 3] rfl rfl rfl ⟨by decide, by decide, by decide, by decide⟩ rfl (fun H locs hP hD hS => ?_)
          refine lv_if_ne (tgt := 78) hx hb dX13_kindHere_63 (by decide) (fun cc => ?_) (fun cc => ?_)
          · replace hf := ifF cc hf
            refine lv_iload_n hx hb dX13_kindHere_78 rfl (lv_at hl 0 rfl) ?_
            refine lv_iload_n hx hb dX13_kindHere_79 rfl (lv_at hl 2 rfl) ?_
            refine lv_icmp_le (tgt := 87) hx hb dX13_kindHere_80 (by decide) (fun cc => ?_) (fun cc => ?_)
            · replace hf := ifT cc hf
              refine lv_iload_n hx hb dX13_kindHere_87 rfl (lv_at hl 2 rfl) ?_
              refine lv_istore_n (lv' := [(1, .int x_13), (3, .int y_19), (2, .int x_12), (0, .ref (q0 0))]) hx hb dX13_kindHere_88 rfl hl (by decide) rfl (fun ls hl => ?_)
              refine lv_iinc (v := (x_12 + 1)) (lv' := [(2, .int (x_12 + 1)), (1, .int x_13), (3, .int y_19), (0, .ref (q0 0))]) hx hb dX13_kindHere_89 hl (k := 2) rfl rfl (by decide) rfl (fun ls hl => ?_)
              refine lv_goto (tgt := 4) hx hb dX13_kindHere_92 (by decide) ?_
              exact ihL_14 (x_12 + 1) x_13 _ _ _ (lv_sub hl [0, 1, 3] rfl) hP hD hS hf
            · replace hf := ifF cc hf
              refine lv_iload_n hx hb dX13_kindHere_83 rfl (lv_at hl 0 rfl) ?_
              refine lv_goto (tgt := 88) hx hb dX13_kindHere_84 (by decide) ?_
              refine lv_istore_n (lv' := [(1, .int y_19), (3, .int y_19), (2, .int x_12), (0, .ref (q0 0))]) hx hb dX13_kindHere_88 rfl hl (by decide) rfl (fun ls hl => ?_)
              refine lv_iinc (v := (x_12 + 1)) (lv' := [(2, .int (x_12 + 1)), (1, .int y_19), (3, .int y_19), (0, .ref (q0 0))]) hx hb dX13_kindHere_89 hl (k := 2) rfl rfl (by decide) rfl (fun ls hl => ?_)
              refine lv_goto (tgt := 4) hx hb dX13_kindHere_92 (by decide) ?_
              exact ihL_14 (x_12 + 1) y_19 _ _ _ (lv_sub hl [0, 1, 3] rfl) hP hD hS hf
          · replace hf := ifT cc hf
            refine lv_aload_n hx hb dX13_kindHere_66 rfl (lv_at hl 3 rfl) ?_
            refine lv_dup hx hb dX13_kindHere_67 rfl ?_
            refine va_get (D := D) (ci := 11) (v := .int (v0.1 12)) (C := RX13) (T := TX13) (N := 27) hx hb hts hi11 hown hK hP 0 rfl rfl 23 (by decide) hw1 (fun _ h9 => h9) rfl dX13_kindHere_68 ?_
            refine lv_iload_n hx hb dX13_kindHere_71 rfl (lv_at hl 0 rfl) ?_
            refine lv_iadd hx hb dX13_kindHere_72 ?_
            obtain ⟨v_21, ev_21, hf⟩ := nm_of hf
            refine va_put (D := D) (ci := 11) (v := .int ((v0.1 12) + y_19)) (ty := .int) (C := RX13) (T := TX13) (N := 27) hx hb hts hi11 tyX13 tyX13_ok nmX13 hown hK hP hD hS 0 rfl rfl 23 (by decide) hw1 (fun _ h9 => h9) rfl (by decide +kernel) rfl rfl (Nat.le_of_ble_eq_true rfl) dX13_kindHere_73 (fun H locs hP hD hS => ?_)
            have hP : va_P D vwCl (kModel G q0 v_21) H := by rw [ev_21]; exact hP
            have hD : va_D A (kModel G q0 v_21) := by rw [ev_21]; exact hD
            refine lv_iload_n hx hb dX13_kindHere_76 rfl (lv_at hl 1 rfl) ?_
            obtain ⟨rfl, rfl⟩ := re2 hf
            exact hE hP hD hS dX13_kindHere_77
        have loL_16 : ∀ (n : Nat) (x_15 : Int32) (H : Heap) (locs : List Loc) (ls : Array Slot), lv_has ls 4 [(3, .int x_15), (2, .int x_12), (1, .int x_13), (0, .ref (q0 0))] → va_P D vwCl (kModel G q0 v0) H → va_D A (kModel G q0 v0) → va_S A s.heap H locs → lz1 (f_X13_kindHere_B12 x_12 v0 x_13 selfL_14) n x_15 = some (r, v0') → W p l e rm_X13_kindHere s m args below meth c H locs 0 0 Q0 (F0 m 12 ls []) := by
          intro n
          induction n with
          | zero => intro x_15 H locs ls hl hP hD hS hf; cases hf
          | succ n ihL_16 =>
            intro x_15 H locs ls hl hP hD hS hf
            replace hf := lz1_s hf
            unfold f_X13_kindHere_B12 at hf
            refine lv_iload_n hx hb dX13_kindHere_12 rfl (lv_at hl 1 rfl) ?_
            refine lv_iload_n hx hb dX13_kindHere_13 rfl (lv_at hl 0 rfl) ?_
            obtain ⟨r_17, hc, hf⟩ := bd1_of hf
            refine k_S (As := [.int x_12, .int x_15]) (rest := []) (ws1 := (kModel G q0 v0)) ⟨hx, hb, hml, hown, hts⟩ (c_X13_letter l D G  x_12 x_15  _ hc  _) (va_cwS 2 hts gX13_kindHere_X13_letter rfl rfl rfl (by decide +kernel) ⟨Nat.le_of_ble_eq_true rfl, Nat.le_of_ble_eq_true rfl⟩) hl.1 (Nat.le_of_ble_eq_true rfl) dX13_kindHere_14 ⟨Nat.le_of_ble_eq_true rfl, Nat.le_of_ble_eq_true rfl⟩ rfl kT_bl (fun _ _ _ => trivial) hN hK hP hD hS hA [] [0, 1, 2, 3, 4, 5, 6, 7, 8, 9, 10, 11] [0, 1, 2, 3, 4, 5, 6, 7, 8, 9, 10, 11] [0, 1, 2, 3] rfl rfl rfl ⟨by decide, by decide, by decide, by decide⟩ rfl (fun H locs hP hD hS => ?_)
            refine lv_if_le (tgt := 58) hx hb dX13_kindHere_17 (by decide) (fun cc => ?_) (fun cc => ?_)
            · replace hf := ifT cc hf
              exact exL_16 x_15 _ _ _ (lv_sub hl [0, 1, 2, 3] rfl) hP hD hS hf
            · replace hf := ifF cc hf
              refine lv_aload_n hx hb dX13_kindHere_20 rfl (lv_at hl 3 rfl) ?_
              refine va_get (D := D) (ci := 11) (v := .int (v0.1 12)) (C := RX13) (T := TX13) (N := 27) hx hb hts hi11 hown hK hP 0 rfl rfl 23 (by decide) hw1 (fun _ h9 => h9) rfl dX13_kindHere_21 ?_
              refine lv_iload_n hx hb dX13_kindHere_24 rfl (lv_at hl 0 rfl) ?_
              refine lv_iadd hx hb dX13_kindHere_25 ?_
              refine lv_aload_n hx hb dX13_kindHere_26 rfl (lv_at hl 3 rfl) ?_
              refine va_get (D := D) (ci := 11) (v := .int (v0.1 11)) (C := RX13) (T := TX13) (N := 27) hx hb hts hi11 hown hK hP 0 rfl rfl 22 (by decide) hw2 (fun _ h9 => h9) rfl dX13_kindHere_27 ?_
              refine lv_icmp_ge (tgt := 58) hx hb dX13_kindHere_30 (by decide) (fun cc => ?_) (fun cc => ?_)
              · replace hf := ifT cc hf
                exact exL_16 x_15 _ _ _ (lv_sub hl [0, 1, 2, 3] rfl) hP hD hS hf
              · replace hf := ifF cc hf
                refine lv_aload_n hx hb dX13_kindHere_33 rfl (lv_at hl 3 rfl) ?_
                refine va_get (D := D) (ci := 11) (v := .ref (q0 9)) (C := RX13) (T := TX13) (N := 27) hx hb hts hi11 hown hK hP 0 rfl rfl 18 (by decide) hw3 (fun _ h9 => h9) rfl dX13_kindHere_34 ?_
                refine lv_aload_n hx hb dX13_kindHere_37 rfl (lv_at hl 3 rfl) ?_
                refine va_get (D := D) (ci := 11) (v := .int (v0.1 12)) (C := RX13) (T := TX13) (N := 27) hx hb hts hi11 hown hK hP 0 rfl rfl 23 (by decide) hw1 (fun _ h9 => h9) rfl dX13_kindHere_38 ?_
                refine lv_iload_n hx hb dX13_kindHere_41 rfl (lv_at hl 0 rfl) ?_
                refine lv_iadd hx hb dX13_kindHere_42 ?_
                obtain ⟨hin, hf⟩ := ckI_of hf
                refine va_iald (D := D) hx hb hK hP 9 0 rfl rfl hin dX13_kindHere_43 ?_
                refine lv_iload_n hx hb dX13_kindHere_44 rfl (lv_at hl 1 rfl) ?_
                refine lv_iload_n hx hb dX13_kindHere_45 rfl (lv_at hl 0 rfl) ?_
                obtain ⟨r_18, hc, hf⟩ := bd1_of hf
                refine k_S (As := [.int x_12, .int x_15]) (rest := [.int (v0.2 8 ((v0.1 12) + x_15).toNatClampNeg)]) (ws1 := (kModel G q0 v0)) ⟨hx, hb, hml, hown, hts⟩ (c_X13_letter l D G  x_12 x_15  _ hc  _) (va_cwS 2 hts gX13_kindHere_X13_letter rfl rfl rfl (by decide +kernel) ⟨Nat.le_of_ble_eq_true rfl, Nat.le_of_ble_eq_true rfl⟩) hl.1 (Nat.le_of_ble_eq_true rfl) dX13_kindHere_46 ⟨Nat.le_of_ble_eq_true rfl, Nat.le_of_ble_eq_true rfl⟩ rfl kT_bl (fun _ _ _ => trivial) hN hK hP hD hS hA [] [0, 1, 2, 3, 4, 5, 6, 7, 8, 9, 10, 11] [0, 1, 2, 3, 4, 5, 6, 7, 8, 9, 10, 11] [0, 1, 2, 3] rfl rfl rfl ⟨by decide, by decide, by decide, by decide⟩ rfl (fun H locs hP hD hS => ?_)
                refine lv_icmp_ne (tgt := 58) hx hb dX13_kindHere_49 (by decide) (fun cc => ?_) (fun cc => ?_)
                · replace hf := ifF cc hf
                  exact exL_16 x_15 _ _ _ (lv_sub hl [0, 1, 2, 3] rfl) hP hD hS hf
                · replace hf := ifT cc hf
                  refine lv_iinc (v := (x_15 + 1)) (lv' := [(3, .int (x_15 + 1)), (2, .int x_12), (1, .int x_13), (0, .ref (q0 0))]) hx hb dX13_kindHere_52 hl (k := 0) rfl rfl (by decide) rfl (fun ls hl => ?_)
                  refine lv_goto (tgt := 12) hx hb dX13_kindHere_55 (by decide) ?_
                  exact ihL_16 (x_15 + 1) _ _ _ (lv_sub hl [0, 1, 2, 3] rfl) hP hD hS hf
        exact loL_16 FU 0 _ _ _ hl hP hD hS hf
  exact loL_14 FU 0 0 _ _ _ hl hP hD hS hf
