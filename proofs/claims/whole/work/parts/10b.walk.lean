/-! Walks, laid by wip/whole/gen.py: for each method f_ (what it does to its world) and c_ (its contract). -/
def f_X4_becomeNew (v0 : SV) : Option SV :=
  bd1 (f_J7_fill_53178 0 144 (v0.2 5)) fun w_1 =>
  nm (pR v0 5 w_1) fun v_2 =>
  bd1 (f_J7_fill_53178 0 12 (v_2.2 6)) fun w_3 =>
  nm (pR v_2 6 w_3) fun v_4 =>
  some v_4
abbrev rm_X4_becomeNew : Room := { frames := 1, cells := 0, slots := 0, locals := 23 }
set_option maxHeartbeats 4000000 in
set_option maxRecDepth 100000 in
theorem c_X4_becomeNew (l : Launch) (D : va_G) (G : Nat → ClassId) (q0 : Nat → Nat) (v0 : SV) (v0' : SV) (hf : f_X4_becomeNew v0 = some v0') (sz : Nat) : mC l yX4_becomeNew wsX4_becomeNew rm_X4_becomeNew D (tyG G) kT [.ref (q0 7)] (kGreet G q0 v0) (kGreet G q0 v0') sz none 0 0 := by
  refine mC_ofV (cc := cX4_becomeNew) (maxL := 1) (ret := none) (by decide) rfl rfl (Nat.le_of_ble_eq_true rfl) ?_
  intro p e s m args below meth c Q0 hx hb hml hts hown hN hK A hD hA hE hP hS hJ ls hl
  have hl : lv_has ls 1 [(0, .ref (q0 7))] := hl
  unfold f_X4_becomeNew at hf
  have hi2 : ∀ w ∈ u_ws RX4 TX4 2, w ∈ wsX4_becomeNew := by decide +kernel
  have hw1 := hts (.fieldLink RX4 9 "BalconyCensus$Greetings" "counts" "[I") (by decide +kernel)
  have hw2 := hts (.fieldLink RX4 15 "BalconyCensus$Greetings" "today" "[I") (by decide +kernel)
  refine lv_aload_n hx hb dX4_becomeNew_0 rfl (lv_at hl 0 rfl) ?_
  refine va_get (D := D) (ci := 2) (v := .ref (q0 8)) (C := RX4) (T := TX4) (N := 2) hx hb hts hi2 hown hK hP 0 rfl rfl 0 (by decide) hw1 (fun _ h9 => h9) rfl dX4_becomeNew_1 ?_
  refine lv_iconst (v := 0) hx hb dX4_becomeNew_4 (by decide) ?_
  obtain ⟨w_1, hc, hf⟩ := bd1_of hf
  refine k_S (As := [.ref (q0 8), .int 0]) (rest := []) (ws1 := (kGreet G q0 (pR v0 5 w_1))) ⟨hx, hb, hml, hown, hts⟩ (c_J7_fill_53178 l D G (q0 8) 144 0 (v0.2 5) _ hc  _) (va_cwS 2 hts gX4_becomeNew_J7_fill_53178 rfl rfl rfl (by decide +kernel) ⟨Nat.le_of_ble_eq_true rfl, Nat.le_of_ble_eq_true rfl⟩) hl.1 (Nat.le_of_ble_eq_true rfl) dX4_becomeNew_5 ⟨Nat.le_of_ble_eq_true rfl, Nat.le_of_ble_eq_true rfl⟩ rfl kT_bl (fun _ _ _ => trivial) hN hK hP hD hS hA [1] [0, 2] [0, 2, 1] [0, 1, 2, 3] rfl rfl rfl ⟨by decide, by decide, by decide, by decide⟩ rfl (fun H locs hP hD hS => ?_)
  obtain ⟨v_2, ev_2, hf⟩ := nm_of hf
  have hP : va_P D vwCl (kGreet G q0 v_2) H := by rw [ev_2]; exact hP
  have hD : va_D A (kGreet G q0 v_2) := by rw [ev_2]; exact hD
  refine lv_aload_n hx hb dX4_becomeNew_8 rfl (lv_at hl 0 rfl) ?_
  refine va_get (D := D) (ci := 2) (v := .ref (q0 9)) (C := RX4) (T := TX4) (N := 2) hx hb hts hi2 hown hK hP 0 rfl rfl 1 (by decide) hw2 (fun _ h9 => h9) rfl dX4_becomeNew_9 ?_
  refine lv_iconst (v := 0) hx hb dX4_becomeNew_12 (by decide) ?_
  obtain ⟨w_3, hc, hf⟩ := bd1_of hf
  refine k_S (As := [.ref (q0 9), .int 0]) (rest := []) (ws1 := (kGreet G q0 (pR v_2 6 w_3))) ⟨hx, hb, hml, hown, hts⟩ (c_J7_fill_53178 l D G (q0 9) 12 0 (v_2.2 6) _ hc  _) (va_cwS 2 hts gX4_becomeNew_J7_fill_53178 rfl rfl rfl (by decide +kernel) ⟨Nat.le_of_ble_eq_true rfl, Nat.le_of_ble_eq_true rfl⟩) hl.1 (Nat.le_of_ble_eq_true rfl) dX4_becomeNew_13 ⟨Nat.le_of_ble_eq_true rfl, Nat.le_of_ble_eq_true rfl⟩ rfl kT_bl (fun _ _ _ => trivial) hN hK hP hD hS hA [2] [0, 1] [0, 1, 2] [0, 1, 2, 3] rfl rfl rfl ⟨by decide, by decide, by decide, by decide⟩ rfl (fun H locs hP hD hS => ?_)
  obtain ⟨v_4, ev_4, hf⟩ := nm_of hf
  have hP : va_P D vwCl (kGreet G q0 v_4) H := by rw [ev_4]; exact hP
  have hD : va_D A (kGreet G q0 v_4) := by rw [ev_4]; exact hD
  obtain rfl := re1 hf
  exact hE hP hD hS dX4_becomeNew_16
def f_X4_take (v0 : SV) (v1 : SV) : Option SV :=
  nm (pR v0 5 (va_cpy (v1.2 5) (v0.2 5) (0 : Int32).toNatClampNeg (0 : Int32).toNatClampNeg (144 : Int32).toNatClampNeg)) fun v_1 =>
  nm (pR v_1 6 (va_cpy (v1.2 6) (v_1.2 6) (0 : Int32).toNatClampNeg (0 : Int32).toNatClampNeg (12 : Int32).toNatClampNeg)) fun v_2 =>
  some v_2
abbrev rm_X4_take : Room := { frames := 1, cells := 0, slots := 0, locals := 18 }
set_option maxHeartbeats 4000000 in
set_option maxRecDepth 100000 in
theorem c_X4_take (l : Launch) (D : va_G) (G : Nat → ClassId) (q0 : Nat → Nat) (q1 : Nat → Nat) (v0 : SV) (v1 : SV) (v0' : SV) (hf : f_X4_take v0 v1 = some v0') (sz : Nat) : mC l yX4_take wsX4_take rm_X4_take D (tyG G) kT [.ref (q0 7), .ref (q1 7)] (kGreet G q0 v0 ++ kGreet G q1 v1) (kGreet G q0 v0' ++ kGreet G q1 v1) sz none 0 0 := by
  refine mC_ofV (cc := cX4_take) (maxL := 2) (ret := none) (by decide) rfl rfl (Nat.le_of_ble_eq_true rfl) ?_
  intro p e s m args below meth c Q0 hx hb hml hts hown hN hK A hD hA hE hP hS hJ ls hl
  have hl : lv_has ls 2 [(0, .ref (q0 7)), (1, .ref (q1 7))] := hl
  unfold f_X4_take at hf
  have hi2 : ∀ w ∈ u_ws RX4 TX4 2, w ∈ wsX4_take := by decide +kernel
  have hw1 := hts (.fieldLink RX4 9 "BalconyCensus$Greetings" "counts" "[I") (by decide +kernel)
  have hw2 := hts (.methodLink RX4 24 arraycopyName) (by decide +kernel)
  have hw3 := hts (.native arraycopyName) (by decide +kernel)
  have hw4 := hts (.static arraycopyName) (by decide +kernel)
  have hw5 := hts (.initialized "java/lang/System") (by decide +kernel)
  have hw6 := hts (.fieldLink RX4 15 "BalconyCensus$Greetings" "today" "[I") (by decide +kernel)
  refine lv_aload_n hx hb dX4_take_0 rfl (lv_at hl 1 rfl) ?_
  refine va_get (D := D) (ci := 2) (v := .ref (q1 8)) (C := RX4) (T := TX4) (N := 2) hx hb hts hi2 hown hK hP 3 rfl rfl 0 (by decide) hw1 (fun _ h9 => h9) rfl dX4_take_1 ?_
  refine lv_iconst (v := 0) hx hb dX4_take_4 (by decide) ?_
  refine lv_aload_n hx hb dX4_take_5 rfl (lv_at hl 0 rfl) ?_
  refine va_get (D := D) (ci := 2) (v := .ref (q0 8)) (C := RX4) (T := TX4) (N := 2) hx hb hts hi2 hown hK hP 0 rfl rfl 0 (by decide) hw1 (fun _ h9 => h9) rfl dX4_take_6 ?_
  refine lv_iconst (v := 0) hx hb dX4_take_9 (by decide) ?_
  refine lv_sipush (v := 144) hx hb dX4_take_10 (by decide +kernel) ?_
  obtain ⟨v_1, ev_1, hf⟩ := nm_of hf
  refine va_copyi (D := D) (ty := .int) (c0 := G 0) (c1 := G 0) hx hb (hml.trans hl.1.symm) hown hw2 hw3 hw4 hw5 hK hP hD hS 4 1 0 0 rfl rfl rfl rfl rfl (by decide) (by decide) (by decide) (by decide) (by decide) (fun _ _ => rfl) (Nat.le_of_ble_eq_true rfl) (Nat.le_of_ble_eq_true rfl) dX4_take_13 (fun H locs hP hD hS => ?_)
  have hP : va_P D vwCl (kGreet G q0 v_1 ++ kGreet G q1 v1) H := by rw [ev_1]; exact hP
  have hD : va_D A (kGreet G q0 v_1 ++ kGreet G q1 v1) := by rw [ev_1]; exact hD
  refine lv_aload_n hx hb dX4_take_16 rfl (lv_at hl 1 rfl) ?_
  refine va_get (D := D) (ci := 2) (v := .ref (q1 9)) (C := RX4) (T := TX4) (N := 2) hx hb hts hi2 hown hK hP 3 rfl rfl 1 (by decide) hw6 (fun _ h9 => h9) rfl dX4_take_17 ?_
  refine lv_iconst (v := 0) hx hb dX4_take_20 (by decide) ?_
  refine lv_aload_n hx hb dX4_take_21 rfl (lv_at hl 0 rfl) ?_
  refine va_get (D := D) (ci := 2) (v := .ref (q0 9)) (C := RX4) (T := TX4) (N := 2) hx hb hts hi2 hown hK hP 0 rfl rfl 1 (by decide) hw6 (fun _ h9 => h9) rfl dX4_take_22 ?_
  refine lv_iconst (v := 0) hx hb dX4_take_25 (by decide) ?_
  refine lv_bipush (v := 12) hx hb dX4_take_26 (by decide +kernel) ?_
  obtain ⟨v_2, ev_2, hf⟩ := nm_of hf
  refine va_copyi (D := D) (ty := .int) (c0 := G 0) (c1 := G 0) hx hb (hml.trans hl.1.symm) hown hw2 hw3 hw4 hw5 hK hP hD hS 5 2 0 0 rfl rfl rfl rfl rfl (by decide) (by decide) (by decide) (by decide) (by decide) (fun _ _ => rfl) (Nat.le_of_ble_eq_true rfl) (Nat.le_of_ble_eq_true rfl) dX4_take_28 (fun H locs hP hD hS => ?_)
  have hP : va_P D vwCl (kGreet G q0 v_2 ++ kGreet G q1 v1) H := by rw [ev_2]; exact hP
  have hD : va_D A (kGreet G q0 v_2 ++ kGreet G q1 v1) := by rw [ev_2]; exact hD
  obtain rfl := re1 hf
  exact hE hP hD hS dX4_take_31
def f_X4_countOf (a1 : Int32) (a2 : Int32) (v0 : SV) : Option Int32 :=
  ckI ((a1 * 12) + a2) 144 <|
  some (v0.2 5 ((a1 * 12) + a2).toNatClampNeg)
abbrev rm_X4_countOf : Room := { frames := 0, cells := 0, slots := 0, locals := 0 }
set_option maxHeartbeats 4000000 in
set_option maxRecDepth 100000 in
theorem c_X4_countOf (l : Launch) (D : va_G) (G : Nat → ClassId) (q0 : Nat → Nat) (a1 : Int32) (a2 : Int32) (v0 : SV) (r : Int32) (hf : f_X4_countOf a1 a2 v0 = some r) (sz : Nat) : mC l yX4_countOf wsX4_countOf rm_X4_countOf D (tyG G) kT [.ref (q0 7), .int a1, .int a2] (kGreet G q0 v0) (kGreet G q0 v0) sz (some (.int r)) 0 0 := by
  refine mC_ofI (cc := cX4_countOf) (maxL := 3) (ret := (some .int)) (by decide) rfl rfl (Nat.le_of_ble_eq_true rfl) ?_
  intro p e s m args below meth c Q0 hx hb hml hts hown hN hK A hD hA hE hP hS hJ ls hl
  have hl : lv_has ls 3 [(0, .ref (q0 7)), (1, .int a1), (2, .int a2)] := hl
  unfold f_X4_countOf at hf
  have hi2 : ∀ w ∈ u_ws RX4 TX4 2, w ∈ wsX4_countOf := by decide +kernel
  have hw1 := hts (.fieldLink RX4 9 "BalconyCensus$Greetings" "counts" "[I") (by decide +kernel)
  refine lv_aload_n hx hb dX4_countOf_0 rfl (lv_at hl 0 rfl) ?_
  refine va_get (D := D) (ci := 2) (v := .ref (q0 8)) (C := RX4) (T := TX4) (N := 2) hx hb hts hi2 hown hK hP 0 rfl rfl 0 (by decide) hw1 (fun _ h9 => h9) rfl dX4_countOf_1 ?_
  refine lv_iload_n hx hb dX4_countOf_4 rfl (lv_at hl 1 rfl) ?_
  refine lv_bipush (v := 12) hx hb dX4_countOf_5 (by decide +kernel) ?_
  refine lv_imul hx hb dX4_countOf_7 ?_
  refine lv_iload_n hx hb dX4_countOf_8 rfl (lv_at hl 2 rfl) ?_
  refine lv_iadd hx hb dX4_countOf_9 ?_
  obtain ⟨hin, hf⟩ := ckI_of hf
  refine va_iald (D := D) hx hb hK hP 1 0 rfl rfl hin dX4_countOf_10 ?_
  obtain rfl := re1 hf
  exact hE hP hD hS dX4_countOf_11
def f_X4_isToday (a1 : Int32) (a2 : Int32) (v0 : SV) : Option Int32 :=
  ckI a1 12 <|
  if (((v0.2 6 a1.toNatClampNeg) >>> (a2 &&& 31)) &&& 1) = 1 then
    some 1
  else
    some 0
abbrev rm_X4_isToday : Room := { frames := 0, cells := 0, slots := 0, locals := 0 }
set_option maxHeartbeats 4000000 in
set_option maxRecDepth 100000 in
theorem c_X4_isToday (l : Launch) (D : va_G) (G : Nat → ClassId) (q0 : Nat → Nat) (a1 : Int32) (a2 : Int32) (v0 : SV) (r : Int32) (hf : f_X4_isToday a1 a2 v0 = some r) (sz : Nat) : mC l yX4_isToday wsX4_isToday rm_X4_isToday D (tyG G) kT [.ref (q0 7), .int a1, .int a2] (kGreet G q0 v0) (kGreet G q0 v0) sz (some (.int r)) 0 0 := by
  refine mC_ofZ (cc := cX4_isToday) (maxL := 3) (ret := (some .boolean)) (by decide) rfl rfl (Nat.le_of_ble_eq_true rfl) ?_
  intro p e s m args below meth c Q0 hx hb hml hts hown hN hK A hD hA hE hP hS hJ ls hl
  have hl : lv_has ls 3 [(0, .ref (q0 7)), (1, .int a1), (2, .int a2)] := hl
  unfold f_X4_isToday at hf
  have hi2 : ∀ w ∈ u_ws RX4 TX4 2, w ∈ wsX4_isToday := by decide +kernel
  have hw1 := hts (.fieldLink RX4 15 "BalconyCensus$Greetings" "today" "[I") (by decide +kernel)
  refine lv_aload_n hx hb dX4_isToday_0 rfl (lv_at hl 0 rfl) ?_
  refine va_get (D := D) (ci := 2) (v := .ref (q0 9)) (C := RX4) (T := TX4) (N := 2) hx hb hts hi2 hown hK hP 0 rfl rfl 1 (by decide) hw1 (fun _ h9 => h9) rfl dX4_isToday_1 ?_
  refine lv_iload_n hx hb dX4_isToday_4 rfl (lv_at hl 1 rfl) ?_
  obtain ⟨hin, hf⟩ := ckI_of hf
  refine va_iald (D := D) hx hb hK hP 2 0 rfl rfl hin dX4_isToday_5 ?_
  refine lv_iload_n hx hb dX4_isToday_6 rfl (lv_at hl 2 rfl) ?_
  refine lv_ishr hx hb dX4_isToday_7 ?_
  refine lv_iconst (v := 1) hx hb dX4_isToday_8 (by decide) ?_
  refine lv_iand hx hb dX4_isToday_9 ?_
  refine lv_iconst (v := 1) hx hb dX4_isToday_10 (by decide) ?_
  refine lv_icmp_ne (tgt := 18) hx hb dX4_isToday_11 (by decide) (fun cc => ?_) (fun cc => ?_)
  · replace hf := ifF cc hf
    refine lv_iconst (v := 0) hx hb dX4_isToday_18 (by decide) ?_
    obtain rfl := re1 hf
    exact hE (.inl rfl) hP hD hS dX4_isToday_19
  · replace hf := ifT cc hf
    refine lv_iconst (v := 1) hx hb dX4_isToday_14 (by decide) ?_
    refine lv_goto (tgt := 19) hx hb dX4_isToday_15 (by decide) ?_
    obtain rfl := re1 hf
    exact hE (.inr rfl) hP hD hS dX4_isToday_19
def f_X4_add (a1 : Int32) (a2 : Int32) (v0 : SV) : Option (Int32 × SV) :=
  ckI ((a1 * 12) + a2) 144 <|
  ckI ((a1 * 12) + a2) 144 <|
  nm (pA v0 5 ((a1 * 12) + a2) ((v0.2 5 ((a1 * 12) + a2).toNatClampNeg) + 1)) fun v_1 =>
  ckI a1 12 <|
  ckI a1 12 <|
  nm (pA v_1 6 a1 ((v_1.2 6 a1.toNatClampNeg) ||| (1 <<< (a2 &&& 31)))) fun v_2 =>
  bd1 (f_X4_countOf a1 a2 v_2) fun r_3 =>
  some (r_3, v_2)
abbrev rm_X4_add : Room := { frames := 1, cells := 0, slots := 0, locals := 22 }
set_option maxHeartbeats 4000000 in
set_option maxRecDepth 100000 in
theorem c_X4_add (l : Launch) (D : va_G) (G : Nat → ClassId) (q0 : Nat → Nat) (a1 : Int32) (a2 : Int32) (v0 : SV) (r : Int32) (v0' : SV) (hf : f_X4_add a1 a2 v0 = some (r, v0')) (sz : Nat) : mC l yX4_add wsX4_add rm_X4_add D (tyG G) kT [.ref (q0 7), .int a1, .int a2] (kGreet G q0 v0) (kGreet G q0 v0') sz (some (.int r)) 0 0 := by
  refine mC_ofI (cc := cX4_add) (maxL := 3) (ret := (some .int)) (by decide) rfl rfl (Nat.le_of_ble_eq_true rfl) ?_
  intro p e s m args below meth c Q0 hx hb hml hts hown hN hK A hD hA hE hP hS hJ ls hl
  have hl : lv_has ls 3 [(0, .ref (q0 7)), (1, .int a1), (2, .int a2)] := hl
  unfold f_X4_add at hf
  have hi2 : ∀ w ∈ u_ws RX4 TX4 2, w ∈ wsX4_add := by decide +kernel
  have hw1 := hts (.fieldLink RX4 9 "BalconyCensus$Greetings" "counts" "[I") (by decide +kernel)
  have hw2 := hts (.fieldLink RX4 15 "BalconyCensus$Greetings" "today" "[I") (by decide +kernel)
  refine lv_aload_n hx hb dX4_add_0 rfl (lv_at hl 0 rfl) ?_
  refine va_get (D := D) (ci := 2) (v := .ref (q0 8)) (C := RX4) (T := TX4) (N := 2) hx hb hts hi2 hown hK hP 0 rfl rfl 0 (by decide) hw1 (fun _ h9 => h9) rfl dX4_add_1 ?_
  refine lv_iload_n hx hb dX4_add_4 rfl (lv_at hl 1 rfl) ?_
  refine lv_bipush (v := 12) hx hb dX4_add_5 (by decide +kernel) ?_
  refine lv_imul hx hb dX4_add_7 ?_
  refine lv_iload_n hx hb dX4_add_8 rfl (lv_at hl 2 rfl) ?_
  refine lv_iadd hx hb dX4_add_9 ?_
  refine lv_dup2_11 hx hb dX4_add_10 rfl rfl ?_
  obtain ⟨hin, hf⟩ := ckI_of hf
  refine va_iald (D := D) hx hb hK hP 1 0 rfl rfl hin dX4_add_11 ?_
  refine lv_iconst (v := 1) hx hb dX4_add_12 (by decide) ?_
  refine lv_iadd hx hb dX4_add_13 ?_
  obtain ⟨hin, hf⟩ := ckI_of hf
  obtain ⟨v_1, ev_1, hf⟩ := nm_of hf
  refine va_iast (D := D) hx hb hK hP hD hS 1 0 rfl rfl hin dX4_add_14 (fun H locs hP hD hS => ?_)
  have hP : va_P D vwCl (kGreet G q0 v_1) H := by rw [ev_1]; exact hP
  have hD : va_D A (kGreet G q0 v_1) := by rw [ev_1]; exact hD
  refine lv_aload_n hx hb dX4_add_15 rfl (lv_at hl 0 rfl) ?_
  refine va_get (D := D) (ci := 2) (v := .ref (q0 9)) (C := RX4) (T := TX4) (N := 2) hx hb hts hi2 hown hK hP 0 rfl rfl 1 (by decide) hw2 (fun _ h9 => h9) rfl dX4_add_16 ?_
  refine lv_iload_n hx hb dX4_add_19 rfl (lv_at hl 1 rfl) ?_
  refine lv_dup2_11 hx hb dX4_add_20 rfl rfl ?_
  obtain ⟨hin, hf⟩ := ckI_of hf
  refine va_iald (D := D) hx hb hK hP 2 0 rfl rfl hin dX4_add_21 ?_
  refine lv_iconst (v := 1) hx hb dX4_add_22 (by decide) ?_
  refine lv_iload_n hx hb dX4_add_23 rfl (lv_at hl 2 rfl) ?_
  refine lv_ishl hx hb dX4_add_24 ?_
  refine lv_ior hx hb dX4_add_25 ?_
  obtain ⟨hin, hf⟩ := ckI_of hf
  obtain ⟨v_2, ev_2, hf⟩ := nm_of hf
  refine va_iast (D := D) hx hb hK hP hD hS 2 0 rfl rfl hin dX4_add_26 (fun H locs hP hD hS => ?_)
  have hP : va_P D vwCl (kGreet G q0 v_2) H := by rw [ev_2]; exact hP
  have hD : va_D A (kGreet G q0 v_2) := by rw [ev_2]; exact hD
  refine lv_aload_n hx hb dX4_add_27 rfl (lv_at hl 0 rfl) ?_
  refine lv_iload_n hx hb dX4_add_28 rfl (lv_at hl 1 rfl) ?_
  refine lv_iload_n hx hb dX4_add_29 rfl (lv_at hl 2 rfl) ?_
  obtain ⟨r_3, hc, hf⟩ := bd1_of hf
  refine k_V (As := [.int a1, .int a2]) (rest := []) (ws1 := (kGreet G q0 v_2)) ⟨hx, hb, hml, hown, hts⟩ (c_X4_countOf l D G q0 a1 a2 v_2 _ hc  _) (cwV 2 hts gX4_add_X4_countOf rfl rfl rfl (by decide +kernel) ⟨Nat.le_of_ble_eq_true rfl, Nat.le_of_ble_eq_true rfl⟩) hl.1 (Nat.le_of_ble_eq_true rfl) dX4_add_30 ⟨Nat.le_of_ble_eq_true rfl, Nat.le_of_ble_eq_true rfl⟩ rfl kT_bl (fun _ _ _ => trivial) hN hK hP hD hS hA 0 2 rfl rfl rfl [0, 1, 2] [] [0, 1, 2] [0, 1, 2, 3] rfl rfl rfl ⟨by decide, by decide, by decide, by decide⟩ rfl (fun H locs hP hD hS => ?_)
  obtain ⟨rfl, rfl⟩ := re2 hf
  exact hE hP hD hS dX4_add_33
def f_X4_passDay (v0 : SV) : Option SV :=
  bd1 (f_J7_fill_53178 0 12 (v0.2 6)) fun w_1 =>
  nm (pR v0 6 w_1) fun v_2 =>
  some v_2
abbrev rm_X4_passDay : Room := { frames := 1, cells := 0, slots := 0, locals := 23 }
set_option maxHeartbeats 4000000 in
set_option maxRecDepth 100000 in
theorem c_X4_passDay (l : Launch) (D : va_G) (G : Nat → ClassId) (q0 : Nat → Nat) (v0 : SV) (v0' : SV) (hf : f_X4_passDay v0 = some v0') (sz : Nat) : mC l yX4_passDay wsX4_passDay rm_X4_passDay D (tyG G) kT [.ref (q0 7)] (kGreet G q0 v0) (kGreet G q0 v0') sz none 0 0 := by
  refine mC_ofV (cc := cX4_passDay) (maxL := 1) (ret := none) (by decide) rfl rfl (Nat.le_of_ble_eq_true rfl) ?_
  intro p e s m args below meth c Q0 hx hb hml hts hown hN hK A hD hA hE hP hS hJ ls hl
  have hl : lv_has ls 1 [(0, .ref (q0 7))] := hl
  unfold f_X4_passDay at hf
  have hi2 : ∀ w ∈ u_ws RX4 TX4 2, w ∈ wsX4_passDay := by decide +kernel
  have hw1 := hts (.fieldLink RX4 15 "BalconyCensus$Greetings" "today" "[I") (by decide +kernel)
  refine lv_aload_n hx hb dX4_passDay_0 rfl (lv_at hl 0 rfl) ?_
  refine va_get (D := D) (ci := 2) (v := .ref (q0 9)) (C := RX4) (T := TX4) (N := 2) hx hb hts hi2 hown hK hP 0 rfl rfl 1 (by decide) hw1 (fun _ h9 => h9) rfl dX4_passDay_1 ?_
  refine lv_iconst (v := 0) hx hb dX4_passDay_4 (by decide) ?_
  obtain ⟨w_1, hc, hf⟩ := bd1_of hf
  refine k_S (As := [.ref (q0 9), .int 0]) (rest := []) (ws1 := (kGreet G q0 (pR v0 6 w_1))) ⟨hx, hb, hml, hown, hts⟩ (c_J7_fill_53178 l D G (q0 9) 12 0 (v0.2 6) _ hc  _) (va_cwS 2 hts gX4_passDay_J7_fill_53178 rfl rfl rfl (by decide +kernel) ⟨Nat.le_of_ble_eq_true rfl, Nat.le_of_ble_eq_true rfl⟩) hl.1 (Nat.le_of_ble_eq_true rfl) dX4_passDay_5 ⟨Nat.le_of_ble_eq_true rfl, Nat.le_of_ble_eq_true rfl⟩ rfl kT_bl (fun _ _ _ => trivial) hN hK hP hD hS hA [2] [0, 1] [0, 1, 2] [0, 1, 2, 3] rfl rfl rfl ⟨by decide, by decide, by decide, by decide⟩ rfl (fun H locs hP hD hS => ?_)
  obtain ⟨v_2, ev_2, hf⟩ := nm_of hf
  have hP : va_P D vwCl (kGreet G q0 v_2) H := by rw [ev_2]; exact hP
  have hD : va_D A (kGreet G q0 v_2) := by rw [ev_2]; exact hD
  obtain rfl := re1 hf
  exact hE hP hD hS dX4_passDay_8
def f_X4_givenBy_K4 (y_7 : Int32) (y_8 : Int32) : Option Int32 :=
  some y_8
def f_X4_givenBy_B4 (a1 : Int32) (v0 : SV) (selfL_5 : (Int32 → Int32 → Option Int32)) (x_3 : Int32) (x_4 : Int32) : Option Int32 :=
  if 12 ≤ x_3 then
    f_X4_givenBy_K4 x_3 x_4
  else
    bd1 (f_X4_countOf a1 x_3 v0) fun r_6 =>
    selfL_5 (x_3 + 1) (x_4 + r_6)
def f_X4_givenBy (a1 : Int32) (v0 : SV) : Option Int32 :=
  lz2 (f_X4_givenBy_B4 a1 v0) FU 0 0
abbrev rm_X4_givenBy : Room := { frames := 1, cells := 0, slots := 0, locals := 22 }
set_option maxHeartbeats 4000000 in
set_option maxRecDepth 100000 in
theorem c_X4_givenBy (l : Launch) (D : va_G) (G : Nat → ClassId) (q0 : Nat → Nat) (a1 : Int32) (v0 : SV) (r : Int32) (hf : f_X4_givenBy a1 v0 = some r) (sz : Nat) : mC l yX4_givenBy wsX4_givenBy rm_X4_givenBy D (tyG G) kT [.ref (q0 7), .int a1] (kGreet G q0 v0) (kGreet G q0 v0) sz (some (.int r)) 0 0 := by
  refine mC_ofI (cc := cX4_givenBy) (maxL := 4) (ret := (some .int)) (by decide) rfl rfl (Nat.le_of_ble_eq_true rfl) ?_
  intro p e s m args below meth c Q0 hx hb hml hts hown hN hK A hD hA hE hP hS hJ ls hl
  have hl : lv_has ls 4 [(0, .ref (q0 7)), (1, .int a1)] := hl
  unfold f_X4_givenBy at hf
  refine lv_iconst (v := 0) hx hb dX4_givenBy_0 (by decide) ?_
  refine lv_istore_n (lv' := [(2, .int 0), (0, .ref (q0 7)), (1, .int a1)]) hx hb dX4_givenBy_1 rfl hl (by decide) rfl (fun ls hl => ?_)
  refine lv_iconst (v := 0) hx hb dX4_givenBy_2 (by decide) ?_
  refine lv_istore_n (lv' := [(3, .int 0), (2, .int 0), (0, .ref (q0 7)), (1, .int a1)]) hx hb dX4_givenBy_3 rfl hl (by decide) rfl (fun ls hl => ?_)
  have exL_5 : ∀ (y_7 : Int32) (y_8 : Int32) (H : Heap) (locs : List Loc) (ls : Array Slot), lv_has ls 4 [(3, .int y_7), (2, .int y_8), (0, .ref (q0 7)), (1, .int a1)] → va_P D vwCl (kGreet G q0 v0) H → va_D A (kGreet G q0 v0) → va_S A s.heap H locs → f_X4_givenBy_K4 y_7 y_8 = some r → W p l e rm_X4_givenBy s m args below meth c H locs 0 0 Q0 (F0 m 25 ls []) := by
    intro y_7 y_8 H locs ls hl hP hD hS hf
    unfold f_X4_givenBy_K4 at hf
    refine lv_iload_n hx hb dX4_givenBy_25 rfl (lv_at hl 1 rfl) ?_
    obtain rfl := re1 hf
    exact hE hP hD hS dX4_givenBy_26
  have loL_5 : ∀ (n : Nat) (x_3 : Int32) (x_4 : Int32) (H : Heap) (locs : List Loc) (ls : Array Slot), lv_has ls 4 [(3, .int x_3), (2, .int x_4), (0, .ref (q0 7)), (1, .int a1)] → va_P D vwCl (kGreet G q0 v0) H → va_D A (kGreet G q0 v0) → va_S A s.heap H locs → lz2 (f_X4_givenBy_B4 a1 v0) n x_3 x_4 = some r → W p l e rm_X4_givenBy s m args below meth c H locs 0 0 Q0 (F0 m 4 ls []) := by
    intro n
    induction n with
    | zero => intro x_3 x_4 H locs ls hl hP hD hS hf; cases hf
    | succ n ihL_5 =>
      intro x_3 x_4 H locs ls hl hP hD hS hf
      replace hf := lz2_s hf
      unfold f_X4_givenBy_B4 at hf
      refine lv_iload_n hx hb dX4_givenBy_4 rfl (lv_at hl 0 rfl) ?_
      refine lv_bipush (v := 12) hx hb dX4_givenBy_5 (by decide +kernel) ?_
      refine lv_icmp_ge (tgt := 25) hx hb dX4_givenBy_7 (by decide) (fun cc => ?_) (fun cc => ?_)
      · replace hf := ifT cc hf
        exact exL_5 x_3 x_4 _ _ _ (lv_sub hl [0, 1, 2, 3] rfl) hP hD hS hf
      · replace hf := ifF cc hf
        refine lv_iload_n hx hb dX4_givenBy_10 rfl (lv_at hl 1 rfl) ?_
        refine lv_aload_n hx hb dX4_givenBy_11 rfl (lv_at hl 2 rfl) ?_
        refine lv_iload_n hx hb dX4_givenBy_12 rfl (lv_at hl 3 rfl) ?_
        refine lv_iload_n hx hb dX4_givenBy_13 rfl (lv_at hl 0 rfl) ?_
        obtain ⟨r_6, hc, hf⟩ := bd1_of hf
        refine k_V (As := [.int a1, .int x_3]) (rest := [.int x_4]) (ws1 := (kGreet G q0 v0)) ⟨hx, hb, hml, hown, hts⟩ (c_X4_countOf l D G q0 a1 x_3 v0 _ hc  _) (cwV 2 hts gX4_givenBy_X4_countOf rfl rfl rfl (by decide +kernel) ⟨Nat.le_of_ble_eq_true rfl, Nat.le_of_ble_eq_true rfl⟩) hl.1 (Nat.le_of_ble_eq_true rfl) dX4_givenBy_14 ⟨Nat.le_of_ble_eq_true rfl, Nat.le_of_ble_eq_true rfl⟩ rfl kT_bl (fun _ _ _ => trivial) hN hK hP hD hS hA 0 2 rfl rfl rfl [0, 1, 2] [] [0, 1, 2] [0, 1, 2, 3] rfl rfl rfl ⟨by decide, by decide, by decide, by decide⟩ rfl (fun H locs hP hD hS => ?_)
        refine lv_iadd hx hb dX4_givenBy_17 ?_
        refine lv_istore_n (lv' := [(2, .int (x_4 + r_6)), (3, .int x_3), (0, .ref (q0 7)), (1, .int a1)]) hx hb dX4_givenBy_18 rfl hl (by decide) rfl (fun ls hl => ?_)
        refine lv_iinc (v := (x_3 + 1)) (lv' := [(3, .int (x_3 + 1)), (2, .int (x_4 + r_6)), (0, .ref (q0 7)), (1, .int a1)]) hx hb dX4_givenBy_19 hl (k := 1) rfl rfl (by decide) rfl (fun ls hl => ?_)
        refine lv_goto (tgt := 4) hx hb dX4_givenBy_22 (by decide) ?_
        exact ihL_5 (x_3 + 1) (x_4 + r_6) _ _ _ (lv_sub hl [0, 1, 2, 3] rfl) hP hD hS hf
  exact loL_5 FU 0 0 _ _ _ hl hP hD hS hf
def f_X4_gotBy_K4 (y_7 : Int32) (y_8 : Int32) : Option Int32 :=
  some y_8
def f_X4_gotBy_B4 (a1 : Int32) (v0 : SV) (selfL_5 : (Int32 → Int32 → Option Int32)) (x_3 : Int32) (x_4 : Int32) : Option Int32 :=
  if 12 ≤ x_3 then
    f_X4_gotBy_K4 x_3 x_4
  else
    bd1 (f_X4_countOf x_3 a1 v0) fun r_6 =>
    selfL_5 (x_3 + 1) (x_4 + r_6)
def f_X4_gotBy (a1 : Int32) (v0 : SV) : Option Int32 :=
  lz2 (f_X4_gotBy_B4 a1 v0) FU 0 0
abbrev rm_X4_gotBy : Room := { frames := 1, cells := 0, slots := 0, locals := 22 }
set_option maxHeartbeats 4000000 in
set_option maxRecDepth 100000 in
theorem c_X4_gotBy (l : Launch) (D : va_G) (G : Nat → ClassId) (q0 : Nat → Nat) (a1 : Int32) (v0 : SV) (r : Int32) (hf : f_X4_gotBy a1 v0 = some r) (sz : Nat) : mC l yX4_gotBy wsX4_gotBy rm_X4_gotBy D (tyG G) kT [.ref (q0 7), .int a1] (kGreet G q0 v0) (kGreet G q0 v0) sz (some (.int r)) 0 0 := by
  refine mC_ofI (cc := cX4_gotBy) (maxL := 4) (ret := (some .int)) (by decide) rfl rfl (Nat.le_of_ble_eq_true rfl) ?_
  intro p e s m args below meth c Q0 hx hb hml hts hown hN hK A hD hA hE hP hS hJ ls hl
  have hl : lv_has ls 4 [(0, .ref (q0 7)), (1, .int a1)] := hl
  unfold f_X4_gotBy at hf
  refine lv_iconst (v := 0) hx hb dX4_gotBy_0 (by decide) ?_
  refine lv_istore_n (lv' := [(2, .int 0), (0, .ref (q0 7)), (1, .int a1)]) hx hb dX4_gotBy_1 rfl hl (by decide) rfl (fun ls hl => ?_)
  refine lv_iconst (v := 0) hx hb dX4_gotBy_2 (by decide) ?_
  refine lv_istore_n (lv' := [(3, .int 0), (2, .int 0), (0, .ref (q0 7)), (1, .int a1)]) hx hb dX4_gotBy_3 rfl hl (by decide) rfl (fun ls hl => ?_)
  have exL_5 : ∀ (y_7 : Int32) (y_8 : Int32) (H : Heap) (locs : List Loc) (ls : Array Slot), lv_has ls 4 [(3, .int y_7), (2, .int y_8), (0, .ref (q0 7)), (1, .int a1)] → va_P D vwCl (kGreet G q0 v0) H → va_D A (kGreet G q0 v0) → va_S A s.heap H locs → f_X4_gotBy_K4 y_7 y_8 = some r → W p l e rm_X4_gotBy s m args below meth c H locs 0 0 Q0 (F0 m 25 ls []) := by
    intro y_7 y_8 H locs ls hl hP hD hS hf
    unfold f_X4_gotBy_K4 at hf
    refine lv_iload_n hx hb dX4_gotBy_25 rfl (lv_at hl 1 rfl) ?_
    obtain rfl := re1 hf
    exact hE hP hD hS dX4_gotBy_26
  have loL_5 : ∀ (n : Nat) (x_3 : Int32) (x_4 : Int32) (H : Heap) (locs : List Loc) (ls : Array Slot), lv_has ls 4 [(3, .int x_3), (2, .int x_4), (0, .ref (q0 7)), (1, .int a1)] → va_P D vwCl (kGreet G q0 v0) H → va_D A (kGreet G q0 v0) → va_S A s.heap H locs → lz2 (f_X4_gotBy_B4 a1 v0) n x_3 x_4 = some r → W p l e rm_X4_gotBy s m args below meth c H locs 0 0 Q0 (F0 m 4 ls []) := by
    intro n
    induction n with
    | zero => intro x_3 x_4 H locs ls hl hP hD hS hf; cases hf
    | succ n ihL_5 =>
      intro x_3 x_4 H locs ls hl hP hD hS hf
      replace hf := lz2_s hf
      unfold f_X4_gotBy_B4 at hf
      refine lv_iload_n hx hb dX4_gotBy_4 rfl (lv_at hl 0 rfl) ?_
      refine lv_bipush (v := 12) hx hb dX4_gotBy_5 (by decide +kernel) ?_
      refine lv_icmp_ge (tgt := 25) hx hb dX4_gotBy_7 (by decide) (fun cc => ?_) (fun cc => ?_)
      · replace hf := ifT cc hf
        exact exL_5 x_3 x_4 _ _ _ (lv_sub hl [0, 1, 2, 3] rfl) hP hD hS hf
      · replace hf := ifF cc hf
        refine lv_iload_n hx hb dX4_gotBy_10 rfl (lv_at hl 1 rfl) ?_
        refine lv_aload_n hx hb dX4_gotBy_11 rfl (lv_at hl 2 rfl) ?_
        refine lv_iload_n hx hb dX4_gotBy_12 rfl (lv_at hl 0 rfl) ?_
        refine lv_iload_n hx hb dX4_gotBy_13 rfl (lv_at hl 3 rfl) ?_
        obtain ⟨r_6, hc, hf⟩ := bd1_of hf
        refine k_V (As := [.int x_3, .int a1]) (rest := [.int x_4]) (ws1 := (kGreet G q0 v0)) ⟨hx, hb, hml, hown, hts⟩ (c_X4_countOf l D G q0 x_3 a1 v0 _ hc  _) (cwV 2 hts gX4_gotBy_X4_countOf rfl rfl rfl (by decide +kernel) ⟨Nat.le_of_ble_eq_true rfl, Nat.le_of_ble_eq_true rfl⟩) hl.1 (Nat.le_of_ble_eq_true rfl) dX4_gotBy_14 ⟨Nat.le_of_ble_eq_true rfl, Nat.le_of_ble_eq_true rfl⟩ rfl kT_bl (fun _ _ _ => trivial) hN hK hP hD hS hA 0 2 rfl rfl rfl [0, 1, 2] [] [0, 1, 2] [0, 1, 2, 3] rfl rfl rfl ⟨by decide, by decide, by decide, by decide⟩ rfl (fun H locs hP hD hS => ?_)
        refine lv_iadd hx hb dX4_gotBy_17 ?_
        refine lv_istore_n (lv' := [(2, .int (x_4 + r_6)), (3, .int x_3), (0, .ref (q0 7)), (1, .int a1)]) hx hb dX4_gotBy_18 rfl hl (by decide) rfl (fun ls hl => ?_)
        refine lv_iinc (v := (x_3 + 1)) (lv' := [(3, .int (x_3 + 1)), (2, .int (x_4 + r_6)), (0, .ref (q0 7)), (1, .int a1)]) hx hb dX4_gotBy_19 hl (k := 1) rfl rfl (by decide) rfl (fun ls hl => ?_)
        refine lv_goto (tgt := 4) hx hb dX4_gotBy_22 (by decide) ?_
        exact ihL_5 (x_3 + 1) (x_4 + r_6) _ _ _ (lv_sub hl [0, 1, 2, 3] rfl) hP hD hS hf
  exact loL_5 FU 0 0 _ _ _ hl hP hD hS hf
def f_X4_sumGiven_K4 (y_7 : Int32) (y_8 : Int32) : Option Int32 :=
  some y_8
def f_X4_sumGiven_B4 (v0 : SV) (selfL_5 : (Int32 → Int32 → Option Int32)) (x_3 : Int32) (x_4 : Int32) : Option Int32 :=
  if 12 ≤ x_3 then
    f_X4_sumGiven_K4 x_3 x_4
  else
    bd1 (f_X4_givenBy x_3 v0) fun r_6 =>
    selfL_5 (x_3 + 1) (x_4 + r_6)
def f_X4_sumGiven (v0 : SV) : Option Int32 :=
  lz2 (f_X4_sumGiven_B4 v0) FU 0 0
abbrev rm_X4_sumGiven : Room := { frames := 2, cells := 0, slots := 0, locals := 45 }
set_option maxHeartbeats 4000000 in
set_option maxRecDepth 100000 in
theorem c_X4_sumGiven (l : Launch) (D : va_G) (G : Nat → ClassId) (q0 : Nat → Nat) (v0 : SV) (r : Int32) (hf : f_X4_sumGiven v0 = some r) (sz : Nat) : mC l yX4_sumGiven wsX4_sumGiven rm_X4_sumGiven D (tyG G) kT [.ref (q0 7)] (kGreet G q0 v0) (kGreet G q0 v0) sz (some (.int r)) 0 0 := by
  refine mC_ofI (cc := cX4_sumGiven) (maxL := 3) (ret := (some .int)) (by decide) rfl rfl (Nat.le_of_ble_eq_true rfl) ?_
  intro p e s m args below meth c Q0 hx hb hml hts hown hN hK A hD hA hE hP hS hJ ls hl
  have hl : lv_has ls 3 [(0, .ref (q0 7))] := hl
  unfold f_X4_sumGiven at hf
  refine lv_iconst (v := 0) hx hb dX4_sumGiven_0 (by decide) ?_
  refine lv_istore_n (lv' := [(1, .int 0), (0, .ref (q0 7))]) hx hb dX4_sumGiven_1 rfl hl (by decide) rfl (fun ls hl => ?_)
  refine lv_iconst (v := 0) hx hb dX4_sumGiven_2 (by decide) ?_
  refine lv_istore_n (lv' := [(2, .int 0), (1, .int 0), (0, .ref (q0 7))]) hx hb dX4_sumGiven_3 rfl hl (by decide) rfl (fun ls hl => ?_)
  have exL_5 : ∀ (y_7 : Int32) (y_8 : Int32) (H : Heap) (locs : List Loc) (ls : Array Slot), lv_has ls 3 [(2, .int y_7), (1, .int y_8), (0, .ref (q0 7))] → va_P D vwCl (kGreet G q0 v0) H → va_D A (kGreet G q0 v0) → va_S A s.heap H locs → f_X4_sumGiven_K4 y_7 y_8 = some r → W p l e rm_X4_sumGiven s m args below meth c H locs 0 0 Q0 (F0 m 24 ls []) := by
    intro y_7 y_8 H locs ls hl hP hD hS hf
    unfold f_X4_sumGiven_K4 at hf
    refine lv_iload_n hx hb dX4_sumGiven_24 rfl (lv_at hl 1 rfl) ?_
    obtain rfl := re1 hf
    exact hE hP hD hS dX4_sumGiven_25
  have loL_5 : ∀ (n : Nat) (x_3 : Int32) (x_4 : Int32) (H : Heap) (locs : List Loc) (ls : Array Slot), lv_has ls 3 [(2, .int x_3), (1, .int x_4), (0, .ref (q0 7))] → va_P D vwCl (kGreet G q0 v0) H → va_D A (kGreet G q0 v0) → va_S A s.heap H locs → lz2 (f_X4_sumGiven_B4 v0) n x_3 x_4 = some r → W p l e rm_X4_sumGiven s m args below meth c H locs 0 0 Q0 (F0 m 4 ls []) := by
    intro n
    induction n with
    | zero => intro x_3 x_4 H locs ls hl hP hD hS hf; cases hf
    | succ n ihL_5 =>
      intro x_3 x_4 H locs ls hl hP hD hS hf
      replace hf := lz2_s hf
      unfold f_X4_sumGiven_B4 at hf
      refine lv_iload_n hx hb dX4_sumGiven_4 rfl (lv_at hl 0 rfl) ?_
      refine lv_bipush (v := 12) hx hb dX4_sumGiven_5 (by decide +kernel) ?_
      refine lv_icmp_ge (tgt := 24) hx hb dX4_sumGiven_7 (by decide) (fun cc => ?_) (fun cc => ?_)
      · replace hf := ifT cc hf
        exact exL_5 x_3 x_4 _ _ _ (lv_sub hl [0, 1, 2] rfl) hP hD hS hf
      · replace hf := ifF cc hf
        refine lv_iload_n hx hb dX4_sumGiven_10 rfl (lv_at hl 1 rfl) ?_
        refine lv_aload_n hx hb dX4_sumGiven_11 rfl (lv_at hl 2 rfl) ?_
        refine lv_iload_n hx hb dX4_sumGiven_12 rfl (lv_at hl 0 rfl) ?_
        obtain ⟨r_6, hc, hf⟩ := bd1_of hf
        refine k_V (As := [.int x_3]) (rest := [.int x_4]) (ws1 := (kGreet G q0 v0)) ⟨hx, hb, hml, hown, hts⟩ (c_X4_givenBy l D G q0 x_3 v0 _ hc  _) (cwV 1 hts gX4_sumGiven_X4_givenBy rfl rfl rfl (by decide +kernel) ⟨Nat.le_of_ble_eq_true rfl, Nat.le_of_ble_eq_true rfl⟩) hl.1 (Nat.le_of_ble_eq_true rfl) dX4_sumGiven_13 ⟨Nat.le_of_ble_eq_true rfl, Nat.le_of_ble_eq_true rfl⟩ rfl kT_bl (fun _ _ _ => trivial) hN hK hP hD hS hA 0 2 rfl rfl rfl [0, 1, 2] [] [0, 1, 2] [0, 1, 2, 3] rfl rfl rfl ⟨by decide, by decide, by decide, by decide⟩ rfl (fun H locs hP hD hS => ?_)
        refine lv_iadd hx hb dX4_sumGiven_16 ?_
        refine lv_istore_n (lv' := [(1, .int (x_4 + r_6)), (2, .int x_3), (0, .ref (q0 7))]) hx hb dX4_sumGiven_17 rfl hl (by decide) rfl (fun ls hl => ?_)
        refine lv_iinc (v := (x_3 + 1)) (lv' := [(2, .int (x_3 + 1)), (1, .int (x_4 + r_6)), (0, .ref (q0 7))]) hx hb dX4_sumGiven_18 hl (k := 1) rfl rfl (by decide) rfl (fun ls hl => ?_)
        refine lv_goto (tgt := 4) hx hb dX4_sumGiven_21 (by decide) ?_
        exact ihL_5 (x_3 + 1) (x_4 + r_6) _ _ _ (lv_sub hl [0, 1, 2] rfl) hP hD hS hf
  exact loL_5 FU 0 0 _ _ _ hl hP hD hS hf
def f_X4_sumGot_K4 (y_7 : Int32) (y_8 : Int32) : Option Int32 :=
  some y_8
def f_X4_sumGot_B4 (v0 : SV) (selfL_5 : (Int32 → Int32 → Option Int32)) (x_3 : Int32) (x_4 : Int32) : Option Int32 :=
  if 12 ≤ x_3 then
    f_X4_sumGot_K4 x_3 x_4
  else
    bd1 (f_X4_gotBy x_3 v0) fun r_6 =>
    selfL_5 (x_3 + 1) (x_4 + r_6)
def f_X4_sumGot (v0 : SV) : Option Int32 :=
  lz2 (f_X4_sumGot_B4 v0) FU 0 0
abbrev rm_X4_sumGot : Room := { frames := 2, cells := 0, slots := 0, locals := 45 }
set_option maxHeartbeats 4000000 in
set_option maxRecDepth 100000 in
theorem c_X4_sumGot (l : Launch) (D : va_G) (G : Nat → ClassId) (q0 : Nat → Nat) (v0 : SV) (r : Int32) (hf : f_X4_sumGot v0 = some r) (sz : Nat) : mC l yX4_sumGot wsX4_sumGot rm_X4_sumGot D (tyG G) kT [.ref (q0 7)] (kGreet G q0 v0) (kGreet G q0 v0) sz (some (.int r)) 0 0 := by
  refine mC_ofI (cc := cX4_sumGot) (maxL := 3) (ret := (some .int)) (by decide) rfl rfl (Nat.le_of_ble_eq_true rfl) ?_
  intro p e s m args below meth c Q0 hx hb hml hts hown hN hK A hD hA hE hP hS hJ ls hl
  have hl : lv_has ls 3 [(0, .ref (q0 7))] := hl
  unfold f_X4_sumGot at hf
  refine lv_iconst (v := 0) hx hb dX4_sumGot_0 (by decide) ?_
  refine lv_istore_n (lv' := [(1, .int 0), (0, .ref (q0 7))]) hx hb dX4_sumGot_1 rfl hl (by decide) rfl (fun ls hl => ?_)
  refine lv_iconst (v := 0) hx hb dX4_sumGot_2 (by decide) ?_
  refine lv_istore_n (lv' := [(2, .int 0), (1, .int 0), (0, .ref (q0 7))]) hx hb dX4_sumGot_3 rfl hl (by decide) rfl (fun ls hl => ?_)
  have exL_5 : ∀ (y_7 : Int32) (y_8 : Int32) (H : Heap) (locs : List Loc) (ls : Array Slot), lv_has ls 3 [(2, .int y_7), (1, .int y_8), (0, .ref (q0 7))] → va_P D vwCl (kGreet G q0 v0) H → va_D A (kGreet G q0 v0) → va_S A s.heap H locs → f_X4_sumGot_K4 y_7 y_8 = some r → W p l e rm_X4_sumGot s m args below meth c H locs 0 0 Q0 (F0 m 24 ls []) := by
    intro y_7 y_8 H locs ls hl hP hD hS hf
    unfold f_X4_sumGot_K4 at hf
    refine lv_iload_n hx hb dX4_sumGot_24 rfl (lv_at hl 1 rfl) ?_
    obtain rfl := re1 hf
    exact hE hP hD hS dX4_sumGot_25
  have loL_5 : ∀ (n : Nat) (x_3 : Int32) (x_4 : Int32) (H : Heap) (locs : List Loc) (ls : Array Slot), lv_has ls 3 [(2, .int x_3), (1, .int x_4), (0, .ref (q0 7))] → va_P D vwCl (kGreet G q0 v0) H → va_D A (kGreet G q0 v0) → va_S A s.heap H locs → lz2 (f_X4_sumGot_B4 v0) n x_3 x_4 = some r → W p l e rm_X4_sumGot s m args below meth c H locs 0 0 Q0 (F0 m 4 ls []) := by
    intro n
    induction n with
    | zero => intro x_3 x_4 H locs ls hl hP hD hS hf; cases hf
    | succ n ihL_5 =>
      intro x_3 x_4 H locs ls hl hP hD hS hf
      replace hf := lz2_s hf
      unfold f_X4_sumGot_B4 at hf
      refine lv_iload_n hx hb dX4_sumGot_4 rfl (lv_at hl 0 rfl) ?_
      refine lv_bipush (v := 12) hx hb dX4_sumGot_5 (by decide +kernel) ?_
      refine lv_icmp_ge (tgt := 24) hx hb dX4_sumGot_7 (by decide) (fun cc => ?_) (fun cc => ?_)
      · replace hf := ifT cc hf
        exact exL_5 x_3 x_4 _ _ _ (lv_sub hl [0, 1, 2] rfl) hP hD hS hf
      · replace hf := ifF cc hf
        refine lv_iload_n hx hb dX4_sumGot_10 rfl (lv_at hl 1 rfl) ?_
        refine lv_aload_n hx hb dX4_sumGot_11 rfl (lv_at hl 2 rfl) ?_
        refine lv_iload_n hx hb dX4_sumGot_12 rfl (lv_at hl 0 rfl) ?_
        obtain ⟨r_6, hc, hf⟩ := bd1_of hf
        refine k_V (As := [.int x_3]) (rest := [.int x_4]) (ws1 := (kGreet G q0 v0)) ⟨hx, hb, hml, hown, hts⟩ (c_X4_gotBy l D G q0 x_3 v0 _ hc  _) (cwV 1 hts gX4_sumGot_X4_gotBy rfl rfl rfl (by decide +kernel) ⟨Nat.le_of_ble_eq_true rfl, Nat.le_of_ble_eq_true rfl⟩) hl.1 (Nat.le_of_ble_eq_true rfl) dX4_sumGot_13 ⟨Nat.le_of_ble_eq_true rfl, Nat.le_of_ble_eq_true rfl⟩ rfl kT_bl (fun _ _ _ => trivial) hN hK hP hD hS hA 0 2 rfl rfl rfl [0, 1, 2] [] [0, 1, 2] [0, 1, 2, 3] rfl rfl rfl ⟨by decide, by decide, by decide, by decide⟩ rfl (fun H locs hP hD hS => ?_)
        refine lv_iadd hx hb dX4_sumGot_16 ?_
        refine lv_istore_n (lv' := [(1, .int (x_4 + r_6)), (2, .int x_3), (0, .ref (q0 7))]) hx hb dX4_sumGot_17 rfl hl (by decide) rfl (fun ls hl => ?_)
        refine lv_iinc (v := (x_3 + 1)) (lv' := [(2, .int (x_3 + 1)), (1, .int (x_4 + r_6)), (0, .ref (q0 7))]) hx hb dX4_sumGot_18 hl (k := 1) rfl rfl (by decide) rfl (fun ls hl => ?_)
        refine lv_goto (tgt := 4) hx hb dX4_sumGot_21 (by decide) ?_
        exact ihL_5 (x_3 + 1) (x_4 + r_6) _ _ _ (lv_sub hl [0, 1, 2] rfl) hP hD hS hf
  exact loL_5 FU 0 0 _ _ _ hl hP hD hS hf
def f_X4_friendsOf_K4 (y_9 : Int32) (y_10 : Int32) : Option Int32 :=
  some y_10
def f_X4_friendsOf_B4 (a1 : Int32) (v0 : SV) (selfL_6 : (Int32 → Int32 → Option Int32)) (x_4 : Int32) (x_5 : Int32) : Option Int32 :=
  if 12 ≤ x_4 then
    f_X4_friendsOf_K4 x_4 x_5
  else
    bd1 (f_X4_countOf a1 x_4 v0) fun r_7 =>
    if r_7 ≤ 0 then
      selfL_6 (x_4 + 1) x_5
    else
      bd1 (f_X4_countOf x_4 a1 v0) fun r_8 =>
      if r_8 ≤ 0 then
        selfL_6 (x_4 + 1) x_5
      else
        selfL_6 (x_4 + 1) (x_5 ||| (1 <<< (x_4 &&& 31)))
def f_X4_friendsOf (a1 : Int32) (v0 : SV) : Option Int32 :=
  lz2 (f_X4_friendsOf_B4 a1 v0) FU 0 0
abbrev rm_X4_friendsOf : Room := { frames := 1, cells := 0, slots := 0, locals := 22 }
set_option maxHeartbeats 4000000 in
set_option maxRecDepth 100000 in
theorem c_X4_friendsOf (l : Launch) (D : va_G) (G : Nat → ClassId) (q0 : Nat → Nat) (a1 : Int32) (v0 : SV) (r : Int32) (hf : f_X4_friendsOf a1 v0 = some r) (sz : Nat) : mC l yX4_friendsOf wsX4_friendsOf rm_X4_friendsOf D (tyG G) kT [.ref (q0 7), .int a1] (kGreet G q0 v0) (kGreet G q0 v0) sz (some (.int r)) 0 0 := by
  refine mC_ofI (cc := cX4_friendsOf) (maxL := 4) (ret := (some .int)) (by decide) rfl rfl (Nat.le_of_ble_eq_true rfl) ?_
  intro p e s m args below meth c Q0 hx hb hml hts hown hN hK A hD hA hE hP hS hJ ls hl
  have hl : lv_has ls 4 [(0, .ref (q0 7)), (1, .int a1)] := hl
  unfold f_X4_friendsOf at hf
  refine lv_iconst (v := 0) hx hb dX4_friendsOf_0 (by decide) ?_
  refine lv_istore_n (lv' := [(2, .int 0), (0, .ref (q0 7)), (1, .int a1)]) hx hb dX4_friendsOf_1 rfl hl (by decide) rfl (fun ls hl => ?_)
  refine lv_iconst (v := 0) hx hb dX4_friendsOf_2 (by decide) ?_
  refine lv_istore_n (lv' := [(3, .int 0), (2, .int 0), (0, .ref (q0 7)), (1, .int a1)]) hx hb dX4_friendsOf_3 rfl hl (by decide) rfl (fun ls hl => ?_)
  have exL_6 : ∀ (y_9 : Int32) (y_10 : Int32) (H : Heap) (locs : List Loc) (ls : Array Slot), lv_has ls 4 [(3, .int y_9), (2, .int y_10), (0, .ref (q0 7)), (1, .int a1)] → va_P D vwCl (kGreet G q0 v0) H → va_D A (kGreet G q0 v0) → va_S A s.heap H locs → f_X4_friendsOf_K4 y_9 y_10 = some r → W p l e rm_X4_friendsOf s m args below meth c H locs 0 0 Q0 (F0 m 40 ls []) := by
    intro y_9 y_10 H locs ls hl hP hD hS hf
    unfold f_X4_friendsOf_K4 at hf
    refine lv_iload_n hx hb dX4_friendsOf_40 rfl (lv_at hl 1 rfl) ?_
    obtain rfl := re1 hf
    exact hE hP hD hS dX4_friendsOf_41
  have loL_6 : ∀ (n : Nat) (x_4 : Int32) (x_5 : Int32) (H : Heap) (locs : List Loc) (ls : Array Slot), lv_has ls 4 [(3, .int x_4), (2, .int x_5), (0, .ref (q0 7)), (1, .int a1)] → va_P D vwCl (kGreet G q0 v0) H → va_D A (kGreet G q0 v0) → va_S A s.heap H locs → lz2 (f_X4_friendsOf_B4 a1 v0) n x_4 x_5 = some r → W p l e rm_X4_friendsOf s m args below meth c H locs 0 0 Q0 (F0 m 4 ls []) := by
    intro n
    induction n with
    | zero => intro x_4 x_5 H locs ls hl hP hD hS hf; cases hf
    | succ n ihL_6 =>
      intro x_4 x_5 H locs ls hl hP hD hS hf
      replace hf := lz2_s hf
      unfold f_X4_friendsOf_B4 at hf
      refine lv_iload_n hx hb dX4_friendsOf_4 rfl (lv_at hl 0 rfl) ?_
      refine lv_bipush (v := 12) hx hb dX4_friendsOf_5 (by decide +kernel) ?_
      refine lv_icmp_ge (tgt := 40) hx hb dX4_friendsOf_7 (by decide) (fun cc => ?_) (fun cc => ?_)
      · replace hf := ifT cc hf
        exact exL_6 x_4 x_5 _ _ _ (lv_sub hl [0, 1, 2, 3] rfl) hP hD hS hf
      · replace hf := ifF cc hf
        refine lv_aload_n hx hb dX4_friendsOf_10 rfl (lv_at hl 2 rfl) ?_
        refine lv_iload_n hx hb dX4_friendsOf_11 rfl (lv_at hl 3 rfl) ?_
        refine lv_iload_n hx hb dX4_friendsOf_12 rfl (lv_at hl 0 rfl) ?_
        obtain ⟨r_7, hc, hf⟩ := bd1_of hf
        refine k_V (As := [.int a1, .int x_4]) (rest := []) (ws1 := (kGreet G q0 v0)) ⟨hx, hb, hml, hown, hts⟩ (c_X4_countOf l D G q0 a1 x_4 v0 _ hc  _) (cwV 2 hts gX4_friendsOf_X4_countOf rfl rfl rfl (by decide +kernel) ⟨Nat.le_of_ble_eq_true rfl, Nat.le_of_ble_eq_true rfl⟩) hl.1 (Nat.le_of_ble_eq_true rfl) dX4_friendsOf_13 ⟨Nat.le_of_ble_eq_true rfl, Nat.le_of_ble_eq_true rfl⟩ rfl kT_bl (fun _ _ _ => trivial) hN hK hP hD hS hA 0 2 rfl rfl rfl [0, 1, 2] [] [0, 1, 2] [0, 1, 2, 3] rfl rfl rfl ⟨by decide, by decide, by decide, by decide⟩ rfl (fun H locs hP hD hS => ?_)
        refine lv_if_le (tgt := 34) hx hb dX4_friendsOf_16 (by decide) (fun cc => ?_) (fun cc => ?_)
        · replace hf := ifT cc hf
          refine lv_iinc (v := (x_4 + 1)) (lv' := [(3, .int (x_4 + 1)), (2, .int x_5), (0, .ref (q0 7)), (1, .int a1)]) hx hb dX4_friendsOf_34 hl (k := 0) rfl rfl (by decide) rfl (fun ls hl => ?_)
          refine lv_goto (tgt := 4) hx hb dX4_friendsOf_37 (by decide) ?_
          exact ihL_6 (x_4 + 1) x_5 _ _ _ (lv_sub hl [0, 1, 2, 3] rfl) hP hD hS hf
        · replace hf := ifF cc hf
          refine lv_aload_n hx hb dX4_friendsOf_19 rfl (lv_at hl 2 rfl) ?_
          refine lv_iload_n hx hb dX4_friendsOf_20 rfl (lv_at hl 0 rfl) ?_
          refine lv_iload_n hx hb dX4_friendsOf_21 rfl (lv_at hl 3 rfl) ?_
          obtain ⟨r_8, hc, hf⟩ := bd1_of hf
          refine k_V (As := [.int x_4, .int a1]) (rest := []) (ws1 := (kGreet G q0 v0)) ⟨hx, hb, hml, hown, hts⟩ (c_X4_countOf l D G q0 x_4 a1 v0 _ hc  _) (cwV 2 hts gX4_friendsOf_X4_countOf rfl rfl rfl (by decide +kernel) ⟨Nat.le_of_ble_eq_true rfl, Nat.le_of_ble_eq_true rfl⟩) hl.1 (Nat.le_of_ble_eq_true rfl) dX4_friendsOf_22 ⟨Nat.le_of_ble_eq_true rfl, Nat.le_of_ble_eq_true rfl⟩ rfl kT_bl (fun _ _ _ => trivial) hN hK hP hD hS hA 0 2 rfl rfl rfl [0, 1, 2] [] [0, 1, 2] [0, 1, 2, 3] rfl rfl rfl ⟨by decide, by decide, by decide, by decide⟩ rfl (fun H locs hP hD hS => ?_)
          refine lv_if_le (tgt := 34) hx hb dX4_friendsOf_25 (by decide) (fun cc => ?_) (fun cc => ?_)
          · replace hf := ifT cc hf
            refine lv_iinc (v := (x_4 + 1)) (lv' := [(3, .int (x_4 + 1)), (2, .int x_5), (0, .ref (q0 7)), (1, .int a1)]) hx hb dX4_friendsOf_34 hl (k := 0) rfl rfl (by decide) rfl (fun ls hl => ?_)
            refine lv_goto (tgt := 4) hx hb dX4_friendsOf_37 (by decide) ?_
            exact ihL_6 (x_4 + 1) x_5 _ _ _ (lv_sub hl [0, 1, 2, 3] rfl) hP hD hS hf
          · replace hf := ifF cc hf
            refine lv_iload_n hx hb dX4_friendsOf_28 rfl (lv_at hl 1 rfl) ?_
            refine lv_iconst (v := 1) hx hb dX4_friendsOf_29 (by decide) ?_
            refine lv_iload_n hx hb dX4_friendsOf_30 rfl (lv_at hl 0 rfl) ?_
            refine lv_ishl hx hb dX4_friendsOf_31 ?_
            refine lv_ior hx hb dX4_friendsOf_32 ?_
            refine lv_istore_n (lv' := [(2, .int (x_5 ||| (1 <<< (x_4 &&& 31)))), (3, .int x_4), (0, .ref (q0 7)), (1, .int a1)]) hx hb dX4_friendsOf_33 rfl hl (by decide) rfl (fun ls hl => ?_)
            refine lv_iinc (v := (x_4 + 1)) (lv' := [(3, .int (x_4 + 1)), (2, .int (x_5 ||| (1 <<< (x_4 &&& 31)))), (0, .ref (q0 7)), (1, .int a1)]) hx hb dX4_friendsOf_34 hl (k := 1) rfl rfl (by decide) rfl (fun ls hl => ?_)
            refine lv_goto (tgt := 4) hx hb dX4_friendsOf_37 (by decide) ?_
            exact ihL_6 (x_4 + 1) (x_5 ||| (1 <<< (x_4 &&& 31))) _ _ _ (lv_sub hl [0, 1, 2, 3] rfl) hP hD hS hf
  exact loL_6 FU 0 0 _ _ _ hl hP hD hS hf
def f_X4_withFriends_K4 (y_7 : Int32) (y_8 : Int32) : Option Int32 :=
  some y_8
def f_X4_withFriends_B4 (a1 : Int32) (v0 : SV) (selfL_5 : (Int32 → Int32 → Option Int32)) (x_3 : Int32) (x_4 : Int32) : Option Int32 :=
  if 12 ≤ x_3 then
    f_X4_withFriends_K4 x_3 x_4
  else
    if ((a1 >>> (x_3 &&& 31)) &&& 1) = 1 then
      bd1 (f_X4_friendsOf x_3 v0) fun r_6 =>
      selfL_5 (x_3 + 1) (x_4 ||| r_6)
    else
      selfL_5 (x_3 + 1) x_4
def f_X4_withFriends (a1 : Int32) (v0 : SV) : Option Int32 :=
  lz2 (f_X4_withFriends_B4 a1 v0) FU 0 a1
abbrev rm_X4_withFriends : Room := { frames := 2, cells := 0, slots := 0, locals := 45 }
set_option maxHeartbeats 4000000 in
set_option maxRecDepth 100000 in
theorem c_X4_withFriends (l : Launch) (D : va_G) (G : Nat → ClassId) (q0 : Nat → Nat) (a1 : Int32) (v0 : SV) (r : Int32) (hf : f_X4_withFriends a1 v0 = some r) (sz : Nat) : mC l yX4_withFriends wsX4_withFriends rm_X4_withFriends D (tyG G) kT [.ref (q0 7), .int a1] (kGreet G q0 v0) (kGreet G q0 v0) sz (some (.int r)) 0 0 := by
  refine mC_ofI (cc := cX4_withFriends) (maxL := 4) (ret := (some .int)) (by decide) rfl rfl (Nat.le_of_ble_eq_true rfl) ?_
  intro p e s m args below meth c Q0 hx hb hml hts hown hN hK A hD hA hE hP hS hJ ls hl
  have hl : lv_has ls 4 [(0, .ref (q0 7)), (1, .int a1)] := hl
  unfold f_X4_withFriends at hf
  refine lv_iload_n hx hb dX4_withFriends_0 rfl (lv_at hl 1 rfl) ?_
  refine lv_istore_n (lv' := [(2, .int a1), (0, .ref (q0 7)), (1, .int a1)]) hx hb dX4_withFriends_1 rfl hl (by decide) rfl (fun ls hl => ?_)
  refine lv_iconst (v := 0) hx hb dX4_withFriends_2 (by decide) ?_
  refine lv_istore_n (lv' := [(3, .int 0), (2, .int a1), (0, .ref (q0 7)), (1, .int a1)]) hx hb dX4_withFriends_3 rfl hl (by decide) rfl (fun ls hl => ?_)
  have exL_5 : ∀ (y_7 : Int32) (y_8 : Int32) (H : Heap) (locs : List Loc) (ls : Array Slot), lv_has ls 4 [(3, .int y_7), (2, .int y_8), (0, .ref (q0 7)), (1, .int a1)] → va_P D vwCl (kGreet G q0 v0) H → va_D A (kGreet G q0 v0) → va_S A s.heap H locs → f_X4_withFriends_K4 y_7 y_8 = some r → W p l e rm_X4_withFriends s m args below meth c H locs 0 0 Q0 (F0 m 33 ls []) := by
    intro y_7 y_8 H locs ls hl hP hD hS hf
    unfold f_X4_withFriends_K4 at hf
    refine lv_iload_n hx hb dX4_withFriends_33 rfl (lv_at hl 1 rfl) ?_
    obtain rfl := re1 hf
    exact hE hP hD hS dX4_withFriends_34
  have loL_5 : ∀ (n : Nat) (x_3 : Int32) (x_4 : Int32) (H : Heap) (locs : List Loc) (ls : Array Slot), lv_has ls 4 [(3, .int x_3), (2, .int x_4), (0, .ref (q0 7)), (1, .int a1)] → va_P D vwCl (kGreet G q0 v0) H → va_D A (kGreet G q0 v0) → va_S A s.heap H locs → lz2 (f_X4_withFriends_B4 a1 v0) n x_3 x_4 = some r → W p l e rm_X4_withFriends s m args below meth c H locs 0 0 Q0 (F0 m 4 ls []) := by
    intro n
    induction n with
    | zero => intro x_3 x_4 H locs ls hl hP hD hS hf; cases hf
    | succ n ihL_5 =>
      intro x_3 x_4 H locs ls hl hP hD hS hf
      replace hf := lz2_s hf
      unfold f_X4_withFriends_B4 at hf
      refine lv_iload_n hx hb dX4_withFriends_4 rfl (lv_at hl 0 rfl) ?_
      refine lv_bipush (v := 12) hx hb dX4_withFriends_5 (by decide +kernel) ?_
      refine lv_icmp_ge (tgt := 33) hx hb dX4_withFriends_7 (by decide) (fun cc => ?_) (fun cc => ?_)
      · replace hf := ifT cc hf
        exact exL_5 x_3 x_4 _ _ _ (lv_sub hl [0, 1, 2, 3] rfl) hP hD hS hf
      · replace hf := ifF cc hf
        refine lv_iload_n hx hb dX4_withFriends_10 rfl (lv_at hl 3 rfl) ?_
        refine lv_iload_n hx hb dX4_withFriends_11 rfl (lv_at hl 0 rfl) ?_
        refine lv_ishr hx hb dX4_withFriends_12 ?_
        refine lv_iconst (v := 1) hx hb dX4_withFriends_13 (by decide) ?_
        refine lv_iand hx hb dX4_withFriends_14 ?_
        refine lv_iconst (v := 1) hx hb dX4_withFriends_15 (by decide) ?_
        refine lv_icmp_ne (tgt := 27) hx hb dX4_withFriends_16 (by decide) (fun cc => ?_) (fun cc => ?_)
        · replace hf := ifF cc hf
          refine lv_iinc (v := (x_3 + 1)) (lv' := [(3, .int (x_3 + 1)), (2, .int x_4), (0, .ref (q0 7)), (1, .int a1)]) hx hb dX4_withFriends_27 hl (k := 0) rfl rfl (by decide) rfl (fun ls hl => ?_)
          refine lv_goto (tgt := 4) hx hb dX4_withFriends_30 (by decide) ?_
          exact ihL_5 (x_3 + 1) x_4 _ _ _ (lv_sub hl [0, 1, 2, 3] rfl) hP hD hS hf
        · replace hf := ifT cc hf
          refine lv_iload_n hx hb dX4_withFriends_19 rfl (lv_at hl 1 rfl) ?_
          refine lv_aload_n hx hb dX4_withFriends_20 rfl (lv_at hl 2 rfl) ?_
          refine lv_iload_n hx hb dX4_withFriends_21 rfl (lv_at hl 0 rfl) ?_
          obtain ⟨r_6, hc, hf⟩ := bd1_of hf
          refine k_V (As := [.int x_3]) (rest := [.int x_4]) (ws1 := (kGreet G q0 v0)) ⟨hx, hb, hml, hown, hts⟩ (c_X4_friendsOf l D G q0 x_3 v0 _ hc  _) (cwV 1 hts gX4_withFriends_X4_friendsOf rfl rfl rfl (by decide +kernel) ⟨Nat.le_of_ble_eq_true rfl, Nat.le_of_ble_eq_true rfl⟩) hl.1 (Nat.le_of_ble_eq_true rfl) dX4_withFriends_22 ⟨Nat.le_of_ble_eq_true rfl, Nat.le_of_ble_eq_true rfl⟩ rfl kT_bl (fun _ _ _ => trivial) hN hK hP hD hS hA 0 2 rfl rfl rfl [0, 1, 2] [] [0, 1, 2] [0, 1, 2, 3] rfl rfl rfl ⟨by decide, by decide, by decide, by decide⟩ rfl (fun H locs hP hD hS => ?_)
          refine lv_ior hx hb dX4_withFriends_25 ?_
          refine lv_istore_n (lv' := [(2, .int (x_4 ||| r_6)), (3, .int x_3), (0, .ref (q0 7)), (1, .int a1)]) hx hb dX4_withFriends_26 rfl hl (by decide) rfl (fun ls hl => ?_)
          refine lv_iinc (v := (x_3 + 1)) (lv' := [(3, .int (x_3 + 1)), (2, .int (x_4 ||| r_6)), (0, .ref (q0 7)), (1, .int a1)]) hx hb dX4_withFriends_27 hl (k := 1) rfl rfl (by decide) rfl (fun ls hl => ?_)
          refine lv_goto (tgt := 4) hx hb dX4_withFriends_30 (by decide) ?_
          exact ihL_5 (x_3 + 1) (x_4 ||| r_6) _ _ _ (lv_sub hl [0, 1, 2, 3] rfl) hP hD hS hf
  exact loL_5 FU 0 a1 _ _ _ hl hP hD hS hf
def f_X4_circleOf_K6 (y_7 : Int32) (y_8 : Int32) : Option Int32 :=
  some y_8
def f_X4_circleOf_B6 (v0 : SV) (selfL_5 : (Int32 → Int32 → Option Int32)) (x_3 : Int32) (x_4 : Int32) : Option Int32 :=
  if 12 ≤ x_3 then
    f_X4_circleOf_K6 x_3 x_4
  else
    bd1 (f_X4_withFriends x_4 v0) fun r_6 =>
    if r_6 = x_4 then
      some x_4
    else
      selfL_5 (x_3 + 1) r_6
def f_X4_circleOf (a1 : Int32) (v0 : SV) : Option Int32 :=
  lz2 (f_X4_circleOf_B6 v0) FU 0 (1 <<< (a1 &&& 31))
abbrev rm_X4_circleOf : Room := { frames := 3, cells := 0, slots := 0, locals := 68 }
set_option maxHeartbeats 4000000 in
set_option maxRecDepth 100000 in
theorem c_X4_circleOf (l : Launch) (D : va_G) (G : Nat → ClassId) (q0 : Nat → Nat) (a1 : Int32) (v0 : SV) (r : Int32) (hf : f_X4_circleOf a1 v0 = some r) (sz : Nat) : mC l yX4_circleOf wsX4_circleOf rm_X4_circleOf D (tyG G) kT [.ref (q0 7), .int a1] (kGreet G q0 v0) (kGreet G q0 v0) sz (some (.int r)) 0 0 := by
  refine mC_ofI (cc := cX4_circleOf) (maxL := 5) (ret := (some .int)) (by decide) rfl rfl (Nat.le_of_ble_eq_true rfl) ?_
  intro p e s m args below meth c Q0 hx hb hml hts hown hN hK A hD hA hE hP hS hJ ls hl
  have hl : lv_has ls 5 [(0, .ref (q0 7)), (1, .int a1)] := hl
  unfold f_X4_circleOf at hf
  refine lv_iconst (v := 1) hx hb dX4_circleOf_0 (by decide) ?_
  refine lv_iload_n hx hb dX4_circleOf_1 rfl (lv_at hl 1 rfl) ?_
  refine lv_ishl hx hb dX4_circleOf_2 ?_
  refine lv_istore_n (lv' := [(2, .int (1 <<< (a1 &&& 31))), (0, .ref (q0 7)), (1, .int a1)]) hx hb dX4_circleOf_3 rfl hl (by decide) rfl (fun ls hl => ?_)
  refine lv_iconst (v := 0) hx hb dX4_circleOf_4 (by decide) ?_
  refine lv_istore_n (lv' := [(3, .int 0), (2, .int (1 <<< (a1 &&& 31))), (0, .ref (q0 7)), (1, .int a1)]) hx hb dX4_circleOf_5 rfl hl (by decide) rfl (fun ls hl => ?_)
  have exL_5 : ∀ (y_7 : Int32) (y_8 : Int32) (H : Heap) (locs : List Loc) (ls : Array Slot), lv_has ls 5 [(3, .int y_7), (2, .int y_8), (0, .ref (q0 7)), (1, .int a1)] → va_P D vwCl (kGreet G q0 v0) H → va_D A (kGreet G q0 v0) → va_S A s.heap H locs → f_X4_circleOf_K6 y_7 y_8 = some r → W p l e rm_X4_circleOf s m args below meth c H locs 0 0 Q0 (F0 m 36 ls []) := by
    intro y_7 y_8 H locs ls hl hP hD hS hf
    unfold f_X4_circleOf_K6 at hf
    refine lv_iload_n hx hb dX4_circleOf_36 rfl (lv_at hl 1 rfl) ?_
    obtain rfl := re1 hf
    exact hE hP hD hS dX4_circleOf_37
  have loL_5 : ∀ (n : Nat) (x_3 : Int32) (x_4 : Int32) (H : Heap) (locs : List Loc) (ls : Array Slot), lv_has ls 5 [(3, .int x_3), (2, .int x_4), (0, .ref (q0 7)), (1, .int a1)] → va_P D vwCl (kGreet G q0 v0) H → va_D A (kGreet G q0 v0) → va_S A s.heap H locs → lz2 (f_X4_circleOf_B6 v0) n x_3 x_4 = some r → W p l e rm_X4_circleOf s m args below meth c H locs 0 0 Q0 (F0 m 6 ls []) := by
    intro n
    induction n with
    | zero => intro x_3 x_4 H locs ls hl hP hD hS hf; cases hf
    | succ n ihL_5 =>
      intro x_3 x_4 H locs ls hl hP hD hS hf
      replace hf := lz2_s hf
      unfold f_X4_circleOf_B6 at hf
      refine lv_iload_n hx hb dX4_circleOf_6 rfl (lv_at hl 0 rfl) ?_
      refine lv_bipush (v := 12) hx hb dX4_circleOf_7 (by decide +kernel) ?_
      refine lv_icmp_ge (tgt := 36) hx hb dX4_circleOf_9 (by decide) (fun cc => ?_) (fun cc => ?_)
      · replace hf := ifT cc hf
        exact exL_5 x_3 x_4 _ _ _ (lv_sub hl [0, 1, 2, 3] rfl) hP hD hS hf
      · replace hf := ifF cc hf
        refine lv_aload_n hx hb dX4_circleOf_12 rfl (lv_at hl 2 rfl) ?_
        refine lv_iload_n hx hb dX4_circleOf_13 rfl (lv_at hl 1 rfl) ?_
        obtain ⟨r_6, hc, hf⟩ := bd1_of hf
        refine k_V (As := [.int x_4]) (rest := []) (ws1 := (kGreet G q0 v0)) ⟨hx, hb, hml, hown, hts⟩ (c_X4_withFriends l D G q0 x_4 v0 _ hc  _) (cwV 1 hts gX4_circleOf_X4_withFriends rfl rfl rfl (by decide +kernel) ⟨Nat.le_of_ble_eq_true rfl, Nat.le_of_ble_eq_true rfl⟩) hl.1 (Nat.le_of_ble_eq_true rfl) dX4_circleOf_14 ⟨Nat.le_of_ble_eq_true rfl, Nat.le_of_ble_eq_true rfl⟩ rfl kT_bl (fun _ _ _ => trivial) hN hK hP hD hS hA 0 2 rfl rfl rfl [0, 1, 2] [] [0, 1, 2] [0, 1, 2, 3] rfl rfl rfl ⟨by decide, by decide, by decide, by decide⟩ rfl (fun H locs hP hD hS => ?_)
        refine lv_istore (lv' := [(4, .int r_6), (3, .int x_3), (2, .int x_4), (0, .ref (q0 7)), (1, .int a1)]) hx hb dX4_circleOf_17 hl (by decide) rfl (fun ls hl => ?_)
        refine lv_iload hx hb dX4_circleOf_19 (lv_at hl 0 rfl) ?_
        refine lv_iload_n hx hb dX4_circleOf_21 rfl (lv_at hl 2 rfl) ?_
        refine lv_icmp_ne (tgt := 27) hx hb dX4_circleOf_22 (by decide) (fun cc => ?_) (fun cc => ?_)
        · replace hf := ifF cc hf
          refine lv_iload hx hb dX4_circleOf_27 (lv_at hl 0 rfl) ?_
          refine lv_istore_n (lv' := [(2, .int r_6), (4, .int r_6), (3, .int x_3), (0, .ref (q0 7)), (1, .int a1)]) hx hb dX4_circleOf_29 rfl hl (by decide) rfl (fun ls hl => ?_)
          refine lv_iinc (v := (x_3 + 1)) (lv' := [(3, .int (x_3 + 1)), (2, .int r_6), (4, .int r_6), (0, .ref (q0 7)), (1, .int a1)]) hx hb dX4_circleOf_30 hl (k := 2) rfl rfl (by decide) rfl (fun ls hl => ?_)
          refine lv_goto (tgt := 6) hx hb dX4_circleOf_33 (by decide) ?_
          exact ihL_5 (x_3 + 1) r_6 _ _ _ (lv_sub hl [0, 1, 3, 4] rfl) hP hD hS hf
        · replace hf := ifT cc hf
          refine lv_iload_n hx hb dX4_circleOf_25 rfl (lv_at hl 2 rfl) ?_
          obtain rfl := re1 hf
          exact hE hP hD hS dX4_circleOf_26
  exact loL_5 FU 0 (1 <<< (a1 &&& 31)) _ _ _ hl hP hD hS hf
def f_X4_countCircles_K6 (y_8 : Int32) (y_9 : Int32) (y_10 : Int32) : Option Int32 :=
  some y_10
def f_X4_countCircles_B6 (v0 : SV) (selfL_6 : (Int32 → Int32 → Int32 → Option Int32)) (x_3 : Int32) (x_4 : Int32) (x_5 : Int32) : Option Int32 :=
  if 12 ≤ x_3 then
    f_X4_countCircles_K6 x_3 x_4 x_5
  else
    if ((x_4 >>> (x_3 &&& 31)) &&& 1) = 0 then
      bd1 (f_X4_circleOf x_3 v0) fun r_7 =>
      selfL_6 (x_3 + 1) (x_4 ||| r_7) (x_5 + 1)
    else
      selfL_6 (x_3 + 1) x_4 x_5
def f_X4_countCircles (v0 : SV) : Option Int32 :=
  lz3 (f_X4_countCircles_B6 v0) FU 0 0 0
abbrev rm_X4_countCircles : Room := { frames := 4, cells := 0, slots := 0, locals := 92 }
set_option maxHeartbeats 4000000 in
set_option maxRecDepth 100000 in
theorem c_X4_countCircles (l : Launch) (D : va_G) (G : Nat → ClassId) (q0 : Nat → Nat) (v0 : SV) (r : Int32) (hf : f_X4_countCircles v0 = some r) (sz : Nat) : mC l yX4_countCircles wsX4_countCircles rm_X4_countCircles D (tyG G) kT [.ref (q0 7)] (kGreet G q0 v0) (kGreet G q0 v0) sz (some (.int r)) 0 0 := by
  refine mC_ofI (cc := cX4_countCircles) (maxL := 4) (ret := (some .int)) (by decide) rfl rfl (Nat.le_of_ble_eq_true rfl) ?_
  intro p e s m args below meth c Q0 hx hb hml hts hown hN hK A hD hA hE hP hS hJ ls hl
  have hl : lv_has ls 4 [(0, .ref (q0 7))] := hl
  unfold f_X4_countCircles at hf
  refine lv_iconst (v := 0) hx hb dX4_countCircles_0 (by decide) ?_
  refine lv_istore_n (lv' := [(1, .int 0), (0, .ref (q0 7))]) hx hb dX4_countCircles_1 rfl hl (by decide) rfl (fun ls hl => ?_)
  refine lv_iconst (v := 0) hx hb dX4_countCircles_2 (by decide) ?_
  refine lv_istore_n (lv' := [(2, .int 0), (1, .int 0), (0, .ref (q0 7))]) hx hb dX4_countCircles_3 rfl hl (by decide) rfl (fun ls hl => ?_)
  refine lv_iconst (v := 0) hx hb dX4_countCircles_4 (by decide) ?_
  refine lv_istore_n (lv' := [(3, .int 0), (2, .int 0), (1, .int 0), (0, .ref (q0 7))]) hx hb dX4_countCircles_5 rfl hl (by decide) rfl (fun ls hl => ?_)
  have exL_6 : ∀ (y_8 : Int32) (y_9 : Int32) (y_10 : Int32) (H : Heap) (locs : List Loc) (ls : Array Slot), lv_has ls 4 [(3, .int y_8), (2, .int y_9), (1, .int y_10), (0, .ref (q0 7))] → va_P D vwCl (kGreet G q0 v0) H → va_D A (kGreet G q0 v0) → va_S A s.heap H locs → f_X4_countCircles_K6 y_8 y_9 y_10 = some r → W p l e rm_X4_countCircles s m args below meth c H locs 0 0 Q0 (F0 m 37 ls []) := by
    intro y_8 y_9 y_10 H locs ls hl hP hD hS hf
    unfold f_X4_countCircles_K6 at hf
    refine lv_iload_n hx hb dX4_countCircles_37 rfl (lv_at hl 2 rfl) ?_
    obtain rfl := re1 hf
    exact hE hP hD hS dX4_countCircles_38
  have loL_6 : ∀ (n : Nat) (x_3 : Int32) (x_4 : Int32) (x_5 : Int32) (H : Heap) (locs : List Loc) (ls : Array Slot), lv_has ls 4 [(3, .int x_3), (2, .int x_4), (1, .int x_5), (0, .ref (q0 7))] → va_P D vwCl (kGreet G q0 v0) H → va_D A (kGreet G q0 v0) → va_S A s.heap H locs → lz3 (f_X4_countCircles_B6 v0) n x_3 x_4 x_5 = some r → W p l e rm_X4_countCircles s m args below meth c H locs 0 0 Q0 (F0 m 6 ls []) := by
    intro n
    induction n with
    | zero => intro x_3 x_4 x_5 H locs ls hl hP hD hS hf; cases hf
    | succ n ihL_6 =>
      intro x_3 x_4 x_5 H locs ls hl hP hD hS hf
      replace hf := lz3_s hf
      unfold f_X4_countCircles_B6 at hf
      refine lv_iload_n hx hb dX4_countCircles_6 rfl (lv_at hl 0 rfl) ?_
      refine lv_bipush (v := 12) hx hb dX4_countCircles_7 (by decide +kernel) ?_
      refine lv_icmp_ge (tgt := 37) hx hb dX4_countCircles_9 (by decide) (fun cc => ?_) (fun cc => ?_)
      · replace hf := ifT cc hf
        exact exL_6 x_3 x_4 x_5 _ _ _ (lv_sub hl [0, 1, 2, 3] rfl) hP hD hS hf
      · replace hf := ifF cc hf
        refine lv_iload_n hx hb dX4_countCircles_12 rfl (lv_at hl 1 rfl) ?_
        refine lv_iload_n hx hb dX4_countCircles_13 rfl (lv_at hl 0 rfl) ?_
        refine lv_ishr hx hb dX4_countCircles_14 ?_
        refine lv_iconst (v := 1) hx hb dX4_countCircles_15 (by decide) ?_
        refine lv_iand hx hb dX4_countCircles_16 ?_
        refine lv_if_ne (tgt := 31) hx hb dX4_countCircles_17 (by decide) (fun cc => ?_) (fun cc => ?_)
        · replace hf := ifF cc hf
          refine lv_iinc (v := (x_3 + 1)) (lv' := [(3, .int (x_3 + 1)), (2, .int x_4), (1, .int x_5), (0, .ref (q0 7))]) hx hb dX4_countCircles_31 hl (k := 0) rfl rfl (by decide) rfl (fun ls hl => ?_)
          refine lv_goto (tgt := 6) hx hb dX4_countCircles_34 (by decide) ?_
          exact ihL_6 (x_3 + 1) x_4 x_5 _ _ _ (lv_sub hl [0, 1, 2, 3] rfl) hP hD hS hf
        · replace hf := ifT cc hf
          refine lv_iinc (v := (x_5 + 1)) (lv' := [(1, .int (x_5 + 1)), (3, .int x_3), (2, .int x_4), (0, .ref (q0 7))]) hx hb dX4_countCircles_20 hl (k := 2) rfl rfl (by decide) rfl (fun ls hl => ?_)
          refine lv_iload_n hx hb dX4_countCircles_23 rfl (lv_at hl 2 rfl) ?_
          refine lv_aload_n hx hb dX4_countCircles_24 rfl (lv_at hl 3 rfl) ?_
          refine lv_iload_n hx hb dX4_countCircles_25 rfl (lv_at hl 1 rfl) ?_
          obtain ⟨r_7, hc, hf⟩ := bd1_of hf
          refine k_V (As := [.int x_3]) (rest := [.int x_4]) (ws1 := (kGreet G q0 v0)) ⟨hx, hb, hml, hown, hts⟩ (c_X4_circleOf l D G q0 x_3 v0 _ hc  _) (cwV 1 hts gX4_countCircles_X4_circleOf rfl rfl rfl (by decide +kernel) ⟨Nat.le_of_ble_eq_true rfl, Nat.le_of_ble_eq_true rfl⟩) hl.1 (Nat.le_of_ble_eq_true rfl) dX4_countCircles_26 ⟨Nat.le_of_ble_eq_true rfl, Nat.le_of_ble_eq_true rfl⟩ rfl kT_bl (fun _ _ _ => trivial) hN hK hP hD hS hA 0 2 rfl rfl rfl [0, 1, 2] [] [0, 1, 2] [0, 1, 2, 3] rfl rfl rfl ⟨by decide, by decide, by decide, by decide⟩ rfl (fun H locs hP hD hS => ?_)
          refine lv_ior hx hb dX4_countCircles_29 ?_
          refine lv_istore_n (lv' := [(2, .int (x_4 ||| r_7)), (1, .int (x_5 + 1)), (3, .int x_3), (0, .ref (q0 7))]) hx hb dX4_countCircles_30 rfl hl (by decide) rfl (fun ls hl => ?_)
          refine lv_iinc (v := (x_3 + 1)) (lv' := [(3, .int (x_3 + 1)), (2, .int (x_4 ||| r_7)), (1, .int (x_5 + 1)), (0, .ref (q0 7))]) hx hb dX4_countCircles_31 hl (k := 2) rfl rfl (by decide) rfl (fun ls hl => ?_)
          refine lv_goto (tgt := 6) hx hb dX4_countCircles_34 (by decide) ?_
          exact ihL_6 (x_3 + 1) (x_4 ||| r_7) (x_5 + 1) _ _ _ (lv_sub hl [0, 1, 2, 3] rfl) hP hD hS hf
  exact loL_6 FU 0 0 0 _ _ _ hl hP hD hS hf
