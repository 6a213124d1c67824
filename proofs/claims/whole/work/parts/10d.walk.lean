/-! Walks, laid by wip/whole/gen.py: for each method f_ (what it does to its world) and c_ (its contract). -/
def f_X6_becomeNew (v0 : SV) : Option SV :=
  bd1 (f_J7_fill_53178 0 12 (v0.2 0)) fun w_1 =>
  nm (pR v0 0 w_1) fun v_2 =>
  bd1 (f_J7_fill_53178 3 12 (v_2.2 1)) fun w_3 =>
  nm (pR v_2 1 w_3) fun v_4 =>
  bd1 (f_X7_becomeNew v_4) fun w_5 =>
  nm (mLines v_4 w_5) fun v_6 =>
  bd1 (f_X4_becomeNew v_6) fun w_7 =>
  nm (mGreetings v_6 w_7) fun v_8 =>
  bd1 (f_X1_becomeNew v_8) fun w_9 =>
  nm (mCats v_8 w_9) fun v_10 =>
  nm (pF v_10 0 0) fun v_11 =>
  nm (pF v_11 1 0) fun v_12 =>
  nm (pF v_12 2 0) fun v_13 =>
  nm (pF v_13 3 0) fun v_14 =>
  some v_14
abbrev rm_X6_becomeNew : Room := { frames := 2, cells := 0, slots := 0, locals := 43 }
set_option maxHeartbeats 4000000 in
set_option maxRecDepth 100000 in
theorem c_X6_becomeNew (l : Launch) (D : va_G) (G : Nat → ClassId) (q0 : Nat → Nat) (v0 : SV) (v0' : SV) (hf : f_X6_becomeNew v0 = some v0') (sz : Nat) : mC l yX6_becomeNew wsX6_becomeNew rm_X6_becomeNew D (tyG G) kT [.ref (q0 0)] (kHouse G q0 v0) (kHouse G q0 v0') sz none 0 0 := by
  refine mC_ofV (cc := cX6_becomeNew) (maxL := 1) (ret := none) (by decide) rfl rfl (Nat.le_of_ble_eq_true rfl) ?_
  intro p e s m args below meth c Q0 hx hb hml hts hown hN hK A hD hA hE hP hS hJ ls hl
  have hl : lv_has ls 1 [(0, .ref (q0 0))] := hl
  unfold f_X6_becomeNew at hf
  have hi4 : ∀ w ∈ u_ws RX6 TX6 10, w ∈ wsX6_becomeNew := by decide +kernel
  have hw1 := hts (.fieldLink RX6 9 "BalconyCensus$House" "plants" "[I") (by decide +kernel)
  have hw2 := hts (.fieldLink RX6 15 "BalconyCensus$House" "tolerances" "[I") (by decide +kernel)
  have hw3 := hts (.fieldLink RX6 21 "BalconyCensus$House" "lines" "LBalconyCensus$Lines;") (by decide +kernel)
  have hw4 := hts (.fieldLink RX6 28 "BalconyCensus$House" "greetings" "LBalconyCensus$Greetings;") (by decide +kernel)
  have hw5 := hts (.fieldLink RX6 35 "BalconyCensus$House" "cats" "LBalconyCensus$Cats;") (by decide +kernel)
  have hw6 := hts (.fieldLink RX6 53 "BalconyCensus$House" "days" "I") (by decide +kernel)
  have hw7 := hts (.fieldLink RX6 57 "BalconyCensus$House" "plantsGiven" "I") (by decide +kernel)
  have hw8 := hts (.fieldLink RX6 60 "BalconyCensus$House" "plantsPut" "I") (by decide +kernel)
  have hw9 := hts (.fieldLink RX6 63 "BalconyCensus$House" "plantsGrown" "I") (by decide +kernel)
  refine lv_aload_n hx hb dX6_becomeNew_0 rfl (lv_at hl 0 rfl) ?_
  refine va_get (D := D) (ci := 4) (v := .ref (q0 1)) (C := RX6) (T := TX6) (N := 10) hx hb hts hi4 hown hK hP 0 rfl rfl 0 (by decide) hw1 (fun _ h9 => h9) rfl dX6_becomeNew_1 ?_
  refine lv_iconst (v := 0) hx hb dX6_becomeNew_4 (by decide) ?_
  obtain ⟨w_1, hc, hf⟩ := bd1_of hf
  refine k_S (As := [.ref (q0 1), .int 0]) (rest := []) (ws1 := (kHouse G q0 (pR v0 0 w_1))) ⟨hx, hb, hml, hown, hts⟩ (c_J7_fill_53178 l D G (q0 1) 12 0 (v0.2 0) _ hc  _) (va_cwS 2 hts gX6_becomeNew_J7_fill_53178 rfl rfl rfl (by decide +kernel) ⟨Nat.le_of_ble_eq_true rfl, Nat.le_of_ble_eq_true rfl⟩) hl.1 (Nat.le_of_ble_eq_true rfl) dX6_becomeNew_5 ⟨Nat.le_of_ble_eq_true rfl, Nat.le_of_ble_eq_true rfl⟩ rfl kT_bl (fun _ _ _ => trivial) hN hK hP hD hS hA [1] [0, 2, 3, 4, 5, 6, 7, 8, 9, 10, 11, 12, 13, 14] [0, 14, 1, 2, 3, 4, 5, 6, 7, 8, 9, 10, 11, 12, 13] [0, 1, 2, 3] rfl rfl rfl ⟨by decide, by decide, by decide, by decide⟩ rfl (fun H locs hP hD hS => ?_)
  obtain ⟨v_2, ev_2, hf⟩ := nm_of hf
  have hP : va_P D vwCl (kHouse G q0 v_2) H := by rw [ev_2]; exact hP
  have hD : va_D A (kHouse G q0 v_2) := by rw [ev_2]; exact hD
  refine lv_aload_n hx hb dX6_becomeNew_8 rfl (lv_at hl 0 rfl) ?_
  refine va_get (D := D) (ci := 4) (v := .ref (q0 2)) (C := RX6) (T := TX6) (N := 10) hx hb hts hi4 hown hK hP 0 rfl rfl 1 (by decide) hw2 (fun _ h9 => h9) rfl dX6_becomeNew_9 ?_
  refine lv_iconst (v := 3) hx hb dX6_becomeNew_12 (by decide) ?_
  obtain ⟨w_3, hc, hf⟩ := bd1_of hf
  refine k_S (As := [.ref (q0 2), .int 3]) (rest := []) (ws1 := (kHouse G q0 (pR v_2 1 w_3))) ⟨hx, hb, hml, hown, hts⟩ (c_J7_fill_53178 l D G (q0 2) 12 3 (v_2.2 1) _ hc  _) (va_cwS 2 hts gX6_becomeNew_J7_fill_53178 rfl rfl rfl (by decide +kernel) ⟨Nat.le_of_ble_eq_true rfl, Nat.le_of_ble_eq_true rfl⟩) hl.1 (Nat.le_of_ble_eq_true rfl) dX6_becomeNew_13 ⟨Nat.le_of_ble_eq_true rfl, Nat.le_of_ble_eq_true rfl⟩ rfl kT_bl (fun _ _ _ => trivial) hN hK hP hD hS hA [2] [0, 1, 3, 4, 5, 6, 7, 8, 9, 10, 11, 12, 13, 14] [0, 1, 14, 2, 3, 4, 5, 6, 7, 8, 9, 10, 11, 12, 13] [0, 1, 2, 3] rfl rfl rfl ⟨by decide, by decide, by decide, by decide⟩ rfl (fun H locs hP hD hS => ?_)
  obtain ⟨v_4, ev_4, hf⟩ := nm_of hf
  have hP : va_P D vwCl (kHouse G q0 v_4) H := by rw [ev_4]; exact hP
  have hD : va_D A (kHouse G q0 v_4) := by rw [ev_4]; exact hD
  refine lv_aload_n hx hb dX6_becomeNew_16 rfl (lv_at hl 0 rfl) ?_
  refine va_get (D := D) (ci := 4) (v := .ref (q0 3)) (C := RX6) (T := TX6) (N := 10) hx hb hts hi4 hown hK hP 0 rfl rfl 2 (by decide) hw3 (fun _ h9 => h9) rfl dX6_becomeNew_17 ?_
  obtain ⟨w_5, hc, hf⟩ := bd1_of hf
  refine k_V (As := []) (rest := []) (ws1 := (kHouse G q0 (mLines v_4 w_5))) ⟨hx, hb, hml, hown, hts⟩ (c_X7_becomeNew l D G q0  v_4 _ hc  _) (cwV 0 hts gX6_becomeNew_X7_becomeNew rfl rfl rfl (by decide +kernel) ⟨Nat.le_of_ble_eq_true rfl, Nat.le_of_ble_eq_true rfl⟩) hl.1 (Nat.le_of_ble_eq_true rfl) dX6_becomeNew_20 ⟨Nat.le_of_ble_eq_true rfl, Nat.le_of_ble_eq_true rfl⟩ rfl kT_bl (fun _ _ _ => trivial) hN hK hP hD hS hA 3 5 rfl rfl rfl [3, 4, 5, 6] [0, 1, 2, 7, 8, 9, 10, 11, 12, 13, 14] [0, 1, 2, 11, 12, 13, 14, 3, 4, 5, 6, 7, 8, 9, 10] [0, 1, 2, 3] rfl rfl rfl ⟨by decide, by decide, by decide, by decide⟩ rfl (fun H locs hP hD hS => ?_)
  obtain ⟨v_6, ev_6, hf⟩ := nm_of hf
  have hP : va_P D vwCl (kHouse G q0 v_6) H := by rw [ev_6]; exact hP
  have hD : va_D A (kHouse G q0 v_6) := by rw [ev_6]; exact hD
  refine lv_aload_n hx hb dX6_becomeNew_23 rfl (lv_at hl 0 rfl) ?_
  refine va_get (D := D) (ci := 4) (v := .ref (q0 7)) (C := RX6) (T := TX6) (N := 10) hx hb hts hi4 hown hK hP 0 rfl rfl 3 (by decide) hw4 (fun _ h9 => h9) rfl dX6_becomeNew_24 ?_
  obtain ⟨w_7, hc, hf⟩ := bd1_of hf
  refine k_V (As := []) (rest := []) (ws1 := (kHouse G q0 (mGreetings v_6 w_7))) ⟨hx, hb, hml, hown, hts⟩ (c_X4_becomeNew l D G q0  v_6 _ hc  _) (cwV 0 hts gX6_becomeNew_X4_becomeNew rfl rfl rfl (by decide +kernel) ⟨Nat.le_of_ble_eq_true rfl, Nat.le_of_ble_eq_true rfl⟩) hl.1 (Nat.le_of_ble_eq_true rfl) dX6_becomeNew_27 ⟨Nat.le_of_ble_eq_true rfl, Nat.le_of_ble_eq_true rfl⟩ rfl kT_bl (fun _ _ _ => trivial) hN hK hP hD hS hA 7 2 rfl rfl rfl [7, 8, 9] [0, 1, 2, 3, 4, 5, 6, 10, 11, 12, 13, 14] [0, 1, 2, 3, 4, 5, 6, 12, 13, 14, 7, 8, 9, 10, 11] [0, 1, 2, 3] rfl rfl rfl ⟨by decide, by decide, by decide, by decide⟩ rfl (fun H locs hP hD hS => ?_)
  obtain ⟨v_8, ev_8, hf⟩ := nm_of hf
  have hP : va_P D vwCl (kHouse G q0 v_8) H := by rw [ev_8]; exact hP
  have hD : va_D A (kHouse G q0 v_8) := by rw [ev_8]; exact hD
  refine lv_aload_n hx hb dX6_becomeNew_30 rfl (lv_at hl 0 rfl) ?_
  refine va_get (D := D) (ci := 4) (v := .ref (q0 10)) (C := RX6) (T := TX6) (N := 10) hx hb hts hi4 hown hK hP 0 rfl rfl 4 (by decide) hw5 (fun _ h9 => h9) rfl dX6_becomeNew_31 ?_
  obtain ⟨w_9, hc, hf⟩ := bd1_of hf
  refine k_V (As := []) (rest := []) (ws1 := (kHouse G q0 (mCats v_8 w_9))) ⟨hx, hb, hml, hown, hts⟩ (c_X1_becomeNew l D G q0  v_8 _ hc  _) (cwV 0 hts gX6_becomeNew_X1_becomeNew rfl rfl rfl (by decide +kernel) ⟨Nat.le_of_ble_eq_true rfl, Nat.le_of_ble_eq_true rfl⟩) hl.1 (Nat.le_of_ble_eq_true rfl) dX6_becomeNew_34 ⟨Nat.le_of_ble_eq_true rfl, Nat.le_of_ble_eq_true rfl⟩ rfl kT_bl (fun _ _ _ => trivial) hN hK hP hD hS hA 10 1 rfl rfl rfl [10, 11, 12, 13] [0, 1, 2, 3, 4, 5, 6, 7, 8, 9, 14] [0, 1, 2, 3, 4, 5, 6, 7, 8, 9, 11, 12, 13, 14, 10] [0, 1, 2, 3] rfl rfl rfl ⟨by decide, by decide, by decide, by decide⟩ rfl (fun H locs hP hD hS => ?_)
  obtain ⟨v_10, ev_10, hf⟩ := nm_of hf
  have hP : va_P D vwCl (kHouse G q0 v_10) H := by rw [ev_10]; exact hP
  have hD : va_D A (kHouse G q0 v_10) := by rw [ev_10]; exact hD
  refine lv_aload_n hx hb dX6_becomeNew_37 rfl (lv_at hl 0 rfl) ?_
  refine lv_iconst (v := 0) hx hb dX6_becomeNew_38 (by decide) ?_
  obtain ⟨v_11, ev_11, hf⟩ := nm_of hf
  refine va_put (D := D) (ci := 4) (v := .int 0) (ty := .int) (C := RX6) (T := TX6) (N := 10) hx hb hts hi4 tyX6 tyX6_ok nmX6 hown hK hP hD hS 0 rfl rfl 6 (by decide) hw6 (fun _ h9 => h9) rfl (by decide +kernel) rfl rfl (Nat.le_of_ble_eq_true rfl) dX6_becomeNew_39 (fun H locs hP hD hS => ?_)
  have hP : va_P D vwCl (kHouse G q0 v_11) H := by rw [ev_11]; exact hP
  have hD : va_D A (kHouse G q0 v_11) := by rw [ev_11]; exact hD
  refine lv_aload_n hx hb dX6_becomeNew_42 rfl (lv_at hl 0 rfl) ?_
  refine lv_iconst (v := 0) hx hb dX6_becomeNew_43 (by decide) ?_
  obtain ⟨v_12, ev_12, hf⟩ := nm_of hf
  refine va_put (D := D) (ci := 4) (v := .int 0) (ty := .int) (C := RX6) (T := TX6) (N := 10) hx hb hts hi4 tyX6 tyX6_ok nmX6 hown hK hP hD hS 0 rfl rfl 7 (by decide) hw7 (fun _ h9 => h9) rfl (by decide +kernel) rfl rfl (Nat.le_of_ble_eq_true rfl) dX6_becomeNew_44 (fun H locs hP hD hS => ?_)
  have hP : va_P D vwCl (kHouse G q0 v_12) H := by rw [ev_12]; exact hP
  have hD : va_D A (kHouse G q0 v_12) := by rw [ev_12]; exact hD
  refine lv_aload_n hx hb dX6_becomeNew_47 rfl (lv_at hl 0 rfl) ?_
  refine lv_iconst (v := 0) hx hb dX6_becomeNew_48 (by decide) ?_
  obtain ⟨v_13, ev_13, hf⟩ := nm_of hf
  refine va_put (D := D) (ci := 4) (v := .int 0) (ty := .int) (C := RX6) (T := TX6) (N := 10) hx hb hts hi4 tyX6 tyX6_ok nmX6 hown hK hP hD hS 0 rfl rfl 8 (by decide) hw8 (fun _ h9 => h9) rfl (by decide +kernel) rfl rfl (Nat.le_of_ble_eq_true rfl) dX6_becomeNew_49 (fun H locs hP hD hS => ?_)
  have hP : va_P D vwCl (kHouse G q0 v_13) H := by rw [ev_13]; exact hP
  have hD : va_D A (kHouse G q0 v_13) := by rw [ev_13]; exact hD
  refine lv_aload_n hx hb dX6_becomeNew_52 rfl (lv_at hl 0 rfl) ?_
  refine lv_iconst (v := 0) hx hb dX6_becomeNew_53 (by decide) ?_
  obtain ⟨v_14, ev_14, hf⟩ := nm_of hf
  refine va_put (D := D) (ci := 4) (v := .int 0) (ty := .int) (C := RX6) (T := TX6) (N := 10) hx hb hts hi4 tyX6 tyX6_ok nmX6 hown hK hP hD hS 0 rfl rfl 9 (by decide) hw9 (fun _ h9 => h9) rfl (by decide +kernel) rfl rfl (Nat.le_of_ble_eq_true rfl) dX6_becomeNew_54 (fun H locs hP hD hS => ?_)
  have hP : va_P D vwCl (kHouse G q0 v_14) H := by rw [ev_14]; exact hP
  have hD : va_D A (kHouse G q0 v_14) := by rw [ev_14]; exact hD
  obtain rfl := re1 hf
  exact hE hP hD hS dX6_becomeNew_57
def f_X6_take (v0 : SV) (v1 : SV) : Option SV :=
  nm (pR v0 0 (va_cpy (v1.2 0) (v0.2 0) (0 : Int32).toNatClampNeg (0 : Int32).toNatClampNeg (12 : Int32).toNatClampNeg)) fun v_1 =>
  nm (pR v_1 1 (va_cpy (v1.2 1) (v_1.2 1) (0 : Int32).toNatClampNeg (0 : Int32).toNatClampNeg (12 : Int32).toNatClampNeg)) fun v_2 =>
  bd1 (f_X7_take v_2 v1) fun w_3 =>
  nm (mLines v_2 w_3) fun v_4 =>
  bd1 (f_X4_take v_4 v1) fun w_5 =>
  nm (mGreetings v_4 w_5) fun v_6 =>
  bd1 (f_X1_take v_6 v1) fun w_7 =>
  nm (mCats v_6 w_7) fun v_8 =>
  nm (pF v_8 0 (v1.1 0)) fun v_9 =>
  nm (pF v_9 1 (v1.1 1)) fun v_10 =>
  nm (pF v_10 2 (v1.1 2)) fun v_11 =>
  nm (pF v_11 3 (v1.1 3)) fun v_12 =>
  some v_12
abbrev rm_X6_take : Room := { frames := 2, cells := 0, slots := 0, locals := 39 }
set_option maxHeartbeats 4000000 in
set_option maxRecDepth 100000 in
theorem c_X6_take (l : Launch) (D : va_G) (G : Nat → ClassId) (q0 : Nat → Nat) (q1 : Nat → Nat) (v0 : SV) (v1 : SV) (v0' : SV) (hf : f_X6_take v0 v1 = some v0') (sz : Nat) : mC l yX6_take wsX6_take rm_X6_take D (tyG G) kT [.ref (q0 0), .ref (q1 0)] (kHouse G q0 v0 ++ kHouse G q1 v1) (kHouse G q0 v0' ++ kHouse G q1 v1) sz none 0 0 := by
  refine mC_ofV (cc := cX6_take) (maxL := 2) (ret := none) (by decide) rfl rfl (Nat.le_of_ble_eq_true rfl) ?_
  intro p e s m args below meth c Q0 hx hb hml hts hown hN hK A hD hA hE hP hS hJ ls hl
  have hl : lv_has ls 2 [(0, .ref (q0 0)), (1, .ref (q1 0))] := hl
  unfold f_X6_take at hf
  have hi4 : ∀ w ∈ u_ws RX6 TX6 10, w ∈ wsX6_take := by decide +kernel
  have hw1 := hts (.fieldLink RX6 9 "BalconyCensus$House" "plants" "[I") (by decide +kernel)
  have hw2 := hts (.methodLink RX6 66 arraycopyName) (by decide +kernel)
  have hw3 := hts (.native arraycopyName) (by decide +kernel)
  have hw4 := hts (.static arraycopyName) (by decide +kernel)
  have hw5 := hts (.initialized "java/lang/System") (by decide +kernel)
  have hw6 := hts (.fieldLink RX6 15 "BalconyCensus$House" "tolerances" "[I") (by decide +kernel)
  have hw7 := hts (.fieldLink RX6 21 "BalconyCensus$House" "lines" "LBalconyCensus$Lines;") (by decide +kernel)
  have hw8 := hts (.fieldLink RX6 28 "BalconyCensus$House" "greetings" "LBalconyCensus$Greetings;") (by decide +kernel)
  have hw9 := hts (.fieldLink RX6 35 "BalconyCensus$House" "cats" "LBalconyCensus$Cats;") (by decide +kernel)
  have hw10 := hts (.fieldLink RX6 53 "BalconyCensus$House" "days" "I") (by decide +kernel)
  have hw11 := hts (.fieldLink RX6 57 "BalconyCensus$House" "plantsGiven" "I") (by decide +kernel)
  have hw12 := hts (.fieldLink RX6 60 "BalconyCensus$House" "plantsPut" "I") (by decide +kernel)
  have hw13 := hts (.fieldLink RX6 63 "BalconyCensus$House" "plantsGrown" "I") (by decide +kernel)
  refine lv_aload_n hx hb dX6_take_0 rfl (lv_at hl 1 rfl) ?_
  refine va_get (D := D) (ci := 4) (v := .ref (q1 1)) (C := RX6) (T := TX6) (N := 10) hx hb hts hi4 hown hK hP 15 rfl rfl 0 (by decide) hw1 (fun _ h9 => h9) rfl dX6_take_1 ?_
  refine lv_iconst (v := 0) hx hb dX6_take_4 (by decide) ?_
  refine lv_aload_n hx hb dX6_take_5 rfl (lv_at hl 0 rfl) ?_
  refine va_get (D := D) (ci := 4) (v := .ref (q0 1)) (C := RX6) (T := TX6) (N := 10) hx hb hts hi4 hown hK hP 0 rfl rfl 0 (by decide) hw1 (fun _ h9 => h9) rfl dX6_take_6 ?_
  refine lv_iconst (v := 0) hx hb dX6_take_9 (by decide) ?_
  refine lv_bipush (v := 12) hx hb dX6_take_10 (by decide +kernel) ?_
  obtain ⟨v_1, ev_1, hf⟩ := nm_of hf
  refine va_copyi (D := D) (ty := .int) (c0 := G 0) (c1 := G 0) hx hb (hml.trans hl.1.symm) hown hw2 hw3 hw4 hw5 hK hP hD hS 16 1 0 0 rfl rfl rfl rfl rfl (by decide) (by decide) (by decide) (by decide) (by decide) (fun _ _ => rfl) (Nat.le_of_ble_eq_true rfl) (Nat.le_of_ble_eq_true rfl) dX6_take_12 (fun H locs hP hD hS => ?_)
  have hP : va_P D vwCl (kHouse G q0 v_1 ++ kHouse G q1 v1) H := by rw [ev_1]; exact hP
  have hD : va_D A (kHouse G q0 v_1 ++ kHouse G q1 v1) := by rw [ev_1]; exact hD
  refine lv_aload_n hx hb dX6_take_15 rfl (lv_at hl 1 rfl) ?_
  refine va_get (D := D) (ci := 4) (v := .ref (q1 2)) (C := RX6) (T := TX6) (N := 10) hx hb hts hi4 hown hK hP 15 rfl rfl 1 (by decide) hw6 (fun _ h9 => h9) rfl dX6_take_16 ?_
  refine lv_iconst (v := 0) hx hb dX6_take_19 (by decide) ?_
  refine lv_aload_n hx hb dX6_take_20 rfl (lv_at hl 0 rfl) ?_
  refine va_get (D := D) (ci := 4) (v := .ref (q0 2)) (C := RX6) (T := TX6) (N := 10) hx hb hts hi4 hown hK hP 0 rfl rfl 1 (by decide) hw6 (fun _ h9 => h9) rfl dX6_take_21 ?_
  refine lv_iconst (v := 0) hx hb dX6_take_24 (by decide) ?_
  refine lv_bipush (v := 12) hx hb dX6_take_25 (by decide +kernel) ?_
  obtain ⟨v_2, ev_2, hf⟩ := nm_of hf
  refine va_copyi (D := D) (ty := .int) (c0 := G 0) (c1 := G 0) hx hb (hml.trans hl.1.symm) hown hw2 hw3 hw4 hw5 hK hP hD hS 17 2 0 0 rfl rfl rfl rfl rfl (by decide) (by decide) (by decide) (by decide) (by decide) (fun _ _ => rfl) (Nat.le_of_ble_eq_true rfl) (Nat.le_of_ble_eq_true rfl) dX6_take_27 (fun H locs hP hD hS => ?_)
  have hP : va_P D vwCl (kHouse G q0 v_2 ++ kHouse G q1 v1) H := by rw [ev_2]; exact hP
  have hD : va_D A (kHouse G q0 v_2 ++ kHouse G q1 v1) := by rw [ev_2]; exact hD
  refine lv_aload_n hx hb dX6_take_30 rfl (lv_at hl 0 rfl) ?_
  refine va_get (D := D) (ci := 4) (v := .ref (q0 3)) (C := RX6) (T := TX6) (N := 10) hx hb hts hi4 hown hK hP 0 rfl rfl 2 (by decide) hw7 (fun _ h9 => h9) rfl dX6_take_31 ?_
  refine lv_aload_n hx hb dX6_take_34 rfl (lv_at hl 1 rfl) ?_
  refine va_get (D := D) (ci := 4) (v := .ref (q1 3)) (C := RX6) (T := TX6) (N := 10) hx hb hts hi4 hown hK hP 15 rfl rfl 2 (by decide) hw7 (fun _ h9 => h9) rfl dX6_take_35 ?_
  obtain ⟨w_3, hc, hf⟩ := bd1_of hf
  refine k_V (As := [.ref (q1 3)]) (rest := []) (ws1 := (kHouse G q0 (mLines v_2 w_3) ++ kHouse G q1 v1)) ⟨hx, hb, hml, hown, hts⟩ (c_X7_take l D G q0 q1  v_2 v1 _ hc  _) (cwV 1 hts gX6_take_X7_take rfl rfl rfl (by decide +kernel) ⟨Nat.le_of_ble_eq_true rfl, Nat.le_of_ble_eq_true rfl⟩) hl.1 (Nat.le_of_ble_eq_true rfl) dX6_take_38 ⟨Nat.le_of_ble_eq_true rfl, Nat.le_of_ble_eq_true rfl⟩ rfl kT_bl (fun _ _ _ => trivial) hN hK hP hD hS hA 3 5 rfl rfl rfl [3, 4, 5, 6, 18, 19, 20, 21] [0, 1, 2, 7, 8, 9, 10, 11, 12, 13, 14, 15, 16, 17, 22, 23, 24, 25, 26, 27, 28, 29] [0, 1, 2, 22, 23, 24, 25, 3, 4, 5, 6, 7, 8, 9, 10, 11, 12, 13, 26, 27, 28, 29, 14, 15, 16, 17, 18, 19, 20, 21] [0, 1, 2, 3] rfl rfl rfl ⟨by decide, by decide, by decide, by decide⟩ rfl (fun H locs hP hD hS => ?_)
  obtain ⟨v_4, ev_4, hf⟩ := nm_of hf
  have hP : va_P D vwCl (kHouse G q0 v_4 ++ kHouse G q1 v1) H := by rw [ev_4]; exact hP
  have hD : va_D A (kHouse G q0 v_4 ++ kHouse G q1 v1) := by rw [ev_4]; exact hD
  refine lv_aload_n hx hb dX6_take_41 rfl (lv_at hl 0 rfl) ?_
  refine va_get (D := D) (ci := 4) (v := .ref (q0 7)) (C := RX6) (T := TX6) (N := 10) hx hb hts hi4 hown hK hP 0 rfl rfl 3 (by decide) hw8 (fun _ h9 => h9) rfl dX6_take_42 ?_
  refine lv_aload_n hx hb dX6_take_45 rfl (lv_at hl 1 rfl) ?_
  refine va_get (D := D) (ci := 4) (v := .ref (q1 7)) (C := RX6) (T := TX6) (N := 10) hx hb hts hi4 hown hK hP 15 rfl rfl 3 (by decide) hw8 (fun _ h9 => h9) rfl dX6_take_46 ?_
  obtain ⟨w_5, hc, hf⟩ := bd1_of hf
  refine k_V (As := [.ref (q1 7)]) (rest := []) (ws1 := (kHouse G q0 (mGreetings v_4 w_5) ++ kHouse G q1 v1)) ⟨hx, hb, hml, hown, hts⟩ (c_X4_take l D G q0 q1  v_4 v1 _ hc  _) (cwV 1 hts gX6_take_X4_take rfl rfl rfl (by decide +kernel) ⟨Nat.le_of_ble_eq_true rfl, Nat.le_of_ble_eq_true rfl⟩) hl.1 (Nat.le_of_ble_eq_true rfl) dX6_take_49 ⟨Nat.le_of_ble_eq_true rfl, Nat.le_of_ble_eq_true rfl⟩ rfl kT_bl (fun _ _ _ => trivial) hN hK hP hD hS hA 7 2 rfl rfl rfl [7, 8, 9, 22, 23, 24] [0, 1, 2, 3, 4, 5, 6, 10, 11, 12, 13, 14, 15, 16, 17, 18, 19, 20, 21, 25, 26, 27, 28, 29] [0, 1, 2, 3, 4, 5, 6, 24, 25, 26, 7, 8, 9, 10, 11, 12, 13, 14, 15, 16, 17, 18, 27, 28, 29, 19, 20, 21, 22, 23] [0, 1, 2, 3] rfl rfl rfl ⟨by decide, by decide, by decide, by decide⟩ rfl (fun H locs hP hD hS => ?_)
  obtain ⟨v_6, ev_6, hf⟩ := nm_of hf
  have hP : va_P D vwCl (kHouse G q0 v_6 ++ kHouse G q1 v1) H := by rw [ev_6]; exact hP
  have hD : va_D A (kHouse G q0 v_6 ++ kHouse G q1 v1) := by rw [ev_6]; exact hD
  refine lv_aload_n hx hb dX6_take_52 rfl (lv_at hl 0 rfl) ?_
  refine va_get (D := D) (ci := 4) (v := .ref (q0 10)) (C := RX6) (T := TX6) (N := 10) hx hb hts hi4 hown hK hP 0 rfl rfl 4 (by decide) hw9 (fun _ h9 => h9) rfl dX6_take_53 ?_
  refine lv_aload_n hx hb dX6_take_56 rfl (lv_at hl 1 rfl) ?_
  refine va_get (D := D) (ci := 4) (v := .ref (q1 10)) (C := RX6) (T := TX6) (N := 10) hx hb hts hi4 hown hK hP 15 rfl rfl 4 (by decide) hw9 (fun _ h9 => h9) rfl dX6_take_57 ?_
  obtain ⟨w_7, hc, hf⟩ := bd1_of hf
  refine k_V (As := [.ref (q1 10)]) (rest := []) (ws1 := (kHouse G q0 (mCats v_6 w_7) ++ kHouse G q1 v1)) ⟨hx, hb, hml, hown, hts⟩ (c_X1_take l D G q0 q1  v_6 v1 _ hc  _) (cwV 1 hts gX6_take_X1_take rfl rfl rfl (by decide +kernel) ⟨Nat.le_of_ble_eq_true rfl, Nat.le_of_ble_eq_true rfl⟩) hl.1 (Nat.le_of_ble_eq_true rfl) dX6_take_60 ⟨Nat.le_of_ble_eq_true rfl, Nat.le_of_ble_eq_true rfl⟩ rfl kT_bl (fun _ _ _ => trivial) hN hK hP hD hS hA 10 1 rfl rfl rfl [10, 11, 12, 13, 25, 26, 27, 28] [0, 1, 2, 3, 4, 5, 6, 7, 8, 9, 14, 15, 16, 17, 18, 19, 20, 21, 22, 23, 24, 29] [0, 1, 2, 3, 4, 5, 6, 7, 8, 9, 22, 23, 24, 25, 10, 11, 12, 13, 14, 15, 16, 17, 18, 19, 20, 26, 27, 28, 29, 21] [0, 1, 2, 3] rfl rfl rfl ⟨by decide, by decide, by decide, by decide⟩ rfl (fun H locs hP hD hS => ?_)
  obtain ⟨v_8, ev_8, hf⟩ := nm_of hf
  have hP : va_P D vwCl (kHouse G q0 v_8 ++ kHouse G q1 v1) H := by rw [ev_8]; exact hP
  have hD : va_D A (kHouse G q0 v_8 ++ kHouse G q1 v1) := by rw [ev_8]; exact hD
  refine lv_aload_n hx hb dX6_take_63 rfl (lv_at hl 0 rfl) ?_
  refine lv_aload_n hx hb dX6_take_64 rfl (lv_at hl 1 rfl) ?_
  refine va_get (D := D) (ci := 4) (v := .int (v1.1 0)) (C := RX6) (T := TX6) (N := 10) hx hb hts hi4 hown hK hP 15 rfl rfl 6 (by decide) hw10 (fun _ h9 => h9) rfl dX6_take_65 ?_
  obtain ⟨v_9, ev_9, hf⟩ := nm_of hf
  refine va_put (D := D) (ci := 4) (v := .int (v1.1 0)) (ty := .int) (C := RX6) (T := TX6) (N := 10) hx hb hts hi4 tyX6 tyX6_ok nmX6 hown hK hP hD hS 0 rfl rfl 6 (by decide) hw10 (fun _ h9 => h9) rfl (by decide +kernel) rfl rfl (Nat.le_of_ble_eq_true rfl) dX6_take_68 (fun H locs hP hD hS => ?_)
  have hP : va_P D vwCl (kHouse G q0 v_9 ++ kHouse G q1 v1) H := by rw [ev_9]; exact hP
  have hD : va_D A (kHouse G q0 v_9 ++ kHouse G q1 v1) := by rw [ev_9]; exact hD
  refine lv_aload_n hx hb dX6_take_71 rfl (lv_at hl 0 rfl) ?_
  refine lv_aload_n hx hb dX6_take_72 rfl (lv_at hl 1 rfl) ?_
  refine va_get (D := D) (ci := 4) (v := .int (v1.1 1)) (C := RX6) (T := TX6) (N := 10) hx hb hts hi4 hown hK hP 15 rfl rfl 7 (by decide) hw11 (fun _ h9 => h9) rfl dX6_take_73 ?_
  obtain ⟨v_10, ev_10, hf⟩ := nm_of hf
  refine va_put (D := D) (ci := 4) (v := .int (v1.1 1)) (ty := .int) (C := RX6) (T := TX6) (N := 10) hx hb hts hi4 tyX6 tyX6_ok nmX6 hown hK hP hD hS 0 rfl rfl 7 (by decide) hw11 (fun _ h9 => h9) rfl (by decide +kernel) rfl rfl (Nat.le_of_ble_eq_true rfl) dX6_take_76 (fun H locs hP hD hS => ?_)
  have hP : va_P D vwCl (kHouse G q0 v_10 ++ kHouse G q1 v1) H := by rw [ev_10]; exact hP
  have hD : va_D A (kHouse G q0 v_10 ++ kHouse G q1 v1) := by rw [ev_10]; exact hD
  refine lv_aload_n hx hb dX6_take_79 rfl (lv_at hl 0 rfl) ?_
  refine lv_aload_n hx hb dX6_take_80 rfl (lv_at hl 1 rfl) ?_
  refine va_get (D := D) (ci := 4) (v := .int (v1.1 2)) (C := RX6) (T := TX6) (N := 10) hx hb hts hi4 hown hK hP 15 rfl rfl 8 (by decide) hw12 (fun _ h9 => h9) rfl dX6_take_81 ?_
  obtain ⟨v_11, ev_11, hf⟩ := nm_of hf
  refine va_put (D := D) (ci := 4) (v := .int (v1.1 2)) (ty := .int) (C := RX6) (T := TX6) (N := 10) hx hb hts hi4 tyX6 tyX6_ok nmX6 hown hK hP hD hS 0 rfl rfl 8 (by decide) hw12 (fun _ h9 => h9) rfl (by decide +kernel) rfl rfl (Nat.le_of_ble_eq_true rfl) dX6_take_84 (fun H locs hP hD hS => ?_)
  have hP : va_P D vwCl (kHouse G q0 v_11 ++ kHouse G q1 v1) H := by rw [ev_11]; exact hP
  have hD : va_D A (kHouse G q0 v_11 ++ kHouse G q1 v1) := by rw [ev_11]; exact hD
  refine lv_aload_n hx hb dX6_take_87 rfl (lv_at hl 0 rfl) ?_
  refine lv_aload_n hx hb dX6_take_88 rfl (lv_at hl 1 rfl) ?_
  refine va_get (D := D) (ci := 4) (v := .int (v1.1 3)) (C := RX6) (T := TX6) (N := 10) hx hb hts hi4 hown hK hP 15 rfl rfl 9 (by decide) hw13 (fun _ h9 => h9) rfl dX6_take_89 ?_
  obtain ⟨v_12, ev_12, hf⟩ := nm_of hf
  refine va_put (D := D) (ci := 4) (v := .int (v1.1 3)) (ty := .int) (C := RX6) (T := TX6) (N := 10) hx hb hts hi4 tyX6 tyX6_ok nmX6 hown hK hP hD hS 0 rfl rfl 9 (by decide) hw13 (fun _ h9 => h9) rfl (by decide +kernel) rfl rfl (Nat.le_of_ble_eq_true rfl) dX6_take_92 (fun H locs hP hD hS => ?_)
  have hP : va_P D vwCl (kHouse G q0 v_12 ++ kHouse G q1 v1) H := by rw [ev_12]; exact hP
  have hD : va_D A (kHouse G q0 v_12 ++ kHouse G q1 v1) := by rw [ev_12]; exact hD
  obtain rfl := re1 hf
  exact hE hP hD hS dX6_take_95
def f_X6_isFeud (a1 : Int32) (a2 : Int32) (v0 : SV) : Option Int32 :=
  if a1 = a2 then
    some 0
  else
    if (a1 - a1 / 4 * 4) = (a2 - a2 / 4 * 4) then
      nm (if a1 < a2 then a2 else a1) fun t_1 =>
      nm (if a2 < a1 then a2 else a1) fun t_2 =>
      ckI t_1 12 <|
      ckI t_2 12 <|
      if (v0.2 0 t_1.toNatClampNeg) ≤ (v0.2 1 t_2.toNatClampNeg) then
        some 0
      else
        bd1 (f_X7_between t_2 t_1 v0) fun r_3 =>
        if 0 ≤ r_3 then
          some 0
        else
          some 1
    else
      some 0
abbrev rm_X6_isFeud : Room := { frames := 1, cells := 0, slots := 0, locals := 25 }
set_option maxHeartbeats 4000000 in
set_option maxRecDepth 100000 in
theorem c_X6_isFeud (l : Launch) (D : va_G) (G : Nat → ClassId) (q0 : Nat → Nat) (a1 : Int32) (a2 : Int32) (v0 : SV) (r : Int32) (hf : f_X6_isFeud a1 a2 v0 = some r) (sz : Nat) : mC l yX6_isFeud wsX6_isFeud rm_X6_isFeud D (tyG G) kT [.ref (q0 0), .int a1, .int a2] (kHouse G q0 v0) (kHouse G q0 v0) sz (some (.int r)) 0 0 := by
  refine mC_ofZ (cc := cX6_isFeud) (maxL := 5) (ret := (some .boolean)) (by decide) rfl rfl (Nat.le_of_ble_eq_true rfl) ?_
  intro p e s m args below meth c Q0 hx hb hml hts hown hN hK A hD hA hE hP hS hJ ls hl
  have hl : lv_has ls 5 [(0, .ref (q0 0)), (1, .int a1), (2, .int a2)] := hl
  unfold f_X6_isFeud at hf
  have hi4 : ∀ w ∈ u_ws RX6 TX6 10, w ∈ wsX6_isFeud := by decide +kernel
  have hw1 := hts (.methodLink RX6 112 Lib.Math.max.name) (by decide +kernel)
  have hw2 := hts (.static Lib.Math.max.name) (by decide +kernel)
  have hw3 := hts (.initialized "java/lang/Math") (by decide +kernel)
  have hw4 := hts (.code Lib.Math.max.name Lib.Math.max.code 2 (some .int)) (by decide +kernel)
  have hw5 := hts (.methodLink RX6 143 Lib.Math.min.name) (by decide +kernel)
  have hw6 := hts (.static Lib.Math.min.name) (by decide +kernel)
  have hw7 := hts (.code Lib.Math.min.name Lib.Math.min.code 2 (some .int)) (by decide +kernel)
  have hw8 := hts (.fieldLink RX6 9 "BalconyCensus$House" "plants" "[I") (by decide +kernel)
  have hw9 := hts (.fieldLink RX6 15 "BalconyCensus$House" "tolerances" "[I") (by decide +kernel)
  have hw10 := hts (.fieldLink RX6 21 "BalconyCensus$House" "lines" "LBalconyCensus$Lines;") (by decide +kernel)
  refine lv_iload_n hx hb dX6_isFeud_0 rfl (lv_at hl 1 rfl) ?_
  refine lv_iload_n hx hb dX6_isFeud_1 rfl (lv_at hl 2 rfl) ?_
  refine lv_icmp_eq (tgt := 14) hx hb dX6_isFeud_2 (by decide) (fun cc => ?_) (fun cc => ?_)
  · replace hf := ifT cc hf
    refine lv_iconst (v := 0) hx hb dX6_isFeud_14 (by decide) ?_
    obtain rfl := re1 hf
    exact hE (.inl rfl) hP hD hS dX6_isFeud_15
  · replace hf := ifF cc hf
    refine lv_iload_n hx hb dX6_isFeud_5 rfl (lv_at hl 1 rfl) ?_
    refine lv_iconst (v := 4) hx hb dX6_isFeud_6 (by decide) ?_
    refine lv_irem hx hb dX6_isFeud_7 (by decide) ?_
    refine lv_iload_n hx hb dX6_isFeud_8 rfl (lv_at hl 2 rfl) ?_
    refine lv_iconst (v := 4) hx hb dX6_isFeud_9 (by decide) ?_
    refine lv_irem hx hb dX6_isFeud_10 (by decide) ?_
    refine lv_icmp_eq (tgt := 16) hx hb dX6_isFeud_11 (by decide) (fun cc => ?_) (fun cc => ?_)
    · replace hf := ifT cc hf
      refine lv_iload_n hx hb dX6_isFeud_16 rfl (lv_at hl 1 rfl) ?_
      refine lv_iload_n hx hb dX6_isFeud_17 rfl (lv_at hl 2 rfl) ?_
      refine va_mmax hx hb (hml.trans hl.1.symm) hown hw1 hw2 hw3 hw4 (Nat.le_of_ble_eq_true rfl) (Nat.le_of_ble_eq_true rfl) (Nat.zero_le _) (Nat.zero_le _) dX6_isFeud_18 ?_
      obtain ⟨t_1, et_1, hf⟩ := nm_of hf
      rw [← et_1]
      refine lv_istore_n (lv' := [(3, .int t_1), (0, .ref (q0 0)), (1, .int a1), (2, .int a2)]) hx hb dX6_isFeud_21 rfl hl (by decide) rfl (fun ls hl => ?_)
      refine lv_iload_n hx hb dX6_isFeud_22 rfl (lv_at hl 2 rfl) ?_
      refine lv_iload_n hx hb dX6_isFeud_23 rfl (lv_at hl 3 rfl) ?_
      refine va_mmin hx hb (hml.trans hl.1.symm) hown hw5 hw6 hw3 hw7 (Nat.le_of_ble_eq_true rfl) (Nat.le_of_ble_eq_true rfl) (Nat.zero_le _) (Nat.zero_le _) dX6_isFeud_24 ?_
      obtain ⟨t_2, et_2, hf⟩ := nm_of hf
      rw [← et_2]
      refine lv_istore (lv' := [(4, .int t_2), (3, .int t_1), (0, .ref (q0 0)), (1, .int a1), (2, .int a2)]) hx hb dX6_isFeud_27 hl (by decide) rfl (fun ls hl => ?_)
      refine lv_aload_n hx hb dX6_isFeud_29 rfl (lv_at hl 2 rfl) ?_
      refine va_get (D := D) (ci := 4) (v := .ref (q0 1)) (C := RX6) (T := TX6) (N := 10) hx hb hts hi4 hown hK hP 0 rfl rfl 0 (by decide) hw8 (fun _ h9 => h9) rfl dX6_isFeud_30 ?_
      refine lv_iload_n hx hb dX6_isFeud_33 rfl (lv_at hl 1 rfl) ?_
      obtain ⟨hin, hf⟩ := ckI_of hf
      refine va_iald (D := D) hx hb hK hP 1 0 rfl rfl hin dX6_isFeud_34 ?_
      refine lv_aload_n hx hb dX6_isFeud_35 rfl (lv_at hl 2 rfl) ?_
      refine va_get (D := D) (ci := 4) (v := .ref (q0 2)) (C := RX6) (T := TX6) (N := 10) hx hb hts hi4 hown hK hP 0 rfl rfl 1 (by decide) hw9 (fun _ h9 => h9) rfl dX6_isFeud_36 ?_
      refine lv_iload hx hb dX6_isFeud_39 (lv_at hl 0 rfl) ?_
      obtain ⟨hin, hf⟩ := ckI_of hf
      refine va_iald (D := D) hx hb hK hP 2 0 rfl rfl hin dX6_isFeud_41 ?_
      refine lv_icmp_le (tgt := 62) hx hb dX6_isFeud_42 (by decide) (fun cc => ?_) (fun cc => ?_)
      · replace hf := ifT cc hf
        refine lv_iconst (v := 0) hx hb dX6_isFeud_62 (by decide) ?_
        obtain rfl := re1 hf
        exact hE (.inl rfl) hP hD hS dX6_isFeud_63
      · replace hf := ifF cc hf
        refine lv_aload_n hx hb dX6_isFeud_45 rfl (lv_at hl 2 rfl) ?_
        refine va_get (D := D) (ci := 4) (v := .ref (q0 3)) (C := RX6) (T := TX6) (N := 10) hx hb hts hi4 hown hK hP 0 rfl rfl 2 (by decide) hw10 (fun _ h9 => h9) rfl dX6_isFeud_46 ?_
        refine lv_iload hx hb dX6_isFeud_49 (lv_at hl 0 rfl) ?_
        refine lv_iload_n hx hb dX6_isFeud_51 rfl (lv_at hl 1 rfl) ?_
        obtain ⟨r_3, hc, hf⟩ := bd1_of hf
        refine k_V (As := [.int t_2, .int t_1]) (rest := []) (ws1 := (kHouse G q0 v0)) ⟨hx, hb, hml, hown, hts⟩ (c_X7_between l D G q0 t_2 t_1 v0 _ hc  _) (cwV 2 hts gX6_isFeud_X7_between rfl rfl rfl (by decide +kernel) ⟨Nat.le_of_ble_eq_true rfl, Nat.le_of_ble_eq_true rfl⟩) hl.1 (Nat.le_of_ble_eq_true rfl) dX6_isFeud_52 ⟨Nat.le_of_ble_eq_true rfl, Nat.le_of_ble_eq_true rfl⟩ rfl kT_bl (fun _ _ _ => trivial) hN hK hP hD hS hA 3 5 rfl rfl rfl [3, 4, 5, 6] [0, 1, 2, 7, 8, 9, 10, 11, 12, 13, 14] [0, 1, 2, 11, 12, 13, 14, 3, 4, 5, 6, 7, 8, 9, 10] [0, 1, 2, 3] rfl rfl rfl ⟨by decide, by decide, by decide, by decide⟩ rfl (fun H locs hP hD hS => ?_)
        refine lv_if_ge (tgt := 62) hx hb dX6_isFeud_55 (by decide) (fun cc => ?_) (fun cc => ?_)
        · replace hf := ifT cc hf
          refine lv_iconst (v := 0) hx hb dX6_isFeud_62 (by decide) ?_
          obtain rfl := re1 hf
          exact hE (.inl rfl) hP hD hS dX6_isFeud_63
        · replace hf := ifF cc hf
          refine lv_iconst (v := 1) hx hb dX6_isFeud_58 (by decide) ?_
          refine lv_goto (tgt := 63) hx hb dX6_isFeud_59 (by decide) ?_
          obtain rfl := re1 hf
          exact hE (.inr rfl) hP hD hS dX6_isFeud_63
    · replace hf := ifF cc hf
      refine lv_iconst (v := 0) hx hb dX6_isFeud_14 (by decide) ?_
      obtain rfl := re1 hf
      exact hE (.inl rfl) hP hD hS dX6_isFeud_15
def f_X6_plantSum_K4 (y_7 : Int32) (y_8 : Int32) : Option Int32 :=
  some y_8
def f_X6_plantSum_B4 (v0 : SV) (selfL_5 : (Int32 → Int32 → Option Int32)) (x_3 : Int32) (x_4 : Int32) : Option Int32 :=
  if 12 ≤ x_3 then
    f_X6_plantSum_K4 x_3 x_4
  else
    ckI x_3 12 <|
    nm (x_4 + (v0.2 0 x_3.toNatClampNeg)) fun t_6 =>
    selfL_5 (x_3 + 1) t_6
def f_X6_plantSum (v0 : SV) : Option Int32 :=
  lz2 (f_X6_plantSum_B4 v0) FU 0 0
abbrev rm_X6_plantSum : Room := { frames := 0, cells := 0, slots := 0, locals := 0 }
set_option maxHeartbeats 4000000 in
set_option maxRecDepth 100000 in
theorem c_X6_plantSum (l : Launch) (D : va_G) (G : Nat → ClassId) (q0 : Nat → Nat) (v0 : SV) (r : Int32) (hf : f_X6_plantSum v0 = some r) (sz : Nat) : mC l yX6_plantSum wsX6_plantSum rm_X6_plantSum D (tyG G) kT [.ref (q0 0)] (kHouse G q0 v0) (kHouse G q0 v0) sz (some (.int r)) 0 0 := by
  refine mC_ofI (cc := cX6_plantSum) (maxL := 3) (ret := (some .int)) (by decide) rfl rfl (Nat.le_of_ble_eq_true rfl) ?_
  intro p e s m args below meth c Q0 hx hb hml hts hown hN hK A hD hA hE hP hS hJ ls hl
  have hl : lv_has ls 3 [(0, .ref (q0 0))] := hl
  unfold f_X6_plantSum at hf
  have hi4 : ∀ w ∈ u_ws RX6 TX6 10, w ∈ wsX6_plantSum := by decide +kernel
  have hw1 := hts (.fieldLink RX6 9 "BalconyCensus$House" "plants" "[I") (by decide +kernel)
  refine lv_iconst (v := 0) hx hb dX6_plantSum_0 (by decide) ?_
  refine lv_istore_n (lv' := [(1, .int 0), (0, .ref (q0 0))]) hx hb dX6_plantSum_1 rfl hl (by decide) rfl (fun ls hl => ?_)
  refine lv_iconst (v := 0) hx hb dX6_plantSum_2 (by decide) ?_
  refine lv_istore_n (lv' := [(2, .int 0), (1, .int 0), (0, .ref (q0 0))]) hx hb dX6_plantSum_3 rfl hl (by decide) rfl (fun ls hl => ?_)
  have exL_5 : ∀ (y_7 : Int32) (y_8 : Int32) (H : Heap) (locs : List Loc) (ls : Array Slot), lv_has ls 3 [(2, .int y_7), (1, .int y_8), (0, .ref (q0 0))] → va_P D vwCl (kHouse G q0 v0) H → va_D A (kHouse G q0 v0) → va_S A s.heap H locs → f_X6_plantSum_K4 y_7 y_8 = some r → W p l e rm_X6_plantSum s m args below meth c H locs 0 0 Q0 (F0 m 25 ls []) := by
    intro y_7 y_8 H locs ls hl hP hD hS hf
    unfold f_X6_plantSum_K4 at hf
    refine lv_iload_n hx hb dX6_plantSum_25 rfl (lv_at hl 1 rfl) ?_
    obtain rfl := re1 hf
    exact hE hP hD hS dX6_plantSum_26
  have loL_5 : ∀ (n : Nat) (x_3 : Int32) (x_4 : Int32) (H : Heap) (locs : List Loc) (ls : Array Slot), lv_has ls 3 [(2, .int x_3), (1, .int x_4), (0, .ref (q0 0))] → va_P D vwCl (kHouse G q0 v0) H → va_D A (kHouse G q0 v0) → va_S A s.heap H locs → lz2 (f_X6_plantSum_B4 v0) n x_3 x_4 = some r → W p l e rm_X6_plantSum s m args below meth c H locs 0 0 Q0 (F0 m 4 ls []) := by
    intro n
    induction n with
    | zero => intro x_3 x_4 H locs ls hl hP hD hS hf; cases hf
    | succ n ihL_5 =>
      intro x_3 x_4 H locs ls hl hP hD hS hf
      replace hf := lz2_s hf
      unfold f_X6_plantSum_B4 at hf
      refine lv_iload_n hx hb dX6_plantSum_4 rfl (lv_at hl 0 rfl) ?_
      refine lv_bipush (v := 12) hx hb dX6_plantSum_5 (by decide +kernel) ?_
      refine lv_icmp_ge (tgt := 25) hx hb dX6_plantSum_7 (by decide) (fun cc => ?_) (fun cc => ?_)
      · replace hf := ifT cc hf
        exact exL_5 x_3 x_4 _ _ _ (lv_sub hl [0, 1, 2] rfl) hP hD hS hf
      · replace hf := ifF cc hf
        refine lv_iload_n hx hb dX6_plantSum_10 rfl (lv_at hl 1 rfl) ?_
        refine lv_aload_n hx hb dX6_plantSum_11 rfl (lv_at hl 2 rfl) ?_
        refine va_get (D := D) (ci := 4) (v := .ref (q0 1)) (C := RX6) (T := TX6) (N := 10) hx hb hts hi4 hown hK hP 0 rfl rfl 0 (by decide) hw1 (fun _ h9 => h9) rfl dX6_plantSum_12 ?_
        refine lv_iload_n hx hb dX6_plantSum_15 rfl (lv_at hl 0 rfl) ?_
        obtain ⟨hin, hf⟩ := ckI_of hf
        refine va_iald (D := D) hx hb hK hP 1 0 rfl rfl hin dX6_plantSum_16 ?_
        refine lv_iadd hx hb dX6_plantSum_17 ?_
        obtain ⟨t_6, et_6, hf⟩ := nm_of hf
        rw [← et_6]
        refine lv_istore_n (lv' := [(1, .int t_6), (2, .int x_3), (0, .ref (q0 0))]) hx hb dX6_plantSum_18 rfl hl (by decide) rfl (fun ls hl => ?_)
        refine lv_iinc (v := (x_3 + 1)) (lv' := [(2, .int (x_3 + 1)), (1, .int t_6), (0, .ref (q0 0))]) hx hb dX6_plantSum_19 hl (k := 1) rfl rfl (by decide) rfl (fun ls hl => ?_)
        refine lv_goto (tgt := 4) hx hb dX6_plantSum_22 (by decide) ?_
        exact ihL_5 (x_3 + 1) t_6 _ _ _ (lv_sub hl [0, 1, 2] rfl) hP hD hS hf
  exact loL_5 FU 0 0 _ _ _ hl hP hD hS hf
def f_X6_besideOf (a0 : Int32) (a1 : Int32) : Option Int32 :=
  if a1 = 0 then
    if a0 < 4 then
      some (-1)
    else
      some (a0 - 4)
  else
  if a1 = 1 then
    if (a0 - a0 / 4 * 4) ≤ 0 then
      some (-1)
    else
      some (a0 - 1)
  else
  if a1 = 2 then
    if 3 ≤ (a0 - a0 / 4 * 4) then
      some (-1)
    else
      some (a0 + 1)
  else
  if 8 ≤ a0 then
    some (-1)
  else
    some (a0 + 4)
abbrev rm_X6_besideOf : Room := { frames := 0, cells := 0, slots := 0, locals := 0 }
set_option maxHeartbeats 4000000 in
set_option maxRecDepth 100000 in
theorem c_X6_besideOf (l : Launch) (D : va_G) (G : Nat → ClassId) (a0 : Int32) (a1 : Int32) (r : Int32) (hf : f_X6_besideOf a0 a1 = some r) (sz : Nat) : mC l yX6_besideOf wsX6_besideOf rm_X6_besideOf D (tyG G) kT [.int a0, .int a1] ([] : va_W) ([] : va_W) sz (some (.int r)) 0 0 := by
  refine mC_ofI (cc := cX6_besideOf) (maxL := 2) (ret := (some .int)) (by decide) rfl rfl (Nat.le_of_ble_eq_true rfl) ?_
  intro p e s m args below meth c Q0 hx hb hml hts hown hN hK A hD hA hE hP hS hJ ls hl
  have hl : lv_has ls 2 [(0, .int a0), (1, .int a1)] := hl
  unfold f_X6_besideOf at hf
  refine lv_iload_n hx hb dX6_besideOf_0 rfl (lv_at hl 1 rfl) ?_
  by_cases c0 : a1 = 0
  · replace hf := ifT c0 hf
    refine lv_tableIn (off := 27) (tgt := 28) hx hb dX6_besideOf_1 (by rw [c0]; decide) (by rw [c0]; decide) (by rw [c0]; rfl) (by decide) ?_
    refine lv_iload_n hx hb dX6_besideOf_28 rfl (lv_at hl 0 rfl) ?_
    refine lv_iconst (v := 4) hx hb dX6_besideOf_29 (by decide) ?_
    refine lv_icmp_lt (tgt := 39) hx hb dX6_besideOf_30 (by decide) (fun cc => ?_) (fun cc => ?_)
    · replace hf := ifT cc hf
      refine lv_iconst (v := (-1)) hx hb dX6_besideOf_39 (by decide) ?_
      obtain rfl := re1 hf
      exact hE hP hD hS dX6_besideOf_40
    · replace hf := ifF cc hf
      refine lv_iload_n hx hb dX6_besideOf_33 rfl (lv_at hl 0 rfl) ?_
      refine lv_iconst (v := 4) hx hb dX6_besideOf_34 (by decide) ?_
      refine lv_isub hx hb dX6_besideOf_35 ?_
      refine lv_goto (tgt := 40) hx hb dX6_besideOf_36 (by decide) ?_
      obtain rfl := re1 hf
      exact hE hP hD hS dX6_besideOf_40
  replace hf := ifF c0 hf
  by_cases c1 : a1 = 1
  · replace hf := ifT c1 hf
    refine lv_tableIn (off := 40) (tgt := 41) hx hb dX6_besideOf_1 (by rw [c1]; decide) (by rw [c1]; decide) (by rw [c1]; rfl) (by decide) ?_
    refine lv_iload_n hx hb dX6_besideOf_41 rfl (lv_at hl 0 rfl) ?_
    refine lv_iconst (v := 4) hx hb dX6_besideOf_42 (by decide) ?_
    refine lv_irem hx hb dX6_besideOf_43 (by decide) ?_
    refine lv_if_le (tgt := 53) hx hb dX6_besideOf_44 (by decide) (fun cc => ?_) (fun cc => ?_)
    · replace hf := ifT cc hf
      refine lv_iconst (v := (-1)) hx hb dX6_besideOf_53 (by decide) ?_
      obtain rfl := re1 hf
      exact hE hP hD hS dX6_besideOf_54
    · replace hf := ifF cc hf
      refine lv_iload_n hx hb dX6_besideOf_47 rfl (lv_at hl 0 rfl) ?_
      refine lv_iconst (v := 1) hx hb dX6_besideOf_48 (by decide) ?_
      refine lv_isub hx hb dX6_besideOf_49 ?_
      refine lv_goto (tgt := 54) hx hb dX6_besideOf_50 (by decide) ?_
      obtain rfl := re1 hf
      exact hE hP hD hS dX6_besideOf_54
  replace hf := ifF c1 hf
  by_cases c2 : a1 = 2
  · replace hf := ifT c2 hf
    refine lv_tableIn (off := 54) (tgt := 55) hx hb dX6_besideOf_1 (by rw [c2]; decide) (by rw [c2]; decide) (by rw [c2]; rfl) (by decide) ?_
    refine lv_iload_n hx hb dX6_besideOf_55 rfl (lv_at hl 0 rfl) ?_
    refine lv_iconst (v := 4) hx hb dX6_besideOf_56 (by decide) ?_
    refine lv_irem hx hb dX6_besideOf_57 (by decide) ?_
    refine lv_iconst (v := 3) hx hb dX6_besideOf_58 (by decide) ?_
    refine lv_icmp_ge (tgt := 68) hx hb dX6_besideOf_59 (by decide) (fun cc => ?_) (fun cc => ?_)
    · replace hf := ifT cc hf
      refine lv_iconst (v := (-1)) hx hb dX6_besideOf_68 (by decide) ?_
      obtain rfl := re1 hf
      exact hE hP hD hS dX6_besideOf_69
    · replace hf := ifF cc hf
      refine lv_iload_n hx hb dX6_besideOf_62 rfl (lv_at hl 0 rfl) ?_
      refine lv_iconst (v := 1) hx hb dX6_besideOf_63 (by decide) ?_
      refine lv_iadd hx hb dX6_besideOf_64 ?_
      refine lv_goto (tgt := 69) hx hb dX6_besideOf_65 (by decide) ?_
      obtain rfl := re1 hf
      exact hE hP hD hS dX6_besideOf_69
  replace hf := ifF c2 hf
  refine lv_tableOut (tgt := 70) hx hb dX6_besideOf_1 (by have e0 := sw_ne (z := 0) c0 (by decide); have e1 := sw_ne (z := 1) c1 (by decide); have e2 := sw_ne (z := 2) c2 (by decide); omega) (by decide) ?_
  refine lv_iload_n hx hb dX6_besideOf_70 rfl (lv_at hl 0 rfl) ?_
  refine lv_bipush (v := 8) hx hb dX6_besideOf_71 (by decide +kernel) ?_
  refine lv_icmp_ge (tgt := 82) hx hb dX6_besideOf_73 (by decide) (fun cc => ?_) (fun cc => ?_)
  · replace hf := ifT cc hf
    refine lv_iconst (v := (-1)) hx hb dX6_besideOf_82 (by decide) ?_
    obtain rfl := re1 hf
    exact hE hP hD hS dX6_besideOf_83
  · replace hf := ifF cc hf
    refine lv_iload_n hx hb dX6_besideOf_76 rfl (lv_at hl 0 rfl) ?_
    refine lv_iconst (v := 4) hx hb dX6_besideOf_77 (by decide) ?_
    refine lv_iadd hx hb dX6_besideOf_78 ?_
    refine lv_goto (tgt := 83) hx hb dX6_besideOf_79 (by decide) ?_
    obtain rfl := re1 hf
    exact hE hP hD hS dX6_besideOf_83
def f_X6_stepFrom (a1 : Int32) (a2 : Int32) (v0 : SV) : Option Int32 :=
  bd1 (f_X6_besideOf a1 a2) fun r_1 =>
  if r_1 < 0 then
    some (-1)
  else
    bd1 (f_X6_isFeud a1 r_1 v0) fun r_2 =>
    if r_2 = 0 then
      some r_1
    else
      some (-1)
abbrev rm_X6_stepFrom : Room := { frames := 2, cells := 0, slots := 0, locals := 49 }
set_option maxHeartbeats 4000000 in
set_option maxRecDepth 100000 in
theorem c_X6_stepFrom (l : Launch) (D : va_G) (G : Nat → ClassId) (q0 : Nat → Nat) (a1 : Int32) (a2 : Int32) (v0 : SV) (r : Int32) (hf : f_X6_stepFrom a1 a2 v0 = some r) (sz : Nat) : mC l yX6_stepFrom wsX6_stepFrom rm_X6_stepFrom D (tyG G) kT [.ref (q0 0), .int a1, .int a2] (kHouse G q0 v0) (kHouse G q0 v0) sz (some (.int r)) 0 0 := by
  refine mC_ofI (cc := cX6_stepFrom) (maxL := 4) (ret := (some .int)) (by decide) rfl rfl (Nat.le_of_ble_eq_true rfl) ?_
  intro p e s m args below meth c Q0 hx hb hml hts hown hN hK A hD hA hE hP hS hJ ls hl
  have hl : lv_has ls 4 [(0, .ref (q0 0)), (1, .int a1), (2, .int a2)] := hl
  unfold f_X6_stepFrom at hf
  refine lv_iload_n hx hb dX6_stepFrom_0 rfl (lv_at hl 1 rfl) ?_
  refine lv_iload_n hx hb dX6_stepFrom_1 rfl (lv_at hl 2 rfl) ?_
  obtain ⟨r_1, hc, hf⟩ := bd1_of hf
  refine k_S (As := [.int a1, .int a2]) (rest := []) (ws1 := (kHouse G q0 v0)) ⟨hx, hb, hml, hown, hts⟩ (c_X6_besideOf l D G  a1 a2  _ hc  _) (va_cwS 2 hts gX6_stepFrom_X6_besideOf rfl rfl rfl (by decide +kernel) ⟨Nat.le_of_ble_eq_true rfl, Nat.le_of_ble_eq_true rfl⟩) hl.1 (Nat.le_of_ble_eq_true rfl) dX6_stepFrom_2 ⟨Nat.le_of_ble_eq_true rfl, Nat.le_of_ble_eq_true rfl⟩ rfl kT_bl (fun _ _ _ => trivial) hN hK hP hD hS hA [] [0, 1, 2, 3, 4, 5, 6, 7, 8, 9, 10, 11, 12, 13, 14] [0, 1, 2, 3, 4, 5, 6, 7, 8, 9, 10, 11, 12, 13, 14] [0, 1, 2, 3] rfl rfl rfl ⟨by decide, by decide, by decide, by decide⟩ rfl (fun H locs hP hD hS => ?_)
  refine lv_istore_n (lv' := [(3, .int r_1), (0, .ref (q0 0)), (1, .int a1), (2, .int a2)]) hx hb dX6_stepFrom_5 rfl hl (by decide) rfl (fun ls hl => ?_)
  refine lv_iload_n hx hb dX6_stepFrom_6 rfl (lv_at hl 0 rfl) ?_
  refine lv_if_lt (tgt := 19) hx hb dX6_stepFrom_7 (by decide) (fun cc => ?_) (fun cc => ?_)
  · replace hf := ifT cc hf
    refine lv_iconst (v := (-1)) hx hb dX6_stepFrom_19 (by decide) ?_
    refine lv_goto (tgt := 24) hx hb dX6_stepFrom_20 (by decide) ?_
    obtain rfl := re1 hf
    exact hE hP hD hS dX6_stepFrom_24
  · replace hf := ifF cc hf
    refine lv_aload_n hx hb dX6_stepFrom_10 rfl (lv_at hl 1 rfl) ?_
    refine lv_iload_n hx hb dX6_stepFrom_11 rfl (lv_at hl 2 rfl) ?_
    refine lv_iload_n hx hb dX6_stepFrom_12 rfl (lv_at hl 0 rfl) ?_
    obtain ⟨r_2, hc, hf⟩ := bd1_of hf
    refine k_V (As := [.int a1, .int r_1]) (rest := []) (ws1 := (kHouse G q0 v0)) ⟨hx, hb, hml, hown, hts⟩ (c_X6_isFeud l D G q0 a1 r_1 v0 _ hc  _) (cwV 2 hts gX6_stepFrom_X6_isFeud rfl rfl rfl (by decide +kernel) ⟨Nat.le_of_ble_eq_true rfl, Nat.le_of_ble_eq_true rfl⟩) hl.1 (Nat.le_of_ble_eq_true rfl) dX6_stepFrom_13 ⟨Nat.le_of_ble_eq_true rfl, Nat.le_of_ble_eq_true rfl⟩ rfl kT_bl (fun _ _ _ => trivial) hN hK hP hD hS hA 0 4 rfl rfl rfl [0, 1, 2, 3, 4, 5, 6, 7, 8, 9, 10, 11, 12, 13, 14] [] [0, 1, 2, 3, 4, 5, 6, 7, 8, 9, 10, 11, 12, 13, 14] [0, 1, 2, 3] rfl rfl rfl ⟨by decide, by decide, by decide, by decide⟩ rfl (fun H locs hP hD hS => ?_)
    refine lv_if_eq (tgt := 23) hx hb dX6_stepFrom_16 (by decide) (fun cc => ?_) (fun cc => ?_)
    · replace hf := ifT cc hf
      refine lv_iload_n hx hb dX6_stepFrom_23 rfl (lv_at hl 0 rfl) ?_
      obtain rfl := re1 hf
      exact hE hP hD hS dX6_stepFrom_24
    · replace hf := ifF cc hf
      refine lv_iconst (v := (-1)) hx hb dX6_stepFrom_19 (by decide) ?_
      refine lv_goto (tgt := 24) hx hb dX6_stepFrom_20 (by decide) ?_
      obtain rfl := re1 hf
      exact hE hP hD hS dX6_stepFrom_24
def f_X6_growsBy_K21 (y_4 : Int32) : Option Int32 :=
  some 1
def f_X6_growsBy_B21 (n0 : Nat) (a1 : Int32) (v0 : (Nat → Int32)) (selfL_3 : (Int32 → Option Int32)) (x_2 : Int32) : Option Int32 :=
  if 12 ≤ x_2 then
    f_X6_growsBy_K21 x_2
  else
    ckI x_2 n0 <|
    ckI a1 n0 <|
    if (v0 x_2.toNatClampNeg) ≤ (v0 a1.toNatClampNeg) then
      selfL_3 (x_2 + 4)
    else
      some 0
def f_X6_growsBy (a1 : Int32) (n0 : Nat) (v0 : Nat → Int32) : Option Int32 :=
  ckI a1 n0 <|
  if (v0 a1.toNatClampNeg) < 1 then
    some 0
  else
    ckI a1 n0 <|
    if (v0 a1.toNatClampNeg) < 9 then
      lz1 (f_X6_growsBy_B21 n0 a1 v0) FU (a1 + 4)
    else
      some 0
abbrev rm_X6_growsBy : Room := { frames := 0, cells := 0, slots := 0, locals := 0 }
set_option maxHeartbeats 4000000 in
set_option maxRecDepth 100000 in
theorem c_X6_growsBy (l : Launch) (D : va_G) (G : Nat → ClassId) (b0 n0 : Nat) (a1 : Int32) (v0 : Nat → Int32) (r : Int32) (hf : f_X6_growsBy a1 n0 v0 = some r) (sz : Nat) : mC l yX6_growsBy wsX6_growsBy rm_X6_growsBy D (tyG G) kT [.ref b0, .int a1] (kArr G b0 n0 v0) (kArr G b0 n0 v0) sz (some (.int r)) 0 0 := by
  refine mC_ofZ (cc := cX6_growsBy) (maxL := 3) (ret := (some .boolean)) (by decide) rfl rfl (Nat.le_of_ble_eq_true rfl) ?_
  intro p e s m args below meth c Q0 hx hb hml hts hown hN hK A hD hA hE hP hS hJ ls hl
  have hl : lv_has ls 3 [(0, .ref b0), (1, .int a1)] := hl
  unfold f_X6_growsBy at hf
  refine lv_aload_n hx hb dX6_growsBy_0 rfl (lv_at hl 0 rfl) ?_
  refine lv_iload_n hx hb dX6_growsBy_1 rfl (lv_at hl 1 rfl) ?_
  obtain ⟨hin, hf⟩ := ckI_of hf
  refine va_iald (D := D) hx hb hK hP 0 0 rfl rfl hin dX6_growsBy_2 ?_
  refine lv_iconst (v := 1) hx hb dX6_growsBy_3 (by decide) ?_
  refine lv_icmp_lt (tgt := 15) hx hb dX6_growsBy_4 (by decide) (fun cc => ?_) (fun cc => ?_)
  · replace hf := ifT cc hf
    refine lv_iconst (v := 0) hx hb dX6_growsBy_15 (by decide) ?_
    obtain rfl := re1 hf
    exact hE (.inl rfl) hP hD hS dX6_growsBy_16
  · replace hf := ifF cc hf
    refine lv_aload_n hx hb dX6_growsBy_7 rfl (lv_at hl 0 rfl) ?_
    refine lv_iload_n hx hb dX6_growsBy_8 rfl (lv_at hl 1 rfl) ?_
    obtain ⟨hin, hf⟩ := ckI_of hf
    refine va_iald (D := D) hx hb hK hP 0 0 rfl rfl hin dX6_growsBy_9 ?_
    refine lv_bipush (v := 9) hx hb dX6_growsBy_10 (by decide +kernel) ?_
    refine lv_icmp_lt (tgt := 17) hx hb dX6_growsBy_12 (by decide) (fun cc => ?_) (fun cc => ?_)
    · replace hf := ifT cc hf
      refine lv_iload_n hx hb dX6_growsBy_17 rfl (lv_at hl 1 rfl) ?_
      refine lv_iconst (v := 4) hx hb dX6_growsBy_18 (by decide) ?_
      refine lv_iadd hx hb dX6_growsBy_19 ?_
      refine lv_istore_n (lv' := [(2, .int (a1 + 4)), (0, .ref b0), (1, .int a1)]) hx hb dX6_growsBy_20 rfl hl (by decide) rfl (fun ls hl => ?_)
      have exL_3 : ∀ (y_4 : Int32) (H : Heap) (locs : List Loc) (ls : Array Slot), lv_has ls 3 [(2, .int y_4), (0, .ref b0), (1, .int a1)] → va_P D vwCl (kArr G b0 n0 v0) H → va_D A (kArr G b0 n0 v0) → va_S A s.heap H locs → f_X6_growsBy_K21 y_4 = some r → W p l e rm_X6_growsBy s m args below meth c H locs 0 0 Q0 (F0 m 44 ls []) := by
        intro y_4 H locs ls hl hP hD hS hf
        unfold f_X6_growsBy_K21 at hf
        refine lv_iconst (v := 1) hx hb dX6_growsBy_44 (by decide) ?_
        obtain rfl := re1 hf
        exact hE (.inr rfl) hP hD hS dX6_growsBy_45
      have loL_3 : ∀ (n : Nat) (x_2 : Int32) (H : Heap) (locs : List Loc) (ls : Array Slot), lv_has ls 3 [(2, .int x_2), (0, .ref b0), (1, .int a1)] → va_P D vwCl (kArr G b0 n0 v0) H → va_D A (kArr G b0 n0 v0) → va_S A s.heap H locs → lz1 (f_X6_growsBy_B21 n0 a1 v0) n x_2 = some r → W p l e rm_X6_growsBy s m args below meth c H locs 0 0 Q0 (F0 m 21 ls []) := by
        intro n
        induction n with
        | zero => intro x_2 H locs ls hl hP hD hS hf; cases hf
        | succ n ihL_3 =>
          intro x_2 H locs ls hl hP hD hS hf
          replace hf := lz1_s hf
          unfold f_X6_growsBy_B21 at hf
          refine lv_iload_n hx hb dX6_growsBy_21 rfl (lv_at hl 0 rfl) ?_
          refine lv_bipush (v := 12) hx hb dX6_growsBy_22 (by decide +kernel) ?_
          refine lv_icmp_ge (tgt := 44) hx hb dX6_growsBy_24 (by decide) (fun cc => ?_) (fun cc => ?_)
          · replace hf := ifT cc hf
            exact exL_3 x_2 _ _ _ (lv_sub hl [0, 1, 2] rfl) hP hD hS hf
          · replace hf := ifF cc hf
            refine lv_aload_n hx hb dX6_growsBy_27 rfl (lv_at hl 1 rfl) ?_
            refine lv_iload_n hx hb dX6_growsBy_28 rfl (lv_at hl 0 rfl) ?_
            obtain ⟨hin, hf⟩ := ckI_of hf
            refine va_iald (D := D) hx hb hK hP 0 0 rfl rfl hin dX6_growsBy_29 ?_
            refine lv_aload_n hx hb dX6_growsBy_30 rfl (lv_at hl 1 rfl) ?_
            refine lv_iload_n hx hb dX6_growsBy_31 rfl (lv_at hl 2 rfl) ?_
            obtain ⟨hin, hf⟩ := ckI_of hf
            refine va_iald (D := D) hx hb hK hP 0 0 rfl rfl hin dX6_growsBy_32 ?_
            refine lv_icmp_le (tgt := 38) hx hb dX6_growsBy_33 (by decide) (fun cc => ?_) (fun cc => ?_)
            · replace hf := ifT cc hf
              refine lv_iinc (v := (x_2 + 4)) (lv' := [(2, .int (x_2 + 4)), (0, .ref b0), (1, .int a1)]) hx hb dX6_growsBy_38 hl (k := 0) rfl rfl (by decide) rfl (fun ls hl => ?_)
              refine lv_goto (tgt := 21) hx hb dX6_growsBy_41 (by decide) ?_
              exact ihL_3 (x_2 + 4) _ _ _ (lv_sub hl [0, 1, 2] rfl) hP hD hS hf
            · replace hf := ifF cc hf
              refine lv_iconst (v := 0) hx hb dX6_growsBy_36 (by decide) ?_
              obtain rfl := re1 hf
              exact hE (.inl rfl) hP hD hS dX6_growsBy_37
      exact loL_3 FU (a1 + 4) _ _ _ hl hP hD hS hf
    · replace hf := ifF cc hf
      refine lv_iconst (v := 0) hx hb dX6_growsBy_15 (by decide) ?_
      obtain rfl := re1 hf
      exact hE (.inl rfl) hP hD hS dX6_growsBy_16
