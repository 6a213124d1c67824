/-! Walks, laid by wip/whole/gen.py: for each method f_ (what it does to its world) and c_ (its contract). -/
def f_X5_takeBack_0 (vhi : SV) (vhh : (Nat → SV)) (v0 : SV) : Option (SV × SV) :=
  nm (pF vhi 0 ((((vhi.1 0) + 8) - 1) - (((vhi.1 0) + 8) - 1) / 8 * 8)) fun v_1 =>
  nm (pF v_1 1 ((v_1.1 1) - 1)) fun v_2 =>
  ckI (v_2.1 0) 8 <|
  ckP ((v_2.1 0) = 0) <|
  bd1 (f_X6_take v0 (vhh 0)) fun w_3 =>
  some (v_2, w_3)
abbrev rm_X5_takeBack_0 : Room := { frames := 3, cells := 0, slots := 0, locals := 60 }
set_option maxHeartbeats 4000000 in
set_option maxRecDepth 100000 in
theorem c_X5_takeBack_0 (l : Launch) (D : va_G) (G : Nat → ClassId) (Q : Nat → Nat → Nat) (q0 : Nat → Nat) (vhi : SV) (vhh : (Nat → SV)) (v0 : SV) (vhi' : SV) (v0' : SV) (hf : f_X5_takeBack_0 vhi vhh v0 = some (vhi', v0')) (sz : Nat) : mC l yX5_takeBack wsX5_takeBack rm_X5_takeBack_0 D (tyG G) kT [.ref ((Q 4) 0), .ref (q0 0)] (kHist Q vhi ++ kHH G Q vhh ++ kHouse G q0 v0) (kHist Q vhi' ++ kHH G Q vhh ++ kHouse G q0 v0') sz none 0 0 := by
  refine mC_ofV (cc := cX5_takeBack) (maxL := 2) (ret := none) (by decide) rfl rfl (Nat.le_of_ble_eq_true rfl) ?_
  intro p e s m args below meth c Q0 hx hb hml hts hown hN hK A hD hA hE hP hS hJ ls hl
  have hl : lv_has ls 2 [(0, .ref ((Q 4) 0)), (1, .ref (q0 0))] := hl
  unfold f_X5_takeBack_0 at hf
  have hi3 : ∀ w ∈ u_ws RX5 TX5 3, w ∈ wsX5_takeBack := by decide +kernel
  have hw1 := hts (.fieldLink RX5 18 "BalconyCensus$History" "next" "I") (by decide +kernel)
  have hw2 := hts (.fieldLink RX5 26 "BalconyCensus$History" "count" "I") (by decide +kernel)
  have hw3 := hts (.fieldLink RX5 11 "BalconyCensus$History" "houses" "[LBalconyCensus$House;") (by decide +kernel)
  refine lv_aload_n hx hb dX5_takeBack_0 rfl (lv_at hl 0 rfl) ?_
  refine lv_aload_n hx hb dX5_takeBack_1 rfl (lv_at hl 0 rfl) ?_
  refine va_get (D := D) (ci := 3) (v := .int (vhi.1 0)) (C := RX5) (T := TX5) (N := 3) hx hb hts hi3 hown hK hP 0 rfl rfl 1 (by decide) hw1 (fun _ h9 => h9) rfl dX5_takeBack_2 ?_
  refine lv_bipush (v := 8) hx hb dX5_takeBack_5 (by decide +kernel) ?_
  refine lv_iadd hx hb dX5_takeBack_7 ?_
  refine lv_iconst (v := 1) hx hb dX5_takeBack_8 (by decide) ?_
  refine lv_isub hx hb dX5_takeBack_9 ?_
  refine lv_bipush (v := 8) hx hb dX5_takeBack_10 (by decide +kernel) ?_
  refine lv_irem hx hb dX5_takeBack_12 (by decide) ?_
  obtain ⟨v_1, ev_1, hf⟩ := nm_of hf
  refine va_put (D := D) (ci := 3) (v := .int ((((vhi.1 0) + 8) - 1) - (((vhi.1 0) + 8) - 1) / 8 * 8)) (ty := .int) (C := RX5) (T := TX5) (N := 3) hx hb hts hi3 tyX5 tyX5_ok nmX5 hown hK hP hD hS 0 rfl rfl 1 (by decide) hw1 (fun _ h9 => h9) rfl (by decide +kernel) rfl rfl (Nat.le_of_ble_eq_true rfl) dX5_takeBack_13 (fun H locs hP hD hS => ?_)
  have hP : va_P D vwCl (kHist Q v_1 ++ kHH G Q vhh ++ kHouse G q0 v0) H := by rw [ev_1]; exact hP
  have hD : va_D A (kHist Q v_1 ++ kHH G Q vhh ++ kHouse G q0 v0) := by rw [ev_1]; exact hD
  refine lv_aload_n hx hb dX5_takeBack_16 rfl (lv_at hl 0 rfl) ?_
  refine lv_dup hx hb dX5_takeBack_17 rfl ?_
  refine va_get (D := D) (ci := 3) (v := .int (v_1.1 1)) (C := RX5) (T := TX5) (N := 3) hx hb hts hi3 hown hK hP 0 rfl rfl 2 (by decide) hw2 (fun _ h9 => h9) rfl dX5_takeBack_18 ?_
  refine lv_iconst (v := 1) hx hb dX5_takeBack_21 (by decide) ?_
  refine lv_isub hx hb dX5_takeBack_22 ?_
  obtain ⟨v_2, ev_2, hf⟩ := nm_of hf
  refine va_put (D := D) (ci := 3) (v := .int ((v_1.1 1) - 1)) (ty := .int) (C := RX5) (T := TX5) (N := 3) hx hb hts hi3 tyX5 tyX5_ok nmX5 hown hK hP hD hS 0 rfl rfl 2 (by decide) hw2 (fun _ h9 => h9) rfl (by decide +kernel) rfl rfl (Nat.le_of_ble_eq_true rfl) dX5_takeBack_23 (fun H locs hP hD hS => ?_)
  have hP : va_P D vwCl (kHist Q v_2 ++ kHH G Q vhh ++ kHouse G q0 v0) H := by rw [ev_2]; exact hP
  have hD : va_D A (kHist Q v_2 ++ kHH G Q vhh ++ kHouse G q0 v0) := by rw [ev_2]; exact hD
  refine lv_aload_n hx hb dX5_takeBack_26 rfl (lv_at hl 1 rfl) ?_
  refine lv_aload_n hx hb dX5_takeBack_27 rfl (lv_at hl 0 rfl) ?_
  refine va_get (D := D) (ci := 3) (v := .ref (Q 4 1)) (C := RX5) (T := TX5) (N := 3) hx hb hts hi3 hown hK hP 0 rfl rfl 0 (by decide) hw3 (fun _ h9 => h9) rfl dX5_takeBack_28 ?_
  refine lv_aload_n hx hb dX5_takeBack_31 rfl (lv_at hl 0 rfl) ?_
  refine va_get (D := D) (ci := 3) (v := .int (v_2.1 0)) (C := RX5) (T := TX5) (N := 3) hx hb hts hi3 hown hK hP 0 rfl rfl 1 (by decide) hw1 (fun _ h9 => h9) rfl dX5_takeBack_32 ?_
  obtain ⟨hin, hf⟩ := ckI_of hf
  obtain ⟨hk, hf⟩ := ckP_of hf
  rw [hk] at hin ⊢
  refine va_aldq (D := D) hx hb hK hP 1 3 rfl rfl hin dX5_takeBack_35 ?_
  refine W.eq (g2 := F0 m 36 ls [.ref (Q 10 0), .ref (q0 0)]) rfl ?_
  obtain ⟨w_3, hc, hf⟩ := bd1_of hf
  have hPb : va_P D vwCl ((kHist Q v_2 ++ kHHx0 G Q vhh) ++ (kHouse G q0 v0 ++ kHouse G (Q 10) (vhh 0))) H := by simp only [pP_app, kHH0_P, kHHx0_hu, hu_s] at hP ⊢; simp only [hP, and_self]
  have hDb : va_D A ((kHist Q v_2 ++ kHHx0 G Q vhh) ++ (kHouse G q0 v0 ++ kHouse G (Q 10) (vhh 0))) := by simp only [pD_app, Dj_l, Dj_r, kHH0_D, kHH0_j, kHH0_i, kHHx0_hu, hu_s] at hD ⊢; simp only [hD, and_self]
  refine k_VB (As := [.ref (Q 10 0)]) (rest := []) ⟨hx, hb, hml, hown, hts⟩ (c_X6_take l D G q0 (Q 10)  v0 (vhh 0) _ hc  _) (cwV 1 hts gX5_takeBack_X6_take rfl rfl rfl (by decide +kernel) ⟨Nat.le_of_ble_eq_true rfl, Nat.le_of_ble_eq_true rfl⟩) hl.1 (Nat.le_of_ble_eq_true rfl) dX5_takeBack_36 ⟨Nat.le_of_ble_eq_true rfl, Nat.le_of_ble_eq_true rfl⟩ rfl kT_bl (fun _ _ _ => trivial) hN hK hPb hDb hS hA 0 4 rfl rfl rfl [0, 1, 2, 3] rfl (fun H locs hP hD hS => ?_)
  have hP : va_P D vwCl (kHist Q v_2 ++ kHH G Q vhh ++ kHouse G q0 w_3) H := by simp only [pP_app, kHH0_P, kHHx0_hu, hu_s] at hP ⊢; simp only [hP, and_self]
  have hD : va_D A (kHist Q v_2 ++ kHH G Q vhh ++ kHouse G q0 w_3) := by simp only [pD_app, Dj_l, Dj_r, kHH0_D, kHH0_j, kHH0_i, kHHx0_hu, hu_s] at hD ⊢; simp only [hD, and_self]
  obtain ⟨rfl, rfl⟩ := re2 hf
  exact hE hP hD hS dX5_takeBack_39
def f_X5_takeBack_1 (vhi : SV) (vhh : (Nat → SV)) (v0 : SV) : Option (SV × SV) :=
  nm (pF vhi 0 ((((vhi.1 0) + 8) - 1) - (((vhi.1 0) + 8) - 1) / 8 * 8)) fun v_1 =>
  nm (pF v_1 1 ((v_1.1 1) - 1)) fun v_2 =>
  ckI (v_2.1 0) 8 <|
  ckP ((v_2.1 0) = 1) <|
  bd1 (f_X6_take v0 (vhh 1)) fun w_3 =>
  some (v_2, w_3)
abbrev rm_X5_takeBack_1 : Room := { frames := 3, cells := 0, slots := 0, locals := 60 }
set_option maxHeartbeats 4000000 in
set_option maxRecDepth 100000 in
theorem c_X5_takeBack_1 (l : Launch) (D : va_G) (G : Nat → ClassId) (Q : Nat → Nat → Nat) (q0 : Nat → Nat) (vhi : SV) (vhh : (Nat → SV)) (v0 : SV) (vhi' : SV) (v0' : SV) (hf : f_X5_takeBack_1 vhi vhh v0 = some (vhi', v0')) (sz : Nat) : mC l yX5_takeBack wsX5_takeBack rm_X5_takeBack_1 D (tyG G) kT [.ref ((Q 4) 0), .ref (q0 0)] (kHist Q vhi ++ kHH G Q vhh ++ kHouse G q0 v0) (kHist Q vhi' ++ kHH G Q vhh ++ kHouse G q0 v0') sz none 0 0 := by
  refine mC_ofV (cc := cX5_takeBack) (maxL := 2) (ret := none) (by decide) rfl rfl (Nat.le_of_ble_eq_true rfl) ?_
  intro p e s m args below meth c Q0 hx hb hml hts hown hN hK A hD hA hE hP hS hJ ls hl
  have hl : lv_has ls 2 [(0, .ref ((Q 4) 0)), (1, .ref (q0 0))] := hl
  unfold f_X5_takeBack_1 at hf
  have hi3 : ∀ w ∈ u_ws RX5 TX5 3, w ∈ wsX5_takeBack := by decide +kernel
  have hw1 := hts (.fieldLink RX5 18 "BalconyCensus$History" "next" "I") (by decide +kernel)
  have hw2 := hts (.fieldLink RX5 26 "BalconyCensus$History" "count" "I") (by decide +kernel)
  have hw3 := hts (.fieldLink RX5 11 "BalconyCensus$History" "houses" "[LBalconyCensus$House;") (by decide +kernel)
  refine lv_aload_n hx hb dX5_takeBack_0 rfl (lv_at hl 0 rfl) ?_
  refine lv_aload_n hx hb dX5_takeBack_1 rfl (lv_at hl 0 rfl) ?_
  refine va_get (D := D) (ci := 3) (v := .int (vhi.1 0)) (C := RX5) (T := TX5) (N := 3) hx hb hts hi3 hown hK hP 0 rfl rfl 1 (by decide) hw1 (fun _ h9 => h9) rfl dX5_takeBack_2 ?_
  refine lv_bipush (v := 8) hx hb dX5_takeBack_5 (by decide +kernel) ?_
  refine lv_iadd hx hb dX5_takeBack_7 ?_
  refine lv_iconst (v := 1) hx hb dX5_takeBack_8 (by decide) ?_
  refine lv_isub hx hb dX5_takeBack_9 ?_
  refine lv_bipush (v := 8) hx hb dX5_takeBack_10 (by decide +kernel) ?_
  refine lv_irem hx hb dX5_takeBack_12 (by decide) ?_
  obtain ⟨v_1, ev_1, hf⟩ := nm_of hf
  refine va_put (D := D) (ci := 3) (v := .int ((((vhi.1 0) + 8) - 1) - (((vhi.1 0) + 8) - 1) / 8 * 8)) (ty := .int) (C := RX5) (T := TX5) (N := 3) hx hb hts hi3 tyX5 tyX5_ok nmX5 hown hK hP hD hS 0 rfl rfl 1 (by decide) hw1 (fun _ h9 => h9) rfl (by decide +kernel) rfl rfl (Nat.le_of_ble_eq_true rfl) dX5_takeBack_13 (fun H locs hP hD hS => ?_)
  have hP : va_P D vwCl (kHist Q v_1 ++ kHH G Q vhh ++ kHouse G q0 v0) H := by rw [ev_1]; exact hP
  have hD : va_D A (kHist Q v_1 ++ kHH G Q vhh ++ kHouse G q0 v0) := by rw [ev_1]; exact hD
  refine lv_aload_n hx hb dX5_takeBack_16 rfl (lv_at hl 0 rfl) ?_
  refine lv_dup hx hb dX5_takeBack_17 rfl ?_
  refine va_get (D := D) (ci := 3) (v := .int (v_1.1 1)) (C := RX5) (T := TX5) (N := 3) hx hb hts hi3 hown hK hP 0 rfl rfl 2 (by decide) hw2 (fun _ h9 => h9) rfl dX5_takeBack_18 ?_
  refine lv_iconst (v := 1) hx hb dX5_takeBack_21 (by decide) ?_
  refine lv_isub hx hb dX5_takeBack_22 ?_
  obtain ⟨v_2, ev_2, hf⟩ := nm_of hf
  refine va_put (D := D) (ci := 3) (v := .int ((v_1.1 1) - 1)) (ty := .int) (C := RX5) (T := TX5) (N := 3) hx hb hts hi3 tyX5 tyX5_ok nmX5 hown hK hP hD hS 0 rfl rfl 2 (by decide) hw2 (fun _ h9 => h9) rfl (by decide +kernel) rfl rfl (Nat.le_of_ble_eq_true rfl) dX5_takeBack_23 (fun H locs hP hD hS => ?_)
  have hP : va_P D vwCl (kHist Q v_2 ++ kHH G Q vhh ++ kHouse G q0 v0) H := by rw [ev_2]; exact hP
  have hD : va_D A (kHist Q v_2 ++ kHH G Q vhh ++ kHouse G q0 v0) := by rw [ev_2]; exact hD
  refine lv_aload_n hx hb dX5_takeBack_26 rfl (lv_at hl 1 rfl) ?_
  refine lv_aload_n hx hb dX5_takeBack_27 rfl (lv_at hl 0 rfl) ?_
  refine va_get (D := D) (ci := 3) (v := .ref (Q 4 1)) (C := RX5) (T := TX5) (N := 3) hx hb hts hi3 hown hK hP 0 rfl rfl 0 (by decide) hw3 (fun _ h9 => h9) rfl dX5_takeBack_28 ?_
  refine lv_aload_n hx hb dX5_takeBack_31 rfl (lv_at hl 0 rfl) ?_
  refine va_get (D := D) (ci := 3) (v := .int (v_2.1 0)) (C := RX5) (T := TX5) (N := 3) hx hb hts hi3 hown hK hP 0 rfl rfl 1 (by decide) hw1 (fun _ h9 => h9) rfl dX5_takeBack_32 ?_
  obtain ⟨hin, hf⟩ := ckI_of hf
  obtain ⟨hk, hf⟩ := ckP_of hf
  rw [hk] at hin ⊢
  refine va_aldq (D := D) hx hb hK hP 1 3 rfl rfl hin dX5_takeBack_35 ?_
  refine W.eq (g2 := F0 m 36 ls [.ref (Q 11 0), .ref (q0 0)]) rfl ?_
  obtain ⟨w_3, hc, hf⟩ := bd1_of hf
  have hPb : va_P D vwCl ((kHist Q v_2 ++ kHHx1 G Q vhh) ++ (kHouse G q0 v0 ++ kHouse G (Q 11) (vhh 1))) H := by simp only [pP_app, kHH1_P, kHHx1_hu, hu_s] at hP ⊢; simp only [hP, and_self]
  have hDb : va_D A ((kHist Q v_2 ++ kHHx1 G Q vhh) ++ (kHouse G q0 v0 ++ kHouse G (Q 11) (vhh 1))) := by simp only [pD_app, Dj_l, Dj_r, kHH1_D, kHH1_j, kHH1_i, kHHx1_hu, hu_s] at hD ⊢; simp only [hD, and_self]
  refine k_VB (As := [.ref (Q 11 0)]) (rest := []) ⟨hx, hb, hml, hown, hts⟩ (c_X6_take l D G q0 (Q 11)  v0 (vhh 1) _ hc  _) (cwV 1 hts gX5_takeBack_X6_take rfl rfl rfl (by decide +kernel) ⟨Nat.le_of_ble_eq_true rfl, Nat.le_of_ble_eq_true rfl⟩) hl.1 (Nat.le_of_ble_eq_true rfl) dX5_takeBack_36 ⟨Nat.le_of_ble_eq_true rfl, Nat.le_of_ble_eq_true rfl⟩ rfl kT_bl (fun _ _ _ => trivial) hN hK hPb hDb hS hA 0 4 rfl rfl rfl [0, 1, 2, 3] rfl (fun H locs hP hD hS => ?_)
  have hP : va_P D vwCl (kHist Q v_2 ++ kHH G Q vhh ++ kHouse G q0 w_3) H := by simp only [pP_app, kHH1_P, kHHx1_hu, hu_s] at hP ⊢; simp only [hP, and_self]
  have hD : va_D A (kHist Q v_2 ++ kHH G Q vhh ++ kHouse G q0 w_3) := by simp only [pD_app, Dj_l, Dj_r, kHH1_D, kHH1_j, kHH1_i, kHHx1_hu, hu_s] at hD ⊢; simp only [hD, and_self]
  obtain ⟨rfl, rfl⟩ := re2 hf
  exact hE hP hD hS dX5_takeBack_39
def f_X5_takeBack_2 (vhi : SV) (vhh : (Nat → SV)) (v0 : SV) : Option (SV × SV) :=
  nm (pF vhi 0 ((((vhi.1 0) + 8) - 1) - (((vhi.1 0) + 8) - 1) / 8 * 8)) fun v_1 =>
  nm (pF v_1 1 ((v_1.1 1) - 1)) fun v_2 =>
  ckI (v_2.1 0) 8 <|
  ckP ((v_2.1 0) = 2) <|
  bd1 (f_X6_take v0 (vhh 2)) fun w_3 =>
  some (v_2, w_3)
abbrev rm_X5_takeBack_2 : Room := { frames := 3, cells := 0, slots := 0, locals := 60 }
set_option maxHeartbeats 4000000 in
set_option maxRecDepth 100000 in
theorem c_X5_takeBack_2 (l : Launch) (D : va_G) (G : Nat → ClassId) (Q : Nat → Nat → Nat) (q0 : Nat → Nat) (vhi : SV) (vhh : (Nat → SV)) (v0 : SV) (vhi' : SV) (v0' : SV) (hf : f_X5_takeBack_2 vhi vhh v0 = some (vhi', v0')) (sz : Nat) : mC l yX5_takeBack wsX5_takeBack rm_X5_takeBack_2 D (tyG G) kT [.ref ((Q 4) 0), .ref (q0 0)] (kHist Q vhi ++ kHH G Q vhh ++ kHouse G q0 v0) (kHist Q vhi' ++ kHH G Q vhh ++ kHouse G q0 v0') sz none 0 0 := by
  refine mC_ofV (cc := cX5_takeBack) (maxL := 2) (ret := none) (by decide) rfl rfl (Nat.le_of_ble_eq_true rfl) ?_
  intro p e s m args below meth c Q0 hx hb hml hts hown hN hK A hD hA hE hP hS hJ ls hl
  have hl : lv_has ls 2 [(0, .ref ((Q 4) 0)), (1, .ref (q0 0))] := hl
  unfold f_X5_takeBack_2 at hf
  have hi3 : ∀ w ∈ u_ws RX5 TX5 3, w ∈ wsX5_takeBack := by decide +kernel
  have hw1 := hts (.fieldLink RX5 18 "BalconyCensus$History" "next" "I") (by decide +kernel)
  have hw2 := hts (.fieldLink RX5 26 "BalconyCensus$History" "count" "I") (by decide +kernel)
  have hw3 := hts (.fieldLink RX5 11 "BalconyCensus$History" "houses" "[LBalconyCensus$House;") (by decide +kernel)
  refine lv_aload_n hx hb dX5_takeBack_0 rfl (lv_at hl 0 rfl) ?_
  refine lv_aload_n hx hb dX5_takeBack_1 rfl (lv_at hl 0 rfl) ?_
  refine va_get (D := D) (ci := 3) (v := .int (vhi.1 0)) (C := RX5) (T := TX5) (N := 3) hx hb hts hi3 hown hK hP 0 rfl rfl 1 (by decide) hw1 (fun _ h9 => h9) rfl dX5_takeBack_2 ?_
  refine lv_bipush (v := 8) hx hb dX5_takeBack_5 (by decide +kernel) ?_
  refine lv_iadd hx hb dX5_takeBack_7 ?_
  refine lv_iconst (v := 1) hx hb dX5_takeBack_8 (by decide) ?_
  refine lv_isub hx hb dX5_takeBack_9 ?_
  refine lv_bipush (v := 8) hx hb dX5_takeBack_10 (by decide +kernel) ?_
  refine lv_irem hx hb dX5_takeBack_12 (by decide) ?_
  obtain ⟨v_1, ev_1, hf⟩ := nm_of hf
  refine va_put (D := D) (ci := 3) (v := .int ((((vhi.1 0) + 8) - 1) - (((vhi.1 0) + 8) - 1) / 8 * 8)) (ty := .int) (C := RX5) (T := TX5) (N := 3) hx hb hts hi3 tyX5 tyX5_ok nmX5 hown hK hP hD hS 0 rfl rfl 1 (by decide) hw1 (fun _ h9 => h9) rfl (by decide +kernel) rfl rfl (Nat.le_of_ble_eq_true rfl) dX5_takeBack_13 (fun H locs hP hD hS => ?_)
  have hP : va_P D vwCl (kHist Q v_1 ++ kHH G Q vhh ++ kHouse G q0 v0) H := by rw [ev_1]; exact hP
  have hD : va_D A (kHist Q v_1 ++ kHH G Q vhh ++ kHouse G q0 v0) := by rw [ev_1]; exact hD
  refine lv_aload_n hx hb dX5_takeBack_16 rfl (lv_at hl 0 rfl) ?_
  refine lv_dup hx hb dX5_takeBack_17 rfl ?_
  refine va_get (D := D) (ci := 3) (v := .int (v_1.1 1)) (C := RX5) (T := TX5) (N := 3) hx hb hts hi3 hown hK hP 0 rfl rfl 2 (by decide) hw2 (fun _ h9 => h9) rfl dX5_takeBack_18 ?_
  refine lv_iconst (v := 1) hx hb dX5_takeBack_21 (by decide) ?_
  refine lv_isub hx hb dX5_takeBack_22 ?_
  obtain ⟨v_2, ev_2, hf⟩ := nm_of hf
  refine va_put (D := D) (ci := 3) (v := .int ((v_1.1 1) - 1)) (ty := .int) (C := RX5) (T := TX5) (N := 3) hx hb hts hi3 tyX5 tyX5_ok nmX5 hown hK hP hD hS 0 rfl rfl 2 (by decide) hw2 (fun _ h9 => h9) rfl (by decide +kernel) rfl rfl (Nat.le_of_ble_eq_true rfl) dX5_takeBack_23 (fun H locs hP hD hS => ?_)
  have hP : va_P D vwCl (kHist Q v_2 ++ kHH G Q vhh ++ kHouse G q0 v0) H := by rw [ev_2]; exact hP
  have hD : va_D A (kHist Q v_2 ++ kHH G Q vhh ++ kHouse G q0 v0) := by rw [ev_2]; exact hD
  refine lv_aload_n hx hb dX5_takeBack_26 rfl (lv_at hl 1 rfl) ?_
  refine lv_aload_n hx hb dX5_takeBack_27 rfl (lv_at hl 0 rfl) ?_
  refine va_get (D := D) (ci := 3) (v := .ref (Q 4 1)) (C := RX5) (T := TX5) (N := 3) hx hb hts hi3 hown hK hP 0 rfl rfl 0 (by decide) hw3 (fun _ h9 => h9) rfl dX5_takeBack_28 ?_
  refine lv_aload_n hx hb dX5_takeBack_31 rfl (lv_at hl 0 rfl) ?_
  refine va_get (D := D) (ci := 3) (v := .int (v_2.1 0)) (C := RX5) (T := TX5) (N := 3) hx hb hts hi3 hown hK hP 0 rfl rfl 1 (by decide) hw1 (fun _ h9 => h9) rfl dX5_takeBack_32 ?_
  obtain ⟨hin, hf⟩ := ckI_of hf
  obtain ⟨hk, hf⟩ := ckP_of hf
  rw [hk] at hin ⊢
  refine va_aldq (D := D) hx hb hK hP 1 3 rfl rfl hin dX5_takeBack_35 ?_
  refine W.eq (g2 := F0 m 36 ls [.ref (Q 12 0), .ref (q0 0)]) rfl ?_
  obtain ⟨w_3, hc, hf⟩ := bd1_of hf
  have hPb : va_P D vwCl ((kHist Q v_2 ++ kHHx2 G Q vhh) ++ (kHouse G q0 v0 ++ kHouse G (Q 12) (vhh 2))) H := by simp only [pP_app, kHH2_P, kHHx2_hu, hu_s] at hP ⊢; simp only [hP, and_self]
  have hDb : va_D A ((kHist Q v_2 ++ kHHx2 G Q vhh) ++ (kHouse G q0 v0 ++ kHouse G (Q 12) (vhh 2))) := by simp only [pD_app, Dj_l, Dj_r, kHH2_D, kHH2_j, kHH2_i, kHHx2_hu, hu_s] at hD ⊢; simp only [hD, and_self]
  refine k_VB (As := [.ref (Q 12 0)]) (rest := []) ⟨hx, hb, hml, hown, hts⟩ (c_X6_take l D G q0 (Q 12)  v0 (vhh 2) _ hc  _) (cwV 1 hts gX5_takeBack_X6_take rfl rfl rfl (by decide +kernel) ⟨Nat.le_of_ble_eq_true rfl, Nat.le_of_ble_eq_true rfl⟩) hl.1 (Nat.le_of_ble_eq_true rfl) dX5_takeBack_36 ⟨Nat.le_of_ble_eq_true rfl, Nat.le_of_ble_eq_true rfl⟩ rfl kT_bl (fun _ _ _ => trivial) hN hK hPb hDb hS hA 0 4 rfl rfl rfl [0, 1, 2, 3] rfl (fun H locs hP hD hS => ?_)
  have hP : va_P D vwCl (kHist Q v_2 ++ kHH G Q vhh ++ kHouse G q0 w_3) H := by simp only [pP_app, kHH2_P, kHHx2_hu, hu_s] at hP ⊢; simp only [hP, and_self]
  have hD : va_D A (kHist Q v_2 ++ kHH G Q vhh ++ kHouse G q0 w_3) := by simp only [pD_app, Dj_l, Dj_r, kHH2_D, kHH2_j, kHH2_i, kHHx2_hu, hu_s] at hD ⊢; simp only [hD, and_self]
  obtain ⟨rfl, rfl⟩ := re2 hf
  exact hE hP hD hS dX5_takeBack_39
def f_X5_takeBack_3 (vhi : SV) (vhh : (Nat → SV)) (v0 : SV) : Option (SV × SV) :=
  nm (pF vhi 0 ((((vhi.1 0) + 8) - 1) - (((vhi.1 0) + 8) - 1) / 8 * 8)) fun v_1 =>
  nm (pF v_1 1 ((v_1.1 1) - 1)) fun v_2 =>
  ckI (v_2.1 0) 8 <|
  ckP ((v_2.1 0) = 3) <|
  bd1 (f_X6_take v0 (vhh 3)) fun w_3 =>
  some (v_2, w_3)
abbrev rm_X5_takeBack_3 : Room := { frames := 3, cells := 0, slots := 0, locals := 60 }
set_option maxHeartbeats 4000000 in
set_option maxRecDepth 100000 in
theorem c_X5_takeBack_3 (l : Launch) (D : va_G) (G : Nat → ClassId) (Q : Nat → Nat → Nat) (q0 : Nat → Nat) (vhi : SV) (vhh : (Nat → SV)) (v0 : SV) (vhi' : SV) (v0' : SV) (hf : f_X5_takeBack_3 vhi vhh v0 = some (vhi', v0')) (sz : Nat) : mC l yX5_takeBack wsX5_takeBack rm_X5_takeBack_3 D (tyG G) kT [.ref ((Q 4) 0), .ref (q0 0)] (kHist Q vhi ++ kHH G Q vhh ++ kHouse G q0 v0) (kHist Q vhi' ++ kHH G Q vhh ++ kHouse G q0 v0') sz none 0 0 := by
  refine mC_ofV (cc := cX5_takeBack) (maxL := 2) (ret := none) (by decide) rfl rfl (Nat.le_of_ble_eq_true rfl) ?_
  intro p e s m args below meth c Q0 hx hb hml hts hown hN hK A hD hA hE hP hS hJ ls hl
  have hl : lv_has ls 2 [(0, .ref ((Q 4) 0)), (1, .ref (q0 0))] := hl
  unfold f_X5_takeBack_3 at hf
  have hi3 : ∀ w ∈ u_ws RX5 TX5 3, w ∈ wsX5_takeBack := by decide +kernel
  have hw1 := hts (.fieldLink RX5 18 "BalconyCensus$History" "next" "I") (by decide +kernel)
  have hw2 := hts (.fieldLink RX5 26 "BalconyCensus$History" "count" "I") (by decide +kernel)
  have hw3 := hts (.fieldLink RX5 11 "BalconyCensus$History" "houses" "[LBalconyCensus$House;") (by decide +kernel)
  refine lv_aload_n hx hb dX5_takeBack_0 rfl (lv_at hl 0 rfl) ?_
  refine lv_aload_n hx hb dX5_takeBack_1 rfl (lv_at hl 0 rfl) ?_
  refine va_get (D := D) (ci := 3) (v := .int (vhi.1 0)) (C := RX5) (T := TX5) (N := 3) hx hb hts hi3 hown hK hP 0 rfl rfl 1 (by decide) hw1 (fun _ h9 => h9) rfl dX5_takeBack_2 ?_
  refine lv_bipush (v := 8) hx hb dX5_takeBack_5 (by decide +kernel) ?_
  refine lv_iadd hx hb dX5_takeBack_7 ?_
  refine lv_iconst (v := 1) hx hb dX5_takeBack_8 (by decide) ?_
  refine lv_isub hx hb dX5_takeBack_9 ?_
  refine lv_bipush (v := 8) hx hb dX5_takeBack_10 (by decide +kernel) ?_
  refine lv_irem hx hb dX5_takeBack_12 (by decide) ?_
  obtain ⟨v_1, ev_1, hf⟩ := nm_of hf
  refine va_put (D := D) (ci := 3) (v := .int ((((vhi.1 0) + 8) - 1) - (((vhi.1 0) + 8) - 1) / 8 * 8)) (ty := .int) (C := RX5) (T := TX5) (N := 3) hx hb hts hi3 tyX5 tyX5_ok nmX5 hown hK hP hD hS 0 rfl rfl 1 (by decide) hw1 (fun _ h9 => h9) rfl (by decide +kernel) rfl rfl (Nat.le_of_ble_eq_true rfl) dX5_takeBack_13 (fun H locs hP hD hS => ?_)
  have hP : va_P D vwCl (kHist Q v_1 ++ kHH G Q vhh ++ kHouse G q0 v0) H := by rw [ev_1]; exact hP
  have hD : va_D A (kHist Q v_1 ++ kHH G Q vhh ++ kHouse G q0 v0) := by rw [ev_1]; exact hD
  refine lv_aload_n hx hb dX5_takeBack_16 rfl (lv_at hl 0 rfl) ?_
  refine lv_dup hx hb dX5_takeBack_17 rfl ?_
  refine va_get (D := D) (ci := 3) (v := .int (v_1.1 1)) (C := RX5) (T := TX5) (N := 3) hx hb hts hi3 hown hK hP 0 rfl rfl 2 (by decide) hw2 (fun _ h9 => h9) rfl dX5_takeBack_18 ?_
  refine lv_iconst (v := 1) hx hb dX5_takeBack_21 (by decide) ?_
  refine lv_isub hx hb dX5_takeBack_22 ?_
  obtain ⟨v_2, ev_2, hf⟩ := nm_of hf
  refine va_put (D := D) (ci := 3) (v := .int ((v_1.1 1) - 1)) (ty := .int) (C := RX5) (T := TX5) (N := 3) hx hb hts hi3 tyX5 tyX5_ok nmX5 hown hK hP hD hS 0 rfl rfl 2 (by decide) hw2 (fun _ h9 => h9) rfl (by decide +kernel) rfl rfl (Nat.le_of_ble_eq_true rfl) dX5_takeBack_23 (fun H locs hP hD hS => ?_)
  have hP : va_P D vwCl (kHist Q v_2 ++ kHH G Q vhh ++ kHouse G q0 v0) H := by rw [ev_2]; exact hP
  have hD : va_D A (kHist Q v_2 ++ kHH G Q vhh ++ kHouse G q0 v0) := by rw [ev_2]; exact hD
  refine lv_aload_n hx hb dX5_takeBack_26 rfl (lv_at hl 1 rfl) ?_
  refine lv_aload_n hx hb dX5_takeBack_27 rfl (lv_at hl 0 rfl) ?_
  refine va_get (D := D) (ci := 3) (v := .ref (Q 4 1)) (C := RX5) (T := TX5) (N := 3) hx hb hts hi3 hown hK hP 0 rfl rfl 0 (by decide) hw3 (fun _ h9 => h9) rfl dX5_takeBack_28 ?_
  refine lv_aload_n hx hb dX5_takeBack_31 rfl (lv_at hl 0 rfl) ?_
  refine va_get (D := D) (ci := 3) (v := .int (v_2.1 0)) (C := RX5) (T := TX5) (N := 3) hx hb hts hi3 hown hK hP 0 rfl rfl 1 (by decide) hw1 (fun _ h9 => h9) rfl dX5_takeBack_32 ?_
  obtain ⟨hin, hf⟩ := ckI_of hf
  obtain ⟨hk, hf⟩ := ckP_of hf
  rw [hk] at hin ⊢
  refine va_aldq (D := D) hx hb hK hP 1 3 rfl rfl hin dX5_takeBack_35 ?_
  refine W.eq (g2 := F0 m 36 ls [.ref (Q 13 0), .ref (q0 0)]) rfl ?_
  obtain ⟨w_3, hc, hf⟩ := bd1_of hf
  have hPb : va_P D vwCl ((kHist Q v_2 ++ kHHx3 G Q vhh) ++ (kHouse G q0 v0 ++ kHouse G (Q 13) (vhh 3))) H := by simp only [pP_app, kHH3_P, kHHx3_hu, hu_s] at hP ⊢; simp only [hP, and_self]
  have hDb : va_D A ((kHist Q v_2 ++ kHHx3 G Q vhh) ++ (kHouse G q0 v0 ++ kHouse G (Q 13) (vhh 3))) := by simp only [pD_app, Dj_l, Dj_r, kHH3_D, kHH3_j, kHH3_i, kHHx3_hu, hu_s] at hD ⊢; simp only [hD, and_self]
  refine k_VB (As := [.ref (Q 13 0)]) (rest := []) ⟨hx, hb, hml, hown, hts⟩ (c_X6_take l D G q0 (Q 13)  v0 (vhh 3) _ hc  _) (cwV 1 hts gX5_takeBack_X6_take rfl rfl rfl (by decide +kernel) ⟨Nat.le_of_ble_eq_true rfl, Nat.le_of_ble_eq_true rfl⟩) hl.1 (Nat.le_of_ble_eq_true rfl) dX5_takeBack_36 ⟨Nat.le_of_ble_eq_true rfl, Nat.le_of_ble_eq_true rfl⟩ rfl kT_bl (fun _ _ _ => trivial) hN hK hPb hDb hS hA 0 4 rfl rfl rfl [0, 1, 2, 3] rfl (fun H locs hP hD hS => ?_)
  have hP : va_P D vwCl (kHist Q v_2 ++ kHH G Q vhh ++ kHouse G q0 w_3) H := by simp only [pP_app, kHH3_P, kHHx3_hu, hu_s] at hP ⊢; simp only [hP, and_self]
  have hD : va_D A (kHist Q v_2 ++ kHH G Q vhh ++ kHouse G q0 w_3) := by simp only [pD_app, Dj_l, Dj_r, kHH3_D, kHH3_j, kHH3_i, kHHx3_hu, hu_s] at hD ⊢; simp only [hD, and_self]
  obtain ⟨rfl, rfl⟩ := re2 hf
  exact hE hP hD hS dX5_takeBack_39
def f_X5_takeBack_4 (vhi : SV) (vhh : (Nat → SV)) (v0 : SV) : Option (SV × SV) :=
  nm (pF vhi 0 ((((vhi.1 0) + 8) - 1) - (((vhi.1 0) + 8) - 1) / 8 * 8)) fun v_1 =>
  nm (pF v_1 1 ((v_1.1 1) - 1)) fun v_2 =>
  ckI (v_2.1 0) 8 <|
  ckP ((v_2.1 0) = 4) <|
  bd1 (f_X6_take v0 (vhh 4)) fun w_3 =>
  some (v_2, w_3)
abbrev rm_X5_takeBack_4 : Room := { frames := 3, cells := 0, slots := 0, locals := 60 }
set_option maxHeartbeats 4000000 in
set_option maxRecDepth 100000 in
theorem c_X5_takeBack_4 (l : Launch) (D : va_G) (G : Nat → ClassId) (Q : Nat → Nat → Nat) (q0 : Nat → Nat) (vhi : SV) (vhh : (Nat → SV)) (v0 : SV) (vhi' : SV) (v0' : SV) (hf : f_X5_takeBack_4 vhi vhh v0 = some (vhi', v0')) (sz : Nat) : mC l yX5_takeBack wsX5_takeBack rm_X5_takeBack_4 D (tyG G) kT [.ref ((Q 4) 0), .ref (q0 0)] (kHist Q vhi ++ kHH G Q vhh ++ kHouse G q0 v0) (kHist Q vhi' ++ kHH G Q vhh ++ kHouse G q0 v0') sz none 0 0 := by
  refine mC_ofV (cc := cX5_takeBack) (maxL := 2) (ret := none) (by decide) rfl rfl (Nat.le_of_ble_eq_true rfl) ?_
  intro p e s m args below meth c Q0 hx hb hml hts hown hN hK A hD hA hE hP hS hJ ls hl
  have hl : lv_has ls 2 [(0, .ref ((Q 4) 0)), (1, .ref (q0 0))] := hl
  unfold f_X5_takeBack_4 at hf
  have hi3 : ∀ w ∈ u_ws RX5 TX5 3, w ∈ wsX5_takeBack := by decide +kernel
  have hw1 := hts (.fieldLink RX5 18 "BalconyCensus$History" "next" "I") (by decide +kernel)
  have hw2 := hts (.fieldLink RX5 26 "BalconyCensus$History" "count" "I") (by decide +kernel)
  have hw3 := hts (.fieldLink RX5 11 "BalconyCensus$History" "houses" "[LBalconyCensus$House;") (by decide +kernel)
  refine lv_aload_n hx hb dX5_takeBack_0 rfl (lv_at hl 0 rfl) ?_
  refine lv_aload_n hx hb dX5_takeBack_1 rfl (lv_at hl 0 rfl) ?_
  refine va_get (D := D) (ci := 3) (v := .int (vhi.1 0)) (C := RX5) (T := TX5) (N := 3) hx hb hts hi3 hown hK hP 0 rfl rfl 1 (by decide) hw1 (fun _ h9 => h9) rfl dX5_takeBack_2 ?_
  refine lv_bipush (v := 8) hx hb dX5_takeBack_5 (by decide +kernel) ?_
  refine lv_iadd hx hb dX5_takeBack_7 ?_
  refine lv_iconst (v := 1) hx hb dX5_takeBack_8 (by decide) ?_
  refine lv_isub hx hb dX5_takeBack_9 ?_
  refine lv_bipush (v := 8) hx hb dX5_takeBack_10 (by decide +kernel) ?_
  refine lv_irem hx hb dX5_takeBack_12 (by decide) ?_
  obtain ⟨v_1, ev_1, hf⟩ := nm_of hf
  refine va_put (D := D) (ci := 3) (v := .int ((((vhi.1 0) + 8) - 1) - (((vhi.1 0) + 8) - 1) / 8 * 8)) (ty := .int) (C := RX5) (T := TX5) (N := 3) hx hb hts hi3 tyX5 tyX5_ok nmX5 hown hK hP hD hS 0 rfl rfl 1 (by decide) hw1 (fun _ h9 => h9) rfl (by decide +kernel) rfl rfl (Nat.le_of_ble_eq_true rfl) dX5_takeBack_13 (fun H locs hP hD hS => ?_)
  have hP : va_P D vwCl (kHist Q v_1 ++ kHH G Q vhh ++ kHouse G q0 v0) H := by rw [ev_1]; exact hP
  have hD : va_D A (kHist Q v_1 ++ kHH G Q vhh ++ kHouse G q0 v0) := by rw [ev_1]; exact hD
  refine lv_aload_n hx hb dX5_takeBack_16 rfl (lv_at hl 0 rfl) ?_
  refine lv_dup hx hb dX5_takeBack_17 rfl ?_
  refine va_get (D := D) (ci := 3) (v := .int (v_1.1 1)) (C := RX5) (T := TX5) (N := 3) hx hb hts hi3 hown hK hP 0 rfl rfl 2 (by decide) hw2 (fun _ h9 => h9) rfl dX5_takeBack_18 ?_
  refine lv_iconst (v := 1) hx hb dX5_takeBack_21 (by decide) ?_
  refine lv_isub hx hb dX5_takeBack_22 ?_
  obtain ⟨v_2, ev_2, hf⟩ := nm_of hf
  refine va_put (D := D) (ci := 3) (v := .int ((v_1.1 1) - 1)) (ty := .int) (C := RX5) (T := TX5) (N := 3) hx hb hts hi3 tyX5 tyX5_ok nmX5 hown hK hP hD hS 0 rfl rfl 2 (by decide) hw2 (fun _ h9 => h9) rfl (by decide +kernel) rfl rfl (Nat.le_of_ble_eq_true rfl) dX5_takeBack_23 (fun H locs hP hD hS => ?_)
  have hP : va_P D vwCl (kHist Q v_2 ++ kHH G Q vhh ++ kHouse G q0 v0) H := by rw [ev_2]; exact hP
  have hD : va_D A (kHist Q v_2 ++ kHH G Q vhh ++ kHouse G q0 v0) := by rw [ev_2]; exact hD
  refine lv_aload_n hx hb dX5_takeBack_26 rfl (lv_at hl 1 rfl) ?_
  refine lv_aload_n hx hb dX5_takeBack_27 rfl (lv_at hl 0 rfl) ?_
  refine va_get (D := D) (ci := 3) (v := .ref (Q 4 1)) (C := RX5) (T := TX5) (N := 3) hx hb hts hi3 hown hK hP 0 rfl rfl 0 (by decide) hw3 (fun _ h9 => h9) rfl dX5_takeBack_28 ?_
  refine lv_aload_n hx hb dX5_takeBack_31 rfl (lv_at hl 0 rfl) ?_
  refine va_get (D := D) (ci := 3) (v := .int (v_2.1 0)) (C := RX5) (T := TX5) (N := 3) hx hb hts hi3 hown hK hP 0 rfl rfl 1 (by decide) hw1 (fun _ h9 => h9) rfl dX5_takeBack_32 ?_
  obtain ⟨hin, hf⟩ := ckI_of hf
  obtain ⟨hk, hf⟩ := ckP_of hf
  rw [hk] at hin ⊢
  refine va_aldq (D := D) hx hb hK hP 1 3 rfl rfl hin dX5_takeBack_35 ?_
  refine W.eq (g2 := F0 m 36 ls [.ref (Q 14 0), .ref (q0 0)]) rfl ?_
  obtain ⟨w_3, hc, hf⟩ := bd1_of hf
  have hPb : va_P D vwCl ((kHist Q v_2 ++ kHHx4 G Q vhh) ++ (kHouse G q0 v0 ++ kHouse G (Q 14) (vhh 4))) H := by simp only [pP_app, kHH4_P, kHHx4_hu, hu_s] at hP ⊢; simp only [hP, and_self]
  have hDb : va_D A ((kHist Q v_2 ++ kHHx4 G Q vhh) ++ (kHouse G q0 v0 ++ kHouse G (Q 14) (vhh 4))) := by simp only [pD_app, Dj_l, Dj_r, kHH4_D, kHH4_j, kHH4_i, kHHx4_hu, hu_s] at hD ⊢; simp only [hD, and_self]
  refine k_VB (As := [.ref (Q 14 0)]) (rest := []) ⟨hx, hb, hml, hown, hts⟩ (c_X6_take l D G q0 (Q 14)  v0 (vhh 4) _ hc  _) (cwV 1 hts gX5_takeBack_X6_take rfl rfl rfl (by decide +kernel) ⟨Nat.le_of_ble_eq_true rfl, Nat.le_of_ble_eq_true rfl⟩) hl.1 (Nat.le_of_ble_eq_true rfl) dX5_takeBack_36 ⟨Nat.le_of_ble_eq_true rfl, Nat.le_of_ble_eq_true rfl⟩ rfl kT_bl (fun _ _ _ => trivial) hN hK hPb hDb hS hA 0 4 rfl rfl rfl [0, 1, 2, 3] rfl (fun H locs hP hD hS => ?_)
  have hP : va_P D vwCl (kHist Q v_2 ++ kHH G Q vhh ++ kHouse G q0 w_3) H := by simp only [pP_app, kHH4_P, kHHx4_hu, hu_s] at hP ⊢; simp only [hP, and_self]
  have hD : va_D A (kHist Q v_2 ++ kHH G Q vhh ++ kHouse G q0 w_3) := by simp only [pD_app, Dj_l, Dj_r, kHH4_D, kHH4_j, kHH4_i, kHHx4_hu, hu_s] at hD ⊢; simp only [hD, and_self]
  obtain ⟨rfl, rfl⟩ := re2 hf
  exact hE hP hD hS dX5_takeBack_39
def f_X5_takeBack_5 (vhi : SV) (vhh : (Nat → SV)) (v0 : SV) : Option (SV × SV) :=
  nm (pF vhi 0 ((((vhi.1 0) + 8) - 1) - (((vhi.1 0) + 8) - 1) / 8 * 8)) fun v_1 =>
  nm (pF v_1 1 ((v_1.1 1) - 1)) fun v_2 =>
  ckI (v_2.1 0) 8 <|
  ckP ((v_2.1 0) = 5) <|
  bd1 (f_X6_take v0 (vhh 5)) fun w_3 =>
  some (v_2, w_3)
abbrev rm_X5_takeBack_5 : Room := { frames := 3, cells := 0, slots := 0, locals := 60 }
set_option maxHeartbeats 4000000 in
set_option maxRecDepth 100000 in
theorem c_X5_takeBack_5 (l : Launch) (D : va_G) (G : Nat → ClassId) (Q : Nat → Nat → Nat) (q0 : Nat → Nat) (vhi : SV) (vhh : (Nat → SV)) (v0 : SV) (vhi' : SV) (v0' : SV) (hf : f_X5_takeBack_5 vhi vhh v0 = some (vhi', v0')) (sz : Nat) : mC l yX5_takeBack wsX5_takeBack rm_X5_takeBack_5 D (tyG G) kT [.ref ((Q 4) 0), .ref (q0 0)] (kHist Q vhi ++ kHH G Q vhh ++ kHouse G q0 v0) (kHist Q vhi' ++ kHH G Q vhh ++ kHouse G q0 v0') sz none 0 0 := by
  refine mC_ofV (cc := cX5_takeBack) (maxL := 2) (ret := none) (by decide) rfl rfl (Nat.le_of_ble_eq_true rfl) ?_
  intro p e s m args below meth c Q0 hx hb hml hts hown hN hK A hD hA hE hP hS hJ ls hl
  have hl : lv_has ls 2 [(0, .ref ((Q 4) 0)), (1, .ref (q0 0))] := hl
  unfold f_X5_takeBack_5 at hf
  have hi3 : ∀ w ∈ u_ws RX5 TX5 3, w ∈ wsX5_takeBack := by decide +kernel
  have hw1 := hts (.fieldLink RX5 18 "BalconyCensus$History" "next" "I") (by decide +kernel)
  have hw2 := hts (.fieldLink RX5 26 "BalconyCensus$History" "count" "I") (by decide +kernel)
  have hw3 := hts (.fieldLink RX5 11 "BalconyCensus$History" "houses" "[LBalconyCensus$House;") (by decide +kernel)
  refine lv_aload_n hx hb dX5_takeBack_0 rfl (lv_at hl 0 rfl) ?_
  refine lv_aload_n hx hb dX5_takeBack_1 rfl (lv_at hl 0 rfl) ?_
  refine va_get (D := D) (ci := 3) (v := .int (vhi.1 0)) (C := RX5) (T := TX5) (N := 3) hx hb hts hi3 hown hK hP 0 rfl rfl 1 (by decide) hw1 (fun _ h9 => h9) rfl dX5_takeBack_2 ?_
  refine lv_bipush (v := 8) hx hb dX5_takeBack_5 (by decide +kernel) ?_
  refine lv_iadd hx hb dX5_takeBack_7 ?_
  refine lv_iconst (v := 1) hx hb dX5_takeBack_8 (by decide) ?_
  refine lv_isub hx hb dX5_takeBack_9 ?_
  refine lv_bipush (v := 8) hx hb dX5_takeBack_10 (by decide +kernel) ?_
  refine lv_irem hx hb dX5_takeBack_12 (by decide) ?_
  obtain ⟨v_1, ev_1, hf⟩ := nm_of hf
  refine va_put (D := D) (ci := 3) (v := .int ((((vhi.1 0) + 8) - 1) - (((vhi.1 0) + 8) - 1) / 8 * 8)) (ty := .int) (C := RX5) (T := TX5) (N := 3) hx hb hts hi3 tyX5 tyX5_ok nmX5 hown hK hP hD hS 0 rfl rfl 1 (by decide) hw1 (fun _ h9 => h9) rfl (by decide +kernel) rfl rfl (Nat.le_of_ble_eq_true rfl) dX5_takeBack_13 (fun H locs hP hD hS => ?_)
  have hP : va_P D vwCl (kHist Q v_1 ++ kHH G Q vhh ++ kHouse G q0 v0) H := by rw [ev_1]; exact hP
  have hD : va_D A (kHist Q v_1 ++ kHH G Q vhh ++ kHouse G q0 v0) := by rw [ev_1]; exact hD
  refine lv_aload_n hx hb dX5_takeBack_16 rfl (lv_at hl 0 rfl) ?_
  refine lv_dup hx hb dX5_takeBack_17 rfl ?_
  refine va_get (D := D) (ci := 3) (v := .int (v_1.1 1)) (C := RX5) (T := TX5) (N := 3) hx hb hts hi3 hown hK hP 0 rfl rfl 2 (by decide) hw2 (fun _ h9 => h9) rfl dX5_takeBack_18 ?_
  refine lv_iconst (v := 1) hx hb dX5_takeBack_21 (by decide) ?_
  refine lv_isub hx hb dX5_takeBack_22 ?_
  obtain ⟨v_2, ev_2, hf⟩ := nm_of hf
  refine va_put (D := D) (ci := 3) (v := .int ((v_1.1 1) - 1)) (ty := .int) (C := RX5) (T := TX5) (N := 3) hx hb hts hi3 tyX5 tyX5_ok nmX5 hown hK hP hD hS 0 rfl rfl 2 (by decide) hw2 (fun _ h9 => h9) rfl (by decide +kernel) rfl rfl (Nat.le_of_ble_eq_true rfl) dX5_takeBack_23 (fun H locs hP hD hS => ?_)
  have hP : va_P D vwCl (kHist Q v_2 ++ kHH G Q vhh ++ kHouse G q0 v0) H := by rw [ev_2]; exact hP
  have hD : va_D A (kHist Q v_2 ++ kHH G Q vhh ++ kHouse G q0 v0) := by rw [ev_2]; exact hD
  refine lv_aload_n hx hb dX5_takeBack_26 rfl (lv_at hl 1 rfl) ?_
  refine lv_aload_n hx hb dX5_takeBack_27 rfl (lv_at hl 0 rfl) ?_
  refine va_get (D := D) (ci := 3) (v := .ref (Q 4 1)) (C := RX5) (T := TX5) (N := 3) hx hb hts hi3 hown hK hP 0 rfl rfl 0 (by decide) hw3 (fun _ h9 => h9) rfl dX5_takeBack_28 ?_
  refine lv_aload_n hx hb dX5_takeBack_31 rfl (lv_at hl 0 rfl) ?_
  refine va_get (D := D) (ci := 3) (v := .int (v_2.1 0)) (C := RX5) (T := TX5) (N := 3) hx hb hts hi3 hown hK hP 0 rfl rfl 1 (by decide) hw1 (fun _ h9 => h9) rfl dX5_takeBack_32 ?_
  obtain ⟨hin, hf⟩ := ckI_of hf
  obtain ⟨hk, hf⟩ := ckP_of hf
  rw [hk] at hin ⊢
  refine va_aldq (D := D) hx hb hK hP 1 3 rfl rfl hin dX5_takeBack_35 ?_
  refine W.eq (g2 := F0 m 36 ls [.ref (Q 15 0), .ref (q0 0)]) rfl ?_
  obtain ⟨w_3, hc, hf⟩ := bd1_of hf
  have hPb : va_P D vwCl ((kHist Q v_2 ++ kHHx5 G Q vhh) ++ (kHouse G q0 v0 ++ kHouse G (Q 15) (vhh 5))) H := by simp only [pP_app, kHH5_P, kHHx5_hu, hu_s] at hP ⊢; simp only [hP, and_self]
  have hDb : va_D A ((kHist Q v_2 ++ kHHx5 G Q vhh) ++ (kHouse G q0 v0 ++ kHouse G (Q 15) (vhh 5))) := by simp only [pD_app, Dj_l, Dj_r, kHH5_D, kHH5_j, kHH5_i, kHHx5_hu, hu_s] at hD ⊢; simp only [hD, and_self]
  refine k_VB (As := [.ref (Q 15 0)]) (rest := []) ⟨hx, hb, hml, hown, hts⟩ (c_X6_take l D G q0 (Q 15)  v0 (vhh 5) _ hc  _) (cwV 1 hts gX5_takeBack_X6_take rfl rfl rfl (by decide +kernel) ⟨Nat.le_of_ble_eq_true rfl, Nat.le_of_ble_eq_true rfl⟩) hl.1 (Nat.le_of_ble_eq_true rfl) dX5_takeBack_36 ⟨Nat.le_of_ble_eq_true rfl, Nat.le_of_ble_eq_true rfl⟩ rfl kT_bl (fun _ _ _ => trivial) hN hK hPb hDb hS hA 0 4 rfl rfl rfl [0, 1, 2, 3] rfl (fun H locs hP hD hS => ?_)
  have hP : va_P D vwCl (kHist Q v_2 ++ kHH G Q vhh ++ kHouse G q0 w_3) H := by simp only [pP_app, kHH5_P, kHHx5_hu, hu_s] at hP ⊢; simp only [hP, and_self]
  have hD : va_D A (kHist Q v_2 ++ kHH G Q vhh ++ kHouse G q0 w_3) := by simp only [pD_app, Dj_l, Dj_r, kHH5_D, kHH5_j, kHH5_i, kHHx5_hu, hu_s] at hD ⊢; simp only [hD, and_self]
  obtain ⟨rfl, rfl⟩ := re2 hf
  exact hE hP hD hS dX5_takeBack_39
def f_X5_takeBack_6 (vhi : SV) (vhh : (Nat → SV)) (v0 : SV) : Option (SV × SV) :=
  nm (pF vhi 0 ((((vhi.1 0) + 8) - 1) - (((vhi.1 0) + 8) - 1) / 8 * 8)) fun v_1 =>
  nm (pF v_1 1 ((v_1.1 1) - 1)) fun v_2 =>
  ckI (v_2.1 0) 8 <|
  ckP ((v_2.1 0) = 6) <|
  bd1 (f_X6_take v0 (vhh 6)) fun w_3 =>
  some (v_2, w_3)
abbrev rm_X5_takeBack_6 : Room := { frames := 3, cells := 0, slots := 0, locals := 60 }
set_option maxHeartbeats 4000000 in
set_option maxRecDepth 100000 in
theorem c_X5_takeBack_6 (l : Launch) (D : va_G) (G : Nat → ClassId) (Q : Nat → Nat → Nat) (q0 : Nat → Nat) (vhi : SV) (vhh : (Nat → SV)) (v0 : SV) (vhi' : SV) (v0' : SV) (hf : f_X5_takeBack_6 vhi vhh v0 = some (vhi', v0')) (sz : Nat) : mC l yX5_takeBack wsX5_takeBack rm_X5_takeBack_6 D (tyG G) kT [.ref ((Q 4) 0), .ref (q0 0)] (kHist Q vhi ++ kHH G Q vhh ++ kHouse G q0 v0) (kHist Q vhi' ++ kHH G Q vhh ++ kHouse G q0 v0') sz none 0 0 := by
  refine mC_ofV (cc := cX5_takeBack) (maxL := 2) (ret := none) (by decide) rfl rfl (Nat.le_of_ble_eq_true rfl) ?_
  intro p e s m args below meth c Q0 hx hb hml hts hown hN hK A hD hA hE hP hS hJ ls hl
  have hl : lv_has ls 2 [(0, .ref ((Q 4) 0)), (1, .ref (q0 0))] := hl
  unfold f_X5_takeBack_6 at hf
  have hi3 : ∀ w ∈ u_ws RX5 TX5 3, w ∈ wsX5_takeBack := by decide +kernel
  have hw1 := hts (.fieldLink RX5 18 "BalconyCensus$History" "next" "I") (by decide +kernel)
  have hw2 := hts (.fieldLink RX5 26 "BalconyCensus$History" "count" "I") (by decide +kernel)
  have hw3 := hts (.fieldLink RX5 11 "BalconyCensus$History" "houses" "[LBalconyCensus$House;") (by decide +kernel)
  refine lv_aload_n hx hb dX5_takeBack_0 rfl (lv_at hl 0 rfl) ?_
  refine lv_aload_n hx hb dX5_takeBack_1 rfl (lv_at hl 0 rfl) ?_
  refine va_get (D := D) (ci := 3) (v := .int (vhi.1 0)) (C := RX5) (T := TX5) (N := 3) hx hb hts hi3 hown hK hP 0 rfl rfl 1 (by decide) hw1 (fun _ h9 => h9) rfl dX5_takeBack_2 ?_
  refine lv_bipush (v := 8) hx hb dX5_takeBack_5 (by decide +kernel) ?_
  refine lv_iadd hx hb dX5_takeBack_7 ?_
  refine lv_iconst (v := 1) hx hb dX5_takeBack_8 (by decide) ?_
  refine lv_isub hx hb dX5_takeBack_9 ?_
  refine lv_bipush (v := 8) hx hb dX5_takeBack_10 (by decide +kernel) ?_
  refine lv_irem hx hb dX5_takeBack_12 (by decide) ?_
  obtain ⟨v_1, ev_1, hf⟩ := nm_of hf
  refine va_put (D := D) (ci := 3) (v := .int ((((vhi.1 0) + 8) - 1) - (((vhi.1 0) + 8) - 1) / 8 * 8)) (ty := .int) (C := RX5) (T := TX5) (N := 3) hx hb hts hi3 tyX5 tyX5_ok nmX5 hown hK hP hD hS 0 rfl rfl 1 (by decide) hw1 (fun _ h9 => h9) rfl (by decide +kernel) rfl rfl (Nat.le_of_ble_eq_true rfl) dX5_takeBack_13 (fun H locs hP hD hS => ?_)
  have hP : va_P D vwCl (kHist Q v_1 ++ kHH G Q vhh ++ kHouse G q0 v0) H := by rw [ev_1]; exact hP
  have hD : va_D A (kHist Q v_1 ++ kHH G Q vhh ++ kHouse G q0 v0) := by rw [ev_1]; exact hD
  refine lv_aload_n hx hb dX5_takeBack_16 rfl (lv_at hl 0 rfl) ?_
  refine lv_dup hx hb dX5_takeBack_17 rfl ?_
  refine va_get (D := D) (ci := 3) (v := .int (v_1.1 1)) (C := RX5) (T := TX5) (N := 3) hx hb hts hi3 hown hK hP 0 rfl rfl 2 (by decide) hw2 (fun _ h9 => h9) rfl dX5_takeBack_18 ?_
  refine lv_iconst (v := 1) hx hb dX5_takeBack_21 (by decide) ?_
  refine lv_isub hx hb dX5_takeBack_22 ?_
  obtain ⟨v_2, ev_2, hf⟩ := nm_of hf
  refine va_put (D := D) (ci := 3) (v := .int ((v_1.1 1) - 1)) (ty := .int) (C := RX5) (T := TX5) (N := 3) hx hb hts hi3 tyX5 tyX5_ok nmX5 hown hK hP hD hS 0 rfl rfl 2 (by decide) hw2 (fun _ h9 => h9) rfl (by decide +kernel) rfl rfl (Nat.le_of_ble_eq_true rfl) dX5_takeBack_23 (fun H locs hP hD hS => ?_)
  have hP : va_P D vwCl (kHist Q v_2 ++ kHH G Q vhh ++ kHouse G q0 v0) H := by rw [ev_2]; exact hP
  have hD : va_D A (kHist Q v_2 ++ kHH G Q vhh ++ kHouse G q0 v0) := by rw [ev_2]; exact hD
  refine lv_aload_n hx hb dX5_takeBack_26 rfl (lv_at hl 1 rfl) ?_
  refine lv_aload_n hx hb dX5_takeBack_27 rfl (lv_at hl 0 rfl) ?_
  refine va_get (D := D) (ci := 3) (v := .ref (Q 4 1)) (C := RX5) (T := TX5) (N := 3) hx hb hts hi3 hown hK hP 0 rfl rfl 0 (by decide) hw3 (fun _ h9 => h9) rfl dX5_takeBack_28 ?_
  refine lv_aload_n hx hb dX5_takeBack_31 rfl (lv_at hl 0 rfl) ?_
  refine va_get (D := D) (ci := 3) (v := .int (v_2.1 0)) (C := RX5) (T := TX5) (N := 3) hx hb hts hi3 hown hK hP 0 rfl rfl 1 (by decide) hw1 (fun _ h9 => h9) rfl dX5_takeBack_32 ?_
  obtain ⟨hin, hf⟩ := ckI_of hf
  obtain ⟨hk, hf⟩ := ckP_of hf
  rw [hk] at hin ⊢
  refine va_aldq (D := D) hx hb hK hP 1 3 rfl rfl hin dX5_takeBack_35 ?_
  refine W.eq (g2 := F0 m 36 ls [.ref (Q 16 0), .ref (q0 0)]) rfl ?_
  obtain ⟨w_3, hc, hf⟩ := bd1_of hf
  have hPb : va_P D vwCl ((kHist Q v_2 ++ kHHx6 G Q vhh) ++ (kHouse G q0 v0 ++ kHouse G (Q 16) (vhh 6))) H := by simp only [pP_app, kHH6_P, kHHx6_hu, hu_s] at hP ⊢; simp only [hP, and_self]
  have hDb : va_D A ((kHist Q v_2 ++ kHHx6 G Q vhh) ++ (kHouse G q0 v0 ++ kHouse G (Q 16) (vhh 6))) := by simp only [pD_app, Dj_l, Dj_r, kHH6_D, kHH6_j, kHH6_i, kHHx6_hu, hu_s] at hD ⊢; simp only [hD, and_self]
  refine k_VB (As := [.ref (Q 16 0)]) (rest := []) ⟨hx, hb, hml, hown, hts⟩ (c_X6_take l D G q0 (Q 16)  v0 (vhh 6) _ hc  _) (cwV 1 hts gX5_takeBack_X6_take rfl rfl rfl (by decide +kernel) ⟨Nat.le_of_ble_eq_true rfl, Nat.le_of_ble_eq_true rfl⟩) hl.1 (Nat.le_of_ble_eq_true rfl) dX5_takeBack_36 ⟨Nat.le_of_ble_eq_true rfl, Nat.le_of_ble_eq_true rfl⟩ rfl kT_bl (fun _ _ _ => trivial) hN hK hPb hDb hS hA 0 4 rfl rfl rfl [0, 1, 2, 3] rfl (fun H locs hP hD hS => ?_)
  have hP : va_P D vwCl (kHist Q v_2 ++ kHH G Q vhh ++ kHouse G q0 w_3) H := by simp only [pP_app, kHH6_P, kHHx6_hu, hu_s] at hP ⊢; simp only [hP, and_self]
  have hD : va_D A (kHist Q v_2 ++ kHH G Q vhh ++ kHouse G q0 w_3) := by simp only [pD_app, Dj_l, Dj_r, kHH6_D, kHH6_j, kHH6_i, kHHx6_hu, hu_s] at hD ⊢; simp only [hD, and_self]
  obtain ⟨rfl, rfl⟩ := re2 hf
  exact hE hP hD hS dX5_takeBack_39
def f_X5_takeBack_7 (vhi : SV) (vhh : (Nat → SV)) (v0 : SV) : Option (SV × SV) :=
  nm (pF vhi 0 ((((vhi.1 0) + 8) - 1) - (((vhi.1 0) + 8) - 1) / 8 * 8)) fun v_1 =>
  nm (pF v_1 1 ((v_1.1 1) - 1)) fun v_2 =>
  ckI (v_2.1 0) 8 <|
  ckP ((v_2.1 0) = 7) <|
  bd1 (f_X6_take v0 (vhh 7)) fun w_3 =>
  some (v_2, w_3)
abbrev rm_X5_takeBack_7 : Room := { frames := 3, cells := 0, slots := 0, locals := 60 }
set_option maxHeartbeats 4000000 in
set_option maxRecDepth 100000 in
theorem c_X5_takeBack_7 (l : Launch) (D : va_G) (G : Nat → ClassId) (Q : Nat → Nat → Nat) (q0 : Nat → Nat) (vhi : SV) (vhh : (Nat → SV)) (v0 : SV) (vhi' : SV) (v0' : SV) (hf : f_X5_takeBack_7 vhi vhh v0 = some (vhi', v0')) (sz : Nat) : mC l yX5_takeBack wsX5_takeBack rm_X5_takeBack_7 D (tyG G) kT [.ref ((Q 4) 0), .ref (q0 0)] (kHist Q vhi ++ kHH G Q vhh ++ kHouse G q0 v0) (kHist Q vhi' ++ kHH G Q vhh ++ kHouse G q0 v0') sz none 0 0 := by
  refine mC_ofV (cc := cX5_takeBack) (maxL := 2) (ret := none) (by decide) rfl rfl (Nat.le_of_ble_eq_true rfl) ?_
  intro p e s m args below meth c Q0 hx hb hml hts hown hN hK A hD hA hE hP hS hJ ls hl
  have hl : lv_has ls 2 [(0, .ref ((Q 4) 0)), (1, .ref (q0 0))] := hl
  unfold f_X5_takeBack_7 at hf
  have hi3 : ∀ w ∈ u_ws RX5 TX5 3, w ∈ wsX5_takeBack := by decide +kernel
  have hw1 := hts (.fieldLink RX5 18 "BalconyCensus$History" "next" "I") (by decide +kernel)
  have hw2 := hts (.fieldLink RX5 26 "BalconyCensus$History" "count" "I") (by decide +kernel)
  have hw3 := hts (.fieldLink RX5 11 "BalconyCensus$History" "houses" "[LBalconyCensus$House;") (by decide +kernel)
  refine lv_aload_n hx hb dX5_takeBack_0 rfl (lv_at hl 0 rfl) ?_
  refine lv_aload_n hx hb dX5_takeBack_1 rfl (lv_at hl 0 rfl) ?_
  refine va_get (D := D) (ci := 3) (v := .int (vhi.1 0)) (C := RX5) (T := TX5) (N := 3) hx hb hts hi3 hown hK hP 0 rfl rfl 1 (by decide) hw1 (fun _ h9 => h9) rfl dX5_takeBack_2 ?_
  refine lv_bipush (v := 8) hx hb dX5_takeBack_5 (by decide +kernel) ?_
  refine lv_iadd hx hb dX5_takeBack_7 ?_
  refine lv_iconst (v := 1) hx hb dX5_takeBack_8 (by decide) ?_
  refine lv_isub hx hb dX5_takeBack_9 ?_
  refine lv_bipush (v := 8) hx hb dX5_takeBack_10 (by decide +kernel) ?_
  refine lv_irem hx hb dX5_takeBack_12 (by decide) ?_
  obtain ⟨v_1, ev_1, hf⟩ := nm_of hf
  refine va_put (D := D) (ci := 3) (v := .int ((((vhi.1 0) + 8) - 1) - (((vhi.1 0) + 8) - 1) / 8 * 8)) (ty := .int) (C := RX5) (T := TX5) (N := 3) hx hb hts hi3 tyX5 tyX5_ok nmX5 hown hK hP hD hS 0 rfl rfl 1 (by decide) hw1 (fun _ h9 => h9) rfl (by decide +kernel) rfl rfl (Nat.le_of_ble_eq_true rfl) dX5_takeBack_13 (fun H locs hP hD hS => ?_)
  have hP : va_P D vwCl (kHist Q v_1 ++ kHH G Q vhh ++ kHouse G q0 v0) H := by rw [ev_1]; exact hP
  have hD : va_D A (kHist Q v_1 ++ kHH G Q vhh ++ kHouse G q0 v0) := by rw [ev_1]; exact hD
  refine lv_aload_n hx hb dX5_takeBack_16 rfl (lv_at hl 0 rfl) ?_
  refine lv_dup hx hb dX5_takeBack_17 rfl ?_
  refine va_get (D := D) (ci := 3) (v := .int (v_1.1 1)) (C := RX5) (T := TX5) (N := 3) hx hb hts hi3 hown hK hP 0 rfl rfl 2 (by decide) hw2 (fun _ h9 => h9) rfl dX5_takeBack_18 ?_
  refine lv_iconst (v := 1) hx hb dX5_takeBack_21 (by decide) ?_
  refine lv_isub hx hb dX5_takeBack_22 ?_
  obtain ⟨v_2, ev_2, hf⟩ := nm_of hf
  refine va_put (D := D) (ci := 3) (v := .int ((v_1.1 1) - 1)) (ty := .int) (C := RX5) (T := TX5) (N := 3) hx hb hts hi3 tyX5 tyX5_ok nmX5 hown hK hP hD hS 0 rfl rfl 2 (by decide) hw2 (fun _ h9 => h9) rfl (by decide +kernel) rfl rfl (Nat.le_of_ble_eq_true rfl) dX5_takeBack_23 (fun H locs hP hD hS => ?_)
  have hP : va_P D vwCl (kHist Q v_2 ++ kHH G Q vhh ++ kHouse G q0 v0) H := by rw [ev_2]; exact hP
  have hD : va_D A (kHist Q v_2 ++ kHH G Q vhh ++ kHouse G q0 v0) := by rw [ev_2]; exact hD
  refine lv_aload_n hx hb dX5_takeBack_26 rfl (lv_at hl 1 rfl) ?_
  refine lv_aload_n hx hb dX5_takeBack_27 rfl (lv_at hl 0 rfl) ?_
  refine va_get (D := D) (ci := 3) (v := .ref (Q 4 1)) (C := RX5) (T := TX5) (N := 3) hx hb hts hi3 hown hK hP 0 rfl rfl 0 (by decide) hw3 (fun _ h9 => h9) rfl dX5_takeBack_28 ?_
  refine lv_aload_n hx hb dX5_takeBack_31 rfl (lv_at hl 0 rfl) ?_
  refine va_get (D := D) (ci := 3) (v := .int (v_2.1 0)) (C := RX5) (T := TX5) (N := 3) hx hb hts hi3 hown hK hP 0 rfl rfl 1 (by decide) hw1 (fun _ h9 => h9) rfl dX5_takeBack_32 ?_
  obtain ⟨hin, hf⟩ := ckI_of hf
  obtain ⟨hk, hf⟩ := ckP_of hf
  rw [hk] at hin ⊢
  refine va_aldq (D := D) hx hb hK hP 1 3 rfl rfl hin dX5_takeBack_35 ?_
  refine W.eq (g2 := F0 m 36 ls [.ref (Q 17 0), .ref (q0 0)]) rfl ?_
  obtain ⟨w_3, hc, hf⟩ := bd1_of hf
  have hPb : va_P D vwCl ((kHist Q v_2 ++ kHHx7 G Q vhh) ++ (kHouse G q0 v0 ++ kHouse G (Q 17) (vhh 7))) H := by simp only [pP_app, kHH7_P, kHHx7_hu, hu_s] at hP ⊢; simp only [hP, and_self]
  have hDb : va_D A ((kHist Q v_2 ++ kHHx7 G Q vhh) ++ (kHouse G q0 v0 ++ kHouse G (Q 17) (vhh 7))) := by simp only [pD_app, Dj_l, Dj_r, kHH7_D, kHH7_j, kHH7_i, kHHx7_hu, hu_s] at hD ⊢; simp only [hD, and_self]
  refine k_VB (As := [.ref (Q 17 0)]) (rest := []) ⟨hx, hb, hml, hown, hts⟩ (c_X6_take l D G q0 (Q 17)  v0 (vhh 7) _ hc  _) (cwV 1 hts gX5_takeBack_X6_take rfl rfl rfl (by decide +kernel) ⟨Nat.le_of_ble_eq_true rfl, Nat.le_of_ble_eq_true rfl⟩) hl.1 (Nat.le_of_ble_eq_true rfl) dX5_takeBack_36 ⟨Nat.le_of_ble_eq_true rfl, Nat.le_of_ble_eq_true rfl⟩ rfl kT_bl (fun _ _ _ => trivial) hN hK hPb hDb hS hA 0 4 rfl rfl rfl [0, 1, 2, 3] rfl (fun H locs hP hD hS => ?_)
  have hP : va_P D vwCl (kHist Q v_2 ++ kHH G Q vhh ++ kHouse G q0 w_3) H := by simp only [pP_app, kHH7_P, kHHx7_hu, hu_s] at hP ⊢; simp only [hP, and_self]
  have hD : va_D A (kHist Q v_2 ++ kHH G Q vhh ++ kHouse G q0 w_3) := by simp only [pD_app, Dj_l, Dj_r, kHH7_D, kHH7_j, kHH7_i, kHHx7_hu, hu_s] at hD ⊢; simp only [hD, and_self]
  obtain ⟨rfl, rfl⟩ := re2 hf
  exact hE hP hD hS dX5_takeBack_39
def f_X5_takeBack (vhi : SV) (vhh : (Nat → SV)) (v0 : SV) : Option (SV × SV) :=
  (Option.or (f_X5_takeBack_0 vhi vhh v0) (Option.or (f_X5_takeBack_1 vhi vhh v0) (Option.or (f_X5_takeBack_2 vhi vhh v0) (Option.or (f_X5_takeBack_3 vhi vhh v0) (Option.or (f_X5_takeBack_4 vhi vhh v0) (Option.or (f_X5_takeBack_5 vhi vhh v0) (Option.or (f_X5_takeBack_6 vhi vhh v0) (f_X5_takeBack_7 vhi vhh v0))))))))
abbrev rm_X5_takeBack : Room := rm_X5_takeBack_0
theorem c_X5_takeBack (l : Launch) (D : va_G) (G : Nat → ClassId) (Q : Nat → Nat → Nat) (q0 : Nat → Nat) (vhi : SV) (vhh : (Nat → SV)) (v0 : SV) (vhi' : SV) (v0' : SV) (hf : f_X5_takeBack vhi vhh v0 = some (vhi', v0')) (sz : Nat) : mC l yX5_takeBack wsX5_takeBack rm_X5_takeBack D (tyG G) kT [.ref ((Q 4) 0), .ref (q0 0)] (kHist Q vhi ++ kHH G Q vhh ++ kHouse G q0 v0) (kHist Q vhi' ++ kHH G Q vhh ++ kHouse G q0 v0') sz none 0 0 := by
  unfold f_X5_takeBack at hf
  rcases or_of hf with h0 | hf
  · exact c_X5_takeBack_0 l D G Q q0 vhi vhh v0 vhi' v0' h0 sz
  rcases or_of hf with h1 | hf
  · exact c_X5_takeBack_1 l D G Q q0 vhi vhh v0 vhi' v0' h1 sz
  rcases or_of hf with h2 | hf
  · exact c_X5_takeBack_2 l D G Q q0 vhi vhh v0 vhi' v0' h2 sz
  rcases or_of hf with h3 | hf
  · exact c_X5_takeBack_3 l D G Q q0 vhi vhh v0 vhi' v0' h3 sz
  rcases or_of hf with h4 | hf
  · exact c_X5_takeBack_4 l D G Q q0 vhi vhh v0 vhi' v0' h4 sz
  rcases or_of hf with h5 | hf
  · exact c_X5_takeBack_5 l D G Q q0 vhi vhh v0 vhi' v0' h5 sz
  rcases or_of hf with h6 | hf
  · exact c_X5_takeBack_6 l D G Q q0 vhi vhh v0 vhi' v0' h6 sz
  exact c_X5_takeBack_7 l D G Q q0 vhi vhh v0 vhi' v0' hf sz
