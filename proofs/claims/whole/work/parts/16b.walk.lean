/-! Walks, laid by wip/whole/gen.py: for each method f_ (what it does to its world) and c_ (its contract). -/
def f_X12_cat (a1 : Int32) (vmn : SV) (vho : SV) (vdr : SV) (vhi : SV) (vrf : SV) (vhh : (Nat → SV)) : Option (Int32 × SV × SV × SV × SV × (Nat → SV)) :=
  bd1 (f_X6_take vdr vho) fun w_1 =>
  bd3 (f_X6_letCatCome a1 w_1 vrf) fun r_2 w_3 w_4 =>
  bd4 (f_X12_settle r_2 vmn vho w_3 vhi vhh) fun r_5 w_6 w_7 w_8 =>
  some (r_5, w_6, w_3, w_7, w_4, w_8)
abbrev rm_X12_cat : Room := { frames := 5, cells := 0, slots := 0, locals := 102 }
set_option maxHeartbeats 4000000 in
set_option maxRecDepth 100000 in
theorem c_X12_cat (l : Launch) (D : va_G) (G : Nat → ClassId) (Q : Nat → Nat → Nat) (a1 : Int32) (vmn : SV) (vho : SV) (vdr : SV) (vhi : SV) (vrf : SV) (vhh : (Nat → SV)) (r : Int32) (vho' : SV) (vdr' : SV) (vhi' : SV) (vrf' : SV) (vhh' : (Nat → SV)) (hf : f_X12_cat a1 vmn vho vdr vhi vrf vhh = some (r, vho', vdr', vhi', vrf', vhh')) (sz : Nat) : mC l yX12_cat wsX12_cat rm_X12_cat D (tyG G) kT [.ref ((Q 0) 0), .int a1] (kMain Q vmn ++ kHouse G (Q 1) vho ++ kHouse G (Q 2) vdr ++ kHist Q vhi ++ kRef G (Q 6) vrf ++ kHH G Q vhh) (kMain Q vmn ++ kHouse G (Q 1) vho' ++ kHouse G (Q 2) vdr' ++ kHist Q vhi' ++ kRef G (Q 6) vrf' ++ kHH G Q vhh') sz (some (.int r)) 0 0 := by
  refine mC_ofI (cc := cX12_cat) (maxL := 2) (ret := (some .int)) (by decide) rfl rfl (Nat.le_of_ble_eq_true rfl) ?_
  intro p e s m args below meth c Q0 hx hb hml hts hown hN hK A hD hA hE hP hS hJ ls hl
  have hl : lv_has ls 2 [(0, .ref ((Q 0) 0)), (1, .int a1)] := hl
  unfold f_X12_cat at hf
  have hi10 : ∀ w ∈ u_ws RX12 TX12 11, w ∈ wsX12_cat := by decide +kernel
  have hw1 := hts (.fieldLink RX12 16 "BalconyCensus" "draft" "LBalconyCensus$House;") (by decide +kernel)
  have hw2 := hts (.fieldLink RX12 12 "BalconyCensus" "house" "LBalconyCensus$House;") (by decide +kernel)
  have hw3 := hts (.fieldLink RX12 43 "BalconyCensus" "refusal" "LBalconyCensus$Refusal;") (by decide +kernel)
  refine lv_aload_n hx hb dX12_cat_0 rfl (lv_at hl 0 rfl) ?_
  refine va_get (D := D) (ci := 10) (v := .ref (Q 2 0)) (C := RX12) (T := TX12) (N := 11) hx hb hts hi10 hown hK hP 0 rfl rfl 1 (by decide) hw1 (fun _ h9 => h9) rfl dX12_cat_1 ?_
  refine lv_aload_n hx hb dX12_cat_4 rfl (lv_at hl 0 rfl) ?_
  refine va_get (D := D) (ci := 10) (v := .ref (Q 1 0)) (C := RX12) (T := TX12) (N := 11) hx hb hts hi10 hown hK hP 0 rfl rfl 0 (by decide) hw2 (fun _ h9 => h9) rfl dX12_cat_5 ?_
  obtain ⟨w_1, hc, hf⟩ := bd1_of hf
  have hPb : va_P D vwCl ((kMain Q vmn ++ kHist Q vhi ++ kRef G (Q 6) vrf ++ kHH G Q vhh) ++ (kHouse G (Q 2) vdr ++ kHouse G (Q 1) vho)) s.heap := by simp only [pP_app] at hP ⊢; simp only [hP, and_self]
  have hDb : va_D A ((kMain Q vmn ++ kHist Q vhi ++ kRef G (Q 6) vrf ++ kHH G Q vhh) ++ (kHouse G (Q 2) vdr ++ kHouse G (Q 1) vho)) := by simp only [pD_app, Dj_l, Dj_r] at hD ⊢; simp only [hD, and_self]
  refine k_VB (As := [.ref ((Q 1) 0)]) (rest := []) ⟨hx, hb, hml, hown, hts⟩ (c_X6_take l D G (Q 2) (Q 1)  vdr vho _ hc  _) (cwV 1 hts gX12_cat_X6_take rfl rfl rfl (by decide +kernel) ⟨Nat.le_of_ble_eq_true rfl, Nat.le_of_ble_eq_true rfl⟩) hl.1 (Nat.le_of_ble_eq_true rfl) dX12_cat_8 ⟨Nat.le_of_ble_eq_true rfl, Nat.le_of_ble_eq_true rfl⟩ rfl kT_bl (fun _ _ _ => trivial) hN hK hPb hDb hS hA 0 4 rfl rfl rfl [0, 1, 2, 3] rfl (fun H locs hP hD hS => ?_)
  have hP : va_P D vwCl (kMain Q vmn ++ kHouse G (Q 1) vho ++ kHouse G (Q 2) w_1 ++ kHist Q vhi ++ kRef G (Q 6) vrf ++ kHH G Q vhh) H := by simp only [pP_app] at hP ⊢; simp only [hP, and_self]
  have hD : va_D A (kMain Q vmn ++ kHouse G (Q 1) vho ++ kHouse G (Q 2) w_1 ++ kHist Q vhi ++ kRef G (Q 6) vrf ++ kHH G Q vhh) := by simp only [pD_app, Dj_l, Dj_r] at hD ⊢; simp only [hD, and_self]
  refine lv_aload_n hx hb dX12_cat_11 rfl (lv_at hl 0 rfl) ?_
  refine lv_aload_n hx hb dX12_cat_12 rfl (lv_at hl 0 rfl) ?_
  refine va_get (D := D) (ci := 10) (v := .ref (Q 2 0)) (C := RX12) (T := TX12) (N := 11) hx hb hts hi10 hown hK hP 0 rfl rfl 1 (by decide) hw1 (fun _ h9 => h9) rfl dX12_cat_13 ?_
  refine lv_iload_n hx hb dX12_cat_16 rfl (lv_at hl 1 rfl) ?_
  refine lv_aload_n hx hb dX12_cat_17 rfl (lv_at hl 0 rfl) ?_
  refine va_get (D := D) (ci := 10) (v := .ref (Q 6 0)) (C := RX12) (T := TX12) (N := 11) hx hb hts hi10 hown hK hP 0 rfl rfl 6 (by decide) hw3 (fun _ h9 => h9) rfl dX12_cat_18 ?_
  obtain ⟨r_2, w_3, w_4, hc, hf⟩ := bd3_of hf
  have hPb : va_P D vwCl ((kMain Q vmn ++ kHouse G (Q 1) vho ++ kHist Q vhi ++ kHH G Q vhh) ++ (kHouse G (Q 2) w_1 ++ kRef G (Q 6) vrf)) H := by simp only [pP_app] at hP ⊢; simp only [hP, and_self]
  have hDb : va_D A ((kMain Q vmn ++ kHouse G (Q 1) vho ++ kHist Q vhi ++ kHH G Q vhh) ++ (kHouse G (Q 2) w_1 ++ kRef G (Q 6) vrf)) := by simp only [pD_app, Dj_l, Dj_r] at hD ⊢; simp only [hD, and_self]
  refine k_VB (As := [.int a1, .ref ((Q 6) 0)]) (rest := [.ref ((Q 0) 0)]) ⟨hx, hb, hml, hown, hts⟩ (c_X6_letCatCome l D G (Q 2) (Q 6) a1 w_1 vrf _ _ _ hc  _) (cwV 2 hts gX12_cat_X6_letCatCome rfl rfl rfl (by decide +kernel) ⟨Nat.le_of_ble_eq_true rfl, Nat.le_of_ble_eq_true rfl⟩) hl.1 (Nat.le_of_ble_eq_true rfl) dX12_cat_21 ⟨Nat.le_of_ble_eq_true rfl, Nat.le_of_ble_eq_true rfl⟩ rfl kT_bl (fun _ _ _ => trivial) hN hK hPb hDb hS hA 0 4 rfl rfl rfl [0, 1, 2, 3] rfl (fun H locs hP hD hS => ?_)
  have hP : va_P D vwCl (kMain Q vmn ++ kHouse G (Q 1) vho ++ kHouse G (Q 2) w_3 ++ kHist Q vhi ++ kRef G (Q 6) w_4 ++ kHH G Q vhh) H := by simp only [pP_app] at hP ⊢; simp only [hP, and_self]
  have hD : va_D A (kMain Q vmn ++ kHouse G (Q 1) vho ++ kHouse G (Q 2) w_3 ++ kHist Q vhi ++ kRef G (Q 6) w_4 ++ kHH G Q vhh) := by simp only [pD_app, Dj_l, Dj_r] at hD ⊢; simp only [hD, and_self]
  obtain ⟨r_5, w_6, w_7, w_8, hc, hf⟩ := bd4_of hf
  have hPb : va_P D vwCl ((kRef G (Q 6) w_4) ++ (kMain Q vmn ++ kHouse G (Q 1) vho ++ kHouse G (Q 2) w_3 ++ kHist Q vhi ++ kHH G Q vhh)) H := by simp only [pP_app] at hP ⊢; simp only [hP, and_self]
  have hDb : va_D A ((kRef G (Q 6) w_4) ++ (kMain Q vmn ++ kHouse G (Q 1) vho ++ kHouse G (Q 2) w_3 ++ kHist Q vhi ++ kHH G Q vhh)) := by simp only [pD_app, Dj_l, Dj_r] at hD ⊢; simp only [hD, and_self]
  refine k_VB (As := [.int r_2]) (rest := []) ⟨hx, hb, hml, hown, hts⟩ (c_X12_settle l D G Q r_2 vmn vho w_3 vhi vhh _ _ _ _ hc  _) (cwV 1 hts gX12_cat_X12_settle rfl rfl rfl (by decide +kernel) ⟨Nat.le_of_ble_eq_true rfl, Nat.le_of_ble_eq_true rfl⟩) hl.1 (Nat.le_of_ble_eq_true rfl) dX12_cat_24 ⟨Nat.le_of_ble_eq_true rfl, Nat.le_of_ble_eq_true rfl⟩ rfl kT_bl (fun _ _ _ => trivial) hN hK hPb hDb hS hA 0 10 rfl rfl rfl [0, 1, 2, 3] rfl (fun H locs hP hD hS => ?_)
  have hP : va_P D vwCl (kMain Q vmn ++ kHouse G (Q 1) w_6 ++ kHouse G (Q 2) w_3 ++ kHist Q w_7 ++ kRef G (Q 6) w_4 ++ kHH G Q w_8) H := by simp only [pP_app] at hP ⊢; simp only [hP, and_self]
  have hD : va_D A (kMain Q vmn ++ kHouse G (Q 1) w_6 ++ kHouse G (Q 2) w_3 ++ kHist Q w_7 ++ kRef G (Q 6) w_4 ++ kHH G Q w_8) := by simp only [pD_app, Dj_l, Dj_r] at hD ⊢; simp only [hD, and_self]
  obtain ⟨rfl, rfl, rfl, rfl, rfl, rfl⟩ := re6 hf
  exact hE hP hD hS dX12_cat_27
def f_X12_swap (a1 : Int32) (a2 : Int32) (vmn : SV) (vho : SV) (vdr : SV) (vhi : SV) (vrf : SV) (vhh : (Nat → SV)) : Option (Int32 × SV × SV × SV × SV × (Nat → SV)) :=
  bd1 (f_X6_take vdr vho) fun w_1 =>
  bd3 (f_X6_swapCats a1 a2 w_1 vrf) fun r_2 w_3 w_4 =>
  bd4 (f_X12_settle r_2 vmn vho w_3 vhi vhh) fun r_5 w_6 w_7 w_8 =>
  some (r_5, w_6, w_3, w_7, w_4, w_8)
abbrev rm_X12_swap : Room := { frames := 5, cells := 0, slots := 0, locals := 102 }
set_option maxHeartbeats 4000000 in
set_option maxRecDepth 100000 in
theorem c_X12_swap (l : Launch) (D : va_G) (G : Nat → ClassId) (Q : Nat → Nat → Nat) (a1 : Int32) (a2 : Int32) (vmn : SV) (vho : SV) (vdr : SV) (vhi : SV) (vrf : SV) (vhh : (Nat → SV)) (r : Int32) (vho' : SV) (vdr' : SV) (vhi' : SV) (vrf' : SV) (vhh' : (Nat → SV)) (hf : f_X12_swap a1 a2 vmn vho vdr vhi vrf vhh = some (r, vho', vdr', vhi', vrf', vhh')) (sz : Nat) : mC l yX12_swap wsX12_swap rm_X12_swap D (tyG G) kT [.ref ((Q 0) 0), .int a1, .int a2] (kMain Q vmn ++ kHouse G (Q 1) vho ++ kHouse G (Q 2) vdr ++ kHist Q vhi ++ kRef G (Q 6) vrf ++ kHH G Q vhh) (kMain Q vmn ++ kHouse G (Q 1) vho' ++ kHouse G (Q 2) vdr' ++ kHist Q vhi' ++ kRef G (Q 6) vrf' ++ kHH G Q vhh') sz (some (.int r)) 0 0 := by
  refine mC_ofI (cc := cX12_swap) (maxL := 3) (ret := (some .int)) (by decide) rfl rfl (Nat.le_of_ble_eq_true rfl) ?_
  intro p e s m args below meth c Q0 hx hb hml hts hown hN hK A hD hA hE hP hS hJ ls hl
  have hl : lv_has ls 3 [(0, .ref ((Q 0) 0)), (1, .int a1), (2, .int a2)] := hl
  unfold f_X12_swap at hf
  have hi10 : ∀ w ∈ u_ws RX12 TX12 11, w ∈ wsX12_swap := by decide +kernel
  have hw1 := hts (.fieldLink RX12 16 "BalconyCensus" "draft" "LBalconyCensus$House;") (by decide +kernel)
  have hw2 := hts (.fieldLink RX12 12 "BalconyCensus" "house" "LBalconyCensus$House;") (by decide +kernel)
  have hw3 := hts (.fieldLink RX12 43 "BalconyCensus" "refusal" "LBalconyCensus$Refusal;") (by decide +kernel)
  refine lv_aload_n hx hb dX12_swap_0 rfl (lv_at hl 0 rfl) ?_
  refine va_get (D := D) (ci := 10) (v := .ref (Q 2 0)) (C := RX12) (T := TX12) (N := 11) hx hb hts hi10 hown hK hP 0 rfl rfl 1 (by decide) hw1 (fun _ h9 => h9) rfl dX12_swap_1 ?_
  refine lv_aload_n hx hb dX12_swap_4 rfl (lv_at hl 0 rfl) ?_
  refine va_get (D := D) (ci := 10) (v := .ref (Q 1 0)) (C := RX12) (T := TX12) (N := 11) hx hb hts hi10 hown hK hP 0 rfl rfl 0 (by decide) hw2 (fun _ h9 => h9) rfl dX12_swap_5 ?_
  obtain ⟨w_1, hc, hf⟩ := bd1_of hf
  have hPb : va_P D vwCl ((kMain Q vmn ++ kHist Q vhi ++ kRef G (Q 6) vrf ++ kHH G Q vhh) ++ (kHouse G (Q 2) vdr ++ kHouse G (Q 1) vho)) s.heap := by simp only [pP_app] at hP ⊢; simp only [hP, and_self]
  have hDb : va_D A ((kMain Q vmn ++ kHist Q vhi ++ kRef G (Q 6) vrf ++ kHH G Q vhh) ++ (kHouse G (Q 2) vdr ++ kHouse G (Q 1) vho)) := by simp only [pD_app, Dj_l, Dj_r] at hD ⊢; simp only [hD, and_self]
  refine k_VB (As := [.ref ((Q 1) 0)]) (rest := []) ⟨hx, hb, hml, hown, hts⟩ (c_X6_take l D G (Q 2) (Q 1)  vdr vho _ hc  _) (cwV 1 hts gX12_swap_X6_take rfl rfl rfl (by decide +kernel) ⟨Nat.le_of_ble_eq_true rfl, Nat.le_of_ble_eq_true rfl⟩) hl.1 (Nat.le_of_ble_eq_true rfl) dX12_swap_8 ⟨Nat.le_of_ble_eq_true rfl, Nat.le_of_ble_eq_true rfl⟩ rfl kT_bl (fun _ _ _ => trivial) hN hK hPb hDb hS hA 0 4 rfl rfl rfl [0, 1, 2, 3] rfl (fun H locs hP hD hS => ?_)
  have hP : va_P D vwCl (kMain Q vmn ++ kHouse G (Q 1) vho ++ kHouse G (Q 2) w_1 ++ kHist Q vhi ++ kRef G (Q 6) vrf ++ kHH G Q vhh) H := by simp only [pP_app] at hP ⊢; simp only [hP, and_self]
  have hD : va_D A (kMain Q vmn ++ kHouse G (Q 1) vho ++ kHouse G (Q 2) w_1 ++ kHist Q vhi ++ kRef G (Q 6) vrf ++ kHH G Q vhh) := by simp only [pD_app, Dj_l, Dj_r] at hD ⊢; simp only [hD, and_self]
  refine lv_aload_n hx hb dX12_swap_11 rfl (lv_at hl 0 rfl) ?_
  refine lv_aload_n hx hb dX12_swap_12 rfl (lv_at hl 0 rfl) ?_
  refine va_get (D := D) (ci := 10) (v := .ref (Q 2 0)) (C := RX12) (T := TX12) (N := 11) hx hb hts hi10 hown hK hP 0 rfl rfl 1 (by decide) hw1 (fun _ h9 => h9) rfl dX12_swap_13 ?_
  refine lv_iload_n hx hb dX12_swap_16 rfl (lv_at hl 1 rfl) ?_
  refine lv_iload_n hx hb dX12_swap_17 rfl (lv_at hl 2 rfl) ?_
  refine lv_aload_n hx hb dX12_swap_18 rfl (lv_at hl 0 rfl) ?_
  refine va_get (D := D) (ci := 10) (v := .ref (Q 6 0)) (C := RX12) (T := TX12) (N := 11) hx hb hts hi10 hown hK hP 0 rfl rfl 6 (by decide) hw3 (fun _ h9 => h9) rfl dX12_swap_19 ?_
  obtain ⟨r_2, w_3, w_4, hc, hf⟩ := bd3_of hf
  have hPb : va_P D vwCl ((kMain Q vmn ++ kHouse G (Q 1) vho ++ kHist Q vhi ++ kHH G Q vhh) ++ (kHouse G (Q 2) w_1 ++ kRef G (Q 6) vrf)) H := by simp only [pP_app] at hP ⊢; simp only [hP, and_self]
  have hDb : va_D A ((kMain Q vmn ++ kHouse G (Q 1) vho ++ kHist Q vhi ++ kHH G Q vhh) ++ (kHouse G (Q 2) w_1 ++ kRef G (Q 6) vrf)) := by simp only [pD_app, Dj_l, Dj_r] at hD ⊢; simp only [hD, and_self]
  refine k_VB (As := [.int a1, .int a2, .ref ((Q 6) 0)]) (rest := [.ref ((Q 0) 0)]) ⟨hx, hb, hml, hown, hts⟩ (c_X6_swapCats l D G (Q 2) (Q 6) a1 a2 w_1 vrf _ _ _ hc  _) (cwV 3 hts gX12_swap_X6_swapCats rfl rfl rfl (by decide +kernel) ⟨Nat.le_of_ble_eq_true rfl, Nat.le_of_ble_eq_true rfl⟩) hl.1 (Nat.le_of_ble_eq_true rfl) dX12_swap_22 ⟨Nat.le_of_ble_eq_true rfl, Nat.le_of_ble_eq_true rfl⟩ rfl kT_bl (fun _ _ _ => trivial) hN hK hPb hDb hS hA 0 4 rfl rfl rfl [0, 1, 2, 3] rfl (fun H locs hP hD hS => ?_)
  have hP : va_P D vwCl (kMain Q vmn ++ kHouse G (Q 1) vho ++ kHouse G (Q 2) w_3 ++ kHist Q vhi ++ kRef G (Q 6) w_4 ++ kHH G Q vhh) H := by simp only [pP_app] at hP ⊢; simp only [hP, and_self]
  have hD : va_D A (kMain Q vmn ++ kHouse G (Q 1) vho ++ kHouse G (Q 2) w_3 ++ kHist Q vhi ++ kRef G (Q 6) w_4 ++ kHH G Q vhh) := by simp only [pD_app, Dj_l, Dj_r] at hD ⊢; simp only [hD, and_self]
  obtain ⟨r_5, w_6, w_7, w_8, hc, hf⟩ := bd4_of hf
  have hPb : va_P D vwCl ((kRef G (Q 6) w_4) ++ (kMain Q vmn ++ kHouse G (Q 1) vho ++ kHouse G (Q 2) w_3 ++ kHist Q vhi ++ kHH G Q vhh)) H := by simp only [pP_app] at hP ⊢; simp only [hP, and_self]
  have hDb : va_D A ((kRef G (Q 6) w_4) ++ (kMain Q vmn ++ kHouse G (Q 1) vho ++ kHouse G (Q 2) w_3 ++ kHist Q vhi ++ kHH G Q vhh)) := by simp only [pD_app, Dj_l, Dj_r] at hD ⊢; simp only [hD, and_self]
  refine k_VB (As := [.int r_2]) (rest := []) ⟨hx, hb, hml, hown, hts⟩ (c_X12_settle l D G Q r_2 vmn vho w_3 vhi vhh _ _ _ _ hc  _) (cwV 1 hts gX12_swap_X12_settle rfl rfl rfl (by decide +kernel) ⟨Nat.le_of_ble_eq_true rfl, Nat.le_of_ble_eq_true rfl⟩) hl.1 (Nat.le_of_ble_eq_true rfl) dX12_swap_25 ⟨Nat.le_of_ble_eq_true rfl, Nat.le_of_ble_eq_true rfl⟩ rfl kT_bl (fun _ _ _ => trivial) hN hK hPb hDb hS hA 0 10 rfl rfl rfl [0, 1, 2, 3] rfl (fun H locs hP hD hS => ?_)
  have hP : va_P D vwCl (kMain Q vmn ++ kHouse G (Q 1) w_6 ++ kHouse G (Q 2) w_3 ++ kHist Q w_7 ++ kRef G (Q 6) w_4 ++ kHH G Q w_8) H := by simp only [pP_app] at hP ⊢; simp only [hP, and_self]
  have hD : va_D A (kMain Q vmn ++ kHouse G (Q 1) w_6 ++ kHouse G (Q 2) w_3 ++ kHist Q w_7 ++ kRef G (Q 6) w_4 ++ kHH G Q w_8) := by simp only [pD_app, Dj_l, Dj_r] at hD ⊢; simp only [hD, and_self]
  obtain ⟨rfl, rfl, rfl, rfl, rfl, rfl⟩ := re6 hf
  exact hE hP hD hS dX12_swap_28
def f_X12_day (vmn : SV) (vho : SV) (vdr : SV) (vhi : SV) (vhh : (Nat → SV)) : Option (Int32 × SV × SV × SV × (Nat → SV)) :=
  bd1 (f_X6_take vdr vho) fun w_1 =>
  bd2 (f_X6_endDay w_1) fun r_2 w_3 =>
  bd4 (f_X12_settle r_2 vmn vho w_3 vhi vhh) fun r_4 w_5 w_6 w_7 =>
  some (r_4, w_5, w_3, w_6, w_7)
abbrev rm_X12_day : Room := { frames := 5, cells := 0, slots := 0, locals := 102 }
set_option maxHeartbeats 4000000 in
set_option maxRecDepth 100000 in
theorem c_X12_day (l : Launch) (D : va_G) (G : Nat → ClassId) (Q : Nat → Nat → Nat) (vmn : SV) (vho : SV) (vdr : SV) (vhi : SV) (vhh : (Nat → SV)) (r : Int32) (vho' : SV) (vdr' : SV) (vhi' : SV) (vhh' : (Nat → SV)) (hf : f_X12_day vmn vho vdr vhi vhh = some (r, vho', vdr', vhi', vhh')) (sz : Nat) : mC l yX12_day wsX12_day rm_X12_day D (tyG G) kT [.ref ((Q 0) 0)] (kMain Q vmn ++ kHouse G (Q 1) vho ++ kHouse G (Q 2) vdr ++ kHist Q vhi ++ kHH G Q vhh) (kMain Q vmn ++ kHouse G (Q 1) vho' ++ kHouse G (Q 2) vdr' ++ kHist Q vhi' ++ kHH G Q vhh') sz (some (.int r)) 0 0 := by
  refine mC_ofI (cc := cX12_day) (maxL := 1) (ret := (some .int)) (by decide) rfl rfl (Nat.le_of_ble_eq_true rfl) ?_
  intro p e s m args below meth c Q0 hx hb hml hts hown hN hK A hD hA hE hP hS hJ ls hl
  have hl : lv_has ls 1 [(0, .ref ((Q 0) 0))] := hl
  unfold f_X12_day at hf
  have hi10 : ∀ w ∈ u_ws RX12 TX12 11, w ∈ wsX12_day := by decide +kernel
  have hw1 := hts (.fieldLink RX12 16 "BalconyCensus" "draft" "LBalconyCensus$House;") (by decide +kernel)
  have hw2 := hts (.fieldLink RX12 12 "BalconyCensus" "house" "LBalconyCensus$House;") (by decide +kernel)
  refine lv_aload_n hx hb dX12_day_0 rfl (lv_at hl 0 rfl) ?_
  refine va_get (D := D) (ci := 10) (v := .ref (Q 2 0)) (C := RX12) (T := TX12) (N := 11) hx hb hts hi10 hown hK hP 0 rfl rfl 1 (by decide) hw1 (fun _ h9 => h9) rfl dX12_day_1 ?_
  refine lv_aload_n hx hb dX12_day_4 rfl (lv_at hl 0 rfl) ?_
  refine va_get (D := D) (ci := 10) (v := .ref (Q 1 0)) (C := RX12) (T := TX12) (N := 11) hx hb hts hi10 hown hK hP 0 rfl rfl 0 (by decide) hw2 (fun _ h9 => h9) rfl dX12_day_5 ?_
  obtain ⟨w_1, hc, hf⟩ := bd1_of hf
  have hPb : va_P D vwCl ((kMain Q vmn ++ kHist Q vhi ++ kHH G Q vhh) ++ (kHouse G (Q 2) vdr ++ kHouse G (Q 1) vho)) s.heap := by simp only [pP_app] at hP ⊢; simp only [hP, and_self]
  have hDb : va_D A ((kMain Q vmn ++ kHist Q vhi ++ kHH G Q vhh) ++ (kHouse G (Q 2) vdr ++ kHouse G (Q 1) vho)) := by simp only [pD_app, Dj_l, Dj_r] at hD ⊢; simp only [hD, and_self]
  refine k_VB (As := [.ref ((Q 1) 0)]) (rest := []) ⟨hx, hb, hml, hown, hts⟩ (c_X6_take l D G (Q 2) (Q 1)  vdr vho _ hc  _) (cwV 1 hts gX12_day_X6_take rfl rfl rfl (by decide +kernel) ⟨Nat.le_of_ble_eq_true rfl, Nat.le_of_ble_eq_true rfl⟩) hl.1 (Nat.le_of_ble_eq_true rfl) dX12_day_8 ⟨Nat.le_of_ble_eq_true rfl, Nat.le_of_ble_eq_true rfl⟩ rfl kT_bl (fun _ _ _ => trivial) hN hK hPb hDb hS hA 0 4 rfl rfl rfl [0, 1, 2, 3] rfl (fun H locs hP hD hS => ?_)
  have hP : va_P D vwCl (kMain Q vmn ++ kHouse G (Q 1) vho ++ kHouse G (Q 2) w_1 ++ kHist Q vhi ++ kHH G Q vhh) H := by simp only [pP_app] at hP ⊢; simp only [hP, and_self]
  have hD : va_D A (kMain Q vmn ++ kHouse G (Q 1) vho ++ kHouse G (Q 2) w_1 ++ kHist Q vhi ++ kHH G Q vhh) := by simp only [pD_app, Dj_l, Dj_r] at hD ⊢; simp only [hD, and_self]
  refine lv_aload_n hx hb dX12_day_11 rfl (lv_at hl 0 rfl) ?_
  refine lv_aload_n hx hb dX12_day_12 rfl (lv_at hl 0 rfl) ?_
  refine va_get (D := D) (ci := 10) (v := .ref (Q 2 0)) (C := RX12) (T := TX12) (N := 11) hx hb hts hi10 hown hK hP 0 rfl rfl 1 (by decide) hw1 (fun _ h9 => h9) rfl dX12_day_13 ?_
  obtain ⟨r_2, w_3, hc, hf⟩ := bd2_of hf
  have hPb : va_P D vwCl ((kMain Q vmn ++ kHouse G (Q 1) vho ++ kHist Q vhi ++ kHH G Q vhh) ++ (kHouse G (Q 2) w_1)) H := by simp only [pP_app] at hP ⊢; simp only [hP, and_self]
  have hDb : va_D A ((kMain Q vmn ++ kHouse G (Q 1) vho ++ kHist Q vhi ++ kHH G Q vhh) ++ (kHouse G (Q 2) w_1)) := by simp only [pD_app, Dj_l, Dj_r] at hD ⊢; simp only [hD, and_self]
  refine k_VB (As := []) (rest := [.ref ((Q 0) 0)]) ⟨hx, hb, hml, hown, hts⟩ (c_X6_endDay l D G (Q 2)  w_1 _ _ hc  _) (cwV 0 hts gX12_day_X6_endDay rfl rfl rfl (by decide +kernel) ⟨Nat.le_of_ble_eq_true rfl, Nat.le_of_ble_eq_true rfl⟩) hl.1 (Nat.le_of_ble_eq_true rfl) dX12_day_16 ⟨Nat.le_of_ble_eq_true rfl, Nat.le_of_ble_eq_true rfl⟩ rfl kT_bl (fun _ _ _ => trivial) hN hK hPb hDb hS hA 0 4 rfl rfl rfl [0, 1, 2, 3] rfl (fun H locs hP hD hS => ?_)
  have hP : va_P D vwCl (kMain Q vmn ++ kHouse G (Q 1) vho ++ kHouse G (Q 2) w_3 ++ kHist Q vhi ++ kHH G Q vhh) H := by simp only [pP_app] at hP ⊢; simp only [hP, and_self]
  have hD : va_D A (kMain Q vmn ++ kHouse G (Q 1) vho ++ kHouse G (Q 2) w_3 ++ kHist Q vhi ++ kHH G Q vhh) := by simp only [pD_app, Dj_l, Dj_r] at hD ⊢; simp only [hD, and_self]
  obtain ⟨r_4, w_5, w_6, w_7, hc, hf⟩ := bd4_of hf
  have hPb : va_P D vwCl (([] : va_W) ++ (kMain Q vmn ++ kHouse G (Q 1) vho ++ kHouse G (Q 2) w_3 ++ kHist Q vhi ++ kHH G Q vhh)) H := by simp only [pP_app, pP_nil, true_and] at hP ⊢; simp only [hP, and_self]
  have hDb : va_D A (([] : va_W) ++ (kMain Q vmn ++ kHouse G (Q 1) vho ++ kHouse G (Q 2) w_3 ++ kHist Q vhi ++ kHH G Q vhh)) := by simp only [pD_app, Dj_l, Dj_r, pD_nil, Dj_nl, Dj_nr, true_and, and_true] at hD ⊢; simp only [hD, and_self]
  refine k_VB (As := [.int r_2]) (rest := []) ⟨hx, hb, hml, hown, hts⟩ (c_X12_settle l D G Q r_2 vmn vho w_3 vhi vhh _ _ _ _ hc  _) (cwV 1 hts gX12_day_X12_settle rfl rfl rfl (by decide +kernel) ⟨Nat.le_of_ble_eq_true rfl, Nat.le_of_ble_eq_true rfl⟩) hl.1 (Nat.le_of_ble_eq_true rfl) dX12_day_19 ⟨Nat.le_of_ble_eq_true rfl, Nat.le_of_ble_eq_true rfl⟩ rfl kT_bl (fun _ _ _ => trivial) hN hK hPb hDb hS hA 0 10 rfl rfl rfl [0, 1, 2, 3] rfl (fun H locs hP hD hS => ?_)
  have hP : va_P D vwCl (kMain Q vmn ++ kHouse G (Q 1) w_5 ++ kHouse G (Q 2) w_3 ++ kHist Q w_6 ++ kHH G Q w_7) H := by simp only [pP_app, pP_nil, true_and] at hP ⊢; simp only [hP, and_self]
  have hD : va_D A (kMain Q vmn ++ kHouse G (Q 1) w_5 ++ kHouse G (Q 2) w_3 ++ kHist Q w_6 ++ kHH G Q w_7) := by simp only [pD_app, Dj_l, Dj_r, pD_nil, Dj_nl, Dj_nr, true_and, and_true] at hD ⊢; simp only [hD, and_self]
  obtain ⟨rfl, rfl, rfl, rfl, rfl⟩ := re5 hf
  exact hE hP hD hS dX12_day_22
def f_X12_fault (vmn : SV) : Option Int32 :=
  some (vmn.1 1)
abbrev rm_X12_fault : Room := { frames := 0, cells := 0, slots := 0, locals := 0 }
set_option maxHeartbeats 4000000 in
set_option maxRecDepth 100000 in
theorem c_X12_fault (l : Launch) (D : va_G) (G : Nat → ClassId) (Q : Nat → Nat → Nat) (vmn : SV) (r : Int32) (hf : f_X12_fault vmn = some r) (sz : Nat) : mC l yX12_fault wsX12_fault rm_X12_fault D (tyG G) kT [.ref ((Q 0) 0)] (kMain Q vmn) (kMain Q vmn) sz (some (.int r)) 0 0 := by
  refine mC_ofI (cc := cX12_fault) (maxL := 1) (ret := (some .int)) (by decide) rfl rfl (Nat.le_of_ble_eq_true rfl) ?_
  intro p e s m args below meth c Q0 hx hb hml hts hown hN hK A hD hA hE hP hS hJ ls hl
  have hl : lv_has ls 1 [(0, .ref ((Q 0) 0))] := hl
  unfold f_X12_fault at hf
  have hi10 : ∀ w ∈ u_ws RX12 TX12 11, w ∈ wsX12_fault := by decide +kernel
  have hw1 := hts (.fieldLink RX12 68 "BalconyCensus" "faultPosition" "I") (by decide +kernel)
  refine lv_aload_n hx hb dX12_fault_0 rfl (lv_at hl 0 rfl) ?_
  refine va_get (D := D) (ci := 10) (v := .int (vmn.1 1)) (C := RX12) (T := TX12) (N := 11) hx hb hts hi10 hown hK hP 0 rfl rfl 10 (by decide) hw1 (fun _ h9 => h9) rfl dX12_fault_1 ?_
  obtain rfl := re1 hf
  exact hE hP hD hS dX12_fault_4
def f_X12_reason (a1 : Int32) (a2 : Int32) (vmn : SV) (vrf : SV) : Option Int32 :=
  if a1 = 0 then
    if a2 = 0 then
      some (vrf.1 0)
    else
      some (vrf.1 1)
  else
    if a1 = 1 then
      if a2 = 0 then
        some (vrf.1 2)
      else
        some (vrf.1 3)
    else
      some (-2)
abbrev rm_X12_reason : Room := { frames := 0, cells := 0, slots := 0, locals := 0 }
set_option maxHeartbeats 4000000 in
set_option maxRecDepth 100000 in
theorem c_X12_reason (l : Launch) (D : va_G) (G : Nat → ClassId) (Q : Nat → Nat → Nat) (a1 : Int32) (a2 : Int32) (vmn : SV) (vrf : SV) (r : Int32) (hf : f_X12_reason a1 a2 vmn vrf = some r) (sz : Nat) : mC l yX12_reason wsX12_reason rm_X12_reason D (tyG G) kT [.ref ((Q 0) 0), .int a1, .int a2] (kMain Q vmn ++ kRef G (Q 6) vrf) (kMain Q vmn ++ kRef G (Q 6) vrf) sz (some (.int r)) 0 0 := by
  refine mC_ofI (cc := cX12_reason) (maxL := 3) (ret := (some .int)) (by decide) rfl rfl (Nat.le_of_ble_eq_true rfl) ?_
  intro p e s m args below meth c Q0 hx hb hml hts hown hN hK A hD hA hE hP hS hJ ls hl
  have hl : lv_has ls 3 [(0, .ref ((Q 0) 0)), (1, .int a1), (2, .int a2)] := hl
  unfold f_X12_reason at hf
  have hi10 : ∀ w ∈ u_ws RX12 TX12 11, w ∈ wsX12_reason := by decide +kernel
  have hi9 : ∀ w ∈ u_ws RX11 TX11 4, w ∈ wsX12_reason := by decide +kernel
  have hw1 := hts (.fieldLink RX12 43 "BalconyCensus" "refusal" "LBalconyCensus$Refusal;") (by decide +kernel)
  have hw2 := hts (.fieldLink RX12 143 "BalconyCensus$Refusal" "reasonBehind" "I") (by decide +kernel)
  have hw3 := hts (.fieldLink RX12 140 "BalconyCensus$Refusal" "detailBehind" "I") (by decide +kernel)
  have hw4 := hts (.fieldLink RX12 137 "BalconyCensus$Refusal" "reason" "I") (by decide +kernel)
  have hw5 := hts (.fieldLink RX12 134 "BalconyCensus$Refusal" "detail" "I") (by decide +kernel)
  refine lv_iload_n hx hb dX12_reason_0 rfl (lv_at hl 1 rfl) ?_
  refine lv_if_ne (tgt := 26) hx hb dX12_reason_1 (by decide) (fun cc => ?_) (fun cc => ?_)
  · replace hf := ifF cc hf
    refine lv_iload_n hx hb dX12_reason_26 rfl (lv_at hl 1 rfl) ?_
    refine lv_iconst (v := 1) hx hb dX12_reason_27 (by decide) ?_
    refine lv_icmp_ne (tgt := 53) hx hb dX12_reason_28 (by decide) (fun cc => ?_) (fun cc => ?_)
    · replace hf := ifF cc hf
      refine lv_bipush (v := (-2)) hx hb dX12_reason_53 (by decide +kernel) ?_
      obtain rfl := re1 hf
      exact hE hP hD hS dX12_reason_55
    · replace hf := ifT cc hf
      refine lv_iload_n hx hb dX12_reason_31 rfl (lv_at hl 2 rfl) ?_
      refine lv_if_eq (tgt := 45) hx hb dX12_reason_32 (by decide) (fun cc => ?_) (fun cc => ?_)
      · replace hf := ifT cc hf
        refine lv_aload_n hx hb dX12_reason_45 rfl (lv_at hl 0 rfl) ?_
        refine va_get (D := D) (ci := 10) (v := .ref (Q 6 0)) (C := RX12) (T := TX12) (N := 11) hx hb hts hi10 hown hK hP 0 rfl rfl 6 (by decide) hw1 (fun _ h9 => h9) rfl dX12_reason_46 ?_
        refine va_get (D := D) (ci := 9) (v := .int (vrf.1 2)) (C := RX11) (T := TX11) (N := 4) hx hb hts hi9 hown hK hP 1 rfl rfl 2 (by decide) hw2 (fun _ h9 => h9) rfl dX12_reason_49 ?_
        obtain rfl := re1 hf
        exact hE hP hD hS dX12_reason_52
      · replace hf := ifF cc hf
        refine lv_aload_n hx hb dX12_reason_35 rfl (lv_at hl 0 rfl) ?_
        refine va_get (D := D) (ci := 10) (v := .ref (Q 6 0)) (C := RX12) (T := TX12) (N := 11) hx hb hts hi10 hown hK hP 0 rfl rfl 6 (by decide) hw1 (fun _ h9 => h9) rfl dX12_reason_36 ?_
        refine va_get (D := D) (ci := 9) (v := .int (vrf.1 3)) (C := RX11) (T := TX11) (N := 4) hx hb hts hi9 hown hK hP 1 rfl rfl 3 (by decide) hw3 (fun _ h9 => h9) rfl dX12_reason_39 ?_
        refine lv_goto (tgt := 52) hx hb dX12_reason_42 (by decide) ?_
        obtain rfl := re1 hf
        exact hE hP hD hS dX12_reason_52
  · replace hf := ifT cc hf
    refine lv_iload_n hx hb dX12_reason_4 rfl (lv_at hl 2 rfl) ?_
    refine lv_if_eq (tgt := 18) hx hb dX12_reason_5 (by decide) (fun cc => ?_) (fun cc => ?_)
    · replace hf := ifT cc hf
      refine lv_aload_n hx hb dX12_reason_18 rfl (lv_at hl 0 rfl) ?_
      refine va_get (D := D) (ci := 10) (v := .ref (Q 6 0)) (C := RX12) (T := TX12) (N := 11) hx hb hts hi10 hown hK hP 0 rfl rfl 6 (by decide) hw1 (fun _ h9 => h9) rfl dX12_reason_19 ?_
      refine va_get (D := D) (ci := 9) (v := .int (vrf.1 0)) (C := RX11) (T := TX11) (N := 4) hx hb hts hi9 hown hK hP 1 rfl rfl 0 (by decide) hw4 (fun _ h9 => h9) rfl dX12_reason_22 ?_
      obtain rfl := re1 hf
      exact hE hP hD hS dX12_reason_25
    · replace hf := ifF cc hf
      refine lv_aload_n hx hb dX12_reason_8 rfl (lv_at hl 0 rfl) ?_
      refine va_get (D := D) (ci := 10) (v := .ref (Q 6 0)) (C := RX12) (T := TX12) (N := 11) hx hb hts hi10 hown hK hP 0 rfl rfl 6 (by decide) hw1 (fun _ h9 => h9) rfl dX12_reason_9 ?_
      refine va_get (D := D) (ci := 9) (v := .int (vrf.1 1)) (C := RX11) (T := TX11) (N := 4) hx hb hts hi9 hown hK hP 1 rfl rfl 1 (by decide) hw5 (fun _ h9 => h9) rfl dX12_reason_12 ?_
      refine lv_goto (tgt := 25) hx hb dX12_reason_15 (by decide) ?_
      obtain rfl := re1 hf
      exact hE hP hD hS dX12_reason_25
def f_X12_balconyOf (a1 : Int32) (a2 : Int32) (vmn : SV) (vho : SV) : Option Int32 :=
  bd1 (f_X12_isBalcony a1) fun r_1 =>
  if r_1 = 0 then
    some (-1)
  else
    if a2 = 0 then
      ckI a1 12 <|
      some (vho.2 0 a1.toNatClampNeg)
    else
    if a2 = 1 then
      ckI a1 12 <|
      some (vho.2 1 a1.toNatClampNeg)
    else
    if a2 = 2 then
      bd1 (f_X1_catOn a1 vho) fun r_2 =>
      some r_2
    else
    if a2 = 3 then
      bd1 (f_X3_ofBalcony a1 vho) fun r_3 =>
      some r_3
    else
    if a2 = 4 then
      bd1 (f_X4_givenBy a1 vho) fun r_4 =>
      some r_4
    else
    if a2 = 5 then
      bd1 (f_X4_gotBy a1 vho) fun r_5 =>
      some r_5
    else
    if a2 = 6 then
      bd1 (f_X7_countAt a1 vho) fun r_6 =>
      some r_6
    else
    if a2 = 7 then
      bd1 (f_X4_friendsOf a1 vho) fun r_7 =>
      some r_7
    else
    some (-2)
abbrev rm_X12_balconyOf : Room := { frames := 3, cells := 0, slots := 0, locals := 72 }
set_option maxHeartbeats 4000000 in
set_option maxRecDepth 100000 in
theorem c_X12_balconyOf (l : Launch) (D : va_G) (G : Nat → ClassId) (Q : Nat → Nat → Nat) (a1 : Int32) (a2 : Int32) (vmn : SV) (vho : SV) (r : Int32) (hf : f_X12_balconyOf a1 a2 vmn vho = some r) (sz : Nat) : mC l yX12_balconyOf wsX12_balconyOf rm_X12_balconyOf D (tyG G) kT [.ref ((Q 0) 0), .int a1, .int a2] (kMain Q vmn ++ kHouse G (Q 1) vho) (kMain Q vmn ++ kHouse G (Q 1) vho) sz (some (.int r)) 0 0 := by
  refine mC_ofI (cc := cX12_balconyOf) (maxL := 3) (ret := (some .int)) (by decide) rfl rfl (Nat.le_of_ble_eq_true rfl) ?_
  intro p e s m args below meth c Q0 hx hb hml hts hown hN hK A hD hA hE hP hS hJ ls hl
  have hl : lv_has ls 3 [(0, .ref ((Q 0) 0)), (1, .int a1), (2, .int a2)] := hl
  unfold f_X12_balconyOf at hf
  have hi10 : ∀ w ∈ u_ws RX12 TX12 11, w ∈ wsX12_balconyOf := by decide +kernel
  have hi4 : ∀ w ∈ u_ws RX6 TX6 10, w ∈ wsX12_balconyOf := by decide +kernel
  have hw1 := hts (.fieldLink RX12 12 "BalconyCensus" "house" "LBalconyCensus$House;") (by decide +kernel)
  have hw2 := hts (.fieldLink RX12 150 "BalconyCensus$House" "plants" "[I") (by decide +kernel)
  have hw3 := hts (.fieldLink RX12 154 "BalconyCensus$House" "tolerances" "[I") (by decide +kernel)
  have hw4 := hts (.fieldLink RX12 157 "BalconyCensus$House" "cats" "LBalconyCensus$Cats;") (by decide +kernel)
  have hw5 := hts (.fieldLink RX12 172 "BalconyCensus$House" "greetings" "LBalconyCensus$Greetings;") (by decide +kernel)
  have hw6 := hts (.fieldLink RX12 184 "BalconyCensus$House" "lines" "LBalconyCensus$Lines;") (by decide +kernel)
  refine lv_iload_n hx hb dX12_balconyOf_0 rfl (lv_at hl 1 rfl) ?_
  obtain ⟨r_1, hc, hf⟩ := bd1_of hf
  refine k_S (As := [.int a1]) (rest := []) (ws1 := (kMain Q vmn ++ kHouse G (Q 1) vho)) ⟨hx, hb, hml, hown, hts⟩ (c_X12_isBalcony l D G  a1  _ hc  _) (va_cwS 1 hts gX12_balconyOf_X12_isBalcony rfl rfl rfl (by decide +kernel) ⟨Nat.le_of_ble_eq_true rfl, Nat.le_of_ble_eq_true rfl⟩) hl.1 (Nat.le_of_ble_eq_true rfl) dX12_balconyOf_1 ⟨Nat.le_of_ble_eq_true rfl, Nat.le_of_ble_eq_true rfl⟩ rfl kT_bl (fun _ _ _ => trivial) hN hK hP hD hS hA [] [0, 1, 2, 3, 4, 5, 6, 7, 8, 9, 10, 11, 12, 13, 14, 15] [0, 1, 2, 3, 4, 5, 6, 7, 8, 9, 10, 11, 12, 13, 14, 15] [0, 1, 2, 3] rfl rfl rfl ⟨by decide, by decide, by decide, by decide⟩ rfl (fun H locs hP hD hS => ?_)
  refine lv_if_ne (tgt := 9) hx hb dX12_balconyOf_4 (by decide) (fun cc => ?_) (fun cc => ?_)
  · replace hf := ifF cc hf
    refine lv_iload_n hx hb dX12_balconyOf_9 rfl (lv_at hl 2 rfl) ?_
    by_cases c0 : a2 = 0
    · replace hf := ifT c0 hf
      refine lv_tableIn (off := 46) (tgt := 56) hx hb dX12_balconyOf_10 (by rw [c0]; decide) (by rw [c0]; decide) (by rw [c0]; rfl) (by decide) ?_
      refine lv_aload_n hx hb dX12_balconyOf_56 rfl (lv_at hl 0 rfl) ?_
      refine va_get (D := D) (ci := 10) (v := .ref (Q 1 0)) (C := RX12) (T := TX12) (N := 11) hx hb hts hi10 hown hK hP 0 rfl rfl 0 (by decide) hw1 (fun _ h9 => h9) rfl dX12_balconyOf_57 ?_
      refine va_get (D := D) (ci := 4) (v := .ref ((Q 1) 1)) (C := RX6) (T := TX6) (N := 10) hx hb hts hi4 hown hK hP 1 rfl rfl 0 (by decide) hw2 (fun _ h9 => h9) rfl dX12_balconyOf_60 ?_
      refine lv_iload_n hx hb dX12_balconyOf_63 rfl (lv_at hl 1 rfl) ?_
      obtain ⟨hin, hf⟩ := ckI_of hf
      refine va_iald (D := D) hx hb hK hP 2 0 rfl rfl hin dX12_balconyOf_64 ?_
      obtain rfl := re1 hf
      exact hE hP hD hS dX12_balconyOf_65
    replace hf := ifF c0 hf
    by_cases c1 : a2 = 1
    · replace hf := ifT c1 hf
      refine lv_tableIn (off := 56) (tgt := 66) hx hb dX12_balconyOf_10 (by rw [c1]; decide) (by rw [c1]; decide) (by rw [c1]; rfl) (by decide) ?_
      refine lv_aload_n hx hb dX12_balconyOf_66 rfl (lv_at hl 0 rfl) ?_
      refine va_get (D := D) (ci := 10) (v := .ref (Q 1 0)) (C := RX12) (T := TX12) (N := 11) hx hb hts hi10 hown hK hP 0 rfl rfl 0 (by decide) hw1 (fun _ h9 => h9) rfl dX12_balconyOf_67 ?_
      refine va_get (D := D) (ci := 4) (v := .ref ((Q 1) 2)) (C := RX6) (T := TX6) (N := 10) hx hb hts hi4 hown hK hP 1 rfl rfl 1 (by decide) hw3 (fun _ h9 => h9) rfl dX12_balconyOf_70 ?_
      refine lv_iload_n hx hb dX12_balconyOf_73 rfl (lv_at hl 1 rfl) ?_
      obtain ⟨hin, hf⟩ := ckI_of hf
      refine va_iald (D := D) hx hb hK hP 3 0 rfl rfl hin dX12_balconyOf_74 ?_
      obtain rfl := re1 hf
      exact hE hP hD hS dX12_balconyOf_75
    replace hf := ifF c1 hf
    by_cases c2 : a2 = 2
    · replace hf := ifT c2 hf
      refine lv_tableIn (off := 66) (tgt := 76) hx hb dX12_balconyOf_10 (by rw [c2]; decide) (by rw [c2]; decide) (by rw [c2]; rfl) (by decide) ?_
      refine lv_aload_n hx hb dX12_balconyOf_76 rfl (lv_at hl 0 rfl) ?_
      refine va_get (D := D) (ci := 10) (v := .ref (Q 1 0)) (C := RX12) (T := TX12) (N := 11) hx hb hts hi10 hown hK hP 0 rfl rfl 0 (by decide) hw1 (fun _ h9 => h9) rfl dX12_balconyOf_77 ?_
      refine va_get (D := D) (ci := 4) (v := .ref ((Q 1) 10)) (C := RX6) (T := TX6) (N := 10) hx hb hts hi4 hown hK hP 1 rfl rfl 4 (by decide) hw4 (fun _ h9 => h9) rfl dX12_balconyOf_80 ?_
      refine lv_iload_n hx hb dX12_balconyOf_83 rfl (lv_at hl 1 rfl) ?_
      obtain ⟨r_2, hc, hf⟩ := bd1_of hf
      refine k_V (As := [.int a1]) (rest := []) (ws1 := (kMain Q vmn ++ kHouse G (Q 1) vho)) ⟨hx, hb, hml, hown, hts⟩ (c_X1_catOn l D G (Q 1) a1 vho _ hc  _) (cwV 1 hts gX12_balconyOf_X1_catOn rfl rfl rfl (by decide +kernel) ⟨Nat.le_of_ble_eq_true rfl, Nat.le_of_ble_eq_true rfl⟩) hl.1 (Nat.le_of_ble_eq_true rfl) dX12_balconyOf_84 ⟨Nat.le_of_ble_eq_true rfl, Nat.le_of_ble_eq_true rfl⟩ rfl kT_bl (fun _ _ _ => trivial) hN hK hP hD hS hA 11 1 rfl rfl rfl [11, 12, 13, 14] [0, 1, 2, 3, 4, 5, 6, 7, 8, 9, 10, 15] [0, 1, 2, 3, 4, 5, 6, 7, 8, 9, 10, 12, 13, 14, 15, 11] [0, 1, 2, 3] rfl rfl rfl ⟨by decide, by decide, by decide, by decide⟩ rfl (fun H locs hP hD hS => ?_)
      obtain rfl := re1 hf
      exact hE hP hD hS dX12_balconyOf_87
    replace hf := ifF c2 hf
    by_cases c3 : a2 = 3
    · replace hf := ifT c3 hf
      refine lv_tableIn (off := 78) (tgt := 88) hx hb dX12_balconyOf_10 (by rw [c3]; decide) (by rw [c3]; decide) (by rw [c3]; rfl) (by decide) ?_
      refine lv_aload_n hx hb dX12_balconyOf_88 rfl (lv_at hl 0 rfl) ?_
      refine va_get (D := D) (ci := 10) (v := .ref (Q 1 0)) (C := RX12) (T := TX12) (N := 11) hx hb hts hi10 hown hK hP 0 rfl rfl 0 (by decide) hw1 (fun _ h9 => h9) rfl dX12_balconyOf_89 ?_
      refine lv_iload_n hx hb dX12_balconyOf_92 rfl (lv_at hl 1 rfl) ?_
      obtain ⟨r_3, hc, hf⟩ := bd1_of hf
      refine k_S (As := [.ref ((Q 1) 0), .int a1]) (rest := []) (ws1 := (kMain Q vmn ++ kHouse G (Q 1) vho)) ⟨hx, hb, hml, hown, hts⟩ (c_X3_ofBalcony l D G (Q 1) a1 vho _ hc  _) (va_cwS 2 hts gX12_balconyOf_X3_ofBalcony rfl rfl rfl (by decide +kernel) ⟨Nat.le_of_ble_eq_true rfl, Nat.le_of_ble_eq_true rfl⟩) hl.1 (Nat.le_of_ble_eq_true rfl) dX12_balconyOf_93 ⟨Nat.le_of_ble_eq_true rfl, Nat.le_of_ble_eq_true rfl⟩ rfl kT_bl (fun _ _ _ => trivial) hN hK hP hD hS hA [1, 2, 3, 4, 5, 6, 7, 8, 9, 10, 11, 12, 13, 14, 15] [0] [0, 1, 2, 3, 4, 5, 6, 7, 8, 9, 10, 11, 12, 13, 14, 15] [0, 1, 2, 3] rfl rfl rfl ⟨by decide, by decide, by decide, by decide⟩ rfl (fun H locs hP hD hS => ?_)
      obtain rfl := re1 hf
      exact hE hP hD hS dX12_balconyOf_96
    replace hf := ifF c3 hf
    by_cases c4 : a2 = 4
    · replace hf := ifT c4 hf
      refine lv_tableIn (off := 87) (tgt := 97) hx hb dX12_balconyOf_10 (by rw [c4]; decide) (by rw [c4]; decide) (by rw [c4]; rfl) (by decide) ?_
      refine lv_aload_n hx hb dX12_balconyOf_97 rfl (lv_at hl 0 rfl) ?_
      refine va_get (D := D) (ci := 10) (v := .ref (Q 1 0)) (C := RX12) (T := TX12) (N := 11) hx hb hts hi10 hown hK hP 0 rfl rfl 0 (by decide) hw1 (fun _ h9 => h9) rfl dX12_balconyOf_98 ?_
      refine va_get (D := D) (ci := 4) (v := .ref ((Q 1) 7)) (C := RX6) (T := TX6) (N := 10) hx hb hts hi4 hown hK hP 1 rfl rfl 3 (by decide) hw5 (fun _ h9 => h9) rfl dX12_balconyOf_101 ?_
      refine lv_iload_n hx hb dX12_balconyOf_104 rfl (lv_at hl 1 rfl) ?_
      obtain ⟨r_4, hc, hf⟩ := bd1_of hf
      refine k_V (As := [.int a1]) (rest := []) (ws1 := (kMain Q vmn ++ kHouse G (Q 1) vho)) ⟨hx, hb, hml, hown, hts⟩ (c_X4_givenBy l D G (Q 1) a1 vho _ hc  _) (cwV 1 hts gX12_balconyOf_X4_givenBy rfl rfl rfl (by decide +kernel) ⟨Nat.le_of_ble_eq_true rfl, Nat.le_of_ble_eq_true rfl⟩) hl.1 (Nat.le_of_ble_eq_true rfl) dX12_balconyOf_105 ⟨Nat.le_of_ble_eq_true rfl, Nat.le_of_ble_eq_true rfl⟩ rfl kT_bl (fun _ _ _ => trivial) hN hK hP hD hS hA 8 2 rfl rfl rfl [8, 9, 10] [0, 1, 2, 3, 4, 5, 6, 7, 11, 12, 13, 14, 15] [0, 1, 2, 3, 4, 5, 6, 7, 13, 14, 15, 8, 9, 10, 11, 12] [0, 1, 2, 3] rfl rfl rfl ⟨by decide, by decide, by decide, by decide⟩ rfl (fun H locs hP hD hS => ?_)
      obtain rfl := re1 hf
      exact hE hP hD hS dX12_balconyOf_108
    replace hf := ifF c4 hf
    by_cases c5 : a2 = 5
    · replace hf := ifT c5 hf
      refine lv_tableIn (off := 99) (tgt := 109) hx hb dX12_balconyOf_10 (by rw [c5]; decide) (by rw [c5]; decide) (by rw [c5]; rfl) (by decide) ?_
      refine lv_aload_n hx hb dX12_balconyOf_109 rfl (lv_at hl 0 rfl) ?_
      refine va_get (D := D) (ci := 10) (v := .ref (Q 1 0)) (C := RX12) (T := TX12) (N := 11) hx hb hts hi10 hown hK hP 0 rfl rfl 0 (by decide) hw1 (fun _ h9 => h9) rfl dX12_balconyOf_110 ?_
      refine va_get (D := D) (ci := 4) (v := .ref ((Q 1) 7)) (C := RX6) (T := TX6) (N := 10) hx hb hts hi4 hown hK hP 1 rfl rfl 3 (by decide) hw5 (fun _ h9 => h9) rfl dX12_balconyOf_113 ?_
      refine lv_iload_n hx hb dX12_balconyOf_116 rfl (lv_at hl 1 rfl) ?_
      obtain ⟨r_5, hc, hf⟩ := bd1_of hf
      refine k_V (As := [.int a1]) (rest := []) (ws1 := (kMain Q vmn ++ kHouse G (Q 1) vho)) ⟨hx, hb, hml, hown, hts⟩ (c_X4_gotBy l D G (Q 1) a1 vho _ hc  _) (cwV 1 hts gX12_balconyOf_X4_gotBy rfl rfl rfl (by decide +kernel) ⟨Nat.le_of_ble_eq_true rfl, Nat.le_of_ble_eq_true rfl⟩) hl.1 (Nat.le_of_ble_eq_true rfl) dX12_balconyOf_117 ⟨Nat.le_of_ble_eq_true rfl, Nat.le_of_ble_eq_true rfl⟩ rfl kT_bl (fun _ _ _ => trivial) hN hK hP hD hS hA 8 2 rfl rfl rfl [8, 9, 10] [0, 1, 2, 3, 4, 5, 6, 7, 11, 12, 13, 14, 15] [0, 1, 2, 3, 4, 5, 6, 7, 13, 14, 15, 8, 9, 10, 11, 12] [0, 1, 2, 3] rfl rfl rfl ⟨by decide, by decide, by decide, by decide⟩ rfl (fun H locs hP hD hS => ?_)
      obtain rfl := re1 hf
      exact hE hP hD hS dX12_balconyOf_120
    replace hf := ifF c5 hf
    by_cases c6 : a2 = 6
    · replace hf := ifT c6 hf
      refine lv_tableIn (off := 111) (tgt := 121) hx hb dX12_balconyOf_10 (by rw [c6]; decide) (by rw [c6]; decide) (by rw [c6]; rfl) (by decide) ?_
      refine lv_aload_n hx hb dX12_balconyOf_121 rfl (lv_at hl 0 rfl) ?_
      refine va_get (D := D) (ci := 10) (v := .ref (Q 1 0)) (C := RX12) (T := TX12) (N := 11) hx hb hts hi10 hown hK hP 0 rfl rfl 0 (by decide) hw1 (fun _ h9 => h9) rfl dX12_balconyOf_122 ?_
      refine va_get (D := D) (ci := 4) (v := .ref ((Q 1) 3)) (C := RX6) (T := TX6) (N := 10) hx hb hts hi4 hown hK hP 1 rfl rfl 2 (by decide) hw6 (fun _ h9 => h9) rfl dX12_balconyOf_125 ?_
      refine lv_iload_n hx hb dX12_balconyOf_128 rfl (lv_at hl 1 rfl) ?_
      obtain ⟨r_6, hc, hf⟩ := bd1_of hf
      refine k_V (As := [.int a1]) (rest := []) (ws1 := (kMain Q vmn ++ kHouse G (Q 1) vho)) ⟨hx, hb, hml, hown, hts⟩ (c_X7_countAt l D G (Q 1) a1 vho _ hc  _) (cwV 1 hts gX12_balconyOf_X7_countAt rfl rfl rfl (by decide +kernel) ⟨Nat.le_of_ble_eq_true rfl, Nat.le_of_ble_eq_true rfl⟩) hl.1 (Nat.le_of_ble_eq_true rfl) dX12_balconyOf_129 ⟨Nat.le_of_ble_eq_true rfl, Nat.le_of_ble_eq_true rfl⟩ rfl kT_bl (fun _ _ _ => trivial) hN hK hP hD hS hA 4 5 rfl rfl rfl [4, 5, 6, 7] [0, 1, 2, 3, 8, 9, 10, 11, 12, 13, 14, 15] [0, 1, 2, 3, 12, 13, 14, 15, 4, 5, 6, 7, 8, 9, 10, 11] [0, 1, 2, 3] rfl rfl rfl ⟨by decide, by decide, by decide, by decide⟩ rfl (fun H locs hP hD hS => ?_)
      obtain rfl := re1 hf
      exact hE hP hD hS dX12_balconyOf_132
    replace hf := ifF c6 hf
    by_cases c7 : a2 = 7
    · replace hf := ifT c7 hf
      refine lv_tableIn (off := 123) (tgt := 133) hx hb dX12_balconyOf_10 (by rw [c7]; decide) (by rw [c7]; decide) (by rw [c7]; rfl) (by decide) ?_
      refine lv_aload_n hx hb dX12_balconyOf_133 rfl (lv_at hl 0 rfl) ?_
      refine va_get (D := D) (ci := 10) (v := .ref (Q 1 0)) (C := RX12) (T := TX12) (N := 11) hx hb hts hi10 hown hK hP 0 rfl rfl 0 (by decide) hw1 (fun _ h9 => h9) rfl dX12_balconyOf_134 ?_
      refine va_get (D := D) (ci := 4) (v := .ref ((Q 1) 7)) (C := RX6) (T := TX6) (N := 10) hx hb hts hi4 hown hK hP 1 rfl rfl 3 (by decide) hw5 (fun _ h9 => h9) rfl dX12_balconyOf_137 ?_
      refine lv_iload_n hx hb dX12_balconyOf_140 rfl (lv_at hl 1 rfl) ?_
      obtain ⟨r_7, hc, hf⟩ := bd1_of hf
      refine k_V (As := [.int a1]) (rest := []) (ws1 := (kMain Q vmn ++ kHouse G (Q 1) vho)) ⟨hx, hb, hml, hown, hts⟩ (c_X4_friendsOf l D G (Q 1) a1 vho _ hc  _) (cwV 1 hts gX12_balconyOf_X4_friendsOf rfl rfl rfl (by decide +kernel) ⟨Nat.le_of_ble_eq_true rfl, Nat.le_of_ble_eq_true rfl⟩) hl.1 (Nat.le_of_ble_eq_true rfl) dX12_balconyOf_141 ⟨Nat.le_of_ble_eq_true rfl, Nat.le_of_ble_eq_true rfl⟩ rfl kT_bl (fun _ _ _ => trivial) hN hK hP hD hS hA 8 2 rfl rfl rfl [8, 9, 10] [0, 1, 2, 3, 4, 5, 6, 7, 11, 12, 13, 14, 15] [0, 1, 2, 3, 4, 5, 6, 7, 13, 14, 15, 8, 9, 10, 11, 12] [0, 1, 2, 3] rfl rfl rfl ⟨by decide, by decide, by decide, by decide⟩ rfl (fun H locs hP hD hS => ?_)
      obtain rfl := re1 hf
      exact hE hP hD hS dX12_balconyOf_144
    replace hf := ifF c7 hf
    refine lv_tableOut (tgt := 145) hx hb dX12_balconyOf_10 (by have e0 := sw_ne (z := 0) c0 (by decide); have e1 := sw_ne (z := 1) c1 (by decide); have e2 := sw_ne (z := 2) c2 (by decide); have e3 := sw_ne (z := 3) c3 (by decide); have e4 := sw_ne (z := 4) c4 (by decide); have e5 := sw_ne (z := 5) c5 (by decide); have e6 := sw_ne (z := 6) c6 (by decide); have e7 := sw_ne (z := 7) c7 (by decide); omega) (by decide) ?_
    refine lv_bipush (v := (-2)) hx hb dX12_balconyOf_145 (by decide +kernel) ?_
    obtain rfl := re1 hf
    exact hE hP hD hS dX12_balconyOf_147
  · replace hf := ifT cc hf
    refine lv_iconst (v := (-1)) hx hb dX12_balconyOf_7 (by decide) ?_
    obtain rfl := re1 hf
    exact hE hP hD hS dX12_balconyOf_8
def f_X12_feud (a1 : Int32) (a2 : Int32) (vmn : SV) (vho : SV) : Option Int32 :=
  bd1 (f_X12_areBalconies a1 a2) fun r_1 =>
  if r_1 = 0 then
    some (-1)
  else
    bd1 (f_X6_isFeud a1 a2 vho) fun r_2 =>
    if r_2 = 0 then
      some 0
    else
      some 1
abbrev rm_X12_feud : Room := { frames := 2, cells := 0, slots := 0, locals := 49 }
set_option maxHeartbeats 4000000 in
set_option maxRecDepth 100000 in
theorem c_X12_feud (l : Launch) (D : va_G) (G : Nat → ClassId) (Q : Nat → Nat → Nat) (a1 : Int32) (a2 : Int32) (vmn : SV) (vho : SV) (r : Int32) (hf : f_X12_feud a1 a2 vmn vho = some r) (sz : Nat) : mC l yX12_feud wsX12_feud rm_X12_feud D (tyG G) kT [.ref ((Q 0) 0), .int a1, .int a2] (kMain Q vmn ++ kHouse G (Q 1) vho) (kMain Q vmn ++ kHouse G (Q 1) vho) sz (some (.int r)) 0 0 := by
  refine mC_ofI (cc := cX12_feud) (maxL := 3) (ret := (some .int)) (by decide) rfl rfl (Nat.le_of_ble_eq_true rfl) ?_
  intro p e s m args below meth c Q0 hx hb hml hts hown hN hK A hD hA hE hP hS hJ ls hl
  have hl : lv_has ls 3 [(0, .ref ((Q 0) 0)), (1, .int a1), (2, .int a2)] := hl
  unfold f_X12_feud at hf
  have hi10 : ∀ w ∈ u_ws RX12 TX12 11, w ∈ wsX12_feud := by decide +kernel
  have hw1 := hts (.fieldLink RX12 12 "BalconyCensus" "house" "LBalconyCensus$House;") (by decide +kernel)
  refine lv_iload_n hx hb dX12_feud_0 rfl (lv_at hl 1 rfl) ?_
  refine lv_iload_n hx hb dX12_feud_1 rfl (lv_at hl 2 rfl) ?_
  obtain ⟨r_1, hc, hf⟩ := bd1_of hf
  refine k_S (As := [.int a1, .int a2]) (rest := []) (ws1 := (kMain Q vmn ++ kHouse G (Q 1) vho)) ⟨hx, hb, hml, hown, hts⟩ (c_X12_areBalconies l D G  a1 a2  _ hc  _) (va_cwS 2 hts gX12_feud_X12_areBalconies rfl rfl rfl (by decide +kernel) ⟨Nat.le_of_ble_eq_true rfl, Nat.le_of_ble_eq_true rfl⟩) hl.1 (Nat.le_of_ble_eq_true rfl) dX12_feud_2 ⟨Nat.le_of_ble_eq_true rfl, Nat.le_of_ble_eq_true rfl⟩ rfl kT_bl (fun _ _ _ => trivial) hN hK hP hD hS hA [] [0, 1, 2, 3, 4, 5, 6, 7, 8, 9, 10, 11, 12, 13, 14, 15] [0, 1, 2, 3, 4, 5, 6, 7, 8, 9, 10, 11, 12, 13, 14, 15] [0, 1, 2, 3] rfl rfl rfl ⟨by decide, by decide, by decide, by decide⟩ rfl (fun H locs hP hD hS => ?_)
  refine lv_if_ne (tgt := 10) hx hb dX12_feud_5 (by decide) (fun cc => ?_) (fun cc => ?_)
  · replace hf := ifF cc hf
    refine lv_aload_n hx hb dX12_feud_10 rfl (lv_at hl 0 rfl) ?_
    refine va_get (D := D) (ci := 10) (v := .ref (Q 1 0)) (C := RX12) (T := TX12) (N := 11) hx hb hts hi10 hown hK hP 0 rfl rfl 0 (by decide) hw1 (fun _ h9 => h9) rfl dX12_feud_11 ?_
    refine lv_iload_n hx hb dX12_feud_14 rfl (lv_at hl 1 rfl) ?_
    refine lv_iload_n hx hb dX12_feud_15 rfl (lv_at hl 2 rfl) ?_
    obtain ⟨r_2, hc, hf⟩ := bd1_of hf
    refine k_V (As := [.int a1, .int a2]) (rest := []) (ws1 := (kMain Q vmn ++ kHouse G (Q 1) vho)) ⟨hx, hb, hml, hown, hts⟩ (c_X6_isFeud l D G (Q 1) a1 a2 vho _ hc  _) (cwV 2 hts gX12_feud_X6_isFeud rfl rfl rfl (by decide +kernel) ⟨Nat.le_of_ble_eq_true rfl, Nat.le_of_ble_eq_true rfl⟩) hl.1 (Nat.le_of_ble_eq_true rfl) dX12_feud_16 ⟨Nat.le_of_ble_eq_true rfl, Nat.le_of_ble_eq_true rfl⟩ rfl kT_bl (fun _ _ _ => trivial) hN hK hP hD hS hA 1 4 rfl rfl rfl [1, 2, 3, 4, 5, 6, 7, 8, 9, 10, 11, 12, 13, 14, 15] [0] [0, 1, 2, 3, 4, 5, 6, 7, 8, 9, 10, 11, 12, 13, 14, 15] [0, 1, 2, 3] rfl rfl rfl ⟨by decide, by decide, by decide, by decide⟩ rfl (fun H locs hP hD hS => ?_)
    refine lv_if_eq (tgt := 26) hx hb dX12_feud_19 (by decide) (fun cc => ?_) (fun cc => ?_)
    · replace hf := ifT cc hf
      refine lv_iconst (v := 0) hx hb dX12_feud_26 (by decide) ?_
      obtain rfl := re1 hf
      exact hE hP hD hS dX12_feud_27
    · replace hf := ifF cc hf
      refine lv_iconst (v := 1) hx hb dX12_feud_22 (by decide) ?_
      refine lv_goto (tgt := 27) hx hb dX12_feud_23 (by decide) ?_
      obtain rfl := re1 hf
      exact hE hP hD hS dX12_feud_27
  · replace hf := ifT cc hf
    refine lv_iconst (v := (-1)) hx hb dX12_feud_8 (by decide) ?_
    obtain rfl := re1 hf
    exact hE hP hD hS dX12_feud_9
def f_X12_greeted (a1 : Int32) (a2 : Int32) (vmn : SV) (vho : SV) : Option Int32 :=
  bd1 (f_X12_areBalconies a1 a2) fun r_1 =>
  if r_1 = 0 then
    some (-1)
  else
    bd1 (f_X4_countOf a1 a2 vho) fun r_2 =>
    some r_2
abbrev rm_X12_greeted : Room := { frames := 2, cells := 0, slots := 0, locals := 41 }
set_option maxHeartbeats 4000000 in
set_option maxRecDepth 100000 in
theorem c_X12_greeted (l : Launch) (D : va_G) (G : Nat → ClassId) (Q : Nat → Nat → Nat) (a1 : Int32) (a2 : Int32) (vmn : SV) (vho : SV) (r : Int32) (hf : f_X12_greeted a1 a2 vmn vho = some r) (sz : Nat) : mC l yX12_greeted wsX12_greeted rm_X12_greeted D (tyG G) kT [.ref ((Q 0) 0), .int a1, .int a2] (kMain Q vmn ++ kHouse G (Q 1) vho) (kMain Q vmn ++ kHouse G (Q 1) vho) sz (some (.int r)) 0 0 := by
  refine mC_ofI (cc := cX12_greeted) (maxL := 3) (ret := (some .int)) (by decide) rfl rfl (Nat.le_of_ble_eq_true rfl) ?_
  intro p e s m args below meth c Q0 hx hb hml hts hown hN hK A hD hA hE hP hS hJ ls hl
  have hl : lv_has ls 3 [(0, .ref ((Q 0) 0)), (1, .int a1), (2, .int a2)] := hl
  unfold f_X12_greeted at hf
  have hi10 : ∀ w ∈ u_ws RX12 TX12 11, w ∈ wsX12_greeted := by decide +kernel
  have hi4 : ∀ w ∈ u_ws RX6 TX6 10, w ∈ wsX12_greeted := by decide +kernel
  have hw1 := hts (.fieldLink RX12 12 "BalconyCensus" "house" "LBalconyCensus$House;") (by decide +kernel)
  have hw2 := hts (.fieldLink RX12 172 "BalconyCensus$House" "greetings" "LBalconyCensus$Greetings;") (by decide +kernel)
  refine lv_iload_n hx hb dX12_greeted_0 rfl (lv_at hl 1 rfl) ?_
  refine lv_iload_n hx hb dX12_greeted_1 rfl (lv_at hl 2 rfl) ?_
  obtain ⟨r_1, hc, hf⟩ := bd1_of hf
  refine k_S (As := [.int a1, .int a2]) (rest := []) (ws1 := (kMain Q vmn ++ kHouse G (Q 1) vho)) ⟨hx, hb, hml, hown, hts⟩ (c_X12_areBalconies l D G  a1 a2  _ hc  _) (va_cwS 2 hts gX12_greeted_X12_areBalconies rfl rfl rfl (by decide +kernel) ⟨Nat.le_of_ble_eq_true rfl, Nat.le_of_ble_eq_true rfl⟩) hl.1 (Nat.le_of_ble_eq_true rfl) dX12_greeted_2 ⟨Nat.le_of_ble_eq_true rfl, Nat.le_of_ble_eq_true rfl⟩ rfl kT_bl (fun _ _ _ => trivial) hN hK hP hD hS hA [] [0, 1, 2, 3, 4, 5, 6, 7, 8, 9, 10, 11, 12, 13, 14, 15] [0, 1, 2, 3, 4, 5, 6, 7, 8, 9, 10, 11, 12, 13, 14, 15] [0, 1, 2, 3] rfl rfl rfl ⟨by decide, by decide, by decide, by decide⟩ rfl (fun H locs hP hD hS => ?_)
  refine lv_if_ne (tgt := 10) hx hb dX12_greeted_5 (by decide) (fun cc => ?_) (fun cc => ?_)
  · replace hf := ifF cc hf
    refine lv_aload_n hx hb dX12_greeted_10 rfl (lv_at hl 0 rfl) ?_
    refine va_get (D := D) (ci := 10) (v := .ref (Q 1 0)) (C := RX12) (T := TX12) (N := 11) hx hb hts hi10 hown hK hP 0 rfl rfl 0 (by decide) hw1 (fun _ h9 => h9) rfl dX12_greeted_11 ?_
    refine va_get (D := D) (ci := 4) (v := .ref ((Q 1) 7)) (C := RX6) (T := TX6) (N := 10) hx hb hts hi4 hown hK hP 1 rfl rfl 3 (by decide) hw2 (fun _ h9 => h9) rfl dX12_greeted_14 ?_
    refine lv_iload_n hx hb dX12_greeted_17 rfl (lv_at hl 1 rfl) ?_
    refine lv_iload_n hx hb dX12_greeted_18 rfl (lv_at hl 2 rfl) ?_
    obtain ⟨r_2, hc, hf⟩ := bd1_of hf
    refine k_V (As := [.int a1, .int a2]) (rest := []) (ws1 := (kMain Q vmn ++ kHouse G (Q 1) vho)) ⟨hx, hb, hml, hown, hts⟩ (c_X4_countOf l D G (Q 1) a1 a2 vho _ hc  _) (cwV 2 hts gX12_greeted_X4_countOf rfl rfl rfl (by decide +kernel) ⟨Nat.le_of_ble_eq_true rfl, Nat.le_of_ble_eq_true rfl⟩) hl.1 (Nat.le_of_ble_eq_true rfl) dX12_greeted_19 ⟨Nat.le_of_ble_eq_true rfl, Nat.le_of_ble_eq_true rfl⟩ rfl kT_bl (fun _ _ _ => trivial) hN hK hP hD hS hA 8 2 rfl rfl rfl [8, 9, 10] [0, 1, 2, 3, 4, 5, 6, 7, 11, 12, 13, 14, 15] [0, 1, 2, 3, 4, 5, 6, 7, 13, 14, 15, 8, 9, 10, 11, 12] [0, 1, 2, 3] rfl rfl rfl ⟨by decide, by decide, by decide, by decide⟩ rfl (fun H locs hP hD hS => ?_)
    obtain rfl := re1 hf
    exact hE hP hD hS dX12_greeted_22
  · replace hf := ifT cc hf
    refine lv_iconst (v := (-1)) hx hb dX12_greeted_8 (by decide) ?_
    obtain rfl := re1 hf
    exact hE hP hD hS dX12_greeted_9
