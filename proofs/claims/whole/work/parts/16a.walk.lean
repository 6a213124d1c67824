/-! Walks, laid by wip/whole/gen.py: for each method f_ (what it does to its world) and c_ (its contract). -/
def f_X12_settle (a1 : Int32) (vmn : SV) (vho : SV) (vdr : SV) (vhi : SV) (vhh : (Nat → SV)) : Option (Int32 × SV × SV × (Nat → SV)) :=
  if a1 < 0 then
    some (a1, vho, vhi, vhh)
  else
    bd2 (f_X5_keep vhi vhh vho) fun w_1 w_2 =>
    bd1 (f_X6_take vho vdr) fun w_3 =>
    some (a1, w_3, w_1, w_2)
abbrev rm_X12_settle : Room := { frames := 4, cells := 0, slots := 0, locals := 81 }
set_option maxHeartbeats 4000000 in
set_option maxRecDepth 100000 in
theorem c_X12_settle (l : Launch) (D : va_G) (G : Nat → ClassId) (Q : Nat → Nat → Nat) (a1 : Int32) (vmn : SV) (vho : SV) (vdr : SV) (vhi : SV) (vhh : (Nat → SV)) (r : Int32) (vho' : SV) (vhi' : SV) (vhh' : (Nat → SV)) (hf : f_X12_settle a1 vmn vho vdr vhi vhh = some (r, vho', vhi', vhh')) (sz : Nat) : mC l yX12_settle wsX12_settle rm_X12_settle D (tyG G) kT [.ref ((Q 0) 0), .int a1] (kMain Q vmn ++ kHouse G (Q 1) vho ++ kHouse G (Q 2) vdr ++ kHist Q vhi ++ kHH G Q vhh) (kMain Q vmn ++ kHouse G (Q 1) vho' ++ kHouse G (Q 2) vdr ++ kHist Q vhi' ++ kHH G Q vhh') sz (some (.int r)) 0 0 := by
  refine mC_ofI (cc := cX12_settle) (maxL := 2) (ret := (some .int)) (by decide) rfl rfl (Nat.le_of_ble_eq_true rfl) ?_
  intro p e s m args below meth c Q0 hx hb hml hts hown hN hK A hD hA hE hP hS hJ ls hl
  have hl : lv_has ls 2 [(0, .ref ((Q 0) 0)), (1, .int a1)] := hl
  unfold f_X12_settle at hf
  have hi10 : ∀ w ∈ u_ws RX12 TX12 11, w ∈ wsX12_settle := by decide +kernel
  have hw1 := hts (.fieldLink RX12 29 "BalconyCensus" "history" "LBalconyCensus$History;") (by decide +kernel)
  have hw2 := hts (.fieldLink RX12 12 "BalconyCensus" "house" "LBalconyCensus$House;") (by decide +kernel)
  have hw3 := hts (.fieldLink RX12 16 "BalconyCensus" "draft" "LBalconyCensus$House;") (by decide +kernel)
  refine lv_iload_n hx hb dX12_settle_0 rfl (lv_at hl 1 rfl) ?_
  refine lv_if_lt (tgt := 26) hx hb dX12_settle_1 (by decide) (fun cc => ?_) (fun cc => ?_)
  · replace hf := ifT cc hf
    refine lv_iload_n hx hb dX12_settle_26 rfl (lv_at hl 1 rfl) ?_
    obtain ⟨rfl, rfl, rfl, rfl⟩ := re4 hf
    exact hE hP hD hS dX12_settle_27
  · replace hf := ifF cc hf
    refine lv_aload_n hx hb dX12_settle_4 rfl (lv_at hl 0 rfl) ?_
    refine va_get (D := D) (ci := 10) (v := .ref (Q 4 0)) (C := RX12) (T := TX12) (N := 11) hx hb hts hi10 hown hK hP 0 rfl rfl 4 (by decide) hw1 (fun _ h9 => h9) rfl dX12_settle_5 ?_
    refine lv_aload_n hx hb dX12_settle_8 rfl (lv_at hl 0 rfl) ?_
    refine va_get (D := D) (ci := 10) (v := .ref (Q 1 0)) (C := RX12) (T := TX12) (N := 11) hx hb hts hi10 hown hK hP 0 rfl rfl 0 (by decide) hw2 (fun _ h9 => h9) rfl dX12_settle_9 ?_
    obtain ⟨w_1, w_2, hc, hf⟩ := bd2_of hf
    have hPb : va_P D vwCl ((kMain Q vmn ++ kHouse G (Q 2) vdr) ++ (kHist Q vhi ++ kHH G Q vhh ++ kHouse G (Q 1) vho)) s.heap := by simp only [pP_app] at hP ⊢; simp only [hP, and_self]
    have hDb : va_D A ((kMain Q vmn ++ kHouse G (Q 2) vdr) ++ (kHist Q vhi ++ kHH G Q vhh ++ kHouse G (Q 1) vho)) := by simp only [pD_app, Dj_l, Dj_r] at hD ⊢; simp only [hD, and_self]
    refine k_VB (As := [.ref ((Q 1) 0)]) (rest := []) ⟨hx, hb, hml, hown, hts⟩ (c_X5_keep l D G Q (Q 1)  vhi vhh vho _ _ hc  _) (cwV 1 hts gX12_settle_X5_keep rfl rfl rfl (by decide +kernel) ⟨Nat.le_of_ble_eq_true rfl, Nat.le_of_ble_eq_true rfl⟩) hl.1 (Nat.le_of_ble_eq_true rfl) dX12_settle_12 ⟨Nat.le_of_ble_eq_true rfl, Nat.le_of_ble_eq_true rfl⟩ rfl kT_bl (fun _ _ _ => trivial) hN hK hPb hDb hS hA 0 3 rfl rfl rfl [0, 1, 2, 3] rfl (fun H locs hP hD hS => ?_)
    have hP : va_P D vwCl (kMain Q vmn ++ kHouse G (Q 1) vho ++ kHouse G (Q 2) vdr ++ kHist Q w_1 ++ kHH G Q w_2) H := by simp only [pP_app] at hP ⊢; simp only [hP, and_self]
    have hD : va_D A (kMain Q vmn ++ kHouse G (Q 1) vho ++ kHouse G (Q 2) vdr ++ kHist Q w_1 ++ kHH G Q w_2) := by simp only [pD_app, Dj_l, Dj_r] at hD ⊢; simp only [hD, and_self]
    refine lv_aload_n hx hb dX12_settle_15 rfl (lv_at hl 0 rfl) ?_
    refine va_get (D := D) (ci := 10) (v := .ref (Q 1 0)) (C := RX12) (T := TX12) (N := 11) hx hb hts hi10 hown hK hP 0 rfl rfl 0 (by decide) hw2 (fun _ h9 => h9) rfl dX12_settle_16 ?_
    refine lv_aload_n hx hb dX12_settle_19 rfl (lv_at hl 0 rfl) ?_
    refine va_get (D := D) (ci := 10) (v := .ref (Q 2 0)) (C := RX12) (T := TX12) (N := 11) hx hb hts hi10 hown hK hP 0 rfl rfl 1 (by decide) hw3 (fun _ h9 => h9) rfl dX12_settle_20 ?_
    obtain ⟨w_3, hc, hf⟩ := bd1_of hf
    have hPb : va_P D vwCl ((kMain Q vmn ++ kHist Q w_1 ++ kHH G Q w_2) ++ (kHouse G (Q 1) vho ++ kHouse G (Q 2) vdr)) H := by simp only [pP_app] at hP ⊢; simp only [hP, and_self]
    have hDb : va_D A ((kMain Q vmn ++ kHist Q w_1 ++ kHH G Q w_2) ++ (kHouse G (Q 1) vho ++ kHouse G (Q 2) vdr)) := by simp only [pD_app, Dj_l, Dj_r] at hD ⊢; simp only [hD, and_self]
    refine k_VB (As := [.ref ((Q 2) 0)]) (rest := []) ⟨hx, hb, hml, hown, hts⟩ (c_X6_take l D G (Q 1) (Q 2)  vho vdr _ hc  _) (cwV 1 hts gX12_settle_X6_take rfl rfl rfl (by decide +kernel) ⟨Nat.le_of_ble_eq_true rfl, Nat.le_of_ble_eq_true rfl⟩) hl.1 (Nat.le_of_ble_eq_true rfl) dX12_settle_23 ⟨Nat.le_of_ble_eq_true rfl, Nat.le_of_ble_eq_true rfl⟩ rfl kT_bl (fun _ _ _ => trivial) hN hK hPb hDb hS hA 0 4 rfl rfl rfl [0, 1, 2, 3] rfl (fun H locs hP hD hS => ?_)
    have hP : va_P D vwCl (kMain Q vmn ++ kHouse G (Q 1) w_3 ++ kHouse G (Q 2) vdr ++ kHist Q w_1 ++ kHH G Q w_2) H := by simp only [pP_app] at hP ⊢; simp only [hP, and_self]
    have hD : va_D A (kMain Q vmn ++ kHouse G (Q 1) w_3 ++ kHouse G (Q 2) vdr ++ kHist Q w_1 ++ kHH G Q w_2) := by simp only [pD_app, Dj_l, Dj_r] at hD ⊢; simp only [hD, and_self]
    refine lv_iload_n hx hb dX12_settle_26 rfl (lv_at hl 1 rfl) ?_
    obtain ⟨rfl, rfl, rfl, rfl⟩ := re4 hf
    exact hE hP hD hS dX12_settle_27
def f_X12_clear (vmn : SV) (vho : SV) (vhi : SV) : Option (Int32 × SV × SV) :=
  bd1 (f_X6_plantSum vho) fun r_1 =>
  bd1 (f_X6_becomeNew vho) fun w_2 =>
  bd1 (f_X5_forget vhi) fun w_3 =>
  some (r_1, w_2, w_3)
abbrev rm_X12_clear : Room := { frames := 3, cells := 0, slots := 0, locals := 63 }
set_option maxHeartbeats 4000000 in
set_option maxRecDepth 100000 in
theorem c_X12_clear (l : Launch) (D : va_G) (G : Nat → ClassId) (Q : Nat → Nat → Nat) (vmn : SV) (vho : SV) (vhi : SV) (r : Int32) (vho' : SV) (vhi' : SV) (hf : f_X12_clear vmn vho vhi = some (r, vho', vhi')) (sz : Nat) : mC l yX12_clear wsX12_clear rm_X12_clear D (tyG G) kT [.ref ((Q 0) 0)] (kMain Q vmn ++ kHouse G (Q 1) vho ++ kHist Q vhi) (kMain Q vmn ++ kHouse G (Q 1) vho' ++ kHist Q vhi') sz (some (.int r)) 0 0 := by
  refine mC_ofI (cc := cX12_clear) (maxL := 2) (ret := (some .int)) (by decide) rfl rfl (Nat.le_of_ble_eq_true rfl) ?_
  intro p e s m args below meth c Q0 hx hb hml hts hown hN hK A hD hA hE hP hS hJ ls hl
  have hl : lv_has ls 2 [(0, .ref ((Q 0) 0))] := hl
  unfold f_X12_clear at hf
  have hi10 : ∀ w ∈ u_ws RX12 TX12 11, w ∈ wsX12_clear := by decide +kernel
  have hw1 := hts (.fieldLink RX12 12 "BalconyCensus" "house" "LBalconyCensus$House;") (by decide +kernel)
  have hw2 := hts (.fieldLink RX12 29 "BalconyCensus" "history" "LBalconyCensus$History;") (by decide +kernel)
  refine lv_aload_n hx hb dX12_clear_0 rfl (lv_at hl 0 rfl) ?_
  refine va_get (D := D) (ci := 10) (v := .ref (Q 1 0)) (C := RX12) (T := TX12) (N := 11) hx hb hts hi10 hown hK hP 0 rfl rfl 0 (by decide) hw1 (fun _ h9 => h9) rfl dX12_clear_1 ?_
  obtain ⟨r_1, hc, hf⟩ := bd1_of hf
  refine k_V (As := []) (rest := []) (ws1 := (kMain Q vmn ++ kHouse G (Q 1) vho ++ kHist Q vhi)) ⟨hx, hb, hml, hown, hts⟩ (c_X6_plantSum l D G (Q 1)  vho _ hc  _) (cwV 0 hts gX12_clear_X6_plantSum rfl rfl rfl (by decide +kernel) ⟨Nat.le_of_ble_eq_true rfl, Nat.le_of_ble_eq_true rfl⟩) hl.1 (Nat.le_of_ble_eq_true rfl) dX12_clear_4 ⟨Nat.le_of_ble_eq_true rfl, Nat.le_of_ble_eq_true rfl⟩ rfl kT_bl (fun _ _ _ => trivial) hN hK hP hD hS hA 1 4 rfl rfl rfl [1, 2, 3, 4, 5, 6, 7, 8, 9, 10, 11, 12, 13, 14, 15] [0, 16] [0, 2, 3, 4, 5, 6, 7, 8, 9, 10, 11, 12, 13, 14, 15, 16, 1] [0, 1, 2, 3] rfl rfl rfl ⟨by decide, by decide, by decide, by decide⟩ rfl (fun H locs hP hD hS => ?_)
  refine lv_istore_n (lv' := [(1, .int r_1), (0, .ref ((Q 0) 0))]) hx hb dX12_clear_7 rfl hl (by decide) rfl (fun ls hl => ?_)
  refine lv_aload_n hx hb dX12_clear_8 rfl (lv_at hl 1 rfl) ?_
  refine va_get (D := D) (ci := 10) (v := .ref (Q 1 0)) (C := RX12) (T := TX12) (N := 11) hx hb hts hi10 hown hK hP 0 rfl rfl 0 (by decide) hw1 (fun _ h9 => h9) rfl dX12_clear_9 ?_
  obtain ⟨w_2, hc, hf⟩ := bd1_of hf
  refine k_V (As := []) (rest := []) (ws1 := (kMain Q vmn ++ kHouse G (Q 1) w_2 ++ kHist Q vhi)) ⟨hx, hb, hml, hown, hts⟩ (c_X6_becomeNew l D G (Q 1)  vho _ hc  _) (cwV 0 hts gX12_clear_X6_becomeNew rfl rfl rfl (by decide +kernel) ⟨Nat.le_of_ble_eq_true rfl, Nat.le_of_ble_eq_true rfl⟩) hl.1 (Nat.le_of_ble_eq_true rfl) dX12_clear_12 ⟨Nat.le_of_ble_eq_true rfl, Nat.le_of_ble_eq_true rfl⟩ rfl kT_bl (fun _ _ _ => trivial) hN hK hP hD hS hA 1 4 rfl rfl rfl [1, 2, 3, 4, 5, 6, 7, 8, 9, 10, 11, 12, 13, 14, 15] [0, 16] [0, 2, 3, 4, 5, 6, 7, 8, 9, 10, 11, 12, 13, 14, 15, 16, 1] [0, 1, 2, 3] rfl rfl rfl ⟨by decide, by decide, by decide, by decide⟩ rfl (fun H locs hP hD hS => ?_)
  refine lv_aload_n hx hb dX12_clear_15 rfl (lv_at hl 1 rfl) ?_
  refine va_get (D := D) (ci := 10) (v := .ref (Q 4 0)) (C := RX12) (T := TX12) (N := 11) hx hb hts hi10 hown hK hP 0 rfl rfl 4 (by decide) hw2 (fun _ h9 => h9) rfl dX12_clear_16 ?_
  obtain ⟨w_3, hc, hf⟩ := bd1_of hf
  refine k_V (As := []) (rest := []) (ws1 := (kMain Q vmn ++ kHouse G (Q 1) w_2 ++ kHist Q w_3)) ⟨hx, hb, hml, hown, hts⟩ (c_X5_forget l D G Q  vhi _ hc  _) (cwV 0 hts gX12_clear_X5_forget rfl rfl rfl (by decide +kernel) ⟨Nat.le_of_ble_eq_true rfl, Nat.le_of_ble_eq_true rfl⟩) hl.1 (Nat.le_of_ble_eq_true rfl) dX12_clear_19 ⟨Nat.le_of_ble_eq_true rfl, Nat.le_of_ble_eq_true rfl⟩ rfl kT_bl (fun _ _ _ => trivial) hN hK hP hD hS hA 16 3 rfl rfl rfl [16] [0, 1, 2, 3, 4, 5, 6, 7, 8, 9, 10, 11, 12, 13, 14, 15] [0, 1, 2, 3, 4, 5, 6, 7, 8, 9, 10, 11, 12, 13, 14, 15, 16] [0, 1, 2, 3] rfl rfl rfl ⟨by decide, by decide, by decide, by decide⟩ rfl (fun H locs hP hD hS => ?_)
  refine lv_iload_n hx hb dX12_clear_22 rfl (lv_at hl 0 rfl) ?_
  obtain ⟨rfl, rfl, rfl⟩ := re3 hf
  exact hE hP hD hS dX12_clear_23
def f_X12_append (a1 : Int32) (vmn : SV) (vre : SV) : Option (Int32 × SV) :=
  bd2 (f_X10_addCharacter a1 vre) fun r_1 w_2 =>
  some (r_1, w_2)
abbrev rm_X12_append : Room := { frames := 1, cells := 0, slots := 0, locals := 21 }
set_option maxHeartbeats 4000000 in
set_option maxRecDepth 100000 in
theorem c_X12_append (l : Launch) (D : va_G) (G : Nat → ClassId) (Q : Nat → Nat → Nat) (a1 : Int32) (vmn : SV) (vre : SV) (r : Int32) (vre' : SV) (hf : f_X12_append a1 vmn vre = some (r, vre')) (sz : Nat) : mC l yX12_append wsX12_append rm_X12_append D (tyG G) kT [.ref ((Q 0) 0), .int a1] (kMain Q vmn ++ kReader G (Q 5) vre) (kMain Q vmn ++ kReader G (Q 5) vre') sz (some (.int r)) 0 0 := by
  refine mC_ofI (cc := cX12_append) (maxL := 2) (ret := (some .int)) (by decide) rfl rfl (Nat.le_of_ble_eq_true rfl) ?_
  intro p e s m args below meth c Q0 hx hb hml hts hown hN hK A hD hA hE hP hS hJ ls hl
  have hl : lv_has ls 2 [(0, .ref ((Q 0) 0)), (1, .int a1)] := hl
  unfold f_X12_append at hf
  have hi10 : ∀ w ∈ u_ws RX12 TX12 11, w ∈ wsX12_append := by decide +kernel
  have hw1 := hts (.fieldLink RX12 36 "BalconyCensus" "reader" "LBalconyCensus$Reader;") (by decide +kernel)
  refine lv_aload_n hx hb dX12_append_0 rfl (lv_at hl 0 rfl) ?_
  refine va_get (D := D) (ci := 10) (v := .ref (Q 5 0)) (C := RX12) (T := TX12) (N := 11) hx hb hts hi10 hown hK hP 0 rfl rfl 5 (by decide) hw1 (fun _ h9 => h9) rfl dX12_append_1 ?_
  refine lv_iload_n hx hb dX12_append_4 rfl (lv_at hl 1 rfl) ?_
  obtain ⟨r_1, w_2, hc, hf⟩ := bd2_of hf
  refine k_V (As := [.int a1]) (rest := []) (ws1 := (kMain Q vmn ++ kReader G (Q 5) w_2)) ⟨hx, hb, hml, hown, hts⟩ (c_X10_addCharacter l D G (Q 5) a1 vre _ _ hc  _) (cwV 1 hts gX12_append_X10_addCharacter rfl rfl rfl (by decide +kernel) ⟨Nat.le_of_ble_eq_true rfl, Nat.le_of_ble_eq_true rfl⟩) hl.1 (Nat.le_of_ble_eq_true rfl) dX12_append_5 ⟨Nat.le_of_ble_eq_true rfl, Nat.le_of_ble_eq_true rfl⟩ rfl kT_bl (fun _ _ _ => trivial) hN hK hP hD hS hA 1 8 rfl rfl rfl [1, 2, 3, 4, 5, 6] [0] [0, 1, 2, 3, 4, 5, 6] [0, 1, 2, 3] rfl rfl rfl ⟨by decide, by decide, by decide, by decide⟩ rfl (fun H locs hP hD hS => ?_)
  obtain ⟨rfl, rfl⟩ := re2 hf
  exact hE hP hD hS dX12_append_8
def f_X12_plant (a1 : Int32) (a2 : Int32) (vmn : SV) (vho : SV) (vdr : SV) (vhi : SV) (vrf : SV) (vhh : (Nat → SV)) : Option (Int32 × SV × SV × SV × SV × (Nat → SV)) :=
  bd1 (f_X6_take vdr vho) fun w_1 =>
  bd3 (f_X6_putPlants a1 a2 w_1 vrf) fun r_2 w_3 w_4 =>
  bd4 (f_X12_settle r_2 vmn vho w_3 vhi vhh) fun r_5 w_6 w_7 w_8 =>
  some (r_5, w_6, w_3, w_7, w_4, w_8)
abbrev rm_X12_plant : Room := { frames := 5, cells := 0, slots := 0, locals := 102 }
set_option maxHeartbeats 4000000 in
set_option maxRecDepth 100000 in
theorem c_X12_plant (l : Launch) (D : va_G) (G : Nat → ClassId) (Q : Nat → Nat → Nat) (a1 : Int32) (a2 : Int32) (vmn : SV) (vho : SV) (vdr : SV) (vhi : SV) (vrf : SV) (vhh : (Nat → SV)) (r : Int32) (vho' : SV) (vdr' : SV) (vhi' : SV) (vrf' : SV) (vhh' : (Nat → SV)) (hf : f_X12_plant a1 a2 vmn vho vdr vhi vrf vhh = some (r, vho', vdr', vhi', vrf', vhh')) (sz : Nat) : mC l yX12_plant wsX12_plant rm_X12_plant D (tyG G) kT [.ref ((Q 0) 0), .int a1, .int a2] (kMain Q vmn ++ kHouse G (Q 1) vho ++ kHouse G (Q 2) vdr ++ kHist Q vhi ++ kRef G (Q 6) vrf ++ kHH G Q vhh) (kMain Q vmn ++ kHouse G (Q 1) vho' ++ kHouse G (Q 2) vdr' ++ kHist Q vhi' ++ kRef G (Q 6) vrf' ++ kHH G Q vhh') sz (some (.int r)) 0 0 := by
  refine mC_ofI (cc := cX12_plant) (maxL := 3) (ret := (some .int)) (by decide) rfl rfl (Nat.le_of_ble_eq_true rfl) ?_
  intro p e s m args below meth c Q0 hx hb hml hts hown hN hK A hD hA hE hP hS hJ ls hl
  have hl : lv_has ls 3 [(0, .ref ((Q 0) 0)), (1, .int a1), (2, .int a2)] := hl
  unfold f_X12_plant at hf
  have hi10 : ∀ w ∈ u_ws RX12 TX12 11, w ∈ wsX12_plant := by decide +kernel
  have hw1 := hts (.fieldLink RX12 16 "BalconyCensus" "draft" "LBalconyCensus$House;") (by decide +kernel)
  have hw2 := hts (.fieldLink RX12 12 "BalconyCensus" "house" "LBalconyCensus$House;") (by decide +kernel)
  have hw3 := hts (.fieldLink RX12 43 "BalconyCensus" "refusal" "LBalconyCensus$Refusal;") (by decide +kernel)
  refine lv_aload_n hx hb dX12_plant_0 rfl (lv_at hl 0 rfl) ?_
  refine va_get (D := D) (ci := 10) (v := .ref (Q 2 0)) (C := RX12) (T := TX12) (N := 11) hx hb hts hi10 hown hK hP 0 rfl rfl 1 (by decide) hw1 (fun _ h9 => h9) rfl dX12_plant_1 ?_
  refine lv_aload_n hx hb dX12_plant_4 rfl (lv_at hl 0 rfl) ?_
  refine va_get (D := D) (ci := 10) (v := .ref (Q 1 0)) (C := RX12) (T := TX12) (N := 11) hx hb hts hi10 hown hK hP 0 rfl rfl 0 (by decide) hw2 (fun _ h9 => h9) rfl dX12_plant_5 ?_
  obtain ⟨w_1, hc, hf⟩ := bd1_of hf
  have hPb : va_P D vwCl ((kMain Q vmn ++ kHist Q vhi ++ kRef G (Q 6) vrf ++ kHH G Q vhh) ++ (kHouse G (Q 2) vdr ++ kHouse G (Q 1) vho)) s.heap := by simp only [pP_app] at hP ⊢; simp only [hP, and_self]
  have hDb : va_D A ((kMain Q vmn ++ kHist Q vhi ++ kRef G (Q 6) vrf ++ kHH G Q vhh) ++ (kHouse G (Q 2) vdr ++ kHouse G (Q 1) vho)) := by simp only [pD_app, Dj_l, Dj_r] at hD ⊢; simp only [hD, and_self]
  refine k_VB (As := [.ref ((Q 1) 0)]) (rest := []) ⟨hx, hb, hml, hown, hts⟩ (c_X6_take l D G (Q 2) (Q 1)  vdr vho _ hc  _) (cwV 1 hts gX12_plant_X6_take rfl rfl rfl (by decide +kernel) ⟨Nat.le_of_ble_eq_true rfl, Nat.le_of_ble_eq_true rfl⟩) hl.1 (Nat.le_of_ble_eq_true rfl) dX12_plant_8 ⟨Nat.le_of_ble_eq_true rfl, Nat.le_of_ble_eq_true rfl⟩ rfl kT_bl (fun _ _ _ => trivial) hN hK hPb hDb hS hA 0 4 rfl rfl rfl [0, 1, 2, 3] rfl (fun H locs hP hD hS => ?_)
  have hP : va_P D vwCl (kMain Q vmn ++ kHouse G (Q 1) vho ++ kHouse G (Q 2) w_1 ++ kHist Q vhi ++ kRef G (Q 6) vrf ++ kHH G Q vhh) H := by simp only [pP_app] at hP ⊢; simp only [hP, and_self]
  have hD : va_D A (kMain Q vmn ++ kHouse G (Q 1) vho ++ kHouse G (Q 2) w_1 ++ kHist Q vhi ++ kRef G (Q 6) vrf ++ kHH G Q vhh) := by simp only [pD_app, Dj_l, Dj_r] at hD ⊢; simp only [hD, and_self]
  refine lv_aload_n hx hb dX12_plant_11 rfl (lv_at hl 0 rfl) ?_
  refine lv_aload_n hx hb dX12_plant_12 rfl (lv_at hl 0 rfl) ?_
  refine va_get (D := D) (ci := 10) (v := .ref (Q 2 0)) (C := RX12) (T := TX12) (N := 11) hx hb hts hi10 hown hK hP 0 rfl rfl 1 (by decide) hw1 (fun _ h9 => h9) rfl dX12_plant_13 ?_
  refine lv_iload_n hx hb dX12_plant_16 rfl (lv_at hl 1 rfl) ?_
  refine lv_iload_n hx hb dX12_plant_17 rfl (lv_at hl 2 rfl) ?_
  refine lv_aload_n hx hb dX12_plant_18 rfl (lv_at hl 0 rfl) ?_
  refine va_get (D := D) (ci := 10) (v := .ref (Q 6 0)) (C := RX12) (T := TX12) (N := 11) hx hb hts hi10 hown hK hP 0 rfl rfl 6 (by decide) hw3 (fun _ h9 => h9) rfl dX12_plant_19 ?_
  obtain ⟨r_2, w_3, w_4, hc, hf⟩ := bd3_of hf
  have hPb : va_P D vwCl ((kMain Q vmn ++ kHouse G (Q 1) vho ++ kHist Q vhi ++ kHH G Q vhh) ++ (kHouse G (Q 2) w_1 ++ kRef G (Q 6) vrf)) H := by simp only [pP_app] at hP ⊢; simp only [hP, and_self]
  have hDb : va_D A ((kMain Q vmn ++ kHouse G (Q 1) vho ++ kHist Q vhi ++ kHH G Q vhh) ++ (kHouse G (Q 2) w_1 ++ kRef G (Q 6) vrf)) := by simp only [pD_app, Dj_l, Dj_r] at hD ⊢; simp only [hD, and_self]
  refine k_VB (As := [.int a1, .int a2, .ref ((Q 6) 0)]) (rest := [.ref ((Q 0) 0)]) ⟨hx, hb, hml, hown, hts⟩ (c_X6_putPlants l D G (Q 2) (Q 6) a1 a2 w_1 vrf _ _ _ hc  _) (cwV 3 hts gX12_plant_X6_putPlants rfl rfl rfl (by decide +kernel) ⟨Nat.le_of_ble_eq_true rfl, Nat.le_of_ble_eq_true rfl⟩) hl.1 (Nat.le_of_ble_eq_true rfl) dX12_plant_22 ⟨Nat.le_of_ble_eq_true rfl, Nat.le_of_ble_eq_true rfl⟩ rfl kT_bl (fun _ _ _ => trivial) hN hK hPb hDb hS hA 0 4 rfl rfl rfl [0, 1, 2, 3] rfl (fun H locs hP hD hS => ?_)
  have hP : va_P D vwCl (kMain Q vmn ++ kHouse G (Q 1) vho ++ kHouse G (Q 2) w_3 ++ kHist Q vhi ++ kRef G (Q 6) w_4 ++ kHH G Q vhh) H := by simp only [pP_app] at hP ⊢; simp only [hP, and_self]
  have hD : va_D A (kMain Q vmn ++ kHouse G (Q 1) vho ++ kHouse G (Q 2) w_3 ++ kHist Q vhi ++ kRef G (Q 6) w_4 ++ kHH G Q vhh) := by simp only [pD_app, Dj_l, Dj_r] at hD ⊢; simp only [hD, and_self]
  obtain ⟨r_5, w_6, w_7, w_8, hc, hf⟩ := bd4_of hf
  have hPb : va_P D vwCl ((kRef G (Q 6) w_4) ++ (kMain Q vmn ++ kHouse G (Q 1) vho ++ kHouse G (Q 2) w_3 ++ kHist Q vhi ++ kHH G Q vhh)) H := by simp only [pP_app] at hP ⊢; simp only [hP, and_self]
  have hDb : va_D A ((kRef G (Q 6) w_4) ++ (kMain Q vmn ++ kHouse G (Q 1) vho ++ kHouse G (Q 2) w_3 ++ kHist Q vhi ++ kHH G Q vhh)) := by simp only [pD_app, Dj_l, Dj_r] at hD ⊢; simp only [hD, and_self]
  refine k_VB (As := [.int r_2]) (rest := []) ⟨hx, hb, hml, hown, hts⟩ (c_X12_settle l D G Q r_2 vmn vho w_3 vhi vhh _ _ _ _ hc  _) (cwV 1 hts gX12_plant_X12_settle rfl rfl rfl (by decide +kernel) ⟨Nat.le_of_ble_eq_true rfl, Nat.le_of_ble_eq_true rfl⟩) hl.1 (Nat.le_of_ble_eq_true rfl) dX12_plant_25 ⟨Nat.le_of_ble_eq_true rfl, Nat.le_of_ble_eq_true rfl⟩ rfl kT_bl (fun _ _ _ => trivial) hN hK hPb hDb hS hA 0 10 rfl rfl rfl [0, 1, 2, 3] rfl (fun H locs hP hD hS => ?_)
  have hP : va_P D vwCl (kMain Q vmn ++ kHouse G (Q 1) w_6 ++ kHouse G (Q 2) w_3 ++ kHist Q w_7 ++ kRef G (Q 6) w_4 ++ kHH G Q w_8) H := by simp only [pP_app] at hP ⊢; simp only [hP, and_self]
  have hD : va_D A (kMain Q vmn ++ kHouse G (Q 1) w_6 ++ kHouse G (Q 2) w_3 ++ kHist Q w_7 ++ kRef G (Q 6) w_4 ++ kHH G Q w_8) := by simp only [pD_app, Dj_l, Dj_r] at hD ⊢; simp only [hD, and_self]
  obtain ⟨rfl, rfl, rfl, rfl, rfl, rfl⟩ := re6 hf
  exact hE hP hD hS dX12_plant_28
def f_X12_bear (a1 : Int32) (a2 : Int32) (vmn : SV) (vho : SV) (vdr : SV) (vhi : SV) (vrf : SV) (vhh : (Nat → SV)) : Option (Int32 × SV × SV × SV × SV × (Nat → SV)) :=
  bd1 (f_X6_take vdr vho) fun w_1 =>
  bd3 (f_X6_changeTolerance a1 a2 w_1 vrf) fun r_2 w_3 w_4 =>
  bd4 (f_X12_settle r_2 vmn vho w_3 vhi vhh) fun r_5 w_6 w_7 w_8 =>
  some (r_5, w_6, w_3, w_7, w_4, w_8)
abbrev rm_X12_bear : Room := { frames := 5, cells := 0, slots := 0, locals := 102 }
set_option maxHeartbeats 4000000 in
set_option maxRecDepth 100000 in
theorem c_X12_bear (l : Launch) (D : va_G) (G : Nat → ClassId) (Q : Nat → Nat → Nat) (a1 : Int32) (a2 : Int32) (vmn : SV) (vho : SV) (vdr : SV) (vhi : SV) (vrf : SV) (vhh : (Nat → SV)) (r : Int32) (vho' : SV) (vdr' : SV) (vhi' : SV) (vrf' : SV) (vhh' : (Nat → SV)) (hf : f_X12_bear a1 a2 vmn vho vdr vhi vrf vhh = some (r, vho', vdr', vhi', vrf', vhh')) (sz : Nat) : mC l yX12_bear wsX12_bear rm_X12_bear D (tyG G) kT [.ref ((Q 0) 0), .int a1, .int a2] (kMain Q vmn ++ kHouse G (Q 1) vho ++ kHouse G (Q 2) vdr ++ kHist Q vhi ++ kRef G (Q 6) vrf ++ kHH G Q vhh) (kMain Q vmn ++ kHouse G (Q 1) vho' ++ kHouse G (Q 2) vdr' ++ kHist Q vhi' ++ kRef G (Q 6) vrf' ++ kHH G Q vhh') sz (some (.int r)) 0 0 := by
  refine mC_ofI (cc := cX12_bear) (maxL := 3) (ret := (some .int)) (by decide) rfl rfl (Nat.le_of_ble_eq_true rfl) ?_
  intro p e s m args below meth c Q0 hx hb hml hts hown hN hK A hD hA hE hP hS hJ ls hl
  have hl : lv_has ls 3 [(0, .ref ((Q 0) 0)), (1, .int a1), (2, .int a2)] := hl
  unfold f_X12_bear at hf
  have hi10 : ∀ w ∈ u_ws RX12 TX12 11, w ∈ wsX12_bear := by decide +kernel
  have hw1 := hts (.fieldLink RX12 16 "BalconyCensus" "draft" "LBalconyCensus$House;") (by decide +kernel)
  have hw2 := hts (.fieldLink RX12 12 "BalconyCensus" "house" "LBalconyCensus$House;") (by decide +kernel)
  have hw3 := hts (.fieldLink RX12 43 "BalconyCensus" "refusal" "LBalconyCensus$Refusal;") (by decide +kernel)
  refine lv_aload_n hx hb dX12_bear_0 rfl (lv_at hl 0 rfl) ?_
  refine va_get (D := D) (ci := 10) (v := .ref (Q 2 0)) (C := RX12) (T := TX12) (N := 11) hx hb hts hi10 hown hK hP 0 rfl rfl 1 (by decide) hw1 (fun _ h9 => h9) rfl dX12_bear_1 ?_
  refine lv_aload_n hx hb dX12_bear_4 rfl (lv_at hl 0 rfl) ?_
  refine va_get (D := D) (ci := 10) (v := .ref (Q 1 0)) (C := RX12) (T := TX12) (N := 11) hx hb hts hi10 hown hK hP 0 rfl rfl 0 (by decide) hw2 (fun _ h9 => h9) rfl dX12_bear_5 ?_
  obtain ⟨w_1, hc, hf⟩ := bd1_of hf
  have hPb : va_P D vwCl ((kMain Q vmn ++ kHist Q vhi ++ kRef G (Q 6) vrf ++ kHH G Q vhh) ++ (kHouse G (Q 2) vdr ++ kHouse G (Q 1) vho)) s.heap := by simp only [pP_app] at hP ⊢; simp only [hP, and_self]
  have hDb : va_D A ((kMain Q vmn ++ kHist Q vhi ++ kRef G (Q 6) vrf ++ kHH G Q vhh) ++ (kHouse G (Q 2) vdr ++ kHouse G (Q 1) vho)) := by simp only [pD_app, Dj_l, Dj_r] at hD ⊢; simp only [hD, and_self]
  refine k_VB (As := [.ref ((Q 1) 0)]) (rest := []) ⟨hx, hb, hml, hown, hts⟩ (c_X6_take l D G (Q 2) (Q 1)  vdr vho _ hc  _) (cwV 1 hts gX12_bear_X6_take rfl rfl rfl (by decide +kernel) ⟨Nat.le_of_ble_eq_true rfl, Nat.le_of_ble_eq_true rfl⟩) hl.1 (Nat.le_of_ble_eq_true rfl) dX12_bear_8 ⟨Nat.le_of_ble_eq_true rfl, Nat.le_of_ble_eq_true rfl⟩ rfl kT_bl (fun _ _ _ => trivial) hN hK hPb hDb hS hA 0 4 rfl rfl rfl [0, 1, 2, 3] rfl (fun H locs hP hD hS => ?_)
  have hP : va_P D vwCl (kMain Q vmn ++ kHouse G (Q 1) vho ++ kHouse G (Q 2) w_1 ++ kHist Q vhi ++ kRef G (Q 6) vrf ++ kHH G Q vhh) H := by simp only [pP_app] at hP ⊢; simp only [hP, and_self]
  have hD : va_D A (kMain Q vmn ++ kHouse G (Q 1) vho ++ kHouse G (Q 2) w_1 ++ kHist Q vhi ++ kRef G (Q 6) vrf ++ kHH G Q vhh) := by simp only [pD_app, Dj_l, Dj_r] at hD ⊢; simp only [hD, and_self]
  refine lv_aload_n hx hb dX12_bear_11 rfl (lv_at hl 0 rfl) ?_
  refine lv_aload_n hx hb dX12_bear_12 rfl (lv_at hl 0 rfl) ?_
  refine va_get (D := D) (ci := 10) (v := .ref (Q 2 0)) (C := RX12) (T := TX12) (N := 11) hx hb hts hi10 hown hK hP 0 rfl rfl 1 (by decide) hw1 (fun _ h9 => h9) rfl dX12_bear_13 ?_
  refine lv_iload_n hx hb dX12_bear_16 rfl (lv_at hl 1 rfl) ?_
  refine lv_iload_n hx hb dX12_bear_17 rfl (lv_at hl 2 rfl) ?_
  refine lv_aload_n hx hb dX12_bear_18 rfl (lv_at hl 0 rfl) ?_
  refine va_get (D := D) (ci := 10) (v := .ref (Q 6 0)) (C := RX12) (T := TX12) (N := 11) hx hb hts hi10 hown hK hP 0 rfl rfl 6 (by decide) hw3 (fun _ h9 => h9) rfl dX12_bear_19 ?_
  obtain ⟨r_2, w_3, w_4, hc, hf⟩ := bd3_of hf
  have hPb : va_P D vwCl ((kMain Q vmn ++ kHouse G (Q 1) vho ++ kHist Q vhi ++ kHH G Q vhh) ++ (kHouse G (Q 2) w_1 ++ kRef G (Q 6) vrf)) H := by simp only [pP_app] at hP ⊢; simp only [hP, and_self]
  have hDb : va_D A ((kMain Q vmn ++ kHouse G (Q 1) vho ++ kHist Q vhi ++ kHH G Q vhh) ++ (kHouse G (Q 2) w_1 ++ kRef G (Q 6) vrf)) := by simp only [pD_app, Dj_l, Dj_r] at hD ⊢; simp only [hD, and_self]
  refine k_VB (As := [.int a1, .int a2, .ref ((Q 6) 0)]) (rest := [.ref ((Q 0) 0)]) ⟨hx, hb, hml, hown, hts⟩ (c_X6_changeTolerance l D G (Q 2) (Q 6) a1 a2 w_1 vrf _ _ _ hc  _) (cwV 3 hts gX12_bear_X6_changeTolerance rfl rfl rfl (by decide +kernel) ⟨Nat.le_of_ble_eq_true rfl, Nat.le_of_ble_eq_true rfl⟩) hl.1 (Nat.le_of_ble_eq_true rfl) dX12_bear_22 ⟨Nat.le_of_ble_eq_true rfl, Nat.le_of_ble_eq_true rfl⟩ rfl kT_bl (fun _ _ _ => trivial) hN hK hPb hDb hS hA 0 4 rfl rfl rfl [0, 1, 2, 3] rfl (fun H locs hP hD hS => ?_)
  have hP : va_P D vwCl (kMain Q vmn ++ kHouse G (Q 1) vho ++ kHouse G (Q 2) w_3 ++ kHist Q vhi ++ kRef G (Q 6) w_4 ++ kHH G Q vhh) H := by simp only [pP_app] at hP ⊢; simp only [hP, and_self]
  have hD : va_D A (kMain Q vmn ++ kHouse G (Q 1) vho ++ kHouse G (Q 2) w_3 ++ kHist Q vhi ++ kRef G (Q 6) w_4 ++ kHH G Q vhh) := by simp only [pD_app, Dj_l, Dj_r] at hD ⊢; simp only [hD, and_self]
  obtain ⟨r_5, w_6, w_7, w_8, hc, hf⟩ := bd4_of hf
  have hPb : va_P D vwCl ((kRef G (Q 6) w_4) ++ (kMain Q vmn ++ kHouse G (Q 1) vho ++ kHouse G (Q 2) w_3 ++ kHist Q vhi ++ kHH G Q vhh)) H := by simp only [pP_app] at hP ⊢; simp only [hP, and_self]
  have hDb : va_D A ((kRef G (Q 6) w_4) ++ (kMain Q vmn ++ kHouse G (Q 1) vho ++ kHouse G (Q 2) w_3 ++ kHist Q vhi ++ kHH G Q vhh)) := by simp only [pD_app, Dj_l, Dj_r] at hD ⊢; simp only [hD, and_self]
  refine k_VB (As := [.int r_2]) (rest := []) ⟨hx, hb, hml, hown, hts⟩ (c_X12_settle l D G Q r_2 vmn vho w_3 vhi vhh _ _ _ _ hc  _) (cwV 1 hts gX12_bear_X12_settle rfl rfl rfl (by decide +kernel) ⟨Nat.le_of_ble_eq_true rfl, Nat.le_of_ble_eq_true rfl⟩) hl.1 (Nat.le_of_ble_eq_true rfl) dX12_bear_25 ⟨Nat.le_of_ble_eq_true rfl, Nat.le_of_ble_eq_true rfl⟩ rfl kT_bl (fun _ _ _ => trivial) hN hK hPb hDb hS hA 0 10 rfl rfl rfl [0, 1, 2, 3] rfl (fun H locs hP hD hS => ?_)
  have hP : va_P D vwCl (kMain Q vmn ++ kHouse G (Q 1) w_6 ++ kHouse G (Q 2) w_3 ++ kHist Q w_7 ++ kRef G (Q 6) w_4 ++ kHH G Q w_8) H := by simp only [pP_app] at hP ⊢; simp only [hP, and_self]
  have hD : va_D A (kMain Q vmn ++ kHouse G (Q 1) w_6 ++ kHouse G (Q 2) w_3 ++ kHist Q w_7 ++ kRef G (Q 6) w_4 ++ kHH G Q w_8) := by simp only [pD_app, Dj_l, Dj_r] at hD ⊢; simp only [hD, and_self]
  obtain ⟨rfl, rfl, rfl, rfl, rfl, rfl⟩ := re6 hf
  exact hE hP hD hS dX12_bear_28
def f_X12_hang (a1 : Int32) (a2 : Int32) (a3 : Int32) (vmn : SV) (vho : SV) (vdr : SV) (vhi : SV) (vrf : SV) (vhh : (Nat → SV)) : Option (Int32 × SV × SV × SV × SV × (Nat → SV)) :=
  bd1 (f_X6_take vdr vho) fun w_1 =>
  bd3 (f_X6_hangLine a1 a2 a3 w_1 vrf) fun r_2 w_3 w_4 =>
  bd4 (f_X12_settle r_2 vmn vho w_3 vhi vhh) fun r_5 w_6 w_7 w_8 =>
  some (r_5, w_6, w_3, w_7, w_4, w_8)
abbrev rm_X12_hang : Room := { frames := 5, cells := 0, slots := 0, locals := 102 }
set_option maxHeartbeats 4000000 in
set_option maxRecDepth 100000 in
theorem c_X12_hang (l : Launch) (D : va_G) (G : Nat → ClassId) (Q : Nat → Nat → Nat) (a1 : Int32) (a2 : Int32) (a3 : Int32) (vmn : SV) (vho : SV) (vdr : SV) (vhi : SV) (vrf : SV) (vhh : (Nat → SV)) (r : Int32) (vho' : SV) (vdr' : SV) (vhi' : SV) (vrf' : SV) (vhh' : (Nat → SV)) (hf : f_X12_hang a1 a2 a3 vmn vho vdr vhi vrf vhh = some (r, vho', vdr', vhi', vrf', vhh')) (sz : Nat) : mC l yX12_hang wsX12_hang rm_X12_hang D (tyG G) kT [.ref ((Q 0) 0), .int a1, .int a2, .int a3] (kMain Q vmn ++ kHouse G (Q 1) vho ++ kHouse G (Q 2) vdr ++ kHist Q vhi ++ kRef G (Q 6) vrf ++ kHH G Q vhh) (kMain Q vmn ++ kHouse G (Q 1) vho' ++ kHouse G (Q 2) vdr' ++ kHist Q vhi' ++ kRef G (Q 6) vrf' ++ kHH G Q vhh') sz (some (.int r)) 0 0 := by
  refine mC_ofI (cc := cX12_hang) (maxL := 4) (ret := (some .int)) (by decide) rfl rfl (Nat.le_of_ble_eq_true rfl) ?_
  intro p e s m args below meth c Q0 hx hb hml hts hown hN hK A hD hA hE hP hS hJ ls hl
  have hl : lv_has ls 4 [(0, .ref ((Q 0) 0)), (1, .int a1), (2, .int a2), (3, .int a3)] := hl
  unfold f_X12_hang at hf
  have hi10 : ∀ w ∈ u_ws RX12 TX12 11, w ∈ wsX12_hang := by decide +kernel
  have hw1 := hts (.fieldLink RX12 16 "BalconyCensus" "draft" "LBalconyCensus$House;") (by decide +kernel)
  have hw2 := hts (.fieldLink RX12 12 "BalconyCensus" "house" "LBalconyCensus$House;") (by decide +kernel)
  have hw3 := hts (.fieldLink RX12 43 "BalconyCensus" "refusal" "LBalconyCensus$Refusal;") (by decide +kernel)
  refine lv_aload_n hx hb dX12_hang_0 rfl (lv_at hl 0 rfl) ?_
  refine va_get (D := D) (ci := 10) (v := .ref (Q 2 0)) (C := RX12) (T := TX12) (N := 11) hx hb hts hi10 hown hK hP 0 rfl rfl 1 (by decide) hw1 (fun _ h9 => h9) rfl dX12_hang_1 ?_
  refine lv_aload_n hx hb dX12_hang_4 rfl (lv_at hl 0 rfl) ?_
  refine va_get (D := D) (ci := 10) (v := .ref (Q 1 0)) (C := RX12) (T := TX12) (N := 11) hx hb hts hi10 hown hK hP 0 rfl rfl 0 (by decide) hw2 (fun _ h9 => h9) rfl dX12_hang_5 ?_
  obtain ⟨w_1, hc, hf⟩ := bd1_of hf
  have hPb : va_P D vwCl ((kMain Q vmn ++ kHist Q vhi ++ kRef G (Q 6) vrf ++ kHH G Q vhh) ++ (kHouse G (Q 2) vdr ++ kHouse G (Q 1) vho)) s.heap := by simp only [pP_app] at hP ⊢; simp only [hP, and_self]
  have hDb : va_D A ((kMain Q vmn ++ kHist Q vhi ++ kRef G (Q 6) vrf ++ kHH G Q vhh) ++ (kHouse G (Q 2) vdr ++ kHouse G (Q 1) vho)) := by simp only [pD_app, Dj_l, Dj_r] at hD ⊢; simp only [hD, and_self]
  refine k_VB (As := [.ref ((Q 1) 0)]) (rest := []) ⟨hx, hb, hml, hown, hts⟩ (c_X6_take l D G (Q 2) (Q 1)  vdr vho _ hc  _) (cwV 1 hts gX12_hang_X6_take rfl rfl rfl (by decide +kernel) ⟨Nat.le_of_ble_eq_true rfl, Nat.le_of_ble_eq_true rfl⟩) hl.1 (Nat.le_of_ble_eq_true rfl) dX12_hang_8 ⟨Nat.le_of_ble_eq_true rfl, Nat.le_of_ble_eq_true rfl⟩ rfl kT_bl (fun _ _ _ => trivial) hN hK hPb hDb hS hA 0 4 rfl rfl rfl [0, 1, 2, 3] rfl (fun H locs hP hD hS => ?_)
  have hP : va_P D vwCl (kMain Q vmn ++ kHouse G (Q 1) vho ++ kHouse G (Q 2) w_1 ++ kHist Q vhi ++ kRef G (Q 6) vrf ++ kHH G Q vhh) H := by simp only [pP_app] at hP ⊢; simp only [hP, and_self]
  have hD : va_D A (kMain Q vmn ++ kHouse G (Q 1) vho ++ kHouse G (Q 2) w_1 ++ kHist Q vhi ++ kRef G (Q 6) vrf ++ kHH G Q vhh) := by simp only [pD_app, Dj_l, Dj_r] at hD ⊢; simp only [hD, and_self]
  refine lv_aload_n hx hb dX12_hang_11 rfl (lv_at hl 0 rfl) ?_
  refine lv_aload_n hx hb dX12_hang_12 rfl (lv_at hl 0 rfl) ?_
  refine va_get (D := D) (ci := 10) (v := .ref (Q 2 0)) (C := RX12) (T := TX12) (N := 11) hx hb hts hi10 hown hK hP 0 rfl rfl 1 (by decide) hw1 (fun _ h9 => h9) rfl dX12_hang_13 ?_
  refine lv_iload_n hx hb dX12_hang_16 rfl (lv_at hl 1 rfl) ?_
  refine lv_iload_n hx hb dX12_hang_17 rfl (lv_at hl 2 rfl) ?_
  refine lv_iload_n hx hb dX12_hang_18 rfl (lv_at hl 3 rfl) ?_
  refine lv_aload_n hx hb dX12_hang_19 rfl (lv_at hl 0 rfl) ?_
  refine va_get (D := D) (ci := 10) (v := .ref (Q 6 0)) (C := RX12) (T := TX12) (N := 11) hx hb hts hi10 hown hK hP 0 rfl rfl 6 (by decide) hw3 (fun _ h9 => h9) rfl dX12_hang_20 ?_
  obtain ⟨r_2, w_3, w_4, hc, hf⟩ := bd3_of hf
  have hPb : va_P D vwCl ((kMain Q vmn ++ kHouse G (Q 1) vho ++ kHist Q vhi ++ kHH G Q vhh) ++ (kHouse G (Q 2) w_1 ++ kRef G (Q 6) vrf)) H := by simp only [pP_app] at hP ⊢; simp only [hP, and_self]
  have hDb : va_D A ((kMain Q vmn ++ kHouse G (Q 1) vho ++ kHist Q vhi ++ kHH G Q vhh) ++ (kHouse G (Q 2) w_1 ++ kRef G (Q 6) vrf)) := by simp only [pD_app, Dj_l, Dj_r] at hD ⊢; simp only [hD, and_self]
  refine k_VB (As := [.int a1, .int a2, .int a3, .ref ((Q 6) 0)]) (rest := [.ref ((Q 0) 0)]) ⟨hx, hb, hml, hown, hts⟩ (c_X6_hangLine l D G (Q 2) (Q 6) a1 a2 a3 w_1 vrf _ _ _ hc  _) (cwV 4 hts gX12_hang_X6_hangLine rfl rfl rfl (by decide +kernel) ⟨Nat.le_of_ble_eq_true rfl, Nat.le_of_ble_eq_true rfl⟩) hl.1 (Nat.le_of_ble_eq_true rfl) dX12_hang_23 ⟨Nat.le_of_ble_eq_true rfl, Nat.le_of_ble_eq_true rfl⟩ rfl kT_bl (fun _ _ _ => trivial) hN hK hPb hDb hS hA 0 4 rfl rfl rfl [0, 1, 2, 3] rfl (fun H locs hP hD hS => ?_)
  have hP : va_P D vwCl (kMain Q vmn ++ kHouse G (Q 1) vho ++ kHouse G (Q 2) w_3 ++ kHist Q vhi ++ kRef G (Q 6) w_4 ++ kHH G Q vhh) H := by simp only [pP_app] at hP ⊢; simp only [hP, and_self]
  have hD : va_D A (kMain Q vmn ++ kHouse G (Q 1) vho ++ kHouse G (Q 2) w_3 ++ kHist Q vhi ++ kRef G (Q 6) w_4 ++ kHH G Q vhh) := by simp only [pD_app, Dj_l, Dj_r] at hD ⊢; simp only [hD, and_self]
  obtain ⟨r_5, w_6, w_7, w_8, hc, hf⟩ := bd4_of hf
  have hPb : va_P D vwCl ((kRef G (Q 6) w_4) ++ (kMain Q vmn ++ kHouse G (Q 1) vho ++ kHouse G (Q 2) w_3 ++ kHist Q vhi ++ kHH G Q vhh)) H := by simp only [pP_app] at hP ⊢; simp only [hP, and_self]
  have hDb : va_D A ((kRef G (Q 6) w_4) ++ (kMain Q vmn ++ kHouse G (Q 1) vho ++ kHouse G (Q 2) w_3 ++ kHist Q vhi ++ kHH G Q vhh)) := by simp only [pD_app, Dj_l, Dj_r] at hD ⊢; simp only [hD, and_self]
  refine k_VB (As := [.int r_2]) (rest := []) ⟨hx, hb, hml, hown, hts⟩ (c_X12_settle l D G Q r_2 vmn vho w_3 vhi vhh _ _ _ _ hc  _) (cwV 1 hts gX12_hang_X12_settle rfl rfl rfl (by decide +kernel) ⟨Nat.le_of_ble_eq_true rfl, Nat.le_of_ble_eq_true rfl⟩) hl.1 (Nat.le_of_ble_eq_true rfl) dX12_hang_26 ⟨Nat.le_of_ble_eq_true rfl, Nat.le_of_ble_eq_true rfl⟩ rfl kT_bl (fun _ _ _ => trivial) hN hK hPb hDb hS hA 0 10 rfl rfl rfl [0, 1, 2, 3] rfl (fun H locs hP hD hS => ?_)
  have hP : va_P D vwCl (kMain Q vmn ++ kHouse G (Q 1) w_6 ++ kHouse G (Q 2) w_3 ++ kHist Q w_7 ++ kRef G (Q 6) w_4 ++ kHH G Q w_8) H := by simp only [pP_app] at hP ⊢; simp only [hP, and_self]
  have hD : va_D A (kMain Q vmn ++ kHouse G (Q 1) w_6 ++ kHouse G (Q 2) w_3 ++ kHist Q w_7 ++ kRef G (Q 6) w_4 ++ kHH G Q w_8) := by simp only [pD_app, Dj_l, Dj_r] at hD ⊢; simp only [hD, and_self]
  obtain ⟨rfl, rfl, rfl, rfl, rfl, rfl⟩ := re6 hf
  exact hE hP hD hS dX12_hang_29
def f_X12_greet (a1 : Int32) (a2 : Int32) (vmn : SV) (vho : SV) (vdr : SV) (vhi : SV) (vrf : SV) (vhh : (Nat → SV)) : Option (Int32 × SV × SV × SV × SV × (Nat → SV)) :=
  bd1 (f_X6_take vdr vho) fun w_1 =>
  bd3 (f_X6_letGreet a1 a2 w_1 vrf) fun r_2 w_3 w_4 =>
  bd4 (f_X12_settle r_2 vmn vho w_3 vhi vhh) fun r_5 w_6 w_7 w_8 =>
  some (r_5, w_6, w_3, w_7, w_4, w_8)
abbrev rm_X12_greet : Room := { frames := 5, cells := 0, slots := 0, locals := 102 }
set_option maxHeartbeats 4000000 in
set_option maxRecDepth 100000 in
theorem c_X12_greet (l : Launch) (D : va_G) (G : Nat → ClassId) (Q : Nat → Nat → Nat) (a1 : Int32) (a2 : Int32) (vmn : SV) (vho : SV) (vdr : SV) (vhi : SV) (vrf : SV) (vhh : (Nat → SV)) (r : Int32) (vho' : SV) (vdr' : SV) (vhi' : SV) (vrf' : SV) (vhh' : (Nat → SV)) (hf : f_X12_greet a1 a2 vmn vho vdr vhi vrf vhh = some (r, vho', vdr', vhi', vrf', vhh')) (sz : Nat) : mC l yX12_greet wsX12_greet rm_X12_greet D (tyG G) kT [.ref ((Q 0) 0), .int a1, .int a2] (kMain Q vmn ++ kHouse G (Q 1) vho ++ kHouse G (Q 2) vdr ++ kHist Q vhi ++ kRef G (Q 6) vrf ++ kHH G Q vhh) (kMain Q vmn ++ kHouse G (Q 1) vho' ++ kHouse G (Q 2) vdr' ++ kHist Q vhi' ++ kRef G (Q 6) vrf' ++ kHH G Q vhh') sz (some (.int r)) 0 0 := by
  refine mC_ofI (cc := cX12_greet) (maxL := 3) (ret := (some .int)) (by decide) rfl rfl (Nat.le_of_ble_eq_true rfl) ?_
  intro p e s m args below meth c Q0 hx hb hml hts hown hN hK A hD hA hE hP hS hJ ls hl
  have hl : lv_has ls 3 [(0, .ref ((Q 0) 0)), (1, .int a1), (2, .int a2)] := hl
  unfold f_X12_greet at hf
  have hi10 : ∀ w ∈ u_ws RX12 TX12 11, w ∈ wsX12_greet := by decide +kernel
  have hw1 := hts (.fieldLink RX12 16 "BalconyCensus" "draft" "LBalconyCensus$House;") (by decide +kernel)
  have hw2 := hts (.fieldLink RX12 12 "BalconyCensus" "house" "LBalconyCensus$House;") (by decide +kernel)
  have hw3 := hts (.fieldLink RX12 43 "BalconyCensus" "refusal" "LBalconyCensus$Refusal;") (by decide +kernel)
  refine lv_aload_n hx hb dX12_greet_0 rfl (lv_at hl 0 rfl) ?_
  refine va_get (D := D) (ci := 10) (v := .ref (Q 2 0)) (C := RX12) (T := TX12) (N := 11) hx hb hts hi10 hown hK hP 0 rfl rfl 1 (by decide) hw1 (fun _ h9 => h9) rfl dX12_greet_1 ?_
  refine lv_aload_n hx hb dX12_greet_4 rfl (lv_at hl 0 rfl) ?_
  refine va_get (D := D) (ci := 10) (v := .ref (Q 1 0)) (C := RX12) (T := TX12) (N := 11) hx hb hts hi10 hown hK hP 0 rfl rfl 0 (by decide) hw2 (fun _ h9 => h9) rfl dX12_greet_5 ?_
  obtain ⟨w_1, hc, hf⟩ := bd1_of hf
  have hPb : va_P D vwCl ((kMain Q vmn ++ kHist Q vhi ++ kRef G (Q 6) vrf ++ kHH G Q vhh) ++ (kHouse G (Q 2) vdr ++ kHouse G (Q 1) vho)) s.heap := by simp only [pP_app] at hP ⊢; simp only [hP, and_self]
  have hDb : va_D A ((kMain Q vmn ++ kHist Q vhi ++ kRef G (Q 6) vrf ++ kHH G Q vhh) ++ (kHouse G (Q 2) vdr ++ kHouse G (Q 1) vho)) := by simp only [pD_app, Dj_l, Dj_r] at hD ⊢; simp only [hD, and_self]
  refine k_VB (As := [.ref ((Q 1) 0)]) (rest := []) ⟨hx, hb, hml, hown, hts⟩ (c_X6_take l D G (Q 2) (Q 1)  vdr vho _ hc  _) (cwV 1 hts gX12_greet_X6_take rfl rfl rfl (by decide +kernel) ⟨Nat.le_of_ble_eq_true rfl, Nat.le_of_ble_eq_true rfl⟩) hl.1 (Nat.le_of_ble_eq_true rfl) dX12_greet_8 ⟨Nat.le_of_ble_eq_true rfl, Nat.le_of_ble_eq_true rfl⟩ rfl kT_bl (fun _ _ _ => trivial) hN hK hPb hDb hS hA 0 4 rfl rfl rfl [0, 1, 2, 3] rfl (fun H locs hP hD hS => ?_)
  have hP : va_P D vwCl (kMain Q vmn ++ kHouse G (Q 1) vho ++ kHouse G (Q 2) w_1 ++ kHist Q vhi ++ kRef G (Q 6) vrf ++ kHH G Q vhh) H := by simp only [pP_app] at hP ⊢; simp only [hP, and_self]
  have hD : va_D A (kMain Q vmn ++ kHouse G (Q 1) vho ++ kHouse G (Q 2) w_1 ++ kHist Q vhi ++ kRef G (Q 6) vrf ++ kHH G Q vhh) := by simp only [pD_app, Dj_l, Dj_r] at hD ⊢; simp only [hD, and_self]
  refine lv_aload_n hx hb dX12_greet_11 rfl (lv_at hl 0 rfl) ?_
  refine lv_aload_n hx hb dX12_greet_12 rfl (lv_at hl 0 rfl) ?_
  refine va_get (D := D) (ci := 10) (v := .ref (Q 2 0)) (C := RX12) (T := TX12) (N := 11) hx hb hts hi10 hown hK hP 0 rfl rfl 1 (by decide) hw1 (fun _ h9 => h9) rfl dX12_greet_13 ?_
  refine lv_iload_n hx hb dX12_greet_16 rfl (lv_at hl 1 rfl) ?_
  refine lv_iload_n hx hb dX12_greet_17 rfl (lv_at hl 2 rfl) ?_
  refine lv_aload_n hx hb dX12_greet_18 rfl (lv_at hl 0 rfl) ?_
  refine va_get (D := D) (ci := 10) (v := .ref (Q 6 0)) (C := RX12) (T := TX12) (N := 11) hx hb hts hi10 hown hK hP 0 rfl rfl 6 (by decide) hw3 (fun _ h9 => h9) rfl dX12_greet_19 ?_
  obtain ⟨r_2, w_3, w_4, hc, hf⟩ := bd3_of hf
  have hPb : va_P D vwCl ((kMain Q vmn ++ kHouse G (Q 1) vho ++ kHist Q vhi ++ kHH G Q vhh) ++ (kHouse G (Q 2) w_1 ++ kRef G (Q 6) vrf)) H := by simp only [pP_app] at hP ⊢; simp only [hP, and_self]
  have hDb : va_D A ((kMain Q vmn ++ kHouse G (Q 1) vho ++ kHist Q vhi ++ kHH G Q vhh) ++ (kHouse G (Q 2) w_1 ++ kRef G (Q 6) vrf)) := by simp only [pD_app, Dj_l, Dj_r] at hD ⊢; simp only [hD, and_self]
  refine k_VB (As := [.int a1, .int a2, .ref ((Q 6) 0)]) (rest := [.ref ((Q 0) 0)]) ⟨hx, hb, hml, hown, hts⟩ (c_X6_letGreet l D G (Q 2) (Q 6) a1 a2 w_1 vrf _ _ _ hc  _) (cwV 3 hts gX12_greet_X6_letGreet rfl rfl rfl (by decide +kernel) ⟨Nat.le_of_ble_eq_true rfl, Nat.le_of_ble_eq_true rfl⟩) hl.1 (Nat.le_of_ble_eq_true rfl) dX12_greet_22 ⟨Nat.le_of_ble_eq_true rfl, Nat.le_of_ble_eq_true rfl⟩ rfl kT_bl (fun _ _ _ => trivial) hN hK hPb hDb hS hA 0 4 rfl rfl rfl [0, 1, 2, 3] rfl (fun H locs hP hD hS => ?_)
  have hP : va_P D vwCl (kMain Q vmn ++ kHouse G (Q 1) vho ++ kHouse G (Q 2) w_3 ++ kHist Q vhi ++ kRef G (Q 6) w_4 ++ kHH G Q vhh) H := by simp only [pP_app] at hP ⊢; simp only [hP, and_self]
  have hD : va_D A (kMain Q vmn ++ kHouse G (Q 1) vho ++ kHouse G (Q 2) w_3 ++ kHist Q vhi ++ kRef G (Q 6) w_4 ++ kHH G Q vhh) := by simp only [pD_app, Dj_l, Dj_r] at hD ⊢; simp only [hD, and_self]
  obtain ⟨r_5, w_6, w_7, w_8, hc, hf⟩ := bd4_of hf
  have hPb : va_P D vwCl ((kRef G (Q 6) w_4) ++ (kMain Q vmn ++ kHouse G (Q 1) vho ++ kHouse G (Q 2) w_3 ++ kHist Q vhi ++ kHH G Q vhh)) H := by simp only [pP_app] at hP ⊢; simp only [hP, and_self]
  have hDb : va_D A ((kRef G (Q 6) w_4) ++ (kMain Q vmn ++ kHouse G (Q 1) vho ++ kHouse G (Q 2) w_3 ++ kHist Q vhi ++ kHH G Q vhh)) := by simp only [pD_app, Dj_l, Dj_r] at hD ⊢; simp only [hD, and_self]
  refine k_VB (As := [.int r_2]) (rest := []) ⟨hx, hb, hml, hown, hts⟩ (c_X12_settle l D G Q r_2 vmn vho w_3 vhi vhh _ _ _ _ hc  _) (cwV 1 hts gX12_greet_X12_settle rfl rfl rfl (by decide +kernel) ⟨Nat.le_of_ble_eq_true rfl, Nat.le_of_ble_eq_true rfl⟩) hl.1 (Nat.le_of_ble_eq_true rfl) dX12_greet_25 ⟨Nat.le_of_ble_eq_true rfl, Nat.le_of_ble_eq_true rfl⟩ rfl kT_bl (fun _ _ _ => trivial) hN hK hPb hDb hS hA 0 10 rfl rfl rfl [0, 1, 2, 3] rfl (fun H locs hP hD hS => ?_)
  have hP : va_P D vwCl (kMain Q vmn ++ kHouse G (Q 1) w_6 ++ kHouse G (Q 2) w_3 ++ kHist Q w_7 ++ kRef G (Q 6) w_4 ++ kHH G Q w_8) H := by simp only [pP_app] at hP ⊢; simp only [hP, and_self]
  have hD : va_D A (kMain Q vmn ++ kHouse G (Q 1) w_6 ++ kHouse G (Q 2) w_3 ++ kHist Q w_7 ++ kRef G (Q 6) w_4 ++ kHH G Q w_8) := by simp only [pD_app, Dj_l, Dj_r] at hD ⊢; simp only [hD, and_self]
  obtain ⟨rfl, rfl, rfl, rfl, rfl, rfl⟩ := re6 hf
  exact hE hP hD hS dX12_greet_28
def f_X12_give (a1 : Int32) (a2 : Int32) (a3 : Int32) (vmn : SV) (vho : SV) (vdr : SV) (vhi : SV) (vrf : SV) (vhh : (Nat → SV)) : Option (Int32 × SV × SV × SV × SV × (Nat → SV)) :=
  bd1 (f_X6_take vdr vho) fun w_1 =>
  bd3 (f_X6_givePlants a1 a2 a3 w_1 vrf) fun r_2 w_3 w_4 =>
  bd4 (f_X12_settle r_2 vmn vho w_3 vhi vhh) fun r_5 w_6 w_7 w_8 =>
  some (r_5, w_6, w_3, w_7, w_4, w_8)
abbrev rm_X12_give : Room := { frames := 5, cells := 0, slots := 0, locals := 102 }
set_option maxHeartbeats 4000000 in
set_option maxRecDepth 100000 in
theorem c_X12_give (l : Launch) (D : va_G) (G : Nat → ClassId) (Q : Nat → Nat → Nat) (a1 : Int32) (a2 : Int32) (a3 : Int32) (vmn : SV) (vho : SV) (vdr : SV) (vhi : SV) (vrf : SV) (vhh : (Nat → SV)) (r : Int32) (vho' : SV) (vdr' : SV) (vhi' : SV) (vrf' : SV) (vhh' : (Nat → SV)) (hf : f_X12_give a1 a2 a3 vmn vho vdr vhi vrf vhh = some (r, vho', vdr', vhi', vrf', vhh')) (sz : Nat) : mC l yX12_give wsX12_give rm_X12_give D (tyG G) kT [.ref ((Q 0) 0), .int a1, .int a2, .int a3] (kMain Q vmn ++ kHouse G (Q 1) vho ++ kHouse G (Q 2) vdr ++ kHist Q vhi ++ kRef G (Q 6) vrf ++ kHH G Q vhh) (kMain Q vmn ++ kHouse G (Q 1) vho' ++ kHouse G (Q 2) vdr' ++ kHist Q vhi' ++ kRef G (Q 6) vrf' ++ kHH G Q vhh') sz (some (.int r)) 0 0 := by
  refine mC_ofI (cc := cX12_give) (maxL := 4) (ret := (some .int)) (by decide) rfl rfl (Nat.le_of_ble_eq_true rfl) ?_
  intro p e s m args below meth c Q0 hx hb hml hts hown hN hK A hD hA hE hP hS hJ ls hl
  have hl : lv_has ls 4 [(0, .ref ((Q 0) 0)), (1, .int a1), (2, .int a2), (3, .int a3)] := hl
  unfold f_X12_give at hf
  have hi10 : ∀ w ∈ u_ws RX12 TX12 11, w ∈ wsX12_give := by decide +kernel
  have hw1 := hts (.fieldLink RX12 16 "BalconyCensus" "draft" "LBalconyCensus$House;") (by decide +kernel)
  have hw2 := hts (.fieldLink RX12 12 "BalconyCensus" "house" "LBalconyCensus$House;") (by decide +kernel)
  have hw3 := hts (.fieldLink RX12 43 "BalconyCensus" "refusal" "LBalconyCensus$Refusal;") (by decide +kernel)
  refine lv_aload_n hx hb dX12_give_0 rfl (lv_at hl 0 rfl) ?_
  refine va_get (D := D) (ci := 10) (v := .ref (Q 2 0)) (C := RX12) (T := TX12) (N := 11) hx hb hts hi10 hown hK hP 0 rfl rfl 1 (by decide) hw1 (fun _ h9 => h9) rfl dX12_give_1 ?_
  refine lv_aload_n hx hb dX12_give_4 rfl (lv_at hl 0 rfl) ?_
  refine va_get (D := D) (ci := 10) (v := .ref (Q 1 0)) (C := RX12) (T := TX12) (N := 11) hx hb hts hi10 hown hK hP 0 rfl rfl 0 (by decide) hw2 (fun _ h9 => h9) rfl dX12_give_5 ?_
  obtain ⟨w_1, hc, hf⟩ := bd1_of hf
  have hPb : va_P D vwCl ((kMain Q vmn ++ kHist Q vhi ++ kRef G (Q 6) vrf ++ kHH G Q vhh) ++ (kHouse G (Q 2) vdr ++ kHouse G (Q 1) vho)) s.heap := by simp only [pP_app] at hP ⊢; simp only [hP, and_self]
  have hDb : va_D A ((kMain Q vmn ++ kHist Q vhi ++ kRef G (Q 6) vrf ++ kHH G Q vhh) ++ (kHouse G (Q 2) vdr ++ kHouse G (Q 1) vho)) := by simp only [pD_app, Dj_l, Dj_r] at hD ⊢; simp only [hD, and_self]
  refine k_VB (As := [.ref ((Q 1) 0)]) (rest := []) ⟨hx, hb, hml, hown, hts⟩ (c_X6_take l D G (Q 2) (Q 1)  vdr vho _ hc  _) (cwV 1 hts gX12_give_X6_take rfl rfl rfl (by decide +kernel) ⟨Nat.le_of_ble_eq_true rfl, Nat.le_of_ble_eq_true rfl⟩) hl.1 (Nat.le_of_ble_eq_true rfl) dX12_give_8 ⟨Nat.le_of_ble_eq_true rfl, Nat.le_of_ble_eq_true rfl⟩ rfl kT_bl (fun _ _ _ => trivial) hN hK hPb hDb hS hA 0 4 rfl rfl rfl [0, 1, 2, 3] rfl (fun H locs hP hD hS => ?_)
  have hP : va_P D vwCl (kMain Q vmn ++ kHouse G (Q 1) vho ++ kHouse G (Q 2) w_1 ++ kHist Q vhi ++ kRef G (Q 6) vrf ++ kHH G Q vhh) H := by simp only [pP_app] at hP ⊢; simp only [hP, and_self]
  have hD : va_D A (kMain Q vmn ++ kHouse G (Q 1) vho ++ kHouse G (Q 2) w_1 ++ kHist Q vhi ++ kRef G (Q 6) vrf ++ kHH G Q vhh) := by simp only [pD_app, Dj_l, Dj_r] at hD ⊢; simp only [hD, and_self]
  refine lv_aload_n hx hb dX12_give_11 rfl (lv_at hl 0 rfl) ?_
  refine lv_aload_n hx hb dX12_give_12 rfl (lv_at hl 0 rfl) ?_
  refine va_get (D := D) (ci := 10) (v := .ref (Q 2 0)) (C := RX12) (T := TX12) (N := 11) hx hb hts hi10 hown hK hP 0 rfl rfl 1 (by decide) hw1 (fun _ h9 => h9) rfl dX12_give_13 ?_
  refine lv_iload_n hx hb dX12_give_16 rfl (lv_at hl 1 rfl) ?_
  refine lv_iload_n hx hb dX12_give_17 rfl (lv_at hl 2 rfl) ?_
  refine lv_iload_n hx hb dX12_give_18 rfl (lv_at hl 3 rfl) ?_
  refine lv_aload_n hx hb dX12_give_19 rfl (lv_at hl 0 rfl) ?_
  refine va_get (D := D) (ci := 10) (v := .ref (Q 6 0)) (C := RX12) (T := TX12) (N := 11) hx hb hts hi10 hown hK hP 0 rfl rfl 6 (by decide) hw3 (fun _ h9 => h9) rfl dX12_give_20 ?_
  obtain ⟨r_2, w_3, w_4, hc, hf⟩ := bd3_of hf
  have hPb : va_P D vwCl ((kMain Q vmn ++ kHouse G (Q 1) vho ++ kHist Q vhi ++ kHH G Q vhh) ++ (kHouse G (Q 2) w_1 ++ kRef G (Q 6) vrf)) H := by simp only [pP_app] at hP ⊢; simp only [hP, and_self]
  have hDb : va_D A ((kMain Q vmn ++ kHouse G (Q 1) vho ++ kHist Q vhi ++ kHH G Q vhh) ++ (kHouse G (Q 2) w_1 ++ kRef G (Q 6) vrf)) := by simp only [pD_app, Dj_l, Dj_r] at hD ⊢; simp only [hD, and_self]
  refine k_VB (As := [.int a1, .int a2, .int a3, .ref ((Q 6) 0)]) (rest := [.ref ((Q 0) 0)]) ⟨hx, hb, hml, hown, hts⟩ (c_X6_givePlants l D G (Q 2) (Q 6) a1 a2 a3 w_1 vrf _ _ _ hc  _) (cwV 4 hts gX12_give_X6_givePlants rfl rfl rfl (by decide +kernel) ⟨Nat.le_of_ble_eq_true rfl, Nat.le_of_ble_eq_true rfl⟩) hl.1 (Nat.le_of_ble_eq_true rfl) dX12_give_23 ⟨Nat.le_of_ble_eq_true rfl, Nat.le_of_ble_eq_true rfl⟩ rfl kT_bl (fun _ _ _ => trivial) hN hK hPb hDb hS hA 0 4 rfl rfl rfl [0, 1, 2, 3] rfl (fun H locs hP hD hS => ?_)
  have hP : va_P D vwCl (kMain Q vmn ++ kHouse G (Q 1) vho ++ kHouse G (Q 2) w_3 ++ kHist Q vhi ++ kRef G (Q 6) w_4 ++ kHH G Q vhh) H := by simp only [pP_app] at hP ⊢; simp only [hP, and_self]
  have hD : va_D A (kMain Q vmn ++ kHouse G (Q 1) vho ++ kHouse G (Q 2) w_3 ++ kHist Q vhi ++ kRef G (Q 6) w_4 ++ kHH G Q vhh) := by simp only [pD_app, Dj_l, Dj_r] at hD ⊢; simp only [hD, and_self]
  obtain ⟨r_5, w_6, w_7, w_8, hc, hf⟩ := bd4_of hf
  have hPb : va_P D vwCl ((kRef G (Q 6) w_4) ++ (kMain Q vmn ++ kHouse G (Q 1) vho ++ kHouse G (Q 2) w_3 ++ kHist Q vhi ++ kHH G Q vhh)) H := by simp only [pP_app] at hP ⊢; simp only [hP, and_self]
  have hDb : va_D A ((kRef G (Q 6) w_4) ++ (kMain Q vmn ++ kHouse G (Q 1) vho ++ kHouse G (Q 2) w_3 ++ kHist Q vhi ++ kHH G Q vhh)) := by simp only [pD_app, Dj_l, Dj_r] at hD ⊢; simp only [hD, and_self]
  refine k_VB (As := [.int r_2]) (rest := []) ⟨hx, hb, hml, hown, hts⟩ (c_X12_settle l D G Q r_2 vmn vho w_3 vhi vhh _ _ _ _ hc  _) (cwV 1 hts gX12_give_X12_settle rfl rfl rfl (by decide +kernel) ⟨Nat.le_of_ble_eq_true rfl, Nat.le_of_ble_eq_true rfl⟩) hl.1 (Nat.le_of_ble_eq_true rfl) dX12_give_26 ⟨Nat.le_of_ble_eq_true rfl, Nat.le_of_ble_eq_true rfl⟩ rfl kT_bl (fun _ _ _ => trivial) hN hK hPb hDb hS hA 0 10 rfl rfl rfl [0, 1, 2, 3] rfl (fun H locs hP hD hS => ?_)
  have hP : va_P D vwCl (kMain Q vmn ++ kHouse G (Q 1) w_6 ++ kHouse G (Q 2) w_3 ++ kHist Q w_7 ++ kRef G (Q 6) w_4 ++ kHH G Q w_8) H := by simp only [pP_app] at hP ⊢; simp only [hP, and_self]
  have hD : va_D A (kMain Q vmn ++ kHouse G (Q 1) w_6 ++ kHouse G (Q 2) w_3 ++ kHist Q w_7 ++ kRef G (Q 6) w_4 ++ kHH G Q w_8) := by simp only [pD_app, Dj_l, Dj_r] at hD ⊢; simp only [hD, and_self]
  obtain ⟨rfl, rfl, rfl, rfl, rfl, rfl⟩ := re6 hf
  exact hE hP hD hS dX12_give_29
