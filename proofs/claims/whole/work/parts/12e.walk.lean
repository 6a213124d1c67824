/-! Walks, laid by wip/whole/gen.py: for each method f_ (what it does to its world) and c_ (its contract). -/
def f_X13_cat (a1 : Int32) (v0 : SV) : Option (Int32 × SV) :=
  bd1 (f_X13_begins v0) fun w_1 =>
  bd1 (f_X13_isBalcony a1) fun r_2 =>
  if r_2 = 0 then
    some ((-1), w_1)
  else
    bd2 (f_X13_isRefusedCat a1 w_1) fun r_3 w_4 =>
    if r_3 = 0 then
      bd2 (f_X13_comes a1 w_4) fun r_5 w_6 =>
      bd2 (f_X13_keeps r_5 w_6) fun r_7 w_8 =>
      some (r_7, w_8)
    else
      bd2 (f_X13_refused w_4) fun r_9 w_10 =>
      some (r_9, w_10)
abbrev rm_X13_cat : Room := { frames := 3, cells := 0, slots := 0, locals := 65 }
set_option maxHeartbeats 4000000 in
set_option maxRecDepth 100000 in
theorem c_X13_cat (l : Launch) (D : va_G) (G : Nat → ClassId) (q0 : Nat → Nat) (a1 : Int32) (v0 : SV) (r : Int32) (v0' : SV) (hf : f_X13_cat a1 v0 = some (r, v0')) (sz : Nat) : mC l yX13_cat wsX13_cat rm_X13_cat D (tyG G) kT [.ref (q0 0), .int a1] (kModel G q0 v0) (kModel G q0 v0') sz (some (.int r)) 0 0 := by
  refine mC_ofI (cc := cX13_cat) (maxL := 2) (ret := (some .int)) (by decide) rfl rfl (Nat.le_of_ble_eq_true rfl) ?_
  intro p e s m args below meth c Q0 hx hb hml hts hown hN hK A hD hA hE hP hS hJ ls hl
  have hl : lv_has ls 2 [(0, .ref (q0 0)), (1, .int a1)] := hl
  unfold f_X13_cat at hf
  refine lv_aload_n hx hb dX13_cat_0 rfl (lv_at hl 0 rfl) ?_
  obtain ⟨w_1, hc, hf⟩ := bd1_of hf
  refine k_V (As := []) (rest := []) (ws1 := (kModel G q0 w_1)) ⟨hx, hb, hml, hown, hts⟩ (c_X13_begins l D G q0  v0 _ hc  _) (cwV 0 hts gX13_cat_X13_begins rfl rfl rfl (by decide +kernel) ⟨Nat.le_of_ble_eq_true rfl, Nat.le_of_ble_eq_true rfl⟩) hl.1 (Nat.le_of_ble_eq_true rfl) dX13_cat_1 ⟨Nat.le_of_ble_eq_true rfl, Nat.le_of_ble_eq_true rfl⟩ rfl kT_bl (fun _ _ _ => trivial) hN hK hP hD hS hA 0 11 rfl rfl rfl [0, 1, 2, 3, 4, 5, 6, 7, 8, 9, 10, 11] [] [0, 1, 2, 3, 4, 5, 6, 7, 8, 9, 10, 11] [0, 1, 2, 3] rfl rfl rfl ⟨by decide, by decide, by decide, by decide⟩ rfl (fun H locs hP hD hS => ?_)
  refine lv_iload_n hx hb dX13_cat_4 rfl (lv_at hl 1 rfl) ?_
  obtain ⟨r_2, hc, hf⟩ := bd1_of hf
  refine k_S (As := [.int a1]) (rest := []) (ws1 := (kModel G q0 w_1)) ⟨hx, hb, hml, hown, hts⟩ (c_X13_isBalcony l D G  a1  _ hc  _) (va_cwS 1 hts gX13_cat_X13_isBalcony rfl rfl rfl (by decide +kernel) ⟨Nat.le_of_ble_eq_true rfl, Nat.le_of_ble_eq_true rfl⟩) hl.1 (Nat.le_of_ble_eq_true rfl) dX13_cat_5 ⟨Nat.le_of_ble_eq_true rfl, Nat.le_of_ble_eq_true rfl⟩ rfl kT_bl (fun _ _ _ => trivial) hN hK hP hD hS hA [] [0, 1, 2, 3, 4, 5, 6, 7, 8, 9, 10, 11] [0, 1, 2, 3, 4, 5, 6, 7, 8, 9, 10, 11] [0, 1, 2, 3] rfl rfl rfl ⟨by decide, by decide, by decide, by decide⟩ rfl (fun H locs hP hD hS => ?_)
  refine lv_if_ne (tgt := 13) hx hb dX13_cat_8 (by decide) (fun cc => ?_) (fun cc => ?_)
  · replace hf := ifF cc hf
    refine lv_aload_n hx hb dX13_cat_13 rfl (lv_at hl 0 rfl) ?_
    refine lv_iload_n hx hb dX13_cat_14 rfl (lv_at hl 1 rfl) ?_
    obtain ⟨r_3, w_4, hc, hf⟩ := bd2_of hf
    refine k_V (As := [.int a1]) (rest := []) (ws1 := (kModel G q0 w_4)) ⟨hx, hb, hml, hown, hts⟩ (c_X13_isRefusedCat l D G q0 a1 w_1 _ _ hc  _) (cwV 1 hts gX13_cat_X13_isRefusedCat rfl rfl rfl (by decide +kernel) ⟨Nat.le_of_ble_eq_true rfl, Nat.le_of_ble_eq_true rfl⟩) hl.1 (Nat.le_of_ble_eq_true rfl) dX13_cat_15 ⟨Nat.le_of_ble_eq_true rfl, Nat.le_of_ble_eq_true rfl⟩ rfl kT_bl (fun _ _ _ => trivial) hN hK hP hD hS hA 0 11 rfl rfl rfl [0, 1, 2, 3, 4, 5, 6, 7, 8, 9, 10, 11] [] [0, 1, 2, 3, 4, 5, 6, 7, 8, 9, 10, 11] [0, 1, 2, 3] rfl rfl rfl ⟨by decide, by decide, by decide, by decide⟩ rfl (fun H locs hP hD hS => ?_)
    refine lv_if_eq (tgt := 28) hx hb dX13_cat_18 (by decide) (fun cc => ?_) (fun cc => ?_)
    · replace hf := ifT cc hf
      refine lv_aload_n hx hb dX13_cat_28 rfl (lv_at hl 0 rfl) ?_
      refine lv_aload_n hx hb dX13_cat_29 rfl (lv_at hl 0 rfl) ?_
      refine lv_iload_n hx hb dX13_cat_30 rfl (lv_at hl 1 rfl) ?_
      obtain ⟨r_5, w_6, hc, hf⟩ := bd2_of hf
      refine k_V (As := [.int a1]) (rest := [.ref (q0 0)]) (ws1 := (kModel G q0 w_6)) ⟨hx, hb, hml, hown, hts⟩ (c_X13_comes l D G q0 a1 w_4 _ _ hc  _) (cwV 1 hts gX13_cat_X13_comes rfl rfl rfl (by decide +kernel) ⟨Nat.le_of_ble_eq_true rfl, Nat.le_of_ble_eq_true rfl⟩) hl.1 (Nat.le_of_ble_eq_true rfl) dX13_cat_31 ⟨Nat.le_of_ble_eq_true rfl, Nat.le_of_ble_eq_true rfl⟩ rfl kT_bl (fun _ _ _ => trivial) hN hK hP hD hS hA 0 11 rfl rfl rfl [0, 1, 2, 3, 4, 5, 6, 7, 8, 9, 10, 11] [] [0, 1, 2, 3, 4, 5, 6, 7, 8, 9, 10, 11] [0, 1, 2, 3] rfl rfl rfl ⟨by decide, by decide, by decide, by decide⟩ rfl (fun H locs hP hD hS => ?_)
      obtain ⟨r_7, w_8, hc, hf⟩ := bd2_of hf
      refine k_V (As := [.int r_5]) (rest := []) (ws1 := (kModel G q0 w_8)) ⟨hx, hb, hml, hown, hts⟩ (c_X13_keeps l D G q0 r_5 w_6 _ _ hc  _) (cwV 1 hts gX13_cat_X13_keeps rfl rfl rfl (by decide +kernel) ⟨Nat.le_of_ble_eq_true rfl, Nat.le_of_ble_eq_true rfl⟩) hl.1 (Nat.le_of_ble_eq_true rfl) dX13_cat_34 ⟨Nat.le_of_ble_eq_true rfl, Nat.le_of_ble_eq_true rfl⟩ rfl kT_bl (fun _ _ _ => trivial) hN hK hP hD hS hA 0 11 rfl rfl rfl [0, 1, 2, 3, 4, 5, 6, 7, 8, 9, 10, 11] [] [0, 1, 2, 3, 4, 5, 6, 7, 8, 9, 10, 11] [0, 1, 2, 3] rfl rfl rfl ⟨by decide, by decide, by decide, by decide⟩ rfl (fun H locs hP hD hS => ?_)
      obtain ⟨rfl, rfl⟩ := re2 hf
      exact hE hP hD hS dX13_cat_37
    · replace hf := ifF cc hf
      refine lv_aload_n hx hb dX13_cat_21 rfl (lv_at hl 0 rfl) ?_
      obtain ⟨r_9, w_10, hc, hf⟩ := bd2_of hf
      refine k_V (As := []) (rest := []) (ws1 := (kModel G q0 w_10)) ⟨hx, hb, hml, hown, hts⟩ (c_X13_refused l D G q0  w_4 _ _ hc  _) (cwV 0 hts gX13_cat_X13_refused rfl rfl rfl (by decide +kernel) ⟨Nat.le_of_ble_eq_true rfl, Nat.le_of_ble_eq_true rfl⟩) hl.1 (Nat.le_of_ble_eq_true rfl) dX13_cat_22 ⟨Nat.le_of_ble_eq_true rfl, Nat.le_of_ble_eq_true rfl⟩ rfl kT_bl (fun _ _ _ => trivial) hN hK hP hD hS hA 0 11 rfl rfl rfl [0, 1, 2, 3, 4, 5, 6, 7, 8, 9, 10, 11] [] [0, 1, 2, 3, 4, 5, 6, 7, 8, 9, 10, 11] [0, 1, 2, 3] rfl rfl rfl ⟨by decide, by decide, by decide, by decide⟩ rfl (fun H locs hP hD hS => ?_)
      refine lv_goto (tgt := 37) hx hb dX13_cat_25 (by decide) ?_
      obtain ⟨rfl, rfl⟩ := re2 hf
      exact hE hP hD hS dX13_cat_37
  · replace hf := ifT cc hf
    refine lv_iconst (v := (-1)) hx hb dX13_cat_11 (by decide) ?_
    obtain ⟨rfl, rfl⟩ := re2 hf
    exact hE hP hD hS dX13_cat_12
def f_X13_goes (a1 : Int32) (a2 : Int32) (v0 : SV) : Option (Int32 × SV) :=
  if 0 ≤ a1 then
    ckI (208 + (3 * a1)) 240 <|
    nm (pA v0 0 (208 + (3 * a1)) a2) fun v_1 =>
    ckI ((208 + (3 * a1)) + 2) 240 <|
    ckI ((208 + (3 * a1)) + 2) 240 <|
    nm (pA v_1 0 ((208 + (3 * a1)) + 2) ((v_1.2 0 ((208 + (3 * a1)) + 2).toNatClampNeg) + 1)) fun v_2 =>
    ckI 6 240 <|
    ckI 6 240 <|
    nm (pA v_2 0 6 ((v_2.2 0 (6 : Int32).toNatClampNeg) + 1)) fun v_3 =>
    some (1, v_3)
  else
    some (0, v0)
abbrev rm_X13_goes : Room := { frames := 0, cells := 0, slots := 0, locals := 0 }
set_option maxHeartbeats 4000000 in
set_option maxRecDepth 100000 in
theorem c_X13_goes (l : Launch) (D : va_G) (G : Nat → ClassId) (q0 : Nat → Nat) (a1 : Int32) (a2 : Int32) (v0 : SV) (r : Int32) (v0' : SV) (hf : f_X13_goes a1 a2 v0 = some (r, v0')) (sz : Nat) : mC l yX13_goes wsX13_goes rm_X13_goes D (tyG G) kT [.ref (q0 0), .int a1, .int a2] (kModel G q0 v0) (kModel G q0 v0') sz (some (.int r)) 0 0 := by
  refine mC_ofI (cc := cX13_goes) (maxL := 3) (ret := (some .int)) (by decide) rfl rfl (Nat.le_of_ble_eq_true rfl) ?_
  intro p e s m args below meth c Q0 hx hb hml hts hown hN hK A hD hA hE hP hS hJ ls hl
  have hl : lv_has ls 3 [(0, .ref (q0 0)), (1, .int a1), (2, .int a2)] := hl
  unfold f_X13_goes at hf
  have hi11 : ∀ w ∈ u_ws RX13 TX13 27, w ∈ wsX13_goes := by decide +kernel
  have hw1 := hts (.fieldLink RX13 7 "BalconyCensusModel" "now" "[I") (by decide +kernel)
  refine lv_iload_n hx hb dX13_goes_0 rfl (lv_at hl 1 rfl) ?_
  refine lv_if_ge (tgt := 6) hx hb dX13_goes_1 (by decide) (fun cc => ?_) (fun cc => ?_)
  · replace hf := ifT cc hf
    refine lv_aload_n hx hb dX13_goes_6 rfl (lv_at hl 0 rfl) ?_
    refine va_get (D := D) (ci := 11) (v := .ref (q0 1)) (C := RX13) (T := TX13) (N := 27) hx hb hts hi11 hown hK hP 0 rfl rfl 0 (by decide) hw1 (fun _ h9 => h9) rfl dX13_goes_7 ?_
    refine lv_sipush (v := 208) hx hb dX13_goes_10 (by decide +kernel) ?_
    refine lv_iconst (v := 3) hx hb dX13_goes_13 (by decide) ?_
    refine lv_iload_n hx hb dX13_goes_14 rfl (lv_at hl 1 rfl) ?_
    refine lv_imul hx hb dX13_goes_15 ?_
    refine lv_iadd hx hb dX13_goes_16 ?_
    refine lv_iload_n hx hb dX13_goes_17 rfl (lv_at hl 2 rfl) ?_
    obtain ⟨hin, hf⟩ := ckI_of hf
    obtain ⟨v_1, ev_1, hf⟩ := nm_of hf
    refine va_iast (D := D) hx hb hK hP hD hS 1 0 rfl rfl hin dX13_goes_18 (fun H locs hP hD hS => ?_)
    have hP : va_P D vwCl (kModel G q0 v_1) H := by rw [ev_1]; exact hP
    have hD : va_D A (kModel G q0 v_1) := by rw [ev_1]; exact hD
    refine lv_aload_n hx hb dX13_goes_19 rfl (lv_at hl 0 rfl) ?_
    refine va_get (D := D) (ci := 11) (v := .ref (q0 1)) (C := RX13) (T := TX13) (N := 27) hx hb hts hi11 hown hK hP 0 rfl rfl 0 (by decide) hw1 (fun _ h9 => h9) rfl dX13_goes_20 ?_
    refine lv_sipush (v := 208) hx hb dX13_goes_23 (by decide +kernel) ?_
    refine lv_iconst (v := 3) hx hb dX13_goes_26 (by decide) ?_
    refine lv_iload_n hx hb dX13_goes_27 rfl (lv_at hl 1 rfl) ?_
    refine lv_imul hx hb dX13_goes_28 ?_
    refine lv_iadd hx hb dX13_goes_29 ?_
    refine lv_iconst (v := 2) hx hb dX13_goes_30 (by decide) ?_
    refine lv_iadd hx hb dX13_goes_31 ?_
    refine lv_dup2_11 hx hb dX13_goes_32 rfl rfl ?_
    obtain ⟨hin, hf⟩ := ckI_of hf
    refine va_iald (D := D) hx hb hK hP 1 0 rfl rfl hin dX13_goes_33 ?_
    refine lv_iconst (v := 1) hx hb dX13_goes_34 (by decide) ?_
    refine lv_iadd hx hb dX13_goes_35 ?_
    obtain ⟨hin, hf⟩ := ckI_of hf
    obtain ⟨v_2, ev_2, hf⟩ := nm_of hf
    refine va_iast (D := D) hx hb hK hP hD hS 1 0 rfl rfl hin dX13_goes_36 (fun H locs hP hD hS => ?_)
    have hP : va_P D vwCl (kModel G q0 v_2) H := by rw [ev_2]; exact hP
    have hD : va_D A (kModel G q0 v_2) := by rw [ev_2]; exact hD
    refine lv_aload_n hx hb dX13_goes_37 rfl (lv_at hl 0 rfl) ?_
    refine va_get (D := D) (ci := 11) (v := .ref (q0 1)) (C := RX13) (T := TX13) (N := 27) hx hb hts hi11 hown hK hP 0 rfl rfl 0 (by decide) hw1 (fun _ h9 => h9) rfl dX13_goes_38 ?_
    refine lv_bipush (v := 6) hx hb dX13_goes_41 (by decide +kernel) ?_
    refine lv_dup2_11 hx hb dX13_goes_43 rfl rfl ?_
    obtain ⟨hin, hf⟩ := ckI_of hf
    refine va_iald (D := D) hx hb hK hP 1 0 rfl rfl hin dX13_goes_44 ?_
    refine lv_iconst (v := 1) hx hb dX13_goes_45 (by decide) ?_
    refine lv_iadd hx hb dX13_goes_46 ?_
    obtain ⟨hin, hf⟩ := ckI_of hf
    obtain ⟨v_3, ev_3, hf⟩ := nm_of hf
    refine va_iast (D := D) hx hb hK hP hD hS 1 0 rfl rfl hin dX13_goes_47 (fun H locs hP hD hS => ?_)
    have hP : va_P D vwCl (kModel G q0 v_3) H := by rw [ev_3]; exact hP
    have hD : va_D A (kModel G q0 v_3) := by rw [ev_3]; exact hD
    refine lv_iconst (v := 1) hx hb dX13_goes_48 (by decide) ?_
    obtain ⟨rfl, rfl⟩ := re2 hf
    exact hE hP hD hS dX13_goes_49
  · replace hf := ifF cc hf
    refine lv_iconst (v := 0) hx hb dX13_goes_4 (by decide) ?_
    obtain ⟨rfl, rfl⟩ := re2 hf
    exact hE hP hD hS dX13_goes_5
def f_X13_swaps (a1 : Int32) (a2 : Int32) (v0 : SV) : Option (Int32 × SV) :=
  bd1 (f_X13_catOn a1 v0) fun r_1 =>
  bd1 (f_X13_catOn a2 v0) fun r_2 =>
  bd2 (f_X13_goes r_1 a2 v0) fun r_3 w_4 =>
  bd2 (f_X13_goes r_2 a1 w_4) fun r_5 w_6 =>
  some ((r_3 + r_5), w_6)
abbrev rm_X13_swaps : Room := { frames := 2, cells := 0, slots := 0, locals := 44 }
set_option maxHeartbeats 4000000 in
set_option maxRecDepth 100000 in
theorem c_X13_swaps (l : Launch) (D : va_G) (G : Nat → ClassId) (q0 : Nat → Nat) (a1 : Int32) (a2 : Int32) (v0 : SV) (r : Int32) (v0' : SV) (hf : f_X13_swaps a1 a2 v0 = some (r, v0')) (sz : Nat) : mC l yX13_swaps wsX13_swaps rm_X13_swaps D (tyG G) kT [.ref (q0 0), .int a1, .int a2] (kModel G q0 v0) (kModel G q0 v0') sz (some (.int r)) 0 0 := by
  refine mC_ofI (cc := cX13_swaps) (maxL := 5) (ret := (some .int)) (by decide) rfl rfl (Nat.le_of_ble_eq_true rfl) ?_
  intro p e s m args below meth c Q0 hx hb hml hts hown hN hK A hD hA hE hP hS hJ ls hl
  have hl : lv_has ls 5 [(0, .ref (q0 0)), (1, .int a1), (2, .int a2)] := hl
  unfold f_X13_swaps at hf
  refine lv_aload_n hx hb dX13_swaps_0 rfl (lv_at hl 0 rfl) ?_
  refine lv_iload_n hx hb dX13_swaps_1 rfl (lv_at hl 1 rfl) ?_
  obtain ⟨r_1, hc, hf⟩ := bd1_of hf
  refine k_V (As := [.int a1]) (rest := []) (ws1 := (kModel G q0 v0)) ⟨hx, hb, hml, hown, hts⟩ (c_X13_catOn l D G q0 a1 v0 _ hc  _) (cwV 1 hts gX13_swaps_X13_catOn rfl rfl rfl (by decide +kernel) ⟨Nat.le_of_ble_eq_true rfl, Nat.le_of_ble_eq_true rfl⟩) hl.1 (Nat.le_of_ble_eq_true rfl) dX13_swaps_2 ⟨Nat.le_of_ble_eq_true rfl, Nat.le_of_ble_eq_true rfl⟩ rfl kT_bl (fun _ _ _ => trivial) hN hK hP hD hS hA 0 11 rfl rfl rfl [0, 1, 2, 3, 4, 5, 6, 7, 8, 9, 10, 11] [] [0, 1, 2, 3, 4, 5, 6, 7, 8, 9, 10, 11] [0, 1, 2, 3] rfl rfl rfl ⟨by decide, by decide, by decide, by decide⟩ rfl (fun H locs hP hD hS => ?_)
  refine lv_istore_n (lv' := [(3, .int r_1), (0, .ref (q0 0)), (1, .int a1), (2, .int a2)]) hx hb dX13_swaps_5 rfl hl (by decide) rfl (fun ls hl => ?_)
  refine lv_aload_n hx hb dX13_swaps_6 rfl (lv_at hl 1 rfl) ?_
  refine lv_iload_n hx hb dX13_swaps_7 rfl (lv_at hl 3 rfl) ?_
  obtain ⟨r_2, hc, hf⟩ := bd1_of hf
  refine k_V (As := [.int a2]) (rest := []) (ws1 := (kModel G q0 v0)) ⟨hx, hb, hml, hown, hts⟩ (c_X13_catOn l D G q0 a2 v0 _ hc  _) (cwV 1 hts gX13_swaps_X13_catOn rfl rfl rfl (by decide +kernel) ⟨Nat.le_of_ble_eq_true rfl, Nat.le_of_ble_eq_true rfl⟩) hl.1 (Nat.le_of_ble_eq_true rfl) dX13_swaps_8 ⟨Nat.le_of_ble_eq_true rfl, Nat.le_of_ble_eq_true rfl⟩ rfl kT_bl (fun _ _ _ => trivial) hN hK hP hD hS hA 0 11 rfl rfl rfl [0, 1, 2, 3, 4, 5, 6, 7, 8, 9, 10, 11] [] [0, 1, 2, 3, 4, 5, 6, 7, 8, 9, 10, 11] [0, 1, 2, 3] rfl rfl rfl ⟨by decide, by decide, by decide, by decide⟩ rfl (fun H locs hP hD hS => ?_)
  refine lv_istore (lv' := [(4, .int r_2), (3, .int r_1), (0, .ref (q0 0)), (1, .int a1), (2, .int a2)]) hx hb dX13_swaps_11 hl (by decide) rfl (fun ls hl => ?_)
  refine lv_aload_n hx hb dX13_swaps_13 rfl (lv_at hl 2 rfl) ?_
  refine lv_iload_n hx hb dX13_swaps_14 rfl (lv_at hl 1 rfl) ?_
  refine lv_iload_n hx hb dX13_swaps_15 rfl (lv_at hl 4 rfl) ?_
  obtain ⟨r_3, w_4, hc, hf⟩ := bd2_of hf
  refine k_V (As := [.int r_1, .int a2]) (rest := []) (ws1 := (kModel G q0 w_4)) ⟨hx, hb, hml, hown, hts⟩ (c_X13_goes l D G q0 r_1 a2 v0 _ _ hc  _) (cwV 2 hts gX13_swaps_X13_goes rfl rfl rfl (by decide +kernel) ⟨Nat.le_of_ble_eq_true rfl, Nat.le_of_ble_eq_true rfl⟩) hl.1 (Nat.le_of_ble_eq_true rfl) dX13_swaps_16 ⟨Nat.le_of_ble_eq_true rfl, Nat.le_of_ble_eq_true rfl⟩ rfl kT_bl (fun _ _ _ => trivial) hN hK hP hD hS hA 0 11 rfl rfl rfl [0, 1, 2, 3, 4, 5, 6, 7, 8, 9, 10, 11] [] [0, 1, 2, 3, 4, 5, 6, 7, 8, 9, 10, 11] [0, 1, 2, 3] rfl rfl rfl ⟨by decide, by decide, by decide, by decide⟩ rfl (fun H locs hP hD hS => ?_)
  refine lv_aload_n hx hb dX13_swaps_19 rfl (lv_at hl 2 rfl) ?_
  refine lv_iload hx hb dX13_swaps_20 (lv_at hl 0 rfl) ?_
  refine lv_iload_n hx hb dX13_swaps_22 rfl (lv_at hl 3 rfl) ?_
  obtain ⟨r_5, w_6, hc, hf⟩ := bd2_of hf
  refine k_V (As := [.int r_2, .int a1]) (rest := [.int r_3]) (ws1 := (kModel G q0 w_6)) ⟨hx, hb, hml, hown, hts⟩ (c_X13_goes l D G q0 r_2 a1 w_4 _ _ hc  _) (cwV 2 hts gX13_swaps_X13_goes rfl rfl rfl (by decide +kernel) ⟨Nat.le_of_ble_eq_true rfl, Nat.le_of_ble_eq_true rfl⟩) hl.1 (Nat.le_of_ble_eq_true rfl) dX13_swaps_23 ⟨Nat.le_of_ble_eq_true rfl, Nat.le_of_ble_eq_true rfl⟩ rfl kT_bl (fun _ _ _ => trivial) hN hK hP hD hS hA 0 11 rfl rfl rfl [0, 1, 2, 3, 4, 5, 6, 7, 8, 9, 10, 11] [] [0, 1, 2, 3, 4, 5, 6, 7, 8, 9, 10, 11] [0, 1, 2, 3] rfl rfl rfl ⟨by decide, by decide, by decide, by decide⟩ rfl (fun H locs hP hD hS => ?_)
  refine lv_iadd hx hb dX13_swaps_26 ?_
  obtain ⟨rfl, rfl⟩ := re2 hf
  exact hE hP hD hS dX13_swaps_27
def f_X13_isRefusedSwap (a1 : Int32) (a2 : Int32) (v0 : SV) : Option (Int32 × SV) :=
  bd2 (f_X13_isQuarrel a1 a2 v0) fun r_1 w_2 =>
  if r_1 = 0 then
    bd1 (f_X13_catOn a1 w_2) fun r_3 =>
    if 0 ≤ r_3 then
      some (0, w_2)
    else
      bd1 (f_X13_catOn a2 w_2) fun r_4 =>
      if 0 ≤ r_4 then
        some (0, w_2)
      else
        ckI 1 240 <|
        bd2 (f_X13_isBad 9 (w_2.2 0 (1 : Int32).toNatClampNeg) w_2) fun r_5 w_6 =>
        if r_5 = 0 then
          some (0, w_6)
        else
          some (1, w_6)
  else
    some (1, w_2)
abbrev rm_X13_isRefusedSwap : Room := { frames := 5, cells := 0, slots := 0, locals := 111 }
set_option maxHeartbeats 4000000 in
set_option maxRecDepth 100000 in
theorem c_X13_isRefusedSwap (l : Launch) (D : va_G) (G : Nat → ClassId) (q0 : Nat → Nat) (a1 : Int32) (a2 : Int32) (v0 : SV) (r : Int32) (v0' : SV) (hf : f_X13_isRefusedSwap a1 a2 v0 = some (r, v0')) (sz : Nat) : mC l yX13_isRefusedSwap wsX13_isRefusedSwap rm_X13_isRefusedSwap D (tyG G) kT [.ref (q0 0), .int a1, .int a2] (kModel G q0 v0) (kModel G q0 v0') sz (some (.int r)) 0 0 := by
  refine mC_ofZ (cc := cX13_isRefusedSwap) (maxL := 3) (ret := (some .boolean)) (by decide) rfl rfl (Nat.le_of_ble_eq_true rfl) ?_
  intro p e s m args below meth c Q0 hx hb hml hts hown hN hK A hD hA hE hP hS hJ ls hl
  have hl : lv_has ls 3 [(0, .ref (q0 0)), (1, .int a1), (2, .int a2)] := hl
  unfold f_X13_isRefusedSwap at hf
  have hi11 : ∀ w ∈ u_ws RX13 TX13 27, w ∈ wsX13_isRefusedSwap := by decide +kernel
  have hw1 := hts (.fieldLink RX13 7 "BalconyCensusModel" "now" "[I") (by decide +kernel)
  refine lv_aload_n hx hb dX13_isRefusedSwap_0 rfl (lv_at hl 0 rfl) ?_
  refine lv_iload_n hx hb dX13_isRefusedSwap_1 rfl (lv_at hl 1 rfl) ?_
  refine lv_iload_n hx hb dX13_isRefusedSwap_2 rfl (lv_at hl 2 rfl) ?_
  obtain ⟨r_1, w_2, hc, hf⟩ := bd2_of hf
  refine k_V (As := [.int a1, .int a2]) (rest := []) (ws1 := (kModel G q0 w_2)) ⟨hx, hb, hml, hown, hts⟩ (c_X13_isQuarrel l D G q0 a1 a2 v0 _ _ hc  _) (cwV 2 hts gX13_isRefusedSwap_X13_isQuarrel rfl rfl rfl (by decide +kernel) ⟨Nat.le_of_ble_eq_true rfl, Nat.le_of_ble_eq_true rfl⟩) hl.1 (Nat.le_of_ble_eq_true rfl) dX13_isRefusedSwap_3 ⟨Nat.le_of_ble_eq_true rfl, Nat.le_of_ble_eq_true rfl⟩ rfl kT_bl (fun _ _ _ => trivial) hN hK hP hD hS hA 0 11 rfl rfl rfl [0, 1, 2, 3, 4, 5, 6, 7, 8, 9, 10, 11] [] [0, 1, 2, 3, 4, 5, 6, 7, 8, 9, 10, 11] [0, 1, 2, 3] rfl rfl rfl ⟨by decide, by decide, by decide, by decide⟩ rfl (fun H locs hP hD hS => ?_)
  refine lv_if_ne (tgt := 40) hx hb dX13_isRefusedSwap_6 (by decide) (fun cc => ?_) (fun cc => ?_)
  · replace hf := ifF cc hf
    refine lv_iconst (v := 1) hx hb dX13_isRefusedSwap_40 (by decide) ?_
    refine lv_goto (tgt := 45) hx hb dX13_isRefusedSwap_41 (by decide) ?_
    obtain ⟨rfl, rfl⟩ := re2 hf
    exact hE (.inr rfl) hP hD hS dX13_isRefusedSwap_45
  · replace hf := ifT cc hf
    refine lv_aload_n hx hb dX13_isRefusedSwap_9 rfl (lv_at hl 0 rfl) ?_
    refine lv_iload_n hx hb dX13_isRefusedSwap_10 rfl (lv_at hl 1 rfl) ?_
    obtain ⟨r_3, hc, hf⟩ := bd1_of hf
    refine k_V (As := [.int a1]) (rest := []) (ws1 := (kModel G q0 w_2)) ⟨hx, hb, hml, hown, hts⟩ (c_X13_catOn l D G q0 a1 w_2 _ hc  _) (cwV 1 hts gX13_isRefusedSwap_X13_catOn rfl rfl rfl (by decide +kernel) ⟨Nat.le_of_ble_eq_true rfl, Nat.le_of_ble_eq_true rfl⟩) hl.1 (Nat.le_of_ble_eq_true rfl) dX13_isRefusedSwap_11 ⟨Nat.le_of_ble_eq_true rfl, Nat.le_of_ble_eq_true rfl⟩ rfl kT_bl (fun _ _ _ => trivial) hN hK hP hD hS hA 0 11 rfl rfl rfl [0, 1, 2, 3, 4, 5, 6, 7, 8, 9, 10, 11] [] [0, 1, 2, 3, 4, 5, 6, 7, 8, 9, 10, 11] [0, 1, 2, 3] rfl rfl rfl ⟨by decide, by decide, by decide, by decide⟩ rfl (fun H locs hP hD hS => ?_)
    refine lv_if_ge (tgt := 44) hx hb dX13_isRefusedSwap_14 (by decide) (fun cc => ?_) (fun cc => ?_)
    · replace hf := ifT cc hf
      refine lv_iconst (v := 0) hx hb dX13_isRefusedSwap_44 (by decide) ?_
      obtain ⟨rfl, rfl⟩ := re2 hf
      exact hE (.inl rfl) hP hD hS dX13_isRefusedSwap_45
    · replace hf := ifF cc hf
      refine lv_aload_n hx hb dX13_isRefusedSwap_17 rfl (lv_at hl 0 rfl) ?_
      refine lv_iload_n hx hb dX13_isRefusedSwap_18 rfl (lv_at hl 2 rfl) ?_
      obtain ⟨r_4, hc, hf⟩ := bd1_of hf
      refine k_V (As := [.int a2]) (rest := []) (ws1 := (kModel G q0 w_2)) ⟨hx, hb, hml, hown, hts⟩ (c_X13_catOn l D G q0 a2 w_2 _ hc  _) (cwV 1 hts gX13_isRefusedSwap_X13_catOn rfl rfl rfl (by decide +kernel) ⟨Nat.le_of_ble_eq_true rfl, Nat.le_of_ble_eq_true rfl⟩) hl.1 (Nat.le_of_ble_eq_true rfl) dX13_isRefusedSwap_19 ⟨Nat.le_of_ble_eq_true rfl, Nat.le_of_ble_eq_true rfl⟩ rfl kT_bl (fun _ _ _ => trivial) hN hK hP hD hS hA 0 11 rfl rfl rfl [0, 1, 2, 3, 4, 5, 6, 7, 8, 9, 10, 11] [] [0, 1, 2, 3, 4, 5, 6, 7, 8, 9, 10, 11] [0, 1, 2, 3] rfl rfl rfl ⟨by decide, by decide, by decide, by decide⟩ rfl (fun H locs hP hD hS => ?_)
      refine lv_if_ge (tgt := 44) hx hb dX13_isRefusedSwap_22 (by decide) (fun cc => ?_) (fun cc => ?_)
      · replace hf := ifT cc hf
        refine lv_iconst (v := 0) hx hb dX13_isRefusedSwap_44 (by decide) ?_
        obtain ⟨rfl, rfl⟩ := re2 hf
        exact hE (.inl rfl) hP hD hS dX13_isRefusedSwap_45
      · replace hf := ifF cc hf
        refine lv_aload_n hx hb dX13_isRefusedSwap_25 rfl (lv_at hl 0 rfl) ?_
        refine lv_bipush (v := 9) hx hb dX13_isRefusedSwap_26 (by decide +kernel) ?_
        refine lv_aload_n hx hb dX13_isRefusedSwap_28 rfl (lv_at hl 0 rfl) ?_
        refine va_get (D := D) (ci := 11) (v := .ref (q0 1)) (C := RX13) (T := TX13) (N := 27) hx hb hts hi11 hown hK hP 0 rfl rfl 0 (by decide) hw1 (fun _ h9 => h9) rfl dX13_isRefusedSwap_29 ?_
        refine lv_iconst (v := 1) hx hb dX13_isRefusedSwap_32 (by decide) ?_
        obtain ⟨hin, hf⟩ := ckI_of hf
        refine va_iald (D := D) hx hb hK hP 1 0 rfl rfl hin dX13_isRefusedSwap_33 ?_
        obtain ⟨r_5, w_6, hc, hf⟩ := bd2_of hf
        refine k_V (As := [.int 9, .int (w_2.2 0 (1 : Int32).toNatClampNeg)]) (rest := []) (ws1 := (kModel G q0 w_6)) ⟨hx, hb, hml, hown, hts⟩ (c_X13_isBad l D G q0 9 (w_2.2 0 (1 : Int32).toNatClampNeg) w_2 _ _ hc  _) (cwV 2 hts gX13_isRefusedSwap_X13_isBad rfl rfl rfl (by decide +kernel) ⟨Nat.le_of_ble_eq_true rfl, Nat.le_of_ble_eq_true rfl⟩) hl.1 (Nat.le_of_ble_eq_true rfl) dX13_isRefusedSwap_34 ⟨Nat.le_of_ble_eq_true rfl, Nat.le_of_ble_eq_true rfl⟩ rfl kT_bl (fun _ _ _ => trivial) hN hK hP hD hS hA 0 11 rfl rfl rfl [0, 1, 2, 3, 4, 5, 6, 7, 8, 9, 10, 11] [] [0, 1, 2, 3, 4, 5, 6, 7, 8, 9, 10, 11] [0, 1, 2, 3] rfl rfl rfl ⟨by decide, by decide, by decide, by decide⟩ rfl (fun H locs hP hD hS => ?_)
        refine lv_if_eq (tgt := 44) hx hb dX13_isRefusedSwap_37 (by decide) (fun cc => ?_) (fun cc => ?_)
        · replace hf := ifT cc hf
          refine lv_iconst (v := 0) hx hb dX13_isRefusedSwap_44 (by decide) ?_
          obtain ⟨rfl, rfl⟩ := re2 hf
          exact hE (.inl rfl) hP hD hS dX13_isRefusedSwap_45
        · replace hf := ifF cc hf
          refine lv_iconst (v := 1) hx hb dX13_isRefusedSwap_40 (by decide) ?_
          refine lv_goto (tgt := 45) hx hb dX13_isRefusedSwap_41 (by decide) ?_
          obtain ⟨rfl, rfl⟩ := re2 hf
          exact hE (.inr rfl) hP hD hS dX13_isRefusedSwap_45
def f_X13_swap (a1 : Int32) (a2 : Int32) (v0 : SV) : Option (Int32 × SV) :=
  bd1 (f_X13_begins v0) fun w_1 =>
  bd1 (f_X13_areTwo a1 a2) fun r_2 =>
  if r_2 = 0 then
    some ((-1), w_1)
  else
    bd2 (f_X13_isRefusedSwap a1 a2 w_1) fun r_3 w_4 =>
    if r_3 = 0 then
      bd2 (f_X13_swaps a1 a2 w_4) fun r_5 w_6 =>
      bd2 (f_X13_keeps r_5 w_6) fun r_7 w_8 =>
      some (r_7, w_8)
    else
      bd2 (f_X13_refused w_4) fun r_9 w_10 =>
      some (r_9, w_10)
abbrev rm_X13_swap : Room := { frames := 6, cells := 0, slots := 0, locals := 133 }
set_option maxHeartbeats 4000000 in
set_option maxRecDepth 100000 in
theorem c_X13_swap (l : Launch) (D : va_G) (G : Nat → ClassId) (q0 : Nat → Nat) (a1 : Int32) (a2 : Int32) (v0 : SV) (r : Int32) (v0' : SV) (hf : f_X13_swap a1 a2 v0 = some (r, v0')) (sz : Nat) : mC l yX13_swap wsX13_swap rm_X13_swap D (tyG G) kT [.ref (q0 0), .int a1, .int a2] (kModel G q0 v0) (kModel G q0 v0') sz (some (.int r)) 0 0 := by
  refine mC_ofI (cc := cX13_swap) (maxL := 3) (ret := (some .int)) (by decide) rfl rfl (Nat.le_of_ble_eq_true rfl) ?_
  intro p e s m args below meth c Q0 hx hb hml hts hown hN hK A hD hA hE hP hS hJ ls hl
  have hl : lv_has ls 3 [(0, .ref (q0 0)), (1, .int a1), (2, .int a2)] := hl
  unfold f_X13_swap at hf
  refine lv_aload_n hx hb dX13_swap_0 rfl (lv_at hl 0 rfl) ?_
  obtain ⟨w_1, hc, hf⟩ := bd1_of hf
  refine k_V (As := []) (rest := []) (ws1 := (kModel G q0 w_1)) ⟨hx, hb, hml, hown, hts⟩ (c_X13_begins l D G q0  v0 _ hc  _) (cwV 0 hts gX13_swap_X13_begins rfl rfl rfl (by decide +kernel) ⟨Nat.le_of_ble_eq_true rfl, Nat.le_of_ble_eq_true rfl⟩) hl.1 (Nat.le_of_ble_eq_true rfl) dX13_swap_1 ⟨Nat.le_of_ble_eq_true rfl, Nat.le_of_ble_eq_true rfl⟩ rfl kT_bl (fun _ _ _ => trivial) hN hK hP hD hS hA 0 11 rfl rfl rfl [0, 1, 2, 3, 4, 5, 6, 7, 8, 9, 10, 11] [] [0, 1, 2, 3, 4, 5, 6, 7, 8, 9, 10, 11] [0, 1, 2, 3] rfl rfl rfl ⟨by decide, by decide, by decide, by decide⟩ rfl (fun H locs hP hD hS => ?_)
  refine lv_iload_n hx hb dX13_swap_4 rfl (lv_at hl 1 rfl) ?_
  refine lv_iload_n hx hb dX13_swap_5 rfl (lv_at hl 2 rfl) ?_
  obtain ⟨r_2, hc, hf⟩ := bd1_of hf
  refine k_S (As := [.int a1, .int a2]) (rest := []) (ws1 := (kModel G q0 w_1)) ⟨hx, hb, hml, hown, hts⟩ (c_X13_areTwo l D G  a1 a2  _ hc  _) (va_cwS 2 hts gX13_swap_X13_areTwo rfl rfl rfl (by decide +kernel) ⟨Nat.le_of_ble_eq_true rfl, Nat.le_of_ble_eq_true rfl⟩) hl.1 (Nat.le_of_ble_eq_true rfl) dX13_swap_6 ⟨Nat.le_of_ble_eq_true rfl, Nat.le_of_ble_eq_true rfl⟩ rfl kT_bl (fun _ _ _ => trivial) hN hK hP hD hS hA [] [0, 1, 2, 3, 4, 5, 6, 7, 8, 9, 10, 11] [0, 1, 2, 3, 4, 5, 6, 7, 8, 9, 10, 11] [0, 1, 2, 3] rfl rfl rfl ⟨by decide, by decide, by decide, by decide⟩ rfl (fun H locs hP hD hS => ?_)
  refine lv_if_ne (tgt := 14) hx hb dX13_swap_9 (by decide) (fun cc => ?_) (fun cc => ?_)
  · replace hf := ifF cc hf
    refine lv_aload_n hx hb dX13_swap_14 rfl (lv_at hl 0 rfl) ?_
    refine lv_iload_n hx hb dX13_swap_15 rfl (lv_at hl 1 rfl) ?_
    refine lv_iload_n hx hb dX13_swap_16 rfl (lv_at hl 2 rfl) ?_
    obtain ⟨r_3, w_4, hc, hf⟩ := bd2_of hf
    refine k_V (As := [.int a1, .int a2]) (rest := []) (ws1 := (kModel G q0 w_4)) ⟨hx, hb, hml, hown, hts⟩ (c_X13_isRefusedSwap l D G q0 a1 a2 w_1 _ _ hc  _) (cwV 2 hts gX13_swap_X13_isRefusedSwap rfl rfl rfl (by decide +kernel) ⟨Nat.le_of_ble_eq_true rfl, Nat.le_of_ble_eq_true rfl⟩) hl.1 (Nat.le_of_ble_eq_true rfl) dX13_swap_17 ⟨Nat.le_of_ble_eq_true rfl, Nat.le_of_ble_eq_true rfl⟩ rfl kT_bl (fun _ _ _ => trivial) hN hK hP hD hS hA 0 11 rfl rfl rfl [0, 1, 2, 3, 4, 5, 6, 7, 8, 9, 10, 11] [] [0, 1, 2, 3, 4, 5, 6, 7, 8, 9, 10, 11] [0, 1, 2, 3] rfl rfl rfl ⟨by decide, by decide, by decide, by decide⟩ rfl (fun H locs hP hD hS => ?_)
    refine lv_if_eq (tgt := 30) hx hb dX13_swap_20 (by decide) (fun cc => ?_) (fun cc => ?_)
    · replace hf := ifT cc hf
      refine lv_aload_n hx hb dX13_swap_30 rfl (lv_at hl 0 rfl) ?_
      refine lv_aload_n hx hb dX13_swap_31 rfl (lv_at hl 0 rfl) ?_
      refine lv_iload_n hx hb dX13_swap_32 rfl (lv_at hl 1 rfl) ?_
      refine lv_iload_n hx hb dX13_swap_33 rfl (lv_at hl 2 rfl) ?_
      obtain ⟨r_5, w_6, hc, hf⟩ := bd2_of hf
      refine k_V (As := [.int a1, .int a2]) (rest := [.ref (q0 0)]) (ws1 := (kModel G q0 w_6)) ⟨hx, hb, hml, hown, hts⟩ (c_X13_swaps l D G q0 a1 a2 w_4 _ _ hc  _) (cwV 2 hts gX13_swap_X13_swaps rfl rfl rfl (by decide +kernel) ⟨Nat.le_of_ble_eq_true rfl, Nat.le_of_ble_eq_true rfl⟩) hl.1 (Nat.le_of_ble_eq_true rfl) dX13_swap_34 ⟨Nat.le_of_ble_eq_true rfl, Nat.le_of_ble_eq_true rfl⟩ rfl kT_bl (fun _ _ _ => trivial) hN hK hP hD hS hA 0 11 rfl rfl rfl [0, 1, 2, 3, 4, 5, 6, 7, 8, 9, 10, 11] [] [0, 1, 2, 3, 4, 5, 6, 7, 8, 9, 10, 11] [0, 1, 2, 3] rfl rfl rfl ⟨by decide, by decide, by decide, by decide⟩ rfl (fun H locs hP hD hS => ?_)
      obtain ⟨r_7, w_8, hc, hf⟩ := bd2_of hf
      refine k_V (As := [.int r_5]) (rest := []) (ws1 := (kModel G q0 w_8)) ⟨hx, hb, hml, hown, hts⟩ (c_X13_keeps l D G q0 r_5 w_6 _ _ hc  _) (cwV 1 hts gX13_swap_X13_keeps rfl rfl rfl (by decide +kernel) ⟨Nat.le_of_ble_eq_true rfl, Nat.le_of_ble_eq_true rfl⟩) hl.1 (Nat.le_of_ble_eq_true rfl) dX13_swap_37 ⟨Nat.le_of_ble_eq_true rfl, Nat.le_of_ble_eq_true rfl⟩ rfl kT_bl (fun _ _ _ => trivial) hN hK hP hD hS hA 0 11 rfl rfl rfl [0, 1, 2, 3, 4, 5, 6, 7, 8, 9, 10, 11] [] [0, 1, 2, 3, 4, 5, 6, 7, 8, 9, 10, 11] [0, 1, 2, 3] rfl rfl rfl ⟨by decide, by decide, by decide, by decide⟩ rfl (fun H locs hP hD hS => ?_)
      obtain ⟨rfl, rfl⟩ := re2 hf
      exact hE hP hD hS dX13_swap_40
    · replace hf := ifF cc hf
      refine lv_aload_n hx hb dX13_swap_23 rfl (lv_at hl 0 rfl) ?_
      obtain ⟨r_9, w_10, hc, hf⟩ := bd2_of hf
      refine k_V (As := []) (rest := []) (ws1 := (kModel G q0 w_10)) ⟨hx, hb, hml, hown, hts⟩ (c_X13_refused l D G q0  w_4 _ _ hc  _) (cwV 0 hts gX13_swap_X13_refused rfl rfl rfl (by decide +kernel) ⟨Nat.le_of_ble_eq_true rfl, Nat.le_of_ble_eq_true rfl⟩) hl.1 (Nat.le_of_ble_eq_true rfl) dX13_swap_24 ⟨Nat.le_of_ble_eq_true rfl, Nat.le_of_ble_eq_true rfl⟩ rfl kT_bl (fun _ _ _ => trivial) hN hK hP hD hS hA 0 11 rfl rfl rfl [0, 1, 2, 3, 4, 5, 6, 7, 8, 9, 10, 11] [] [0, 1, 2, 3, 4, 5, 6, 7, 8, 9, 10, 11] [0, 1, 2, 3] rfl rfl rfl ⟨by decide, by decide, by decide, by decide⟩ rfl (fun H locs hP hD hS => ?_)
      refine lv_goto (tgt := 40) hx hb dX13_swap_27 (by decide) ?_
      obtain ⟨rfl, rfl⟩ := re2 hf
      exact hE hP hD hS dX13_swap_40
  · replace hf := ifT cc hf
    refine lv_iconst (v := (-1)) hx hb dX13_swap_12 (by decide) ?_
    obtain ⟨rfl, rfl⟩ := re2 hf
    exact hE hP hD hS dX13_swap_13
