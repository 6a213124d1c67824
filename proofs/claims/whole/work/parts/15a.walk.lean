/-! Walks, laid by wip/whole/gen.py: for each method f_ (what it does to its world) and c_ (its contract). -/
def f_X10_addCharacter (a1 : Int32) (v0 : SV) : Option (Int32 × SV) :=
  if a1 < 32 then
    some ((-2), v0)
  else
    if 126 < a1 then
      some ((-2), v0)
    else
      if (v0.1 0) < 60 then
        ckI (v0.1 0) 60 <|
        nm (pA v0 0 (v0.1 0) (vp_nar .char a1)) fun v_1 =>
        nm (pF v_1 0 ((v_1.1 0) + 1)) fun v_2 =>
        some ((v_2.1 0), v_2)
      else
        some ((-2), v0)
abbrev rm_X10_addCharacter : Room := { frames := 0, cells := 0, slots := 0, locals := 0 }
set_option maxHeartbeats 4000000 in
set_option maxRecDepth 100000 in
theorem c_X10_addCharacter (l : Launch) (D : va_G) (G : Nat → ClassId) (q0 : Nat → Nat) (a1 : Int32) (v0 : SV) (r : Int32) (v0' : SV) (hf : f_X10_addCharacter a1 v0 = some (r, v0')) (sz : Nat) : mC l yX10_addCharacter wsX10_addCharacter rm_X10_addCharacter D (tyG G) kT [.ref (q0 0), .int a1] (kReader G q0 v0) (kReader G q0 v0') sz (some (.int r)) 0 0 := by
  refine mC_ofI (cc := cX10_addCharacter) (maxL := 2) (ret := (some .int)) (by decide) rfl rfl (Nat.le_of_ble_eq_true rfl) ?_
  intro p e s m args below meth c Q0 hx hb hml hts hown hN hK A hD hA hE hP hS hJ ls hl
  have hl : lv_has ls 2 [(0, .ref (q0 0)), (1, .int a1)] := hl
  unfold f_X10_addCharacter at hf
  have hi8 : ∀ w ∈ u_ws RX10 TX10 8, w ∈ wsX10_addCharacter := by decide +kernel
  have hw1 := hts (.fieldLink RX10 28 "BalconyCensus$Reader" "length" "I") (by decide +kernel)
  have hw2 := hts (.fieldLink RX10 9 "BalconyCensus$Reader" "text" "[C") (by decide +kernel)
  refine lv_iload_n hx hb dX10_addCharacter_0 rfl (lv_at hl 1 rfl) ?_
  refine lv_bipush (v := 32) hx hb dX10_addCharacter_1 (by decide +kernel) ?_
  refine lv_icmp_lt (tgt := 21) hx hb dX10_addCharacter_3 (by decide) (fun cc => ?_) (fun cc => ?_)
  · replace hf := ifT cc hf
    refine lv_bipush (v := (-2)) hx hb dX10_addCharacter_21 (by decide +kernel) ?_
    obtain ⟨rfl, rfl⟩ := re2 hf
    exact hE hP hD hS dX10_addCharacter_23
  · replace hf := ifF cc hf
    refine lv_iload_n hx hb dX10_addCharacter_6 rfl (lv_at hl 1 rfl) ?_
    refine lv_bipush (v := 126) hx hb dX10_addCharacter_7 (by decide +kernel) ?_
    refine lv_icmp_gt (tgt := 21) hx hb dX10_addCharacter_9 (by decide) (fun cc => ?_) (fun cc => ?_)
    · replace hf := ifT cc hf
      refine lv_bipush (v := (-2)) hx hb dX10_addCharacter_21 (by decide +kernel) ?_
      obtain ⟨rfl, rfl⟩ := re2 hf
      exact hE hP hD hS dX10_addCharacter_23
    · replace hf := ifF cc hf
      refine lv_aload_n hx hb dX10_addCharacter_12 rfl (lv_at hl 0 rfl) ?_
      refine va_get (D := D) (ci := 8) (v := .int (v0.1 0)) (C := RX10) (T := TX10) (N := 8) hx hb hts hi8 hown hK hP 0 rfl rfl 1 (by decide) hw1 (fun _ h9 => h9) rfl dX10_addCharacter_13 ?_
      refine lv_bipush (v := 60) hx hb dX10_addCharacter_16 (by decide +kernel) ?_
      refine lv_icmp_lt (tgt := 24) hx hb dX10_addCharacter_18 (by decide) (fun cc => ?_) (fun cc => ?_)
      · replace hf := ifT cc hf
        refine lv_aload_n hx hb dX10_addCharacter_24 rfl (lv_at hl 0 rfl) ?_
        refine va_get (D := D) (ci := 8) (v := .ref (q0 1)) (C := RX10) (T := TX10) (N := 8) hx hb hts hi8 hown hK hP 0 rfl rfl 0 (by decide) hw2 (fun _ h9 => h9) rfl dX10_addCharacter_25 ?_
        refine lv_aload_n hx hb dX10_addCharacter_28 rfl (lv_at hl 0 rfl) ?_
        refine va_get (D := D) (ci := 8) (v := .int (v0.1 0)) (C := RX10) (T := TX10) (N := 8) hx hb hts hi8 hown hK hP 0 rfl rfl 1 (by decide) hw1 (fun _ h9 => h9) rfl dX10_addCharacter_29 ?_
        refine lv_iload_n hx hb dX10_addCharacter_32 rfl (lv_at hl 1 rfl) ?_
        obtain ⟨hin, hf⟩ := ckI_of hf
        obtain ⟨v_1, ev_1, hf⟩ := nm_of hf
        refine va_cast (D := D) hx hb hK hP hD hS 1 1 rfl rfl hin dX10_addCharacter_33 (fun H locs hP hD hS => ?_)
        have hP : va_P D vwCl (kReader G q0 v_1) H := by rw [ev_1]; exact hP
        have hD : va_D A (kReader G q0 v_1) := by rw [ev_1]; exact hD
        refine lv_aload_n hx hb dX10_addCharacter_34 rfl (lv_at hl 0 rfl) ?_
        refine lv_dup hx hb dX10_addCharacter_35 rfl ?_
        refine va_get (D := D) (ci := 8) (v := .int (v_1.1 0)) (C := RX10) (T := TX10) (N := 8) hx hb hts hi8 hown hK hP 0 rfl rfl 1 (by decide) hw1 (fun _ h9 => h9) rfl dX10_addCharacter_36 ?_
        refine lv_iconst (v := 1) hx hb dX10_addCharacter_39 (by decide) ?_
        refine lv_iadd hx hb dX10_addCharacter_40 ?_
        obtain ⟨v_2, ev_2, hf⟩ := nm_of hf
        refine va_put (D := D) (ci := 8) (v := .int ((v_1.1 0) + 1)) (ty := .int) (C := RX10) (T := TX10) (N := 8) hx hb hts hi8 tyX10 tyX10_ok nmX10 hown hK hP hD hS 0 rfl rfl 1 (by decide) hw1 (fun _ h9 => h9) rfl (by decide +kernel) rfl rfl (Nat.le_of_ble_eq_true rfl) dX10_addCharacter_41 (fun H locs hP hD hS => ?_)
        have hP : va_P D vwCl (kReader G q0 v_2) H := by rw [ev_2]; exact hP
        have hD : va_D A (kReader G q0 v_2) := by rw [ev_2]; exact hD
        refine lv_aload_n hx hb dX10_addCharacter_44 rfl (lv_at hl 0 rfl) ?_
        refine va_get (D := D) (ci := 8) (v := .int (v_2.1 0)) (C := RX10) (T := TX10) (N := 8) hx hb hts hi8 hown hK hP 0 rfl rfl 1 (by decide) hw1 (fun _ h9 => h9) rfl dX10_addCharacter_45 ?_
        obtain ⟨rfl, rfl⟩ := re2 hf
        exact hE hP hD hS dX10_addCharacter_48
      · replace hf := ifF cc hf
        refine lv_bipush (v := (-2)) hx hb dX10_addCharacter_21 (by decide +kernel) ?_
        obtain ⟨rfl, rfl⟩ := re2 hf
        exact hE hP hD hS dX10_addCharacter_23
def f_X10_emptyInput (v0 : SV) : Option SV :=
  nm (pF v0 0 0) fun v_1 =>
  some v_1
abbrev rm_X10_emptyInput : Room := { frames := 0, cells := 0, slots := 0, locals := 0 }
set_option maxHeartbeats 4000000 in
set_option maxRecDepth 100000 in
theorem c_X10_emptyInput (l : Launch) (D : va_G) (G : Nat → ClassId) (q0 : Nat → Nat) (v0 : SV) (v0' : SV) (hf : f_X10_emptyInput v0 = some v0') (sz : Nat) : mC l yX10_emptyInput wsX10_emptyInput rm_X10_emptyInput D (tyG G) kT [.ref (q0 0)] (kReader G q0 v0) (kReader G q0 v0') sz none 0 0 := by
  refine mC_ofV (cc := cX10_emptyInput) (maxL := 1) (ret := none) (by decide) rfl rfl (Nat.le_of_ble_eq_true rfl) ?_
  intro p e s m args below meth c Q0 hx hb hml hts hown hN hK A hD hA hE hP hS hJ ls hl
  have hl : lv_has ls 1 [(0, .ref (q0 0))] := hl
  unfold f_X10_emptyInput at hf
  have hi8 : ∀ w ∈ u_ws RX10 TX10 8, w ∈ wsX10_emptyInput := by decide +kernel
  have hw1 := hts (.fieldLink RX10 28 "BalconyCensus$Reader" "length" "I") (by decide +kernel)
  refine lv_aload_n hx hb dX10_emptyInput_0 rfl (lv_at hl 0 rfl) ?_
  refine lv_iconst (v := 0) hx hb dX10_emptyInput_1 (by decide) ?_
  obtain ⟨v_1, ev_1, hf⟩ := nm_of hf
  refine va_put (D := D) (ci := 8) (v := .int 0) (ty := .int) (C := RX10) (T := TX10) (N := 8) hx hb hts hi8 tyX10 tyX10_ok nmX10 hown hK hP hD hS 0 rfl rfl 1 (by decide) hw1 (fun _ h9 => h9) rfl (by decide +kernel) rfl rfl (Nat.le_of_ble_eq_true rfl) dX10_emptyInput_2 (fun H locs hP hD hS => ?_)
  have hP : va_P D vwCl (kReader G q0 v_1) H := by rw [ev_1]; exact hP
  have hD : va_D A (kReader G q0 v_1) := by rw [ev_1]; exact hD
  obtain rfl := re1 hf
  exact hE hP hD hS dX10_emptyInput_5
def f_X5_keep_0 (vhi : SV) (vhh : (Nat → SV)) (v0 : SV) : Option (SV × (Nat → SV)) :=
  ckI (vhi.1 0) 8 <|
  ckP ((vhi.1 0) = 0) <|
  bd1 (f_X6_take (vhh 0) v0) fun w_1 =>
  nm (hu vhh 0 w_1) fun v_2 =>
  nm (pF vhi 0 (((vhi.1 0) + 1) - ((vhi.1 0) + 1) / 8 * 8)) fun v_3 =>
  nm (if 8 < ((v_3.1 1) + 1) then 8 else ((v_3.1 1) + 1)) fun t_4 =>
  nm (pF v_3 1 t_4) fun v_5 =>
  some (v_5, v_2)
abbrev rm_X5_keep_0 : Room := { frames := 3, cells := 0, slots := 0, locals := 60 }
set_option maxHeartbeats 4000000 in
set_option maxRecDepth 100000 in
theorem c_X5_keep_0 (l : Launch) (D : va_G) (G : Nat → ClassId) (Q : Nat → Nat → Nat) (q0 : Nat → Nat) (vhi : SV) (vhh : (Nat → SV)) (v0 : SV) (vhi' : SV) (vhh' : (Nat → SV)) (hf : f_X5_keep_0 vhi vhh v0 = some (vhi', vhh')) (sz : Nat) : mC l yX5_keep wsX5_keep rm_X5_keep_0 D (tyG G) kT [.ref ((Q 4) 0), .ref (q0 0)] (kHist Q vhi ++ kHH G Q vhh ++ kHouse G q0 v0) (kHist Q vhi' ++ kHH G Q vhh' ++ kHouse G q0 v0) sz none 0 0 := by
  refine mC_ofV (cc := cX5_keep) (maxL := 2) (ret := none) (by decide) rfl rfl (Nat.le_of_ble_eq_true rfl) ?_
  intro p e s m args below meth c Q0 hx hb hml hts hown hN hK A hD hA hE hP hS hJ ls hl
  have hl : lv_has ls 2 [(0, .ref ((Q 4) 0)), (1, .ref (q0 0))] := hl
  unfold f_X5_keep_0 at hf
  have hi3 : ∀ w ∈ u_ws RX5 TX5 3, w ∈ wsX5_keep := by decide +kernel
  have hw1 := hts (.fieldLink RX5 11 "BalconyCensus$History" "houses" "[LBalconyCensus$House;") (by decide +kernel)
  have hw2 := hts (.fieldLink RX5 18 "BalconyCensus$History" "next" "I") (by decide +kernel)
  have hw3 := hts (.fieldLink RX5 26 "BalconyCensus$History" "count" "I") (by decide +kernel)
  have hw4 := hts (.methodLink RX5 29 Lib.Math.min.name) (by decide +kernel)
  have hw5 := hts (.static Lib.Math.min.name) (by decide +kernel)
  have hw6 := hts (.initialized "java/lang/Math") (by decide +kernel)
  have hw7 := hts (.code Lib.Math.min.name Lib.Math.min.code 2 (some .int)) (by decide +kernel)
  refine lv_aload_n hx hb dX5_keep_0 rfl (lv_at hl 0 rfl) ?_
  refine va_get (D := D) (ci := 3) (v := .ref (Q 4 1)) (C := RX5) (T := TX5) (N := 3) hx hb hts hi3 hown hK hP 0 rfl rfl 0 (by decide) hw1 (fun _ h9 => h9) rfl dX5_keep_1 ?_
  refine lv_aload_n hx hb dX5_keep_4 rfl (lv_at hl 0 rfl) ?_
  refine va_get (D := D) (ci := 3) (v := .int (vhi.1 0)) (C := RX5) (T := TX5) (N := 3) hx hb hts hi3 hown hK hP 0 rfl rfl 1 (by decide) hw2 (fun _ h9 => h9) rfl dX5_keep_5 ?_
  obtain ⟨hin, hf⟩ := ckI_of hf
  obtain ⟨hk, hf⟩ := ckP_of hf
  rw [hk] at hin ⊢
  refine va_aldq (D := D) hx hb hK hP 1 3 rfl rfl hin dX5_keep_8 ?_
  refine W.eq (g2 := F0 m 9 ls [.ref (Q 10 0)]) rfl ?_
  refine lv_aload_n hx hb dX5_keep_9 rfl (lv_at hl 1 rfl) ?_
  obtain ⟨w_1, hc, hf⟩ := bd1_of hf
  have hPb : va_P D vwCl ((kHist Q vhi ++ kHHx0 G Q vhh) ++ (kHouse G (Q 10) (vhh 0) ++ kHouse G q0 v0)) s.heap := by simp only [pP_app, kHH0_P, kHHx0_hu, hu_s] at hP ⊢; simp only [hP, and_self]
  have hDb : va_D A ((kHist Q vhi ++ kHHx0 G Q vhh) ++ (kHouse G (Q 10) (vhh 0) ++ kHouse G q0 v0)) := by simp only [pD_app, Dj_l, Dj_r, kHH0_D, kHH0_j, kHH0_i, kHHx0_hu, hu_s] at hD ⊢; simp only [hD, and_self]
  refine k_VB (As := [.ref (q0 0)]) (rest := []) ⟨hx, hb, hml, hown, hts⟩ (c_X6_take l D G (Q 10) q0  (vhh 0) v0 _ hc  _) (cwV 1 hts gX5_keep_X6_take rfl rfl rfl (by decide +kernel) ⟨Nat.le_of_ble_eq_true rfl, Nat.le_of_ble_eq_true rfl⟩) hl.1 (Nat.le_of_ble_eq_true rfl) dX5_keep_10 ⟨Nat.le_of_ble_eq_true rfl, Nat.le_of_ble_eq_true rfl⟩ rfl kT_bl (fun _ _ _ => trivial) hN hK hPb hDb hS hA 0 4 rfl rfl rfl [0, 1, 2, 3] rfl (fun H locs hP hD hS => ?_)
  have hP : va_P D vwCl (kHist Q vhi ++ kHH G Q (hu vhh 0 w_1) ++ kHouse G q0 v0) H := by simp only [pP_app, kHH0_P, kHHx0_hu, hu_s] at hP ⊢; simp only [hP, and_self]
  have hD : va_D A (kHist Q vhi ++ kHH G Q (hu vhh 0 w_1) ++ kHouse G q0 v0) := by simp only [pD_app, Dj_l, Dj_r, kHH0_D, kHH0_j, kHH0_i, kHHx0_hu, hu_s] at hD ⊢; simp only [hD, and_self]
  obtain ⟨v_2, ev_2, hf⟩ := nm_of hf
  have hP : va_P D vwCl (kHist Q vhi ++ kHH G Q v_2 ++ kHouse G q0 v0) H := by rw [ev_2]; exact hP
  have hD : va_D A (kHist Q vhi ++ kHH G Q v_2 ++ kHouse G q0 v0) := by rw [ev_2]; exact hD
  refine lv_aload_n hx hb dX5_keep_13 rfl (lv_at hl 0 rfl) ?_
  refine lv_aload_n hx hb dX5_keep_14 rfl (lv_at hl 0 rfl) ?_
  refine va_get (D := D) (ci := 3) (v := .int (vhi.1 0)) (C := RX5) (T := TX5) (N := 3) hx hb hts hi3 hown hK hP 0 rfl rfl 1 (by decide) hw2 (fun _ h9 => h9) rfl dX5_keep_15 ?_
  refine lv_iconst (v := 1) hx hb dX5_keep_18 (by decide) ?_
  refine lv_iadd hx hb dX5_keep_19 ?_
  refine lv_bipush (v := 8) hx hb dX5_keep_20 (by decide +kernel) ?_
  refine lv_irem hx hb dX5_keep_22 (by decide) ?_
  obtain ⟨v_3, ev_3, hf⟩ := nm_of hf
  refine va_put (D := D) (ci := 3) (v := .int (((vhi.1 0) + 1) - ((vhi.1 0) + 1) / 8 * 8)) (ty := .int) (C := RX5) (T := TX5) (N := 3) hx hb hts hi3 tyX5 tyX5_ok nmX5 hown hK hP hD hS 0 rfl rfl 1 (by decide) hw2 (fun _ h9 => h9) rfl (by decide +kernel) rfl rfl (Nat.le_of_ble_eq_true rfl) dX5_keep_23 (fun H locs hP hD hS => ?_)
  have hP : va_P D vwCl (kHist Q v_3 ++ kHH G Q v_2 ++ kHouse G q0 v0) H := by rw [ev_3]; exact hP
  have hD : va_D A (kHist Q v_3 ++ kHH G Q v_2 ++ kHouse G q0 v0) := by rw [ev_3]; exact hD
  refine lv_aload_n hx hb dX5_keep_26 rfl (lv_at hl 0 rfl) ?_
  refine lv_aload_n hx hb dX5_keep_27 rfl (lv_at hl 0 rfl) ?_
  refine va_get (D := D) (ci := 3) (v := .int (v_3.1 1)) (C := RX5) (T := TX5) (N := 3) hx hb hts hi3 hown hK hP 0 rfl rfl 2 (by decide) hw3 (fun _ h9 => h9) rfl dX5_keep_28 ?_
  refine lv_iconst (v := 1) hx hb dX5_keep_31 (by decide) ?_
  refine lv_iadd hx hb dX5_keep_32 ?_
  refine lv_bipush (v := 8) hx hb dX5_keep_33 (by decide +kernel) ?_
  refine va_mmin hx hb (hml.trans hl.1.symm) hown hw4 hw5 hw6 hw7 (Nat.le_of_ble_eq_true rfl) (Nat.le_of_ble_eq_true rfl) (Nat.zero_le _) (Nat.zero_le _) dX5_keep_35 ?_
  obtain ⟨t_4, et_4, hf⟩ := nm_of hf
  rw [← et_4]
  obtain ⟨v_5, ev_5, hf⟩ := nm_of hf
  refine va_put (D := D) (ci := 3) (v := .int t_4) (ty := .int) (C := RX5) (T := TX5) (N := 3) hx hb hts hi3 tyX5 tyX5_ok nmX5 hown hK hP hD hS 0 rfl rfl 2 (by decide) hw3 (fun _ h9 => h9) rfl (by decide +kernel) rfl rfl (Nat.le_of_ble_eq_true rfl) dX5_keep_38 (fun H locs hP hD hS => ?_)
  have hP : va_P D vwCl (kHist Q v_5 ++ kHH G Q v_2 ++ kHouse G q0 v0) H := by rw [ev_5]; exact hP
  have hD : va_D A (kHist Q v_5 ++ kHH G Q v_2 ++ kHouse G q0 v0) := by rw [ev_5]; exact hD
  obtain ⟨rfl, rfl⟩ := re2 hf
  exact hE hP hD hS dX5_keep_41
def f_X5_keep_1 (vhi : SV) (vhh : (Nat → SV)) (v0 : SV) : Option (SV × (Nat → SV)) :=
  ckI (vhi.1 0) 8 <|
  ckP ((vhi.1 0) = 1) <|
  bd1 (f_X6_take (vhh 1) v0) fun w_1 =>
  nm (hu vhh 1 w_1) fun v_2 =>
  nm (pF vhi 0 (((vhi.1 0) + 1) - ((vhi.1 0) + 1) / 8 * 8)) fun v_3 =>
  nm (if 8 < ((v_3.1 1) + 1) then 8 else ((v_3.1 1) + 1)) fun t_4 =>
  nm (pF v_3 1 t_4) fun v_5 =>
  some (v_5, v_2)
abbrev rm_X5_keep_1 : Room := { frames := 3, cells := 0, slots := 0, locals := 60 }
set_option maxHeartbeats 4000000 in
set_option maxRecDepth 100000 in
theorem c_X5_keep_1 (l : Launch) (D : va_G) (G : Nat → ClassId) (Q : Nat → Nat → Nat) (q0 : Nat → Nat) (vhi : SV) (vhh : (Nat → SV)) (v0 : SV) (vhi' : SV) (vhh' : (Nat → SV)) (hf : f_X5_keep_1 vhi vhh v0 = some (vhi', vhh')) (sz : Nat) : mC l yX5_keep wsX5_keep rm_X5_keep_1 D (tyG G) kT [.ref ((Q 4) 0), .ref (q0 0)] (kHist Q vhi ++ kHH G Q vhh ++ kHouse G q0 v0) (kHist Q vhi' ++ kHH G Q vhh' ++ kHouse G q0 v0) sz none 0 0 := by
  refine mC_ofV (cc := cX5_keep) (maxL := 2) (ret := none) (by decide) rfl rfl (Nat.le_of_ble_eq_true rfl) ?_
  intro p e s m args below meth c Q0 hx hb hml hts hown hN hK A hD hA hE hP hS hJ ls hl
  have hl : lv_has ls 2 [(0, .ref ((Q 4) 0)), (1, .ref (q0 0))] := hl
  unfold f_X5_keep_1 at hf
  have hi3 : ∀ w ∈ u_ws RX5 TX5 3, w ∈ wsX5_keep := by decide +kernel
  have hw1 := hts (.fieldLink RX5 11 "BalconyCensus$History" "houses" "[LBalconyCensus$House;") (by decide +kernel)
  have hw2 := hts (.fieldLink RX5 18 "BalconyCensus$History" "next" "I") (by decide +kernel)
  have hw3 := hts (.fieldLink RX5 26 "BalconyCensus$History" "count" "I") (by decide +kernel)
  have hw4 := hts (.methodLink RX5 29 Lib.Math.min.name) (by decide +kernel)
  have hw5 := hts (.static Lib.Math.min.name) (by decide +kernel)
  have hw6 := hts (.initialized "java/lang/Math") (by decide +kernel)
  have hw7 := hts (.code Lib.Math.min.name Lib.Math.min.code 2 (some .int)) (by decide +kernel)
  refine lv_aload_n hx hb dX5_keep_0 rfl (lv_at hl 0 rfl) ?_
  refine va_get (D := D) (ci := 3) (v := .ref (Q 4 1)) (C := RX5) (T := TX5) (N := 3) hx hb hts hi3 hown hK hP 0 rfl rfl 0 (by decide) hw1 (fun _ h9 => h9) rfl dX5_keep_1 ?_
  refine lv_aload_n hx hb dX5_keep_4 rfl (lv_at hl 0 rfl) ?_
  refine va_get (D := D) (ci := 3) (v := .int (vhi.1 0)) (C := RX5) (T := TX5) (N := 3) hx hb hts hi3 hown hK hP 0 rfl rfl 1 (by decide) hw2 (fun _ h9 => h9) rfl dX5_keep_5 ?_
  obtain ⟨hin, hf⟩ := ckI_of hf
  obtain ⟨hk, hf⟩ := ckP_of hf
  rw [hk] at hin ⊢
  refine va_aldq (D := D) hx hb hK hP 1 3 rfl rfl hin dX5_keep_8 ?_
  refine W.eq (g2 := F0 m 9 ls [.ref (Q 11 0)]) rfl ?_
  refine lv_aload_n hx hb dX5_keep_9 rfl (lv_at hl 1 rfl) ?_
  obtain ⟨w_1, hc, hf⟩ := bd1_of hf
  have hPb : va_P D vwCl ((kHist Q vhi ++ kHHx1 G Q vhh) ++ (kHouse G (Q 11) (vhh 1) ++ kHouse G q0 v0)) s.heap := by simp only [pP_app, kHH1_P, kHHx1_hu, hu_s] at hP ⊢; simp only [hP, and_self]
  have hDb : va_D A ((kHist Q vhi ++ kHHx1 G Q vhh) ++ (kHouse G (Q 11) (vhh 1) ++ kHouse G q0 v0)) := by simp only [pD_app, Dj_l, Dj_r, kHH1_D, kHH1_j, kHH1_i, kHHx1_hu, hu_s] at hD ⊢; simp only [hD, and_self]
  refine k_VB (As := [.ref (q0 0)]) (rest := []) ⟨hx, hb, hml, hown, hts⟩ (c_X6_take l D G (Q 11) q0  (vhh 1) v0 _ hc  _) (cwV 1 hts gX5_keep_X6_take rfl rfl rfl (by decide +kernel) ⟨Nat.le_of_ble_eq_true rfl, Nat.le_of_ble_eq_true rfl⟩) hl.1 (Nat.le_of_ble_eq_true rfl) dX5_keep_10 ⟨Nat.le_of_ble_eq_true rfl, Nat.le_of_ble_eq_true rfl⟩ rfl kT_bl (fun _ _ _ => trivial) hN hK hPb hDb hS hA 0 4 rfl rfl rfl [0, 1, 2, 3] rfl (fun H locs hP hD hS => ?_)
  have hP : va_P D vwCl (kHist Q vhi ++ kHH G Q (hu vhh 1 w_1) ++ kHouse G q0 v0) H := by simp only [pP_app, kHH1_P, kHHx1_hu, hu_s] at hP ⊢; simp only [hP, and_self]
  have hD : va_D A (kHist Q vhi ++ kHH G Q (hu vhh 1 w_1) ++ kHouse G q0 v0) := by simp only [pD_app, Dj_l, Dj_r, kHH1_D, kHH1_j, kHH1_i, kHHx1_hu, hu_s] at hD ⊢; simp only [hD, and_self]
  obtain ⟨v_2, ev_2, hf⟩ := nm_of hf
  have hP : va_P D vwCl (kHist Q vhi ++ kHH G Q v_2 ++ kHouse G q0 v0) H := by rw [ev_2]; exact hP
  have hD : va_D A (kHist Q vhi ++ kHH G Q v_2 ++ kHouse G q0 v0) := by rw [ev_2]; exact hD
  refine lv_aload_n hx hb dX5_keep_13 rfl (lv_at hl 0 rfl) ?_
  refine lv_aload_n hx hb dX5_keep_14 rfl (lv_at hl 0 rfl) ?_
  refine va_get (D := D) (ci := 3) (v := .int (vhi.1 0)) (C := RX5) (T := TX5) (N := 3) hx hb hts hi3 hown hK hP 0 rfl rfl 1 (by decide) hw2 (fun _ h9 => h9) rfl dX5_keep_15 ?_
  refine lv_iconst (v := 1) hx hb dX5_keep_18 (by decide) ?_
  refine lv_iadd hx hb dX5_keep_19 ?_
  refine lv_bipush (v := 8) hx hb dX5_keep_20 (by decide +kernel) ?_
  refine lv_irem hx hb dX5_keep_22 (by decide) ?_
  obtain ⟨v_3, ev_3, hf⟩ := nm_of hf
  refine va_put (D := D) (ci := 3) (v := .int (((vhi.1 0) + 1) - ((vhi.1 0) + 1) / 8 * 8)) (ty := .int) (C := RX5) (T := TX5) (N := 3) hx hb hts hi3 tyX5 tyX5_ok nmX5 hown hK hP hD hS 0 rfl rfl 1 (by decide) hw2 (fun _ h9 => h9) rfl (by decide +kernel) rfl rfl (Nat.le_of_ble_eq_true rfl) dX5_keep_23 (fun H locs hP hD hS => ?_)
  have hP : va_P D vwCl (kHist Q v_3 ++ kHH G Q v_2 ++ kHouse G q0 v0) H := by rw [ev_3]; exact hP
  have hD : va_D A (kHist Q v_3 ++ kHH G Q v_2 ++ kHouse G q0 v0) := by rw [ev_3]; exact hD
  refine lv_aload_n hx hb dX5_keep_26 rfl (lv_at hl 0 rfl) ?_
  refine lv_aload_n hx hb dX5_keep_27 rfl (lv_at hl 0 rfl) ?_
  refine va_get (D := D) (ci := 3) (v := .int (v_3.1 1)) (C := RX5) (T := TX5) (N := 3) hx hb hts hi3 hown hK hP 0 rfl rfl 2 (by decide) hw3 (fun _ h9 => h9) rfl dX5_keep_28 ?_
  refine lv_iconst (v := 1) hx hb dX5_keep_31 (by decide) ?_
  refine lv_iadd hx hb dX5_keep_32 ?_
  refine lv_bipush (v := 8) hx hb dX5_keep_33 (by decide +kernel) ?_
  refine va_mmin hx hb (hml.trans hl.1.symm) hown hw4 hw5 hw6 hw7 (Nat.le_of_ble_eq_true rfl) (Nat.le_of_ble_eq_true rfl) (Nat.zero_le _) (Nat.zero_le _) dX5_keep_35 ?_
  obtain ⟨t_4, et_4, hf⟩ := nm_of hf
  rw [← et_4]
  obtain ⟨v_5, ev_5, hf⟩ := nm_of hf
  refine va_put (D := D) (ci := 3) (v := .int t_4) (ty := .int) (C := RX5) (T := TX5) (N := 3) hx hb hts hi3 tyX5 tyX5_ok nmX5 hown hK hP hD hS 0 rfl rfl 2 (by decide) hw3 (fun _ h9 => h9) rfl (by decide +kernel) rfl rfl (Nat.le_of_ble_eq_true rfl) dX5_keep_38 (fun H locs hP hD hS => ?_)
  have hP : va_P D vwCl (kHist Q v_5 ++ kHH G Q v_2 ++ kHouse G q0 v0) H := by rw [ev_5]; exact hP
  have hD : va_D A (kHist Q v_5 ++ kHH G Q v_2 ++ kHouse G q0 v0) := by rw [ev_5]; exact hD
  obtain ⟨rfl, rfl⟩ := re2 hf
  exact hE hP hD hS dX5_keep_41
def f_X5_keep_2 (vhi : SV) (vhh : (Nat → SV)) (v0 : SV) : Option (SV × (Nat → SV)) :=
  ckI (vhi.1 0) 8 <|
  ckP ((vhi.1 0) = 2) <|
  bd1 (f_X6_take (vhh 2) v0) fun w_1 =>
  nm (hu vhh 2 w_1) fun v_2 =>
  nm (pF vhi 0 (((vhi.1 0) + 1) - ((vhi.1 0) + 1) / 8 * 8)) fun v_3 =>
  nm (if 8 < ((v_3.1 1) + 1) then 8 else ((v_3.1 1) + 1)) fun t_4 =>
  nm (pF v_3 1 t_4) fun v_5 =>
  some (v_5, v_2)
abbrev rm_X5_keep_2 : Room := { frames := 3, cells := 0, slots := 0, locals := 60 }
set_option maxHeartbeats 4000000 in
set_option maxRecDepth 100000 in
theorem c_X5_keep_2 (l : Launch) (D : va_G) (G : Nat → ClassId) (Q : Nat → Nat → Nat) (q0 : Nat → Nat) (vhi : SV) (vhh : (Nat → SV)) (v0 : SV) (vhi' : SV) (vhh' : (Nat → SV)) (hf : f_X5_keep_2 vhi vhh v0 = some (vhi', vhh')) (sz : Nat) : mC l yX5_keep wsX5_keep rm_X5_keep_2 D (tyG G) kT [.ref ((Q 4) 0), .ref (q0 0)] (kHist Q vhi ++ kHH G Q vhh ++ kHouse G q0 v0) (kHist Q vhi' ++ kHH G Q vhh' ++ kHouse G q0 v0) sz none 0 0 := by
  refine mC_ofV (cc := cX5_keep) (maxL := 2) (ret := none) (by decide) rfl rfl (Nat.le_of_ble_eq_true rfl) ?_
  intro p e s m args below meth c Q0 hx hb hml hts hown hN hK A hD hA hE hP hS hJ ls hl
  have hl : lv_has ls 2 [(0, .ref ((Q 4) 0)), (1, .ref (q0 0))] := hl
  unfold f_X5_keep_2 at hf
  have hi3 : ∀ w ∈ u_ws RX5 TX5 3, w ∈ wsX5_keep := by decide +kernel
  have hw1 := hts (.fieldLink RX5 11 "BalconyCensus$History" "houses" "[LBalconyCensus$House;") (by decide +kernel)
  have hw2 := hts (.fieldLink RX5 18 "BalconyCensus$History" "next" "I") (by decide +kernel)
  have hw3 := hts (.fieldLink RX5 26 "BalconyCensus$History" "count" "I") (by decide +kernel)
  have hw4 := hts (.methodLink RX5 29 Lib.Math.min.name) (by decide +kernel)
  have hw5 := hts (.static Lib.Math.min.name) (by decide +kernel)
  have hw6 := hts (.initialized "java/lang/Math") (by decide +kernel)
  have hw7 := hts (.code Lib.Math.min.name Lib.Math.min.code 2 (some .int)) (by decide +kernel)
  refine lv_aload_n hx hb dX5_keep_0 rfl (lv_at hl 0 rfl) ?_
  refine va_get (D := D) (ci := 3) (v := .ref (Q 4 1)) (C := RX5) (T := TX5) (N := 3) hx hb hts hi3 hown hK hP 0 rfl rfl 0 (by decide) hw1 (fun _ h9 => h9) rfl dX5_keep_1 ?_
  refine lv_aload_n hx hb dX5_keep_4 rfl (lv_at hl 0 rfl) ?_
  refine va_get (D := D) (ci := 3) (v := .int (vhi.1 0)) (C := RX5) (T := TX5) (N := 3) hx hb hts hi3 hown hK hP 0 rfl rfl 1 (by decide) hw2 (fun _ h9 => h9) rfl dX5_keep_5 ?_
  obtain ⟨hin, hf⟩ := ckI_of hf
  obtain ⟨hk, hf⟩ := ckP_of hf
  rw [hk] at hin ⊢
  refine va_aldq (D := D) hx hb hK hP 1 3 rfl rfl hin dX5_keep_8 ?_
  refine W.eq (g2 := F0 m 9 ls [.ref (Q 12 0)]) rfl ?_
  refine lv_aload_n hx hb dX5_keep_9 rfl (lv_at hl 1 rfl) ?_
  obtain ⟨w_1, hc, hf⟩ := bd1_of hf
  have hPb : va_P D vwCl ((kHist Q vhi ++ kHHx2 G Q vhh) ++ (kHouse G (Q 12) (vhh 2) ++ kHouse G q0 v0)) s.heap := by simp only [pP_app, kHH2_P, kHHx2_hu, hu_s] at hP ⊢; simp only [hP, and_self]
  have hDb : va_D A ((kHist Q vhi ++ kHHx2 G Q vhh) ++ (kHouse G (Q 12) (vhh 2) ++ kHouse G q0 v0)) := by simp only [pD_app, Dj_l, Dj_r, kHH2_D, kHH2_j, kHH2_i, kHHx2_hu, hu_s] at hD ⊢; simp only [hD, and_self]
  refine k_VB (As := [.ref (q0 0)]) (rest := []) ⟨hx, hb, hml, hown, hts⟩ (c_X6_take l D G (Q 12) q0  (vhh 2) v0 _ hc  _) (cwV 1 hts gX5_keep_X6_take rfl rfl rfl (by decide +kernel) ⟨Nat.le_of_ble_eq_true rfl, Nat.le_of_ble_eq_true rfl⟩) hl.1 (Nat.le_of_ble_eq_true rfl) dX5_keep_10 ⟨Nat.le_of_ble_eq_true rfl, Nat.le_of_ble_eq_true rfl⟩ rfl kT_bl (fun _ _ _ => trivial) hN hK hPb hDb hS hA 0 4 rfl rfl rfl [0, 1, 2, 3] rfl (fun H locs hP hD hS => ?_)
  have hP : va_P D vwCl (kHist Q vhi ++ kHH G Q (hu vhh 2 w_1) ++ kHouse G q0 v0) H := by simp only [pP_app, kHH2_P, kHHx2_hu, hu_s] at hP ⊢; simp only [hP, and_self]
  have hD : va_D A (kHist Q vhi ++ kHH G Q (hu vhh 2 w_1) ++ kHouse G q0 v0) := by simp only [pD_app, Dj_l, Dj_r, kHH2_D, kHH2_j, kHH2_i, kHHx2_hu, hu_s] at hD ⊢; simp only [hD, and_self]
  obtain ⟨v_2, ev_2, hf⟩ := nm_of hf
  have hP : va_P D vwCl (kHist Q vhi ++ kHH G Q v_2 ++ kHouse G q0 v0) H := by rw [ev_2]; exact hP
  have hD : va_D A (kHist Q vhi ++ kHH G Q v_2 ++ kHouse G q0 v0) := by rw [ev_2]; exact hD
  refine lv_aload_n hx hb dX5_keep_13 rfl (lv_at hl 0 rfl) ?_
  refine lv_aload_n hx hb dX5_keep_14 rfl (lv_at hl 0 rfl) ?_
  refine va_get (D := D) (ci := 3) (v := .int (vhi.1 0)) (C := RX5) (T := TX5) (N := 3) hx hb hts hi3 hown hK hP 0 rfl rfl 1 (by decide) hw2 (fun _ h9 => h9) rfl dX5_keep_15 ?_
  refine lv_iconst (v := 1) hx hb dX5_keep_18 (by decide) ?_
  refine lv_iadd hx hb dX5_keep_19 ?_
  refine lv_bipush (v := 8) hx hb dX5_keep_20 (by decide +kernel) ?_
  refine lv_irem hx hb dX5_keep_22 (by decide) ?_
  obtain ⟨v_3, ev_3, hf⟩ := nm_of hf
  refine va_put (D := D) (ci := 3) (v := .int (((vhi.1 0) + 1) - ((vhi.1 0) + 1) / 8 * 8)) (ty := .int) (C := RX5) (T := TX5) (N := 3) hx hb hts hi3 tyX5 tyX5_ok nmX5 hown hK hP hD hS 0 rfl rfl 1 (by decide) hw2 (fun _ h9 => h9) rfl (by decide +kernel) rfl rfl (Nat.le_of_ble_eq_true rfl) dX5_keep_23 (fun H locs hP hD hS => ?_)
  have hP : va_P D vwCl (kHist Q v_3 ++ kHH G Q v_2 ++ kHouse G q0 v0) H := by rw [ev_3]; exact hP
  have hD : va_D A (kHist Q v_3 ++ kHH G Q v_2 ++ kHouse G q0 v0) := by rw [ev_3]; exact hD
  refine lv_aload_n hx hb dX5_keep_26 rfl (lv_at hl 0 rfl) ?_
  refine lv_aload_n hx hb dX5_keep_27 rfl (lv_at hl 0 rfl) ?_
  refine va_get (D := D) (ci := 3) (v := .int (v_3.1 1)) (C := RX5) (T := TX5) (N := 3) hx hb hts hi3 hown hK hP 0 rfl rfl 2 (by decide) hw3 (fun _ h9 => h9) rfl dX5_keep_28 ?_
  refine lv_iconst (v := 1) hx hb dX5_keep_31 (by decide) ?_
  refine lv_iadd hx hb dX5_keep_32 ?_
  refine lv_bipush (v := 8) hx hb dX5_keep_33 (by decide +kernel) ?_
  refine va_mmin hx hb (hml.trans hl.1.symm) hown hw4 hw5 hw6 hw7 (Nat.le_of_ble_eq_true rfl) (Nat.le_of_ble_eq_true rfl) (Nat.zero_le _) (Nat.zero_le _) dX5_keep_35 ?_
  obtain ⟨t_4, et_4, hf⟩ := nm_of hf
  rw [← et_4]
  obtain ⟨v_5, ev_5, hf⟩ := nm_of hf
  refine va_put (D := D) (ci := 3) (v := .int t_4) (ty := .int) (C := RX5) (T := TX5) (N := 3) hx hb hts hi3 tyX5 tyX5_ok nmX5 hown hK hP hD hS 0 rfl rfl 2 (by decide) hw3 (fun _ h9 => h9) rfl (by decide +kernel) rfl rfl (Nat.le_of_ble_eq_true rfl) dX5_keep_38 (fun H locs hP hD hS => ?_)
  have hP : va_P D vwCl (kHist Q v_5 ++ kHH G Q v_2 ++ kHouse G q0 v0) H := by rw [ev_5]; exact hP
  have hD : va_D A (kHist Q v_5 ++ kHH G Q v_2 ++ kHouse G q0 v0) := by rw [ev_5]; exact hD
  obtain ⟨rfl, rfl⟩ := re2 hf
  exact hE hP hD hS dX5_keep_41
def f_X5_keep_3 (vhi : SV) (vhh : (Nat → SV)) (v0 : SV) : Option (SV × (Nat → SV)) :=
  ckI (vhi.1 0) 8 <|
  ckP ((vhi.1 0) = 3) <|
  bd1 (f_X6_take (vhh 3) v0) fun w_1 =>
  nm (hu vhh 3 w_1) fun v_2 =>
  nm (pF vhi 0 (((vhi.1 0) + 1) - ((vhi.1 0) + 1) / 8 * 8)) fun v_3 =>
  nm (if 8 < ((v_3.1 1) + 1) then 8 else ((v_3.1 1) + 1)) fun t_4 =>
  nm (pF v_3 1 t_4) fun v_5 =>
  some (v_5, v_2)
abbrev rm_X5_keep_3 : Room := { frames := 3, cells := 0, slots := 0, locals := 60 }
set_option maxHeartbeats 4000000 in
set_option maxRecDepth 100000 in
theorem c_X5_keep_3 (l : Launch) (D : va_G) (G : Nat → ClassId) (Q : Nat → Nat → Nat) (q0 : Nat → Nat) (vhi : SV) (vhh : (Nat → SV)) (v0 : SV) (vhi' : SV) (vhh' : (Nat → SV)) (hf : f_X5_keep_3 vhi vhh v0 = some (vhi', vhh')) (sz : Nat) : mC l yX5_keep wsX5_keep rm_X5_keep_3 D (tyG G) kT [.ref ((Q 4) 0), .ref (q0 0)] (kHist Q vhi ++ kHH G Q vhh ++ kHouse G q0 v0) (kHist Q vhi' ++ kHH G Q vhh' ++ kHouse G q0 v0) sz none 0 0 := by
  refine mC_ofV (cc := cX5_keep) (maxL := 2) (ret := none) (by decide) rfl rfl (Nat.le_of_ble_eq_true rfl) ?_
  intro p e s m args below meth c Q0 hx hb hml hts hown hN hK A hD hA hE hP hS hJ ls hl
  have hl : lv_has ls 2 [(0, .ref ((Q 4) 0)), (1, .ref (q0 0))] := hl
  unfold f_X5_keep_3 at hf
  have hi3 : ∀ w ∈ u_ws RX5 TX5 3, w ∈ wsX5_keep := by decide +kernel
  have hw1 := hts (.fieldLink RX5 11 "BalconyCensus$History" "houses" "[LBalconyCensus$House;") (by decide +kernel)
  have hw2 := hts (.fieldLink RX5 18 "BalconyCensus$History" "next" "I") (by decide +kernel)
  have hw3 := hts (.fieldLink RX5 26 "BalconyCensus$History" "count" "I") (by decide +kernel)
  have hw4 := hts (.methodLink RX5 29 Lib.Math.min.name) (by decide +kernel)
  have hw5 := hts (.static Lib.Math.min.name) (by decide +kernel)
  have hw6 := hts (.initialized "java/lang/Math") (by decide +kernel)
  have hw7 := hts (.code Lib.Math.min.name Lib.Math.min.code 2 (some .int)) (by decide +kernel)
  refine lv_aload_n hx hb dX5_keep_0 rfl (lv_at hl 0 rfl) ?_
  refine va_get (D := D) (ci := 3) (v := .ref (Q 4 1)) (C := RX5) (T := TX5) (N := 3) hx hb hts hi3 hown hK hP 0 rfl rfl 0 (by decide) hw1 (fun _ h9 => h9) rfl dX5_keep_1 ?_
  refine lv_aload_n hx hb dX5_keep_4 rfl (lv_at hl 0 rfl) ?_
  refine va_get (D := D) (ci := 3) (v := .int (vhi.1 0)) (C := RX5) (T := TX5) (N := 3) hx hb hts hi3 hown hK hP 0 rfl rfl 1 (by decide) hw2 (fun _ h9 => h9) rfl dX5_keep_5 ?_
  obtain ⟨hin, hf⟩ := ckI_of hf
  obtain ⟨hk, hf⟩ := ckP_of hf
  rw [hk] at hin ⊢
  refine va_aldq (D := D) hx hb hK hP 1 3 rfl rfl hin dX5_keep_8 ?_
  refine W.eq (g2 := F0 m 9 ls [.ref (Q 13 0)]) rfl ?_
  refine lv_aload_n hx hb dX5_keep_9 rfl (lv_at hl 1 rfl) ?_
  obtain ⟨w_1, hc, hf⟩ := bd1_of hf
  have hPb : va_P D vwCl ((kHist Q vhi ++ kHHx3 G Q vhh) ++ (kHouse G (Q 13) (vhh 3) ++ kHouse G q0 v0)) s.heap := by simp only [pP_app, kHH3_P, kHHx3_hu, hu_s] at hP ⊢; simp only [hP, and_self]
  have hDb : va_D A ((kHist Q vhi ++ kHHx3 G Q vhh) ++ (kHouse G (Q 13) (vhh 3) ++ kHouse G q0 v0)) := by simp only [pD_app, Dj_l, Dj_r, kHH3_D, kHH3_j, kHH3_i, kHHx3_hu, hu_s] at hD ⊢; simp only [hD, and_self]
  refine k_VB (As := [.ref (q0 0)]) (rest := []) ⟨hx, hb, hml, hown, hts⟩ (c_X6_take l D G (Q 13) q0  (vhh 3) v0 _ hc  _) (cwV 1 hts gX5_keep_X6_take rfl rfl rfl (by decide +kernel) ⟨Nat.le_of_ble_eq_true rfl, Nat.le_of_ble_eq_true rfl⟩) hl.1 (Nat.le_of_ble_eq_true rfl) dX5_keep_10 ⟨Nat.le_of_ble_eq_true rfl, Nat.le_of_ble_eq_true rfl⟩ rfl kT_bl (fun _ _ _ => trivial) hN hK hPb hDb hS hA 0 4 rfl rfl rfl [0, 1, 2, 3] rfl (fun H locs hP hD hS => ?_)
  have hP : va_P D vwCl (kHist Q vhi ++ kHH G Q (hu vhh 3 w_1) ++ kHouse G q0 v0) H := by simp only [pP_app, kHH3_P, kHHx3_hu, hu_s] at hP ⊢; simp only [hP, and_self]
  have hD : va_D A (kHist Q vhi ++ kHH G Q (hu vhh 3 w_1) ++ kHouse G q0 v0) := by simp only [pD_app, Dj_l, Dj_r, kHH3_D, kHH3_j, kHH3_i, kHHx3_hu, hu_s] at hD ⊢; simp only [hD, and_self]
  obtain ⟨v_2, ev_2, hf⟩ := nm_of hf
  have hP : va_P D vwCl (kHist Q vhi ++ kHH G Q v_2 ++ kHouse G q0 v0) H := by rw [ev_2]; exact hP
  have hD : va_D A (kHist Q vhi ++ kHH G Q v_2 ++ kHouse G q0 v0) := by rw [ev_2]; exact hD
  refine lv_aload_n hx hb dX5_keep_13 rfl (lv_at hl 0 rfl) ?_
  refine lv_aload_n hx hb dX5_keep_14 rfl (lv_at hl 0 rfl) ?_
  refine va_get (D := D) (ci := 3) (v := .int (vhi.1 0)) (C := RX5) (T := TX5) (N := 3) hx hb hts hi3 hown hK hP 0 rfl rfl 1 (by decide) hw2 (fun _ h9 => h9) rfl dX5_keep_15 ?_
  refine lv_iconst (v := 1) hx hb dX5_keep_18 (by decide) ?_
  refine lv_iadd hx hb dX5_keep_19 ?_
  refine lv_bipush (v := 8) hx hb dX5_keep_20 (by decide +kernel) ?_
  refine lv_irem hx hb dX5_keep_22 (by decide) ?_
  obtain ⟨v_3, ev_3, hf⟩ := nm_of hf
  refine va_put (D := D) (ci := 3) (v := .int (((vhi.1 0) + 1) - ((vhi.1 0) + 1) / 8 * 8)) (ty := .int) (C := RX5) (T := TX5) (N := 3) hx hb hts hi3 tyX5 tyX5_ok nmX5 hown hK hP hD hS 0 rfl rfl 1 (by decide) hw2 (fun _ h9 => h9) rfl (by decide +kernel) rfl rfl (Nat.le_of_ble_eq_true rfl) dX5_keep_23 (fun H locs hP hD hS => ?_)
  have hP : va_P D vwCl (kHist Q v_3 ++ kHH G Q v_2 ++ kHouse G q0 v0) H := by rw [ev_3]; exact hP
  have hD : va_D A (kHist Q v_3 ++ kHH G Q v_2 ++ kHouse G q0 v0) := by rw [ev_3]; exact hD
  refine lv_aload_n hx hb dX5_keep_26 rfl (lv_at hl 0 rfl) ?_
  refine lv_aload_n hx hb dX5_keep_27 rfl (lv_at hl 0 rfl) ?_
  refine va_get (D := D) (ci := 3) (v := .int (v_3.1 1)) (C := RX5) (T := TX5) (N := 3) hx hb hts hi3 hown hK hP 0 rfl rfl 2 (by decide) hw3 (fun _ h9 => h9) rfl dX5_keep_28 ?_
  refine lv_iconst (v := 1) hx hb dX5_keep_31 (by decide) ?_
  refine lv_iadd hx hb dX5_keep_32 ?_
  refine lv_bipush (v := 8) hx hb dX5_keep_33 (by decide +kernel) ?_
  refine va_mmin hx hb (hml.trans hl.1.symm) hown hw4 hw5 hw6 hw7 (Nat.le_of_ble_eq_true rfl) (Nat.le_of_ble_eq_true rfl) (Nat.zero_le _) (Nat.zero_le _) dX5_keep_35 ?_
  obtain ⟨t_4, et_4, hf⟩ := nm_of hf
  rw [← et_4]
  obtain ⟨v_5, ev_5, hf⟩ := nm_of hf
  refine va_put (D := D) (ci := 3) (v := .int t_4) (ty := .int) (C := RX5) (T := TX5) (N := 3) hx hb hts hi3 tyX5 tyX5_ok nmX5 hown hK hP hD hS 0 rfl rfl 2 (by decide) hw3 (fun _ h9 => h9) rfl (by decide +kernel) rfl rfl (Nat.le_of_ble_eq_true rfl) dX5_keep_38 (fun H locs hP hD hS => ?_)
  have hP : va_P D vwCl (kHist Q v_5 ++ kHH G Q v_2 ++ kHouse G q0 v0) H := by rw [ev_5]; exact hP
  have hD : va_D A (kHist Q v_5 ++ kHH G Q v_2 ++ kHouse G q0 v0) := by rw [ev_5]; exact hD
  obtain ⟨rfl, rfl⟩ := re2 hf
  exact hE hP hD hS dX5_keep_41
def f_X5_keep_4 (vhi : SV) (vhh : (Nat → SV)) (v0 : SV) : Option (SV × (Nat → SV)) :=
  ckI (vhi.1 0) 8 <|
  ckP ((vhi.1 0) = 4) <|
  bd1 (f_X6_take (vhh 4) v0) fun w_1 =>
  nm (hu vhh 4 w_1) fun v_2 =>
  nm (pF vhi 0 (((vhi.1 0) + 1) - ((vhi.1 0) + 1) / 8 * 8)) fun v_3 =>
  nm (if 8 < ((v_3.1 1) + 1) then 8 else ((v_3.1 1) + 1)) fun t_4 =>
  nm (pF v_3 1 t_4) fun v_5 =>
  some (v_5, v_2)
abbrev rm_X5_keep_4 : Room := { frames := 3, cells := 0, slots := 0, locals := 60 }
set_option maxHeartbeats 4000000 in
set_option maxRecDepth 100000 in
theorem c_X5_keep_4 (l : Launch) (D : va_G) (G : Nat → ClassId) (Q : Nat → Nat → Nat) (q0 : Nat → Nat) (vhi : SV) (vhh : (Nat → SV)) (v0 : SV) (vhi' : SV) (vhh' : (Nat → SV)) (hf : f_X5_keep_4 vhi vhh v0 = some (vhi', vhh')) (sz : Nat) : mC l yX5_keep wsX5_keep rm_X5_keep_4 D (tyG G) kT [.ref ((Q 4) 0), .ref (q0 0)] (kHist Q vhi ++ kHH G Q vhh ++ kHouse G q0 v0) (kHist Q vhi' ++ kHH G Q vhh' ++ kHouse G q0 v0) sz none 0 0 := by
  refine mC_ofV (cc := cX5_keep) (maxL := 2) (ret := none) (by decide) rfl rfl (Nat.le_of_ble_eq_true rfl) ?_
  intro p e s m args below meth c Q0 hx hb hml hts hown hN hK A hD hA hE hP hS hJ ls hl
  have hl : lv_has ls 2 [(0, .ref ((Q 4) 0)), (1, .ref (q0 0))] := hl
  unfold f_X5_keep_4 at hf
  have hi3 : ∀ w ∈ u_ws RX5 TX5 3, w ∈ wsX5_keep := by decide +kernel
  have hw1 := hts (.fieldLink RX5 11 "BalconyCensus$History" "houses" "[LBalconyCensus$House;") (by decide +kernel)
  have hw2 := hts (.fieldLink RX5 18 "BalconyCensus$History" "next" "I") (by decide +kernel)
  have hw3 := hts (.fieldLink RX5 26 "BalconyCensus$History" "count" "I") (by decide +kernel)
  have hw4 := hts (.methodLink RX5 29 Lib.Math.min.name) (by decide +kernel)
  have hw5 := hts (.static Lib.Math.min.name) (by decide +kernel)
  have hw6 := hts (.initialized "java/lang/Math") (by decide +kernel)
  have hw7 := hts (.code Lib.Math.min.name Lib.Math.min.code 2 (some .int)) (by decide +kernel)
  refine lv_aload_n hx hb dX5_keep_0 rfl (lv_at hl 0 rfl) ?_
  refine va_get (D := D) (ci := 3) (v := .ref (Q 4 1)) (C := RX5) (T := TX5) (N := 3) hx hb hts hi3 hown hK hP 0 rfl rfl 0 (by decide) hw1 (fun _ h9 => h9) rfl dX5_keep_1 ?_
  refine lv_aload_n hx hb dX5_keep_4 rfl (lv_at hl 0 rfl) ?_
  refine va_get (D := D) (ci := 3) (v := .int (vhi.1 0)) (C := RX5) (T := TX5) (N := 3) hx hb hts hi3 hown hK hP 0 rfl rfl 1 (by decide) hw2 (fun _ h9 => h9) rfl dX5_keep_5 ?_
  obtain ⟨hin, hf⟩ := ckI_of hf
  obtain ⟨hk, hf⟩ := ckP_of hf
  rw [hk] at hin ⊢
  refine va_aldq (D := D) hx hb hK hP 1 3 rfl rfl hin dX5_keep_8 ?_
  refine W.eq (g2 := F0 m 9 ls [.ref (Q 14 0)]) rfl ?_
  refine lv_aload_n hx hb dX5_keep_9 rfl (lv_at hl 1 rfl) ?_
  obtain ⟨w_1, hc, hf⟩ := bd1_of hf
  have hPb : va_P D vwCl ((kHist Q vhi ++ kHHx4 G Q vhh) ++ (kHouse G (Q 14) (vhh 4) ++ kHouse G q0 v0)) s.heap := by simp only [pP_app, kHH4_P, kHHx4_hu, hu_s] at hP ⊢; simp only [hP, and_self]
  have hDb : va_D A ((kHist Q vhi ++ kHHx4 G Q vhh) ++ (kHouse G (Q 14) (vhh 4) ++ kHouse G q0 v0)) := by simp only [pD_app, Dj_l, Dj_r, kHH4_D, kHH4_j, kHH4_i, kHHx4_hu, hu_s] at hD ⊢; simp only [hD, and_self]
  refine k_VB (As := [.ref (q0 0)]) (rest := []) ⟨hx, hb, hml, hown, hts⟩ (c_X6_take l D G (Q 14) q0  (vhh 4) v0 _ hc  _) (cwV 1 hts gX5_keep_X6_take rfl rfl rfl (by decide +kernel) ⟨Nat.le_of_ble_eq_true rfl, Nat.le_of_ble_eq_true rfl⟩) hl.1 (Nat.le_of_ble_eq_true rfl) dX5_keep_10 ⟨Nat.le_of_ble_eq_true rfl, Nat.le_of_ble_eq_true rfl⟩ rfl kT_bl (fun _ _ _ => trivial) hN hK hPb hDb hS hA 0 4 rfl rfl rfl [0, 1, 2, 3] rfl (fun H locs hP hD hS => ?_)
  have hP : va_P D vwCl (kHist Q vhi ++ kHH G Q (hu vhh 4 w_1) ++ kHouse G q0 v0) H := by simp only [pP_app, kHH4_P, kHHx4_hu, hu_s] at hP ⊢; simp only [hP, and_self]
  have hD : va_D A (kHist Q vhi ++ kHH G Q (hu vhh 4 w_1) ++ kHouse G q0 v0) := by simp only [pD_app, Dj_l, Dj_r, kHH4_D, kHH4_j, kHH4_i, kHHx4_hu, hu_s] at hD ⊢; simp only [hD, and_self]
  obtain ⟨v_2, ev_2, hf⟩ := nm_of hf
  have hP : va_P D vwCl (kHist Q vhi ++ kHH G Q v_2 ++ kHouse G q0 v0) H := by rw [ev_2]; exact hP
  have hD : va_D A (kHist Q vhi ++ kHH G Q v_2 ++ kHouse G q0 v0) := by rw [ev_2]; exact hD
  refine lv_aload_n hx hb dX5_keep_13 rfl (lv_at hl 0 rfl) ?_
  refine lv_aload_n hx hb dX5_keep_14 rfl (lv_at hl 0 rfl) ?_
  refine va_get (D := D) (ci := 3) (v := .int (vhi.1 0)) (C := RX5) (T := TX5) (N := 3) hx hb hts hi3 hown hK hP 0 rfl rfl 1 (by decide) hw2 (fun _ h9 => h9) rfl dX5_keep_15 ?_
  refine lv_iconst (v := 1) hx hb dX5_keep_18 (by decide) ?_
  refine lv_iadd hx hb dX5_keep_19 ?_
  refine lv_bipush (v := 8) hx hb dX5_keep_20 (by decide +kernel) ?_
  refine lv_irem hx hb dX5_keep_22 (by decide) ?_
  obtain ⟨v_3, ev_3, hf⟩ := nm_of hf
  refine va_put (D := D) (ci := 3) (v := .int (((vhi.1 0) + 1) - ((vhi.1 0) + 1) / 8 * 8)) (ty := .int) (C := RX5) (T := TX5) (N := 3) hx hb hts hi3 tyX5 tyX5_ok nmX5 hown hK hP hD hS 0 rfl rfl 1 (by decide) hw2 (fun _ h9 => h9) rfl (by decide +kernel) rfl rfl (Nat.le_of_ble_eq_true rfl) dX5_keep_23 (fun H locs hP hD hS => ?_)
  have hP : va_P D vwCl (kHist Q v_3 ++ kHH G Q v_2 ++ kHouse G q0 v0) H := by rw [ev_3]; exact hP
  have hD : va_D A (kHist Q v_3 ++ kHH G Q v_2 ++ kHouse G q0 v0) := by rw [ev_3]; exact hD
  refine lv_aload_n hx hb dX5_keep_26 rfl (lv_at hl 0 rfl) ?_
  refine lv_aload_n hx hb dX5_keep_27 rfl (lv_at hl 0 rfl) ?_
  refine va_get (D := D) (ci := 3) (v := .int (v_3.1 1)) (C := RX5) (T := TX5) (N := 3) hx hb hts hi3 hown hK hP 0 rfl rfl 2 (by decide) hw3 (fun _ h9 => h9) rfl dX5_keep_28 ?_
  refine lv_iconst (v := 1) hx hb dX5_keep_31 (by decide) ?_
  refine lv_iadd hx hb dX5_keep_32 ?_
  refine lv_bipush (v := 8) hx hb dX5_keep_33 (by decide +kernel) ?_
  refine va_mmin hx hb (hml.trans hl.1.symm) hown hw4 hw5 hw6 hw7 (Nat.le_of_ble_eq_true rfl) (Nat.le_of_ble_eq_true rfl) (Nat.zero_le _) (Nat.zero_le _) dX5_keep_35 ?_
  obtain ⟨t_4, et_4, hf⟩ := nm_of hf
  rw [← et_4]
  obtain ⟨v_5, ev_5, hf⟩ := nm_of hf
  refine va_put (D := D) (ci := 3) (v := .int t_4) (ty := .int) (C := RX5) (T := TX5) (N := 3) hx hb hts hi3 tyX5 tyX5_ok nmX5 hown hK hP hD hS 0 rfl rfl 2 (by decide) hw3 (fun _ h9 => h9) rfl (by decide +kernel) rfl rfl (Nat.le_of_ble_eq_true rfl) dX5_keep_38 (fun H locs hP hD hS => ?_)
  have hP : va_P D vwCl (kHist Q v_5 ++ kHH G Q v_2 ++ kHouse G q0 v0) H := by rw [ev_5]; exact hP
  have hD : va_D A (kHist Q v_5 ++ kHH G Q v_2 ++ kHouse G q0 v0) := by rw [ev_5]; exact hD
  obtain ⟨rfl, rfl⟩ := re2 hf
  exact hE hP hD hS dX5_keep_41
def f_X5_keep_5 (vhi : SV) (vhh : (Nat → SV)) (v0 : SV) : Option (SV × (Nat → SV)) :=
  ckI (vhi.1 0) 8 <|
  ckP ((vhi.1 0) = 5) <|
  bd1 (f_X6_take (vhh 5) v0) fun w_1 =>
  nm (hu vhh 5 w_1) fun v_2 =>
  nm (pF vhi 0 (((vhi.1 0) + 1) - ((vhi.1 0) + 1) / 8 * 8)) fun v_3 =>
  nm (if 8 < ((v_3.1 1) + 1) then 8 else ((v_3.1 1) + 1)) fun t_4 =>
  nm (pF v_3 1 t_4) fun v_5 =>
  some (v_5, v_2)
abbrev rm_X5_keep_5 : Room := { frames := 3, cells := 0, slots := 0, locals := 60 }
set_option maxHeartbeats 4000000 in
set_option maxRecDepth 100000 in
theorem c_X5_keep_5 (l : Launch) (D : va_G) (G : Nat → ClassId) (Q : Nat → Nat → Nat) (q0 : Nat → Nat) (vhi : SV) (vhh : (Nat → SV)) (v0 : SV) (vhi' : SV) (vhh' : (Nat → SV)) (hf : f_X5_keep_5 vhi vhh v0 = some (vhi', vhh')) (sz : Nat) : mC l yX5_keep wsX5_keep rm_X5_keep_5 D (tyG G) kT [.ref ((Q 4) 0), .ref (q0 0)] (kHist Q vhi ++ kHH G Q vhh ++ kHouse G q0 v0) (kHist Q vhi' ++ kHH G Q vhh' ++ kHouse G q0 v0) sz none 0 0 := by
  refine mC_ofV (cc := cX5_keep) (maxL := 2) (ret := none) (by decide) rfl rfl (Nat.le_of_ble_eq_true rfl) ?_
  intro p e s m args below meth c Q0 hx hb hml hts hown hN hK A hD hA hE hP hS hJ ls hl
  have hl : lv_has ls 2 [(0, .ref ((Q 4) 0)), (1, .ref (q0 0))] := hl
  unfold f_X5_keep_5 at hf
  have hi3 : ∀ w ∈ u_ws RX5 TX5 3, w ∈ wsX5_keep := by decide +kernel
  have hw1 := hts (.fieldLink RX5 11 "BalconyCensus$History" "houses" "[LBalconyCensus$House;") (by decide +kernel)
  have hw2 := hts (.fieldLink RX5 18 "BalconyCensus$History" "next" "I") (by decide +kernel)
  have hw3 := hts (.fieldLink RX5 26 "BalconyCensus$History" "count" "I") (by decide +kernel)
  have hw4 := hts (.methodLink RX5 29 Lib.Math.min.name) (by decide +kernel)
  have hw5 := hts (.static Lib.Math.min.name) (by decide +kernel)
  have hw6 := hts (.initialized "java/lang/Math") (by decide +kernel)
  have hw7 := hts (.code Lib.Math.min.name Lib.Math.min.code 2 (some .int)) (by decide +kernel)
  refine lv_aload_n hx hb dX5_keep_0 rfl (lv_at hl 0 rfl) ?_
  refine va_get (D := D) (ci := 3) (v := .ref (Q 4 1)) (C := RX5) (T := TX5) (N := 3) hx hb hts hi3 hown hK hP 0 rfl rfl 0 (by decide) hw1 (fun _ h9 => h9) rfl dX5_keep_1 ?_
  refine lv_aload_n hx hb dX5_keep_4 rfl (lv_at hl 0 rfl) ?_
  refine va_get (D := D) (ci := 3) (v := .int (vhi.1 0)) (C := RX5) (T := TX5) (N := 3) hx hb hts hi3 hown hK hP 0 rfl rfl 1 (by decide) hw2 (fun _ h9 => h9) rfl dX5_keep_5 ?_
  obtain ⟨hin, hf⟩ := ckI_of hf
  obtain ⟨hk, hf⟩ := ckP_of hf
  rw [hk] at hin ⊢
  refine va_aldq (D := D) hx hb hK hP 1 3 rfl rfl hin dX5_keep_8 ?_
  refine W.eq (g2 := F0 m 9 ls [.ref (Q 15 0)]) rfl ?_
  refine lv_aload_n hx hb dX5_keep_9 rfl (lv_at hl 1 rfl) ?_
  obtain ⟨w_1, hc, hf⟩ := bd1_of hf
  have hPb : va_P D vwCl ((kHist Q vhi ++ kHHx5 G Q vhh) ++ (kHouse G (Q 15) (vhh 5) ++ kHouse G q0 v0)) s.heap := by simp only [pP_app, kHH5_P, kHHx5_hu, hu_s] at hP ⊢; simp only [hP, and_self]
  have hDb : va_D A ((kHist Q vhi ++ kHHx5 G Q vhh) ++ (kHouse G (Q 15) (vhh 5) ++ kHouse G q0 v0)) := by simp only [pD_app, Dj_l, Dj_r, kHH5_D, kHH5_j, kHH5_i, kHHx5_hu, hu_s] at hD ⊢; simp only [hD, and_self]
  refine k_VB (As := [.ref (q0 0)]) (rest := []) ⟨hx, hb, hml, hown, hts⟩ (c_X6_take l D G (Q 15) q0  (vhh 5) v0 _ hc  _) (cwV 1 hts gX5_keep_X6_take rfl rfl rfl (by decide +kernel) ⟨Nat.le_of_ble_eq_true rfl, Nat.le_of_ble_eq_true rfl⟩) hl.1 (Nat.le_of_ble_eq_true rfl) dX5_keep_10 ⟨Nat.le_of_ble_eq_true rfl, Nat.le_of_ble_eq_true rfl⟩ rfl kT_bl (fun _ _ _ => trivial) hN hK hPb hDb hS hA 0 4 rfl rfl rfl [0, 1, 2, 3] rfl (fun H locs hP hD hS => ?_)
  have hP : va_P D vwCl (kHist Q vhi ++ kHH G Q (hu vhh 5 w_1) ++ kHouse G q0 v0) H := by simp only [pP_app, kHH5_P, kHHx5_hu, hu_s] at hP ⊢; simp only [hP, and_self]
  have hD : va_D A (kHist Q vhi ++ kHH G Q (hu vhh 5 w_1) ++ kHouse G q0 v0) := by simp only [pD_app, Dj_l, Dj_r, kHH5_D, kHH5_j, kHH5_i, kHHx5_hu, hu_s] at hD ⊢; simp only [hD, and_self]
  obtain ⟨v_2, ev_2, hf⟩ := nm_of hf
  have hP : va_P D vwCl (kHist Q vhi ++ kHH G Q v_2 ++ kHouse G q0 v0) H := by rw [ev_2]; exact hP
  have hD : va_D A (kHist Q vhi ++ kHH G Q v_2 ++ kHouse G q0 v0) := by rw [ev_2]; exact hD
  refine lv_aload_n hx hb dX5_keep_13 rfl (lv_at hl 0 rfl) ?_
  refine lv_aload_n hx hb dX5_keep_14 rfl (lv_at hl 0 rfl) ?_
  refine va_get (D := D) (ci := 3) (v := .int (vhi.1 0)) (C := RX5) (T := TX5) (N := 3) hx hb hts hi3 hown hK hP 0 rfl rfl 1 (by decide) hw2 (fun _ h9 => h9) rfl dX5_keep_15 ?_
  refine lv_iconst (v := 1) hx hb dX5_keep_18 (by decide) ?_
  refine lv_iadd hx hb dX5_keep_19 ?_
  refine lv_bipush (v := 8) hx hb dX5_keep_20 (by decide +kernel) ?_
  refine lv_irem hx hb dX5_keep_22 (by decide) ?_
  obtain ⟨v_3, ev_3, hf⟩ := nm_of hf
  refine va_put (D := D) (ci := 3) (v := .int (((vhi.1 0) + 1) - ((vhi.1 0) + 1) / 8 * 8)) (ty := .int) (C := RX5) (T := TX5) (N := 3) hx hb hts hi3 tyX5 tyX5_ok nmX5 hown hK hP hD hS 0 rfl rfl 1 (by decide) hw2 (fun _ h9 => h9) rfl (by decide +kernel) rfl rfl (Nat.le_of_ble_eq_true rfl) dX5_keep_23 (fun H locs hP hD hS => ?_)
  have hP : va_P D vwCl (kHist Q v_3 ++ kHH G Q v_2 ++ kHouse G q0 v0) H := by rw [ev_3]; exact hP
  have hD : va_D A (kHist Q v_3 ++ kHH G Q v_2 ++ kHouse G q0 v0) := by rw [ev_3]; exact hD
  refine lv_aload_n hx hb dX5_keep_26 rfl (lv_at hl 0 rfl) ?_
  refine lv_aload_n hx hb dX5_keep_27 rfl (lv_at hl 0 rfl) ?_
  refine va_get (D := D) (ci := 3) (v := .int (v_3.1 1)) (C := RX5) (T := TX5) (N := 3) hx hb hts hi3 hown hK hP 0 rfl rfl 2 (by decide) hw3 (fun _ h9 => h9) rfl dX5_keep_28 ?_
  refine lv_iconst (v := 1) hx hb dX5_keep_31 (by decide) ?_
  refine lv_iadd hx hb dX5_keep_32 ?_
  refine lv_bipush (v := 8) hx hb dX5_keep_33 (by decide +kernel) ?_
  refine va_mmin hx hb (hml.trans hl.1.symm) hown hw4 hw5 hw6 hw7 (Nat.le_of_ble_eq_true rfl) (Nat.le_of_ble_eq_true rfl) (Nat.zero_le _) (Nat.zero_le _) dX5_keep_35 ?_
  obtain ⟨t_4, et_4, hf⟩ := nm_of hf
  rw [← et_4]
  obtain ⟨v_5, ev_5, hf⟩ := nm_of hf
  refine va_put (D := D) (ci := 3) (v := .int t_4) (ty := .int) (C := RX5) (T := TX5) (N := 3) hx hb hts hi3 tyX5 tyX5_ok nmX5 hown hK hP hD hS 0 rfl rfl 2 (by decide) hw3 (fun _ h9 => h9) rfl (by decide +kernel) rfl rfl (Nat.le_of_ble_eq_true rfl) dX5_keep_38 (fun H locs hP hD hS => ?_)
  have hP : va_P D vwCl (kHist Q v_5 ++ kHH G Q v_2 ++ kHouse G q0 v0) H := by rw [ev_5]; exact hP
  have hD : va_D A (kHist Q v_5 ++ kHH G Q v_2 ++ kHouse G q0 v0) := by rw [ev_5]; exact hD
  obtain ⟨rfl, rfl⟩ := re2 hf
  exact hE hP hD hS dX5_keep_41
def f_X5_keep_6 (vhi : SV) (vhh : (Nat → SV)) (v0 : SV) : Option (SV × (Nat → SV)) :=
  ckI (vhi.1 0) 8 <|
  ckP ((vhi.1 0) = 6) <|
  bd1 (f_X6_take (vhh 6) v0) fun w_1 =>
  nm (hu vhh 6 w_1) fun v_2 =>
  nm (pF vhi 0 (((vhi.1 0) + 1) - ((vhi.1 0) + 1) / 8 * 8)) fun v_3 =>
  nm (if 8 < ((v_3.1 1) + 1) then 8 else ((v_3.1 1) + 1)) fun t_4 =>
  nm (pF v_3 1 t_4) fun v_5 =>
  some (v_5, v_2)
abbrev rm_X5_keep_6 : Room := { frames := 3, cells := 0, slots := 0, locals := 60 }
set_option maxHeartbeats 4000000 in
set_option maxRecDepth 100000 in
theorem c_X5_keep_6 (l : Launch) (D : va_G) (G : Nat → ClassId) (Q : Nat → Nat → Nat) (q0 : Nat → Nat) (vhi : SV) (vhh : (Nat → SV)) (v0 : SV) (vhi' : SV) (vhh' : (Nat → SV)) (hf : f_X5_keep_6 vhi vhh v0 = some (vhi', vhh')) (sz : Nat) : mC l yX5_keep wsX5_keep rm_X5_keep_6 D (tyG G) kT [.ref ((Q 4) 0), .ref (q0 0)] (kHist Q vhi ++ kHH G Q vhh ++ kHouse G q0 v0) (kHist Q vhi' ++ kHH G Q vhh' ++ kHouse G q0 v0) sz none 0 0 := by
  refine mC_ofV (cc := cX5_keep) (maxL := 2) (ret := none) (by decide) rfl rfl (Nat.le_of_ble_eq_true rfl) ?_
  intro p e s m args below meth c Q0 hx hb hml hts hown hN hK A hD hA hE hP hS hJ ls hl
  have hl : lv_has ls 2 [(0, .ref ((Q 4) 0)), (1, .ref (q0 0))] := hl
  unfold f_X5_keep_6 at hf
  have hi3 : ∀ w ∈ u_ws RX5 TX5 3, w ∈ wsX5_keep := by decide +kernel
  have hw1 := hts (.fieldLink RX5 11 "BalconyCensus$History" "houses" "[LBalconyCensus$House;") (by decide +kernel)
  have hw2 := hts (.fieldLink RX5 18 "BalconyCensus$History" "next" "I") (by decide +kernel)
  have hw3 := hts (.fieldLink RX5 26 "BalconyCensus$History" "count" "I") (by decide +kernel)
  have hw4 := hts (.methodLink RX5 29 Lib.Math.min.name) (by decide +kernel)
  have hw5 := hts (.static Lib.Math.min.name) (by decide +kernel)
  have hw6 := hts (.initialized "java/lang/Math") (by decide +kernel)
  have hw7 := hts (.code Lib.Math.min.name Lib.Math.min.code 2 (some .int)) (by decide +kernel)
  refine lv_aload_n hx hb dX5_keep_0 rfl (lv_at hl 0 rfl) ?_
  refine va_get (D := D) (ci := 3) (v := .ref (Q 4 1)) (C := RX5) (T := TX5) (N := 3) hx hb hts hi3 hown hK hP 0 rfl rfl 0 (by decide) hw1 (fun _ h9 => h9) rfl dX5_keep_1 ?_
  refine lv_aload_n hx hb dX5_keep_4 rfl (lv_at hl 0 rfl) ?_
  refine va_get (D := D) (ci := 3) (v := .int (vhi.1 0)) (C := RX5) (T := TX5) (N := 3) hx hb hts hi3 hown hK hP 0 rfl rfl 1 (by decide) hw2 (fun _ h9 => h9) rfl dX5_keep_5 ?_
  obtain ⟨hin, hf⟩ := ckI_of hf
  obtain ⟨hk, hf⟩ := ckP_of hf
  rw [hk] at hin ⊢
  refine va_aldq (D := D) hx hb hK hP 1 3 rfl rfl hin dX5_keep_8 ?_
  refine W.eq (g2 := F0 m 9 ls [.ref (Q 16 0)]) rfl ?_
  refine lv_aload_n hx hb dX5_keep_9 rfl (lv_at hl 1 rfl) ?_
  obtain ⟨w_1, hc, hf⟩ := bd1_of hf
  have hPb : va_P D vwCl ((kHist Q vhi ++ kHHx6 G Q vhh) ++ (kHouse G (Q 16) (vhh 6) ++ kHouse G q0 v0)) s.heap := by simp only [pP_app, kHH6_P, kHHx6_hu, hu_s] at hP ⊢; simp only [hP, and_self]
  have hDb : va_D A ((kHist Q vhi ++ kHHx6 G Q vhh) ++ (kHouse G (Q 16) (vhh 6) ++ kHouse G q0 v0)) := by simp only [pD_app, Dj_l, Dj_r, kHH6_D, kHH6_j, kHH6_i, kHHx6_hu, hu_s] at hD ⊢; simp only [hD, and_self]
  refine k_VB (As := [.ref (q0 0)]) (rest := []) ⟨hx, hb, hml, hown, hts⟩ (c_X6_take l D G (Q 16) q0  (vhh 6) v0 _ hc  _) (cwV 1 hts gX5_keep_X6_take rfl rfl rfl (by decide +kernel) ⟨Nat.le_of_ble_eq_true rfl, Nat.le_of_ble_eq_true rfl⟩) hl.1 (Nat.le_of_ble_eq_true rfl) dX5_keep_10 ⟨Nat.le_of_ble_eq_true rfl, Nat.le_of_ble_eq_true rfl⟩ rfl kT_bl (fun _ _ _ => trivial) hN hK hPb hDb hS hA 0 4 rfl rfl rfl [0, 1, 2, 3] rfl (fun H locs hP hD hS => ?_)
  have hP : va_P D vwCl (kHist Q vhi ++ kHH G Q (hu vhh 6 w_1) ++ kHouse G q0 v0) H := by simp only [pP_app, kHH6_P, kHHx6_hu, hu_s] at hP ⊢; simp only [hP, and_self]
  have hD : va_D A (kHist Q vhi ++ kHH G Q (hu vhh 6 w_1) ++ kHouse G q0 v0) := by simp only [pD_app, Dj_l, Dj_r, kHH6_D, kHH6_j, kHH6_i, kHHx6_hu, hu_s] at hD ⊢; simp only [hD, and_self]
  obtain ⟨v_2, ev_2, hf⟩ := nm_of hf
  have hP : va_P D vwCl (kHist Q vhi ++ kHH G Q v_2 ++ kHouse G q0 v0) H := by rw [ev_2]; exact hP
  have hD : va_D A (kHist Q vhi ++ kHH G Q v_2 ++ kHouse G q0 v0) := by rw [ev_2]; exact hD
  refine lv_aload_n hx hb dX5_keep_13 rfl (lv_at hl 0 rfl) ?_
  refine lv_aload_n hx hb dX5_keep_14 rfl (lv_at hl 0 rfl) ?_
  refine va_get (D := D) (ci := 3) (v := .int (vhi.1 0)) (C := RX5) (T := TX5) (N := 3) hx hb hts hi3 hown hK hP 0 rfl rfl 1 (by decide) hw2 (fun _ h9 => h9) rfl dX5_keep_15 ?_
  refine lv_iconst (v := 1) hx hb dX5_keep_18 (by decide) ?_
  refine lv_iadd hx hb dX5_keep_19 ?_
  refine lv_bipush (v := 8) hx hb dX5_keep_20 (by decide +kernel) ?_
  refine lv_irem hx hb dX5_keep_22 (by decide) ?_
  obtain ⟨v_3, ev_3, hf⟩ := nm_of hf
  refine va_put (D := D) (ci := 3) (v := .int (((vhi.1 0) + 1) - ((vhi.1 0) + 1) / 8 * 8)) (ty := .int) (C := RX5) (T := TX5) (N := 3) hx hb hts hi3 tyX5 tyX5_ok nmX5 hown hK hP hD hS 0 rfl rfl 1 (by decide) hw2 (fun _ h9 => h9) rfl (by decide +kernel) rfl rfl (Nat.le_of_ble_eq_true rfl) dX5_keep_23 (fun H locs hP hD hS => ?_)
  have hP : va_P D vwCl (kHist Q v_3 ++ kHH G Q v_2 ++ kHouse G q0 v0) H := by rw [ev_3]; exact hP
  have hD : va_D A (kHist Q v_3 ++ kHH G Q v_2 ++ kHouse G q0 v0) := by rw [ev_3]; exact hD
  refine lv_aload_n hx hb dX5_keep_26 rfl (lv_at hl 0 rfl) ?_
  refine lv_aload_n hx hb dX5_keep_27 rfl (lv_at hl 0 rfl) ?_
  refine va_get (D := D) (ci := 3) (v := .int (v_3.1 1)) (C := RX5) (T := TX5) (N := 3) hx hb hts hi3 hown hK hP 0 rfl rfl 2 (by decide) hw3 (fun _ h9 => h9) rfl dX5_keep_28 ?_
  refine lv_iconst (v := 1) hx hb dX5_keep_31 (by decide) ?_
  refine lv_iadd hx hb dX5_keep_32 ?_
  refine lv_bipush (v := 8) hx hb dX5_keep_33 (by decide +kernel) ?_
  refine va_mmin hx hb (hml.trans hl.1.symm) hown hw4 hw5 hw6 hw7 (Nat.le_of_ble_eq_true rfl) (Nat.le_of_ble_eq_true rfl) (Nat.zero_le _) (Nat.zero_le _) dX5_keep_35 ?_
  obtain ⟨t_4, et_4, hf⟩ := nm_of hf
  rw [← et_4]
  obtain ⟨v_5, ev_5, hf⟩ := nm_of hf
  refine va_put (D := D) (ci := 3) (v := .int t_4) (ty := .int) (C := RX5) (T := TX5) (N := 3) hx hb hts hi3 tyX5 tyX5_ok nmX5 hown hK hP hD hS 0 rfl rfl 2 (by decide) hw3 (fun _ h9 => h9) rfl (by decide +kernel) rfl rfl (Nat.le_of_ble_eq_true rfl) dX5_keep_38 (fun H locs hP hD hS => ?_)
  have hP : va_P D vwCl (kHist Q v_5 ++ kHH G Q v_2 ++ kHouse G q0 v0) H := by rw [ev_5]; exact hP
  have hD : va_D A (kHist Q v_5 ++ kHH G Q v_2 ++ kHouse G q0 v0) := by rw [ev_5]; exact hD
  obtain ⟨rfl, rfl⟩ := re2 hf
  exact hE hP hD hS dX5_keep_41
def f_X5_keep_7 (vhi : SV) (vhh : (Nat → SV)) (v0 : SV) : Option (SV × (Nat → SV)) :=
  ckI (vhi.1 0) 8 <|
  ckP ((vhi.1 0) = 7) <|
  bd1 (f_X6_take (vhh 7) v0) fun w_1 =>
  nm (hu vhh 7 w_1) fun v_2 =>
  nm (pF vhi 0 (((vhi.1 0) + 1) - ((vhi.1 0) + 1) / 8 * 8)) fun v_3 =>
  nm (if 8 < ((v_3.1 1) + 1) then 8 else ((v_3.1 1) + 1)) fun t_4 =>
  nm (pF v_3 1 t_4) fun v_5 =>
  some (v_5, v_2)
abbrev rm_X5_keep_7 : Room := { frames := 3, cells := 0, slots := 0, locals := 60 }
set_option maxHeartbeats 4000000 in
set_option maxRecDepth 100000 in
theorem c_X5_keep_7 (l : Launch) (D : va_G) (G : Nat → ClassId) (Q : Nat → Nat → Nat) (q0 : Nat → Nat) (vhi : SV) (vhh : (Nat → SV)) (v0 : SV) (vhi' : SV) (vhh' : (Nat → SV)) (hf : f_X5_keep_7 vhi vhh v0 = some (vhi', vhh')) (sz : Nat) : mC l yX5_keep wsX5_keep rm_X5_keep_7 D (tyG G) kT [.ref ((Q 4) 0), .ref (q0 0)] (kHist Q vhi ++ kHH G Q vhh ++ kHouse G q0 v0) (kHist Q vhi' ++ kHH G Q vhh' ++ kHouse G q0 v0) sz none 0 0 := by
  refine mC_ofV (cc := cX5_keep) (maxL := 2) (ret := none) (by decide) rfl rfl (Nat.le_of_ble_eq_true rfl) ?_
  intro p e s m args below meth c Q0 hx hb hml hts hown hN hK A hD hA hE hP hS hJ ls hl
  have hl : lv_has ls 2 [(0, .ref ((Q 4) 0)), (1, .ref (q0 0))] := hl
  unfold f_X5_keep_7 at hf
  have hi3 : ∀ w ∈ u_ws RX5 TX5 3, w ∈ wsX5_keep := by decide +kernel
  have hw1 := hts (.fieldLink RX5 11 "BalconyCensus$History" "houses" "[LBalconyCensus$House;") (by decide +kernel)
  have hw2 := hts (.fieldLink RX5 18 "BalconyCensus$History" "next" "I") (by decide +kernel)
  have hw3 := hts (.fieldLink RX5 26 "BalconyCensus$History" "count" "I") (by decide +kernel)
  have hw4 := hts (.methodLink RX5 29 Lib.Math.min.name) (by decide +kernel)
  have hw5 := hts (.static Lib.Math.min.name) (by decide +kernel)
  have hw6 := hts (.initialized "java/lang/Math") (by decide +kernel)
  have hw7 := hts (.code Lib.Math.min.name Lib.Math.min.code 2 (some .int)) (by decide +kernel)
  refine lv_aload_n hx hb dX5_keep_0 rfl (lv_at hl 0 rfl) ?_
  refine va_get (D := D) (ci := 3) (v := .ref (Q 4 1)) (C := RX5) (T := TX5) (N := 3) hx hb hts hi3 hown hK hP 0 rfl rfl 0 (by decide) hw1 (fun _ h9 => h9) rfl dX5_keep_1 ?_
  refine lv_aload_n hx hb dX5_keep_4 rfl (lv_at hl 0 rfl) ?_
  refine va_get (D := D) (ci := 3) (v := .int (vhi.1 0)) (C := RX5) (T := TX5) (N := 3) hx hb hts hi3 hown hK hP 0 rfl rfl 1 (by decide) hw2 (fun _ h9 => h9) rfl dX5_keep_5 ?_
  obtain ⟨hin, hf⟩ := ckI_of hf
  obtain ⟨hk, hf⟩ := ckP_of hf
  rw [hk] at hin ⊢
  refine va_aldq (D := D) hx hb hK hP 1 3 rfl rfl hin dX5_keep_8 ?_
  refine W.eq (g2 := F0 m 9 ls [.ref (Q 17 0)]) rfl ?_
  refine lv_aload_n hx hb dX5_keep_9 rfl (lv_at hl 1 rfl) ?_
  obtain ⟨w_1, hc, hf⟩ := bd1_of hf
  have hPb : va_P D vwCl ((kHist Q vhi ++ kHHx7 G Q vhh) ++ (kHouse G (Q 17) (vhh 7) ++ kHouse G q0 v0)) s.heap := by simp only [pP_app, kHH7_P, kHHx7_hu, hu_s] at hP ⊢; simp only [hP, and_self]
  have hDb : va_D A ((kHist Q vhi ++ kHHx7 G Q vhh) ++ (kHouse G (Q 17) (vhh 7) ++ kHouse G q0 v0)) := by simp only [pD_app, Dj_l, Dj_r, kHH7_D, kHH7_j, kHH7_i, kHHx7_hu, hu_s] at hD ⊢; simp only [hD, and_self]
  refine k_VB (As := [.ref (q0 0)]) (rest := []) ⟨hx, hb, hml, hown, hts⟩ (c_X6_take l D G (Q 17) q0  (vhh 7) v0 _ hc  _) (cwV 1 hts gX5_keep_X6_take rfl rfl rfl (by decide +kernel) ⟨Nat.le_of_ble_eq_true rfl, Nat.le_of_ble_eq_true rfl⟩) hl.1 (Nat.le_of_ble_eq_true rfl) dX5_keep_10 ⟨Nat.le_of_ble_eq_true rfl, Nat.le_of_ble_eq_true rfl⟩ rfl kT_bl (fun _ _ _ => trivial) hN hK hPb hDb hS hA 0 4 rfl rfl rfl [0, 1, 2, 3] rfl (fun H locs hP hD hS => ?_)
  have hP : va_P D vwCl (kHist Q vhi ++ kHH G Q (hu vhh 7 w_1) ++ kHouse G q0 v0) H := by simp only [pP_app, kHH7_P, kHHx7_hu, hu_s] at hP ⊢; simp only [hP, and_self]
  have hD : va_D A (kHist Q vhi ++ kHH G Q (hu vhh 7 w_1) ++ kHouse G q0 v0) := by simp only [pD_app, Dj_l, Dj_r, kHH7_D, kHH7_j, kHH7_i, kHHx7_hu, hu_s] at hD ⊢; simp only [hD, and_self]
  obtain ⟨v_2, ev_2, hf⟩ := nm_of hf
  have hP : va_P D vwCl (kHist Q vhi ++ kHH G Q v_2 ++ kHouse G q0 v0) H := by rw [ev_2]; exact hP
  have hD : va_D A (kHist Q vhi ++ kHH G Q v_2 ++ kHouse G q0 v0) := by rw [ev_2]; exact hD
  refine lv_aload_n hx hb dX5_keep_13 rfl (lv_at hl 0 rfl) ?_
  refine lv_aload_n hx hb dX5_keep_14 rfl (lv_at hl 0 rfl) ?_
  refine va_get (D := D) (ci := 3) (v := .int (vhi.1 0)) (C := RX5) (T := TX5) (N := 3) hx hb hts hi3 hown hK hP 0 rfl rfl 1 (by decide) hw2 (fun _ h9 => h9) rfl dX5_keep_15 ?_
  refine lv_iconst (v := 1) hx hb dX5_keep_18 (by decide) ?_
  refine lv_iadd hx hb dX5_keep_19 ?_
  refine lv_bipush (v := 8) hx hb dX5_keep_20 (by decide +kernel) ?_
  refine lv_irem hx hb dX5_keep_22 (by decide) ?_
  obtain ⟨v_3, ev_3, hf⟩ := nm_of hf
  refine va_put (D := D) (ci := 3) (v := .int (((vhi.1 0) + 1) - ((vhi.1 0) + 1) / 8 * 8)) (ty := .int) (C := RX5) (T := TX5) (N := 3) hx hb hts hi3 tyX5 tyX5_ok nmX5 hown hK hP hD hS 0 rfl rfl 1 (by decide) hw2 (fun _ h9 => h9) rfl (by decide +kernel) rfl rfl (Nat.le_of_ble_eq_true rfl) dX5_keep_23 (fun H locs hP hD hS => ?_)
  have hP : va_P D vwCl (kHist Q v_3 ++ kHH G Q v_2 ++ kHouse G q0 v0) H := by rw [ev_3]; exact hP
  have hD : va_D A (kHist Q v_3 ++ kHH G Q v_2 ++ kHouse G q0 v0) := by rw [ev_3]; exact hD
  refine lv_aload_n hx hb dX5_keep_26 rfl (lv_at hl 0 rfl) ?_
  refine lv_aload_n hx hb dX5_keep_27 rfl (lv_at hl 0 rfl) ?_
  refine va_get (D := D) (ci := 3) (v := .int (v_3.1 1)) (C := RX5) (T := TX5) (N := 3) hx hb hts hi3 hown hK hP 0 rfl rfl 2 (by decide) hw3 (fun _ h9 => h9) rfl dX5_keep_28 ?_
  refine lv_iconst (v := 1) hx hb dX5_keep_31 (by decide) ?_
  refine lv_iadd hx hb dX5_keep_32 ?_
  refine lv_bipush (v := 8) hx hb dX5_keep_33 (by decide +kernel) ?_
  refine va_mmin hx hb (hml.trans hl.1.symm) hown hw4 hw5 hw6 hw7 (Nat.le_of_ble_eq_true rfl) (Nat.le_of_ble_eq_true rfl) (Nat.zero_le _) (Nat.zero_le _) dX5_keep_35 ?_
  obtain ⟨t_4, et_4, hf⟩ := nm_of hf
  rw [← et_4]
  obtain ⟨v_5, ev_5, hf⟩ := nm_of hf
  refine va_put (D := D) (ci := 3) (v := .int t_4) (ty := .int) (C := RX5) (T := TX5) (N := 3) hx hb hts hi3 tyX5 tyX5_ok nmX5 hown hK hP hD hS 0 rfl rfl 2 (by decide) hw3 (fun _ h9 => h9) rfl (by decide +kernel) rfl rfl (Nat.le_of_ble_eq_true rfl) dX5_keep_38 (fun H locs hP hD hS => ?_)
  have hP : va_P D vwCl (kHist Q v_5 ++ kHH G Q v_2 ++ kHouse G q0 v0) H := by rw [ev_5]; exact hP
  have hD : va_D A (kHist Q v_5 ++ kHH G Q v_2 ++ kHouse G q0 v0) := by rw [ev_5]; exact hD
  obtain ⟨rfl, rfl⟩ := re2 hf
  exact hE hP hD hS dX5_keep_41
def f_X5_keep (vhi : SV) (vhh : (Nat → SV)) (v0 : SV) : Option (SV × (Nat → SV)) :=
  (Option.or (f_X5_keep_0 vhi vhh v0) (Option.or (f_X5_keep_1 vhi vhh v0) (Option.or (f_X5_keep_2 vhi vhh v0) (Option.or (f_X5_keep_3 vhi vhh v0) (Option.or (f_X5_keep_4 vhi vhh v0) (Option.or (f_X5_keep_5 vhi vhh v0) (Option.or (f_X5_keep_6 vhi vhh v0) (f_X5_keep_7 vhi vhh v0))))))))
abbrev rm_X5_keep : Room := rm_X5_keep_0
theorem c_X5_keep (l : Launch) (D : va_G) (G : Nat → ClassId) (Q : Nat → Nat → Nat) (q0 : Nat → Nat) (vhi : SV) (vhh : (Nat → SV)) (v0 : SV) (vhi' : SV) (vhh' : (Nat → SV)) (hf : f_X5_keep vhi vhh v0 = some (vhi', vhh')) (sz : Nat) : mC l yX5_keep wsX5_keep rm_X5_keep D (tyG G) kT [.ref ((Q 4) 0), .ref (q0 0)] (kHist Q vhi ++ kHH G Q vhh ++ kHouse G q0 v0) (kHist Q vhi' ++ kHH G Q vhh' ++ kHouse G q0 v0) sz none 0 0 := by
  unfold f_X5_keep at hf
  rcases or_of hf with h0 | hf
  · exact c_X5_keep_0 l D G Q q0 vhi vhh v0 vhi' vhh' h0 sz
  rcases or_of hf with h1 | hf
  · exact c_X5_keep_1 l D G Q q0 vhi vhh v0 vhi' vhh' h1 sz
  rcases or_of hf with h2 | hf
  · exact c_X5_keep_2 l D G Q q0 vhi vhh v0 vhi' vhh' h2 sz
  rcases or_of hf with h3 | hf
  · exact c_X5_keep_3 l D G Q q0 vhi vhh v0 vhi' vhh' h3 sz
  rcases or_of hf with h4 | hf
  · exact c_X5_keep_4 l D G Q q0 vhi vhh v0 vhi' vhh' h4 sz
  rcases or_of hf with h5 | hf
  · exact c_X5_keep_5 l D G Q q0 vhi vhh v0 vhi' vhh' h5 sz
  rcases or_of hf with h6 | hf
  · exact c_X5_keep_6 l D G Q q0 vhi vhh v0 vhi' vhh' h6 sz
  exact c_X5_keep_7 l D G Q q0 vhi vhh v0 vhi' vhh' hf sz
