/-! Walks, laid by wip/whole/gen.py: for each method f_ (what it does to its world) and c_ (its contract). -/
def f_X1_becomeNew (v0 : SV) : Option SV :=
  nm (pF v0 6 0) fun v_1 =>
  some v_1
abbrev rm_X1_becomeNew : Room := { frames := 0, cells := 0, slots := 0, locals := 0 }
set_option maxHeartbeats 4000000 in
set_option maxRecDepth 100000 in
theorem c_X1_becomeNew (l : Launch) (D : va_G) (G : Nat → ClassId) (q0 : Nat → Nat) (v0 : SV) (v0' : SV) (hf : f_X1_becomeNew v0 = some v0') (sz : Nat) : mC l yX1_becomeNew wsX1_becomeNew rm_X1_becomeNew D (tyG G) kT [.ref (q0 10)] (kCats G q0 v0) (kCats G q0 v0') sz none 0 0 := by
  refine mC_ofV (cc := cX1_becomeNew) (maxL := 1) (ret := none) (by decide) rfl rfl (Nat.le_of_ble_eq_true rfl) ?_
  intro p e s m args below meth c Q0 hx hb hml hts hown hN hK A hD hA hE hP hS hJ ls hl
  have hl : lv_has ls 1 [(0, .ref (q0 10))] := hl
  unfold f_X1_becomeNew at hf
  have hi1 : ∀ w ∈ u_ws RX1 TX1 4, w ∈ wsX1_becomeNew := by decide +kernel
  have hw1 := hts (.fieldLink RX1 21 "BalconyCensus$Cats" "count" "I") (by decide +kernel)
  refine lv_aload_n hx hb dX1_becomeNew_0 rfl (lv_at hl 0 rfl) ?_
  refine lv_iconst (v := 0) hx hb dX1_becomeNew_1 (by decide) ?_
  obtain ⟨v_1, ev_1, hf⟩ := nm_of hf
  refine va_put (D := D) (ci := 1) (v := .int 0) (ty := .int) (C := RX1) (T := TX1) (N := 4) hx hb hts hi1 tyX1 tyX1_ok nmX1 hown hK hP hD hS 0 rfl rfl 3 (by decide) hw1 (fun _ h9 => h9) rfl (by decide +kernel) rfl rfl (Nat.le_of_ble_eq_true rfl) dX1_becomeNew_2 (fun H locs hP hD hS => ?_)
  have hP : va_P D vwCl (kCats G q0 v_1) H := by rw [ev_1]; exact hP
  have hD : va_D A (kCats G q0 v_1) := by rw [ev_1]; exact hD
  obtain rfl := re1 hf
  exact hE hP hD hS dX1_becomeNew_5
def f_X1_take (v0 : SV) (v1 : SV) : Option SV :=
  nm (pR v0 7 (va_cpy (v1.2 7) (v0.2 7) (0 : Int32).toNatClampNeg (0 : Int32).toNatClampNeg (6 : Int32).toNatClampNeg)) fun v_1 =>
  nm (pR v_1 8 (va_cpy (v1.2 8) (v_1.2 8) (0 : Int32).toNatClampNeg (0 : Int32).toNatClampNeg (6 : Int32).toNatClampNeg)) fun v_2 =>
  nm (pR v_2 9 (va_cpy (v1.2 9) (v_2.2 9) (0 : Int32).toNatClampNeg (0 : Int32).toNatClampNeg (6 : Int32).toNatClampNeg)) fun v_3 =>
  nm (pF v_3 6 (v1.1 6)) fun v_4 =>
  some v_4
abbrev rm_X1_take : Room := { frames := 1, cells := 0, slots := 0, locals := 18 }
set_option maxHeartbeats 4000000 in
set_option maxRecDepth 100000 in
theorem c_X1_take (l : Launch) (D : va_G) (G : Nat → ClassId) (q0 : Nat → Nat) (q1 : Nat → Nat) (v0 : SV) (v1 : SV) (v0' : SV) (hf : f_X1_take v0 v1 = some v0') (sz : Nat) : mC l yX1_take wsX1_take rm_X1_take D (tyG G) kT [.ref (q0 10), .ref (q1 10)] (kCats G q0 v0 ++ kCats G q1 v1) (kCats G q0 v0' ++ kCats G q1 v1) sz none 0 0 := by
  refine mC_ofV (cc := cX1_take) (maxL := 2) (ret := none) (by decide) rfl rfl (Nat.le_of_ble_eq_true rfl) ?_
  intro p e s m args below meth c Q0 hx hb hml hts hown hN hK A hD hA hE hP hS hJ ls hl
  have hl : lv_has ls 2 [(0, .ref (q0 10)), (1, .ref (q1 10))] := hl
  unfold f_X1_take at hf
  have hi1 : ∀ w ∈ u_ws RX1 TX1 4, w ∈ wsX1_take := by decide +kernel
  have hw1 := hts (.fieldLink RX1 9 "BalconyCensus$Cats" "balconies" "[I") (by decide +kernel)
  have hw2 := hts (.methodLink RX1 25 arraycopyName) (by decide +kernel)
  have hw3 := hts (.native arraycopyName) (by decide +kernel)
  have hw4 := hts (.static arraycopyName) (by decide +kernel)
  have hw5 := hts (.initialized "java/lang/System") (by decide +kernel)
  have hw6 := hts (.fieldLink RX1 15 "BalconyCensus$Cats" "homes" "[I") (by decide +kernel)
  have hw7 := hts (.fieldLink RX1 18 "BalconyCensus$Cats" "swaps" "[I") (by decide +kernel)
  have hw8 := hts (.fieldLink RX1 21 "BalconyCensus$Cats" "count" "I") (by decide +kernel)
  refine lv_aload_n hx hb dX1_take_0 rfl (lv_at hl 1 rfl) ?_
  refine va_get (D := D) (ci := 1) (v := .ref (q1 11)) (C := RX1) (T := TX1) (N := 4) hx hb hts hi1 hown hK hP 4 rfl rfl 0 (by decide) hw1 (fun _ h9 => h9) rfl dX1_take_1 ?_
  refine lv_iconst (v := 0) hx hb dX1_take_4 (by decide) ?_
  refine lv_aload_n hx hb dX1_take_5 rfl (lv_at hl 0 rfl) ?_
  refine va_get (D := D) (ci := 1) (v := .ref (q0 11)) (C := RX1) (T := TX1) (N := 4) hx hb hts hi1 hown hK hP 0 rfl rfl 0 (by decide) hw1 (fun _ h9 => h9) rfl dX1_take_6 ?_
  refine lv_iconst (v := 0) hx hb dX1_take_9 (by decide) ?_
  refine lv_bipush (v := 6) hx hb dX1_take_10 (by decide +kernel) ?_
  obtain ⟨v_1, ev_1, hf⟩ := nm_of hf
  refine va_copyi (D := D) (ty := .int) (c0 := G 0) (c1 := G 0) hx hb (hml.trans hl.1.symm) hown hw2 hw3 hw4 hw5 hK hP hD hS 5 1 0 0 rfl rfl rfl rfl rfl (by decide) (by decide) (by decide) (by decide) (by decide) (fun _ _ => rfl) (Nat.le_of_ble_eq_true rfl) (Nat.le_of_ble_eq_true rfl) dX1_take_12 (fun H locs hP hD hS => ?_)
  have hP : va_P D vwCl (kCats G q0 v_1 ++ kCats G q1 v1) H := by rw [ev_1]; exact hP
  have hD : va_D A (kCats G q0 v_1 ++ kCats G q1 v1) := by rw [ev_1]; exact hD
  refine lv_aload_n hx hb dX1_take_15 rfl (lv_at hl 1 rfl) ?_
  refine va_get (D := D) (ci := 1) (v := .ref (q1 12)) (C := RX1) (T := TX1) (N := 4) hx hb hts hi1 hown hK hP 4 rfl rfl 1 (by decide) hw6 (fun _ h9 => h9) rfl dX1_take_16 ?_
  refine lv_iconst (v := 0) hx hb dX1_take_19 (by decide) ?_
  refine lv_aload_n hx hb dX1_take_20 rfl (lv_at hl 0 rfl) ?_
  refine va_get (D := D) (ci := 1) (v := .ref (q0 12)) (C := RX1) (T := TX1) (N := 4) hx hb hts hi1 hown hK hP 0 rfl rfl 1 (by decide) hw6 (fun _ h9 => h9) rfl dX1_take_21 ?_
  refine lv_iconst (v := 0) hx hb dX1_take_24 (by decide) ?_
  refine lv_bipush (v := 6) hx hb dX1_take_25 (by decide +kernel) ?_
  obtain ⟨v_2, ev_2, hf⟩ := nm_of hf
  refine va_copyi (D := D) (ty := .int) (c0 := G 0) (c1 := G 0) hx hb (hml.trans hl.1.symm) hown hw2 hw3 hw4 hw5 hK hP hD hS 6 2 0 0 rfl rfl rfl rfl rfl (by decide) (by decide) (by decide) (by decide) (by decide) (fun _ _ => rfl) (Nat.le_of_ble_eq_true rfl) (Nat.le_of_ble_eq_true rfl) dX1_take_27 (fun H locs hP hD hS => ?_)
  have hP : va_P D vwCl (kCats G q0 v_2 ++ kCats G q1 v1) H := by rw [ev_2]; exact hP
  have hD : va_D A (kCats G q0 v_2 ++ kCats G q1 v1) := by rw [ev_2]; exact hD
  refine lv_aload_n hx hb dX1_take_30 rfl (lv_at hl 1 rfl) ?_
  refine va_get (D := D) (ci := 1) (v := .ref (q1 13)) (C := RX1) (T := TX1) (N := 4) hx hb hts hi1 hown hK hP 4 rfl rfl 2 (by decide) hw7 (fun _ h9 => h9) rfl dX1_take_31 ?_
  refine lv_iconst (v := 0) hx hb dX1_take_34 (by decide) ?_
  refine lv_aload_n hx hb dX1_take_35 rfl (lv_at hl 0 rfl) ?_
  refine va_get (D := D) (ci := 1) (v := .ref (q0 13)) (C := RX1) (T := TX1) (N := 4) hx hb hts hi1 hown hK hP 0 rfl rfl 2 (by decide) hw7 (fun _ h9 => h9) rfl dX1_take_36 ?_
  refine lv_iconst (v := 0) hx hb dX1_take_39 (by decide) ?_
  refine lv_bipush (v := 6) hx hb dX1_take_40 (by decide +kernel) ?_
  obtain ⟨v_3, ev_3, hf⟩ := nm_of hf
  refine va_copyi (D := D) (ty := .int) (c0 := G 0) (c1 := G 0) hx hb (hml.trans hl.1.symm) hown hw2 hw3 hw4 hw5 hK hP hD hS 7 3 0 0 rfl rfl rfl rfl rfl (by decide) (by decide) (by decide) (by decide) (by decide) (fun _ _ => rfl) (Nat.le_of_ble_eq_true rfl) (Nat.le_of_ble_eq_true rfl) dX1_take_42 (fun H locs hP hD hS => ?_)
  have hP : va_P D vwCl (kCats G q0 v_3 ++ kCats G q1 v1) H := by rw [ev_3]; exact hP
  have hD : va_D A (kCats G q0 v_3 ++ kCats G q1 v1) := by rw [ev_3]; exact hD
  refine lv_aload_n hx hb dX1_take_45 rfl (lv_at hl 0 rfl) ?_
  refine lv_aload_n hx hb dX1_take_46 rfl (lv_at hl 1 rfl) ?_
  refine va_get (D := D) (ci := 1) (v := .int (v1.1 6)) (C := RX1) (T := TX1) (N := 4) hx hb hts hi1 hown hK hP 4 rfl rfl 3 (by decide) hw8 (fun _ h9 => h9) rfl dX1_take_47 ?_
  obtain ⟨v_4, ev_4, hf⟩ := nm_of hf
  refine va_put (D := D) (ci := 1) (v := .int (v1.1 6)) (ty := .int) (C := RX1) (T := TX1) (N := 4) hx hb hts hi1 tyX1 tyX1_ok nmX1 hown hK hP hD hS 0 rfl rfl 3 (by decide) hw8 (fun _ h9 => h9) rfl (by decide +kernel) rfl rfl (Nat.le_of_ble_eq_true rfl) dX1_take_50 (fun H locs hP hD hS => ?_)
  have hP : va_P D vwCl (kCats G q0 v_4 ++ kCats G q1 v1) H := by rw [ev_4]; exact hP
  have hD : va_D A (kCats G q0 v_4 ++ kCats G q1 v1) := by rw [ev_4]; exact hD
  obtain rfl := re1 hf
  exact hE hP hD hS dX1_take_53
def f_X1_catOn_K2 (y_4 : Int32) : Option Int32 :=
  some (-4)
def f_X1_catOn_B2 (v0 : SV) (a1 : Int32) (selfL_3 : (Int32 → Option Int32)) (x_2 : Int32) : Option Int32 :=
  if (v0.1 6) ≤ x_2 then
    f_X1_catOn_K2 x_2
  else
    ckI x_2 6 <|
    if (v0.2 7 x_2.toNatClampNeg) = a1 then
      some x_2
    else
      selfL_3 (x_2 + 1)
def f_X1_catOn (a1 : Int32) (v0 : SV) : Option Int32 :=
  lz1 (f_X1_catOn_B2 v0 a1) FU 0
abbrev rm_X1_catOn : Room := { frames := 0, cells := 0, slots := 0, locals := 0 }
set_option maxHeartbeats 4000000 in
set_option maxRecDepth 100000 in
theorem c_X1_catOn (l : Launch) (D : va_G) (G : Nat → ClassId) (q0 : Nat → Nat) (a1 : Int32) (v0 : SV) (r : Int32) (hf : f_X1_catOn a1 v0 = some r) (sz : Nat) : mC l yX1_catOn wsX1_catOn rm_X1_catOn D (tyG G) kT [.ref (q0 10), .int a1] (kCats G q0 v0) (kCats G q0 v0) sz (some (.int r)) 0 0 := by
  refine mC_ofI (cc := cX1_catOn) (maxL := 3) (ret := (some .int)) (by decide) rfl rfl (Nat.le_of_ble_eq_true rfl) ?_
  intro p e s m args below meth c Q0 hx hb hml hts hown hN hK A hD hA hE hP hS hJ ls hl
  have hl : lv_has ls 3 [(0, .ref (q0 10)), (1, .int a1)] := hl
  unfold f_X1_catOn at hf
  have hi1 : ∀ w ∈ u_ws RX1 TX1 4, w ∈ wsX1_catOn := by decide +kernel
  have hw1 := hts (.fieldLink RX1 21 "BalconyCensus$Cats" "count" "I") (by decide +kernel)
  have hw2 := hts (.fieldLink RX1 9 "BalconyCensus$Cats" "balconies" "[I") (by decide +kernel)
  refine lv_iconst (v := 0) hx hb dX1_catOn_0 (by decide) ?_
  refine lv_istore_n (lv' := [(2, .int 0), (0, .ref (q0 10)), (1, .int a1)]) hx hb dX1_catOn_1 rfl hl (by decide) rfl (fun ls hl => ?_)
  have exL_3 : ∀ (y_4 : Int32) (H : Heap) (locs : List Loc) (ls : Array Slot), lv_has ls 3 [(2, .int y_4), (0, .ref (q0 10)), (1, .int a1)] → va_P D vwCl (kCats G q0 v0) H → va_D A (kCats G q0 v0) → va_S A s.heap H locs → f_X1_catOn_K2 y_4 = some r → W p l e rm_X1_catOn s m args below meth c H locs 0 0 Q0 (F0 m 28 ls []) := by
    intro y_4 H locs ls hl hP hD hS hf
    unfold f_X1_catOn_K2 at hf
    refine lv_bipush (v := (-4)) hx hb dX1_catOn_28 (by decide +kernel) ?_
    obtain rfl := re1 hf
    exact hE hP hD hS dX1_catOn_30
  have loL_3 : ∀ (n : Nat) (x_2 : Int32) (H : Heap) (locs : List Loc) (ls : Array Slot), lv_has ls 3 [(2, .int x_2), (0, .ref (q0 10)), (1, .int a1)] → va_P D vwCl (kCats G q0 v0) H → va_D A (kCats G q0 v0) → va_S A s.heap H locs → lz1 (f_X1_catOn_B2 v0 a1) n x_2 = some r → W p l e rm_X1_catOn s m args below meth c H locs 0 0 Q0 (F0 m 2 ls []) := by
    intro n
    induction n with
    | zero => intro x_2 H locs ls hl hP hD hS hf; cases hf
    | succ n ihL_3 =>
      intro x_2 H locs ls hl hP hD hS hf
      replace hf := lz1_s hf
      unfold f_X1_catOn_B2 at hf
      refine lv_iload_n hx hb dX1_catOn_2 rfl (lv_at hl 0 rfl) ?_
      refine lv_aload_n hx hb dX1_catOn_3 rfl (lv_at hl 1 rfl) ?_
      refine va_get (D := D) (ci := 1) (v := .int (v0.1 6)) (C := RX1) (T := TX1) (N := 4) hx hb hts hi1 hown hK hP 0 rfl rfl 3 (by decide) hw1 (fun _ h9 => h9) rfl dX1_catOn_4 ?_
      refine lv_icmp_ge (tgt := 28) hx hb dX1_catOn_7 (by decide) (fun cc => ?_) (fun cc => ?_)
      · replace hf := ifT cc hf
        exact exL_3 x_2 _ _ _ (lv_sub hl [0, 1, 2] rfl) hP hD hS hf
      · replace hf := ifF cc hf
        refine lv_aload_n hx hb dX1_catOn_10 rfl (lv_at hl 1 rfl) ?_
        refine va_get (D := D) (ci := 1) (v := .ref (q0 11)) (C := RX1) (T := TX1) (N := 4) hx hb hts hi1 hown hK hP 0 rfl rfl 0 (by decide) hw2 (fun _ h9 => h9) rfl dX1_catOn_11 ?_
        refine lv_iload_n hx hb dX1_catOn_14 rfl (lv_at hl 0 rfl) ?_
        obtain ⟨hin, hf⟩ := ckI_of hf
        refine va_iald (D := D) hx hb hK hP 1 0 rfl rfl hin dX1_catOn_15 ?_
        refine lv_iload_n hx hb dX1_catOn_16 rfl (lv_at hl 2 rfl) ?_
        refine lv_icmp_ne (tgt := 22) hx hb dX1_catOn_17 (by decide) (fun cc => ?_) (fun cc => ?_)
        · replace hf := ifF cc hf
          refine lv_iinc (v := (x_2 + 1)) (lv' := [(2, .int (x_2 + 1)), (0, .ref (q0 10)), (1, .int a1)]) hx hb dX1_catOn_22 hl (k := 0) rfl rfl (by decide) rfl (fun ls hl => ?_)
          refine lv_goto (tgt := 2) hx hb dX1_catOn_25 (by decide) ?_
          exact ihL_3 (x_2 + 1) _ _ _ (lv_sub hl [0, 1, 2] rfl) hP hD hS hf
        · replace hf := ifT cc hf
          refine lv_iload_n hx hb dX1_catOn_20 rfl (lv_at hl 0 rfl) ?_
          obtain rfl := re1 hf
          exact hE hP hD hS dX1_catOn_21
  exact loL_3 FU 0 _ _ _ hl hP hD hS hf
def f_X1_add (a1 : Int32) (v0 : SV) : Option (Int32 × SV) :=
  ckI (v0.1 6) 6 <|
  nm (pA v0 7 (v0.1 6) a1) fun v_1 =>
  ckI (v0.1 6) 6 <|
  nm (pA v_1 8 (v0.1 6) a1) fun v_2 =>
  ckI (v0.1 6) 6 <|
  nm (pA v_2 9 (v0.1 6) 0) fun v_3 =>
  nm (pF v_3 6 ((v_3.1 6) + 1)) fun v_4 =>
  some ((v0.1 6), v_4)
abbrev rm_X1_add : Room := { frames := 0, cells := 0, slots := 0, locals := 0 }
set_option maxHeartbeats 4000000 in
set_option maxRecDepth 100000 in
theorem c_X1_add (l : Launch) (D : va_G) (G : Nat → ClassId) (q0 : Nat → Nat) (a1 : Int32) (v0 : SV) (r : Int32) (v0' : SV) (hf : f_X1_add a1 v0 = some (r, v0')) (sz : Nat) : mC l yX1_add wsX1_add rm_X1_add D (tyG G) kT [.ref (q0 10), .int a1] (kCats G q0 v0) (kCats G q0 v0') sz (some (.int r)) 0 0 := by
  refine mC_ofI (cc := cX1_add) (maxL := 3) (ret := (some .int)) (by decide) rfl rfl (Nat.le_of_ble_eq_true rfl) ?_
  intro p e s m args below meth c Q0 hx hb hml hts hown hN hK A hD hA hE hP hS hJ ls hl
  have hl : lv_has ls 3 [(0, .ref (q0 10)), (1, .int a1)] := hl
  unfold f_X1_add at hf
  have hi1 : ∀ w ∈ u_ws RX1 TX1 4, w ∈ wsX1_add := by decide +kernel
  have hw1 := hts (.fieldLink RX1 21 "BalconyCensus$Cats" "count" "I") (by decide +kernel)
  have hw2 := hts (.fieldLink RX1 9 "BalconyCensus$Cats" "balconies" "[I") (by decide +kernel)
  have hw3 := hts (.fieldLink RX1 15 "BalconyCensus$Cats" "homes" "[I") (by decide +kernel)
  have hw4 := hts (.fieldLink RX1 18 "BalconyCensus$Cats" "swaps" "[I") (by decide +kernel)
  refine lv_aload_n hx hb dX1_add_0 rfl (lv_at hl 0 rfl) ?_
  refine va_get (D := D) (ci := 1) (v := .int (v0.1 6)) (C := RX1) (T := TX1) (N := 4) hx hb hts hi1 hown hK hP 0 rfl rfl 3 (by decide) hw1 (fun _ h9 => h9) rfl dX1_add_1 ?_
  refine lv_istore_n (lv' := [(2, .int (v0.1 6)), (0, .ref (q0 10)), (1, .int a1)]) hx hb dX1_add_4 rfl hl (by decide) rfl (fun ls hl => ?_)
  refine lv_aload_n hx hb dX1_add_5 rfl (lv_at hl 1 rfl) ?_
  refine va_get (D := D) (ci := 1) (v := .ref (q0 11)) (C := RX1) (T := TX1) (N := 4) hx hb hts hi1 hown hK hP 0 rfl rfl 0 (by decide) hw2 (fun _ h9 => h9) rfl dX1_add_6 ?_
  refine lv_iload_n hx hb dX1_add_9 rfl (lv_at hl 0 rfl) ?_
  refine lv_iload_n hx hb dX1_add_10 rfl (lv_at hl 2 rfl) ?_
  obtain ⟨hin, hf⟩ := ckI_of hf
  obtain ⟨v_1, ev_1, hf⟩ := nm_of hf
  refine va_iast (D := D) hx hb hK hP hD hS 1 0 rfl rfl hin dX1_add_11 (fun H locs hP hD hS => ?_)
  have hP : va_P D vwCl (kCats G q0 v_1) H := by rw [ev_1]; exact hP
  have hD : va_D A (kCats G q0 v_1) := by rw [ev_1]; exact hD
  refine lv_aload_n hx hb dX1_add_12 rfl (lv_at hl 1 rfl) ?_
  refine va_get (D := D) (ci := 1) (v := .ref (q0 12)) (C := RX1) (T := TX1) (N := 4) hx hb hts hi1 hown hK hP 0 rfl rfl 1 (by decide) hw3 (fun _ h9 => h9) rfl dX1_add_13 ?_
  refine lv_iload_n hx hb dX1_add_16 rfl (lv_at hl 0 rfl) ?_
  refine lv_iload_n hx hb dX1_add_17 rfl (lv_at hl 2 rfl) ?_
  obtain ⟨hin, hf⟩ := ckI_of hf
  obtain ⟨v_2, ev_2, hf⟩ := nm_of hf
  refine va_iast (D := D) hx hb hK hP hD hS 2 0 rfl rfl hin dX1_add_18 (fun H locs hP hD hS => ?_)
  have hP : va_P D vwCl (kCats G q0 v_2) H := by rw [ev_2]; exact hP
  have hD : va_D A (kCats G q0 v_2) := by rw [ev_2]; exact hD
  refine lv_aload_n hx hb dX1_add_19 rfl (lv_at hl 1 rfl) ?_
  refine va_get (D := D) (ci := 1) (v := .ref (q0 13)) (C := RX1) (T := TX1) (N := 4) hx hb hts hi1 hown hK hP 0 rfl rfl 2 (by decide) hw4 (fun _ h9 => h9) rfl dX1_add_20 ?_
  refine lv_iload_n hx hb dX1_add_23 rfl (lv_at hl 0 rfl) ?_
  refine lv_iconst (v := 0) hx hb dX1_add_24 (by decide) ?_
  obtain ⟨hin, hf⟩ := ckI_of hf
  obtain ⟨v_3, ev_3, hf⟩ := nm_of hf
  refine va_iast (D := D) hx hb hK hP hD hS 3 0 rfl rfl hin dX1_add_25 (fun H locs hP hD hS => ?_)
  have hP : va_P D vwCl (kCats G q0 v_3) H := by rw [ev_3]; exact hP
  have hD : va_D A (kCats G q0 v_3) := by rw [ev_3]; exact hD
  refine lv_aload_n hx hb dX1_add_26 rfl (lv_at hl 1 rfl) ?_
  refine lv_dup hx hb dX1_add_27 rfl ?_
  refine va_get (D := D) (ci := 1) (v := .int (v_3.1 6)) (C := RX1) (T := TX1) (N := 4) hx hb hts hi1 hown hK hP 0 rfl rfl 3 (by decide) hw1 (fun _ h9 => h9) rfl dX1_add_28 ?_
  refine lv_iconst (v := 1) hx hb dX1_add_31 (by decide) ?_
  refine lv_iadd hx hb dX1_add_32 ?_
  obtain ⟨v_4, ev_4, hf⟩ := nm_of hf
  refine va_put (D := D) (ci := 1) (v := .int ((v_3.1 6) + 1)) (ty := .int) (C := RX1) (T := TX1) (N := 4) hx hb hts hi1 tyX1 tyX1_ok nmX1 hown hK hP hD hS 0 rfl rfl 3 (by decide) hw1 (fun _ h9 => h9) rfl (by decide +kernel) rfl rfl (Nat.le_of_ble_eq_true rfl) dX1_add_33 (fun H locs hP hD hS => ?_)
  have hP : va_P D vwCl (kCats G q0 v_4) H := by rw [ev_4]; exact hP
  have hD : va_D A (kCats G q0 v_4) := by rw [ev_4]; exact hD
  refine lv_iload_n hx hb dX1_add_36 rfl (lv_at hl 0 rfl) ?_
  obtain ⟨rfl, rfl⟩ := re2 hf
  exact hE hP hD hS dX1_add_37
def f_X1_move (a1 : Int32) (a2 : Int32) (v0 : SV) : Option (Int32 × SV) :=
  if a1 < 0 then
    some (0, v0)
  else
    if a1 < (v0.1 6) then
      ckI a1 6 <|
      nm (pA v0 7 a1 a2) fun v_1 =>
      ckI a1 6 <|
      ckI a1 6 <|
      nm (pA v_1 9 a1 ((v_1.2 9 a1.toNatClampNeg) + 1)) fun v_2 =>
      some (1, v_2)
    else
      some (0, v0)
abbrev rm_X1_move : Room := { frames := 0, cells := 0, slots := 0, locals := 0 }
set_option maxHeartbeats 4000000 in
set_option maxRecDepth 100000 in
theorem c_X1_move (l : Launch) (D : va_G) (G : Nat → ClassId) (q0 : Nat → Nat) (a1 : Int32) (a2 : Int32) (v0 : SV) (r : Int32) (v0' : SV) (hf : f_X1_move a1 a2 v0 = some (r, v0')) (sz : Nat) : mC l yX1_move wsX1_move rm_X1_move D (tyG G) kT [.ref (q0 10), .int a1, .int a2] (kCats G q0 v0) (kCats G q0 v0') sz (some (.int r)) 0 0 := by
  refine mC_ofI (cc := cX1_move) (maxL := 3) (ret := (some .int)) (by decide) rfl rfl (Nat.le_of_ble_eq_true rfl) ?_
  intro p e s m args below meth c Q0 hx hb hml hts hown hN hK A hD hA hE hP hS hJ ls hl
  have hl : lv_has ls 3 [(0, .ref (q0 10)), (1, .int a1), (2, .int a2)] := hl
  unfold f_X1_move at hf
  have hi1 : ∀ w ∈ u_ws RX1 TX1 4, w ∈ wsX1_move := by decide +kernel
  have hw1 := hts (.fieldLink RX1 21 "BalconyCensus$Cats" "count" "I") (by decide +kernel)
  have hw2 := hts (.fieldLink RX1 9 "BalconyCensus$Cats" "balconies" "[I") (by decide +kernel)
  have hw3 := hts (.fieldLink RX1 18 "BalconyCensus$Cats" "swaps" "[I") (by decide +kernel)
  refine lv_iload_n hx hb dX1_move_0 rfl (lv_at hl 1 rfl) ?_
  refine lv_if_lt (tgt := 12) hx hb dX1_move_1 (by decide) (fun cc => ?_) (fun cc => ?_)
  · replace hf := ifT cc hf
    refine lv_iconst (v := 0) hx hb dX1_move_12 (by decide) ?_
    obtain ⟨rfl, rfl⟩ := re2 hf
    exact hE hP hD hS dX1_move_13
  · replace hf := ifF cc hf
    refine lv_iload_n hx hb dX1_move_4 rfl (lv_at hl 1 rfl) ?_
    refine lv_aload_n hx hb dX1_move_5 rfl (lv_at hl 0 rfl) ?_
    refine va_get (D := D) (ci := 1) (v := .int (v0.1 6)) (C := RX1) (T := TX1) (N := 4) hx hb hts hi1 hown hK hP 0 rfl rfl 3 (by decide) hw1 (fun _ h9 => h9) rfl dX1_move_6 ?_
    refine lv_icmp_lt (tgt := 14) hx hb dX1_move_9 (by decide) (fun cc => ?_) (fun cc => ?_)
    · replace hf := ifT cc hf
      refine lv_aload_n hx hb dX1_move_14 rfl (lv_at hl 0 rfl) ?_
      refine va_get (D := D) (ci := 1) (v := .ref (q0 11)) (C := RX1) (T := TX1) (N := 4) hx hb hts hi1 hown hK hP 0 rfl rfl 0 (by decide) hw2 (fun _ h9 => h9) rfl dX1_move_15 ?_
      refine lv_iload_n hx hb dX1_move_18 rfl (lv_at hl 1 rfl) ?_
      refine lv_iload_n hx hb dX1_move_19 rfl (lv_at hl 2 rfl) ?_
      obtain ⟨hin, hf⟩ := ckI_of hf
      obtain ⟨v_1, ev_1, hf⟩ := nm_of hf
      refine va_iast (D := D) hx hb hK hP hD hS 1 0 rfl rfl hin dX1_move_20 (fun H locs hP hD hS => ?_)
      have hP : va_P D vwCl (kCats G q0 v_1) H := by rw [ev_1]; exact hP
      have hD : va_D A (kCats G q0 v_1) := by rw [ev_1]; exact hD
      refine lv_aload_n hx hb dX1_move_21 rfl (lv_at hl 0 rfl) ?_
      refine va_get (D := D) (ci := 1) (v := .ref (q0 13)) (C := RX1) (T := TX1) (N := 4) hx hb hts hi1 hown hK hP 0 rfl rfl 2 (by decide) hw3 (fun _ h9 => h9) rfl dX1_move_22 ?_
      refine lv_iload_n hx hb dX1_move_25 rfl (lv_at hl 1 rfl) ?_
      refine lv_dup2_11 hx hb dX1_move_26 rfl rfl ?_
      obtain ⟨hin, hf⟩ := ckI_of hf
      refine va_iald (D := D) hx hb hK hP 3 0 rfl rfl hin dX1_move_27 ?_
      refine lv_iconst (v := 1) hx hb dX1_move_28 (by decide) ?_
      refine lv_iadd hx hb dX1_move_29 ?_
      obtain ⟨hin, hf⟩ := ckI_of hf
      obtain ⟨v_2, ev_2, hf⟩ := nm_of hf
      refine va_iast (D := D) hx hb hK hP hD hS 3 0 rfl rfl hin dX1_move_30 (fun H locs hP hD hS => ?_)
      have hP : va_P D vwCl (kCats G q0 v_2) H := by rw [ev_2]; exact hP
      have hD : va_D A (kCats G q0 v_2) := by rw [ev_2]; exact hD
      refine lv_iconst (v := 1) hx hb dX1_move_31 (by decide) ?_
      obtain ⟨rfl, rfl⟩ := re2 hf
      exact hE hP hD hS dX1_move_32
    · replace hf := ifF cc hf
      refine lv_iconst (v := 0) hx hb dX1_move_12 (by decide) ?_
      obtain ⟨rfl, rfl⟩ := re2 hf
      exact hE hP hD hS dX1_move_13
def f_X1_countAtHome_K4 (y_5 : Int32) (y_6 : Int32) : Option Int32 :=
  some y_6
def f_X1_countAtHome_B4 (v0 : SV) (selfL_4 : (Int32 → Int32 → Option Int32)) (x_2 : Int32) (x_3 : Int32) : Option Int32 :=
  if (v0.1 6) ≤ x_2 then
    f_X1_countAtHome_K4 x_2 x_3
  else
    ckI x_2 6 <|
    ckI x_2 6 <|
    if (v0.2 7 x_2.toNatClampNeg) = (v0.2 8 x_2.toNatClampNeg) then
      selfL_4 (x_2 + 1) (x_3 + 1)
    else
      selfL_4 (x_2 + 1) x_3
def f_X1_countAtHome (v0 : SV) : Option Int32 :=
  lz2 (f_X1_countAtHome_B4 v0) FU 0 0
abbrev rm_X1_countAtHome : Room := { frames := 0, cells := 0, slots := 0, locals := 0 }
set_option maxHeartbeats 4000000 in
set_option maxRecDepth 100000 in
theorem c_X1_countAtHome (l : Launch) (D : va_G) (G : Nat → ClassId) (q0 : Nat → Nat) (v0 : SV) (r : Int32) (hf : f_X1_countAtHome v0 = some r) (sz : Nat) : mC l yX1_countAtHome wsX1_countAtHome rm_X1_countAtHome D (tyG G) kT [.ref (q0 10)] (kCats G q0 v0) (kCats G q0 v0) sz (some (.int r)) 0 0 := by
  refine mC_ofI (cc := cX1_countAtHome) (maxL := 3) (ret := (some .int)) (by decide) rfl rfl (Nat.le_of_ble_eq_true rfl) ?_
  intro p e s m args below meth c Q0 hx hb hml hts hown hN hK A hD hA hE hP hS hJ ls hl
  have hl : lv_has ls 3 [(0, .ref (q0 10))] := hl
  unfold f_X1_countAtHome at hf
  have hi1 : ∀ w ∈ u_ws RX1 TX1 4, w ∈ wsX1_countAtHome := by decide +kernel
  have hw1 := hts (.fieldLink RX1 21 "BalconyCensus$Cats" "count" "I") (by decide +kernel)
  have hw2 := hts (.fieldLink RX1 9 "BalconyCensus$Cats" "balconies" "[I") (by decide +kernel)
  have hw3 := hts (.fieldLink RX1 15 "BalconyCensus$Cats" "homes" "[I") (by decide +kernel)
  refine lv_iconst (v := 0) hx hb dX1_countAtHome_0 (by decide) ?_
  refine lv_istore_n (lv' := [(1, .int 0), (0, .ref (q0 10))]) hx hb dX1_countAtHome_1 rfl hl (by decide) rfl (fun ls hl => ?_)
  refine lv_iconst (v := 0) hx hb dX1_countAtHome_2 (by decide) ?_
  refine lv_istore_n (lv' := [(2, .int 0), (1, .int 0), (0, .ref (q0 10))]) hx hb dX1_countAtHome_3 rfl hl (by decide) rfl (fun ls hl => ?_)
  have exL_4 : ∀ (y_5 : Int32) (y_6 : Int32) (H : Heap) (locs : List Loc) (ls : Array Slot), lv_has ls 3 [(2, .int y_5), (1, .int y_6), (0, .ref (q0 10))] → va_P D vwCl (kCats G q0 v0) H → va_D A (kCats G q0 v0) → va_S A s.heap H locs → f_X1_countAtHome_K4 y_5 y_6 = some r → W p l e rm_X1_countAtHome s m args below meth c H locs 0 0 Q0 (F0 m 36 ls []) := by
    intro y_5 y_6 H locs ls hl hP hD hS hf
    unfold f_X1_countAtHome_K4 at hf
    refine lv_iload_n hx hb dX1_countAtHome_36 rfl (lv_at hl 1 rfl) ?_
    obtain rfl := re1 hf
    exact hE hP hD hS dX1_countAtHome_37
  have loL_4 : ∀ (n : Nat) (x_2 : Int32) (x_3 : Int32) (H : Heap) (locs : List Loc) (ls : Array Slot), lv_has ls 3 [(2, .int x_2), (1, .int x_3), (0, .ref (q0 10))] → va_P D vwCl (kCats G q0 v0) H → va_D A (kCats G q0 v0) → va_S A s.heap H locs → lz2 (f_X1_countAtHome_B4 v0) n x_2 x_3 = some r → W p l e rm_X1_countAtHome s m args below meth c H locs 0 0 Q0 (F0 m 4 ls []) := by
    intro n
    induction n with
    | zero => intro x_2 x_3 H locs ls hl hP hD hS hf; cases hf
    | succ n ihL_4 =>
      intro x_2 x_3 H locs ls hl hP hD hS hf
      replace hf := lz2_s hf
      unfold f_X1_countAtHome_B4 at hf
      refine lv_iload_n hx hb dX1_countAtHome_4 rfl (lv_at hl 0 rfl) ?_
      refine lv_aload_n hx hb dX1_countAtHome_5 rfl (lv_at hl 2 rfl) ?_
      refine va_get (D := D) (ci := 1) (v := .int (v0.1 6)) (C := RX1) (T := TX1) (N := 4) hx hb hts hi1 hown hK hP 0 rfl rfl 3 (by decide) hw1 (fun _ h9 => h9) rfl dX1_countAtHome_6 ?_
      refine lv_icmp_ge (tgt := 36) hx hb dX1_countAtHome_9 (by decide) (fun cc => ?_) (fun cc => ?_)
      · replace hf := ifT cc hf
        exact exL_4 x_2 x_3 _ _ _ (lv_sub hl [0, 1, 2] rfl) hP hD hS hf
      · replace hf := ifF cc hf
        refine lv_aload_n hx hb dX1_countAtHome_12 rfl (lv_at hl 2 rfl) ?_
        refine va_get (D := D) (ci := 1) (v := .ref (q0 11)) (C := RX1) (T := TX1) (N := 4) hx hb hts hi1 hown hK hP 0 rfl rfl 0 (by decide) hw2 (fun _ h9 => h9) rfl dX1_countAtHome_13 ?_
        refine lv_iload_n hx hb dX1_countAtHome_16 rfl (lv_at hl 0 rfl) ?_
        obtain ⟨hin, hf⟩ := ckI_of hf
        refine va_iald (D := D) hx hb hK hP 1 0 rfl rfl hin dX1_countAtHome_17 ?_
        refine lv_aload_n hx hb dX1_countAtHome_18 rfl (lv_at hl 2 rfl) ?_
        refine va_get (D := D) (ci := 1) (v := .ref (q0 12)) (C := RX1) (T := TX1) (N := 4) hx hb hts hi1 hown hK hP 0 rfl rfl 1 (by decide) hw3 (fun _ h9 => h9) rfl dX1_countAtHome_19 ?_
        refine lv_iload_n hx hb dX1_countAtHome_22 rfl (lv_at hl 0 rfl) ?_
        obtain ⟨hin, hf⟩ := ckI_of hf
        refine va_iald (D := D) hx hb hK hP 2 0 rfl rfl hin dX1_countAtHome_23 ?_
        refine lv_icmp_ne (tgt := 30) hx hb dX1_countAtHome_24 (by decide) (fun cc => ?_) (fun cc => ?_)
        · replace hf := ifF cc hf
          refine lv_iinc (v := (x_2 + 1)) (lv' := [(2, .int (x_2 + 1)), (1, .int x_3), (0, .ref (q0 10))]) hx hb dX1_countAtHome_30 hl (k := 0) rfl rfl (by decide) rfl (fun ls hl => ?_)
          refine lv_goto (tgt := 4) hx hb dX1_countAtHome_33 (by decide) ?_
          exact ihL_4 (x_2 + 1) x_3 _ _ _ (lv_sub hl [0, 1, 2] rfl) hP hD hS hf
        · replace hf := ifT cc hf
          refine lv_iinc (v := (x_3 + 1)) (lv' := [(1, .int (x_3 + 1)), (2, .int x_2), (0, .ref (q0 10))]) hx hb dX1_countAtHome_27 hl (k := 1) rfl rfl (by decide) rfl (fun ls hl => ?_)
          refine lv_iinc (v := (x_2 + 1)) (lv' := [(2, .int (x_2 + 1)), (1, .int (x_3 + 1)), (0, .ref (q0 10))]) hx hb dX1_countAtHome_30 hl (k := 1) rfl rfl (by decide) rfl (fun ls hl => ?_)
          refine lv_goto (tgt := 4) hx hb dX1_countAtHome_33 (by decide) ?_
          exact ihL_4 (x_2 + 1) (x_3 + 1) _ _ _ (lv_sub hl [0, 1, 2] rfl) hP hD hS hf
  exact loL_4 FU 0 0 _ _ _ hl hP hD hS hf
def f_X1_swapSum_K4 (y_7 : Int32) (y_8 : Int32) : Option Int32 :=
  some y_8
def f_X1_swapSum_B4 (v0 : SV) (selfL_5 : (Int32 → Int32 → Option Int32)) (x_3 : Int32) (x_4 : Int32) : Option Int32 :=
  if (v0.1 6) ≤ x_3 then
    f_X1_swapSum_K4 x_3 x_4
  else
    ckI x_3 6 <|
    nm (x_4 + (v0.2 9 x_3.toNatClampNeg)) fun t_6 =>
    selfL_5 (x_3 + 1) t_6
def f_X1_swapSum (v0 : SV) : Option Int32 :=
  lz2 (f_X1_swapSum_B4 v0) FU 0 0
abbrev rm_X1_swapSum : Room := { frames := 0, cells := 0, slots := 0, locals := 0 }
set_option maxHeartbeats 4000000 in
set_option maxRecDepth 100000 in
theorem c_X1_swapSum (l : Launch) (D : va_G) (G : Nat → ClassId) (q0 : Nat → Nat) (v0 : SV) (r : Int32) (hf : f_X1_swapSum v0 = some r) (sz : Nat) : mC l yX1_swapSum wsX1_swapSum rm_X1_swapSum D (tyG G) kT [.ref (q0 10)] (kCats G q0 v0) (kCats G q0 v0) sz (some (.int r)) 0 0 := by
  refine mC_ofI (cc := cX1_swapSum) (maxL := 3) (ret := (some .int)) (by decide) rfl rfl (Nat.le_of_ble_eq_true rfl) ?_
  intro p e s m args below meth c Q0 hx hb hml hts hown hN hK A hD hA hE hP hS hJ ls hl
  have hl : lv_has ls 3 [(0, .ref (q0 10))] := hl
  unfold f_X1_swapSum at hf
  have hi1 : ∀ w ∈ u_ws RX1 TX1 4, w ∈ wsX1_swapSum := by decide +kernel
  have hw1 := hts (.fieldLink RX1 21 "BalconyCensus$Cats" "count" "I") (by decide +kernel)
  have hw2 := hts (.fieldLink RX1 18 "BalconyCensus$Cats" "swaps" "[I") (by decide +kernel)
  refine lv_iconst (v := 0) hx hb dX1_swapSum_0 (by decide) ?_
  refine lv_istore_n (lv' := [(1, .int 0), (0, .ref (q0 10))]) hx hb dX1_swapSum_1 rfl hl (by decide) rfl (fun ls hl => ?_)
  refine lv_iconst (v := 0) hx hb dX1_swapSum_2 (by decide) ?_
  refine lv_istore_n (lv' := [(2, .int 0), (1, .int 0), (0, .ref (q0 10))]) hx hb dX1_swapSum_3 rfl hl (by decide) rfl (fun ls hl => ?_)
  have exL_5 : ∀ (y_7 : Int32) (y_8 : Int32) (H : Heap) (locs : List Loc) (ls : Array Slot), lv_has ls 3 [(2, .int y_7), (1, .int y_8), (0, .ref (q0 10))] → va_P D vwCl (kCats G q0 v0) H → va_D A (kCats G q0 v0) → va_S A s.heap H locs → f_X1_swapSum_K4 y_7 y_8 = some r → W p l e rm_X1_swapSum s m args below meth c H locs 0 0 Q0 (F0 m 27 ls []) := by
    intro y_7 y_8 H locs ls hl hP hD hS hf
    unfold f_X1_swapSum_K4 at hf
    refine lv_iload_n hx hb dX1_swapSum_27 rfl (lv_at hl 1 rfl) ?_
    obtain rfl := re1 hf
    exact hE hP hD hS dX1_swapSum_28
  have loL_5 : ∀ (n : Nat) (x_3 : Int32) (x_4 : Int32) (H : Heap) (locs : List Loc) (ls : Array Slot), lv_has ls 3 [(2, .int x_3), (1, .int x_4), (0, .ref (q0 10))] → va_P D vwCl (kCats G q0 v0) H → va_D A (kCats G q0 v0) → va_S A s.heap H locs → lz2 (f_X1_swapSum_B4 v0) n x_3 x_4 = some r → W p l e rm_X1_swapSum s m args below meth c H locs 0 0 Q0 (F0 m 4 ls []) := by
    intro n
    induction n with
    | zero => intro x_3 x_4 H locs ls hl hP hD hS hf; cases hf
    | succ n ihL_5 =>
      intro x_3 x_4 H locs ls hl hP hD hS hf
      replace hf := lz2_s hf
      unfold f_X1_swapSum_B4 at hf
      refine lv_iload_n hx hb dX1_swapSum_4 rfl (lv_at hl 0 rfl) ?_
      refine lv_aload_n hx hb dX1_swapSum_5 rfl (lv_at hl 2 rfl) ?_
      refine va_get (D := D) (ci := 1) (v := .int (v0.1 6)) (C := RX1) (T := TX1) (N := 4) hx hb hts hi1 hown hK hP 0 rfl rfl 3 (by decide) hw1 (fun _ h9 => h9) rfl dX1_swapSum_6 ?_
      refine lv_icmp_ge (tgt := 27) hx hb dX1_swapSum_9 (by decide) (fun cc => ?_) (fun cc => ?_)
      · replace hf := ifT cc hf
        exact exL_5 x_3 x_4 _ _ _ (lv_sub hl [0, 1, 2] rfl) hP hD hS hf
      · replace hf := ifF cc hf
        refine lv_iload_n hx hb dX1_swapSum_12 rfl (lv_at hl 1 rfl) ?_
        refine lv_aload_n hx hb dX1_swapSum_13 rfl (lv_at hl 2 rfl) ?_
        refine va_get (D := D) (ci := 1) (v := .ref (q0 13)) (C := RX1) (T := TX1) (N := 4) hx hb hts hi1 hown hK hP 0 rfl rfl 2 (by decide) hw2 (fun _ h9 => h9) rfl dX1_swapSum_14 ?_
        refine lv_iload_n hx hb dX1_swapSum_17 rfl (lv_at hl 0 rfl) ?_
        obtain ⟨hin, hf⟩ := ckI_of hf
        refine va_iald (D := D) hx hb hK hP 3 0 rfl rfl hin dX1_swapSum_18 ?_
        refine lv_iadd hx hb dX1_swapSum_19 ?_
        obtain ⟨t_6, et_6, hf⟩ := nm_of hf
        rw [← et_6]
        refine lv_istore_n (lv' := [(1, .int t_6), (2, .int x_3), (0, .ref (q0 10))]) hx hb dX1_swapSum_20 rfl hl (by decide) rfl (fun ls hl => ?_)
        refine lv_iinc (v := (x_3 + 1)) (lv' := [(2, .int (x_3 + 1)), (1, .int t_6), (0, .ref (q0 10))]) hx hb dX1_swapSum_21 hl (k := 1) rfl rfl (by decide) rfl (fun ls hl => ?_)
        refine lv_goto (tgt := 4) hx hb dX1_swapSum_24 (by decide) ?_
        exact ihL_5 (x_3 + 1) t_6 _ _ _ (lv_sub hl [0, 1, 2] rfl) hP hD hS hf
  exact loL_5 FU 0 0 _ _ _ hl hP hD hS hf
def f_X1_isAnyTogether_K2 (y_11 : Int32) : Option Int32 :=
  some 0
def f_X1_isAnyTogether_K14 (selfL_7 : (Int32 → Option Int32)) (x_6 : Int32) (y_10 : Int32) : Option Int32 :=
  selfL_7 (x_6 + 1)
def f_X1_isAnyTogether_B14 (v0 : SV) (selfL_7 : (Int32 → Option Int32)) (x_6 : Int32) (selfL_9 : (Int32 → Option Int32)) (x_8 : Int32) : Option Int32 :=
  if (v0.1 6) ≤ x_8 then
    f_X1_isAnyTogether_K14 selfL_7 x_6 x_8
  else
    ckI x_6 6 <|
    ckI x_8 6 <|
    if (v0.2 7 x_6.toNatClampNeg) = (v0.2 7 x_8.toNatClampNeg) then
      some 1
    else
      selfL_9 (x_8 + 1)
def f_X1_isAnyTogether_B2 (v0 : SV) (selfL_7 : (Int32 → Option Int32)) (x_6 : Int32) : Option Int32 :=
  if (v0.1 6) ≤ x_6 then
    f_X1_isAnyTogether_K2 x_6
  else
    lz1 (f_X1_isAnyTogether_B14 v0 selfL_7 x_6) FU (x_6 + 1)
def f_X1_isAnyTogether (v0 : SV) : Option Int32 :=
  lz1 (f_X1_isAnyTogether_B2 v0) FU 0
abbrev rm_X1_isAnyTogether : Room := { frames := 0, cells := 0, slots := 0, locals := 0 }
set_option maxHeartbeats 4000000 in
set_option maxRecDepth 100000 in
theorem c_X1_isAnyTogether (l : Launch) (D : va_G) (G : Nat → ClassId) (q0 : Nat → Nat) (v0 : SV) (r : Int32) (hf : f_X1_isAnyTogether v0 = some r) (sz : Nat) : mC l yX1_isAnyTogether wsX1_isAnyTogether rm_X1_isAnyTogether D (tyG G) kT [.ref (q0 10)] (kCats G q0 v0) (kCats G q0 v0) sz (some (.int r)) 0 0 := by
  refine mC_ofZ (cc := cX1_isAnyTogether) (maxL := 3) (ret := (some .boolean)) (by decide) rfl rfl (Nat.le_of_ble_eq_true rfl) ?_
  intro p e s m args below meth c Q0 hx hb hml hts hown hN hK A hD hA hE hP hS hJ ls hl
  have hl : lv_has ls 3 [(0, .ref (q0 10))] := hl
  unfold f_X1_isAnyTogether at hf
  have hi1 : ∀ w ∈ u_ws RX1 TX1 4, w ∈ wsX1_isAnyTogether := by decide +kernel
  have hw1 := hts (.fieldLink RX1 21 "BalconyCensus$Cats" "count" "I") (by decide +kernel)
  have hw2 := hts (.fieldLink RX1 9 "BalconyCensus$Cats" "balconies" "[I") (by decide +kernel)
  refine lv_iconst (v := 0) hx hb dX1_isAnyTogether_0 (by decide) ?_
  refine lv_istore_n (lv' := [(1, .int 0), (0, .ref (q0 10))]) hx hb dX1_isAnyTogether_1 rfl hl (by decide) rfl (fun ls hl => ?_)
  have exL_7 : ∀ (y_11 : Int32) (H : Heap) (locs : List Loc) (ls : Array Slot), lv_has ls 3 [(1, .int y_11), (0, .ref (q0 10))] → va_P D vwCl (kCats G q0 v0) H → va_D A (kCats G q0 v0) → va_S A s.heap H locs → f_X1_isAnyTogether_K2 y_11 = some r → W p l e rm_X1_isAnyTogether s m args below meth c H locs 0 0 Q0 (F0 m 51 ls []) := by
    intro y_11 H locs ls hl hP hD hS hf
    unfold f_X1_isAnyTogether_K2 at hf
    refine lv_iconst (v := 0) hx hb dX1_isAnyTogether_51 (by decide) ?_
    obtain rfl := re1 hf
    exact hE (.inl rfl) hP hD hS dX1_isAnyTogether_52
  have loL_7 : ∀ (n : Nat) (x_6 : Int32) (H : Heap) (locs : List Loc) (ls : Array Slot), lv_has ls 3 [(1, .int x_6), (0, .ref (q0 10))] → va_P D vwCl (kCats G q0 v0) H → va_D A (kCats G q0 v0) → va_S A s.heap H locs → lz1 (f_X1_isAnyTogether_B2 v0) n x_6 = some r → W p l e rm_X1_isAnyTogether s m args below meth c H locs 0 0 Q0 (F0 m 2 ls []) := by
    intro n
    induction n with
    | zero => intro x_6 H locs ls hl hP hD hS hf; cases hf
    | succ n ihL_7 =>
      intro x_6 H locs ls hl hP hD hS hf
      replace hf := lz1_s hf
      generalize lz1 (f_X1_isAnyTogether_B2 v0) n = selfL_7 at hf ihL_7
      unfold f_X1_isAnyTogether_B2 at hf
      refine lv_iload_n hx hb dX1_isAnyTogether_2 rfl (lv_at hl 0 rfl) ?_
      refine lv_aload_n hx hb dX1_isAnyTogether_3 rfl (lv_at hl 1 rfl) ?_
      refine va_get (D := D) (ci := 1) (v := .int (v0.1 6)) (C := RX1) (T := TX1) (N := 4) hx hb hts hi1 hown hK hP 0 rfl rfl 3 (by decide) hw1 (fun _ h9 => h9) rfl dX1_isAnyTogether_4 ?_
      refine lv_icmp_ge (tgt := 51) hx hb dX1_isAnyTogether_7 (by decide) (fun cc => ?_) (fun cc => ?_)
      · replace hf := ifT cc hf
        exact exL_7 x_6 _ _ _ (lv_sub hl [0, 1] rfl) hP hD hS hf
      · replace hf := ifF cc hf
        refine lv_iload_n hx hb dX1_isAnyTogether_10 rfl (lv_at hl 0 rfl) ?_
        refine lv_iconst (v := 1) hx hb dX1_isAnyTogether_11 (by decide) ?_
        refine lv_iadd hx hb dX1_isAnyTogether_12 ?_
        refine lv_istore_n (lv' := [(2, .int (x_6 + 1)), (1, .int x_6), (0, .ref (q0 10))]) hx hb dX1_isAnyTogether_13 rfl hl (by decide) rfl (fun ls hl => ?_)
        have exL_9 : ∀ (y_10 : Int32) (H : Heap) (locs : List Loc) (ls : Array Slot), lv_has ls 3 [(2, .int y_10), (1, .int x_6), (0, .ref (q0 10))] → va_P D vwCl (kCats G q0 v0) H → va_D A (kCats G q0 v0) → va_S A s.heap H locs → f_X1_isAnyTogether_K14 selfL_7 x_6 y_10 = some r → W p l e rm_X1_isAnyTogether s m args below meth c H locs 0 0 Q0 (F0 m 45 ls []) := by
          intro y_10 H locs ls hl hP hD hS hf
          unfold f_X1_isAnyTogether_K14 at hf
          refine lv_iinc (v := (x_6 + 1)) (lv' := [(1, .int (x_6 + 1)), (2, .int y_10), (0, .ref (q0 10))]) hx hb dX1_isAnyTogether_45 hl (k := 1) rfl rfl (by decide) rfl (fun ls hl => ?_)
          refine lv_goto (tgt := 2) hx hb dX1_isAnyTogether_48 (by decide) ?_
          exact ihL_7 (x_6 + 1) _ _ _ (lv_sub hl [0, 2] rfl) hP hD hS hf
        have loL_9 : ∀ (n : Nat) (x_8 : Int32) (H : Heap) (locs : List Loc) (ls : Array Slot), lv_has ls 3 [(2, .int x_8), (1, .int x_6), (0, .ref (q0 10))] → va_P D vwCl (kCats G q0 v0) H → va_D A (kCats G q0 v0) → va_S A s.heap H locs → lz1 (f_X1_isAnyTogether_B14 v0 selfL_7 x_6) n x_8 = some r → W p l e rm_X1_isAnyTogether s m args below meth c H locs 0 0 Q0 (F0 m 14 ls []) := by
          intro n
          induction n with
          | zero => intro x_8 H locs ls hl hP hD hS hf; cases hf
          | succ n ihL_9 =>
            intro x_8 H locs ls hl hP hD hS hf
            replace hf := lz1_s hf
            unfold f_X1_isAnyTogether_B14 at hf
            refine lv_iload_n hx hb dX1_isAnyTogether_14 rfl (lv_at hl 0 rfl) ?_
            refine lv_aload_n hx hb dX1_isAnyTogether_15 rfl (lv_at hl 2 rfl) ?_
            refine va_get (D := D) (ci := 1) (v := .int (v0.1 6)) (C := RX1) (T := TX1) (N := 4) hx hb hts hi1 hown hK hP 0 rfl rfl 3 (by decide) hw1 (fun _ h9 => h9) rfl dX1_isAnyTogether_16 ?_
            refine lv_icmp_ge (tgt := 45) hx hb dX1_isAnyTogether_19 (by decide) (fun cc => ?_) (fun cc => ?_)
            · replace hf := ifT cc hf
              exact exL_9 x_8 _ _ _ (lv_sub hl [0, 1, 2] rfl) hP hD hS hf
            · replace hf := ifF cc hf
              refine lv_aload_n hx hb dX1_isAnyTogether_22 rfl (lv_at hl 2 rfl) ?_
              refine va_get (D := D) (ci := 1) (v := .ref (q0 11)) (C := RX1) (T := TX1) (N := 4) hx hb hts hi1 hown hK hP 0 rfl rfl 0 (by decide) hw2 (fun _ h9 => h9) rfl dX1_isAnyTogether_23 ?_
              refine lv_iload_n hx hb dX1_isAnyTogether_26 rfl (lv_at hl 1 rfl) ?_
              obtain ⟨hin, hf⟩ := ckI_of hf
              refine va_iald (D := D) hx hb hK hP 1 0 rfl rfl hin dX1_isAnyTogether_27 ?_
              refine lv_aload_n hx hb dX1_isAnyTogether_28 rfl (lv_at hl 2 rfl) ?_
              refine va_get (D := D) (ci := 1) (v := .ref (q0 11)) (C := RX1) (T := TX1) (N := 4) hx hb hts hi1 hown hK hP 0 rfl rfl 0 (by decide) hw2 (fun _ h9 => h9) rfl dX1_isAnyTogether_29 ?_
              refine lv_iload_n hx hb dX1_isAnyTogether_32 rfl (lv_at hl 0 rfl) ?_
              obtain ⟨hin, hf⟩ := ckI_of hf
              refine va_iald (D := D) hx hb hK hP 1 0 rfl rfl hin dX1_isAnyTogether_33 ?_
              refine lv_icmp_ne (tgt := 39) hx hb dX1_isAnyTogether_34 (by decide) (fun cc => ?_) (fun cc => ?_)
              · replace hf := ifF cc hf
                refine lv_iinc (v := (x_8 + 1)) (lv' := [(2, .int (x_8 + 1)), (1, .int x_6), (0, .ref (q0 10))]) hx hb dX1_isAnyTogether_39 hl (k := 0) rfl rfl (by decide) rfl (fun ls hl => ?_)
                refine lv_goto (tgt := 14) hx hb dX1_isAnyTogether_42 (by decide) ?_
                exact ihL_9 (x_8 + 1) _ _ _ (lv_sub hl [0, 1, 2] rfl) hP hD hS hf
              · replace hf := ifT cc hf
                refine lv_iconst (v := 1) hx hb dX1_isAnyTogether_37 (by decide) ?_
                obtain rfl := re1 hf
                exact hE (.inr rfl) hP hD hS dX1_isAnyTogether_38
        exact loL_9 FU (x_6 + 1) _ _ _ hl hP hD hS hf
  exact loL_7 FU 0 _ _ _ hl hP hD hS hf
