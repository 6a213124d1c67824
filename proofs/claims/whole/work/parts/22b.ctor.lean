/-! Walks, laid by wip/whole/gen.py: for each method f_ (what it does to its world) and c_ (its contract). -/
def vRf0 : SV := (fun _ => -4, fun _ _ => 0)
abbrev rm_X7_init : Room := { frames := 1, cells := 3, slots := 18, locals := 12 }
set_option maxHeartbeats 4000000 in
set_option maxRecDepth 100000 in
theorem c_X7_init (l : Launch) (D : va_G) (G : Nat → ClassId) (a0 : Nat) (sz : Nat) : mCX (τ := (Nat → Nat)) l yX7_init wsX7_init rm_X7_init D (tyG G) kT [.ref a0] [(a0, .inr (5, [.null, .null, .null, .int 0, .int 0]))] (fun x => kLines G (fun i => if i = 3 then a0 else x i) zSV) sz (fun _ => none) 3 18 := by
  refine mCX_of (cc := cX7_init) (maxL := 1) (by decide) rfl (Nat.le_of_ble_eq_true rfl) rfl ?_
  intro p e s m args below meth c Q0 hx hb hml hts hown hin hN hK A hD hA hE hP hS hJ ls hl
  have hl : lv_has ls 1 [(0, .ref a0)] := hl
  have hi5 : ∀ w ∈ u_ws RX7 TX7 5, w ∈ wsX7_init := by decide +kernel
  have hw1 := hts (.methodLink RX7 3 objectInit) (by decide +kernel)
  have hw2 := hts (.instanceMethod objectInit) (by decide +kernel)
  have hw3 := hts (.code objectInit ⟨#[0xb1]⟩ 1 none) (by decide +kernel)
  have hw4 := hts (.arrayClass .int) (by decide +kernel)
  have hw5 := hts (.fieldLink RX7 9 "BalconyCensus$Lines" "lower" "[I") (by decide +kernel)
  have hw6 := hts (.fieldLink RX7 15 "BalconyCensus$Lines" "higher" "[I") (by decide +kernel)
  have hw7 := hts (.fieldLink RX7 18 "BalconyCensus$Lines" "daysLeft" "[I") (by decide +kernel)
  refine lv_aload_n hx hb dX7_init_0 rfl (lv_at hl 0 rfl) ?_
  refine W.objInit hx hb hown hw1 hw2 hw3 rfl (by rw [hml]; exact hl.1) rfl dX7_init_1 (Nat.le_of_ble_eq_true rfl) (Nat.le_of_ble_eq_true rfl) ?_
  refine W.eq (g2 := F0 m 4 ls []) rfl ?_
  refine lv_aload_n hx hb dX7_init_4 rfl (lv_at hl 0 rfl) ?_
  refine lv_bipush (v := 6) hx hb dX7_init_5 (by decide +kernel) ?_
  refine va_newa (atype := .int) (ty := .int) (a0 := (6, .inl (fun _ => 0))) (N' := 6) hx hb hw4 rfl hK hP hD hS hA (fun cA => rfl) (by decide) (by decide +kernel) (Nat.le_of_ble_eq_true rfl) (Nat.le_of_ble_eq_true rfl) (Nat.le_of_ble_eq_true rfl) dX7_init_7 (fun p1 cA H hK2 hP hD hS => ?_)
  have hcA : G 0 = cA := Option.some.inj ((hK.2 0 _ rfl).2.symm.trans (hK2.2 4 _ rfl).2)
  subst hcA
  have hP : va_P D vwCl [(a0, .inr (5, [.null, .null, .null, .int 0, .int 0])), (p1, .inl (G 0, 6, .inl (fun _ => 0)))] H := hP
  have hD : va_D A [(a0, .inr (5, [.null, .null, .null, .int 0, .int 0])), (p1, .inl (G 0, 6, .inl (fun _ => 0)))] := hD
  refine W.widen (k := 1) (n := 6) (by omega) (by omega) ?_
  refine va_putF (D := D) (ci := 5) (v := .ref p1) (ty := .array .int) (C := RX7) (T := TX7) (N := 5) hx hb hts hi5 tyX7 tyX7_ok nmX7 hown hK hP hD hS 0 rfl rfl 0 (by decide) hw5 (fun _ h9 => h9) rfl hin rfl (by decide +kernel) rfl rfl (Nat.le_of_ble_eq_true rfl) dX7_init_9 (fun H locs hP hD hS => ?_)
  have hP : va_P D vwCl [(a0, .inr (5, [.ref p1, .null, .null, .int 0, .int 0])), (p1, .inl (G 0, 6, .inl (fun _ => 0)))] H := hP
  have hD : va_D A [(a0, .inr (5, [.ref p1, .null, .null, .int 0, .int 0])), (p1, .inl (G 0, 6, .inl (fun _ => 0)))] := hD
  refine lv_aload_n hx hb dX7_init_12 rfl (lv_at hl 0 rfl) ?_
  refine lv_bipush (v := 6) hx hb dX7_init_13 (by decide +kernel) ?_
  refine va_newa (atype := .int) (ty := .int) (a0 := (6, .inl (fun _ => 0))) (N' := 6) hx hb hw4 rfl hK hP hD hS hA (fun cA => rfl) (by decide) (by decide +kernel) (Nat.le_of_ble_eq_true rfl) (Nat.le_of_ble_eq_true rfl) (Nat.le_of_ble_eq_true rfl) dX7_init_15 (fun p2 cA H hK2 hP hD hS => ?_)
  have hcA : G 0 = cA := Option.some.inj ((hK.2 0 _ rfl).2.symm.trans (hK2.2 4 _ rfl).2)
  subst hcA
  have hP : va_P D vwCl [(a0, .inr (5, [.ref p1, .null, .null, .int 0, .int 0])), (p1, .inl (G 0, 6, .inl (fun _ => 0))), (p2, .inl (G 0, 6, .inl (fun _ => 0)))] H := hP
  have hD : va_D A [(a0, .inr (5, [.ref p1, .null, .null, .int 0, .int 0])), (p1, .inl (G 0, 6, .inl (fun _ => 0))), (p2, .inl (G 0, 6, .inl (fun _ => 0)))] := hD
  refine W.widen (k := 2) (n := 12) (by omega) (by omega) ?_
  refine va_putF (D := D) (ci := 5) (v := .ref p2) (ty := .array .int) (C := RX7) (T := TX7) (N := 5) hx hb hts hi5 tyX7 tyX7_ok nmX7 hown hK hP hD hS 0 rfl rfl 1 (by decide) hw6 (fun _ h9 => h9) rfl hin rfl (by decide +kernel) rfl rfl (Nat.le_of_ble_eq_true rfl) dX7_init_17 (fun H locs hP hD hS => ?_)
  have hP : va_P D vwCl [(a0, .inr (5, [.ref p1, .ref p2, .null, .int 0, .int 0])), (p1, .inl (G 0, 6, .inl (fun _ => 0))), (p2, .inl (G 0, 6, .inl (fun _ => 0)))] H := hP
  have hD : va_D A [(a0, .inr (5, [.ref p1, .ref p2, .null, .int 0, .int 0])), (p1, .inl (G 0, 6, .inl (fun _ => 0))), (p2, .inl (G 0, 6, .inl (fun _ => 0)))] := hD
  refine lv_aload_n hx hb dX7_init_20 rfl (lv_at hl 0 rfl) ?_
  refine lv_bipush (v := 6) hx hb dX7_init_21 (by decide +kernel) ?_
  refine va_newa (atype := .int) (ty := .int) (a0 := (6, .inl (fun _ => 0))) (N' := 6) hx hb hw4 rfl hK hP hD hS hA (fun cA => rfl) (by decide) (by decide +kernel) (Nat.le_of_ble_eq_true rfl) (Nat.le_of_ble_eq_true rfl) (Nat.le_of_ble_eq_true rfl) dX7_init_23 (fun p3 cA H hK2 hP hD hS => ?_)
  have hcA : G 0 = cA := Option.some.inj ((hK.2 0 _ rfl).2.symm.trans (hK2.2 4 _ rfl).2)
  subst hcA
  have hP : va_P D vwCl [(a0, .inr (5, [.ref p1, .ref p2, .null, .int 0, .int 0])), (p1, .inl (G 0, 6, .inl (fun _ => 0))), (p2, .inl (G 0, 6, .inl (fun _ => 0))), (p3, .inl (G 0, 6, .inl (fun _ => 0)))] H := hP
  have hD : va_D A [(a0, .inr (5, [.ref p1, .ref p2, .null, .int 0, .int 0])), (p1, .inl (G 0, 6, .inl (fun _ => 0))), (p2, .inl (G 0, 6, .inl (fun _ => 0))), (p3, .inl (G 0, 6, .inl (fun _ => 0)))] := hD
  refine W.widen (k := 3) (n := 18) (by omega) (by omega) ?_
  refine va_putF (D := D) (ci := 5) (v := .ref p3) (ty := .array .int) (C := RX7) (T := TX7) (N := 5) hx hb hts hi5 tyX7 tyX7_ok nmX7 hown hK hP hD hS 0 rfl rfl 2 (by decide) hw7 (fun _ h9 => h9) rfl hin rfl (by decide +kernel) rfl rfl (Nat.le_of_ble_eq_true rfl) dX7_init_25 (fun H locs hP hD hS => ?_)
  have hP : va_P D vwCl [(a0, .inr (5, [.ref p1, .ref p2, .ref p3, .int 0, .int 0])), (p1, .inl (G 0, 6, .inl (fun _ => 0))), (p2, .inl (G 0, 6, .inl (fun _ => 0))), (p3, .inl (G 0, 6, .inl (fun _ => 0)))] H := hP
  have hD : va_D A [(a0, .inr (5, [.ref p1, .ref p2, .ref p3, .int 0, .int 0])), (p1, .inl (G 0, 6, .inl (fun _ => 0))), (p2, .inl (G 0, 6, .inl (fun _ => 0))), (p3, .inl (G 0, 6, .inl (fun _ => 0)))] := hD
  have hP : va_P D vwCl (kLines G (fun i => if i = 3 then a0 else (fun i => [0, 0, 0, 0, p1, p2, p3].getD i 0) i) zSV) H := hP
  have hD : va_D A (kLines G (fun i => if i = 3 then a0 else (fun i => [0, 0, 0, 0, p1, p2, p3].getD i 0) i) zSV) := hD
  exact hE (fun i => [0, 0, 0, 0, p1, p2, p3].getD i 0) rfl hP hD hS dX7_init_28
abbrev rm_X4_init : Room := { frames := 1, cells := 2, slots := 156, locals := 12 }
set_option maxHeartbeats 4000000 in
set_option maxRecDepth 100000 in
theorem c_X4_init (l : Launch) (D : va_G) (G : Nat → ClassId) (a0 : Nat) (sz : Nat) : mCX (τ := (Nat → Nat)) l yX4_init wsX4_init rm_X4_init D (tyG G) kT [.ref a0] [(a0, .inr (2, [.null, .null]))] (fun x => kGreet G (fun i => if i = 7 then a0 else x i) zSV) sz (fun _ => none) 2 156 := by
  refine mCX_of (cc := cX4_init) (maxL := 1) (by decide) rfl (Nat.le_of_ble_eq_true rfl) rfl ?_
  intro p e s m args below meth c Q0 hx hb hml hts hown hin hN hK A hD hA hE hP hS hJ ls hl
  have hl : lv_has ls 1 [(0, .ref a0)] := hl
  have hi2 : ∀ w ∈ u_ws RX4 TX4 2, w ∈ wsX4_init := by decide +kernel
  have hw1 := hts (.methodLink RX4 3 objectInit) (by decide +kernel)
  have hw2 := hts (.instanceMethod objectInit) (by decide +kernel)
  have hw3 := hts (.code objectInit ⟨#[0xb1]⟩ 1 none) (by decide +kernel)
  have hw4 := hts (.arrayClass .int) (by decide +kernel)
  have hw5 := hts (.fieldLink RX4 9 "BalconyCensus$Greetings" "counts" "[I") (by decide +kernel)
  have hw6 := hts (.fieldLink RX4 15 "BalconyCensus$Greetings" "today" "[I") (by decide +kernel)
  refine lv_aload_n hx hb dX4_init_0 rfl (lv_at hl 0 rfl) ?_
  refine W.objInit hx hb hown hw1 hw2 hw3 rfl (by rw [hml]; exact hl.1) rfl dX4_init_1 (Nat.le_of_ble_eq_true rfl) (Nat.le_of_ble_eq_true rfl) ?_
  refine W.eq (g2 := F0 m 4 ls []) rfl ?_
  refine lv_aload_n hx hb dX4_init_4 rfl (lv_at hl 0 rfl) ?_
  refine lv_sipush (v := 144) hx hb dX4_init_5 (by decide +kernel) ?_
  refine va_newa (atype := .int) (ty := .int) (a0 := (144, .inl (fun _ => 0))) (N' := 144) hx hb hw4 rfl hK hP hD hS hA (fun cA => rfl) (by decide) (by decide +kernel) (Nat.le_of_ble_eq_true rfl) (Nat.le_of_ble_eq_true rfl) (Nat.le_of_ble_eq_true rfl) dX4_init_8 (fun p1 cA H hK2 hP hD hS => ?_)
  have hcA : G 0 = cA := Option.some.inj ((hK.2 0 _ rfl).2.symm.trans (hK2.2 4 _ rfl).2)
  subst hcA
  have hP : va_P D vwCl [(a0, .inr (2, [.null, .null])), (p1, .inl (G 0, 144, .inl (fun _ => 0)))] H := hP
  have hD : va_D A [(a0, .inr (2, [.null, .null])), (p1, .inl (G 0, 144, .inl (fun _ => 0)))] := hD
  refine W.widen (k := 1) (n := 144) (by omega) (by omega) ?_
  refine va_putF (D := D) (ci := 2) (v := .ref p1) (ty := .array .int) (C := RX4) (T := TX4) (N := 2) hx hb hts hi2 tyX4 tyX4_ok nmX4 hown hK hP hD hS 0 rfl rfl 0 (by decide) hw5 (fun _ h9 => h9) rfl hin rfl (by decide +kernel) rfl rfl (Nat.le_of_ble_eq_true rfl) dX4_init_10 (fun H locs hP hD hS => ?_)
  have hP : va_P D vwCl [(a0, .inr (2, [.ref p1, .null])), (p1, .inl (G 0, 144, .inl (fun _ => 0)))] H := hP
  have hD : va_D A [(a0, .inr (2, [.ref p1, .null])), (p1, .inl (G 0, 144, .inl (fun _ => 0)))] := hD
  refine lv_aload_n hx hb dX4_init_13 rfl (lv_at hl 0 rfl) ?_
  refine lv_bipush (v := 12) hx hb dX4_init_14 (by decide +kernel) ?_
  refine va_newa (atype := .int) (ty := .int) (a0 := (12, .inl (fun _ => 0))) (N' := 12) hx hb hw4 rfl hK hP hD hS hA (fun cA => rfl) (by decide) (by decide +kernel) (Nat.le_of_ble_eq_true rfl) (Nat.le_of_ble_eq_true rfl) (Nat.le_of_ble_eq_true rfl) dX4_init_16 (fun p2 cA H hK2 hP hD hS => ?_)
  have hcA : G 0 = cA := Option.some.inj ((hK.2 0 _ rfl).2.symm.trans (hK2.2 4 _ rfl).2)
  subst hcA
  have hP : va_P D vwCl [(a0, .inr (2, [.ref p1, .null])), (p1, .inl (G 0, 144, .inl (fun _ => 0))), (p2, .inl (G 0, 12, .inl (fun _ => 0)))] H := hP
  have hD : va_D A [(a0, .inr (2, [.ref p1, .null])), (p1, .inl (G 0, 144, .inl (fun _ => 0))), (p2, .inl (G 0, 12, .inl (fun _ => 0)))] := hD
  refine W.widen (k := 2) (n := 156) (by omega) (by omega) ?_
  refine va_putF (D := D) (ci := 2) (v := .ref p2) (ty := .array .int) (C := RX4) (T := TX4) (N := 2) hx hb hts hi2 tyX4 tyX4_ok nmX4 hown hK hP hD hS 0 rfl rfl 1 (by decide) hw6 (fun _ h9 => h9) rfl hin rfl (by decide +kernel) rfl rfl (Nat.le_of_ble_eq_true rfl) dX4_init_18 (fun H locs hP hD hS => ?_)
  have hP : va_P D vwCl [(a0, .inr (2, [.ref p1, .ref p2])), (p1, .inl (G 0, 144, .inl (fun _ => 0))), (p2, .inl (G 0, 12, .inl (fun _ => 0)))] H := hP
  have hD : va_D A [(a0, .inr (2, [.ref p1, .ref p2])), (p1, .inl (G 0, 144, .inl (fun _ => 0))), (p2, .inl (G 0, 12, .inl (fun _ => 0)))] := hD
  have hP : va_P D vwCl (kGreet G (fun i => if i = 7 then a0 else (fun i => [0, 0, 0, 0, 0, 0, 0, 0, p1, p2].getD i 0) i) zSV) H := hP
  have hD : va_D A (kGreet G (fun i => if i = 7 then a0 else (fun i => [0, 0, 0, 0, 0, 0, 0, 0, p1, p2].getD i 0) i) zSV) := hD
  exact hE (fun i => [0, 0, 0, 0, 0, 0, 0, 0, p1, p2].getD i 0) rfl hP hD hS dX4_init_21
abbrev rm_X1_init : Room := { frames := 1, cells := 3, slots := 18, locals := 12 }
set_option maxHeartbeats 4000000 in
set_option maxRecDepth 100000 in
theorem c_X1_init (l : Launch) (D : va_G) (G : Nat → ClassId) (a0 : Nat) (sz : Nat) : mCX (τ := (Nat → Nat)) l yX1_init wsX1_init rm_X1_init D (tyG G) kT [.ref a0] [(a0, .inr (1, [.null, .null, .null, .int 0]))] (fun x => kCats G (fun i => if i = 10 then a0 else x i) zSV) sz (fun _ => none) 3 18 := by
  refine mCX_of (cc := cX1_init) (maxL := 1) (by decide) rfl (Nat.le_of_ble_eq_true rfl) rfl ?_
  intro p e s m args below meth c Q0 hx hb hml hts hown hin hN hK A hD hA hE hP hS hJ ls hl
  have hl : lv_has ls 1 [(0, .ref a0)] := hl
  have hi1 : ∀ w ∈ u_ws RX1 TX1 4, w ∈ wsX1_init := by decide +kernel
  have hw1 := hts (.methodLink RX1 3 objectInit) (by decide +kernel)
  have hw2 := hts (.instanceMethod objectInit) (by decide +kernel)
  have hw3 := hts (.code objectInit ⟨#[0xb1]⟩ 1 none) (by decide +kernel)
  have hw4 := hts (.arrayClass .int) (by decide +kernel)
  have hw5 := hts (.fieldLink RX1 9 "BalconyCensus$Cats" "balconies" "[I") (by decide +kernel)
  have hw6 := hts (.fieldLink RX1 15 "BalconyCensus$Cats" "homes" "[I") (by decide +kernel)
  have hw7 := hts (.fieldLink RX1 18 "BalconyCensus$Cats" "swaps" "[I") (by decide +kernel)
  refine lv_aload_n hx hb dX1_init_0 rfl (lv_at hl 0 rfl) ?_
  refine W.objInit hx hb hown hw1 hw2 hw3 rfl (by rw [hml]; exact hl.1) rfl dX1_init_1 (Nat.le_of_ble_eq_true rfl) (Nat.le_of_ble_eq_true rfl) ?_
  refine W.eq (g2 := F0 m 4 ls []) rfl ?_
  refine lv_aload_n hx hb dX1_init_4 rfl (lv_at hl 0 rfl) ?_
  refine lv_bipush (v := 6) hx hb dX1_init_5 (by decide +kernel) ?_
  refine va_newa (atype := .int) (ty := .int) (a0 := (6, .inl (fun _ => 0))) (N' := 6) hx hb hw4 rfl hK hP hD hS hA (fun cA => rfl) (by decide) (by decide +kernel) (Nat.le_of_ble_eq_true rfl) (Nat.le_of_ble_eq_true rfl) (Nat.le_of_ble_eq_true rfl) dX1_init_7 (fun p1 cA H hK2 hP hD hS => ?_)
  have hcA : G 0 = cA := Option.some.inj ((hK.2 0 _ rfl).2.symm.trans (hK2.2 4 _ rfl).2)
  subst hcA
  have hP : va_P D vwCl [(a0, .inr (1, [.null, .null, .null, .int 0])), (p1, .inl (G 0, 6, .inl (fun _ => 0)))] H := hP
  have hD : va_D A [(a0, .inr (1, [.null, .null, .null, .int 0])), (p1, .inl (G 0, 6, .inl (fun _ => 0)))] := hD
  refine W.widen (k := 1) (n := 6) (by omega) (by omega) ?_
  refine va_putF (D := D) (ci := 1) (v := .ref p1) (ty := .array .int) (C := RX1) (T := TX1) (N := 4) hx hb hts hi1 tyX1 tyX1_ok nmX1 hown hK hP hD hS 0 rfl rfl 0 (by decide) hw5 (fun _ h9 => h9) rfl hin rfl (by decide +kernel) rfl rfl (Nat.le_of_ble_eq_true rfl) dX1_init_9 (fun H locs hP hD hS => ?_)
  have hP : va_P D vwCl [(a0, .inr (1, [.ref p1, .null, .null, .int 0])), (p1, .inl (G 0, 6, .inl (fun _ => 0)))] H := hP
  have hD : va_D A [(a0, .inr (1, [.ref p1, .null, .null, .int 0])), (p1, .inl (G 0, 6, .inl (fun _ => 0)))] := hD
  refine lv_aload_n hx hb dX1_init_12 rfl (lv_at hl 0 rfl) ?_
  refine lv_bipush (v := 6) hx hb dX1_init_13 (by decide +kernel) ?_
  refine va_newa (atype := .int) (ty := .int) (a0 := (6, .inl (fun _ => 0))) (N' := 6) hx hb hw4 rfl hK hP hD hS hA (fun cA => rfl) (by decide) (by decide +kernel) (Nat.le_of_ble_eq_true rfl) (Nat.le_of_ble_eq_true rfl) (Nat.le_of_ble_eq_true rfl) dX1_init_15 (fun p2 cA H hK2 hP hD hS => ?_)
  have hcA : G 0 = cA := Option.some.inj ((hK.2 0 _ rfl).2.symm.trans (hK2.2 4 _ rfl).2)
  subst hcA
  have hP : va_P D vwCl [(a0, .inr (1, [.ref p1, .null, .null, .int 0])), (p1, .inl (G 0, 6, .inl (fun _ => 0))), (p2, .inl (G 0, 6, .inl (fun _ => 0)))] H := hP
  have hD : va_D A [(a0, .inr (1, [.ref p1, .null, .null, .int 0])), (p1, .inl (G 0, 6, .inl (fun _ => 0))), (p2, .inl (G 0, 6, .inl (fun _ => 0)))] := hD
  refine W.widen (k := 2) (n := 12) (by omega) (by omega) ?_
  refine va_putF (D := D) (ci := 1) (v := .ref p2) (ty := .array .int) (C := RX1) (T := TX1) (N := 4) hx hb hts hi1 tyX1 tyX1_ok nmX1 hown hK hP hD hS 0 rfl rfl 1 (by decide) hw6 (fun _ h9 => h9) rfl hin rfl (by decide +kernel) rfl rfl (Nat.le_of_ble_eq_true rfl) dX1_init_17 (fun H locs hP hD hS => ?_)
  have hP : va_P D vwCl [(a0, .inr (1, [.ref p1, .ref p2, .null, .int 0])), (p1, .inl (G 0, 6, .inl (fun _ => 0))), (p2, .inl (G 0, 6, .inl (fun _ => 0)))] H := hP
  have hD : va_D A [(a0, .inr (1, [.ref p1, .ref p2, .null, .int 0])), (p1, .inl (G 0, 6, .inl (fun _ => 0))), (p2, .inl (G 0, 6, .inl (fun _ => 0)))] := hD
  refine lv_aload_n hx hb dX1_init_20 rfl (lv_at hl 0 rfl) ?_
  refine lv_bipush (v := 6) hx hb dX1_init_21 (by decide +kernel) ?_
  refine va_newa (atype := .int) (ty := .int) (a0 := (6, .inl (fun _ => 0))) (N' := 6) hx hb hw4 rfl hK hP hD hS hA (fun cA => rfl) (by decide) (by decide +kernel) (Nat.le_of_ble_eq_true rfl) (Nat.le_of_ble_eq_true rfl) (Nat.le_of_ble_eq_true rfl) dX1_init_23 (fun p3 cA H hK2 hP hD hS => ?_)
  have hcA : G 0 = cA := Option.some.inj ((hK.2 0 _ rfl).2.symm.trans (hK2.2 4 _ rfl).2)
  subst hcA
  have hP : va_P D vwCl [(a0, .inr (1, [.ref p1, .ref p2, .null, .int 0])), (p1, .inl (G 0, 6, .inl (fun _ => 0))), (p2, .inl (G 0, 6, .inl (fun _ => 0))), (p3, .inl (G 0, 6, .inl (fun _ => 0)))] H := hP
  have hD : va_D A [(a0, .inr (1, [.ref p1, .ref p2, .null, .int 0])), (p1, .inl (G 0, 6, .inl (fun _ => 0))), (p2, .inl (G 0, 6, .inl (fun _ => 0))), (p3, .inl (G 0, 6, .inl (fun _ => 0)))] := hD
  refine W.widen (k := 3) (n := 18) (by omega) (by omega) ?_
  refine va_putF (D := D) (ci := 1) (v := .ref p3) (ty := .array .int) (C := RX1) (T := TX1) (N := 4) hx hb hts hi1 tyX1 tyX1_ok nmX1 hown hK hP hD hS 0 rfl rfl 2 (by decide) hw7 (fun _ h9 => h9) rfl hin rfl (by decide +kernel) rfl rfl (Nat.le_of_ble_eq_true rfl) dX1_init_25 (fun H locs hP hD hS => ?_)
  have hP : va_P D vwCl [(a0, .inr (1, [.ref p1, .ref p2, .ref p3, .int 0])), (p1, .inl (G 0, 6, .inl (fun _ => 0))), (p2, .inl (G 0, 6, .inl (fun _ => 0))), (p3, .inl (G 0, 6, .inl (fun _ => 0)))] H := hP
  have hD : va_D A [(a0, .inr (1, [.ref p1, .ref p2, .ref p3, .int 0])), (p1, .inl (G 0, 6, .inl (fun _ => 0))), (p2, .inl (G 0, 6, .inl (fun _ => 0))), (p3, .inl (G 0, 6, .inl (fun _ => 0)))] := hD
  have hP : va_P D vwCl (kCats G (fun i => if i = 10 then a0 else (fun i => [0, 0, 0, 0, 0, 0, 0, 0, 0, 0, 0, p1, p2, p3].getD i 0) i) zSV) H := hP
  have hD : va_D A (kCats G (fun i => if i = 10 then a0 else (fun i => [0, 0, 0, 0, 0, 0, 0, 0, 0, 0, 0, p1, p2, p3].getD i 0) i) zSV) := hD
  exact hE (fun i => [0, 0, 0, 0, 0, 0, 0, 0, 0, 0, 0, p1, p2, p3].getD i 0) rfl hP hD hS dX1_init_28
abbrev rm_X8_init : Room := { frames := 1, cells := 2, slots := 24, locals := 12 }
set_option maxHeartbeats 4000000 in
set_option maxRecDepth 100000 in
theorem c_X8_init (l : Launch) (D : va_G) (G : Nat → ClassId) (a0 : Nat) (sz : Nat) : mCX (τ := (Nat → Nat)) l yX8_init wsX8_init rm_X8_init D (tyG G) kT [.ref a0] [(a0, .inr (6, [.null, .null]))] (fun x => kOrder G (fun i => if i = 0 then a0 else x i) zSV) sz (fun _ => none) 2 24 := by
  refine mCX_of (cc := cX8_init) (maxL := 1) (by decide) rfl (Nat.le_of_ble_eq_true rfl) rfl ?_
  intro p e s m args below meth c Q0 hx hb hml hts hown hin hN hK A hD hA hE hP hS hJ ls hl
  have hl : lv_has ls 1 [(0, .ref a0)] := hl
  have hi6 : ∀ w ∈ u_ws RX8 TX8 2, w ∈ wsX8_init := by decide +kernel
  have hw1 := hts (.methodLink RX8 3 objectInit) (by decide +kernel)
  have hw2 := hts (.instanceMethod objectInit) (by decide +kernel)
  have hw3 := hts (.code objectInit ⟨#[0xb1]⟩ 1 none) (by decide +kernel)
  have hw4 := hts (.arrayClass .int) (by decide +kernel)
  have hw5 := hts (.fieldLink RX8 9 "BalconyCensus$Order" "keys" "[I") (by decide +kernel)
  have hw6 := hts (.fieldLink RX8 15 "BalconyCensus$Order" "nextKeys" "[I") (by decide +kernel)
  refine lv_aload_n hx hb dX8_init_0 rfl (lv_at hl 0 rfl) ?_
  refine W.objInit hx hb hown hw1 hw2 hw3 rfl (by rw [hml]; exact hl.1) rfl dX8_init_1 (Nat.le_of_ble_eq_true rfl) (Nat.le_of_ble_eq_true rfl) ?_
  refine W.eq (g2 := F0 m 4 ls []) rfl ?_
  refine lv_aload_n hx hb dX8_init_4 rfl (lv_at hl 0 rfl) ?_
  refine lv_bipush (v := 12) hx hb dX8_init_5 (by decide +kernel) ?_
  refine va_newa (atype := .int) (ty := .int) (a0 := (12, .inl (fun _ => 0))) (N' := 12) hx hb hw4 rfl hK hP hD hS hA (fun cA => rfl) (by decide) (by decide +kernel) (Nat.le_of_ble_eq_true rfl) (Nat.le_of_ble_eq_true rfl) (Nat.le_of_ble_eq_true rfl) dX8_init_7 (fun p1 cA H hK2 hP hD hS => ?_)
  have hcA : G 0 = cA := Option.some.inj ((hK.2 0 _ rfl).2.symm.trans (hK2.2 4 _ rfl).2)
  subst hcA
  have hP : va_P D vwCl [(a0, .inr (6, [.null, .null])), (p1, .inl (G 0, 12, .inl (fun _ => 0)))] H := hP
  have hD : va_D A [(a0, .inr (6, [.null, .null])), (p1, .inl (G 0, 12, .inl (fun _ => 0)))] := hD
  refine W.widen (k := 1) (n := 12) (by omega) (by omega) ?_
  refine va_putF (D := D) (ci := 6) (v := .ref p1) (ty := .array .int) (C := RX8) (T := TX8) (N := 2) hx hb hts hi6 tyX8 tyX8_ok nmX8 hown hK hP hD hS 0 rfl rfl 0 (by decide) hw5 (fun _ h9 => h9) rfl hin rfl (by decide +kernel) rfl rfl (Nat.le_of_ble_eq_true rfl) dX8_init_9 (fun H locs hP hD hS => ?_)
  have hP : va_P D vwCl [(a0, .inr (6, [.ref p1, .null])), (p1, .inl (G 0, 12, .inl (fun _ => 0)))] H := hP
  have hD : va_D A [(a0, .inr (6, [.ref p1, .null])), (p1, .inl (G 0, 12, .inl (fun _ => 0)))] := hD
  refine lv_aload_n hx hb dX8_init_12 rfl (lv_at hl 0 rfl) ?_
  refine lv_bipush (v := 12) hx hb dX8_init_13 (by decide +kernel) ?_
  refine va_newa (atype := .int) (ty := .int) (a0 := (12, .inl (fun _ => 0))) (N' := 12) hx hb hw4 rfl hK hP hD hS hA (fun cA => rfl) (by decide) (by decide +kernel) (Nat.le_of_ble_eq_true rfl) (Nat.le_of_ble_eq_true rfl) (Nat.le_of_ble_eq_true rfl) dX8_init_15 (fun p2 cA H hK2 hP hD hS => ?_)
  have hcA : G 0 = cA := Option.some.inj ((hK.2 0 _ rfl).2.symm.trans (hK2.2 4 _ rfl).2)
  subst hcA
  have hP : va_P D vwCl [(a0, .inr (6, [.ref p1, .null])), (p1, .inl (G 0, 12, .inl (fun _ => 0))), (p2, .inl (G 0, 12, .inl (fun _ => 0)))] H := hP
  have hD : va_D A [(a0, .inr (6, [.ref p1, .null])), (p1, .inl (G 0, 12, .inl (fun _ => 0))), (p2, .inl (G 0, 12, .inl (fun _ => 0)))] := hD
  refine W.widen (k := 2) (n := 24) (by omega) (by omega) ?_
  refine va_putF (D := D) (ci := 6) (v := .ref p2) (ty := .array .int) (C := RX8) (T := TX8) (N := 2) hx hb hts hi6 tyX8 tyX8_ok nmX8 hown hK hP hD hS 0 rfl rfl 1 (by decide) hw6 (fun _ h9 => h9) rfl hin rfl (by decide +kernel) rfl rfl (Nat.le_of_ble_eq_true rfl) dX8_init_17 (fun H locs hP hD hS => ?_)
  have hP : va_P D vwCl [(a0, .inr (6, [.ref p1, .ref p2])), (p1, .inl (G 0, 12, .inl (fun _ => 0))), (p2, .inl (G 0, 12, .inl (fun _ => 0)))] H := hP
  have hD : va_D A [(a0, .inr (6, [.ref p1, .ref p2])), (p1, .inl (G 0, 12, .inl (fun _ => 0))), (p2, .inl (G 0, 12, .inl (fun _ => 0)))] := hD
  have hP : va_P D vwCl (kOrder G (fun i => if i = 0 then a0 else (fun i => [0, p1, p2].getD i 0) i) zSV) H := hP
  have hD : va_D A (kOrder G (fun i => if i = 0 then a0 else (fun i => [0, p1, p2].getD i 0) i) zSV) := hD
  exact hE (fun i => [0, p1, p2].getD i 0) rfl hP hD hS dX8_init_20
abbrev rm_X9_init : Room := { frames := 1, cells := 2, slots := 24, locals := 12 }
set_option maxHeartbeats 4000000 in
set_option maxRecDepth 100000 in
theorem c_X9_init (l : Launch) (D : va_G) (G : Nat → ClassId) (a0 : Nat) (sz : Nat) : mCX (τ := (Nat → Nat)) l yX9_init wsX9_init rm_X9_init D (tyG G) kT [.ref a0] [(a0, .inr (7, [.null, .null]))] (fun x => kPaths G (fun i => if i = 0 then a0 else x i) zSV) sz (fun _ => none) 2 24 := by
  refine mCX_of (cc := cX9_init) (maxL := 1) (by decide) rfl (Nat.le_of_ble_eq_true rfl) rfl ?_
  intro p e s m args below meth c Q0 hx hb hml hts hown hin hN hK A hD hA hE hP hS hJ ls hl
  have hl : lv_has ls 1 [(0, .ref a0)] := hl
  have hi7 : ∀ w ∈ u_ws RX9 TX9 2, w ∈ wsX9_init := by decide +kernel
  have hw1 := hts (.methodLink RX9 3 objectInit) (by decide +kernel)
  have hw2 := hts (.instanceMethod objectInit) (by decide +kernel)
  have hw3 := hts (.code objectInit ⟨#[0xb1]⟩ 1 none) (by decide +kernel)
  have hw4 := hts (.arrayClass .int) (by decide +kernel)
  have hw5 := hts (.fieldLink RX9 9 "BalconyCensus$Paths" "walked" "[I") (by decide +kernel)
  have hw6 := hts (.fieldLink RX9 15 "BalconyCensus$Paths" "lessened" "[I") (by decide +kernel)
  refine lv_aload_n hx hb dX9_init_0 rfl (lv_at hl 0 rfl) ?_
  refine W.objInit hx hb hown hw1 hw2 hw3 rfl (by rw [hml]; exact hl.1) rfl dX9_init_1 (Nat.le_of_ble_eq_true rfl) (Nat.le_of_ble_eq_true rfl) ?_
  refine W.eq (g2 := F0 m 4 ls []) rfl ?_
  refine lv_aload_n hx hb dX9_init_4 rfl (lv_at hl 0 rfl) ?_
  refine lv_bipush (v := 12) hx hb dX9_init_5 (by decide +kernel) ?_
  refine va_newa (atype := .int) (ty := .int) (a0 := (12, .inl (fun _ => 0))) (N' := 12) hx hb hw4 rfl hK hP hD hS hA (fun cA => rfl) (by decide) (by decide +kernel) (Nat.le_of_ble_eq_true rfl) (Nat.le_of_ble_eq_true rfl) (Nat.le_of_ble_eq_true rfl) dX9_init_7 (fun p1 cA H hK2 hP hD hS => ?_)
  have hcA : G 0 = cA := Option.some.inj ((hK.2 0 _ rfl).2.symm.trans (hK2.2 4 _ rfl).2)
  subst hcA
  have hP : va_P D vwCl [(a0, .inr (7, [.null, .null])), (p1, .inl (G 0, 12, .inl (fun _ => 0)))] H := hP
  have hD : va_D A [(a0, .inr (7, [.null, .null])), (p1, .inl (G 0, 12, .inl (fun _ => 0)))] := hD
  refine W.widen (k := 1) (n := 12) (by omega) (by omega) ?_
  refine va_putF (D := D) (ci := 7) (v := .ref p1) (ty := .array .int) (C := RX9) (T := TX9) (N := 2) hx hb hts hi7 tyX9 tyX9_ok nmX9 hown hK hP hD hS 0 rfl rfl 0 (by decide) hw5 (fun _ h9 => h9) rfl hin rfl (by decide +kernel) rfl rfl (Nat.le_of_ble_eq_true rfl) dX9_init_9 (fun H locs hP hD hS => ?_)
  have hP : va_P D vwCl [(a0, .inr (7, [.ref p1, .null])), (p1, .inl (G 0, 12, .inl (fun _ => 0)))] H := hP
  have hD : va_D A [(a0, .inr (7, [.ref p1, .null])), (p1, .inl (G 0, 12, .inl (fun _ => 0)))] := hD
  refine lv_aload_n hx hb dX9_init_12 rfl (lv_at hl 0 rfl) ?_
  refine lv_bipush (v := 12) hx hb dX9_init_13 (by decide +kernel) ?_
  refine va_newa (atype := .int) (ty := .int) (a0 := (12, .inl (fun _ => 0))) (N' := 12) hx hb hw4 rfl hK hP hD hS hA (fun cA => rfl) (by decide) (by decide +kernel) (Nat.le_of_ble_eq_true rfl) (Nat.le_of_ble_eq_true rfl) (Nat.le_of_ble_eq_true rfl) dX9_init_15 (fun p2 cA H hK2 hP hD hS => ?_)
  have hcA : G 0 = cA := Option.some.inj ((hK.2 0 _ rfl).2.symm.trans (hK2.2 4 _ rfl).2)
  subst hcA
  have hP : va_P D vwCl [(a0, .inr (7, [.ref p1, .null])), (p1, .inl (G 0, 12, .inl (fun _ => 0))), (p2, .inl (G 0, 12, .inl (fun _ => 0)))] H := hP
  have hD : va_D A [(a0, .inr (7, [.ref p1, .null])), (p1, .inl (G 0, 12, .inl (fun _ => 0))), (p2, .inl (G 0, 12, .inl (fun _ => 0)))] := hD
  refine W.widen (k := 2) (n := 24) (by omega) (by omega) ?_
  refine va_putF (D := D) (ci := 7) (v := .ref p2) (ty := .array .int) (C := RX9) (T := TX9) (N := 2) hx hb hts hi7 tyX9 tyX9_ok nmX9 hown hK hP hD hS 0 rfl rfl 1 (by decide) hw6 (fun _ h9 => h9) rfl hin rfl (by decide +kernel) rfl rfl (Nat.le_of_ble_eq_true rfl) dX9_init_17 (fun H locs hP hD hS => ?_)
  have hP : va_P D vwCl [(a0, .inr (7, [.ref p1, .ref p2])), (p1, .inl (G 0, 12, .inl (fun _ => 0))), (p2, .inl (G 0, 12, .inl (fun _ => 0)))] H := hP
  have hD : va_D A [(a0, .inr (7, [.ref p1, .ref p2])), (p1, .inl (G 0, 12, .inl (fun _ => 0))), (p2, .inl (G 0, 12, .inl (fun _ => 0)))] := hD
  have hP : va_P D vwCl (kPaths G (fun i => if i = 0 then a0 else (fun i => [0, p1, p2].getD i 0) i) zSV) H := hP
  have hD : va_D A (kPaths G (fun i => if i = 0 then a0 else (fun i => [0, p1, p2].getD i 0) i) zSV) := hD
  exact hE (fun i => [0, p1, p2].getD i 0) rfl hP hD hS dX9_init_20
abbrev rm_X10_init : Room := { frames := 1, cells := 5, slots := 140, locals := 12 }
set_option maxHeartbeats 4000000 in
set_option maxRecDepth 100000 in
theorem c_X10_init (l : Launch) (D : va_G) (G : Nat → ClassId) (a0 : Nat) (sz : Nat) : mCX (τ := (Nat → Nat)) l yX10_init wsX10_init rm_X10_init D (tyG G) kT [.ref a0] [(a0, .inr (8, [.null, .int 0, .int 0, .null, .null, .null, .null, .int 0]))] (fun x => kReader G (fun i => if i = 0 then a0 else x i) zSV) sz (fun _ => none) 5 140 := by
  refine mCX_of (cc := cX10_init) (maxL := 1) (by decide) rfl (Nat.le_of_ble_eq_true rfl) rfl ?_
  intro p e s m args below meth c Q0 hx hb hml hts hown hin hN hK A hD hA hE hP hS hJ ls hl
  have hl : lv_has ls 1 [(0, .ref a0)] := hl
  have hi8 : ∀ w ∈ u_ws RX10 TX10 8, w ∈ wsX10_init := by decide +kernel
  have hw1 := hts (.methodLink RX10 3 objectInit) (by decide +kernel)
  have hw2 := hts (.instanceMethod objectInit) (by decide +kernel)
  have hw3 := hts (.code objectInit ⟨#[0xb1]⟩ 1 none) (by decide +kernel)
  have hw4 := hts (.arrayClass .char) (by decide +kernel)
  have hw5 := hts (.fieldLink RX10 9 "BalconyCensus$Reader" "text" "[C") (by decide +kernel)
  have hw6 := hts (.arrayClass .int) (by decide +kernel)
  have hw7 := hts (.fieldLink RX10 15 "BalconyCensus$Reader" "kinds" "[I") (by decide +kernel)
  have hw8 := hts (.fieldLink RX10 19 "BalconyCensus$Reader" "firsts" "[I") (by decide +kernel)
  have hw9 := hts (.fieldLink RX10 22 "BalconyCensus$Reader" "seconds" "[I") (by decide +kernel)
  have hw10 := hts (.fieldLink RX10 25 "BalconyCensus$Reader" "digits" "[I") (by decide +kernel)
  refine lv_aload_n hx hb dX10_init_0 rfl (lv_at hl 0 rfl) ?_
  refine W.objInit hx hb hown hw1 hw2 hw3 rfl (by rw [hml]; exact hl.1) rfl dX10_init_1 (Nat.le_of_ble_eq_true rfl) (Nat.le_of_ble_eq_true rfl) ?_
  refine W.eq (g2 := F0 m 4 ls []) rfl ?_
  refine lv_aload_n hx hb dX10_init_4 rfl (lv_at hl 0 rfl) ?_
  refine lv_bipush (v := 60) hx hb dX10_init_5 (by decide +kernel) ?_
  refine va_newa (atype := .char) (ty := .char) (a0 := (60, .inl (fun _ => 0))) (N' := 60) hx hb hw4 rfl hK hP hD hS hA (fun cA => rfl) (by decide) (by decide +kernel) (Nat.le_of_ble_eq_true rfl) (Nat.le_of_ble_eq_true rfl) (Nat.le_of_ble_eq_true rfl) dX10_init_7 (fun p1 cA H hK2 hP hD hS => ?_)
  have hcA : G 1 = cA := Option.some.inj ((hK.2 1 _ rfl).2.symm.trans (hK2.2 4 _ rfl).2)
  subst hcA
  have hP : va_P D vwCl [(a0, .inr (8, [.null, .int 0, .int 0, .null, .null, .null, .null, .int 0])), (p1, .inl (G 1, 60, .inl (fun _ => 0)))] H := hP
  have hD : va_D A [(a0, .inr (8, [.null, .int 0, .int 0, .null, .null, .null, .null, .int 0])), (p1, .inl (G 1, 60, .inl (fun _ => 0)))] := hD
  refine W.widen (k := 1) (n := 60) (by omega) (by omega) ?_
  refine va_putF (D := D) (ci := 8) (v := .ref p1) (ty := .array .char) (C := RX10) (T := TX10) (N := 8) hx hb hts hi8 tyX10 tyX10_ok nmX10 hown hK hP hD hS 0 rfl rfl 0 (by decide) hw5 (fun _ h9 => h9) rfl hin rfl (by decide +kernel) rfl rfl (Nat.le_of_ble_eq_true rfl) dX10_init_9 (fun H locs hP hD hS => ?_)
  have hP : va_P D vwCl [(a0, .inr (8, [.ref p1, .int 0, .int 0, .null, .null, .null, .null, .int 0])), (p1, .inl (G 1, 60, .inl (fun _ => 0)))] H := hP
  have hD : va_D A [(a0, .inr (8, [.ref p1, .int 0, .int 0, .null, .null, .null, .null, .int 0])), (p1, .inl (G 1, 60, .inl (fun _ => 0)))] := hD
  refine lv_aload_n hx hb dX10_init_12 rfl (lv_at hl 0 rfl) ?_
  refine lv_bipush (v := 20) hx hb dX10_init_13 (by decide +kernel) ?_
  refine va_newa (atype := .int) (ty := .int) (a0 := (20, .inl (fun _ => 0))) (N' := 20) hx hb hw6 rfl hK hP hD hS hA (fun cA => rfl) (by decide) (by decide +kernel) (Nat.le_of_ble_eq_true rfl) (Nat.le_of_ble_eq_true rfl) (Nat.le_of_ble_eq_true rfl) dX10_init_15 (fun p2 cA H hK2 hP hD hS => ?_)
  have hcA : G 0 = cA := Option.some.inj ((hK.2 0 _ rfl).2.symm.trans (hK2.2 4 _ rfl).2)
  subst hcA
  have hP : va_P D vwCl [(a0, .inr (8, [.ref p1, .int 0, .int 0, .null, .null, .null, .null, .int 0])), (p1, .inl (G 1, 60, .inl (fun _ => 0))), (p2, .inl (G 0, 20, .inl (fun _ => 0)))] H := hP
  have hD : va_D A [(a0, .inr (8, [.ref p1, .int 0, .int 0, .null, .null, .null, .null, .int 0])), (p1, .inl (G 1, 60, .inl (fun _ => 0))), (p2, .inl (G 0, 20, .inl (fun _ => 0)))] := hD
  refine W.widen (k := 2) (n := 80) (by omega) (by omega) ?_
  refine va_putF (D := D) (ci := 8) (v := .ref p2) (ty := .array .int) (C := RX10) (T := TX10) (N := 8) hx hb hts hi8 tyX10 tyX10_ok nmX10 hown hK hP hD hS 0 rfl rfl 3 (by decide) hw7 (fun _ h9 => h9) rfl hin rfl (by decide +kernel) rfl rfl (Nat.le_of_ble_eq_true rfl) dX10_init_17 (fun H locs hP hD hS => ?_)
  have hP : va_P D vwCl [(a0, .inr (8, [.ref p1, .int 0, .int 0, .ref p2, .null, .null, .null, .int 0])), (p1, .inl (G 1, 60, .inl (fun _ => 0))), (p2, .inl (G 0, 20, .inl (fun _ => 0)))] H := hP
  have hD : va_D A [(a0, .inr (8, [.ref p1, .int 0, .int 0, .ref p2, .null, .null, .null, .int 0])), (p1, .inl (G 1, 60, .inl (fun _ => 0))), (p2, .inl (G 0, 20, .inl (fun _ => 0)))] := hD
  refine lv_aload_n hx hb dX10_init_20 rfl (lv_at hl 0 rfl) ?_
  refine lv_bipush (v := 20) hx hb dX10_init_21 (by decide +kernel) ?_
  refine va_newa (atype := .int) (ty := .int) (a0 := (20, .inl (fun _ => 0))) (N' := 20) hx hb hw6 rfl hK hP hD hS hA (fun cA => rfl) (by decide) (by decide +kernel) (Nat.le_of_ble_eq_true rfl) (Nat.le_of_ble_eq_true rfl) (Nat.le_of_ble_eq_true rfl) dX10_init_23 (fun p3 cA H hK2 hP hD hS => ?_)
  have hcA : G 0 = cA := Option.some.inj ((hK.2 0 _ rfl).2.symm.trans (hK2.2 4 _ rfl).2)
  subst hcA
  have hP : va_P D vwCl [(a0, .inr (8, [.ref p1, .int 0, .int 0, .ref p2, .null, .null, .null, .int 0])), (p1, .inl (G 1, 60, .inl (fun _ => 0))), (p2, .inl (G 0, 20, .inl (fun _ => 0))), (p3, .inl (G 0, 20, .inl (fun _ => 0)))] H := hP
  have hD : va_D A [(a0, .inr (8, [.ref p1, .int 0, .int 0, .ref p2, .null, .null, .null, .int 0])), (p1, .inl (G 1, 60, .inl (fun _ => 0))), (p2, .inl (G 0, 20, .inl (fun _ => 0))), (p3, .inl (G 0, 20, .inl (fun _ => 0)))] := hD
  refine W.widen (k := 3) (n := 100) (by omega) (by omega) ?_
  refine va_putF (D := D) (ci := 8) (v := .ref p3) (ty := .array .int) (C := RX10) (T := TX10) (N := 8) hx hb hts hi8 tyX10 tyX10_ok nmX10 hown hK hP hD hS 0 rfl rfl 4 (by decide) hw8 (fun _ h9 => h9) rfl hin rfl (by decide +kernel) rfl rfl (Nat.le_of_ble_eq_true rfl) dX10_init_25 (fun H locs hP hD hS => ?_)
  have hP : va_P D vwCl [(a0, .inr (8, [.ref p1, .int 0, .int 0, .ref p2, .ref p3, .null, .null, .int 0])), (p1, .inl (G 1, 60, .inl (fun _ => 0))), (p2, .inl (G 0, 20, .inl (fun _ => 0))), (p3, .inl (G 0, 20, .inl (fun _ => 0)))] H := hP
  have hD : va_D A [(a0, .inr (8, [.ref p1, .int 0, .int 0, .ref p2, .ref p3, .null, .null, .int 0])), (p1, .inl (G 1, 60, .inl (fun _ => 0))), (p2, .inl (G 0, 20, .inl (fun _ => 0))), (p3, .inl (G 0, 20, .inl (fun _ => 0)))] := hD
  refine lv_aload_n hx hb dX10_init_28 rfl (lv_at hl 0 rfl) ?_
  refine lv_bipush (v := 20) hx hb dX10_init_29 (by decide +kernel) ?_
  refine va_newa (atype := .int) (ty := .int) (a0 := (20, .inl (fun _ => 0))) (N' := 20) hx hb hw6 rfl hK hP hD hS hA (fun cA => rfl) (by decide) (by decide +kernel) (Nat.le_of_ble_eq_true rfl) (Nat.le_of_ble_eq_true rfl) (Nat.le_of_ble_eq_true rfl) dX10_init_31 (fun p4 cA H hK2 hP hD hS => ?_)
  have hcA : G 0 = cA := Option.some.inj ((hK.2 0 _ rfl).2.symm.trans (hK2.2 4 _ rfl).2)
  subst hcA
  have hP : va_P D vwCl [(a0, .inr (8, [.ref p1, .int 0, .int 0, .ref p2, .ref p3, .null, .null, .int 0])), (p1, .inl (G 1, 60, .inl (fun _ => 0))), (p2, .inl (G 0, 20, .inl (fun _ => 0))), (p3, .inl (G 0, 20, .inl (fun _ => 0))), (p4, .inl (G 0, 20, .inl (fun _ => 0)))] H := hP
  have hD : va_D A [(a0, .inr (8, [.ref p1, .int 0, .int 0, .ref p2, .ref p3, .null, .null, .int 0])), (p1, .inl (G 1, 60, .inl (fun _ => 0))), (p2, .inl (G 0, 20, .inl (fun _ => 0))), (p3, .inl (G 0, 20, .inl (fun _ => 0))), (p4, .inl (G 0, 20, .inl (fun _ => 0)))] := hD
  refine W.widen (k := 4) (n := 120) (by omega) (by omega) ?_
  refine va_putF (D := D) (ci := 8) (v := .ref p4) (ty := .array .int) (C := RX10) (T := TX10) (N := 8) hx hb hts hi8 tyX10 tyX10_ok nmX10 hown hK hP hD hS 0 rfl rfl 5 (by decide) hw9 (fun _ h9 => h9) rfl hin rfl (by decide +kernel) rfl rfl (Nat.le_of_ble_eq_true rfl) dX10_init_33 (fun H locs hP hD hS => ?_)
  have hP : va_P D vwCl [(a0, .inr (8, [.ref p1, .int 0, .int 0, .ref p2, .ref p3, .ref p4, .null, .int 0])), (p1, .inl (G 1, 60, .inl (fun _ => 0))), (p2, .inl (G 0, 20, .inl (fun _ => 0))), (p3, .inl (G 0, 20, .inl (fun _ => 0))), (p4, .inl (G 0, 20, .inl (fun _ => 0)))] H := hP
  have hD : va_D A [(a0, .inr (8, [.ref p1, .int 0, .int 0, .ref p2, .ref p3, .ref p4, .null, .int 0])), (p1, .inl (G 1, 60, .inl (fun _ => 0))), (p2, .inl (G 0, 20, .inl (fun _ => 0))), (p3, .inl (G 0, 20, .inl (fun _ => 0))), (p4, .inl (G 0, 20, .inl (fun _ => 0)))] := hD
  refine lv_aload_n hx hb dX10_init_36 rfl (lv_at hl 0 rfl) ?_
  refine lv_bipush (v := 20) hx hb dX10_init_37 (by decide +kernel) ?_
  refine va_newa (atype := .int) (ty := .int) (a0 := (20, .inl (fun _ => 0))) (N' := 20) hx hb hw6 rfl hK hP hD hS hA (fun cA => rfl) (by decide) (by decide +kernel) (Nat.le_of_ble_eq_true rfl) (Nat.le_of_ble_eq_true rfl) (Nat.le_of_ble_eq_true rfl) dX10_init_39 (fun p5 cA H hK2 hP hD hS => ?_)
  have hcA : G 0 = cA := Option.some.inj ((hK.2 0 _ rfl).2.symm.trans (hK2.2 4 _ rfl).2)
  subst hcA
  have hP : va_P D vwCl [(a0, .inr (8, [.ref p1, .int 0, .int 0, .ref p2, .ref p3, .ref p4, .null, .int 0])), (p1, .inl (G 1, 60, .inl (fun _ => 0))), (p2, .inl (G 0, 20, .inl (fun _ => 0))), (p3, .inl (G 0, 20, .inl (fun _ => 0))), (p4, .inl (G 0, 20, .inl (fun _ => 0))), (p5, .inl (G 0, 20, .inl (fun _ => 0)))] H := hP
  have hD : va_D A [(a0, .inr (8, [.ref p1, .int 0, .int 0, .ref p2, .ref p3, .ref p4, .null, .int 0])), (p1, .inl (G 1, 60, .inl (fun _ => 0))), (p2, .inl (G 0, 20, .inl (fun _ => 0))), (p3, .inl (G 0, 20, .inl (fun _ => 0))), (p4, .inl (G 0, 20, .inl (fun _ => 0))), (p5, .inl (G 0, 20, .inl (fun _ => 0)))] := hD
  refine W.widen (k := 5) (n := 140) (by omega) (by omega) ?_
  refine va_putF (D := D) (ci := 8) (v := .ref p5) (ty := .array .int) (C := RX10) (T := TX10) (N := 8) hx hb hts hi8 tyX10 tyX10_ok nmX10 hown hK hP hD hS 0 rfl rfl 6 (by decide) hw10 (fun _ h9 => h9) rfl hin rfl (by decide +kernel) rfl rfl (Nat.le_of_ble_eq_true rfl) dX10_init_41 (fun H locs hP hD hS => ?_)
  have hP : va_P D vwCl [(a0, .inr (8, [.ref p1, .int 0, .int 0, .ref p2, .ref p3, .ref p4, .ref p5, .int 0])), (p1, .inl (G 1, 60, .inl (fun _ => 0))), (p2, .inl (G 0, 20, .inl (fun _ => 0))), (p3, .inl (G 0, 20, .inl (fun _ => 0))), (p4, .inl (G 0, 20, .inl (fun _ => 0))), (p5, .inl (G 0, 20, .inl (fun _ => 0)))] H := hP
  have hD : va_D A [(a0, .inr (8, [.ref p1, .int 0, .int 0, .ref p2, .ref p3, .ref p4, .ref p5, .int 0])), (p1, .inl (G 1, 60, .inl (fun _ => 0))), (p2, .inl (G 0, 20, .inl (fun _ => 0))), (p3, .inl (G 0, 20, .inl (fun _ => 0))), (p4, .inl (G 0, 20, .inl (fun _ => 0))), (p5, .inl (G 0, 20, .inl (fun _ => 0)))] := hD
  have hP : va_P D vwCl (kReader G (fun i => if i = 0 then a0 else (fun i => [0, p1, p2, p3, p4, p5].getD i 0) i) zSV) H := hP
  have hD : va_D A (kReader G (fun i => if i = 0 then a0 else (fun i => [0, p1, p2, p3, p4, p5].getD i 0) i) zSV) := hD
  exact hE (fun i => [0, p1, p2, p3, p4, p5].getD i 0) rfl hP hD hS dX10_init_44
abbrev rm_X11_init : Room := { frames := 1, cells := 0, slots := 0, locals := 12 }
set_option maxHeartbeats 4000000 in
set_option maxRecDepth 100000 in
theorem c_X11_init (l : Launch) (D : va_G) (G : Nat → ClassId) (a0 : Nat) (sz : Nat) : mCX (τ := (Nat → Nat)) l yX11_init wsX11_init rm_X11_init D (tyG G) kT [.ref a0] [(a0, .inr (9, [.int 0, .int 0, .int 0, .int 0]))] (fun x => kRef G (fun i => if i = 0 then a0 else x i) vRf0) sz (fun _ => none) 0 0 := by
  refine mCX_of (cc := cX11_init) (maxL := 1) (by decide) rfl (Nat.le_of_ble_eq_true rfl) rfl ?_
  intro p e s m args below meth c Q0 hx hb hml hts hown hin hN hK A hD hA hE hP hS hJ ls hl
  have hl : lv_has ls 1 [(0, .ref a0)] := hl
  have hi9 : ∀ w ∈ u_ws RX11 TX11 4, w ∈ wsX11_init := by decide +kernel
  have hw1 := hts (.methodLink RX11 3 objectInit) (by decide +kernel)
  have hw2 := hts (.instanceMethod objectInit) (by decide +kernel)
  have hw3 := hts (.code objectInit ⟨#[0xb1]⟩ 1 none) (by decide +kernel)
  have hw4 := hts (.fieldLink RX11 9 "BalconyCensus$Refusal" "reason" "I") (by decide +kernel)
  have hw5 := hts (.fieldLink RX11 15 "BalconyCensus$Refusal" "detail" "I") (by decide +kernel)
  have hw6 := hts (.fieldLink RX11 18 "BalconyCensus$Refusal" "reasonBehind" "I") (by decide +kernel)
  have hw7 := hts (.fieldLink RX11 21 "BalconyCensus$Refusal" "detailBehind" "I") (by decide +kernel)
  refine lv_aload_n hx hb dX11_init_0 rfl (lv_at hl 0 rfl) ?_
  refine W.objInit hx hb hown hw1 hw2 hw3 rfl (by rw [hml]; exact hl.1) rfl dX11_init_1 (Nat.le_of_ble_eq_true rfl) (Nat.le_of_ble_eq_true rfl) ?_
  refine W.eq (g2 := F0 m 4 ls []) rfl ?_
  refine lv_aload_n hx hb dX11_init_4 rfl (lv_at hl 0 rfl) ?_
  refine lv_bipush (v := (-4)) hx hb dX11_init_5 (by decide +kernel) ?_
  refine va_put (D := D) (ci := 9) (v := .int (-4)) (ty := .int) (C := RX11) (T := TX11) (N := 4) hx hb hts hi9 tyX11 tyX11_ok nmX11 hown hK hP hD hS 0 rfl rfl 0 (by decide) hw4 (fun _ h9 => h9) rfl (by decide +kernel) (by decide +kernel) (by decide +kernel) (Nat.le_of_ble_eq_true rfl) dX11_init_7 (fun H locs hP hD hS => ?_)
  have hP : va_P D vwCl [(a0, .inr (9, [.int (-4), .int 0, .int 0, .int 0]))] H := hP
  have hD : va_D A [(a0, .inr (9, [.int (-4), .int 0, .int 0, .int 0]))] := hD
  refine lv_aload_n hx hb dX11_init_10 rfl (lv_at hl 0 rfl) ?_
  refine lv_bipush (v := (-4)) hx hb dX11_init_11 (by decide +kernel) ?_
  refine va_put (D := D) (ci := 9) (v := .int (-4)) (ty := .int) (C := RX11) (T := TX11) (N := 4) hx hb hts hi9 tyX11 tyX11_ok nmX11 hown hK hP hD hS 0 rfl rfl 1 (by decide) hw5 (fun _ h9 => h9) rfl (by decide +kernel) (by decide +kernel) (by decide +kernel) (Nat.le_of_ble_eq_true rfl) dX11_init_13 (fun H locs hP hD hS => ?_)
  have hP : va_P D vwCl [(a0, .inr (9, [.int (-4), .int (-4), .int 0, .int 0]))] H := hP
  have hD : va_D A [(a0, .inr (9, [.int (-4), .int (-4), .int 0, .int 0]))] := hD
  refine lv_aload_n hx hb dX11_init_16 rfl (lv_at hl 0 rfl) ?_
  refine lv_bipush (v := (-4)) hx hb dX11_init_17 (by decide +kernel) ?_
  refine va_put (D := D) (ci := 9) (v := .int (-4)) (ty := .int) (C := RX11) (T := TX11) (N := 4) hx hb hts hi9 tyX11 tyX11_ok nmX11 hown hK hP hD hS 0 rfl rfl 2 (by decide) hw6 (fun _ h9 => h9) rfl (by decide +kernel) (by decide +kernel) (by decide +kernel) (Nat.le_of_ble_eq_true rfl) dX11_init_19 (fun H locs hP hD hS => ?_)
  have hP : va_P D vwCl [(a0, .inr (9, [.int (-4), .int (-4), .int (-4), .int 0]))] H := hP
  have hD : va_D A [(a0, .inr (9, [.int (-4), .int (-4), .int (-4), .int 0]))] := hD
  refine lv_aload_n hx hb dX11_init_22 rfl (lv_at hl 0 rfl) ?_
  refine lv_bipush (v := (-4)) hx hb dX11_init_23 (by decide +kernel) ?_
  refine va_put (D := D) (ci := 9) (v := .int (-4)) (ty := .int) (C := RX11) (T := TX11) (N := 4) hx hb hts hi9 tyX11 tyX11_ok nmX11 hown hK hP hD hS 0 rfl rfl 3 (by decide) hw7 (fun _ h9 => h9) rfl (by decide +kernel) (by decide +kernel) (by decide +kernel) (Nat.le_of_ble_eq_true rfl) dX11_init_25 (fun H locs hP hD hS => ?_)
  have hP : va_P D vwCl [(a0, .inr (9, [.int (-4), .int (-4), .int (-4), .int (-4)]))] H := hP
  have hD : va_D A [(a0, .inr (9, [.int (-4), .int (-4), .int (-4), .int (-4)]))] := hD
  have hP : va_P D vwCl (kRef G (fun i => if i = 0 then a0 else (fun i => [0].getD i 0) i) vRf0) H := hP
  have hD : va_D A (kRef G (fun i => if i = 0 then a0 else (fun i => [0].getD i 0) i) vRf0) := hD
  exact hE (fun i => [0].getD i 0) rfl hP hD hS dX11_init_28
