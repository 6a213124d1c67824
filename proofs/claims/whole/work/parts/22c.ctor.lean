/-! Walks, laid by wip/whole/gen.py: for each method f_ (what it does to its world) and c_ (its contract). -/
abbrev rm_X6_init : Room := { frames := 2, cells := 14, slots := 239, locals := 32 }
set_option maxHeartbeats 4000000 in
set_option maxRecDepth 100000 in
theorem c_X6_init (l : Launch) (D : va_G) (G : Nat → ClassId) (a0 : Nat) (w : Nat → Int32) (hw : f_J7_fill_53178 3 12 (fun _ => 0) = some w) (sz : Nat) : mCX (τ := (Nat → Nat)) l yX6_init wsX6_init rm_X6_init D (tyG G) kT [.ref a0] [(a0, .inr (4, [.null, .null, .null, .null, .null, .null, .int 0, .int 0, .int 0, .int 0]))] (fun x => kHouse G (fun i => if i = 0 then a0 else x i) (pR zSV 1 w)) sz (fun _ => none) 14 239 := by
  refine mCX_of (cc := cX6_init) (maxL := 1) (by decide) rfl (Nat.le_of_ble_eq_true rfl) rfl ?_
  intro p e s m args below meth c Q0 hx hb hml hts hown hin hN hK A hD hA hE hP hS hJ ls hl
  have hl : lv_has ls 1 [(0, .ref a0)] := hl
  have hi4 : ∀ w ∈ u_ws RX6 TX6 10, w ∈ wsX6_init := by decide +kernel
  have hi5 : ∀ w ∈ u_ws RX7 TX7 5, w ∈ wsX6_init := by decide +kernel
  have hi2 : ∀ w ∈ u_ws RX4 TX4 2, w ∈ wsX6_init := by decide +kernel
  have hi1 : ∀ w ∈ u_ws RX1 TX1 4, w ∈ wsX6_init := by decide +kernel
  have hw1 := hts (.methodLink RX6 3 objectInit) (by decide +kernel)
  have hw2 := hts (.instanceMethod objectInit) (by decide +kernel)
  have hw3 := hts (.code objectInit ⟨#[0xb1]⟩ 1 none) (by decide +kernel)
  have hw4 := hts (.arrayClass .int) (by decide +kernel)
  have hw5 := hts (.fieldLink RX6 9 "BalconyCensus$House" "plants" "[I") (by decide +kernel)
  have hw6 := hts (.fieldLink RX6 15 "BalconyCensus$House" "tolerances" "[I") (by decide +kernel)
  have hw7 := hts (.classLink RX6 18 RX7) (by decide +kernel)
  have hw8 := hts (.instantiable RX7 5) (by decide +kernel)
  have hw9 := hts (.initialized RX7) (by decide +kernel)
  have hw10 := hts (.instanceMethod yX7_init) (by decide +kernel)
  have hw11 := hts (.fieldLink RX6 21 "BalconyCensus$House" "lines" "LBalconyCensus$Lines;") (by decide +kernel)
  have hw12 := hts (.classLink RX6 25 RX4) (by decide +kernel)
  have hw13 := hts (.instantiable RX4 2) (by decide +kernel)
  have hw14 := hts (.initialized RX4) (by decide +kernel)
  have hw15 := hts (.instanceMethod yX4_init) (by decide +kernel)
  have hw16 := hts (.fieldLink RX6 28 "BalconyCensus$House" "greetings" "LBalconyCensus$Greetings;") (by decide +kernel)
  have hw17 := hts (.classLink RX6 32 RX1) (by decide +kernel)
  have hw18 := hts (.instantiable RX1 4) (by decide +kernel)
  have hw19 := hts (.initialized RX1) (by decide +kernel)
  have hw20 := hts (.instanceMethod yX1_init) (by decide +kernel)
  have hw21 := hts (.fieldLink RX6 35 "BalconyCensus$House" "cats" "LBalconyCensus$Cats;") (by decide +kernel)
  have hw22 := hts (.fieldLink RX6 39 "BalconyCensus$House" "plantsBefore" "[I") (by decide +kernel)
  refine lv_aload_n hx hb dX6_init_0 rfl (lv_at hl 0 rfl) ?_
  refine W.objInit hx hb hown hw1 hw2 hw3 rfl (by rw [hml]; exact hl.1) rfl dX6_init_1 (Nat.le_of_ble_eq_true rfl) (Nat.le_of_ble_eq_true rfl) ?_
  refine W.eq (g2 := F0 m 4 ls []) rfl ?_
  refine lv_aload_n hx hb dX6_init_4 rfl (lv_at hl 0 rfl) ?_
  refine lv_bipush (v := 12) hx hb dX6_init_5 (by decide +kernel) ?_
  refine va_newa (atype := .int) (ty := .int) (a0 := (12, .inl (fun _ => 0))) (N' := 12) hx hb hw4 rfl hK hP hD hS hA (fun cA => rfl) (by decide) (by decide +kernel) (Nat.le_of_ble_eq_true rfl) (Nat.le_of_ble_eq_true rfl) (Nat.le_of_ble_eq_true rfl) dX6_init_7 (fun p1 cA H hK2 hP hD hS => ?_)
  have hcA : G 0 = cA := Option.some.inj ((hK.2 0 _ rfl).2.symm.trans (hK2.2 4 _ rfl).2)
  subst hcA
  have hP : va_P D vwCl [(a0, .inr (4, [.null, .null, .null, .null, .null, .null, .int 0, .int 0, .int 0, .int 0])), (p1, .inl (G 0, 12, .inl (fun _ => 0)))] H := hP
  have hD : va_D A [(a0, .inr (4, [.null, .null, .null, .null, .null, .null, .int 0, .int 0, .int 0, .int 0])), (p1, .inl (G 0, 12, .inl (fun _ => 0)))] := hD
  refine W.widen (k := 1) (n := 12) (by omega) (by omega) ?_
  refine va_putF (D := D) (ci := 4) (v := .ref p1) (ty := .array .int) (C := RX6) (T := TX6) (N := 10) hx hb hts hi4 tyX6 tyX6_ok nmX6 hown hK hP hD hS 0 rfl rfl 0 (by decide) hw5 (fun _ h9 => h9) rfl hin rfl (by decide +kernel) rfl rfl (Nat.le_of_ble_eq_true rfl) dX6_init_9 (fun H locs hP hD hS => ?_)
  have hP : va_P D vwCl [(a0, .inr (4, [.ref p1, .null, .null, .null, .null, .null, .int 0, .int 0, .int 0, .int 0])), (p1, .inl (G 0, 12, .inl (fun _ => 0)))] H := hP
  have hD : va_D A [(a0, .inr (4, [.ref p1, .null, .null, .null, .null, .null, .int 0, .int 0, .int 0, .int 0])), (p1, .inl (G 0, 12, .inl (fun _ => 0)))] := hD
  refine lv_aload_n hx hb dX6_init_12 rfl (lv_at hl 0 rfl) ?_
  refine lv_bipush (v := 12) hx hb dX6_init_13 (by decide +kernel) ?_
  refine va_newa (atype := .int) (ty := .int) (a0 := (12, .inl (fun _ => 0))) (N' := 12) hx hb hw4 rfl hK hP hD hS hA (fun cA => rfl) (by decide) (by decide +kernel) (Nat.le_of_ble_eq_true rfl) (Nat.le_of_ble_eq_true rfl) (Nat.le_of_ble_eq_true rfl) dX6_init_15 (fun p2 cA H hK2 hP hD hS => ?_)
  have hcA : G 0 = cA := Option.some.inj ((hK.2 0 _ rfl).2.symm.trans (hK2.2 4 _ rfl).2)
  subst hcA
  have hP : va_P D vwCl [(a0, .inr (4, [.ref p1, .null, .null, .null, .null, .null, .int 0, .int 0, .int 0, .int 0])), (p1, .inl (G 0, 12, .inl (fun _ => 0))), (p2, .inl (G 0, 12, .inl (fun _ => 0)))] H := hP
  have hD : va_D A [(a0, .inr (4, [.ref p1, .null, .null, .null, .null, .null, .int 0, .int 0, .int 0, .int 0])), (p1, .inl (G 0, 12, .inl (fun _ => 0))), (p2, .inl (G 0, 12, .inl (fun _ => 0)))] := hD
  refine W.widen (k := 2) (n := 24) (by omega) (by omega) ?_
  refine va_putF (D := D) (ci := 4) (v := .ref p2) (ty := .array .int) (C := RX6) (T := TX6) (N := 10) hx hb hts hi4 tyX6 tyX6_ok nmX6 hown hK hP hD hS 0 rfl rfl 1 (by decide) hw6 (fun _ h9 => h9) rfl hin rfl (by decide +kernel) rfl rfl (Nat.le_of_ble_eq_true rfl) dX6_init_17 (fun H locs hP hD hS => ?_)
  have hP : va_P D vwCl [(a0, .inr (4, [.ref p1, .ref p2, .null, .null, .null, .null, .int 0, .int 0, .int 0, .int 0])), (p1, .inl (G 0, 12, .inl (fun _ => 0))), (p2, .inl (G 0, 12, .inl (fun _ => 0)))] H := hP
  have hD : va_D A [(a0, .inr (4, [.ref p1, .ref p2, .null, .null, .null, .null, .int 0, .int 0, .int 0, .int 0])), (p1, .inl (G 0, 12, .inl (fun _ => 0))), (p2, .inl (G 0, 12, .inl (fun _ => 0)))] := hD
  refine lv_aload_n hx hb dX6_init_20 rfl (lv_at hl 0 rfl) ?_
  refine va_new (ci := 5) (fs := [.null, .null, .null, .int 0, .int 0]) (C := RX7) (T := TX7) (N := 5) hx hb hts hi5 tyX7 tyX7_ok hown hw7 hw8 hw9 hK hP hD hS hA rfl (fun j hj => by rcases (show j = 0 ∨ j = 1 ∨ j = 2 ∨ j = 3 ∨ j = 4 by omega) with rfl | rfl | rfl | rfl | rfl <;> rfl) (Nat.le_of_ble_eq_true rfl) (Nat.le_of_ble_eq_true rfl) dX6_init_21 (fun p3 H hP hD hS => ?_)
  have hP : va_P D vwCl [(a0, .inr (4, [.ref p1, .ref p2, .null, .null, .null, .null, .int 0, .int 0, .int 0, .int 0])), (p1, .inl (G 0, 12, .inl (fun _ => 0))), (p2, .inl (G 0, 12, .inl (fun _ => 0))), (p3, .inr (5, [.null, .null, .null, .int 0, .int 0]))] H := hP
  have hD : va_D A [(a0, .inr (4, [.ref p1, .ref p2, .null, .null, .null, .null, .int 0, .int 0, .int 0, .int 0])), (p1, .inl (G 0, 12, .inl (fun _ => 0))), (p2, .inl (G 0, 12, .inl (fun _ => 0))), (p3, .inr (5, [.null, .null, .null, .int 0, .int 0]))] := hD
  refine W.widen (k := 3) (n := 29) (by omega) (by omega) ?_
  refine lv_dup hx hb dX6_init_24 rfl ?_
  have hP : va_P D vwCl ([(a0, .inr (4, [.ref p1, .ref p2, .null, .null, .null, .null, .int 0, .int 0, .int 0, .int 0])), (p1, .inl (G 0, 12, .inl (fun _ => 0))), (p2, .inl (G 0, 12, .inl (fun _ => 0)))] ++ [(p3, .inr (5, [.null, .null, .null, .int 0, .int 0]))]) H := hP
  have hD : va_D A ([(a0, .inr (4, [.ref p1, .ref p2, .null, .null, .null, .null, .int 0, .int 0, .int 0, .int 0])), (p1, .inl (G 0, 12, .inl (fun _ => 0))), (p2, .inl (G 0, 12, .inl (fun _ => 0)))] ++ [(p3, .inr (5, [.null, .null, .null, .int 0, .int 0]))]) := hD
  refine k_INX (As := []) (rest := [.ref p3, .ref a0]) (host := "BalconyCensus") ⟨hx, hb, hml, hown, hts⟩ (c_X7_init l D G p3  _) ⟨va_cnB 0 hts gX6_init_X7_init_n20 rfl rfl rfl (hN (RX6, 20, yX7_init) (by decide +kernel)) hw9 (by decide +kernel) ⟨Nat.le_of_ble_eq_true rfl, Nat.le_of_ble_eq_true rfl⟩, rfl, hw10⟩ hl.1 (Nat.le_of_ble_eq_true rfl) dX6_init_25 ⟨Nat.le_of_ble_eq_true rfl, Nat.le_of_ble_eq_true rfl⟩ rfl kT_bl (fun _ _ _ => trivial) hN hK hP hD hS hA [0, 1, 2, 3] rfl (fun x4 H locs hP hD hS => ?_)
  refine W.widen (k := 6) (n := 47) (by omega) (by omega) ?_
  refine va_putF (D := D) (ci := 4) (v := .ref p3) (ty := .object "BalconyCensus$Lines") (C := RX6) (T := TX6) (N := 10) hx hb hts hi4 tyX6 tyX6_ok nmX6 hown hK hP hD hS 0 rfl rfl 2 (by decide) hw11 (fun _ h9 => h9) rfl hin rfl (by decide +kernel) rfl rfl (Nat.le_of_ble_eq_true rfl) dX6_init_28 (fun H locs hP hD hS => ?_)
  have hP : va_P D vwCl ([(a0, .inr (4, [.ref p1, .ref p2, .ref p3, .null, .null, .null, .int 0, .int 0, .int 0, .int 0])), (p1, .inl (G 0, 12, .inl (fun _ => 0))), (p2, .inl (G 0, 12, .inl (fun _ => 0)))] ++ (kLines G (fun i => if i = 3 then p3 else x4 i) zSV)) H := hP
  have hD : va_D A ([(a0, .inr (4, [.ref p1, .ref p2, .ref p3, .null, .null, .null, .int 0, .int 0, .int 0, .int 0])), (p1, .inl (G 0, 12, .inl (fun _ => 0))), (p2, .inl (G 0, 12, .inl (fun _ => 0)))] ++ (kLines G (fun i => if i = 3 then p3 else x4 i) zSV)) := hD
  refine lv_aload_n hx hb dX6_init_31 rfl (lv_at hl 0 rfl) ?_
  refine va_new (ci := 2) (fs := [.null, .null]) (C := RX4) (T := TX4) (N := 2) hx hb hts hi2 tyX4 tyX4_ok hown hw12 hw13 hw14 hK hP hD hS hA rfl (fun j hj => by rcases (show j = 0 ∨ j = 1 by omega) with rfl | rfl <;> rfl) (Nat.le_of_ble_eq_true rfl) (Nat.le_of_ble_eq_true rfl) dX6_init_32 (fun p5 H hP hD hS => ?_)
  have hP : va_P D vwCl (([(a0, .inr (4, [.ref p1, .ref p2, .ref p3, .null, .null, .null, .int 0, .int 0, .int 0, .int 0])), (p1, .inl (G 0, 12, .inl (fun _ => 0))), (p2, .inl (G 0, 12, .inl (fun _ => 0)))] ++ (kLines G (fun i => if i = 3 then p3 else x4 i) zSV)) ++ [(p5, .inr (2, [.null, .null]))]) H := hP
  have hD : va_D A (([(a0, .inr (4, [.ref p1, .ref p2, .ref p3, .null, .null, .null, .int 0, .int 0, .int 0, .int 0])), (p1, .inl (G 0, 12, .inl (fun _ => 0))), (p2, .inl (G 0, 12, .inl (fun _ => 0)))] ++ (kLines G (fun i => if i = 3 then p3 else x4 i) zSV)) ++ [(p5, .inr (2, [.null, .null]))]) := hD
  refine W.widen (k := 7) (n := 49) (by omega) (by omega) ?_
  refine lv_dup hx hb dX6_init_35 rfl ?_
  have hP : va_P D vwCl (([(a0, .inr (4, [.ref p1, .ref p2, .ref p3, .null, .null, .null, .int 0, .int 0, .int 0, .int 0])), (p1, .inl (G 0, 12, .inl (fun _ => 0))), (p2, .inl (G 0, 12, .inl (fun _ => 0)))] ++ (kLines G (fun i => if i = 3 then p3 else x4 i) zSV)) ++ [(p5, .inr (2, [.null, .null]))]) H := hP
  have hD : va_D A (([(a0, .inr (4, [.ref p1, .ref p2, .ref p3, .null, .null, .null, .int 0, .int 0, .int 0, .int 0])), (p1, .inl (G 0, 12, .inl (fun _ => 0))), (p2, .inl (G 0, 12, .inl (fun _ => 0)))] ++ (kLines G (fun i => if i = 3 then p3 else x4 i) zSV)) ++ [(p5, .inr (2, [.null, .null]))]) := hD
  refine k_INX (As := []) (rest := [.ref p5, .ref a0]) (host := "BalconyCensus") ⟨hx, hb, hml, hown, hts⟩ (c_X4_init l D G p5  _) ⟨va_cnB 0 hts gX6_init_X4_init_n27 rfl rfl rfl (hN (RX6, 27, yX4_init) (by decide +kernel)) hw14 (by decide +kernel) ⟨Nat.le_of_ble_eq_true rfl, Nat.le_of_ble_eq_true rfl⟩, rfl, hw15⟩ hl.1 (Nat.le_of_ble_eq_true rfl) dX6_init_36 ⟨Nat.le_of_ble_eq_true rfl, Nat.le_of_ble_eq_true rfl⟩ rfl kT_bl (fun _ _ _ => trivial) hN hK hP hD hS hA [0, 1, 2, 3] rfl (fun x6 H locs hP hD hS => ?_)
  refine W.widen (k := 9) (n := 205) (by omega) (by omega) ?_
  refine va_putF (D := D) (ci := 4) (v := .ref p5) (ty := .object "BalconyCensus$Greetings") (C := RX6) (T := TX6) (N := 10) hx hb hts hi4 tyX6 tyX6_ok nmX6 hown hK hP hD hS 0 rfl rfl 3 (by decide) hw16 (fun _ h9 => h9) rfl hin rfl (by decide +kernel) rfl rfl (Nat.le_of_ble_eq_true rfl) dX6_init_39 (fun H locs hP hD hS => ?_)
  have hP : va_P D vwCl (([(a0, .inr (4, [.ref p1, .ref p2, .ref p3, .ref p5, .null, .null, .int 0, .int 0, .int 0, .int 0])), (p1, .inl (G 0, 12, .inl (fun _ => 0))), (p2, .inl (G 0, 12, .inl (fun _ => 0)))] ++ (kLines G (fun i => if i = 3 then p3 else x4 i) zSV)) ++ (kGreet G (fun i => if i = 7 then p5 else x6 i) zSV)) H := hP
  have hD : va_D A (([(a0, .inr (4, [.ref p1, .ref p2, .ref p3, .ref p5, .null, .null, .int 0, .int 0, .int 0, .int 0])), (p1, .inl (G 0, 12, .inl (fun _ => 0))), (p2, .inl (G 0, 12, .inl (fun _ => 0)))] ++ (kLines G (fun i => if i = 3 then p3 else x4 i) zSV)) ++ (kGreet G (fun i => if i = 7 then p5 else x6 i) zSV)) := hD
  refine lv_aload_n hx hb dX6_init_42 rfl (lv_at hl 0 rfl) ?_
  refine va_new (ci := 1) (fs := [.null, .null, .null, .int 0]) (C := RX1) (T := TX1) (N := 4) hx hb hts hi1 tyX1 tyX1_ok hown hw17 hw18 hw19 hK hP hD hS hA rfl (fun j hj => by rcases (show j = 0 ∨ j = 1 ∨ j = 2 ∨ j = 3 by omega) with rfl | rfl | rfl | rfl <;> rfl) (Nat.le_of_ble_eq_true rfl) (Nat.le_of_ble_eq_true rfl) dX6_init_43 (fun p7 H hP hD hS => ?_)
  have hP : va_P D vwCl ((([(a0, .inr (4, [.ref p1, .ref p2, .ref p3, .ref p5, .null, .null, .int 0, .int 0, .int 0, .int 0])), (p1, .inl (G 0, 12, .inl (fun _ => 0))), (p2, .inl (G 0, 12, .inl (fun _ => 0)))] ++ (kLines G (fun i => if i = 3 then p3 else x4 i) zSV)) ++ (kGreet G (fun i => if i = 7 then p5 else x6 i) zSV)) ++ [(p7, .inr (1, [.null, .null, .null, .int 0]))]) H := hP
  have hD : va_D A ((([(a0, .inr (4, [.ref p1, .ref p2, .ref p3, .ref p5, .null, .null, .int 0, .int 0, .int 0, .int 0])), (p1, .inl (G 0, 12, .inl (fun _ => 0))), (p2, .inl (G 0, 12, .inl (fun _ => 0)))] ++ (kLines G (fun i => if i = 3 then p3 else x4 i) zSV)) ++ (kGreet G (fun i => if i = 7 then p5 else x6 i) zSV)) ++ [(p7, .inr (1, [.null, .null, .null, .int 0]))]) := hD
  refine W.widen (k := 10) (n := 209) (by omega) (by omega) ?_
  refine lv_dup hx hb dX6_init_46 rfl ?_
  have hP : va_P D vwCl ((([(a0, .inr (4, [.ref p1, .ref p2, .ref p3, .ref p5, .null, .null, .int 0, .int 0, .int 0, .int 0])), (p1, .inl (G 0, 12, .inl (fun _ => 0))), (p2, .inl (G 0, 12, .inl (fun _ => 0)))] ++ (kLines G (fun i => if i = 3 then p3 else x4 i) zSV)) ++ (kGreet G (fun i => if i = 7 then p5 else x6 i) zSV)) ++ [(p7, .inr (1, [.null, .null, .null, .int 0]))]) H := hP
  have hD : va_D A ((([(a0, .inr (4, [.ref p1, .ref p2, .ref p3, .ref p5, .null, .null, .int 0, .int 0, .int 0, .int 0])), (p1, .inl (G 0, 12, .inl (fun _ => 0))), (p2, .inl (G 0, 12, .inl (fun _ => 0)))] ++ (kLines G (fun i => if i = 3 then p3 else x4 i) zSV)) ++ (kGreet G (fun i => if i = 7 then p5 else x6 i) zSV)) ++ [(p7, .inr (1, [.null, .null, .null, .int 0]))]) := hD
  refine k_INX (As := []) (rest := [.ref p7, .ref a0]) (host := "BalconyCensus") ⟨hx, hb, hml, hown, hts⟩ (c_X1_init l D G p7  _) ⟨va_cnB 0 hts gX6_init_X1_init_n34 rfl rfl rfl (hN (RX6, 34, yX1_init) (by decide +kernel)) hw19 (by decide +kernel) ⟨Nat.le_of_ble_eq_true rfl, Nat.le_of_ble_eq_true rfl⟩, rfl, hw20⟩ hl.1 (Nat.le_of_ble_eq_true rfl) dX6_init_47 ⟨Nat.le_of_ble_eq_true rfl, Nat.le_of_ble_eq_true rfl⟩ rfl kT_bl (fun _ _ _ => trivial) hN hK hP hD hS hA [0, 1, 2, 3] rfl (fun x8 H locs hP hD hS => ?_)
  refine W.widen (k := 13) (n := 227) (by omega) (by omega) ?_
  refine va_putF (D := D) (ci := 4) (v := .ref p7) (ty := .object "BalconyCensus$Cats") (C := RX6) (T := TX6) (N := 10) hx hb hts hi4 tyX6 tyX6_ok nmX6 hown hK hP hD hS 0 rfl rfl 4 (by decide) hw21 (fun _ h9 => h9) rfl hin rfl (by decide +kernel) rfl rfl (Nat.le_of_ble_eq_true rfl) dX6_init_50 (fun H locs hP hD hS => ?_)
  have hP : va_P D vwCl ((([(a0, .inr (4, [.ref p1, .ref p2, .ref p3, .ref p5, .ref p7, .null, .int 0, .int 0, .int 0, .int 0])), (p1, .inl (G 0, 12, .inl (fun _ => 0))), (p2, .inl (G 0, 12, .inl (fun _ => 0)))] ++ (kLines G (fun i => if i = 3 then p3 else x4 i) zSV)) ++ (kGreet G (fun i => if i = 7 then p5 else x6 i) zSV)) ++ (kCats G (fun i => if i = 10 then p7 else x8 i) zSV)) H := hP
  have hD : va_D A ((([(a0, .inr (4, [.ref p1, .ref p2, .ref p3, .ref p5, .ref p7, .null, .int 0, .int 0, .int 0, .int 0])), (p1, .inl (G 0, 12, .inl (fun _ => 0))), (p2, .inl (G 0, 12, .inl (fun _ => 0)))] ++ (kLines G (fun i => if i = 3 then p3 else x4 i) zSV)) ++ (kGreet G (fun i => if i = 7 then p5 else x6 i) zSV)) ++ (kCats G (fun i => if i = 10 then p7 else x8 i) zSV)) := hD
  refine lv_aload_n hx hb dX6_init_53 rfl (lv_at hl 0 rfl) ?_
  refine lv_bipush (v := 12) hx hb dX6_init_54 (by decide +kernel) ?_
  refine va_newa (atype := .int) (ty := .int) (a0 := (12, .inl (fun _ => 0))) (N' := 12) hx hb hw4 rfl hK hP hD hS hA (fun cA => rfl) (by decide) (by decide +kernel) (Nat.le_of_ble_eq_true rfl) (Nat.le_of_ble_eq_true rfl) (Nat.le_of_ble_eq_true rfl) dX6_init_56 (fun p9 cA H hK2 hP hD hS => ?_)
  have hcA : G 0 = cA := Option.some.inj ((hK.2 0 _ rfl).2.symm.trans (hK2.2 4 _ rfl).2)
  subst hcA
  have hP : va_P D vwCl (((([(a0, .inr (4, [.ref p1, .ref p2, .ref p3, .ref p5, .ref p7, .null, .int 0, .int 0, .int 0, .int 0])), (p1, .inl (G 0, 12, .inl (fun _ => 0))), (p2, .inl (G 0, 12, .inl (fun _ => 0)))] ++ (kLines G (fun i => if i = 3 then p3 else x4 i) zSV)) ++ (kGreet G (fun i => if i = 7 then p5 else x6 i) zSV)) ++ (kCats G (fun i => if i = 10 then p7 else x8 i) zSV)) ++ [(p9, .inl (G 0, 12, .inl (fun _ => 0)))]) H := hP
  have hD : va_D A (((([(a0, .inr (4, [.ref p1, .ref p2, .ref p3, .ref p5, .ref p7, .null, .int 0, .int 0, .int 0, .int 0])), (p1, .inl (G 0, 12, .inl (fun _ => 0))), (p2, .inl (G 0, 12, .inl (fun _ => 0)))] ++ (kLines G (fun i => if i = 3 then p3 else x4 i) zSV)) ++ (kGreet G (fun i => if i = 7 then p5 else x6 i) zSV)) ++ (kCats G (fun i => if i = 10 then p7 else x8 i) zSV)) ++ [(p9, .inl (G 0, 12, .inl (fun _ => 0)))]) := hD
  refine W.widen (k := 14) (n := 239) (by omega) (by omega) ?_
  refine va_putF (D := D) (ci := 4) (v := .ref p9) (ty := .array .int) (C := RX6) (T := TX6) (N := 10) hx hb hts hi4 tyX6 tyX6_ok nmX6 hown hK hP hD hS 0 rfl rfl 5 (by decide) hw22 (fun _ h9 => h9) rfl hin rfl (by decide +kernel) rfl rfl (Nat.le_of_ble_eq_true rfl) dX6_init_58 (fun H locs hP hD hS => ?_)
  have hP : va_P D vwCl (((([(a0, .inr (4, [.ref p1, .ref p2, .ref p3, .ref p5, .ref p7, .ref p9, .int 0, .int 0, .int 0, .int 0])), (p1, .inl (G 0, 12, .inl (fun _ => 0))), (p2, .inl (G 0, 12, .inl (fun _ => 0)))] ++ (kLines G (fun i => if i = 3 then p3 else x4 i) zSV)) ++ (kGreet G (fun i => if i = 7 then p5 else x6 i) zSV)) ++ (kCats G (fun i => if i = 10 then p7 else x8 i) zSV)) ++ [(p9, .inl (G 0, 12, .inl (fun _ => 0)))]) H := hP
  have hD : va_D A (((([(a0, .inr (4, [.ref p1, .ref p2, .ref p3, .ref p5, .ref p7, .ref p9, .int 0, .int 0, .int 0, .int 0])), (p1, .inl (G 0, 12, .inl (fun _ => 0))), (p2, .inl (G 0, 12, .inl (fun _ => 0)))] ++ (kLines G (fun i => if i = 3 then p3 else x4 i) zSV)) ++ (kGreet G (fun i => if i = 7 then p5 else x6 i) zSV)) ++ (kCats G (fun i => if i = 10 then p7 else x8 i) zSV)) ++ [(p9, .inl (G 0, 12, .inl (fun _ => 0)))]) := hD
  refine lv_aload_n hx hb dX6_init_61 rfl (lv_at hl 0 rfl) ?_
  obtain ⟨q0, eq0⟩ : ∃ q : Nat → Nat, q = (fun i => [a0, p1, p2, p3, x4 4, x4 5, x4 6, p5, x6 8, x6 9, p7, x8 11, x8 12, x8 13, p9].getD i 0) := ⟨_, rfl⟩
  have hP : va_P D vwCl (kHouse G q0 zSV) H := by rw [eq0]; exact hP
  have hD : va_D A (kHouse G q0 zSV) := by rw [eq0]; exact hD
  have ea : q0 0 = a0 := by rw [eq0]; rfl
  have et : q0 2 = p2 := by rw [eq0]; rfl
  rw [← ea] at hl
  have hl : lv_has ls 1 [(0, .ref (q0 0))] := hl
  rw [← ea]
  refine va_get (D := D) (ci := 4) (v := .ref (q0 2)) (C := RX6) (T := TX6) (N := 10) hx hb hts hi4 hown hK hP 0 rfl rfl 1 (by decide) hw6 (fun _ h9 => h9) rfl dX6_init_62 ?_
  refine lv_iconst (v := 3) hx hb dX6_init_65 (by decide) ?_
  refine k_S (As := [.ref (q0 2), .int 3]) (rest := []) (ws1 := kHouse G q0 (pR zSV 1 w)) ⟨hx, hb, hml, hown, hts⟩ (c_J7_fill_53178 l D G (q0 2) 12 3 (fun _ => 0) w hw _) (va_cwS 2 hts gX6_init_J7_fill_53178 rfl rfl rfl (by decide +kernel) ⟨Nat.le_of_ble_eq_true rfl, Nat.le_of_ble_eq_true rfl⟩) hl.1 (Nat.le_of_ble_eq_true rfl) dX6_init_66 ⟨Nat.le_of_ble_eq_true rfl, Nat.le_of_ble_eq_true rfl⟩ rfl kT_bl (fun _ _ _ => trivial) hN hK hP hD hS hA [2] [0, 1, 3, 4, 5, 6, 7, 8, 9, 10, 11, 12, 13, 14] [0, 1, 14, 2, 3, 4, 5, 6, 7, 8, 9, 10, 11, 12, 13] [0, 1, 2, 3] rfl rfl rfl ⟨by decide, by decide, by decide, by decide⟩ rfl (fun H locs hP hD hS => ?_)
  have eq2 : q0 = fun i => if i = 0 then a0 else q0 i := by funext i; by_cases h : i = 0 <;> simp [h, ea]
  refine hE q0 rfl ?_ ?_ hS dX6_init_69
  · show va_P D vwCl (kHouse G (fun i => if i = 0 then a0 else q0 i) (pR zSV 1 w)) H
    rw [← eq2]; exact hP
  · show va_D A (kHouse G (fun i => if i = 0 then a0 else q0 i) (pR zSV 1 w))
    rw [← eq2]; exact hD

theorem arrq_congr {c : ClassId} {n : Nat} {f g : Nat → Option Nat} (h : ∀ k, k < n → f k = g k) : vp_cell c (n, .inr (.inr (.inr (.inr f)))) = vp_cell c (n, .inr (.inr (.inr (.inr g)))) := by
  show arrV c n (fun j => va_rf (f j)) = arrV c n (fun j => va_rf (g j))
  unfold arrV
  congr 2
  funext j
  show va_rf (f j.1) = va_rf (g j.1)
  rw [h j.1 j.2]
theorem pP_arr {D : va_G} {cl : List vw_C} {H : Heap} {p n : Nat} {c : ClassId} {f g : Nat → Option Nat} (h : ∀ k, k < n → f k = g k) (hP : va_P D cl [(p, .inl (c, n, .inr (.inr (.inr (.inr f)))))] H) : va_P D cl [(p, .inl (c, n, .inr (.inr (.inr (.inr g)))))] H := by
  intro k q hk
  have h0 := hP 0 _ rfl
  cases k with
  | zero =>
    cases hk
    show H[p]? = some (vp_cell c (n, .inr (.inr (.inr (.inr g)))))
    rw [← arrq_congr h]
    exact h0
  | succ k => simp at hk
theorem Dj_addr {a a' b : va_W} (h : a.map (fun q => q.1) = a'.map (fun q => q.1)) (hd : Dj a b) : Dj a' b := by
  intro i j p q hi hj
  have h1 : (a.map (fun q => q.1))[i]? = some p.1 := by rw [h, List.getElem?_map, hi]; rfl
  rw [List.getElem?_map] at h1
  cases hz : a[i]? with
  | none => rw [hz] at h1; cases h1
  | some z =>
    rw [hz] at h1
    have e : z.1 = p.1 := Option.some.inj h1
    rw [← e]
    exact hd i j z q hz hj
theorem pD_addr {A : Nat → Prop} {a a' : va_W} (h : a.map (fun q => q.1) = a'.map (fun q => q.1)) (hd : va_D A a) : va_D A a' := by
  have at' : ∀ (i : Nat) (p : Nat × va_E), a'[i]? = some p → ∃ z, a[i]? = some z ∧ z.1 = p.1 := by
    intro i p hi
    have h1 : (a.map (fun q => q.1))[i]? = some p.1 := by rw [h, List.getElem?_map, hi]; rfl
    rw [List.getElem?_map] at h1
    cases hz : a[i]? with
    | none => rw [hz] at h1; cases h1
    | some z => rw [hz] at h1; exact ⟨z, rfl, Option.some.inj h1⟩
  refine ⟨fun i j p q hi hj e => ?_, fun k q hk => ?_⟩
  · obtain ⟨z1, a1, b1⟩ := at' i p hi
    obtain ⟨z2, a2, b2⟩ := at' j q hj
    exact hd.1 i j z1 z2 a1 a2 (b1.trans (e.trans b2.symm))
  · obtain ⟨z, a1, b1⟩ := at' k q hk
    rw [← b1]
    exact hd.2 k z a1
def kO : JT := fun _ U => va_AO "BalconyCensus$House" U
theorem kO_bl : kBl kO := fun _ U V hv _ h => va_AO.moved (al_of hv) h

theorem vpi8 (k : Nat) (hk : k < 8) : vp_in (nI k) 8 := vp_in_nI hk (by decide)
theorem va_RA_one {U : State} {a b : ClassId} {C : String} (h1 : va_RA U a (.object C)) (h2 : va_RA U b (.object C)) : a = b := by
  obtain ⟨k1, c1, -, -, -, h1⟩ := h1
  obtain ⟨k2, c2, -, -, -, h2⟩ := h2
  exact Option.some.inj (h1.symm.trans h2)

