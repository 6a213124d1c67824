/-! Walks, laid by wip/whole/gen.py: for each method f_ (what it does to its world) and c_ (its contract). -/

/-- the state of an object of the class: all its modules -/
def kAll (G : Nat → ClassId) (Q : Nat → Nat → Nat) (bb : Nat) (vmn vho vdr vsa vhi : SV) (vhh : Nat → SV) (vre vrf vpa vod : SV) (vsb : Nat × SV) : va_W := kMain Q vmn ++ kHouse G (Q 1) vho ++ kHouse G (Q 2) vdr ++ kHouse G (Q 3) vsa ++ (kHist Q vhi ++ kHH G Q vhh) ++ kReader G (Q 5) vre ++ kRef G (Q 6) vrf ++ kPaths G (Q 7) vpa ++ kOrder G (Q 8) vod ++ kSB G (Q 9 0) bb vsb
theorem kHH_congr {G : Nat → ClassId} {Q Q' : Nat → Nat → Nat} {h h' : Nat → SV} (h1 : Q 4 1 = Q' 4 1) (h2 : ∀ k, Q (10 + k) = Q' (10 + k)) (h3 : h = h') : kHH G Q h = kHH G Q' h' := by
  subst h3
  unfold kHH
  rw [h1, show (fun k => some (Q (10 + k) 0)) = fun k => some (Q' (10 + k) 0) from funext fun k => by rw [h2 k], show Q 10 = Q' 10 from h2 0, show Q 11 = Q' 11 from h2 1, show Q 12 = Q' 12 from h2 2, show Q 13 = Q' 13 from h2 3, show Q 14 = Q' 14 from h2 4, show Q 15 = Q' 15 from h2 5, show Q 16 = Q' 16 from h2 6, show Q 17 = Q' 17 from h2 7]
def vMn0 : SV := (fun k => if k = 1 then -4 else 0, fun _ _ => 0)
def vHo0 (w : Nat → Int32) : SV := pR zSV 1 w
def kL (X : Nat → Nat → Nat) : JT := fun A U => kW X A U ∧ kO A U
theorem kL_bl (X : Nat → Nat → Nat) : kBl (kL X) := fun A U V hv hh h => ⟨kW_bl X A U V hv hh h.1, kO_bl A U V hv hh h.2⟩
theorem kO_pass {A B : Nat → Prop} {s : State} {H : Heap} (hJ : kO A s) : ∀ U : State, U.heap = H → s.WarmedH U.vm → kO B U := fun _ _ hW => va_AO.moved hW.alike hJ
theorem kL_pass {X : Nat → Nat → Nat} {A B : Nat → Prop} {s : State} {H : Heap} {locs : List Loc} (hJ : kL X A s) (hS : va_S A s.heap H locs) (hB : ∀ q : Nat, B q → A q) : ∀ U : State, U.heap = H → s.WarmedH U.vm → kL X B U := fun U hU hW => ⟨kW_pass hJ.1 hS hB U hU hW, kO_pass hJ.2 U hU hW⟩

abbrev rm_J5_init_d00df : Room := { frames := 1, cells := 1, slots := 16, locals := 12 }
set_option maxHeartbeats 4000000 in
set_option maxRecDepth 100000 in
theorem c_J5_init_d00df (l : Launch) (D : va_G) (G : Nat → ClassId) (X : Nat → Nat → Nat) (a0 : Nat) (sz : Nat) : mCX (τ := Nat) l yJ5_init_d00df wsJ5_init_d00df rm_J5_init_d00df D (tyG G) (kX X) [.ref a0, .int 16] [(a0, .inr (0, [.null, .int 0, .int 0, .int 0]))] (fun x => kSB G a0 x (16, zSV)) sz (fun _ => none) 1 16 := by
  refine mCX_of (cc := cJ5_init_d00df) (maxL := 2) (by decide) rfl (Nat.le_of_ble_eq_true rfl) rfl ?_
  intro p e s m args below meth c Q0 hx hb hml hts hown hin hN hK A hD hA hE hP hS hJ ls hl
  have hl : lv_has ls 2 [(0, .ref a0), (1, .int 16)] := hl
  have hi0 : ∀ w ∈ u_ws RJ4 TJ4 4, w ∈ wsJ5_init_d00df := by decide +kernel
  have hw1 := hts (.methodLink RJ5 3 objectInit) (by decide +kernel)
  have hw2 := hts (.instanceMethod objectInit) (by decide +kernel)
  have hw3 := hts (.code objectInit ⟨#[0xb1]⟩ 1 none) (by decide +kernel)
  have hw4 := hts (.fieldLink RJ5 18 "java/lang/String" "COMPACT_STRINGS" "Z") (by decide +kernel)
  have hw5 := hts (.arrayClass .byte) (by decide +kernel)
  have hw6 := hts (.fieldLink RJ5 15 "java/lang/AbstractStringBuilder" "value" "[B") (by decide +kernel)
  have hw7 := hts (.fieldLink RJ5 22 "java/lang/AbstractStringBuilder" "coder" "B") (by decide +kernel)
  obtain ⟨hX1, hX2, hX3, hX4, hX5, hX6, hX7, hX8, hX9, hX10, hX11, hX12⟩ := id hJ
  refine lv_aload_n hx hb dJ5_init_d00df_0 rfl (lv_at hl 0 rfl) ?_
  refine W.objInit hx hb hown hw1 hw2 hw3 rfl (by rw [hml]; exact hl.1) rfl dJ5_init_d00df_1 (Nat.le_of_ble_eq_true rfl) (Nat.le_of_ble_eq_true rfl) ?_
  refine W.eq (g2 := F0 m 4 ls []) rfl ?_
  refine va_gets (v := .int 1) hx hb hX11 hS hown hw4 (fun _ h9 => h9) dJ5_init_d00df_4 ?_
  refine lv_if_eq (tgt := 25) hx hb dJ5_init_d00df_7 (by decide) (fun cc => absurd cc (by decide)) (fun _ => ?_)
  refine lv_aload_n hx hb dJ5_init_d00df_10 rfl (lv_at hl 0 rfl) ?_
  refine lv_iload_n hx hb dJ5_init_d00df_11 rfl (lv_at hl 1 rfl) ?_
  refine va_newa (atype := .byte) (ty := .byte) (a0 := (16, .inl (fun _ => 0))) (N' := 16) hx hb hw5 rfl hK hP hD hS hA (fun cA => rfl) (by decide) (by decide +kernel) (Nat.le_of_ble_eq_true rfl) (Nat.le_of_ble_eq_true rfl) (Nat.le_of_ble_eq_true rfl) dJ5_init_d00df_12 (fun p1 cA H hK2 hP hD hS => ?_)
  have hcA : G 2 = cA := Option.some.inj ((hK.2 2 _ rfl).2.symm.trans (hK2.2 4 _ rfl).2)
  subst hcA
  refine W.widen (k := 1) (n := 16) (by omega) (by omega) ?_
  have hP : va_P D vwCl [(a0, .inr (0, [.null, .int 0, .int 0, .int 0])), (p1, .inl (G 2, 16, .inl (fun _ => 0)))] H := hP
  have hD : va_D A [(a0, .inr (0, [.null, .int 0, .int 0, .int 0])), (p1, .inl (G 2, 16, .inl (fun _ => 0)))] := hD
  refine va_put (D := D) (ci := 0) (v := .ref p1) (ty := .array .byte) (C := RJ4) (T := TJ4) (N := 4) hx hb hts hi0 tyJ4 tyJ4_ok nmJ4 hown hK hP hD hS 0 rfl rfl 0 (by decide) hw6 (fun _ h9 => h9) rfl (by decide +kernel) rfl rfl (Nat.le_of_ble_eq_true rfl) dJ5_init_d00df_14 (fun H locs hP hD hS => ?_)
  have hP : va_P D vwCl [(a0, .inr (0, [.ref p1, .int 0, .int 0, .int 0])), (p1, .inl (G 2, 16, .inl (fun _ => 0)))] H := hP
  have hD : va_D A [(a0, .inr (0, [.ref p1, .int 0, .int 0, .int 0])), (p1, .inl (G 2, 16, .inl (fun _ => 0)))] := hD
  refine lv_aload_n hx hb dJ5_init_d00df_17 rfl (lv_at hl 0 rfl) ?_
  refine lv_iconst (v := 0) hx hb dJ5_init_d00df_18 (by decide +kernel) ?_
  refine va_put (D := D) (ci := 0) (v := .int 0) (ty := .byte) (C := RJ4) (T := TJ4) (N := 4) hx hb hts hi0 tyJ4 tyJ4_ok nmJ4 hown hK hP hD hS 0 rfl rfl 1 (by decide) hw7 (fun _ h9 => h9) rfl (by decide +kernel) (by decide +kernel) (by decide +kernel) (Nat.le_of_ble_eq_true rfl) dJ5_init_d00df_19 (fun H locs hP hD hS => ?_)
  have hP : va_P D vwCl [(a0, .inr (0, [.ref p1, .int 0, .int 0, .int 0])), (p1, .inl (G 2, 16, .inl (fun _ => 0)))] H := hP
  have hD : va_D A [(a0, .inr (0, [.ref p1, .int 0, .int 0, .int 0])), (p1, .inl (G 2, 16, .inl (fun _ => 0)))] := hD
  refine lv_goto (tgt := 38) hx hb dJ5_init_d00df_22 (by decide) ?_
  exact hE p1 rfl hP hD hS dJ5_init_d00df_38
abbrev rm_J4_init_da8c8 : Room := { frames := 2, cells := 1, slots := 16, locals := 33 }
set_option maxHeartbeats 4000000 in
set_option maxRecDepth 100000 in
theorem c_J4_init_da8c8 (l : Launch) (D : va_G) (G : Nat → ClassId) (X : Nat → Nat → Nat) (a0 : Nat) (sz : Nat) : mCX (τ := Nat) l yJ4_init_da8c8 wsJ4_init_da8c8 rm_J4_init_da8c8 D (tyG G) (kX X) [.ref a0] [(a0, .inr (0, [.null, .int 0, .int 0, .int 0]))] (fun x => kSB G a0 x (16, zSV)) sz (fun _ => none) 1 16 := by
  refine mCX_of (cc := cJ4_init_da8c8) (maxL := 1) (by decide) rfl (Nat.le_of_ble_eq_true rfl) rfl ?_
  intro p e s m args below meth c Q0 hx hb hml hts hown hin hN hK A hD hA hE hP hS hJ ls hl
  have hl : lv_has ls 1 [(0, .ref a0)] := hl
  have hw1 := hts (.methodLink RJ4 1 yJ5_init_d00df) (by decide +kernel)
  have hw2 := hts (.instanceMethod yJ5_init_d00df) (by decide +kernel)
  have hw3 := hts (.initialized RJ5) (by decide +kernel)
  refine lv_aload_n hx hb dJ4_init_da8c8_0 rfl (lv_at hl 0 rfl) ?_
  refine lv_bipush (v := 16) hx hb dJ4_init_da8c8_1 (by decide +kernel) ?_
  have hP : va_P D vwCl (([] : va_W) ++ [(a0, .inr (0, [.null, .int 0, .int 0, .int 0]))]) s.heap := hP
  have hD : va_D A (([] : va_W) ++ [(a0, .inr (0, [.null, .int 0, .int 0, .int 0]))]) := hD
  refine k_IX (As := [.int 16]) (rest := []) ⟨hx, hb, hml, hown, hts⟩ (c_J5_init_d00df l D G X a0 _) (cwI 1 hts gJ4_init_da8c8_J5_init_d00df rfl rfl rfl hw3 hw1 hw2 rfl (by decide +kernel) ⟨Nat.le_of_ble_eq_true rfl, Nat.le_of_ble_eq_true rfl⟩) hl.1 (Nat.le_of_ble_eq_true rfl) dJ4_init_da8c8_3 ⟨Nat.le_of_ble_eq_true rfl, Nat.le_of_ble_eq_true rfl⟩ rfl (kX_bl X) (kX_pass hJ hS (k_freeB hD hS hA)) hN hK hP hD hS hA [0, 1, 2, 3] rfl (fun x1 H locs hP hD hS => ?_)
  refine W.widen (k := 1) (n := 16) (by omega) (by omega) ?_
  exact hE x1 rfl hP hD hS dJ4_init_da8c8_6
