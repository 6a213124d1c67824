/-! Walks, laid by wip/whole/gen.py: for each method f_ (what it does to its world) and c_ (its contract). -/
def f_J5_append_3fe6f (a1 : Int32) (v0 : (Nat × SV)) : Option (Nat × SV) :=
  bd1 (f_J5_ensureCapacityInternal_d00df ((v0.2.1 2) + 1) v0) fun w_1 =>
  bd1 (f_J5_isLatin1_aae02 w_1) fun r_2 =>
  if r_2 = 0 then
    none
  else
    bd1 (f_J1_canEncode_fc78d a1) fun r_3 =>
    if r_3 = 0 then
      none
    else
      nm (pBF w_1 2 ((w_1.2.1 2) + 1)) fun v_4 =>
      ckI (w_1.2.1 2) v_4.1 <|
      nm (pBA v_4 (w_1.2.1 2) (vp_nar .byte a1.toInt8.toInt32)) fun v_5 =>
      some v_5
abbrev rm_J5_append_3fe6f : Room := { frames := 4, cells := 1, slots := 80, locals := 84 }
set_option maxHeartbeats 4000000 in
set_option maxRecDepth 100000 in
theorem c_J5_append_3fe6f (l : Launch) (D : va_G) (G : Nat → ClassId) (X : Nat → Nat → Nat) (o0 : Nat) (bb : Nat) (a1 : Int32) (v0 : (Nat × SV)) (v0' : (Nat × SV)) (hf : f_J5_append_3fe6f a1 v0 = some v0') (sz : Nat) : mCE l yJ5_append_3fe6f wsJ5_append_3fe6f rm_J5_append_3fe6f D (tyG G) (kW X) [.ref o0, .int a1] (kSB G o0 bb v0) (fun bb => (kSB G o0 bb v0')) sz (fun _ => (some (.ref o0))) 1 80 := by
  refine mCE_of (cc := cJ5_append_3fe6f) (maxL := 2) (ret := (some (.object "java/lang/AbstractStringBuilder"))) (by decide) rfl (Nat.le_of_ble_eq_true rfl) ?_
  intro p e s m args below meth c Q0 hx hb hml hts hown hN hK A hD hA hEr hEv hEi hP hS hJ ls hl
  have hl : lv_has ls 2 [(0, .ref o0), (1, .int a1)] := hl
  unfold f_J5_append_3fe6f at hf
  obtain ⟨⟨⟨hX1, hX2, hX3, hX4, hX5, hX6, hX7, hX8, hX9, hX10, hX11, hX12⟩, hX13⟩, hX14, hX15, hX16, hX17⟩ := id hJ
  have hi0 : ∀ w ∈ u_ws RJ4 TJ4 4, w ∈ wsJ5_append_3fe6f := by decide +kernel
  have hw1 := hts (.fieldLink RJ5 79 "java/lang/AbstractStringBuilder" "count" "I") (by decide +kernel)
  have hw2 := hts (.fieldLink RJ5 15 "java/lang/AbstractStringBuilder" "value" "[B") (by decide +kernel)
  refine lv_aload_n hx hb dJ5_append_3fe6f_0 rfl (lv_at hl 0 rfl) ?_
  refine lv_aload_n hx hb dJ5_append_3fe6f_1 rfl (lv_at hl 0 rfl) ?_
  refine va_get (D := D) (ci := 0) (v := .int (v0.2.1 2)) (C := RJ4) (T := TJ4) (N := 4) hx hb hts hi0 hown hK hP 0 rfl rfl 3 (by decide) hw1 (fun _ h9 => h9) rfl dJ5_append_3fe6f_2 ?_
  refine lv_iconst (v := 1) hx hb dJ5_append_3fe6f_5 (by decide) ?_
  refine lv_iadd hx hb dJ5_append_3fe6f_6 ?_
  obtain ⟨w_1, hc, hf⟩ := bd1_of hf
  refine k_UE (As := [.int ((v0.2.1 2) + 1)]) (rest := []) (ws1 := fun bb => (kSB G o0 bb w_1)) ⟨hx, hb, hml, hown, hts⟩ (c_J5_ensureCapacityInternal_d00df l D G X o0 bb ((v0.2.1 2) + 1) v0 _ hc  _) (va_cwU 1 hts gJ5_append_3fe6f_J5_ensureCapacityInternal_d00df_u100J4 rfl rfl rfl (by decide +kernel) (by decide +kernel) ⟨Nat.le_of_ble_eq_true rfl, Nat.le_of_ble_eq_true rfl⟩) hl.1 (Nat.le_of_ble_eq_true rfl) dJ5_append_3fe6f_7 ⟨by show _ ≤ 1; omega, by show _ ≤ 80; omega⟩ rfl (kW_bl X) (kW_pass hJ hS (va_free (wc := (kSB G o0 bb v0)) hD hS hA [0, 1] rfl)) hN hK hP hD hS hA 0 0 rfl rfl rfl [0, 1] [] [0, 1] [0, 1, 2, 3] rfl rfl rfl ⟨by decide, by decide, by decide, by decide⟩ (fun _ => rfl) (fun bb H locs hP hD hS => ?_)
  refine W.widen (k := 1) (n := 80) (by omega) (by omega) ?_
  refine lv_aload_n hx hb dJ5_append_3fe6f_10 rfl (lv_at hl 0 rfl) ?_
  obtain ⟨r_2, hc, hf⟩ := bd1_of hf
  refine k_U0 (As := []) (rest := []) (wd1 := (kSB G o0 bb w_1)) ⟨hx, hb, hml, hown, hts⟩ (c_J5_isLatin1_aae02 l D G X o0 bb  w_1 _ hc  _) (va_cwU 0 hts gJ5_append_3fe6f_J5_isLatin1_aae02_u83J4 rfl rfl rfl (by decide +kernel) (by decide +kernel) ⟨Nat.le_of_ble_eq_true rfl, Nat.le_of_ble_eq_true rfl⟩) hl.1 (Nat.le_of_ble_eq_true rfl) dJ5_append_3fe6f_11 ⟨by show _ ≤ 1; omega, by show _ ≤ 80; omega⟩ rfl (kW_bl X) (kW_pass hJ hS (va_free (wc := (kSB G o0 bb w_1)) hD hS hA [0, 1] rfl)) hN hK hP hD hS hA 0 0 rfl rfl rfl [0, 1] [] [0, 1] [0, 1, 2, 3] rfl rfl rfl ⟨by decide, by decide, by decide, by decide⟩ rfl (fun H locs hP hD hS => ?_)
  refine lv_if_eq (tgt := 45) hx hb dJ5_append_3fe6f_14 (by decide) (fun cc => ?_) (fun cc => ?_)
  · replace hf := ifT cc hf
    cases hf
  · replace hf := ifF cc hf
    refine lv_iload_n hx hb dJ5_append_3fe6f_17 rfl (lv_at hl 1 rfl) ?_
    obtain ⟨r_3, hc, hf⟩ := bd1_of hf
    refine k_S (As := [.int a1]) (rest := []) (ws1 := (kSB G o0 bb w_1)) ⟨hx, hb, hml, hown, hts⟩ (c_J1_canEncode_fc78d l D G  a1  _ hc  _) (va_cwS 1 hts gJ5_append_3fe6f_J1_canEncode_fc78d rfl rfl rfl (by decide +kernel) ⟨Nat.le_of_ble_eq_true rfl, Nat.le_of_ble_eq_true rfl⟩) hl.1 (Nat.le_of_ble_eq_true rfl) dJ5_append_3fe6f_18 ⟨by show _ ≤ 1; omega, by show _ ≤ 80; omega⟩ rfl kT_bl (fun _ _ _ => trivial) hN hK hP hD hS hA [] [0, 1] [0, 1] [0, 1, 2, 3] rfl rfl rfl ⟨by decide, by decide, by decide, by decide⟩ rfl (fun H locs hP hD hS => ?_)
    refine lv_if_eq (tgt := 45) hx hb dJ5_append_3fe6f_21 (by decide) (fun cc => ?_) (fun cc => ?_)
    · replace hf := ifT cc hf
      cases hf
    · replace hf := ifF cc hf
      refine lv_aload_n hx hb dJ5_append_3fe6f_24 rfl (lv_at hl 0 rfl) ?_
      refine va_get (D := D) (ci := 0) (v := .ref bb) (C := RJ4) (T := TJ4) (N := 4) hx hb hts hi0 hown hK hP 0 rfl rfl 0 (by decide) hw2 (fun _ h9 => h9) rfl dJ5_append_3fe6f_25 ?_
      refine lv_aload_n hx hb dJ5_append_3fe6f_28 rfl (lv_at hl 0 rfl) ?_
      refine lv_dup hx hb dJ5_append_3fe6f_29 rfl ?_
      refine va_get (D := D) (ci := 0) (v := .int (w_1.2.1 2)) (C := RJ4) (T := TJ4) (N := 4) hx hb hts hi0 hown hK hP 0 rfl rfl 3 (by decide) hw1 (fun _ h9 => h9) rfl dJ5_append_3fe6f_30 ?_
      refine lv_dup_x1 hx hb dJ5_append_3fe6f_33 rfl rfl ?_
      refine lv_iconst (v := 1) hx hb dJ5_append_3fe6f_34 (by decide) ?_
      refine lv_iadd hx hb dJ5_append_3fe6f_35 ?_
      obtain ⟨v_4, ev_4, hf⟩ := nm_of hf
      refine va_put (D := D) (ci := 0) (v := .int ((w_1.2.1 2) + 1)) (ty := .int) (C := RJ4) (T := TJ4) (N := 4) hx hb hts hi0 tyJ4 tyJ4_ok nmJ4 hown hK hP hD hS 0 rfl rfl 3 (by decide) hw1 (fun _ h9 => h9) rfl (by decide +kernel) rfl rfl (Nat.le_of_ble_eq_true rfl) dJ5_append_3fe6f_36 (fun H locs hP hD hS => ?_)
      have hP : va_P D vwCl (kSB G o0 bb v_4) H := by rw [ev_4]; exact hP
      have hD : va_D A (kSB G o0 bb v_4) := by rw [ev_4]; exact hD
      refine lv_iload_n hx hb dJ5_append_3fe6f_39 rfl (lv_at hl 1 rfl) ?_
      refine lv_i2b hx hb dJ5_append_3fe6f_40 rfl ?_
      obtain ⟨hin, hf⟩ := ckI_of hf
      obtain ⟨v_5, ev_5, hf⟩ := nm_of hf
      refine va_bast (D := D) hx hb hK hP hD hS 1 2 rfl rfl hin dJ5_append_3fe6f_41 (fun H locs hP hD hS => ?_)
      have hP : va_P D vwCl (kSB G o0 bb v_5) H := by rw [ev_5]; exact hP
      have hD : va_D A (kSB G o0 bb v_5) := by rw [ev_5]; exact hD
      refine lv_goto (tgt := 75) hx hb dJ5_append_3fe6f_42 (by decide) ?_
      refine lv_aload_n hx hb dJ5_append_3fe6f_75 rfl (lv_at hl 0 rfl) ?_
      obtain rfl := re1 hf
      refine W.widen (k := 1) (n := 80) (by omega) (by omega) ?_
      exact hEr bb rfl rfl (.inl ⟨_, rfl⟩) (.inr ⟨_, rfl⟩) hP hD hS dJ5_append_3fe6f_76
def f_J4_append_cf468 (a1 : Int32) (v0 : (Nat × SV)) : Option (Nat × SV) :=
  bd1 (f_J5_append_3fe6f a1 v0) fun w_1 =>
  some w_1
abbrev rm_J4_append_cf468 : Room := { frames := 5, cells := 1, slots := 80, locals := 105 }
set_option maxHeartbeats 4000000 in
set_option maxRecDepth 100000 in
theorem c_J4_append_cf468 (l : Launch) (D : va_G) (G : Nat → ClassId) (X : Nat → Nat → Nat) (o0 : Nat) (bb : Nat) (a1 : Int32) (v0 : (Nat × SV)) (v0' : (Nat × SV)) (hf : f_J4_append_cf468 a1 v0 = some v0') (sz : Nat) : mCE l yJ4_append_cf468 wsJ4_append_cf468 rm_J4_append_cf468 D (tyG G) (kW X) [.ref o0, .int a1] (kSB G o0 bb v0) (fun bb => (kSB G o0 bb v0')) sz (fun _ => (some (.ref o0))) 1 80 := by
  refine mCE_of (cc := cJ4_append_cf468) (maxL := 2) (ret := (some (.object "java/lang/StringBuilder"))) (by decide) rfl (Nat.le_of_ble_eq_true rfl) ?_
  intro p e s m args below meth c Q0 hx hb hml hts hown hN hK A hD hA hEr hEv hEi hP hS hJ ls hl
  have hl : lv_has ls 2 [(0, .ref o0), (1, .int a1)] := hl
  unfold f_J4_append_cf468 at hf
  obtain ⟨⟨⟨hX1, hX2, hX3, hX4, hX5, hX6, hX7, hX8, hX9, hX10, hX11, hX12⟩, hX13⟩, hX14, hX15, hX16, hX17⟩ := id hJ
  refine lv_aload_n hx hb dJ4_append_cf468_0 rfl (lv_at hl 0 rfl) ?_
  refine lv_iload_n hx hb dJ4_append_cf468_1 rfl (lv_at hl 1 rfl) ?_
  obtain ⟨w_1, hc, hf⟩ := bd1_of hf
  refine k_PE (As := [.int a1]) (rest := []) (ws1 := fun bb => (kSB G o0 bb w_1)) (hK.1 0 _ rfl).2 ⟨hx, hb, hml, hown, hts⟩ (c_J5_append_3fe6f l D G X o0 bb a1 v0 _ hc  _) (va_cwSU 1 hts gJ4_append_cf468_J5_append_3fe6f_s50 rfl rfl rfl (by decide +kernel) ⟨Nat.le_of_ble_eq_true rfl, Nat.le_of_ble_eq_true rfl⟩) hl.1 (Nat.le_of_ble_eq_true rfl) dJ4_append_cf468_2 ⟨by show _ ≤ 1; omega, by show _ ≤ 80; omega⟩ rfl (kW_bl X) (kW_pass hJ hS (va_free (wc := (kSB G o0 bb v0)) hD hS hA [0, 1] rfl)) hN hK hP hD hS hA 0 0 rfl rfl rfl [0, 1] [] [0, 1] [0, 1, 2, 3] rfl rfl rfl ⟨by decide, by decide, by decide, by decide⟩ (fun _ => rfl) (fun bb H locs hP hD hS => ?_)
  refine W.widen (k := 1) (n := 80) (by omega) (by omega) ?_
  refine lv_pop hx hb dJ4_append_cf468_5 rfl ?_
  refine lv_aload_n hx hb dJ4_append_cf468_6 rfl (lv_at hl 0 rfl) ?_
  obtain rfl := re1 hf
  refine W.widen (k := 1) (n := 80) (by omega) (by omega) ?_
  exact hEr bb rfl rfl (.inl ⟨_, rfl⟩) (.inr ⟨_, rfl⟩) hP hD hS dJ4_append_cf468_7
def f_J5_append_c97b9 (a1 : Int32) (v0 : (Nat × SV)) : Option (Nat × SV) :=
  bd1 (f_J6_stringSize_0f7a4 a1) fun r_1 =>
  bd1 (f_J5_ensureCapacityInternal_d00df ((v0.2.1 2) + r_1) v0) fun w_2 =>
  bd1 (f_J5_isLatin1_aae02 w_2) fun r_3 =>
  if r_3 = 0 then
    none
  else
    bd2 (f_J6_getChars_ba4f3 a1 ((v0.2.1 2) + r_1) w_2.1 (w_2.2.2 0)) fun r_4 w_5 =>
    nm (pBR w_2 w_5) fun v_6 =>
    nm (pBF v_6 2 ((v0.2.1 2) + r_1)) fun v_7 =>
    some v_7
abbrev rm_J5_append_c97b9 : Room := { frames := 4, cells := 1, slots := 80, locals := 84 }
set_option maxHeartbeats 4000000 in
set_option maxRecDepth 100000 in
theorem c_J5_append_c97b9 (l : Launch) (D : va_G) (G : Nat → ClassId) (X : Nat → Nat → Nat) (o0 : Nat) (bb : Nat) (a1 : Int32) (v0 : (Nat × SV)) (v0' : (Nat × SV)) (hf : f_J5_append_c97b9 a1 v0 = some v0') (sz : Nat) : mCE l yJ5_append_c97b9 wsJ5_append_c97b9 rm_J5_append_c97b9 D (tyG G) (kW X) [.ref o0, .int a1] (kSB G o0 bb v0) (fun bb => (kSB G o0 bb v0')) sz (fun _ => (some (.ref o0))) 1 80 := by
  refine mCE_of (cc := cJ5_append_c97b9) (maxL := 4) (ret := (some (.object "java/lang/AbstractStringBuilder"))) (by decide) rfl (Nat.le_of_ble_eq_true rfl) ?_
  intro p e s m args below meth c Q0 hx hb hml hts hown hN hK A hD hA hEr hEv hEi hP hS hJ ls hl
  have hl : lv_has ls 4 [(0, .ref o0), (1, .int a1)] := hl
  unfold f_J5_append_c97b9 at hf
  obtain ⟨⟨⟨hX1, hX2, hX3, hX4, hX5, hX6, hX7, hX8, hX9, hX10, hX11, hX12⟩, hX13⟩, hX14, hX15, hX16, hX17⟩ := id hJ
  have hi0 : ∀ w ∈ u_ws RJ4 TJ4 4, w ∈ wsJ5_append_c97b9 := by decide +kernel
  have hw1 := hts (.fieldLink RJ5 79 "java/lang/AbstractStringBuilder" "count" "I") (by decide +kernel)
  have hw2 := hts (.fieldLink RJ5 15 "java/lang/AbstractStringBuilder" "value" "[B") (by decide +kernel)
  refine lv_aload_n hx hb dJ5_append_c97b9_0 rfl (lv_at hl 0 rfl) ?_
  refine va_get (D := D) (ci := 0) (v := .int (v0.2.1 2)) (C := RJ4) (T := TJ4) (N := 4) hx hb hts hi0 hown hK hP 0 rfl rfl 3 (by decide) hw1 (fun _ h9 => h9) rfl dJ5_append_c97b9_1 ?_
  refine lv_istore_n (lv' := [(2, .int (v0.2.1 2)), (0, .ref o0), (1, .int a1)]) hx hb dJ5_append_c97b9_4 rfl hl (by decide) rfl (fun ls hl => ?_)
  refine lv_iload_n hx hb dJ5_append_c97b9_5 rfl (lv_at hl 0 rfl) ?_
  refine lv_iload_n hx hb dJ5_append_c97b9_6 rfl (lv_at hl 2 rfl) ?_
  obtain ⟨r_1, hc, hf⟩ := bd1_of hf
  refine k_S (As := [.int a1]) (rest := [.int (v0.2.1 2)]) (ws1 := (kSB G o0 bb v0)) ⟨hx, hb, hml, hown, hts⟩ (c_J6_stringSize_0f7a4 l D G  a1  _ hc  _) (va_cwS 1 hts gJ5_append_c97b9_J6_stringSize_0f7a4 rfl rfl rfl (by decide +kernel) ⟨Nat.le_of_ble_eq_true rfl, Nat.le_of_ble_eq_true rfl⟩) hl.1 (Nat.le_of_ble_eq_true rfl) dJ5_append_c97b9_7 ⟨by show _ ≤ 1; omega, by show _ ≤ 80; omega⟩ rfl kT_bl (fun _ _ _ => trivial) hN hK hP hD hS hA [] [0, 1] [0, 1] [0, 1, 2, 3] rfl rfl rfl ⟨by decide, by decide, by decide, by decide⟩ rfl (fun H locs hP hD hS => ?_)
  refine lv_iadd hx hb dJ5_append_c97b9_10 ?_
  refine lv_istore_n (lv' := [(3, .int ((v0.2.1 2) + r_1)), (2, .int (v0.2.1 2)), (0, .ref o0), (1, .int a1)]) hx hb dJ5_append_c97b9_11 rfl hl (by decide) rfl (fun ls hl => ?_)
  refine lv_aload_n hx hb dJ5_append_c97b9_12 rfl (lv_at hl 2 rfl) ?_
  refine lv_iload_n hx hb dJ5_append_c97b9_13 rfl (lv_at hl 0 rfl) ?_
  obtain ⟨w_2, hc, hf⟩ := bd1_of hf
  refine k_UE (As := [.int ((v0.2.1 2) + r_1)]) (rest := []) (ws1 := fun bb => (kSB G o0 bb w_2)) ⟨hx, hb, hml, hown, hts⟩ (c_J5_ensureCapacityInternal_d00df l D G X o0 bb ((v0.2.1 2) + r_1) v0 _ hc  _) (va_cwU 1 hts gJ5_append_c97b9_J5_ensureCapacityInternal_d00df_u100J4 rfl rfl rfl (by decide +kernel) (by decide +kernel) ⟨Nat.le_of_ble_eq_true rfl, Nat.le_of_ble_eq_true rfl⟩) hl.1 (Nat.le_of_ble_eq_true rfl) dJ5_append_c97b9_14 ⟨by show _ ≤ 1; omega, by show _ ≤ 80; omega⟩ rfl (kW_bl X) (kW_pass hJ hS (va_free (wc := (kSB G o0 bb v0)) hD hS hA [0, 1] rfl)) hN hK hP hD hS hA 0 0 rfl rfl rfl [0, 1] [] [0, 1] [0, 1, 2, 3] rfl rfl rfl ⟨by decide, by decide, by decide, by decide⟩ (fun _ => rfl) (fun bb H locs hP hD hS => ?_)
  refine W.widen (k := 1) (n := 80) (by omega) (by omega) ?_
  refine lv_aload_n hx hb dJ5_append_c97b9_17 rfl (lv_at hl 2 rfl) ?_
  obtain ⟨r_3, hc, hf⟩ := bd1_of hf
  refine k_U0 (As := []) (rest := []) (wd1 := (kSB G o0 bb w_2)) ⟨hx, hb, hml, hown, hts⟩ (c_J5_isLatin1_aae02 l D G X o0 bb  w_2 _ hc  _) (va_cwU 0 hts gJ5_append_c97b9_J5_isLatin1_aae02_u83J4 rfl rfl rfl (by decide +kernel) (by decide +kernel) ⟨Nat.le_of_ble_eq_true rfl, Nat.le_of_ble_eq_true rfl⟩) hl.1 (Nat.le_of_ble_eq_true rfl) dJ5_append_c97b9_18 ⟨by show _ ≤ 1; omega, by show _ ≤ 80; omega⟩ rfl (kW_bl X) (kW_pass hJ hS (va_free (wc := (kSB G o0 bb w_2)) hD hS hA [0, 1] rfl)) hN hK hP hD hS hA 0 0 rfl rfl rfl [0, 1] [] [0, 1] [0, 1, 2, 3] rfl rfl rfl ⟨by decide, by decide, by decide, by decide⟩ rfl (fun H locs hP hD hS => ?_)
  refine lv_if_eq (tgt := 37) hx hb dJ5_append_c97b9_21 (by decide) (fun cc => ?_) (fun cc => ?_)
  · replace hf := ifT cc hf
    cases hf
  · replace hf := ifF cc hf
    refine lv_iload_n hx hb dJ5_append_c97b9_24 rfl (lv_at hl 3 rfl) ?_
    refine lv_iload_n hx hb dJ5_append_c97b9_25 rfl (lv_at hl 0 rfl) ?_
    refine lv_aload_n hx hb dJ5_append_c97b9_26 rfl (lv_at hl 2 rfl) ?_
    refine va_get (D := D) (ci := 0) (v := .ref bb) (C := RJ4) (T := TJ4) (N := 4) hx hb hts hi0 hown hK hP 0 rfl rfl 0 (by decide) hw2 (fun _ h9 => h9) rfl dJ5_append_c97b9_27 ?_
    obtain ⟨r_4, w_5, hc, hf⟩ := bd2_of hf
    refine k_S (As := [.int a1, .int ((v0.2.1 2) + r_1), .ref bb]) (rest := []) (ws1 := (kSB G o0 bb (pBR w_2 w_5))) ⟨hx, hb, hml, hown, hts⟩ (c_J6_getChars_ba4f3 l D G X bb w_2.1 a1 ((v0.2.1 2) + r_1) (w_2.2.2 0) _ _ hc  _) (va_cwS 3 hts gJ5_append_c97b9_J6_getChars_ba4f3 rfl rfl rfl (by decide +kernel) ⟨Nat.le_of_ble_eq_true rfl, Nat.le_of_ble_eq_true rfl⟩) hl.1 (Nat.le_of_ble_eq_true rfl) dJ5_append_c97b9_30 ⟨by show _ ≤ 1; omega, by show _ ≤ 80; omega⟩ rfl (kW_bl X) (kW_pass hJ hS (va_free (wc := (kArB G bb w_2.1 (w_2.2.2 0))) hD hS hA [1] rfl)) hN hK hP hD hS hA [1] [0] [0, 1] [0, 1, 2, 3] rfl rfl rfl ⟨by decide, by decide, by decide, by decide⟩ rfl (fun H locs hP hD hS => ?_)
    obtain ⟨v_6, ev_6, hf⟩ := nm_of hf
    have hP : va_P D vwCl (kSB G o0 bb v_6) H := by rw [ev_6]; exact hP
    have hD : va_D A (kSB G o0 bb v_6) := by rw [ev_6]; exact hD
    refine lv_pop hx hb dJ5_append_c97b9_33 rfl ?_
    refine lv_goto (tgt := 48) hx hb dJ5_append_c97b9_34 (by decide) ?_
    refine lv_aload_n hx hb dJ5_append_c97b9_48 rfl (lv_at hl 2 rfl) ?_
    refine lv_iload_n hx hb dJ5_append_c97b9_49 rfl (lv_at hl 0 rfl) ?_
    obtain ⟨v_7, ev_7, hf⟩ := nm_of hf
    refine va_put (D := D) (ci := 0) (v := .int ((v0.2.1 2) + r_1)) (ty := .int) (C := RJ4) (T := TJ4) (N := 4) hx hb hts hi0 tyJ4 tyJ4_ok nmJ4 hown hK hP hD hS 0 rfl rfl 3 (by decide) hw1 (fun _ h9 => h9) rfl (by decide +kernel) rfl rfl (Nat.le_of_ble_eq_true rfl) dJ5_append_c97b9_50 (fun H locs hP hD hS => ?_)
    have hP : va_P D vwCl (kSB G o0 bb v_7) H := by rw [ev_7]; exact hP
    have hD : va_D A (kSB G o0 bb v_7) := by rw [ev_7]; exact hD
    refine lv_aload_n hx hb dJ5_append_c97b9_53 rfl (lv_at hl 2 rfl) ?_
    obtain rfl := re1 hf
    refine W.widen (k := 1) (n := 80) (by omega) (by omega) ?_
    exact hEr bb rfl rfl (.inl ⟨_, rfl⟩) (.inr ⟨_, rfl⟩) hP hD hS dJ5_append_c97b9_54
def f_J4_append_bf812 (a1 : Int32) (v0 : (Nat × SV)) : Option (Nat × SV) :=
  bd1 (f_J5_append_c97b9 a1 v0) fun w_1 =>
  some w_1
abbrev rm_J4_append_bf812 : Room := { frames := 5, cells := 1, slots := 80, locals := 107 }
set_option maxHeartbeats 4000000 in
set_option maxRecDepth 100000 in
theorem c_J4_append_bf812 (l : Launch) (D : va_G) (G : Nat → ClassId) (X : Nat → Nat → Nat) (o0 : Nat) (bb : Nat) (a1 : Int32) (v0 : (Nat × SV)) (v0' : (Nat × SV)) (hf : f_J4_append_bf812 a1 v0 = some v0') (sz : Nat) : mCE l yJ4_append_bf812 wsJ4_append_bf812 rm_J4_append_bf812 D (tyG G) (kW X) [.ref o0, .int a1] (kSB G o0 bb v0) (fun bb => (kSB G o0 bb v0')) sz (fun _ => (some (.ref o0))) 1 80 := by
  refine mCE_of (cc := cJ4_append_bf812) (maxL := 2) (ret := (some (.object "java/lang/StringBuilder"))) (by decide) rfl (Nat.le_of_ble_eq_true rfl) ?_
  intro p e s m args below meth c Q0 hx hb hml hts hown hN hK A hD hA hEr hEv hEi hP hS hJ ls hl
  have hl : lv_has ls 2 [(0, .ref o0), (1, .int a1)] := hl
  unfold f_J4_append_bf812 at hf
  obtain ⟨⟨⟨hX1, hX2, hX3, hX4, hX5, hX6, hX7, hX8, hX9, hX10, hX11, hX12⟩, hX13⟩, hX14, hX15, hX16, hX17⟩ := id hJ
  refine lv_aload_n hx hb dJ4_append_bf812_0 rfl (lv_at hl 0 rfl) ?_
  refine lv_iload_n hx hb dJ4_append_bf812_1 rfl (lv_at hl 1 rfl) ?_
  obtain ⟨w_1, hc, hf⟩ := bd1_of hf
  refine k_PE (As := [.int a1]) (rest := []) (ws1 := fun bb => (kSB G o0 bb w_1)) (hK.1 0 _ rfl).2 ⟨hx, hb, hml, hown, hts⟩ (c_J5_append_c97b9 l D G X o0 bb a1 v0 _ hc  _) (va_cwSU 1 hts gJ4_append_bf812_J5_append_c97b9_s53 rfl rfl rfl (by decide +kernel) ⟨Nat.le_of_ble_eq_true rfl, Nat.le_of_ble_eq_true rfl⟩) hl.1 (Nat.le_of_ble_eq_true rfl) dJ4_append_bf812_2 ⟨by show _ ≤ 1; omega, by show _ ≤ 80; omega⟩ rfl (kW_bl X) (kW_pass hJ hS (va_free (wc := (kSB G o0 bb v0)) hD hS hA [0, 1] rfl)) hN hK hP hD hS hA 0 0 rfl rfl rfl [0, 1] [] [0, 1] [0, 1, 2, 3] rfl rfl rfl ⟨by decide, by decide, by decide, by decide⟩ (fun _ => rfl) (fun bb H locs hP hD hS => ?_)
  refine W.widen (k := 1) (n := 80) (by omega) (by omega) ?_
  refine lv_pop hx hb dJ4_append_bf812_5 rfl ?_
  refine lv_aload_n hx hb dJ4_append_bf812_6 rfl (lv_at hl 0 rfl) ?_
  obtain rfl := re1 hf
  refine W.widen (k := 1) (n := 80) (by omega) (by omega) ?_
  exact hEr bb rfl rfl (.inl ⟨_, rfl⟩) (.inr ⟨_, rfl⟩) hP hD hS dJ4_append_bf812_7
def f_J5_setLength_d00df_J13 (a1 : Int32) (v0 : (Nat × SV)) : Option (Nat × SV) :=
  bd1 (f_J5_ensureCapacityInternal_d00df a1 v0) fun w_2 =>
  if a1 ≤ (w_2.2.1 2) then
    if (w_2.2.1 2) ≤ a1 then
      nm (pBF w_2 2 a1) fun v_3 =>
      some v_3
    else
      nm (pBF w_2 1 1) fun v_4 =>
      nm (pBF v_4 2 a1) fun v_5 =>
      some v_5
  else
    none
def f_J5_setLength_d00df (a1 : Int32) (v0 : (Nat × SV)) : Option (Nat × SV) :=
  if 0 ≤ a1 then
    f_J5_setLength_d00df_J13 a1 v0 
  else
    none
abbrev rm_J5_setLength_d00df : Room := { frames := 4, cells := 1, slots := 80, locals := 84 }
set_option maxHeartbeats 4000000 in
set_option maxRecDepth 100000 in
theorem c_J5_setLength_d00df (l : Launch) (D : va_G) (G : Nat → ClassId) (X : Nat → Nat → Nat) (o0 : Nat) (bb : Nat) (a1 : Int32) (v0 : (Nat × SV)) (v0' : (Nat × SV)) (hf : f_J5_setLength_d00df a1 v0 = some v0') (sz : Nat) : mCE l yJ5_setLength_d00df wsJ5_setLength_d00df rm_J5_setLength_d00df D (tyG G) (kW X) [.ref o0, .int a1] (kSB G o0 bb v0) (fun bb => (kSB G o0 bb v0')) sz (fun _ => none) 1 80 := by
  refine mCE_of (cc := cJ5_setLength_d00df) (maxL := 2) (ret := none) (by decide) rfl (Nat.le_of_ble_eq_true rfl) ?_
  intro p e s m args below meth c Q0 hx hb hml hts hown hN hK A hD hA hEr hEv hEi hP hS hJ ls hl
  have hl : lv_has ls 2 [(0, .ref o0), (1, .int a1)] := hl
  unfold f_J5_setLength_d00df at hf
  obtain ⟨⟨⟨hX1, hX2, hX3, hX4, hX5, hX6, hX7, hX8, hX9, hX10, hX11, hX12⟩, hX13⟩, hX14, hX15, hX16, hX17⟩ := id hJ
  have hi0 : ∀ w ∈ u_ws RJ4 TJ4 4, w ∈ wsJ5_setLength_d00df := by decide +kernel
  have hw1 := hts (.fieldLink RJ5 79 "java/lang/AbstractStringBuilder" "count" "I") (by decide +kernel)
  have hw2 := hts (.fieldLink RJ5 73 "java/lang/AbstractStringBuilder" "maybeLatin1" "Z") (by decide +kernel)
  refine lv_iload_n hx hb dJ5_setLength_d00df_0 rfl (lv_at hl 1 rfl) ?_
  have jnJ_1 : ∀ (bb : Nat) (H : Heap) (locs : List Loc) (ls : Array Slot), lv_has ls 2 [(0, .ref o0), (1, .int a1)] → va_P D vwCl (kSB G o0 bb v0) H → va_D A (kSB G o0 bb v0) → va_S A s.heap H locs → f_J5_setLength_d00df_J13 a1 v0  = some v0' → W p l e rm_J5_setLength_d00df s m args below meth c H locs 0 0 Q0 (F0 m 13 ls []) := by
    intro bb  H locs ls hl hP hD hS hf
    unfold f_J5_setLength_d00df_J13 at hf
    refine lv_aload_n hx hb dJ5_setLength_d00df_13 rfl (lv_at hl 0 rfl) ?_
    refine lv_iload_n hx hb dJ5_setLength_d00df_14 rfl (lv_at hl 1 rfl) ?_
    obtain ⟨w_2, hc, hf⟩ := bd1_of hf
    refine k_UE (As := [.int a1]) (rest := []) (ws1 := fun bb => (kSB G o0 bb w_2)) ⟨hx, hb, hml, hown, hts⟩ (c_J5_ensureCapacityInternal_d00df l D G X o0 bb a1 v0 _ hc  _) (va_cwU 1 hts gJ5_setLength_d00df_J5_ensureCapacityInternal_d00df_u100J4 rfl rfl rfl (by decide +kernel) (by decide +kernel) ⟨Nat.le_of_ble_eq_true rfl, Nat.le_of_ble_eq_true rfl⟩) hl.1 (Nat.le_of_ble_eq_true rfl) dJ5_setLength_d00df_15 ⟨by show _ ≤ 1; omega, by show _ ≤ 80; omega⟩ rfl (kW_bl X) (kW_pass hJ hS (va_free (wc := (kSB G o0 bb v0)) hD hS hA [0, 1] rfl)) hN hK hP hD hS hA 0 0 rfl rfl rfl [0, 1] [] [0, 1] [0, 1, 2, 3] rfl rfl rfl ⟨by decide, by decide, by decide, by decide⟩ (fun _ => rfl) (fun bb H locs hP hD hS => ?_)
    refine W.widen (k := 1) (n := 80) (by omega) (by omega) ?_
    refine lv_aload_n hx hb dJ5_setLength_d00df_18 rfl (lv_at hl 0 rfl) ?_
    refine va_get (D := D) (ci := 0) (v := .int (w_2.2.1 2)) (C := RJ4) (T := TJ4) (N := 4) hx hb hts hi0 hown hK hP 0 rfl rfl 3 (by decide) hw1 (fun _ h9 => h9) rfl dJ5_setLength_d00df_19 ?_
    refine lv_iload_n hx hb dJ5_setLength_d00df_22 rfl (lv_at hl 1 rfl) ?_
    refine lv_icmp_ge (tgt := 63) hx hb dJ5_setLength_d00df_23 (by decide) (fun cc => ?_) (fun cc => ?_)
    · replace hf := ifT cc hf
      refine lv_aload_n hx hb dJ5_setLength_d00df_63 rfl (lv_at hl 0 rfl) ?_
      refine va_get (D := D) (ci := 0) (v := .int (w_2.2.1 2)) (C := RJ4) (T := TJ4) (N := 4) hx hb hts hi0 hown hK hP 0 rfl rfl 3 (by decide) hw1 (fun _ h9 => h9) rfl dJ5_setLength_d00df_64 ?_
      refine lv_iload_n hx hb dJ5_setLength_d00df_67 rfl (lv_at hl 1 rfl) ?_
      refine lv_icmp_le (tgt := 76) hx hb dJ5_setLength_d00df_68 (by decide) (fun cc => ?_) (fun cc => ?_)
      · replace hf := ifT cc hf
        refine lv_aload_n hx hb dJ5_setLength_d00df_76 rfl (lv_at hl 0 rfl) ?_
        refine lv_iload_n hx hb dJ5_setLength_d00df_77 rfl (lv_at hl 1 rfl) ?_
        obtain ⟨v_3, ev_3, hf⟩ := nm_of hf
        refine va_put (D := D) (ci := 0) (v := .int a1) (ty := .int) (C := RJ4) (T := TJ4) (N := 4) hx hb hts hi0 tyJ4 tyJ4_ok nmJ4 hown hK hP hD hS 0 rfl rfl 3 (by decide) hw1 (fun _ h9 => h9) rfl (by decide +kernel) rfl rfl (Nat.le_of_ble_eq_true rfl) dJ5_setLength_d00df_78 (fun H locs hP hD hS => ?_)
        have hP : va_P D vwCl (kSB G o0 bb v_3) H := by rw [ev_3]; exact hP
        have hD : va_D A (kSB G o0 bb v_3) := by rw [ev_3]; exact hD
        obtain rfl := re1 hf
        refine W.widen (k := 1) (n := 80) (by omega) (by omega) ?_
        exact hEv bb rfl rfl hP hD hS dJ5_setLength_d00df_81
      · replace hf := ifF cc hf
        refine lv_aload_n hx hb dJ5_setLength_d00df_71 rfl (lv_at hl 0 rfl) ?_
        refine lv_iconst (v := 1) hx hb dJ5_setLength_d00df_72 (by decide) ?_
        obtain ⟨v_4, ev_4, hf⟩ := nm_of hf
        refine va_put (D := D) (ci := 0) (v := .int 1) (ty := .boolean) (C := RJ4) (T := TJ4) (N := 4) hx hb hts hi0 tyJ4 tyJ4_ok nmJ4 hown hK hP hD hS 0 rfl rfl 2 (by decide) hw2 (fun _ h9 => h9) rfl (by decide +kernel) (by decide +kernel) (by decide +kernel) (Nat.le_of_ble_eq_true rfl) dJ5_setLength_d00df_73 (fun H locs hP hD hS => ?_)
        have hP : va_P D vwCl (kSB G o0 bb v_4) H := by rw [ev_4]; exact hP
        have hD : va_D A (kSB G o0 bb v_4) := by rw [ev_4]; exact hD
        refine lv_aload_n hx hb dJ5_setLength_d00df_76 rfl (lv_at hl 0 rfl) ?_
        refine lv_iload_n hx hb dJ5_setLength_d00df_77 rfl (lv_at hl 1 rfl) ?_
        obtain ⟨v_5, ev_5, hf⟩ := nm_of hf
        refine va_put (D := D) (ci := 0) (v := .int a1) (ty := .int) (C := RJ4) (T := TJ4) (N := 4) hx hb hts hi0 tyJ4 tyJ4_ok nmJ4 hown hK hP hD hS 0 rfl rfl 3 (by decide) hw1 (fun _ h9 => h9) rfl (by decide +kernel) rfl rfl (Nat.le_of_ble_eq_true rfl) dJ5_setLength_d00df_78 (fun H locs hP hD hS => ?_)
        have hP : va_P D vwCl (kSB G o0 bb v_5) H := by rw [ev_5]; exact hP
        have hD : va_D A (kSB G o0 bb v_5) := by rw [ev_5]; exact hD
        obtain rfl := re1 hf
        refine W.widen (k := 1) (n := 80) (by omega) (by omega) ?_
        exact hEv bb rfl rfl hP hD hS dJ5_setLength_d00df_81
    · replace hf := ifF cc hf
      cases hf
  refine lv_if_ge (tgt := 13) hx hb dJ5_setLength_d00df_1 (by decide) (fun cc => ?_) (fun cc => ?_)
  · replace hf := ifT cc hf
    refine W.widen (k := 0) (n := 0) (by omega) (by omega) ?_
    exact jnJ_1 bb  _ _ _ (lv_sub hl [0, 1] rfl) hP hD hS hf
  · replace hf := ifF cc hf
    cases hf
def f_J4_setLength_d00df (a1 : Int32) (v0 : (Nat × SV)) : Option (Nat × SV) :=
  bd1 (f_J5_setLength_d00df a1 v0) fun w_1 =>
  some w_1
abbrev rm_J4_setLength_d00df : Room := { frames := 5, cells := 1, slots := 80, locals := 105 }
set_option maxHeartbeats 4000000 in
set_option maxRecDepth 100000 in
theorem c_J4_setLength_d00df (l : Launch) (D : va_G) (G : Nat → ClassId) (X : Nat → Nat → Nat) (o0 : Nat) (bb : Nat) (a1 : Int32) (v0 : (Nat × SV)) (v0' : (Nat × SV)) (hf : f_J4_setLength_d00df a1 v0 = some v0') (sz : Nat) : mCE l yJ4_setLength_d00df wsJ4_setLength_d00df rm_J4_setLength_d00df D (tyG G) (kW X) [.ref o0, .int a1] (kSB G o0 bb v0) (fun bb => (kSB G o0 bb v0')) sz (fun _ => none) 1 80 := by
  refine mCE_of (cc := cJ4_setLength_d00df) (maxL := 2) (ret := none) (by decide) rfl (Nat.le_of_ble_eq_true rfl) ?_
  intro p e s m args below meth c Q0 hx hb hml hts hown hN hK A hD hA hEr hEv hEi hP hS hJ ls hl
  have hl : lv_has ls 2 [(0, .ref o0), (1, .int a1)] := hl
  unfold f_J4_setLength_d00df at hf
  obtain ⟨⟨⟨hX1, hX2, hX3, hX4, hX5, hX6, hX7, hX8, hX9, hX10, hX11, hX12⟩, hX13⟩, hX14, hX15, hX16, hX17⟩ := id hJ
  refine lv_aload_n hx hb dJ4_setLength_d00df_0 rfl (lv_at hl 0 rfl) ?_
  refine lv_iload_n hx hb dJ4_setLength_d00df_1 rfl (lv_at hl 1 rfl) ?_
  obtain ⟨w_1, hc, hf⟩ := bd1_of hf
  refine k_PE (As := [.int a1]) (rest := []) (ws1 := fun bb => (kSB G o0 bb w_1)) (hK.1 0 _ rfl).2 ⟨hx, hb, hml, hown, hts⟩ (c_J5_setLength_d00df l D G X o0 bb a1 v0 _ hc  _) (va_cwSU 1 hts gJ4_setLength_d00df_J5_setLength_d00df_s333 rfl rfl rfl (by decide +kernel) ⟨Nat.le_of_ble_eq_true rfl, Nat.le_of_ble_eq_true rfl⟩) hl.1 (Nat.le_of_ble_eq_true rfl) dJ4_setLength_d00df_2 ⟨by show _ ≤ 1; omega, by show _ ≤ 80; omega⟩ rfl (kW_bl X) (kW_pass hJ hS (va_free (wc := (kSB G o0 bb v0)) hD hS hA [0, 1] rfl)) hN hK hP hD hS hA 0 0 rfl rfl rfl [0, 1] [] [0, 1] [0, 1, 2, 3] rfl rfl rfl ⟨by decide, by decide, by decide, by decide⟩ (fun _ => rfl) (fun bb H locs hP hD hS => ?_)
  refine W.widen (k := 1) (n := 80) (by omega) (by omega) ?_
  obtain rfl := re1 hf
  refine W.widen (k := 1) (n := 80) (by omega) (by omega) ?_
  exact hEv bb rfl rfl hP hD hS dJ4_setLength_d00df_5
