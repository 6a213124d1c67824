/-! Walks, laid by wip/whole/gen.py: for each method f_ (what it does to its world) and c_ (its contract). -/
def f_J5_isLatin1_aae02 (v0 : (Nat × SV)) : Option Int32 :=
  if (v0.2.1 0) = 0 then
    some 1
  else
    some 0
abbrev rm_J5_isLatin1_aae02 : Room := { frames := 0, cells := 0, slots := 0, locals := 0 }
set_option maxHeartbeats 4000000 in
set_option maxRecDepth 100000 in
theorem c_J5_isLatin1_aae02 (l : Launch) (D : va_G) (G : Nat → ClassId) (X : Nat → Nat → Nat) (o0 : Nat) (bb : Nat) (v0 : (Nat × SV)) (r : Int32) (hf : f_J5_isLatin1_aae02 v0 = some r) (sz : Nat) : mC l yJ5_isLatin1_aae02 wsJ5_isLatin1_aae02 rm_J5_isLatin1_aae02 D (tyG G) (kW X) [.ref o0] (kSB G o0 bb v0) (kSB G o0 bb v0) sz (some (.int r)) 0 0 := by
  refine mC_ofZ (cc := cJ5_isLatin1_aae02) (maxL := 1) (ret := (some .boolean)) (by decide) rfl rfl (Nat.le_of_ble_eq_true rfl) ?_
  intro p e s m args below meth c Q0 hx hb hml hts hown hN hK A hD hA hE hP hS hJ ls hl
  have hl : lv_has ls 1 [(0, .ref o0)] := hl
  unfold f_J5_isLatin1_aae02 at hf
  obtain ⟨⟨⟨hX1, hX2, hX3, hX4, hX5, hX6, hX7, hX8, hX9, hX10, hX11, hX12⟩, hX13⟩, hX14, hX15, hX16, hX17⟩ := id hJ
  have hi0 : ∀ w ∈ u_ws RJ4 TJ4 4, w ∈ wsJ5_isLatin1_aae02 := by decide +kernel
  have hw1 := hts (.fieldLink RJ5 18 "java/lang/String" "COMPACT_STRINGS" "Z") (by decide +kernel)
  have hw2 := hts (.fieldLink RJ5 22 "java/lang/AbstractStringBuilder" "coder" "B") (by decide +kernel)
  refine va_gets (v := .int 1) hx hb hX11 hS hown hw1 (fun _ h9 => h9) dJ5_isLatin1_aae02_0 ?_
  refine lv_if_eq (tgt := 17) hx hb dJ5_isLatin1_aae02_3 (by decide) (fun cc => absurd cc (by decide)) (fun _ => ?_)
  refine lv_aload_n hx hb dJ5_isLatin1_aae02_6 rfl (lv_at hl 0 rfl) ?_
  refine va_get (D := D) (ci := 0) (v := .int (v0.2.1 0)) (C := RJ4) (T := TJ4) (N := 4) hx hb hts hi0 hown hK hP 0 rfl rfl 1 (by decide) hw2 (fun _ h9 => h9) rfl dJ5_isLatin1_aae02_7 ?_
  refine lv_if_ne (tgt := 17) hx hb dJ5_isLatin1_aae02_10 (by decide) (fun cc => ?_) (fun cc => ?_)
  · replace hf := ifF cc hf
    refine lv_iconst (v := 0) hx hb dJ5_isLatin1_aae02_17 (by decide) ?_
    obtain rfl := re1 hf
    exact hE (.inl rfl) hP hD hS dJ5_isLatin1_aae02_18
  · replace hf := ifT cc hf
    refine lv_iconst (v := 1) hx hb dJ5_isLatin1_aae02_13 (by decide) ?_
    refine lv_goto (tgt := 18) hx hb dJ5_isLatin1_aae02_14 (by decide) ?_
    obtain rfl := re1 hf
    exact hE (.inr rfl) hP hD hS dJ5_isLatin1_aae02_18
def f_J1_canEncode_fc78d (a0 : Int32) : Option Int32 :=
  if 255 < a0 then
    some 0
  else
    some 1
abbrev rm_J1_canEncode_fc78d : Room := { frames := 0, cells := 0, slots := 0, locals := 0 }
set_option maxHeartbeats 4000000 in
set_option maxRecDepth 100000 in
theorem c_J1_canEncode_fc78d (l : Launch) (D : va_G) (G : Nat → ClassId) (a0 : Int32) (r : Int32) (hf : f_J1_canEncode_fc78d a0 = some r) (sz : Nat) : mC l yJ1_canEncode_fc78d wsJ1_canEncode_fc78d rm_J1_canEncode_fc78d D (tyG G) kT [.int a0] ([] : va_W) ([] : va_W) sz (some (.int r)) 0 0 := by
  refine mC_ofZ (cc := cJ1_canEncode_fc78d) (maxL := 1) (ret := (some .boolean)) (by decide) rfl rfl (Nat.le_of_ble_eq_true rfl) ?_
  intro p e s m args below meth c Q0 hx hb hml hts hown hN hK A hD hA hE hP hS hJ ls hl
  have hl : lv_has ls 1 [(0, .int a0)] := hl
  unfold f_J1_canEncode_fc78d at hf
  refine lv_iload_n hx hb dJ1_canEncode_fc78d_0 rfl (lv_at hl 0 rfl) ?_
  refine lv_sipush (v := 255) hx hb dJ1_canEncode_fc78d_1 (by decide +kernel) ?_
  refine lv_icmp_gt (tgt := 11) hx hb dJ1_canEncode_fc78d_4 (by decide) (fun cc => ?_) (fun cc => ?_)
  · replace hf := ifT cc hf
    refine lv_iconst (v := 0) hx hb dJ1_canEncode_fc78d_11 (by decide) ?_
    obtain rfl := re1 hf
    exact hE (.inl rfl) hP hD hS dJ1_canEncode_fc78d_12
  · replace hf := ifF cc hf
    refine lv_iconst (v := 1) hx hb dJ1_canEncode_fc78d_7 (by decide) ?_
    refine lv_goto (tgt := 12) hx hb dJ1_canEncode_fc78d_8 (by decide) ?_
    obtain rfl := re1 hf
    exact hE (.inr rfl) hP hD hS dJ1_canEncode_fc78d_12
def f_J5_length_8abf5 (v0 : (Nat × SV)) : Option Int32 :=
  some (v0.2.1 2)
abbrev rm_J5_length_8abf5 : Room := { frames := 0, cells := 0, slots := 0, locals := 0 }
set_option maxHeartbeats 4000000 in
set_option maxRecDepth 100000 in
theorem c_J5_length_8abf5 (l : Launch) (D : va_G) (G : Nat → ClassId) (o0 : Nat) (bb : Nat) (v0 : (Nat × SV)) (r : Int32) (hf : f_J5_length_8abf5 v0 = some r) (sz : Nat) : mC l yJ5_length_8abf5 wsJ5_length_8abf5 rm_J5_length_8abf5 D (tyG G) kT [.ref o0] (kSB G o0 bb v0) (kSB G o0 bb v0) sz (some (.int r)) 0 0 := by
  refine mC_ofI (cc := cJ5_length_8abf5) (maxL := 1) (ret := (some .int)) (by decide) rfl rfl (Nat.le_of_ble_eq_true rfl) ?_
  intro p e s m args below meth c Q0 hx hb hml hts hown hN hK A hD hA hE hP hS hJ ls hl
  have hl : lv_has ls 1 [(0, .ref o0)] := hl
  unfold f_J5_length_8abf5 at hf
  have hi0 : ∀ w ∈ u_ws RJ4 TJ4 4, w ∈ wsJ5_length_8abf5 := by decide +kernel
  have hw1 := hts (.fieldLink RJ5 79 "java/lang/AbstractStringBuilder" "count" "I") (by decide +kernel)
  refine lv_aload_n hx hb dJ5_length_8abf5_0 rfl (lv_at hl 0 rfl) ?_
  refine va_get (D := D) (ci := 0) (v := .int (v0.2.1 2)) (C := RJ4) (T := TJ4) (N := 4) hx hb hts hi0 hown hK hP 0 rfl rfl 3 (by decide) hw1 (fun _ h9 => h9) rfl dJ5_length_8abf5_1 ?_
  obtain rfl := re1 hf
  exact hE hP hD hS dJ5_length_8abf5_4
def f_J4_length_8abf5 (v0 : (Nat × SV)) : Option Int32 :=
  bd1 (f_J5_length_8abf5 v0) fun r_1 =>
  some r_1
abbrev rm_J4_length_8abf5 : Room := { frames := 1, cells := 0, slots := 0, locals := 20 }
set_option maxHeartbeats 4000000 in
set_option maxRecDepth 100000 in
theorem c_J4_length_8abf5 (l : Launch) (D : va_G) (G : Nat → ClassId) (o0 : Nat) (bb : Nat) (v0 : (Nat × SV)) (r : Int32) (hf : f_J4_length_8abf5 v0 = some r) (sz : Nat) : mC l yJ4_length_8abf5 wsJ4_length_8abf5 rm_J4_length_8abf5 D (tyG G) kT [.ref o0] (kSB G o0 bb v0) (kSB G o0 bb v0) sz (some (.int r)) 0 0 := by
  refine mC_ofI (cc := cJ4_length_8abf5) (maxL := 1) (ret := (some .int)) (by decide) rfl rfl (Nat.le_of_ble_eq_true rfl) ?_
  intro p e s m args below meth c Q0 hx hb hml hts hown hN hK A hD hA hE hP hS hJ ls hl
  have hl : lv_has ls 1 [(0, .ref o0)] := hl
  unfold f_J4_length_8abf5 at hf
  refine lv_aload_n hx hb dJ4_length_8abf5_0 rfl (lv_at hl 0 rfl) ?_
  obtain ⟨r_1, hc, hf⟩ := bd1_of hf
  refine k_P0 (As := []) (rest := []) (wd1 := (kSB G o0 bb v0)) (hK.1 0 _ rfl).2 ⟨hx, hb, hml, hown, hts⟩ (c_J5_length_8abf5 l D G o0 bb  v0 _ hc  _) (va_cwSU 0 hts gJ4_length_8abf5_J5_length_8abf5_s343 rfl rfl rfl (by decide +kernel) ⟨Nat.le_of_ble_eq_true rfl, Nat.le_of_ble_eq_true rfl⟩) hl.1 (Nat.le_of_ble_eq_true rfl) dJ4_length_8abf5_1 ⟨Nat.le_of_ble_eq_true rfl, Nat.le_of_ble_eq_true rfl⟩ rfl kT_bl (fun _ _ _ => trivial) hN hK hP hD hS hA 0 0 rfl rfl rfl [0, 1] [] [0, 1] [0, 1, 2, 3] rfl rfl rfl ⟨by decide, by decide, by decide, by decide⟩ rfl (fun H locs hP hD hS => ?_)
  obtain rfl := re1 hf
  exact hE hP hD hS dJ4_length_8abf5_4
def f_J5_charAt_5068e (a1 : Int32) (v0 : (Nat × SV)) : Option Int32 :=
  nm (if ((Int32.ofNat v0.1) >>> ((v0.2.1 0) &&& 31)) < (v0.2.1 2) then ((Int32.ofNat v0.1) >>> ((v0.2.1 0) &&& 31)) else (v0.2.1 2)) fun t_1 =>
  bd1 (f_J0_checkIndex_df160 a1 t_1) fun _ =>
  if (v0.2.1 0) = 0 then
    ckI a1 v0.1 <|
    ckC ((((v0.2.2 0 a1.toNatClampNeg) &&& 255).toUInt32 % 65536).toInt32) <|
    some ((((v0.2.2 0 a1.toNatClampNeg) &&& 255).toUInt32 % 65536).toInt32)
  else
    none
abbrev rm_J5_charAt_5068e : Room := { frames := 2, cells := 0, slots := 0, locals := 43 }
set_option maxHeartbeats 4000000 in
set_option maxRecDepth 100000 in
theorem c_J5_charAt_5068e (l : Launch) (D : va_G) (G : Nat → ClassId) (X : Nat → Nat → Nat) (o0 : Nat) (bb : Nat) (a1 : Int32) (v0 : (Nat × SV)) (r : Int32) (hf : f_J5_charAt_5068e a1 v0 = some r) (sz : Nat) : mC l yJ5_charAt_5068e wsJ5_charAt_5068e rm_J5_charAt_5068e D (tyG G) (kW X) [.ref o0, .int a1] (kSB G o0 bb v0) (kSB G o0 bb v0) sz (some (.int r)) 0 0 := by
  refine mC_ofN (cc := cJ5_charAt_5068e) (maxL := 5) (ret := (some .char)) (by decide) rfl rfl (Nat.le_of_ble_eq_true rfl) ?_
  intro p e s m args below meth c Q0 hx hb hml hts hown hN hK A hD hA hE hP hS hJ ls hl
  have hl : lv_has ls 5 [(0, .ref o0), (1, .int a1)] := hl
  unfold f_J5_charAt_5068e at hf
  obtain ⟨⟨⟨hX1, hX2, hX3, hX4, hX5, hX6, hX7, hX8, hX9, hX10, hX11, hX12⟩, hX13⟩, hX14, hX15, hX16, hX17⟩ := id hJ
  have hi0 : ∀ w ∈ u_ws RJ4 TJ4 4, w ∈ wsJ5_charAt_5068e := by decide +kernel
  have hw1 := hts (.fieldLink RJ5 22 "java/lang/AbstractStringBuilder" "coder" "B") (by decide +kernel)
  have hw2 := hts (.fieldLink RJ5 15 "java/lang/AbstractStringBuilder" "value" "[B") (by decide +kernel)
  have hw3 := hts (.fieldLink RJ5 79 "java/lang/AbstractStringBuilder" "count" "I") (by decide +kernel)
  have hw4 := hts (.methodLink RJ5 138 Lib.Math.min.name) (by decide +kernel)
  have hw5 := hts (.static Lib.Math.min.name) (by decide +kernel)
  have hw6 := hts (.initialized "java/lang/Math") (by decide +kernel)
  have hw7 := hts (.code Lib.Math.min.name Lib.Math.min.code 2 (some .int)) (by decide +kernel)
  refine lv_aload_n hx hb dJ5_charAt_5068e_0 rfl (lv_at hl 0 rfl) ?_
  refine va_get (D := D) (ci := 0) (v := .int (v0.2.1 0)) (C := RJ4) (T := TJ4) (N := 4) hx hb hts hi0 hown hK hP 0 rfl rfl 1 (by decide) hw1 (fun _ h9 => h9) rfl dJ5_charAt_5068e_1 ?_
  refine lv_istore_n (lv' := [(2, .int (v0.2.1 0)), (0, .ref o0), (1, .int a1)]) hx hb dJ5_charAt_5068e_4 rfl hl (by decide) rfl (fun ls hl => ?_)
  refine lv_aload_n hx hb dJ5_charAt_5068e_5 rfl (lv_at hl 1 rfl) ?_
  refine va_get (D := D) (ci := 0) (v := .ref bb) (C := RJ4) (T := TJ4) (N := 4) hx hb hts hi0 hown hK hP 0 rfl rfl 0 (by decide) hw2 (fun _ h9 => h9) rfl dJ5_charAt_5068e_6 ?_
  refine lv_astore_n (lv' := [(3, .ref bb), (2, .int (v0.2.1 0)), (0, .ref o0), (1, .int a1)]) hx hb dJ5_charAt_5068e_9 rfl hl (by decide) rfl (fun ls hl => ?_)
  refine lv_aload_n hx hb dJ5_charAt_5068e_10 rfl (lv_at hl 2 rfl) ?_
  refine va_get (D := D) (ci := 0) (v := .int (v0.2.1 2)) (C := RJ4) (T := TJ4) (N := 4) hx hb hts hi0 hown hK hP 0 rfl rfl 3 (by decide) hw3 (fun _ h9 => h9) rfl dJ5_charAt_5068e_11 ?_
  refine lv_aload_n hx hb dJ5_charAt_5068e_14 rfl (lv_at hl 0 rfl) ?_
  refine va_alen (D := D) (v := Int32.ofNat v0.1) hx hb hK hP 1 2 rfl rfl rfl dJ5_charAt_5068e_15 ?_
  refine lv_iload_n hx hb dJ5_charAt_5068e_16 rfl (lv_at hl 1 rfl) ?_
  refine lv_ishr hx hb dJ5_charAt_5068e_17 ?_
  refine va_mmin hx hb (hml.trans hl.1.symm) hown hw4 hw5 hw6 hw7 (Nat.le_of_ble_eq_true rfl) (Nat.le_of_ble_eq_true rfl) (Nat.zero_le _) (Nat.zero_le _) dJ5_charAt_5068e_18 ?_
  obtain ⟨t_1, et_1, hf⟩ := nm_of hf
  rw [← et_1]
  refine lv_istore (lv' := [(4, .int t_1), (3, .ref bb), (2, .int (v0.2.1 0)), (0, .ref o0), (1, .int a1)]) hx hb dJ5_charAt_5068e_21 hl (by decide) rfl (fun ls hl => ?_)
  refine lv_iload_n hx hb dJ5_charAt_5068e_23 rfl (lv_at hl 4 rfl) ?_
  refine lv_iload hx hb dJ5_charAt_5068e_24 (lv_at hl 0 rfl) ?_
  obtain ⟨_u, hc, hf⟩ := bd1_of hf
  refine k_S (As := [.int a1, .int t_1]) (rest := []) (ws1 := (kSB G o0 bb v0)) ⟨hx, hb, hml, hown, hts⟩ (c_J0_checkIndex_df160 l D G X  a1 t_1  _ hc  _) (va_cwS 2 hts gJ5_charAt_5068e_J0_checkIndex_df160 rfl rfl rfl (by decide +kernel) ⟨Nat.le_of_ble_eq_true rfl, Nat.le_of_ble_eq_true rfl⟩) hl.1 (Nat.le_of_ble_eq_true rfl) dJ5_charAt_5068e_26 ⟨Nat.le_of_ble_eq_true rfl, Nat.le_of_ble_eq_true rfl⟩ rfl (kY_bl X) (kY_pass hJ.1 hS (va_free (wc := ([] : va_W)) hD hS hA [] rfl)) hN hK hP hD hS hA [] [0, 1] [0, 1] [0, 1, 2, 3] rfl rfl rfl ⟨by decide, by decide, by decide, by decide⟩ rfl (fun H locs hP hD hS => ?_)
  refine lv_iload_n hx hb dJ5_charAt_5068e_29 rfl (lv_at hl 2 rfl) ?_
  refine lv_if_ne (tgt := 42) hx hb dJ5_charAt_5068e_30 (by decide) (fun cc => ?_) (fun cc => ?_)
  · replace hf := ifF cc hf
    cases hf
  · replace hf := ifT cc hf
    refine lv_aload_n hx hb dJ5_charAt_5068e_33 rfl (lv_at hl 1 rfl) ?_
    refine lv_iload_n hx hb dJ5_charAt_5068e_34 rfl (lv_at hl 4 rfl) ?_
    obtain ⟨hin, hf⟩ := ckI_of hf
    refine va_bald (D := D) hx hb hK hP 1 2 rfl rfl hin dJ5_charAt_5068e_35 ?_
    refine lv_sipush (v := 255) hx hb dJ5_charAt_5068e_36 (by decide +kernel) ?_
    refine lv_iand hx hb dJ5_charAt_5068e_39 ?_
    refine lv_i2c hx hb dJ5_charAt_5068e_40 rfl ?_
    obtain ⟨hch, hf⟩ := ckC_of hf
    obtain rfl := re1 hf
    exact hE (narC hch) hP hD hS dJ5_charAt_5068e_41
def f_J4_charAt_5068e (a1 : Int32) (v0 : (Nat × SV)) : Option Int32 :=
  bd1 (f_J5_charAt_5068e a1 v0) fun r_1 =>
  ckC r_1 <|
  some r_1
abbrev rm_J4_charAt_5068e : Room := { frames := 3, cells := 0, slots := 0, locals := 67 }
set_option maxHeartbeats 4000000 in
set_option maxRecDepth 100000 in
theorem c_J4_charAt_5068e (l : Launch) (D : va_G) (G : Nat → ClassId) (X : Nat → Nat → Nat) (o0 : Nat) (bb : Nat) (a1 : Int32) (v0 : (Nat × SV)) (r : Int32) (hf : f_J4_charAt_5068e a1 v0 = some r) (sz : Nat) : mC l yJ4_charAt_5068e wsJ4_charAt_5068e rm_J4_charAt_5068e D (tyG G) (kW X) [.ref o0, .int a1] (kSB G o0 bb v0) (kSB G o0 bb v0) sz (some (.int r)) 0 0 := by
  refine mC_ofN (cc := cJ4_charAt_5068e) (maxL := 2) (ret := (some .char)) (by decide) rfl rfl (Nat.le_of_ble_eq_true rfl) ?_
  intro p e s m args below meth c Q0 hx hb hml hts hown hN hK A hD hA hE hP hS hJ ls hl
  have hl : lv_has ls 2 [(0, .ref o0), (1, .int a1)] := hl
  unfold f_J4_charAt_5068e at hf
  obtain ⟨⟨⟨hX1, hX2, hX3, hX4, hX5, hX6, hX7, hX8, hX9, hX10, hX11, hX12⟩, hX13⟩, hX14, hX15, hX16, hX17⟩ := id hJ
  refine lv_aload_n hx hb dJ4_charAt_5068e_0 rfl (lv_at hl 0 rfl) ?_
  refine lv_iload_n hx hb dJ4_charAt_5068e_1 rfl (lv_at hl 1 rfl) ?_
  obtain ⟨r_1, hc, hf⟩ := bd1_of hf
  refine k_P0 (As := [.int a1]) (rest := []) (wd1 := (kSB G o0 bb v0)) (hK.1 0 _ rfl).2 ⟨hx, hb, hml, hown, hts⟩ (c_J5_charAt_5068e l D G X o0 bb a1 v0 _ hc  _) (va_cwSU 1 hts gJ4_charAt_5068e_J5_charAt_5068e_s329 rfl rfl rfl (by decide +kernel) ⟨Nat.le_of_ble_eq_true rfl, Nat.le_of_ble_eq_true rfl⟩) hl.1 (Nat.le_of_ble_eq_true rfl) dJ4_charAt_5068e_2 ⟨Nat.le_of_ble_eq_true rfl, Nat.le_of_ble_eq_true rfl⟩ rfl (kW_bl X) (kW_pass hJ hS (va_free (wc := (kSB G o0 bb v0)) hD hS hA [0, 1] rfl)) hN hK hP hD hS hA 0 0 rfl rfl rfl [0, 1] [] [0, 1] [0, 1, 2, 3] rfl rfl rfl ⟨by decide, by decide, by decide, by decide⟩ rfl (fun H locs hP hD hS => ?_)
  obtain ⟨hch, hf⟩ := ckC_of hf
  obtain rfl := re1 hf
  exact hE (narC hch) hP hD hS dJ4_charAt_5068e_5
def f_J6_stringSize_0f7a4_K16 (j_2 : Int32) (y_8 : Int32) (y_9 : Int32) : Option Int32 :=
  some (10 + j_2)
def f_J6_stringSize_0f7a4_B16 (j_2 : Int32) (j_3 : Int32) (selfL_7 : (Int32 → Int32 → Option Int32)) (x_5 : Int32) (x_6 : Int32) : Option Int32 :=
  if 10 ≤ x_5 then
    f_J6_stringSize_0f7a4_K16 j_2 x_5 x_6
  else
    if j_3 ≤ x_6 then
      selfL_7 (x_5 + 1) (10 * x_6)
    else
      some (x_5 + j_2)
def f_J6_stringSize_0f7a4_J11 (j_2 : Int32) (j_3 : Int32) : Option Int32 :=
  lz2 (f_J6_stringSize_0f7a4_B16 j_2 j_3) FU 1 (-10)
def f_J6_stringSize_0f7a4 (a0 : Int32) : Option Int32 :=
  if a0 < 0 then
    f_J6_stringSize_0f7a4_J11 1 a0
  else
    f_J6_stringSize_0f7a4_J11 0 (-a0)
abbrev rm_J6_stringSize_0f7a4 : Room := { frames := 0, cells := 0, slots := 0, locals := 0 }
set_option maxHeartbeats 4000000 in
set_option maxRecDepth 100000 in
theorem c_J6_stringSize_0f7a4 (l : Launch) (D : va_G) (G : Nat → ClassId) (a0 : Int32) (r : Int32) (hf : f_J6_stringSize_0f7a4 a0 = some r) (sz : Nat) : mC l yJ6_stringSize_0f7a4 wsJ6_stringSize_0f7a4 rm_J6_stringSize_0f7a4 D (tyG G) kT [.int a0] ([] : va_W) ([] : va_W) sz (some (.int r)) 0 0 := by
  refine mC_ofI (cc := cJ6_stringSize_0f7a4) (maxL := 4) (ret := (some .int)) (by decide) rfl rfl (Nat.le_of_ble_eq_true rfl) ?_
  intro p e s m args below meth c Q0 hx hb hml hts hown hN hK A hD hA hE hP hS hJ ls hl
  have hl : lv_has ls 4 [(0, .int a0)] := hl
  unfold f_J6_stringSize_0f7a4 at hf
  refine lv_iconst (v := 1) hx hb dJ6_stringSize_0f7a4_0 (by decide) ?_
  refine lv_istore_n (lv' := [(1, .int 1), (0, .int a0)]) hx hb dJ6_stringSize_0f7a4_1 rfl hl (by decide) rfl (fun ls hl => ?_)
  refine lv_iload_n hx hb dJ6_stringSize_0f7a4_2 rfl (lv_at hl 1 rfl) ?_
  have jnJ_1 : ∀ (j_2 : Int32) (j_3 : Int32) (H : Heap) (locs : List Loc) (ls : Array Slot), lv_has ls 4 [(1, .int j_2), (0, .int j_3)] → va_P D vwCl ([] : va_W) H → va_D A ([] : va_W) → va_S A s.heap H locs → f_J6_stringSize_0f7a4_J11 j_2 j_3 = some r → W p l e rm_J6_stringSize_0f7a4 s m args below meth c H locs 0 0 Q0 (F0 m 11 ls []) := by
    intro j_2 j_3 H locs ls hl hP hD hS hf
    unfold f_J6_stringSize_0f7a4_J11 at hf
    refine lv_bipush (v := (-10)) hx hb dJ6_stringSize_0f7a4_11 (by decide +kernel) ?_
    refine lv_istore_n (lv' := [(2, .int (-10)), (1, .int j_2), (0, .int j_3)]) hx hb dJ6_stringSize_0f7a4_13 rfl hl (by decide) rfl (fun ls hl => ?_)
    refine lv_iconst (v := 1) hx hb dJ6_stringSize_0f7a4_14 (by decide) ?_
    refine lv_istore_n (lv' := [(3, .int 1), (2, .int (-10)), (1, .int j_2), (0, .int j_3)]) hx hb dJ6_stringSize_0f7a4_15 rfl hl (by decide) rfl (fun ls hl => ?_)
    have exL_7 : ∀ (y_8 : Int32) (y_9 : Int32) (H : Heap) (locs : List Loc) (ls : Array Slot), lv_has ls 4 [(3, .int y_8), (2, .int y_9), (1, .int j_2), (0, .int j_3)] → va_P D vwCl ([] : va_W) H → va_D A ([] : va_W) → va_S A s.heap H locs → f_J6_stringSize_0f7a4_K16 j_2 y_8 y_9 = some r → W p l e rm_J6_stringSize_0f7a4 s m args below meth c H locs 0 0 Q0 (F0 m 42 ls []) := by
      intro y_8 y_9 H locs ls hl hP hD hS hf
      unfold f_J6_stringSize_0f7a4_K16 at hf
      refine lv_bipush (v := 10) hx hb dJ6_stringSize_0f7a4_42 (by decide +kernel) ?_
      refine lv_iload_n hx hb dJ6_stringSize_0f7a4_44 rfl (lv_at hl 2 rfl) ?_
      refine lv_iadd hx hb dJ6_stringSize_0f7a4_45 ?_
      obtain rfl := re1 hf
      exact hE hP hD hS dJ6_stringSize_0f7a4_46
    have loL_7 : ∀ (n : Nat) (x_5 : Int32) (x_6 : Int32) (H : Heap) (locs : List Loc) (ls : Array Slot), lv_has ls 4 [(3, .int x_5), (2, .int x_6), (1, .int j_2), (0, .int j_3)] → va_P D vwCl ([] : va_W) H → va_D A ([] : va_W) → va_S A s.heap H locs → lz2 (f_J6_stringSize_0f7a4_B16 j_2 j_3) n x_5 x_6 = some r → W p l e rm_J6_stringSize_0f7a4 s m args below meth c H locs 0 0 Q0 (F0 m 16 ls []) := by
      intro n
      induction n with
      | zero => intro x_5 x_6 H locs ls hl hP hD hS hf; cases hf
      | succ n ihL_7 =>
        intro x_5 x_6 H locs ls hl hP hD hS hf
        replace hf := lz2_s hf
        unfold f_J6_stringSize_0f7a4_B16 at hf
        refine lv_iload_n hx hb dJ6_stringSize_0f7a4_16 rfl (lv_at hl 0 rfl) ?_
        refine lv_bipush (v := 10) hx hb dJ6_stringSize_0f7a4_17 (by decide +kernel) ?_
        refine lv_icmp_ge (tgt := 42) hx hb dJ6_stringSize_0f7a4_19 (by decide) (fun cc => ?_) (fun cc => ?_)
        · replace hf := ifT cc hf
          exact exL_7 x_5 x_6 _ _ _ (lv_sub hl [0, 1, 2, 3] rfl) hP hD hS hf
        · replace hf := ifF cc hf
          refine lv_iload_n hx hb dJ6_stringSize_0f7a4_22 rfl (lv_at hl 3 rfl) ?_
          refine lv_iload_n hx hb dJ6_stringSize_0f7a4_23 rfl (lv_at hl 1 rfl) ?_
          refine lv_icmp_le (tgt := 31) hx hb dJ6_stringSize_0f7a4_24 (by decide) (fun cc => ?_) (fun cc => ?_)
          · replace hf := ifT cc hf
            refine lv_bipush (v := 10) hx hb dJ6_stringSize_0f7a4_31 (by decide +kernel) ?_
            refine lv_iload_n hx hb dJ6_stringSize_0f7a4_33 rfl (lv_at hl 1 rfl) ?_
            refine lv_imul hx hb dJ6_stringSize_0f7a4_34 ?_
            refine lv_istore_n (lv' := [(2, .int (10 * x_6)), (3, .int x_5), (1, .int j_2), (0, .int j_3)]) hx hb dJ6_stringSize_0f7a4_35 rfl hl (by decide) rfl (fun ls hl => ?_)
            refine lv_iinc (v := (x_5 + 1)) (lv' := [(3, .int (x_5 + 1)), (2, .int (10 * x_6)), (1, .int j_2), (0, .int j_3)]) hx hb dJ6_stringSize_0f7a4_36 hl (k := 1) rfl rfl (by decide) rfl (fun ls hl => ?_)
            refine lv_goto (tgt := 16) hx hb dJ6_stringSize_0f7a4_39 (by decide) ?_
            exact ihL_7 (x_5 + 1) (10 * x_6) _ _ _ (lv_sub hl [0, 1, 2, 3] rfl) hP hD hS hf
          · replace hf := ifF cc hf
            refine lv_iload_n hx hb dJ6_stringSize_0f7a4_27 rfl (lv_at hl 0 rfl) ?_
            refine lv_iload_n hx hb dJ6_stringSize_0f7a4_28 rfl (lv_at hl 2 rfl) ?_
            refine lv_iadd hx hb dJ6_stringSize_0f7a4_29 ?_
            obtain rfl := re1 hf
            exact hE hP hD hS dJ6_stringSize_0f7a4_30
    exact loL_7 FU 1 (-10) _ _ _ hl hP hD hS hf
  refine lv_if_lt (tgt := 11) hx hb dJ6_stringSize_0f7a4_3 (by decide) (fun cc => ?_) (fun cc => ?_)
  · replace hf := ifT cc hf
    exact jnJ_1 1 a0 _ _ _ (lv_sub hl [0, 1] rfl) hP hD hS hf
  · replace hf := ifF cc hf
    refine lv_iconst (v := 0) hx hb dJ6_stringSize_0f7a4_6 (by decide) ?_
    refine lv_istore_n (lv' := [(1, .int 0), (0, .int a0)]) hx hb dJ6_stringSize_0f7a4_7 rfl hl (by decide) rfl (fun ls hl => ?_)
    refine lv_iload_n hx hb dJ6_stringSize_0f7a4_8 rfl (lv_at hl 1 rfl) ?_
    refine lv_ineg hx hb dJ6_stringSize_0f7a4_9 ?_
    refine lv_istore_n (lv' := [(0, .int (-a0)), (1, .int 0)]) hx hb dJ6_stringSize_0f7a4_10 rfl hl (by decide) rfl (fun ls hl => ?_)
    exact jnJ_1 0 (-a0) _ _ _ (lv_sub hl [1, 0] rfl) hP hD hS hf
def f_J6_getChars_ba4f3_J72 (j_4 : Int32) (a1 : Int32) (n0 : Nat) (v0 : (Nat → Int32)) (j_2 : Int32) : Option (Int32 × (Nat → Int32)) :=
  ckI (-j_4) 100 <|
  ckI (a1 + (-1)) n0 <|
  nm (upd v0 (a1 + (-1)).toNatClampNeg (vp_nar .byte (dgO (-j_4).toNatClampNeg))) fun v_6 =>
  if (-9) ≤ j_4 then
    if j_2 = 0 then
      some ((a1 + (-1)), v_6)
    else
      none
  else
    ckI (-j_4) 100 <|
    ckI ((a1 + (-1)) + (-1)) n0 <|
    nm (upd v_6 ((a1 + (-1)) + (-1)).toNatClampNeg (vp_nar .byte (dgT (-j_4).toNatClampNeg))) fun v_7 =>
    if j_2 = 0 then
      some (((a1 + (-1)) + (-1)), v_7)
    else
      none
def f_J6_getChars_ba4f3_J22 (a1 : Int32) (n0 : Nat) (v0 : (Nat → Int32)) (j_2 : Int32) (j_4 : Int32) : Option (Int32 × (Nat → Int32)) :=
  if (-100) < j_4 then
    f_J6_getChars_ba4f3_J72 j_4 a1 n0 v0 j_2 
  else
    none
def f_J6_getChars_ba4f3_J12 (a1 : Int32) (n0 : Nat) (v0 : (Nat → Int32)) (a0 : Int32) (j_2 : Int32) : Option (Int32 × (Nat → Int32)) :=
  if j_2 = 0 then
    f_J6_getChars_ba4f3_J22 a1 n0 v0 j_2 (-a0)
  else
    f_J6_getChars_ba4f3_J22 a1 n0 v0 j_2 a0
def f_J6_getChars_ba4f3 (a0 : Int32) (a1 : Int32) (n0 : Nat) (v0 : Nat → Int32) : Option (Int32 × (Nat → Int32)) :=
  if 0 ≤ a0 then
    f_J6_getChars_ba4f3_J12 a1 n0 v0 a0 0
  else
    f_J6_getChars_ba4f3_J12 a1 n0 v0 a0 1
abbrev rm_J6_getChars_ba4f3 : Room := { frames := 0, cells := 0, slots := 0, locals := 0 }
set_option maxHeartbeats 4000000 in
set_option maxRecDepth 100000 in
theorem c_J6_getChars_ba4f3 (l : Launch) (D : va_G) (G : Nat → ClassId) (X : Nat → Nat → Nat) (b0 n0 : Nat) (a0 : Int32) (a1 : Int32) (v0 : Nat → Int32) (r : Int32) (v0' : (Nat → Int32)) (hf : f_J6_getChars_ba4f3 a0 a1 n0 v0 = some (r, v0')) (sz : Nat) : mC l yJ6_getChars_ba4f3 wsJ6_getChars_ba4f3 rm_J6_getChars_ba4f3 D (tyG G) (kW X) [.int a0, .int a1, .ref b0] (kArB G b0 n0 v0) (kArB G b0 n0 v0') sz (some (.int r)) 0 0 := by
  refine mC_ofI (cc := cJ6_getChars_ba4f3) (maxL := 7) (ret := (some .int)) (by decide) rfl rfl (Nat.le_of_ble_eq_true rfl) ?_
  intro p e s m args below meth c Q0 hx hb hml hts hown hN hK A hD hA hE hP hS hJ ls hl
  have hl : lv_has ls 7 [(0, .int a0), (1, .int a1), (2, .ref b0)] := hl
  unfold f_J6_getChars_ba4f3 at hf
  obtain ⟨⟨⟨hX1, hX2, hX3, hX4, hX5, hX6, hX7, hX8, hX9, hX10, hX11, hX12⟩, hX13⟩, hX14, hX15, hX16, hX17⟩ := id hJ
  have hw1 := hts (.fieldLink RJ6 83 "java/lang/Integer" "DigitOnes" "[B") (by decide +kernel)
  have hw2 := hts (.fieldLink RJ6 87 "java/lang/Integer" "DigitTens" "[B") (by decide +kernel)
  refine lv_iload_n hx hb dJ6_getChars_ba4f3_0 rfl (lv_at hl 1 rfl) ?_
  refine lv_istore (lv' := [(5, .int a1), (0, .int a0), (1, .int a1), (2, .ref b0)]) hx hb dJ6_getChars_ba4f3_1 hl (by decide) rfl (fun ls hl => ?_)
  refine lv_iload_n hx hb dJ6_getChars_ba4f3_3 rfl (lv_at hl 1 rfl) ?_
  have jnJ_1 : ∀ (j_2 : Int32) (H : Heap) (locs : List Loc) (ls : Array Slot), lv_has ls 7 [(5, .int a1), (0, .int a0), (1, .int a1), (2, .ref b0)] → va_P D vwCl (kArB G b0 n0 v0) H → va_D A (kArB G b0 n0 v0) → va_S A s.heap H locs → f_J6_getChars_ba4f3_J12 a1 n0 v0 a0 j_2 = some (r, v0') → W p l e rm_J6_getChars_ba4f3 s m args below meth c H locs 0 0 Q0 (F0 m 12 ls [.int j_2]) := by
    intro j_2 H locs ls hl hP hD hS hf
    unfold f_J6_getChars_ba4f3_J12 at hf
    refine lv_istore (lv' := [(6, .int j_2), (5, .int a1), (0, .int a0), (1, .int a1), (2, .ref b0)]) hx hb dJ6_getChars_ba4f3_12 hl (by decide) rfl (fun ls hl => ?_)
    refine lv_iload hx hb dJ6_getChars_ba4f3_14 (lv_at hl 0 rfl) ?_
    have jnJ_3 : ∀ (j_4 : Int32) (H : Heap) (locs : List Loc) (ls : Array Slot), lv_has ls 7 [(6, .int j_2), (5, .int a1), (0, .int j_4), (1, .int a1), (2, .ref b0)] → va_P D vwCl (kArB G b0 n0 v0) H → va_D A (kArB G b0 n0 v0) → va_S A s.heap H locs → f_J6_getChars_ba4f3_J22 a1 n0 v0 j_2 j_4 = some (r, v0') → W p l e rm_J6_getChars_ba4f3 s m args below meth c H locs 0 0 Q0 (F0 m 22 ls []) := by
      intro j_4 H locs ls hl hP hD hS hf
      unfold f_J6_getChars_ba4f3_J22 at hf
      refine lv_iload_n hx hb dJ6_getChars_ba4f3_22 rfl (lv_at hl 2 rfl) ?_
      refine lv_bipush (v := (-100)) hx hb dJ6_getChars_ba4f3_23 (by decide +kernel) ?_
      have jnJ_5 : ∀ (H : Heap) (locs : List Loc) (ls : Array Slot), lv_has ls 7 [(6, .int j_2), (5, .int a1), (0, .int j_4), (1, .int a1), (2, .ref b0)] → va_P D vwCl (kArB G b0 n0 v0) H → va_D A (kArB G b0 n0 v0) → va_S A s.heap H locs → f_J6_getChars_ba4f3_J72 j_4 a1 n0 v0 j_2  = some (r, v0') → W p l e rm_J6_getChars_ba4f3 s m args below meth c H locs 0 0 Q0 (F0 m 72 ls []) := by
        intro  H locs ls hl hP hD hS hf
        unfold f_J6_getChars_ba4f3_J72 at hf
        refine lv_aload_n hx hb dJ6_getChars_ba4f3_72 rfl (lv_at hl 4 rfl) ?_
        refine lv_iinc (v := (a1 + (-1))) (lv' := [(5, .int (a1 + (-1))), (6, .int j_2), (0, .int j_4), (1, .int a1), (2, .ref b0)]) hx hb dJ6_getChars_ba4f3_73 hl (k := 1) rfl rfl (by decide) rfl (fun ls hl => ?_)
        refine lv_iload hx hb dJ6_getChars_ba4f3_76 (lv_at hl 0 rfl) ?_
        refine va_gets (v := .ref (X 0 4)) hx hb hX14 hS hown hw1 (fun _ h9 => h9) dJ6_getChars_ba4f3_78 ?_
        refine lv_iload_n hx hb dJ6_getChars_ba4f3_81 rfl (lv_at hl 2 rfl) ?_
        refine lv_ineg hx hb dJ6_getChars_ba4f3_82 ?_
        obtain ⟨hin, hf⟩ := ckI_of hf
        refine va_tb (v := .int (dgO (-j_4).toNatClampNeg)) hx hb hX15 hS hin rfl dJ6_getChars_ba4f3_83 ?_
        obtain ⟨hin, hf⟩ := ckI_of hf
        obtain ⟨v_6, ev_6, hf⟩ := nm_of hf
        refine va_bast (D := D) hx hb hK hP hD hS 0 2 rfl rfl hin dJ6_getChars_ba4f3_84 (fun H locs hP hD hS => ?_)
        have hP : va_P D vwCl (kArB G b0 n0 v_6) H := by rw [ev_6]; exact hP
        have hD : va_D A (kArB G b0 n0 v_6) := by rw [ev_6]; exact hD
        refine lv_iload_n hx hb dJ6_getChars_ba4f3_85 rfl (lv_at hl 2 rfl) ?_
        refine lv_bipush (v := (-9)) hx hb dJ6_getChars_ba4f3_86 (by decide +kernel) ?_
        refine lv_icmp_ge (tgt := 104) hx hb dJ6_getChars_ba4f3_88 (by decide) (fun cc => ?_) (fun cc => ?_)
        · replace hf := ifT cc hf
          refine lv_iload hx hb dJ6_getChars_ba4f3_104 (lv_at hl 1 rfl) ?_
          refine lv_if_eq (tgt := 118) hx hb dJ6_getChars_ba4f3_106 (by decide) (fun cc => ?_) (fun cc => ?_)
          · replace hf := ifT cc hf
            refine lv_iload hx hb dJ6_getChars_ba4f3_118 (lv_at hl 0 rfl) ?_
            obtain ⟨rfl, rfl⟩ := re2 hf
            exact hE hP hD hS dJ6_getChars_ba4f3_120
          · replace hf := ifF cc hf
            cases hf
        · replace hf := ifF cc hf
          refine lv_aload_n hx hb dJ6_getChars_ba4f3_91 rfl (lv_at hl 4 rfl) ?_
          refine lv_iinc (v := ((a1 + (-1)) + (-1))) (lv' := [(5, .int ((a1 + (-1)) + (-1))), (6, .int j_2), (0, .int j_4), (1, .int a1), (2, .ref b0)]) hx hb dJ6_getChars_ba4f3_92 hl (k := 0) rfl rfl (by decide) rfl (fun ls hl => ?_)
          refine lv_iload hx hb dJ6_getChars_ba4f3_95 (lv_at hl 0 rfl) ?_
          refine va_gets (v := .ref (X 0 5)) hx hb hX16 hS hown hw2 (fun _ h9 => h9) dJ6_getChars_ba4f3_97 ?_
          refine lv_iload_n hx hb dJ6_getChars_ba4f3_100 rfl (lv_at hl 2 rfl) ?_
          refine lv_ineg hx hb dJ6_getChars_ba4f3_101 ?_
          obtain ⟨hin, hf⟩ := ckI_of hf
          refine va_tb (v := .int (dgT (-j_4).toNatClampNeg)) hx hb hX17 hS hin rfl dJ6_getChars_ba4f3_102 ?_
          obtain ⟨hin, hf⟩ := ckI_of hf
          obtain ⟨v_7, ev_7, hf⟩ := nm_of hf
          refine va_bast (D := D) hx hb hK hP hD hS 0 2 rfl rfl hin dJ6_getChars_ba4f3_103 (fun H locs hP hD hS => ?_)
          have hP : va_P D vwCl (kArB G b0 n0 v_7) H := by rw [ev_7]; exact hP
          have hD : va_D A (kArB G b0 n0 v_7) := by rw [ev_7]; exact hD
          refine lv_iload hx hb dJ6_getChars_ba4f3_104 (lv_at hl 1 rfl) ?_
          refine lv_if_eq (tgt := 118) hx hb dJ6_getChars_ba4f3_106 (by decide) (fun cc => ?_) (fun cc => ?_)
          · replace hf := ifT cc hf
            refine lv_iload hx hb dJ6_getChars_ba4f3_118 (lv_at hl 0 rfl) ?_
            obtain ⟨rfl, rfl⟩ := re2 hf
            exact hE hP hD hS dJ6_getChars_ba4f3_120
          · replace hf := ifF cc hf
            cases hf
      refine lv_icmp_gt (tgt := 72) hx hb dJ6_getChars_ba4f3_25 (by decide) (fun cc => ?_) (fun cc => ?_)
      · replace hf := ifT cc hf
        exact jnJ_5  _ _ _ (lv_sub hl [0, 1, 2, 3, 4] rfl) hP hD hS hf
      · replace hf := ifF cc hf
        cases hf
    refine lv_if_ne (tgt := 22) hx hb dJ6_getChars_ba4f3_16 (by decide) (fun cc => ?_) (fun cc => ?_)
    · replace hf := ifF cc hf
      exact jnJ_3 a0 _ _ _ (lv_sub hl [0, 1, 2, 3, 4] rfl) hP hD hS hf
    · replace hf := ifT cc hf
      refine lv_iload_n hx hb dJ6_getChars_ba4f3_19 rfl (lv_at hl 2 rfl) ?_
      refine lv_ineg hx hb dJ6_getChars_ba4f3_20 ?_
      refine lv_istore_n (lv' := [(0, .int (-a0)), (6, .int j_2), (5, .int a1), (1, .int a1), (2, .ref b0)]) hx hb dJ6_getChars_ba4f3_21 rfl hl (by decide) rfl (fun ls hl => ?_)
      exact jnJ_3 (-a0) _ _ _ (lv_sub hl [1, 2, 0, 3, 4] rfl) hP hD hS hf
  refine lv_if_ge (tgt := 11) hx hb dJ6_getChars_ba4f3_4 (by decide) (fun cc => ?_) (fun cc => ?_)
  · replace hf := ifT cc hf
    refine lv_iconst (v := 0) hx hb dJ6_getChars_ba4f3_11 (by decide) ?_
    exact jnJ_1 0 _ _ _ (lv_sub hl [0, 1, 2, 3] rfl) hP hD hS hf
  · replace hf := ifF cc hf
    refine lv_iconst (v := 1) hx hb dJ6_getChars_ba4f3_7 (by decide) ?_
    refine lv_goto (tgt := 12) hx hb dJ6_getChars_ba4f3_8 (by decide) ?_
    exact jnJ_1 1 _ _ _ (lv_sub hl [0, 1, 2, 3] rfl) hP hD hS hf
