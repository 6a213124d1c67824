/-! Walks, laid by wip/whole/gen.py: for each method f_ (what it does to its world) and c_ (its contract). -/
def f_J0_coder_7d493 (k0 : Nat) : Option Int32 :=
  some 0
abbrev rm_J0_coder_7d493 : Room := { frames := 0, cells := 0, slots := 0, locals := 0 }
set_option maxHeartbeats 4000000 in
set_option maxRecDepth 100000 in
theorem c_J0_coder_7d493 (l : Launch) (D : va_G) (G : Nat → ClassId) (X : Nat → Nat → Nat) (k0 : Nat) (r : Int32) (hf : f_J0_coder_7d493 k0 = some r) (hk0 : k0 < 8) (sz : Nat) : mC l yJ0_coder_7d493 wsJ0_coder_7d493 rm_J0_coder_7d493 D (tyG G) (kY X) [.ref (X 2 k0)] ([] : va_W) ([] : va_W) sz (some (.int r)) 0 0 := by
  refine mC_ofN (cc := cJ0_coder_7d493) (maxL := 1) (ret := (some .byte)) (by decide) rfl rfl (Nat.le_of_ble_eq_true rfl) ?_
  intro p e s m args below meth c Q0 hx hb hml hts hown hN hK A hD hA hE hP hS hJ ls hl
  have hl : lv_has ls 1 [(0, .ref (X 2 k0))] := hl
  unfold f_J0_coder_7d493 at hf
  obtain ⟨⟨hX1, hX2, hX3, hX4, hX5, hX6, hX7, hX8, hX9, hX10, hX11, hX12⟩, hX13⟩ := id hJ
  have hw1 := hts (.fieldLink RJ0 38 "java/lang/String" "COMPACT_STRINGS" "Z") (by decide +kernel)
  have hw2 := hts (.fieldLink RJ0 15 "java/lang/String" "coder" "B") (by decide +kernel)
  refine va_gets (v := .int 1) hx hb hX11 hS hown hw1 (fun _ h9 => h9) dJ0_coder_7d493_0 ?_
  refine lv_if_eq (tgt := 13) hx hb dJ0_coder_7d493_3 (by decide) (fun cc => absurd cc (by decide)) (fun _ => ?_)
  refine lv_aload_n hx hb dJ0_coder_7d493_6 rfl (lv_at hl 0 rfl) ?_
  refine vk_getf hx hb (hX10.1 k0 hk0).2.1 hS hown hw2 (fun _ h9 => h9) dJ0_coder_7d493_7 ?_
  refine lv_goto (tgt := 14) hx hb dJ0_coder_7d493_10 (by decide) ?_
  obtain rfl := re1 hf
  exact hE (by decide +kernel) hP hD hS dJ0_coder_7d493_14
def f_J0_isLatin1_aae02 (k0 : Nat) : Option Int32 :=
  some 1
abbrev rm_J0_isLatin1_aae02 : Room := { frames := 0, cells := 0, slots := 0, locals := 0 }
set_option maxHeartbeats 4000000 in
set_option maxRecDepth 100000 in
theorem c_J0_isLatin1_aae02 (l : Launch) (D : va_G) (G : Nat → ClassId) (X : Nat → Nat → Nat) (k0 : Nat) (r : Int32) (hf : f_J0_isLatin1_aae02 k0 = some r) (hk0 : k0 < 8) (sz : Nat) : mC l yJ0_isLatin1_aae02 wsJ0_isLatin1_aae02 rm_J0_isLatin1_aae02 D (tyG G) (kY X) [.ref (X 2 k0)] ([] : va_W) ([] : va_W) sz (some (.int r)) 0 0 := by
  refine mC_ofZ (cc := cJ0_isLatin1_aae02) (maxL := 1) (ret := (some .boolean)) (by decide) rfl rfl (Nat.le_of_ble_eq_true rfl) ?_
  intro p e s m args below meth c Q0 hx hb hml hts hown hN hK A hD hA hE hP hS hJ ls hl
  have hl : lv_has ls 1 [(0, .ref (X 2 k0))] := hl
  unfold f_J0_isLatin1_aae02 at hf
  obtain ⟨⟨hX1, hX2, hX3, hX4, hX5, hX6, hX7, hX8, hX9, hX10, hX11, hX12⟩, hX13⟩ := id hJ
  have hw1 := hts (.fieldLink RJ0 38 "java/lang/String" "COMPACT_STRINGS" "Z") (by decide +kernel)
  have hw2 := hts (.fieldLink RJ0 15 "java/lang/String" "coder" "B") (by decide +kernel)
  refine va_gets (v := .int 1) hx hb hX11 hS hown hw1 (fun _ h9 => h9) dJ0_isLatin1_aae02_0 ?_
  refine lv_if_eq (tgt := 17) hx hb dJ0_isLatin1_aae02_3 (by decide) (fun cc => absurd cc (by decide)) (fun _ => ?_)
  refine lv_aload_n hx hb dJ0_isLatin1_aae02_6 rfl (lv_at hl 0 rfl) ?_
  refine vk_getf hx hb (hX10.1 k0 hk0).2.1 hS hown hw2 (fun _ h9 => h9) dJ0_isLatin1_aae02_7 ?_
  refine lv_if_ne (tgt := 17) hx hb dJ0_isLatin1_aae02_10 (by decide) (fun cc => absurd cc (by decide)) (fun _ => ?_)
  refine lv_iconst (v := 1) hx hb dJ0_isLatin1_aae02_13 (by decide) ?_
  refine lv_goto (tgt := 18) hx hb dJ0_isLatin1_aae02_14 (by decide) ?_
  obtain rfl := re1 hf
  exact hE (.inr rfl) hP hD hS dJ0_isLatin1_aae02_18
def f_J0_length_8abf5 (k0 : Nat) : Option Int32 :=
  bd1 (f_J0_coder_7d493 k0) fun r_1 =>
  some ((Int32.ofNat (wLen.getD k0 0)) >>> (r_1 &&& 31))
abbrev rm_J0_length_8abf5 : Room := { frames := 1, cells := 0, slots := 0, locals := 20 }
set_option maxHeartbeats 4000000 in
set_option maxRecDepth 100000 in
theorem c_J0_length_8abf5 (l : Launch) (D : va_G) (G : Nat → ClassId) (X : Nat → Nat → Nat) (k0 : Nat) (r : Int32) (hf : f_J0_length_8abf5 k0 = some r) (hk0 : k0 < 8) (sz : Nat) : mC l yJ0_length_8abf5 wsJ0_length_8abf5 rm_J0_length_8abf5 D (tyG G) (kY X) [.ref (X 2 k0)] ([] : va_W) ([] : va_W) sz (some (.int r)) 0 0 := by
  refine mC_ofI (cc := cJ0_length_8abf5) (maxL := 1) (ret := (some .int)) (by decide) rfl rfl (Nat.le_of_ble_eq_true rfl) ?_
  intro p e s m args below meth c Q0 hx hb hml hts hown hN hK A hD hA hE hP hS hJ ls hl
  have hl : lv_has ls 1 [(0, .ref (X 2 k0))] := hl
  unfold f_J0_length_8abf5 at hf
  obtain ⟨⟨hX1, hX2, hX3, hX4, hX5, hX6, hX7, hX8, hX9, hX10, hX11, hX12⟩, hX13⟩ := id hJ
  have hw1 := hts (.fieldLink RJ0 9 "java/lang/String" "value" "[B") (by decide +kernel)
  refine lv_aload_n hx hb dJ0_length_8abf5_0 rfl (lv_at hl 0 rfl) ?_
  refine vk_getf hx hb (hX10.1 k0 hk0).2.2.1 hS hown hw1 (fun _ h9 => h9) dJ0_length_8abf5_1 ?_
  refine va_tlen (v := (Int32.ofNat (wLen.getD k0 0))) hx hb (hX10.1 k0 hk0).2.2.2 hS rfl dJ0_length_8abf5_4 ?_
  refine lv_aload_n hx hb dJ0_length_8abf5_5 rfl (lv_at hl 0 rfl) ?_
  obtain ⟨r_1, hc, hf⟩ := bd1_of hf
  refine k_VX (As := []) (rest := [.int (Int32.ofNat (wLen.getD k0 0))]) (ws1 := ([] : va_W)) ⟨hx, hb, hml, hown, hts⟩ (c_J0_coder_7d493 l D G X  k0  _ hc hk0 _) (cwV 0 hts gJ0_length_8abf5_J0_coder_7d493 rfl rfl rfl (by decide +kernel) ⟨Nat.le_of_ble_eq_true rfl, Nat.le_of_ble_eq_true rfl⟩) hl.1 (Nat.le_of_ble_eq_true rfl) dJ0_length_8abf5_6 ⟨Nat.le_of_ble_eq_true rfl, Nat.le_of_ble_eq_true rfl⟩ rfl (kY_bl X) (kY_pass hJ hS (va_free (wc := ([] : va_W)) hD hS hA [] rfl)) hN hK hP hD hS hA (vk_recv hX10 hk0 hS) [] [] [] [0, 1, 2, 3] rfl rfl rfl ⟨by decide, by decide, by decide, by decide⟩ rfl (fun H locs hP hD hS => ?_)
  refine lv_ishr hx hb dJ0_length_8abf5_9 ?_
  obtain rfl := re1 hf
  exact hE hP hD hS dJ0_length_8abf5_10
def f_J1_charAt_3b067 (k0 : Nat) (a1 : Int32) : Option Int32 :=
  bd1 (f_J0_checkIndex_df160 a1 (Int32.ofNat (wLen.getD k0 0))) fun _ =>
  ckI a1 (wLen.getD k0 0) <|
  ckC (((((wByt.getD k0 []).getD a1.toNatClampNeg 0) &&& 255).toUInt32 % 65536).toInt32) <|
  some (((((wByt.getD k0 []).getD a1.toNatClampNeg 0) &&& 255).toUInt32 % 65536).toInt32)
abbrev rm_J1_charAt_3b067 : Room := { frames := 2, cells := 0, slots := 0, locals := 43 }
set_option maxHeartbeats 4000000 in
set_option maxRecDepth 100000 in
theorem c_J1_charAt_3b067 (l : Launch) (D : va_G) (G : Nat → ClassId) (X : Nat → Nat → Nat) (k0 : Nat) (a1 : Int32) (r : Int32) (hf : f_J1_charAt_3b067 k0 a1 = some r) (hk0 : k0 < 8) (sz : Nat) : mC l yJ1_charAt_3b067 wsJ1_charAt_3b067 rm_J1_charAt_3b067 D (tyG G) (kY X) [.ref (X 3 k0), .int a1] ([] : va_W) ([] : va_W) sz (some (.int r)) 0 0 := by
  refine mC_ofN (cc := cJ1_charAt_3b067) (maxL := 2) (ret := (some .char)) (by decide) rfl rfl (Nat.le_of_ble_eq_true rfl) ?_
  intro p e s m args below meth c Q0 hx hb hml hts hown hN hK A hD hA hE hP hS hJ ls hl
  have hl : lv_has ls 2 [(0, .ref (X 3 k0)), (1, .int a1)] := hl
  unfold f_J1_charAt_3b067 at hf
  obtain ⟨⟨hX1, hX2, hX3, hX4, hX5, hX6, hX7, hX8, hX9, hX10, hX11, hX12⟩, hX13⟩ := id hJ
  refine lv_iload_n hx hb dJ1_charAt_3b067_0 rfl (lv_at hl 1 rfl) ?_
  refine lv_aload_n hx hb dJ1_charAt_3b067_1 rfl (lv_at hl 0 rfl) ?_
  refine va_tlen (v := (Int32.ofNat (wLen.getD k0 0))) hx hb (hX10.1 k0 hk0).2.2.2 hS rfl dJ1_charAt_3b067_2 ?_
  obtain ⟨_u, hc, hf⟩ := bd1_of hf
  refine k_S (As := [.int a1, .int (Int32.ofNat (wLen.getD k0 0))]) (rest := []) (ws1 := ([] : va_W)) ⟨hx, hb, hml, hown, hts⟩ (c_J0_checkIndex_df160 l D G X  a1 (Int32.ofNat (wLen.getD k0 0))  _ hc  _) (va_cwS 2 hts gJ1_charAt_3b067_J0_checkIndex_df160 rfl rfl rfl (by decide +kernel) ⟨Nat.le_of_ble_eq_true rfl, Nat.le_of_ble_eq_true rfl⟩) hl.1 (Nat.le_of_ble_eq_true rfl) dJ1_charAt_3b067_3 ⟨Nat.le_of_ble_eq_true rfl, Nat.le_of_ble_eq_true rfl⟩ rfl (kY_bl X) (kY_pass hJ hS (va_free (wc := ([] : va_W)) hD hS hA [] rfl)) hN hK hP hD hS hA [] [] [] [0, 1, 2, 3] rfl rfl rfl ⟨by decide, by decide, by decide, by decide⟩ rfl (fun H locs hP hD hS => ?_)
  refine lv_aload_n hx hb dJ1_charAt_3b067_6 rfl (lv_at hl 0 rfl) ?_
  refine lv_iload_n hx hb dJ1_charAt_3b067_7 rfl (lv_at hl 1 rfl) ?_
  obtain ⟨hin, hf⟩ := ckI_of hf
  refine va_tb (v := .int ((wByt.getD k0 []).getD a1.toNatClampNeg 0)) hx hb (hX10.1 k0 hk0).2.2.2 hS hin rfl dJ1_charAt_3b067_8 ?_
  refine lv_sipush (v := 255) hx hb dJ1_charAt_3b067_9 (by decide +kernel) ?_
  refine lv_iand hx hb dJ1_charAt_3b067_12 ?_
  refine lv_i2c hx hb dJ1_charAt_3b067_13 rfl ?_
  obtain ⟨hch, hf⟩ := ckC_of hf
  obtain rfl := re1 hf
  exact hE (narC hch) hP hD hS dJ1_charAt_3b067_14
def f_J0_charAt_5068e (k0 : Nat) (a1 : Int32) : Option Int32 :=
  bd1 (f_J0_isLatin1_aae02 k0) fun r_1 =>
  if r_1 = 0 then
    none
  else
    bd1 (f_J1_charAt_3b067 k0 a1) fun r_2 =>
    ckC r_2 <|
    some r_2
abbrev rm_J0_charAt_5068e : Room := { frames := 3, cells := 0, slots := 0, locals := 64 }
set_option maxHeartbeats 4000000 in
set_option maxRecDepth 100000 in
theorem c_J0_charAt_5068e (l : Launch) (D : va_G) (G : Nat → ClassId) (X : Nat → Nat → Nat) (k0 : Nat) (a1 : Int32) (r : Int32) (hf : f_J0_charAt_5068e k0 a1 = some r) (hk0 : k0 < 8) (sz : Nat) : mC l yJ0_charAt_5068e wsJ0_charAt_5068e rm_J0_charAt_5068e D (tyG G) (kY X) [.ref (X 2 k0), .int a1] ([] : va_W) ([] : va_W) sz (some (.int r)) 0 0 := by
  refine mC_ofN (cc := cJ0_charAt_5068e) (maxL := 2) (ret := (some .char)) (by decide) rfl rfl (Nat.le_of_ble_eq_true rfl) ?_
  intro p e s m args below meth c Q0 hx hb hml hts hown hN hK A hD hA hE hP hS hJ ls hl
  have hl : lv_has ls 2 [(0, .ref (X 2 k0)), (1, .int a1)] := hl
  unfold f_J0_charAt_5068e at hf
  obtain ⟨⟨hX1, hX2, hX3, hX4, hX5, hX6, hX7, hX8, hX9, hX10, hX11, hX12⟩, hX13⟩ := id hJ
  have hw1 := hts (.fieldLink RJ0 9 "java/lang/String" "value" "[B") (by decide +kernel)
  refine lv_aload_n hx hb dJ0_charAt_5068e_0 rfl (lv_at hl 0 rfl) ?_
  obtain ⟨r_1, hc, hf⟩ := bd1_of hf
  refine k_VX (As := []) (rest := []) (ws1 := ([] : va_W)) ⟨hx, hb, hml, hown, hts⟩ (c_J0_isLatin1_aae02 l D G X  k0  _ hc hk0 _) (cwV 0 hts gJ0_charAt_5068e_J0_isLatin1_aae02 rfl rfl rfl (by decide +kernel) ⟨Nat.le_of_ble_eq_true rfl, Nat.le_of_ble_eq_true rfl⟩) hl.1 (Nat.le_of_ble_eq_true rfl) dJ0_charAt_5068e_1 ⟨Nat.le_of_ble_eq_true rfl, Nat.le_of_ble_eq_true rfl⟩ rfl (kY_bl X) (kY_pass hJ hS (va_free (wc := ([] : va_W)) hD hS hA [] rfl)) hN hK hP hD hS hA (vk_recv hX10 hk0 hS) [] [] [] [0, 1, 2, 3] rfl rfl rfl ⟨by decide, by decide, by decide, by decide⟩ rfl (fun H locs hP hD hS => ?_)
  refine lv_if_eq (tgt := 16) hx hb dJ0_charAt_5068e_4 (by decide) (fun cc => ?_) (fun cc => ?_)
  · replace hf := ifT cc hf
    cases hf
  · replace hf := ifF cc hf
    refine lv_aload_n hx hb dJ0_charAt_5068e_7 rfl (lv_at hl 0 rfl) ?_
    refine vk_getf hx hb (hX10.1 k0 hk0).2.2.1 hS hown hw1 (fun _ h9 => h9) dJ0_charAt_5068e_8 ?_
    refine lv_iload_n hx hb dJ0_charAt_5068e_11 rfl (lv_at hl 1 rfl) ?_
    obtain ⟨r_2, hc, hf⟩ := bd1_of hf
    refine k_S (As := [.ref (X 3 k0), .int a1]) (rest := []) (ws1 := ([] : va_W)) ⟨hx, hb, hml, hown, hts⟩ (c_J1_charAt_3b067 l D G X  k0 a1  _ hc hk0 _) (va_cwS 2 hts gJ0_charAt_5068e_J1_charAt_3b067 rfl rfl rfl (by decide +kernel) ⟨Nat.le_of_ble_eq_true rfl, Nat.le_of_ble_eq_true rfl⟩) hl.1 (Nat.le_of_ble_eq_true rfl) dJ0_charAt_5068e_12 ⟨Nat.le_of_ble_eq_true rfl, Nat.le_of_ble_eq_true rfl⟩ rfl (kY_bl X) (kY_pass hJ hS (va_free (wc := ([] : va_W)) hD hS hA [] rfl)) hN hK hP hD hS hA [] [] [] [0, 1, 2, 3] rfl rfl rfl ⟨by decide, by decide, by decide, by decide⟩ rfl (fun H locs hP hD hS => ?_)
    obtain ⟨hch, hf⟩ := ckC_of hf
    obtain rfl := re1 hf
    exact hE (narC hch) hP hD hS dJ0_charAt_5068e_15
def f_Jx29ce0_ordinal_8abf5 (k0 : Nat) : Option Int32 :=
  some (nI k0)
abbrev rm_Jx29ce0_ordinal_8abf5 : Room := { frames := 0, cells := 0, slots := 0, locals := 0 }
set_option maxHeartbeats 4000000 in
set_option maxRecDepth 100000 in
theorem c_Jx29ce0_ordinal_8abf5 (l : Launch) (D : va_G) (G : Nat → ClassId) (X : Nat → Nat → Nat) (k0 : Nat) (r : Int32) (hf : f_Jx29ce0_ordinal_8abf5 k0 = some r) (hk0 : k0 < 8) (sz : Nat) : mC l yJx29ce0_ordinal_8abf5 wsJx29ce0_ordinal_8abf5 rm_Jx29ce0_ordinal_8abf5 D (tyG G) (kY X) [.ref (X 1 k0)] ([] : va_W) ([] : va_W) sz (some (.int r)) 0 0 := by
  refine mC_ofI (cc := cJx29ce0_ordinal_8abf5) (maxL := 1) (ret := (some .int)) (by decide) rfl rfl (Nat.le_of_ble_eq_true rfl) ?_
  intro p e s m args below meth c Q0 hx hb hml hts hown hN hK A hD hA hE hP hS hJ ls hl
  have hl : lv_has ls 1 [(0, .ref (X 1 k0))] := hl
  unfold f_Jx29ce0_ordinal_8abf5 at hf
  obtain ⟨⟨hX1, hX2, hX3, hX4, hX5, hX6, hX7, hX8, hX9, hX10, hX11, hX12⟩, hX13⟩ := id hJ
  have hw1 := hts (.fieldLink RJx29ce0 7 "java/lang/Enum" "ordinal" "I") (by decide +kernel)
  refine lv_aload_n hx hb dJx29ce0_ordinal_8abf5_0 rfl (lv_at hl 0 rfl) ?_
  refine va_getX hx hb hX6 hk0 hS hown hw1 (fun _ h9 => h9) dJx29ce0_ordinal_8abf5_1 ?_
  obtain rfl := re1 hf
  exact hE hP hD hS dJx29ce0_ordinal_8abf5_4
