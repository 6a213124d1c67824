/-! Walks, laid by wip/whole/gen.py: for each method f_ (what it does to its world) and c_ (its contract). -/
def f_J8_newLength_cabcc (a0 : Int32) (a1 : Int32) (a2 : Int32) : Option Int32 :=
  nm (if a1 < a2 then a2 else a1) fun t_1 =>
  if (a0 + t_1) ≤ 0 then
    none
  else
    if 2147483639 < (a0 + t_1) then
      none
    else
      some (a0 + t_1)
abbrev rm_J8_newLength_cabcc : Room := { frames := 1, cells := 0, slots := 0, locals := 14 }
set_option maxHeartbeats 4000000 in
set_option maxRecDepth 100000 in
theorem c_J8_newLength_cabcc (l : Launch) (D : va_G) (G : Nat → ClassId) (a0 : Int32) (a1 : Int32) (a2 : Int32) (r : Int32) (hf : f_J8_newLength_cabcc a0 a1 a2 = some r) (sz : Nat) : mC l yJ8_newLength_cabcc wsJ8_newLength_cabcc rm_J8_newLength_cabcc D (tyG G) kT [.int a0, .int a1, .int a2] ([] : va_W) ([] : va_W) sz (some (.int r)) 0 0 := by
  refine mC_ofI (cc := cJ8_newLength_cabcc) (maxL := 4) (ret := (some .int)) (by decide) rfl rfl (Nat.le_of_ble_eq_true rfl) ?_
  intro p e s m args below meth c Q0 hx hb hml hts hown hN hK A hD hA hE hP hS hJ ls hl
  have hl : lv_has ls 4 [(0, .int a0), (1, .int a1), (2, .int a2)] := hl
  unfold f_J8_newLength_cabcc at hf
  have hw1 := hts (.methodLink RJ8 194 Lib.Math.max.name) (by decide +kernel)
  have hw2 := hts (.static Lib.Math.max.name) (by decide +kernel)
  have hw3 := hts (.initialized "java/lang/Math") (by decide +kernel)
  have hw4 := hts (.code Lib.Math.max.name Lib.Math.max.code 2 (some .int)) (by decide +kernel)
  have hw5 := hts (.constant RJ8 200 (2147483639)) (by decide +kernel)
  refine lv_iload_n hx hb dJ8_newLength_cabcc_0 rfl (lv_at hl 0 rfl) ?_
  refine lv_iload_n hx hb dJ8_newLength_cabcc_1 rfl (lv_at hl 1 rfl) ?_
  refine lv_iload_n hx hb dJ8_newLength_cabcc_2 rfl (lv_at hl 2 rfl) ?_
  refine va_mmax hx hb (hml.trans hl.1.symm) hown hw1 hw2 hw3 hw4 (Nat.le_of_ble_eq_true rfl) (Nat.le_of_ble_eq_true rfl) (Nat.zero_le _) (Nat.zero_le _) dJ8_newLength_cabcc_3 ?_
  obtain ⟨t_1, et_1, hf⟩ := nm_of hf
  rw [← et_1]
  refine lv_iadd hx hb dJ8_newLength_cabcc_6 ?_
  refine lv_istore_n (lv' := [(3, .int (a0 + t_1)), (0, .int a0), (1, .int a1), (2, .int a2)]) hx hb dJ8_newLength_cabcc_7 rfl hl (by decide) rfl (fun ls hl => ?_)
  refine lv_iconst (v := 0) hx hb dJ8_newLength_cabcc_8 (by decide) ?_
  refine lv_iload_n hx hb dJ8_newLength_cabcc_9 rfl (lv_at hl 0 rfl) ?_
  refine lv_icmp_ge (tgt := 21) hx hb dJ8_newLength_cabcc_10 (by decide) (fun cc => ?_) (fun cc => ?_)
  · replace hf := ifT cc hf
    cases hf
  · replace hf := ifF cc hf
    refine lv_iload_n hx hb dJ8_newLength_cabcc_13 rfl (lv_at hl 0 rfl) ?_
    refine lv_ldc (v := 2147483639) hx hb hown hw5 dJ8_newLength_cabcc_14 ?_
    refine lv_icmp_gt (tgt := 21) hx hb dJ8_newLength_cabcc_16 (by decide) (fun cc => ?_) (fun cc => ?_)
    · replace hf := ifT cc hf
      cases hf
    · replace hf := ifF cc hf
      refine lv_iload_n hx hb dJ8_newLength_cabcc_19 rfl (lv_at hl 0 rfl) ?_
      obtain rfl := re1 hf
      exact hE hP hD hS dJ8_newLength_cabcc_20
def f_J5_newCapacity_0f7a4 (a1 : Int32) (v0 : (Nat × SV)) : Option Int32 :=
  nm ((a1 <<< ((v0.2.1 0) &&& 31)) - (Int32.ofNat v0.1)) fun t_1 =>
  bd1 (f_J8_newLength_cabcc (Int32.ofNat v0.1) t_1 ((Int32.ofNat v0.1) + (2 <<< ((v0.2.1 0) &&& 31)))) fun r_2 =>
  if r_2 = 2147483647 then
    none
  else
    some (r_2 >>> ((v0.2.1 0) &&& 31))
abbrev rm_J5_newCapacity_0f7a4 : Room := { frames := 2, cells := 0, slots := 0, locals := 37 }
set_option maxHeartbeats 4000000 in
set_option maxRecDepth 100000 in
theorem c_J5_newCapacity_0f7a4 (l : Launch) (D : va_G) (G : Nat → ClassId) (X : Nat → Nat → Nat) (o0 : Nat) (bb : Nat) (a1 : Int32) (v0 : (Nat × SV)) (r : Int32) (hf : f_J5_newCapacity_0f7a4 a1 v0 = some r) (sz : Nat) : mC l yJ5_newCapacity_0f7a4 wsJ5_newCapacity_0f7a4 rm_J5_newCapacity_0f7a4 D (tyG G) (kW X) [.ref o0, .int a1] (kSB G o0 bb v0) (kSB G o0 bb v0) sz (some (.int r)) 0 0 := by
  refine mC_ofI (cc := cJ5_newCapacity_0f7a4) (maxL := 6) (ret := (some .int)) (by decide) rfl rfl (Nat.le_of_ble_eq_true rfl) ?_
  intro p e s m args below meth c Q0 hx hb hml hts hown hN hK A hD hA hE hP hS hJ ls hl
  have hl : lv_has ls 6 [(0, .ref o0), (1, .int a1)] := hl
  unfold f_J5_newCapacity_0f7a4 at hf
  obtain ⟨⟨⟨hX1, hX2, hX3, hX4, hX5, hX6, hX7, hX8, hX9, hX10, hX11, hX12⟩, hX13⟩, hX14, hX15, hX16, hX17⟩ := id hJ
  have hi0 : ∀ w ∈ u_ws RJ4 TJ4 4, w ∈ wsJ5_newCapacity_0f7a4 := by decide +kernel
  have hw1 := hts (.fieldLink RJ5 15 "java/lang/AbstractStringBuilder" "value" "[B") (by decide +kernel)
  have hw2 := hts (.fieldLink RJ5 22 "java/lang/AbstractStringBuilder" "coder" "B") (by decide +kernel)
  have hw3 := hts (.constant RJ5 39 (2147483647)) (by decide +kernel)
  refine lv_aload_n hx hb dJ5_newCapacity_0f7a4_0 rfl (lv_at hl 0 rfl) ?_
  refine va_get (D := D) (ci := 0) (v := .ref bb) (C := RJ4) (T := TJ4) (N := 4) hx hb hts hi0 hown hK hP 0 rfl rfl 0 (by decide) hw1 (fun _ h9 => h9) rfl dJ5_newCapacity_0f7a4_1 ?_
  refine va_alen (D := D) (v := Int32.ofNat v0.1) hx hb hK hP 1 2 rfl rfl rfl dJ5_newCapacity_0f7a4_4 ?_
  refine lv_istore_n (lv' := [(2, .int (Int32.ofNat v0.1)), (0, .ref o0), (1, .int a1)]) hx hb dJ5_newCapacity_0f7a4_5 rfl hl (by decide) rfl (fun ls hl => ?_)
  refine lv_iload_n hx hb dJ5_newCapacity_0f7a4_6 rfl (lv_at hl 2 rfl) ?_
  refine lv_aload_n hx hb dJ5_newCapacity_0f7a4_7 rfl (lv_at hl 1 rfl) ?_
  refine va_get (D := D) (ci := 0) (v := .int (v0.2.1 0)) (C := RJ4) (T := TJ4) (N := 4) hx hb hts hi0 hown hK hP 0 rfl rfl 1 (by decide) hw2 (fun _ h9 => h9) rfl dJ5_newCapacity_0f7a4_8 ?_
  refine lv_ishl hx hb dJ5_newCapacity_0f7a4_11 ?_
  refine lv_istore_n (lv' := [(3, .int (a1 <<< ((v0.2.1 0) &&& 31))), (2, .int (Int32.ofNat v0.1)), (0, .ref o0), (1, .int a1)]) hx hb dJ5_newCapacity_0f7a4_12 rfl hl (by decide) rfl (fun ls hl => ?_)
  refine lv_iload_n hx hb dJ5_newCapacity_0f7a4_13 rfl (lv_at hl 0 rfl) ?_
  refine lv_iload_n hx hb dJ5_newCapacity_0f7a4_14 rfl (lv_at hl 1 rfl) ?_
  refine lv_isub hx hb dJ5_newCapacity_0f7a4_15 ?_
  obtain ⟨t_1, et_1, hf⟩ := nm_of hf
  rw [← et_1]
  refine lv_istore (lv' := [(4, .int t_1), (3, .int (a1 <<< ((v0.2.1 0) &&& 31))), (2, .int (Int32.ofNat v0.1)), (0, .ref o0), (1, .int a1)]) hx hb dJ5_newCapacity_0f7a4_16 hl (by decide) rfl (fun ls hl => ?_)
  refine lv_iload_n hx hb dJ5_newCapacity_0f7a4_18 rfl (lv_at hl 2 rfl) ?_
  refine lv_iload hx hb dJ5_newCapacity_0f7a4_19 (lv_at hl 0 rfl) ?_
  refine lv_iload_n hx hb dJ5_newCapacity_0f7a4_21 rfl (lv_at hl 2 rfl) ?_
  refine lv_iconst (v := 2) hx hb dJ5_newCapacity_0f7a4_22 (by decide) ?_
  refine lv_aload_n hx hb dJ5_newCapacity_0f7a4_23 rfl (lv_at hl 3 rfl) ?_
  refine va_get (D := D) (ci := 0) (v := .int (v0.2.1 0)) (C := RJ4) (T := TJ4) (N := 4) hx hb hts hi0 hown hK hP 0 rfl rfl 1 (by decide) hw2 (fun _ h9 => h9) rfl dJ5_newCapacity_0f7a4_24 ?_
  refine lv_ishl hx hb dJ5_newCapacity_0f7a4_27 ?_
  refine lv_iadd hx hb dJ5_newCapacity_0f7a4_28 ?_
  obtain ⟨r_2, hc, hf⟩ := bd1_of hf
  refine k_S (As := [.int (Int32.ofNat v0.1), .int t_1, .int ((Int32.ofNat v0.1) + (2 <<< ((v0.2.1 0) &&& 31)))]) (rest := []) (ws1 := (kSB G o0 bb v0)) ⟨hx, hb, hml, hown, hts⟩ (c_J8_newLength_cabcc l D G  (Int32.ofNat v0.1) t_1 ((Int32.ofNat v0.1) + (2 <<< ((v0.2.1 0) &&& 31)))  _ hc  _) (va_cwS 3 hts gJ5_newCapacity_0f7a4_J8_newLength_cabcc rfl rfl rfl (by decide +kernel) ⟨Nat.le_of_ble_eq_true rfl, Nat.le_of_ble_eq_true rfl⟩) hl.1 (Nat.le_of_ble_eq_true rfl) dJ5_newCapacity_0f7a4_29 ⟨Nat.le_of_ble_eq_true rfl, Nat.le_of_ble_eq_true rfl⟩ rfl kT_bl (fun _ _ _ => trivial) hN hK hP hD hS hA [] [0, 1] [0, 1] [0, 1, 2, 3] rfl rfl rfl ⟨by decide, by decide, by decide, by decide⟩ rfl (fun H locs hP hD hS => ?_)
  refine lv_istore (lv' := [(5, .int r_2), (4, .int t_1), (3, .int (a1 <<< ((v0.2.1 0) &&& 31))), (2, .int (Int32.ofNat v0.1)), (0, .ref o0), (1, .int a1)]) hx hb dJ5_newCapacity_0f7a4_32 hl (by decide) rfl (fun ls hl => ?_)
  refine lv_iload hx hb dJ5_newCapacity_0f7a4_34 (lv_at hl 0 rfl) ?_
  refine lv_ldc (v := 2147483647) hx hb hown hw3 dJ5_newCapacity_0f7a4_36 ?_
  refine lv_icmp_ne (tgt := 51) hx hb dJ5_newCapacity_0f7a4_38 (by decide) (fun cc => ?_) (fun cc => ?_)
  · replace hf := ifF cc hf
    refine lv_iload hx hb dJ5_newCapacity_0f7a4_51 (lv_at hl 0 rfl) ?_
    refine lv_aload_n hx hb dJ5_newCapacity_0f7a4_53 rfl (lv_at hl 4 rfl) ?_
    refine va_get (D := D) (ci := 0) (v := .int (v0.2.1 0)) (C := RJ4) (T := TJ4) (N := 4) hx hb hts hi0 hown hK hP 0 rfl rfl 1 (by decide) hw2 (fun _ h9 => h9) rfl dJ5_newCapacity_0f7a4_54 ?_
    refine lv_ishr hx hb dJ5_newCapacity_0f7a4_57 ?_
    obtain rfl := re1 hf
    exact hE hP hD hS dJ5_newCapacity_0f7a4_58
  · replace hf := ifT cc hf
    cases hf
def f_J5_ensureCapacityInternal_d00df (a1 : Int32) (v0 : Nat × SV) : Option (Nat × SV) :=
  if a1 - (Int32.ofNat v0.1 >>> (v0.2.1 0 &&& 31)) ≤ 0 then some v0 else
  bd1 (f_J5_newCapacity_0f7a4 a1 v0) fun r =>
  bd2 (f_J7_copyOf_9075b (r <<< (v0.2.1 0 &&& 31)) v0.1 (v0.2.2 0)) fun n g =>
  some (n, pR v0.2 0 g)
abbrev rm_J5_ensureCapacityInternal_d00df : Room := { frames := 3, cells := 1, slots := 80, locals := 62 }
set_option maxHeartbeats 4000000 in
set_option maxRecDepth 100000 in
theorem c_J5_ensureCapacityInternal_d00df (l : Launch) (D : va_G) (G : Nat → ClassId) (X : Nat → Nat → Nat) (o0 : Nat) (bb : Nat) (a1 : Int32) (v0 : Nat × SV) (v0' : Nat × SV) (hf : f_J5_ensureCapacityInternal_d00df a1 v0 = some v0') (sz : Nat) : mCE l yJ5_ensureCapacityInternal_d00df wsJ5_ensureCapacityInternal_d00df rm_J5_ensureCapacityInternal_d00df D (tyG G) (kW X) [.ref o0, .int a1] (kSB G o0 bb v0) (fun bb => kSB G o0 bb v0') sz (fun _ => none) 1 80 := by
  refine mCE_of (cc := cJ5_ensureCapacityInternal_d00df) (maxL := 3) (ret := none) (by decide) rfl (Nat.le_of_ble_eq_true rfl) ?_
  intro p e s m args below meth c Q0 hx hb hml hts hown hN hK A hD hA hEr hEv hEi hP hS hJ ls hl
  have hl : lv_has ls 3 [(0, .ref o0), (1, .int a1)] := hl
  unfold f_J5_ensureCapacityInternal_d00df at hf
  have hi0 : ∀ w ∈ u_ws RJ4 TJ4 4, w ∈ wsJ5_ensureCapacityInternal_d00df := by decide +kernel
  have hw1 := hts (.fieldLink RJ5 15 "java/lang/AbstractStringBuilder" "value" "[B") (by decide +kernel)
  have hw2 := hts (.fieldLink RJ5 22 "java/lang/AbstractStringBuilder" "coder" "B") (by decide +kernel)
  refine lv_aload_n hx hb dJ5_ensureCapacityInternal_d00df_0 rfl (lv_at hl 0 rfl) ?_
  refine va_get (D := D) (ci := 0) (v := .ref bb) (C := RJ4) (T := TJ4) (N := 4) hx hb hts hi0 hown hK hP 0 rfl rfl 0 (by decide) hw1 (fun _ h9 => h9) rfl dJ5_ensureCapacityInternal_d00df_1 ?_
  refine va_alen (D := D) (v := Int32.ofNat v0.1) hx hb hK hP 1 2 rfl rfl rfl dJ5_ensureCapacityInternal_d00df_4 ?_
  refine lv_aload_n hx hb dJ5_ensureCapacityInternal_d00df_5 rfl (lv_at hl 0 rfl) ?_
  refine va_get (D := D) (ci := 0) (v := .int (v0.2.1 0)) (C := RJ4) (T := TJ4) (N := 4) hx hb hts hi0 hown hK hP 0 rfl rfl 1 (by decide) hw2 (fun _ h9 => h9) rfl dJ5_ensureCapacityInternal_d00df_6 ?_
  refine lv_ishr hx hb dJ5_ensureCapacityInternal_d00df_9 ?_
  refine lv_istore_n (lv' := [(2, .int (Int32.ofNat v0.1 >>> (v0.2.1 0 &&& 31))), (0, .ref o0), (1, .int a1)]) hx hb dJ5_ensureCapacityInternal_d00df_10 rfl hl (by decide) rfl (fun ls hl => ?_)
  refine lv_iload_n hx hb dJ5_ensureCapacityInternal_d00df_11 rfl (lv_at hl 2 rfl) ?_
  refine lv_iload_n hx hb dJ5_ensureCapacityInternal_d00df_12 rfl (lv_at hl 0 rfl) ?_
  refine lv_isub hx hb dJ5_ensureCapacityInternal_d00df_13 ?_
  refine lv_if_le (tgt := 38) hx hb dJ5_ensureCapacityInternal_d00df_14 (by decide) (fun cc => ?_) (fun cc => ?_)
  · replace hf := ifT cc hf
    obtain rfl := re1 hf
    refine W.widen (k := 1) (n := 80) (by omega) (by omega) ?_
    exact hEv bb rfl rfl hP hD hS dJ5_ensureCapacityInternal_d00df_38
  · replace hf := ifF cc hf
    refine lv_aload_n hx hb dJ5_ensureCapacityInternal_d00df_17 rfl (lv_at hl 1 rfl) ?_
    refine lv_aload_n hx hb dJ5_ensureCapacityInternal_d00df_18 rfl (lv_at hl 1 rfl) ?_
    refine va_get (D := D) (ci := 0) (v := .ref bb) (C := RJ4) (T := TJ4) (N := 4) hx hb hts hi0 hown hK hP 0 rfl rfl 0 (by decide) hw1 (fun _ h9 => h9) rfl dJ5_ensureCapacityInternal_d00df_19 ?_
    refine lv_aload_n hx hb dJ5_ensureCapacityInternal_d00df_22 rfl (lv_at hl 1 rfl) ?_
    refine lv_iload_n hx hb dJ5_ensureCapacityInternal_d00df_23 rfl (lv_at hl 2 rfl) ?_
    obtain ⟨r, hc, hf⟩ := bd1_of hf
    refine k_U0 (As := [.int a1]) (rest := [.ref bb, .ref o0]) (wd1 := kSB G o0 bb v0) ⟨hx, hb, hml, hown, hts⟩ (c_J5_newCapacity_0f7a4 l D G X o0 bb a1 v0 _ hc _) (va_cwU 1 hts gJ5_ensureCapacityInternal_d00df_J5_newCapacity_0f7a4_u104J4 rfl rfl rfl (by decide +kernel) (by decide +kernel) ⟨Nat.le_of_ble_eq_true rfl, Nat.le_of_ble_eq_true rfl⟩) hl.1 (Nat.le_of_ble_eq_true rfl) dJ5_ensureCapacityInternal_d00df_24 ⟨Nat.le_of_ble_eq_true rfl, Nat.le_of_ble_eq_true rfl⟩ rfl (kW_bl X) (kW_pass hJ hS (va_free (wc := kSB G o0 bb v0) hD hS hA [0, 1] rfl)) hN hK hP hD hS hA 0 0 rfl rfl rfl [0, 1] [] [0, 1] [0, 1, 2, 3] rfl rfl rfl ⟨by decide, by decide, by decide, by decide⟩ rfl (fun H locs hP hD hS => ?_)
    refine lv_aload_n hx hb dJ5_ensureCapacityInternal_d00df_27 rfl (lv_at hl 1 rfl) ?_
    refine va_get (D := D) (ci := 0) (v := .int (v0.2.1 0)) (C := RJ4) (T := TJ4) (N := 4) hx hb hts hi0 hown hK hP 0 rfl rfl 1 (by decide) hw2 (fun _ h9 => h9) rfl dJ5_ensureCapacityInternal_d00df_28 ?_
    refine lv_ishl hx hb dJ5_ensureCapacityInternal_d00df_31 ?_
    obtain ⟨n, g, hc2, hf⟩ := bd2_of hf
    refine k_SE (As := [.ref bb, .int (r <<< (v0.2.1 0 &&& 31))]) (rest := [.ref o0]) (ws1 := fun q => [(o0, .inr (0, [.ref bb, .int (v0.2.1 0), .int (v0.2.1 1), .int (v0.2.1 2)]))] ++ (kArB G bb v0.1 (v0.2.2 0) ++ kArB G q n g)) ⟨hx, hb, hml, hown, hts⟩ (c_J7_copyOf_9075b l D G bb v0.1 (r <<< (v0.2.1 0 &&& 31)) (v0.2.2 0) n g hc2 _) (va_cwS 2 hts gJ5_ensureCapacityInternal_d00df_J7_copyOf_9075b rfl rfl rfl (by decide +kernel) ⟨Nat.le_of_ble_eq_true rfl, Nat.le_of_ble_eq_true rfl⟩) hl.1 (Nat.le_of_ble_eq_true rfl) dJ5_ensureCapacityInternal_d00df_32 ⟨Nat.le_of_ble_eq_true rfl, Nat.le_of_ble_eq_true rfl⟩ rfl kT_bl (fun _ _ _ => trivial) hN hK hP hD hS hA [1] [0] [0, 1, 2] [0, 1, 2, 3] rfl rfl rfl ⟨by decide, by decide, by decide, by decide⟩ (fun _ => rfl) (fun q H locs hP hD hS => ?_)
    refine va_put (D := D) (ci := 0) (v := .ref q) (ty := .array .byte) (C := RJ4) (T := TJ4) (N := 4) hx hb hts hi0 tyJ4 tyJ4_ok nmJ4 hown hK hP hD hS 0 rfl rfl 0 (by decide) hw1 (fun _ h9 => h9) rfl (by decide +kernel) rfl rfl (Nat.le_of_ble_eq_true rfl) dJ5_ensureCapacityInternal_d00df_35 (fun H locs hP hD hS => ?_)
    obtain rfl := re1 hf
    have hP : va_P D vwCl (kSB G o0 q (n, pR v0.2 0 g)) H := hP.sub [0, 2] rfl
    have hD : va_D A (kSB G o0 q (n, pR v0.2 0 g)) := hD.sub [0, 2] (by decide) rfl
    refine W.widen (k := 1) (n := 80) (by omega) (by omega) ?_
    exact hEv q rfl rfl hP hD hS dJ5_ensureCapacityInternal_d00df_38

