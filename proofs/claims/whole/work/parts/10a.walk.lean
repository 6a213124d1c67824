/-! Walks, laid by wip/whole/gen.py: for each method f_ (what it does to its world) and c_ (its contract). -/
def f_X12_isBalcony (a0 : Int32) : Option Int32 :=
  if a0 < 0 then
    some 0
  else
    if 12 ≤ a0 then
      some 0
    else
      some 1
abbrev rm_X12_isBalcony : Room := { frames := 0, cells := 0, slots := 0, locals := 0 }
set_option maxHeartbeats 4000000 in
set_option maxRecDepth 100000 in
theorem c_X12_isBalcony (l : Launch) (D : va_G) (G : Nat → ClassId) (a0 : Int32) (r : Int32) (hf : f_X12_isBalcony a0 = some r) (sz : Nat) : mC l yX12_isBalcony wsX12_isBalcony rm_X12_isBalcony D (tyG G) kT [.int a0] ([] : va_W) ([] : va_W) sz (some (.int r)) 0 0 := by
  refine mC_ofZ (cc := cX12_isBalcony) (maxL := 1) (ret := (some .boolean)) (by decide) rfl rfl (Nat.le_of_ble_eq_true rfl) ?_
  intro p e s m args below meth c Q0 hx hb hml hts hown hN hK A hD hA hE hP hS hJ ls hl
  have hl : lv_has ls 1 [(0, .int a0)] := hl
  unfold f_X12_isBalcony at hf
  refine lv_iload_n hx hb dX12_isBalcony_0 rfl (lv_at hl 0 rfl) ?_
  refine lv_if_lt (tgt := 14) hx hb dX12_isBalcony_1 (by decide) (fun cc => ?_) (fun cc => ?_)
  · replace hf := ifT cc hf
    refine lv_iconst (v := 0) hx hb dX12_isBalcony_14 (by decide) ?_
    obtain rfl := re1 hf
    exact hE (.inl rfl) hP hD hS dX12_isBalcony_15
  · replace hf := ifF cc hf
    refine lv_iload_n hx hb dX12_isBalcony_4 rfl (lv_at hl 0 rfl) ?_
    refine lv_bipush (v := 12) hx hb dX12_isBalcony_5 (by decide +kernel) ?_
    refine lv_icmp_ge (tgt := 14) hx hb dX12_isBalcony_7 (by decide) (fun cc => ?_) (fun cc => ?_)
    · replace hf := ifT cc hf
      refine lv_iconst (v := 0) hx hb dX12_isBalcony_14 (by decide) ?_
      obtain rfl := re1 hf
      exact hE (.inl rfl) hP hD hS dX12_isBalcony_15
    · replace hf := ifF cc hf
      refine lv_iconst (v := 1) hx hb dX12_isBalcony_10 (by decide) ?_
      refine lv_goto (tgt := 15) hx hb dX12_isBalcony_11 (by decide) ?_
      obtain rfl := re1 hf
      exact hE (.inr rfl) hP hD hS dX12_isBalcony_15
def f_X12_areBalconies (a0 : Int32) (a1 : Int32) : Option Int32 :=
  bd1 (f_X12_isBalcony a0) fun r_1 =>
  if r_1 = 0 then
    some 0
  else
    bd1 (f_X12_isBalcony a1) fun r_2 =>
    if r_2 = 0 then
      some 0
    else
      some 1
abbrev rm_X12_areBalconies : Room := { frames := 1, cells := 0, slots := 0, locals := 20 }
set_option maxHeartbeats 4000000 in
set_option maxRecDepth 100000 in
theorem c_X12_areBalconies (l : Launch) (D : va_G) (G : Nat → ClassId) (a0 : Int32) (a1 : Int32) (r : Int32) (hf : f_X12_areBalconies a0 a1 = some r) (sz : Nat) : mC l yX12_areBalconies wsX12_areBalconies rm_X12_areBalconies D (tyG G) kT [.int a0, .int a1] ([] : va_W) ([] : va_W) sz (some (.int r)) 0 0 := by
  refine mC_ofZ (cc := cX12_areBalconies) (maxL := 2) (ret := (some .boolean)) (by decide) rfl rfl (Nat.le_of_ble_eq_true rfl) ?_
  intro p e s m args below meth c Q0 hx hb hml hts hown hN hK A hD hA hE hP hS hJ ls hl
  have hl : lv_has ls 2 [(0, .int a0), (1, .int a1)] := hl
  unfold f_X12_areBalconies at hf
  refine lv_iload_n hx hb dX12_areBalconies_0 rfl (lv_at hl 0 rfl) ?_
  obtain ⟨r_1, hc, hf⟩ := bd1_of hf
  refine k_S (As := [.int a0]) (rest := []) (ws1 := ([] : va_W)) ⟨hx, hb, hml, hown, hts⟩ (c_X12_isBalcony l D G  a0  _ hc  _) (va_cwS 1 hts gX12_areBalconies_X12_isBalcony rfl rfl rfl (by decide +kernel) ⟨Nat.le_of_ble_eq_true rfl, Nat.le_of_ble_eq_true rfl⟩) hl.1 (Nat.le_of_ble_eq_true rfl) dX12_areBalconies_1 ⟨Nat.le_of_ble_eq_true rfl, Nat.le_of_ble_eq_true rfl⟩ rfl kT_bl (fun _ _ _ => trivial) hN hK hP hD hS hA [] [] [] [0, 1, 2, 3] rfl rfl rfl ⟨by decide, by decide, by decide, by decide⟩ rfl (fun H locs hP hD hS => ?_)
  refine lv_if_eq (tgt := 18) hx hb dX12_areBalconies_4 (by decide) (fun cc => ?_) (fun cc => ?_)
  · replace hf := ifT cc hf
    refine lv_iconst (v := 0) hx hb dX12_areBalconies_18 (by decide) ?_
    obtain rfl := re1 hf
    exact hE (.inl rfl) hP hD hS dX12_areBalconies_19
  · replace hf := ifF cc hf
    refine lv_iload_n hx hb dX12_areBalconies_7 rfl (lv_at hl 1 rfl) ?_
    obtain ⟨r_2, hc, hf⟩ := bd1_of hf
    refine k_S (As := [.int a1]) (rest := []) (ws1 := ([] : va_W)) ⟨hx, hb, hml, hown, hts⟩ (c_X12_isBalcony l D G  a1  _ hc  _) (va_cwS 1 hts gX12_areBalconies_X12_isBalcony rfl rfl rfl (by decide +kernel) ⟨Nat.le_of_ble_eq_true rfl, Nat.le_of_ble_eq_true rfl⟩) hl.1 (Nat.le_of_ble_eq_true rfl) dX12_areBalconies_8 ⟨Nat.le_of_ble_eq_true rfl, Nat.le_of_ble_eq_true rfl⟩ rfl kT_bl (fun _ _ _ => trivial) hN hK hP hD hS hA [] [] [] [0, 1, 2, 3] rfl rfl rfl ⟨by decide, by decide, by decide, by decide⟩ rfl (fun H locs hP hD hS => ?_)
    refine lv_if_eq (tgt := 18) hx hb dX12_areBalconies_11 (by decide) (fun cc => ?_) (fun cc => ?_)
    · replace hf := ifT cc hf
      refine lv_iconst (v := 0) hx hb dX12_areBalconies_18 (by decide) ?_
      obtain rfl := re1 hf
      exact hE (.inl rfl) hP hD hS dX12_areBalconies_19
    · replace hf := ifF cc hf
      refine lv_iconst (v := 1) hx hb dX12_areBalconies_14 (by decide) ?_
      refine lv_goto (tgt := 19) hx hb dX12_areBalconies_15 (by decide) ?_
      obtain rfl := re1 hf
      exact hE (.inr rfl) hP hD hS dX12_areBalconies_19
def f_X11_note (a1 : Int32) (a2 : Int32) (v0 : SV) : Option (Int32 × SV) :=
  nm (pF v0 0 a1) fun v_1 =>
  nm (pF v_1 1 a2) fun v_2 =>
  nm (pF v_2 2 (-4)) fun v_3 =>
  nm (pF v_3 3 (-4)) fun v_4 =>
  some ((-3), v_4)
abbrev rm_X11_note : Room := { frames := 0, cells := 0, slots := 0, locals := 0 }
set_option maxHeartbeats 4000000 in
set_option maxRecDepth 100000 in
theorem c_X11_note (l : Launch) (D : va_G) (G : Nat → ClassId) (q0 : Nat → Nat) (a1 : Int32) (a2 : Int32) (v0 : SV) (r : Int32) (v0' : SV) (hf : f_X11_note a1 a2 v0 = some (r, v0')) (sz : Nat) : mC l yX11_note wsX11_note rm_X11_note D (tyG G) kT [.ref (q0 0), .int a1, .int a2] (kRef G q0 v0) (kRef G q0 v0') sz (some (.int r)) 0 0 := by
  refine mC_ofI (cc := cX11_note) (maxL := 3) (ret := (some .int)) (by decide) rfl rfl (Nat.le_of_ble_eq_true rfl) ?_
  intro p e s m args below meth c Q0 hx hb hml hts hown hN hK A hD hA hE hP hS hJ ls hl
  have hl : lv_has ls 3 [(0, .ref (q0 0)), (1, .int a1), (2, .int a2)] := hl
  unfold f_X11_note at hf
  have hi9 : ∀ w ∈ u_ws RX11 TX11 4, w ∈ wsX11_note := by decide +kernel
  have hw1 := hts (.fieldLink RX11 9 "BalconyCensus$Refusal" "reason" "I") (by decide +kernel)
  have hw2 := hts (.fieldLink RX11 15 "BalconyCensus$Refusal" "detail" "I") (by decide +kernel)
  have hw3 := hts (.fieldLink RX11 18 "BalconyCensus$Refusal" "reasonBehind" "I") (by decide +kernel)
  have hw4 := hts (.fieldLink RX11 21 "BalconyCensus$Refusal" "detailBehind" "I") (by decide +kernel)
  refine lv_aload_n hx hb dX11_note_0 rfl (lv_at hl 0 rfl) ?_
  refine lv_iload_n hx hb dX11_note_1 rfl (lv_at hl 1 rfl) ?_
  obtain ⟨v_1, ev_1, hf⟩ := nm_of hf
  refine va_put (D := D) (ci := 9) (v := .int a1) (ty := .int) (C := RX11) (T := TX11) (N := 4) hx hb hts hi9 tyX11 tyX11_ok nmX11 hown hK hP hD hS 0 rfl rfl 0 (by decide) hw1 (fun _ h9 => h9) rfl (by decide +kernel) rfl rfl (Nat.le_of_ble_eq_true rfl) dX11_note_2 (fun H locs hP hD hS => ?_)
  have hP : va_P D vwCl (kRef G q0 v_1) H := by rw [ev_1]; exact hP
  have hD : va_D A (kRef G q0 v_1) := by rw [ev_1]; exact hD
  refine lv_aload_n hx hb dX11_note_5 rfl (lv_at hl 0 rfl) ?_
  refine lv_iload_n hx hb dX11_note_6 rfl (lv_at hl 2 rfl) ?_
  obtain ⟨v_2, ev_2, hf⟩ := nm_of hf
  refine va_put (D := D) (ci := 9) (v := .int a2) (ty := .int) (C := RX11) (T := TX11) (N := 4) hx hb hts hi9 tyX11 tyX11_ok nmX11 hown hK hP hD hS 0 rfl rfl 1 (by decide) hw2 (fun _ h9 => h9) rfl (by decide +kernel) rfl rfl (Nat.le_of_ble_eq_true rfl) dX11_note_7 (fun H locs hP hD hS => ?_)
  have hP : va_P D vwCl (kRef G q0 v_2) H := by rw [ev_2]; exact hP
  have hD : va_D A (kRef G q0 v_2) := by rw [ev_2]; exact hD
  refine lv_aload_n hx hb dX11_note_10 rfl (lv_at hl 0 rfl) ?_
  refine lv_bipush (v := (-4)) hx hb dX11_note_11 (by decide +kernel) ?_
  obtain ⟨v_3, ev_3, hf⟩ := nm_of hf
  refine va_put (D := D) (ci := 9) (v := .int (-4)) (ty := .int) (C := RX11) (T := TX11) (N := 4) hx hb hts hi9 tyX11 tyX11_ok nmX11 hown hK hP hD hS 0 rfl rfl 2 (by decide) hw3 (fun _ h9 => h9) rfl (by decide +kernel) rfl rfl (Nat.le_of_ble_eq_true rfl) dX11_note_13 (fun H locs hP hD hS => ?_)
  have hP : va_P D vwCl (kRef G q0 v_3) H := by rw [ev_3]; exact hP
  have hD : va_D A (kRef G q0 v_3) := by rw [ev_3]; exact hD
  refine lv_aload_n hx hb dX11_note_16 rfl (lv_at hl 0 rfl) ?_
  refine lv_bipush (v := (-4)) hx hb dX11_note_17 (by decide +kernel) ?_
  obtain ⟨v_4, ev_4, hf⟩ := nm_of hf
  refine va_put (D := D) (ci := 9) (v := .int (-4)) (ty := .int) (C := RX11) (T := TX11) (N := 4) hx hb hts hi9 tyX11 tyX11_ok nmX11 hown hK hP hD hS 0 rfl rfl 3 (by decide) hw4 (fun _ h9 => h9) rfl (by decide +kernel) rfl rfl (Nat.le_of_ble_eq_true rfl) dX11_note_19 (fun H locs hP hD hS => ?_)
  have hP : va_P D vwCl (kRef G q0 v_4) H := by rw [ev_4]; exact hP
  have hD : va_D A (kRef G q0 v_4) := by rw [ev_4]; exact hD
  refine lv_bipush (v := (-3)) hx hb dX11_note_22 (by decide +kernel) ?_
  obtain ⟨rfl, rfl⟩ := re2 hf
  exact hE hP hD hS dX11_note_24
def f_X11_cover (a1 : Int32) (a2 : Int32) (v0 : SV) : Option (Int32 × SV) :=
  nm (pF v0 2 (v0.1 0)) fun v_1 =>
  nm (pF v_1 3 (v_1.1 1)) fun v_2 =>
  nm (pF v_2 0 a1) fun v_3 =>
  nm (pF v_3 1 a2) fun v_4 =>
  some ((-3), v_4)
abbrev rm_X11_cover : Room := { frames := 0, cells := 0, slots := 0, locals := 0 }
set_option maxHeartbeats 4000000 in
set_option maxRecDepth 100000 in
theorem c_X11_cover (l : Launch) (D : va_G) (G : Nat → ClassId) (q0 : Nat → Nat) (a1 : Int32) (a2 : Int32) (v0 : SV) (r : Int32) (v0' : SV) (hf : f_X11_cover a1 a2 v0 = some (r, v0')) (sz : Nat) : mC l yX11_cover wsX11_cover rm_X11_cover D (tyG G) kT [.ref (q0 0), .int a1, .int a2] (kRef G q0 v0) (kRef G q0 v0') sz (some (.int r)) 0 0 := by
  refine mC_ofI (cc := cX11_cover) (maxL := 3) (ret := (some .int)) (by decide) rfl rfl (Nat.le_of_ble_eq_true rfl) ?_
  intro p e s m args below meth c Q0 hx hb hml hts hown hN hK A hD hA hE hP hS hJ ls hl
  have hl : lv_has ls 3 [(0, .ref (q0 0)), (1, .int a1), (2, .int a2)] := hl
  unfold f_X11_cover at hf
  have hi9 : ∀ w ∈ u_ws RX11 TX11 4, w ∈ wsX11_cover := by decide +kernel
  have hw1 := hts (.fieldLink RX11 9 "BalconyCensus$Refusal" "reason" "I") (by decide +kernel)
  have hw2 := hts (.fieldLink RX11 18 "BalconyCensus$Refusal" "reasonBehind" "I") (by decide +kernel)
  have hw3 := hts (.fieldLink RX11 15 "BalconyCensus$Refusal" "detail" "I") (by decide +kernel)
  have hw4 := hts (.fieldLink RX11 21 "BalconyCensus$Refusal" "detailBehind" "I") (by decide +kernel)
  refine lv_aload_n hx hb dX11_cover_0 rfl (lv_at hl 0 rfl) ?_
  refine lv_aload_n hx hb dX11_cover_1 rfl (lv_at hl 0 rfl) ?_
  refine va_get (D := D) (ci := 9) (v := .int (v0.1 0)) (C := RX11) (T := TX11) (N := 4) hx hb hts hi9 hown hK hP 0 rfl rfl 0 (by decide) hw1 (fun _ h9 => h9) rfl dX11_cover_2 ?_
  obtain ⟨v_1, ev_1, hf⟩ := nm_of hf
  refine va_put (D := D) (ci := 9) (v := .int (v0.1 0)) (ty := .int) (C := RX11) (T := TX11) (N := 4) hx hb hts hi9 tyX11 tyX11_ok nmX11 hown hK hP hD hS 0 rfl rfl 2 (by decide) hw2 (fun _ h9 => h9) rfl (by decide +kernel) rfl rfl (Nat.le_of_ble_eq_true rfl) dX11_cover_5 (fun H locs hP hD hS => ?_)
  have hP : va_P D vwCl (kRef G q0 v_1) H := by rw [ev_1]; exact hP
  have hD : va_D A (kRef G q0 v_1) := by rw [ev_1]; exact hD
  refine lv_aload_n hx hb dX11_cover_8 rfl (lv_at hl 0 rfl) ?_
  refine lv_aload_n hx hb dX11_cover_9 rfl (lv_at hl 0 rfl) ?_
  refine va_get (D := D) (ci := 9) (v := .int (v_1.1 1)) (C := RX11) (T := TX11) (N := 4) hx hb hts hi9 hown hK hP 0 rfl rfl 1 (by decide) hw3 (fun _ h9 => h9) rfl dX11_cover_10 ?_
  obtain ⟨v_2, ev_2, hf⟩ := nm_of hf
  refine va_put (D := D) (ci := 9) (v := .int (v_1.1 1)) (ty := .int) (C := RX11) (T := TX11) (N := 4) hx hb hts hi9 tyX11 tyX11_ok nmX11 hown hK hP hD hS 0 rfl rfl 3 (by decide) hw4 (fun _ h9 => h9) rfl (by decide +kernel) rfl rfl (Nat.le_of_ble_eq_true rfl) dX11_cover_13 (fun H locs hP hD hS => ?_)
  have hP : va_P D vwCl (kRef G q0 v_2) H := by rw [ev_2]; exact hP
  have hD : va_D A (kRef G q0 v_2) := by rw [ev_2]; exact hD
  refine lv_aload_n hx hb dX11_cover_16 rfl (lv_at hl 0 rfl) ?_
  refine lv_iload_n hx hb dX11_cover_17 rfl (lv_at hl 1 rfl) ?_
  obtain ⟨v_3, ev_3, hf⟩ := nm_of hf
  refine va_put (D := D) (ci := 9) (v := .int a1) (ty := .int) (C := RX11) (T := TX11) (N := 4) hx hb hts hi9 tyX11 tyX11_ok nmX11 hown hK hP hD hS 0 rfl rfl 0 (by decide) hw1 (fun _ h9 => h9) rfl (by decide +kernel) rfl rfl (Nat.le_of_ble_eq_true rfl) dX11_cover_18 (fun H locs hP hD hS => ?_)
  have hP : va_P D vwCl (kRef G q0 v_3) H := by rw [ev_3]; exact hP
  have hD : va_D A (kRef G q0 v_3) := by rw [ev_3]; exact hD
  refine lv_aload_n hx hb dX11_cover_21 rfl (lv_at hl 0 rfl) ?_
  refine lv_iload_n hx hb dX11_cover_22 rfl (lv_at hl 2 rfl) ?_
  obtain ⟨v_4, ev_4, hf⟩ := nm_of hf
  refine va_put (D := D) (ci := 9) (v := .int a2) (ty := .int) (C := RX11) (T := TX11) (N := 4) hx hb hts hi9 tyX11 tyX11_ok nmX11 hown hK hP hD hS 0 rfl rfl 1 (by decide) hw3 (fun _ h9 => h9) rfl (by decide +kernel) rfl rfl (Nat.le_of_ble_eq_true rfl) dX11_cover_23 (fun H locs hP hD hS => ?_)
  have hP : va_P D vwCl (kRef G q0 v_4) H := by rw [ev_4]; exact hP
  have hD : va_D A (kRef G q0 v_4) := by rw [ev_4]; exact hD
  refine lv_bipush (v := (-3)) hx hb dX11_cover_26 (by decide +kernel) ?_
  obtain ⟨rfl, rfl⟩ := re2 hf
  exact hE hP hD hS dX11_cover_28
def f_J7_fill_53178_K5 (y_7 : Int32) (z_8 : (Nat → Int32)) : Option (Nat → Int32) :=
  some z_8
def f_J7_fill_53178_B5 (n0 : Nat) (a1 : Int32) (selfL_5 : (Int32 → (Nat → Int32) → Option (Nat → Int32))) (x_3 : Int32) (u_4 : (Nat → Int32)) : Option (Nat → Int32) :=
  if (Int32.ofNat n0) ≤ x_3 then
    f_J7_fill_53178_K5 x_3 u_4
  else
    ckI x_3 n0 <|
    nm (upd u_4 x_3.toNatClampNeg a1) fun v_6 =>
    selfL_5 (x_3 + 1) v_6
def f_J7_fill_53178 (a1 : Int32) (n0 : Nat) (v0 : Nat → Int32) : Option (Nat → Int32) :=
  lz2 (f_J7_fill_53178_B5 n0 a1) FU 0 v0
abbrev rm_J7_fill_53178 : Room := { frames := 0, cells := 0, slots := 0, locals := 0 }
set_option maxHeartbeats 4000000 in
set_option maxRecDepth 100000 in
theorem c_J7_fill_53178 (l : Launch) (D : va_G) (G : Nat → ClassId) (b0 n0 : Nat) (a1 : Int32) (v0 : Nat → Int32) (v0' : (Nat → Int32)) (hf : f_J7_fill_53178 a1 n0 v0 = some v0') (sz : Nat) : mC l yJ7_fill_53178 wsJ7_fill_53178 rm_J7_fill_53178 D (tyG G) kT [.ref b0, .int a1] (kArr G b0 n0 v0) (kArr G b0 n0 v0') sz none 0 0 := by
  refine mC_ofV (cc := cJ7_fill_53178) (maxL := 4) (ret := none) (by decide) rfl rfl (Nat.le_of_ble_eq_true rfl) ?_
  intro p e s m args below meth c Q0 hx hb hml hts hown hN hK A hD hA hE hP hS hJ ls hl
  have hl : lv_has ls 4 [(0, .ref b0), (1, .int a1)] := hl
  unfold f_J7_fill_53178 at hf
  refine lv_iconst (v := 0) hx hb dJ7_fill_53178_0 (by decide) ?_
  refine lv_istore_n (lv' := [(2, .int 0), (0, .ref b0), (1, .int a1)]) hx hb dJ7_fill_53178_1 rfl hl (by decide) rfl (fun ls hl => ?_)
  refine lv_aload_n hx hb dJ7_fill_53178_2 rfl (lv_at hl 1 rfl) ?_
  refine va_alen (D := D) (v := Int32.ofNat n0) hx hb hK hP 0 0 rfl rfl rfl dJ7_fill_53178_3 ?_
  refine lv_istore_n (lv' := [(3, .int (Int32.ofNat n0)), (2, .int 0), (0, .ref b0), (1, .int a1)]) hx hb dJ7_fill_53178_4 rfl hl (by decide) rfl (fun ls hl => ?_)
  have exL_5 : ∀ (y_7 : Int32) (z_8 : (Nat → Int32)) (H : Heap) (locs : List Loc) (ls : Array Slot), lv_has ls 4 [(3, .int (Int32.ofNat n0)), (2, .int y_7), (0, .ref b0), (1, .int a1)] → va_P D vwCl (kArr G b0 n0 z_8) H → va_D A (kArr G b0 n0 z_8) → va_S A s.heap H locs → f_J7_fill_53178_K5 y_7 z_8 = some v0' → W p l e rm_J7_fill_53178 s m args below meth c H locs 0 0 Q0 (F0 m 20 ls []) := by
    intro y_7 z_8 H locs ls hl hP hD hS hf
    unfold f_J7_fill_53178_K5 at hf
    obtain rfl := re1 hf
    exact hE hP hD hS dJ7_fill_53178_20
  have loL_5 : ∀ (n : Nat) (x_3 : Int32) (u_4 : (Nat → Int32)) (H : Heap) (locs : List Loc) (ls : Array Slot), lv_has ls 4 [(3, .int (Int32.ofNat n0)), (2, .int x_3), (0, .ref b0), (1, .int a1)] → va_P D vwCl (kArr G b0 n0 u_4) H → va_D A (kArr G b0 n0 u_4) → va_S A s.heap H locs → lz2 (f_J7_fill_53178_B5 n0 a1) n x_3 u_4 = some v0' → W p l e rm_J7_fill_53178 s m args below meth c H locs 0 0 Q0 (F0 m 5 ls []) := by
    intro n
    induction n with
    | zero => intro x_3 u_4 H locs ls hl hP hD hS hf; cases hf
    | succ n ihL_5 =>
      intro x_3 u_4 H locs ls hl hP hD hS hf
      replace hf := lz2_s hf
      unfold f_J7_fill_53178_B5 at hf
      refine lv_iload_n hx hb dJ7_fill_53178_5 rfl (lv_at hl 1 rfl) ?_
      refine lv_iload_n hx hb dJ7_fill_53178_6 rfl (lv_at hl 0 rfl) ?_
      refine lv_icmp_ge (tgt := 20) hx hb dJ7_fill_53178_7 (by decide) (fun cc => ?_) (fun cc => ?_)
      · replace hf := ifT cc hf
        exact exL_5 x_3 u_4 _ _ _ (lv_sub hl [0, 1, 2, 3] rfl) hP hD hS hf
      · replace hf := ifF cc hf
        refine lv_aload_n hx hb dJ7_fill_53178_10 rfl (lv_at hl 2 rfl) ?_
        refine lv_iload_n hx hb dJ7_fill_53178_11 rfl (lv_at hl 1 rfl) ?_
        refine lv_iload_n hx hb dJ7_fill_53178_12 rfl (lv_at hl 3 rfl) ?_
        obtain ⟨hin, hf⟩ := ckI_of hf
        obtain ⟨v_6, ev_6, hf⟩ := nm_of hf
        refine va_iast (D := D) hx hb hK hP hD hS 0 0 rfl rfl hin dJ7_fill_53178_13 (fun H locs hP hD hS => ?_)
        have hP : va_P D vwCl (kArr G b0 n0 v_6) H := by rw [ev_6]; exact hP
        have hD : va_D A (kArr G b0 n0 v_6) := by rw [ev_6]; exact hD
        refine lv_iinc (v := (x_3 + 1)) (lv' := [(2, .int (x_3 + 1)), (3, .int (Int32.ofNat n0)), (0, .ref b0), (1, .int a1)]) hx hb dJ7_fill_53178_14 hl (k := 1) rfl rfl (by decide) rfl (fun ls hl => ?_)
        refine lv_goto (tgt := 5) hx hb dJ7_fill_53178_17 (by decide) ?_
        exact ihL_5 (x_3 + 1) v_6 _ _ _ (lv_sub hl [1, 0, 2, 3] rfl) hP hD hS hf
  exact loL_5 FU 0 v0 _ _ _ hl hP hD hS hf
def f_X7_becomeNew (v0 : SV) : Option SV :=
  nm (pF v0 4 0) fun v_1 =>
  nm (pF v_1 5 0) fun v_2 =>
  some v_2
abbrev rm_X7_becomeNew : Room := { frames := 0, cells := 0, slots := 0, locals := 0 }
set_option maxHeartbeats 4000000 in
set_option maxRecDepth 100000 in
theorem c_X7_becomeNew (l : Launch) (D : va_G) (G : Nat → ClassId) (q0 : Nat → Nat) (v0 : SV) (v0' : SV) (hf : f_X7_becomeNew v0 = some v0') (sz : Nat) : mC l yX7_becomeNew wsX7_becomeNew rm_X7_becomeNew D (tyG G) kT [.ref (q0 3)] (kLines G q0 v0) (kLines G q0 v0') sz none 0 0 := by
  refine mC_ofV (cc := cX7_becomeNew) (maxL := 1) (ret := none) (by decide) rfl rfl (Nat.le_of_ble_eq_true rfl) ?_
  intro p e s m args below meth c Q0 hx hb hml hts hown hN hK A hD hA hE hP hS hJ ls hl
  have hl : lv_has ls 1 [(0, .ref (q0 3))] := hl
  unfold f_X7_becomeNew at hf
  have hi5 : ∀ w ∈ u_ws RX7 TX7 5, w ∈ wsX7_becomeNew := by decide +kernel
  have hw1 := hts (.fieldLink RX7 21 "BalconyCensus$Lines" "count" "I") (by decide +kernel)
  have hw2 := hts (.fieldLink RX7 25 "BalconyCensus$Lines" "hungSoFar" "I") (by decide +kernel)
  refine lv_aload_n hx hb dX7_becomeNew_0 rfl (lv_at hl 0 rfl) ?_
  refine lv_iconst (v := 0) hx hb dX7_becomeNew_1 (by decide) ?_
  obtain ⟨v_1, ev_1, hf⟩ := nm_of hf
  refine va_put (D := D) (ci := 5) (v := .int 0) (ty := .int) (C := RX7) (T := TX7) (N := 5) hx hb hts hi5 tyX7 tyX7_ok nmX7 hown hK hP hD hS 0 rfl rfl 3 (by decide) hw1 (fun _ h9 => h9) rfl (by decide +kernel) rfl rfl (Nat.le_of_ble_eq_true rfl) dX7_becomeNew_2 (fun H locs hP hD hS => ?_)
  have hP : va_P D vwCl (kLines G q0 v_1) H := by rw [ev_1]; exact hP
  have hD : va_D A (kLines G q0 v_1) := by rw [ev_1]; exact hD
  refine lv_aload_n hx hb dX7_becomeNew_5 rfl (lv_at hl 0 rfl) ?_
  refine lv_iconst (v := 0) hx hb dX7_becomeNew_6 (by decide) ?_
  obtain ⟨v_2, ev_2, hf⟩ := nm_of hf
  refine va_put (D := D) (ci := 5) (v := .int 0) (ty := .int) (C := RX7) (T := TX7) (N := 5) hx hb hts hi5 tyX7 tyX7_ok nmX7 hown hK hP hD hS 0 rfl rfl 4 (by decide) hw2 (fun _ h9 => h9) rfl (by decide +kernel) rfl rfl (Nat.le_of_ble_eq_true rfl) dX7_becomeNew_7 (fun H locs hP hD hS => ?_)
  have hP : va_P D vwCl (kLines G q0 v_2) H := by rw [ev_2]; exact hP
  have hD : va_D A (kLines G q0 v_2) := by rw [ev_2]; exact hD
  obtain rfl := re1 hf
  exact hE hP hD hS dX7_becomeNew_10
def f_X7_take (v0 : SV) (v1 : SV) : Option SV :=
  nm (pR v0 2 (va_cpy (v1.2 2) (v0.2 2) (0 : Int32).toNatClampNeg (0 : Int32).toNatClampNeg (6 : Int32).toNatClampNeg)) fun v_1 =>
  nm (pR v_1 3 (va_cpy (v1.2 3) (v_1.2 3) (0 : Int32).toNatClampNeg (0 : Int32).toNatClampNeg (6 : Int32).toNatClampNeg)) fun v_2 =>
  nm (pR v_2 4 (va_cpy (v1.2 4) (v_2.2 4) (0 : Int32).toNatClampNeg (0 : Int32).toNatClampNeg (6 : Int32).toNatClampNeg)) fun v_3 =>
  nm (pF v_3 4 (v1.1 4)) fun v_4 =>
  nm (pF v_4 5 (v1.1 5)) fun v_5 =>
  some v_5
abbrev rm_X7_take : Room := { frames := 1, cells := 0, slots := 0, locals := 18 }
set_option maxHeartbeats 4000000 in
set_option maxRecDepth 100000 in
theorem c_X7_take (l : Launch) (D : va_G) (G : Nat → ClassId) (q0 : Nat → Nat) (q1 : Nat → Nat) (v0 : SV) (v1 : SV) (v0' : SV) (hf : f_X7_take v0 v1 = some v0') (sz : Nat) : mC l yX7_take wsX7_take rm_X7_take D (tyG G) kT [.ref (q0 3), .ref (q1 3)] (kLines G q0 v0 ++ kLines G q1 v1) (kLines G q0 v0' ++ kLines G q1 v1) sz none 0 0 := by
  refine mC_ofV (cc := cX7_take) (maxL := 2) (ret := none) (by decide) rfl rfl (Nat.le_of_ble_eq_true rfl) ?_
  intro p e s m args below meth c Q0 hx hb hml hts hown hN hK A hD hA hE hP hS hJ ls hl
  have hl : lv_has ls 2 [(0, .ref (q0 3)), (1, .ref (q1 3))] := hl
  unfold f_X7_take at hf
  have hi5 : ∀ w ∈ u_ws RX7 TX7 5, w ∈ wsX7_take := by decide +kernel
  have hw1 := hts (.fieldLink RX7 9 "BalconyCensus$Lines" "lower" "[I") (by decide +kernel)
  have hw2 := hts (.methodLink RX7 28 arraycopyName) (by decide +kernel)
  have hw3 := hts (.native arraycopyName) (by decide +kernel)
  have hw4 := hts (.static arraycopyName) (by decide +kernel)
  have hw5 := hts (.initialized "java/lang/System") (by decide +kernel)
  have hw6 := hts (.fieldLink RX7 15 "BalconyCensus$Lines" "higher" "[I") (by decide +kernel)
  have hw7 := hts (.fieldLink RX7 18 "BalconyCensus$Lines" "daysLeft" "[I") (by decide +kernel)
  have hw8 := hts (.fieldLink RX7 21 "BalconyCensus$Lines" "count" "I") (by decide +kernel)
  have hw9 := hts (.fieldLink RX7 25 "BalconyCensus$Lines" "hungSoFar" "I") (by decide +kernel)
  refine lv_aload_n hx hb dX7_take_0 rfl (lv_at hl 1 rfl) ?_
  refine va_get (D := D) (ci := 5) (v := .ref (q1 4)) (C := RX7) (T := TX7) (N := 5) hx hb hts hi5 hown hK hP 4 rfl rfl 0 (by decide) hw1 (fun _ h9 => h9) rfl dX7_take_1 ?_
  refine lv_iconst (v := 0) hx hb dX7_take_4 (by decide) ?_
  refine lv_aload_n hx hb dX7_take_5 rfl (lv_at hl 0 rfl) ?_
  refine va_get (D := D) (ci := 5) (v := .ref (q0 4)) (C := RX7) (T := TX7) (N := 5) hx hb hts hi5 hown hK hP 0 rfl rfl 0 (by decide) hw1 (fun _ h9 => h9) rfl dX7_take_6 ?_
  refine lv_iconst (v := 0) hx hb dX7_take_9 (by decide) ?_
  refine lv_bipush (v := 6) hx hb dX7_take_10 (by decide +kernel) ?_
  obtain ⟨v_1, ev_1, hf⟩ := nm_of hf
  refine va_copyi (D := D) (ty := .int) (c0 := G 0) (c1 := G 0) hx hb (hml.trans hl.1.symm) hown hw2 hw3 hw4 hw5 hK hP hD hS 5 1 0 0 rfl rfl rfl rfl rfl (by decide) (by decide) (by decide) (by decide) (by decide) (fun _ _ => rfl) (Nat.le_of_ble_eq_true rfl) (Nat.le_of_ble_eq_true rfl) dX7_take_12 (fun H locs hP hD hS => ?_)
  have hP : va_P D vwCl (kLines G q0 v_1 ++ kLines G q1 v1) H := by rw [ev_1]; exact hP
  have hD : va_D A (kLines G q0 v_1 ++ kLines G q1 v1) := by rw [ev_1]; exact hD
  refine lv_aload_n hx hb dX7_take_15 rfl (lv_at hl 1 rfl) ?_
  refine va_get (D := D) (ci := 5) (v := .ref (q1 5)) (C := RX7) (T := TX7) (N := 5) hx hb hts hi5 hown hK hP 4 rfl rfl 1 (by decide) hw6 (fun _ h9 => h9) rfl dX7_take_16 ?_
  refine lv_iconst (v := 0) hx hb dX7_take_19 (by decide) ?_
  refine lv_aload_n hx hb dX7_take_20 rfl (lv_at hl 0 rfl) ?_
  refine va_get (D := D) (ci := 5) (v := .ref (q0 5)) (C := RX7) (T := TX7) (N := 5) hx hb hts hi5 hown hK hP 0 rfl rfl 1 (by decide) hw6 (fun _ h9 => h9) rfl dX7_take_21 ?_
  refine lv_iconst (v := 0) hx hb dX7_take_24 (by decide) ?_
  refine lv_bipush (v := 6) hx hb dX7_take_25 (by decide +kernel) ?_
  obtain ⟨v_2, ev_2, hf⟩ := nm_of hf
  refine va_copyi (D := D) (ty := .int) (c0 := G 0) (c1 := G 0) hx hb (hml.trans hl.1.symm) hown hw2 hw3 hw4 hw5 hK hP hD hS 6 2 0 0 rfl rfl rfl rfl rfl (by decide) (by decide) (by decide) (by decide) (by decide) (fun _ _ => rfl) (Nat.le_of_ble_eq_true rfl) (Nat.le_of_ble_eq_true rfl) dX7_take_27 (fun H locs hP hD hS => ?_)
  have hP : va_P D vwCl (kLines G q0 v_2 ++ kLines G q1 v1) H := by rw [ev_2]; exact hP
  have hD : va_D A (kLines G q0 v_2 ++ kLines G q1 v1) := by rw [ev_2]; exact hD
  refine lv_aload_n hx hb dX7_take_30 rfl (lv_at hl 1 rfl) ?_
  refine va_get (D := D) (ci := 5) (v := .ref (q1 6)) (C := RX7) (T := TX7) (N := 5) hx hb hts hi5 hown hK hP 4 rfl rfl 2 (by decide) hw7 (fun _ h9 => h9) rfl dX7_take_31 ?_
  refine lv_iconst (v := 0) hx hb dX7_take_34 (by decide) ?_
  refine lv_aload_n hx hb dX7_take_35 rfl (lv_at hl 0 rfl) ?_
  refine va_get (D := D) (ci := 5) (v := .ref (q0 6)) (C := RX7) (T := TX7) (N := 5) hx hb hts hi5 hown hK hP 0 rfl rfl 2 (by decide) hw7 (fun _ h9 => h9) rfl dX7_take_36 ?_
  refine lv_iconst (v := 0) hx hb dX7_take_39 (by decide) ?_
  refine lv_bipush (v := 6) hx hb dX7_take_40 (by decide +kernel) ?_
  obtain ⟨v_3, ev_3, hf⟩ := nm_of hf
  refine va_copyi (D := D) (ty := .int) (c0 := G 0) (c1 := G 0) hx hb (hml.trans hl.1.symm) hown hw2 hw3 hw4 hw5 hK hP hD hS 7 3 0 0 rfl rfl rfl rfl rfl (by decide) (by decide) (by decide) (by decide) (by decide) (fun _ _ => rfl) (Nat.le_of_ble_eq_true rfl) (Nat.le_of_ble_eq_true rfl) dX7_take_42 (fun H locs hP hD hS => ?_)
  have hP : va_P D vwCl (kLines G q0 v_3 ++ kLines G q1 v1) H := by rw [ev_3]; exact hP
  have hD : va_D A (kLines G q0 v_3 ++ kLines G q1 v1) := by rw [ev_3]; exact hD
  refine lv_aload_n hx hb dX7_take_45 rfl (lv_at hl 0 rfl) ?_
  refine lv_aload_n hx hb dX7_take_46 rfl (lv_at hl 1 rfl) ?_
  refine va_get (D := D) (ci := 5) (v := .int (v1.1 4)) (C := RX7) (T := TX7) (N := 5) hx hb hts hi5 hown hK hP 4 rfl rfl 3 (by decide) hw8 (fun _ h9 => h9) rfl dX7_take_47 ?_
  obtain ⟨v_4, ev_4, hf⟩ := nm_of hf
  refine va_put (D := D) (ci := 5) (v := .int (v1.1 4)) (ty := .int) (C := RX7) (T := TX7) (N := 5) hx hb hts hi5 tyX7 tyX7_ok nmX7 hown hK hP hD hS 0 rfl rfl 3 (by decide) hw8 (fun _ h9 => h9) rfl (by decide +kernel) rfl rfl (Nat.le_of_ble_eq_true rfl) dX7_take_50 (fun H locs hP hD hS => ?_)
  have hP : va_P D vwCl (kLines G q0 v_4 ++ kLines G q1 v1) H := by rw [ev_4]; exact hP
  have hD : va_D A (kLines G q0 v_4 ++ kLines G q1 v1) := by rw [ev_4]; exact hD
  refine lv_aload_n hx hb dX7_take_53 rfl (lv_at hl 0 rfl) ?_
  refine lv_aload_n hx hb dX7_take_54 rfl (lv_at hl 1 rfl) ?_
  refine va_get (D := D) (ci := 5) (v := .int (v1.1 5)) (C := RX7) (T := TX7) (N := 5) hx hb hts hi5 hown hK hP 4 rfl rfl 4 (by decide) hw9 (fun _ h9 => h9) rfl dX7_take_55 ?_
  obtain ⟨v_5, ev_5, hf⟩ := nm_of hf
  refine va_put (D := D) (ci := 5) (v := .int (v1.1 5)) (ty := .int) (C := RX7) (T := TX7) (N := 5) hx hb hts hi5 tyX7 tyX7_ok nmX7 hown hK hP hD hS 0 rfl rfl 4 (by decide) hw9 (fun _ h9 => h9) rfl (by decide +kernel) rfl rfl (Nat.le_of_ble_eq_true rfl) dX7_take_58 (fun H locs hP hD hS => ?_)
  have hP : va_P D vwCl (kLines G q0 v_5 ++ kLines G q1 v1) H := by rw [ev_5]; exact hP
  have hD : va_D A (kLines G q0 v_5 ++ kLines G q1 v1) := by rw [ev_5]; exact hD
  obtain rfl := re1 hf
  exact hE hP hD hS dX7_take_61
def f_X7_between_K26 (y_8 : Int32) : Option Int32 :=
  some (-1)
def f_X7_between_B26 (v0 : SV) (j_2 : Int32) (j_4 : Int32) (selfL_7 : (Int32 → Option Int32)) (x_6 : Int32) : Option Int32 :=
  if (v0.1 4) ≤ x_6 then
    f_X7_between_K26 x_6
  else
    ckI x_6 6 <|
    if (v0.2 2 x_6.toNatClampNeg) = j_2 then
      ckI x_6 6 <|
      if (v0.2 3 x_6.toNatClampNeg) = j_4 then
        some x_6
      else
        selfL_7 (x_6 + 1)
    else
      selfL_7 (x_6 + 1)
def f_X7_between_J21 (v0 : SV) (j_2 : Int32) (j_4 : Int32) : Option Int32 :=
  lz1 (f_X7_between_B26 v0 j_2 j_4) FU 0
def f_X7_between_J10 (a2 : Int32) (a1 : Int32) (v0 : SV) (j_2 : Int32) : Option Int32 :=
  if a2 ≤ a1 then
    f_X7_between_J21 v0 j_2 a1
  else
    f_X7_between_J21 v0 j_2 a2
def f_X7_between (a1 : Int32) (a2 : Int32) (v0 : SV) : Option Int32 :=
  if a2 ≤ a1 then
    f_X7_between_J10 a2 a1 v0 a2
  else
    f_X7_between_J10 a2 a1 v0 a1
abbrev rm_X7_between : Room := { frames := 0, cells := 0, slots := 0, locals := 0 }
set_option maxHeartbeats 4000000 in
set_option maxRecDepth 100000 in
theorem c_X7_between (l : Launch) (D : va_G) (G : Nat → ClassId) (q0 : Nat → Nat) (a1 : Int32) (a2 : Int32) (v0 : SV) (r : Int32) (hf : f_X7_between a1 a2 v0 = some r) (sz : Nat) : mC l yX7_between wsX7_between rm_X7_between D (tyG G) kT [.ref (q0 3), .int a1, .int a2] (kLines G q0 v0) (kLines G q0 v0) sz (some (.int r)) 0 0 := by
  refine mC_ofI (cc := cX7_between) (maxL := 6) (ret := (some .int)) (by decide) rfl rfl (Nat.le_of_ble_eq_true rfl) ?_
  intro p e s m args below meth c Q0 hx hb hml hts hown hN hK A hD hA hE hP hS hJ ls hl
  have hl : lv_has ls 6 [(0, .ref (q0 3)), (1, .int a1), (2, .int a2)] := hl
  unfold f_X7_between at hf
  have hi5 : ∀ w ∈ u_ws RX7 TX7 5, w ∈ wsX7_between := by decide +kernel
  have hw1 := hts (.fieldLink RX7 21 "BalconyCensus$Lines" "count" "I") (by decide +kernel)
  have hw2 := hts (.fieldLink RX7 9 "BalconyCensus$Lines" "lower" "[I") (by decide +kernel)
  have hw3 := hts (.fieldLink RX7 15 "BalconyCensus$Lines" "higher" "[I") (by decide +kernel)
  refine lv_iload_n hx hb dX7_between_0 rfl (lv_at hl 1 rfl) ?_
  refine lv_iload_n hx hb dX7_between_1 rfl (lv_at hl 2 rfl) ?_
  have jnJ_1 : ∀ (j_2 : Int32) (H : Heap) (locs : List Loc) (ls : Array Slot), lv_has ls 6 [(0, .ref (q0 3)), (1, .int a1), (2, .int a2)] → va_P D vwCl (kLines G q0 v0) H → va_D A (kLines G q0 v0) → va_S A s.heap H locs → f_X7_between_J10 a2 a1 v0 j_2 = some r → W p l e rm_X7_between s m args below meth c H locs 0 0 Q0 (F0 m 10 ls [.int j_2]) := by
    intro j_2 H locs ls hl hP hD hS hf
    unfold f_X7_between_J10 at hf
    refine lv_istore_n (lv' := [(3, .int j_2), (0, .ref (q0 3)), (1, .int a1), (2, .int a2)]) hx hb dX7_between_10 rfl hl (by decide) rfl (fun ls hl => ?_)
    refine lv_iload_n hx hb dX7_between_11 rfl (lv_at hl 2 rfl) ?_
    refine lv_iload_n hx hb dX7_between_12 rfl (lv_at hl 3 rfl) ?_
    have jnJ_3 : ∀ (j_4 : Int32) (H : Heap) (locs : List Loc) (ls : Array Slot), lv_has ls 6 [(3, .int j_2), (0, .ref (q0 3)), (1, .int a1), (2, .int a2)] → va_P D vwCl (kLines G q0 v0) H → va_D A (kLines G q0 v0) → va_S A s.heap H locs → f_X7_between_J21 v0 j_2 j_4 = some r → W p l e rm_X7_between s m args below meth c H locs 0 0 Q0 (F0 m 21 ls [.int j_4]) := by
      intro j_4 H locs ls hl hP hD hS hf
      unfold f_X7_between_J21 at hf
      refine lv_istore (lv' := [(4, .int j_4), (3, .int j_2), (0, .ref (q0 3)), (1, .int a1), (2, .int a2)]) hx hb dX7_between_21 hl (by decide) rfl (fun ls hl => ?_)
      refine lv_iconst (v := 0) hx hb dX7_between_23 (by decide) ?_
      refine lv_istore (lv' := [(5, .int 0), (4, .int j_4), (3, .int j_2), (0, .ref (q0 3)), (1, .int a1), (2, .int a2)]) hx hb dX7_between_24 hl (by decide) rfl (fun ls hl => ?_)
      have exL_7 : ∀ (y_8 : Int32) (H : Heap) (locs : List Loc) (ls : Array Slot), lv_has ls 6 [(5, .int y_8), (4, .int j_4), (3, .int j_2), (0, .ref (q0 3)), (1, .int a1), (2, .int a2)] → va_P D vwCl (kLines G q0 v0) H → va_D A (kLines G q0 v0) → va_S A s.heap H locs → f_X7_between_K26 y_8 = some r → W p l e rm_X7_between s m args below meth c H locs 0 0 Q0 (F0 m 67 ls []) := by
        intro y_8 H locs ls hl hP hD hS hf
        unfold f_X7_between_K26 at hf
        refine lv_iconst (v := (-1)) hx hb dX7_between_67 (by decide) ?_
        obtain rfl := re1 hf
        exact hE hP hD hS dX7_between_68
      have loL_7 : ∀ (n : Nat) (x_6 : Int32) (H : Heap) (locs : List Loc) (ls : Array Slot), lv_has ls 6 [(5, .int x_6), (4, .int j_4), (3, .int j_2), (0, .ref (q0 3)), (1, .int a1), (2, .int a2)] → va_P D vwCl (kLines G q0 v0) H → va_D A (kLines G q0 v0) → va_S A s.heap H locs → lz1 (f_X7_between_B26 v0 j_2 j_4) n x_6 = some r → W p l e rm_X7_between s m args below meth c H locs 0 0 Q0 (F0 m 26 ls []) := by
        intro n
        induction n with
        | zero => intro x_6 H locs ls hl hP hD hS hf; cases hf
        | succ n ihL_7 =>
          intro x_6 H locs ls hl hP hD hS hf
          replace hf := lz1_s hf
          unfold f_X7_between_B26 at hf
          refine lv_iload hx hb dX7_between_26 (lv_at hl 0 rfl) ?_
          refine lv_aload_n hx hb dX7_between_28 rfl (lv_at hl 3 rfl) ?_
          refine va_get (D := D) (ci := 5) (v := .int (v0.1 4)) (C := RX7) (T := TX7) (N := 5) hx hb hts hi5 hown hK hP 0 rfl rfl 3 (by decide) hw1 (fun _ h9 => h9) rfl dX7_between_29 ?_
          refine lv_icmp_ge (tgt := 67) hx hb dX7_between_32 (by decide) (fun cc => ?_) (fun cc => ?_)
          · replace hf := ifT cc hf
            exact exL_7 x_6 _ _ _ (lv_sub hl [0, 1, 2, 3, 4, 5] rfl) hP hD hS hf
          · replace hf := ifF cc hf
            refine lv_aload_n hx hb dX7_between_35 rfl (lv_at hl 3 rfl) ?_
            refine va_get (D := D) (ci := 5) (v := .ref (q0 4)) (C := RX7) (T := TX7) (N := 5) hx hb hts hi5 hown hK hP 0 rfl rfl 0 (by decide) hw2 (fun _ h9 => h9) rfl dX7_between_36 ?_
            refine lv_iload hx hb dX7_between_39 (lv_at hl 0 rfl) ?_
            obtain ⟨hin, hf⟩ := ckI_of hf
            refine va_iald (D := D) hx hb hK hP 1 0 rfl rfl hin dX7_between_41 ?_
            refine lv_iload_n hx hb dX7_between_42 rfl (lv_at hl 2 rfl) ?_
            refine lv_icmp_ne (tgt := 61) hx hb dX7_between_43 (by decide) (fun cc => ?_) (fun cc => ?_)
            · replace hf := ifF cc hf
              refine lv_iinc (v := (x_6 + 1)) (lv' := [(5, .int (x_6 + 1)), (4, .int j_4), (3, .int j_2), (0, .ref (q0 3)), (1, .int a1), (2, .int a2)]) hx hb dX7_between_61 hl (k := 0) rfl rfl (by decide) rfl (fun ls hl => ?_)
              refine lv_goto (tgt := 26) hx hb dX7_between_64 (by decide) ?_
              exact ihL_7 (x_6 + 1) _ _ _ (lv_sub hl [0, 1, 2, 3, 4, 5] rfl) hP hD hS hf
            · replace hf := ifT cc hf
              refine lv_aload_n hx hb dX7_between_46 rfl (lv_at hl 3 rfl) ?_
              refine va_get (D := D) (ci := 5) (v := .ref (q0 5)) (C := RX7) (T := TX7) (N := 5) hx hb hts hi5 hown hK hP 0 rfl rfl 1 (by decide) hw3 (fun _ h9 => h9) rfl dX7_between_47 ?_
              refine lv_iload hx hb dX7_between_50 (lv_at hl 0 rfl) ?_
              obtain ⟨hin, hf⟩ := ckI_of hf
              refine va_iald (D := D) hx hb hK hP 2 0 rfl rfl hin dX7_between_52 ?_
              refine lv_iload hx hb dX7_between_53 (lv_at hl 1 rfl) ?_
              refine lv_icmp_ne (tgt := 61) hx hb dX7_between_55 (by decide) (fun cc => ?_) (fun cc => ?_)
              · replace hf := ifF cc hf
                refine lv_iinc (v := (x_6 + 1)) (lv' := [(5, .int (x_6 + 1)), (4, .int j_4), (3, .int j_2), (0, .ref (q0 3)), (1, .int a1), (2, .int a2)]) hx hb dX7_between_61 hl (k := 0) rfl rfl (by decide) rfl (fun ls hl => ?_)
                refine lv_goto (tgt := 26) hx hb dX7_between_64 (by decide) ?_
                exact ihL_7 (x_6 + 1) _ _ _ (lv_sub hl [0, 1, 2, 3, 4, 5] rfl) hP hD hS hf
              · replace hf := ifT cc hf
                refine lv_iload hx hb dX7_between_58 (lv_at hl 0 rfl) ?_
                obtain rfl := re1 hf
                exact hE hP hD hS dX7_between_60
      exact loL_7 FU 0 _ _ _ hl hP hD hS hf
    refine lv_icmp_ge (tgt := 20) hx hb dX7_between_13 (by decide) (fun cc => ?_) (fun cc => ?_)
    · replace hf := ifT cc hf
      refine lv_iload_n hx hb dX7_between_20 rfl (lv_at hl 2 rfl) ?_
      exact jnJ_3 a1 _ _ _ (lv_sub hl [0, 1, 2, 3] rfl) hP hD hS hf
    · replace hf := ifF cc hf
      refine lv_iload_n hx hb dX7_between_16 rfl (lv_at hl 3 rfl) ?_
      refine lv_goto (tgt := 21) hx hb dX7_between_17 (by decide) ?_
      exact jnJ_3 a2 _ _ _ (lv_sub hl [0, 1, 2, 3] rfl) hP hD hS hf
  refine lv_icmp_ge (tgt := 9) hx hb dX7_between_2 (by decide) (fun cc => ?_) (fun cc => ?_)
  · replace hf := ifT cc hf
    refine lv_iload_n hx hb dX7_between_9 rfl (lv_at hl 2 rfl) ?_
    exact jnJ_1 a2 _ _ _ (lv_sub hl [0, 1, 2] rfl) hP hD hS hf
  · replace hf := ifF cc hf
    refine lv_iload_n hx hb dX7_between_5 rfl (lv_at hl 1 rfl) ?_
    refine lv_goto (tgt := 10) hx hb dX7_between_6 (by decide) ?_
    exact jnJ_1 a1 _ _ _ (lv_sub hl [0, 1, 2] rfl) hP hD hS hf
def f_X7_countAt_K4 (y_5 : Int32) (y_6 : Int32) : Option Int32 :=
  some y_6
def f_X7_countAt_B4 (v0 : SV) (a1 : Int32) (selfL_4 : (Int32 → Int32 → Option Int32)) (x_2 : Int32) (x_3 : Int32) : Option Int32 :=
  if (v0.1 4) ≤ x_2 then
    f_X7_countAt_K4 x_2 x_3
  else
    ckI x_2 6 <|
    if (v0.2 2 x_2.toNatClampNeg) = a1 then
      selfL_4 (x_2 + 1) (x_3 + 1)
    else
      ckI x_2 6 <|
      if (v0.2 3 x_2.toNatClampNeg) = a1 then
        selfL_4 (x_2 + 1) (x_3 + 1)
      else
        selfL_4 (x_2 + 1) x_3
def f_X7_countAt (a1 : Int32) (v0 : SV) : Option Int32 :=
  lz2 (f_X7_countAt_B4 v0 a1) FU 0 0
abbrev rm_X7_countAt : Room := { frames := 0, cells := 0, slots := 0, locals := 0 }
set_option maxHeartbeats 4000000 in
set_option maxRecDepth 100000 in
theorem c_X7_countAt (l : Launch) (D : va_G) (G : Nat → ClassId) (q0 : Nat → Nat) (a1 : Int32) (v0 : SV) (r : Int32) (hf : f_X7_countAt a1 v0 = some r) (sz : Nat) : mC l yX7_countAt wsX7_countAt rm_X7_countAt D (tyG G) kT [.ref (q0 3), .int a1] (kLines G q0 v0) (kLines G q0 v0) sz (some (.int r)) 0 0 := by
  refine mC_ofI (cc := cX7_countAt) (maxL := 4) (ret := (some .int)) (by decide) rfl rfl (Nat.le_of_ble_eq_true rfl) ?_
  intro p e s m args below meth c Q0 hx hb hml hts hown hN hK A hD hA hE hP hS hJ ls hl
  have hl : lv_has ls 4 [(0, .ref (q0 3)), (1, .int a1)] := hl
  unfold f_X7_countAt at hf
  have hi5 : ∀ w ∈ u_ws RX7 TX7 5, w ∈ wsX7_countAt := by decide +kernel
  have hw1 := hts (.fieldLink RX7 21 "BalconyCensus$Lines" "count" "I") (by decide +kernel)
  have hw2 := hts (.fieldLink RX7 9 "BalconyCensus$Lines" "lower" "[I") (by decide +kernel)
  have hw3 := hts (.fieldLink RX7 15 "BalconyCensus$Lines" "higher" "[I") (by decide +kernel)
  refine lv_iconst (v := 0) hx hb dX7_countAt_0 (by decide) ?_
  refine lv_istore_n (lv' := [(2, .int 0), (0, .ref (q0 3)), (1, .int a1)]) hx hb dX7_countAt_1 rfl hl (by decide) rfl (fun ls hl => ?_)
  refine lv_iconst (v := 0) hx hb dX7_countAt_2 (by decide) ?_
  refine lv_istore_n (lv' := [(3, .int 0), (2, .int 0), (0, .ref (q0 3)), (1, .int a1)]) hx hb dX7_countAt_3 rfl hl (by decide) rfl (fun ls hl => ?_)
  have exL_4 : ∀ (y_5 : Int32) (y_6 : Int32) (H : Heap) (locs : List Loc) (ls : Array Slot), lv_has ls 4 [(3, .int y_5), (2, .int y_6), (0, .ref (q0 3)), (1, .int a1)] → va_P D vwCl (kLines G q0 v0) H → va_D A (kLines G q0 v0) → va_S A s.heap H locs → f_X7_countAt_K4 y_5 y_6 = some r → W p l e rm_X7_countAt s m args below meth c H locs 0 0 Q0 (F0 m 41 ls []) := by
    intro y_5 y_6 H locs ls hl hP hD hS hf
    unfold f_X7_countAt_K4 at hf
    refine lv_iload_n hx hb dX7_countAt_41 rfl (lv_at hl 1 rfl) ?_
    obtain rfl := re1 hf
    exact hE hP hD hS dX7_countAt_42
  have loL_4 : ∀ (n : Nat) (x_2 : Int32) (x_3 : Int32) (H : Heap) (locs : List Loc) (ls : Array Slot), lv_has ls 4 [(3, .int x_2), (2, .int x_3), (0, .ref (q0 3)), (1, .int a1)] → va_P D vwCl (kLines G q0 v0) H → va_D A (kLines G q0 v0) → va_S A s.heap H locs → lz2 (f_X7_countAt_B4 v0 a1) n x_2 x_3 = some r → W p l e rm_X7_countAt s m args below meth c H locs 0 0 Q0 (F0 m 4 ls []) := by
    intro n
    induction n with
    | zero => intro x_2 x_3 H locs ls hl hP hD hS hf; cases hf
    | succ n ihL_4 =>
      intro x_2 x_3 H locs ls hl hP hD hS hf
      replace hf := lz2_s hf
      unfold f_X7_countAt_B4 at hf
      refine lv_iload_n hx hb dX7_countAt_4 rfl (lv_at hl 0 rfl) ?_
      refine lv_aload_n hx hb dX7_countAt_5 rfl (lv_at hl 2 rfl) ?_
      refine va_get (D := D) (ci := 5) (v := .int (v0.1 4)) (C := RX7) (T := TX7) (N := 5) hx hb hts hi5 hown hK hP 0 rfl rfl 3 (by decide) hw1 (fun _ h9 => h9) rfl dX7_countAt_6 ?_
      refine lv_icmp_ge (tgt := 41) hx hb dX7_countAt_9 (by decide) (fun cc => ?_) (fun cc => ?_)
      · replace hf := ifT cc hf
        exact exL_4 x_2 x_3 _ _ _ (lv_sub hl [0, 1, 2, 3] rfl) hP hD hS hf
      · replace hf := ifF cc hf
        refine lv_aload_n hx hb dX7_countAt_12 rfl (lv_at hl 2 rfl) ?_
        refine va_get (D := D) (ci := 5) (v := .ref (q0 4)) (C := RX7) (T := TX7) (N := 5) hx hb hts hi5 hown hK hP 0 rfl rfl 0 (by decide) hw2 (fun _ h9 => h9) rfl dX7_countAt_13 ?_
        refine lv_iload_n hx hb dX7_countAt_16 rfl (lv_at hl 0 rfl) ?_
        obtain ⟨hin, hf⟩ := ckI_of hf
        refine va_iald (D := D) hx hb hK hP 1 0 rfl rfl hin dX7_countAt_17 ?_
        refine lv_iload_n hx hb dX7_countAt_18 rfl (lv_at hl 3 rfl) ?_
        refine lv_icmp_eq (tgt := 32) hx hb dX7_countAt_19 (by decide) (fun cc => ?_) (fun cc => ?_)
        · replace hf := ifT cc hf
          refine lv_iinc (v := (x_3 + 1)) (lv' := [(2, .int (x_3 + 1)), (3, .int x_2), (0, .ref (q0 3)), (1, .int a1)]) hx hb dX7_countAt_32 hl (k := 1) rfl rfl (by decide) rfl (fun ls hl => ?_)
          refine lv_iinc (v := (x_2 + 1)) (lv' := [(3, .int (x_2 + 1)), (2, .int (x_3 + 1)), (0, .ref (q0 3)), (1, .int a1)]) hx hb dX7_countAt_35 hl (k := 1) rfl rfl (by decide) rfl (fun ls hl => ?_)
          refine lv_goto (tgt := 4) hx hb dX7_countAt_38 (by decide) ?_
          exact ihL_4 (x_2 + 1) (x_3 + 1) _ _ _ (lv_sub hl [0, 1, 2, 3] rfl) hP hD hS hf
        · replace hf := ifF cc hf
          refine lv_aload_n hx hb dX7_countAt_22 rfl (lv_at hl 2 rfl) ?_
          refine va_get (D := D) (ci := 5) (v := .ref (q0 5)) (C := RX7) (T := TX7) (N := 5) hx hb hts hi5 hown hK hP 0 rfl rfl 1 (by decide) hw3 (fun _ h9 => h9) rfl dX7_countAt_23 ?_
          refine lv_iload_n hx hb dX7_countAt_26 rfl (lv_at hl 0 rfl) ?_
          obtain ⟨hin, hf⟩ := ckI_of hf
          refine va_iald (D := D) hx hb hK hP 2 0 rfl rfl hin dX7_countAt_27 ?_
          refine lv_iload_n hx hb dX7_countAt_28 rfl (lv_at hl 3 rfl) ?_
          refine lv_icmp_ne (tgt := 35) hx hb dX7_countAt_29 (by decide) (fun cc => ?_) (fun cc => ?_)
          · replace hf := ifF cc hf
            refine lv_iinc (v := (x_2 + 1)) (lv' := [(3, .int (x_2 + 1)), (2, .int x_3), (0, .ref (q0 3)), (1, .int a1)]) hx hb dX7_countAt_35 hl (k := 0) rfl rfl (by decide) rfl (fun ls hl => ?_)
            refine lv_goto (tgt := 4) hx hb dX7_countAt_38 (by decide) ?_
            exact ihL_4 (x_2 + 1) x_3 _ _ _ (lv_sub hl [0, 1, 2, 3] rfl) hP hD hS hf
          · replace hf := ifT cc hf
            refine lv_iinc (v := (x_3 + 1)) (lv' := [(2, .int (x_3 + 1)), (3, .int x_2), (0, .ref (q0 3)), (1, .int a1)]) hx hb dX7_countAt_32 hl (k := 1) rfl rfl (by decide) rfl (fun ls hl => ?_)
            refine lv_iinc (v := (x_2 + 1)) (lv' := [(3, .int (x_2 + 1)), (2, .int (x_3 + 1)), (0, .ref (q0 3)), (1, .int a1)]) hx hb dX7_countAt_35 hl (k := 1) rfl rfl (by decide) rfl (fun ls hl => ?_)
            refine lv_goto (tgt := 4) hx hb dX7_countAt_38 (by decide) ?_
            exact ihL_4 (x_2 + 1) (x_3 + 1) _ _ _ (lv_sub hl [0, 1, 2, 3] rfl) hP hD hS hf
  exact loL_4 FU 0 0 _ _ _ hl hP hD hS hf
def f_X7_add (a1 : Int32) (a2 : Int32) (a3 : Int32) (v0 : SV) : Option (Int32 × SV) :=
  nm (if a2 < a1 then a2 else a1) fun t_1 =>
  ckI (v0.1 4) 6 <|
  nm (pA v0 2 (v0.1 4) t_1) fun v_2 =>
  nm (if a1 < a2 then a2 else a1) fun t_3 =>
  ckI (v0.1 4) 6 <|
  nm (pA v_2 3 (v0.1 4) t_3) fun v_4 =>
  ckI (v0.1 4) 6 <|
  nm (pA v_4 4 (v0.1 4) a3) fun v_5 =>
  nm (pF v_5 4 ((v_5.1 4) + 1)) fun v_6 =>
  nm (pF v_6 5 ((v_6.1 5) + 1)) fun v_7 =>
  some ((v0.1 4), v_7)
abbrev rm_X7_add : Room := { frames := 1, cells := 0, slots := 0, locals := 15 }
set_option maxHeartbeats 4000000 in
set_option maxRecDepth 100000 in
theorem c_X7_add (l : Launch) (D : va_G) (G : Nat → ClassId) (q0 : Nat → Nat) (a1 : Int32) (a2 : Int32) (a3 : Int32) (v0 : SV) (r : Int32) (v0' : SV) (hf : f_X7_add a1 a2 a3 v0 = some (r, v0')) (sz : Nat) : mC l yX7_add wsX7_add rm_X7_add D (tyG G) kT [.ref (q0 3), .int a1, .int a2, .int a3] (kLines G q0 v0) (kLines G q0 v0') sz (some (.int r)) 0 0 := by
  refine mC_ofI (cc := cX7_add) (maxL := 5) (ret := (some .int)) (by decide) rfl rfl (Nat.le_of_ble_eq_true rfl) ?_
  intro p e s m args below meth c Q0 hx hb hml hts hown hN hK A hD hA hE hP hS hJ ls hl
  have hl : lv_has ls 5 [(0, .ref (q0 3)), (1, .int a1), (2, .int a2), (3, .int a3)] := hl
  unfold f_X7_add at hf
  have hi5 : ∀ w ∈ u_ws RX7 TX7 5, w ∈ wsX7_add := by decide +kernel
  have hw1 := hts (.fieldLink RX7 21 "BalconyCensus$Lines" "count" "I") (by decide +kernel)
  have hw2 := hts (.fieldLink RX7 9 "BalconyCensus$Lines" "lower" "[I") (by decide +kernel)
  have hw3 := hts (.methodLink RX7 34 Lib.Math.min.name) (by decide +kernel)
  have hw4 := hts (.static Lib.Math.min.name) (by decide +kernel)
  have hw5 := hts (.initialized "java/lang/Math") (by decide +kernel)
  have hw6 := hts (.code Lib.Math.min.name Lib.Math.min.code 2 (some .int)) (by decide +kernel)
  have hw7 := hts (.fieldLink RX7 15 "BalconyCensus$Lines" "higher" "[I") (by decide +kernel)
  have hw8 := hts (.methodLink RX7 40 Lib.Math.max.name) (by decide +kernel)
  have hw9 := hts (.static Lib.Math.max.name) (by decide +kernel)
  have hw10 := hts (.code Lib.Math.max.name Lib.Math.max.code 2 (some .int)) (by decide +kernel)
  have hw11 := hts (.fieldLink RX7 18 "BalconyCensus$Lines" "daysLeft" "[I") (by decide +kernel)
  have hw12 := hts (.fieldLink RX7 25 "BalconyCensus$Lines" "hungSoFar" "I") (by decide +kernel)
  refine lv_aload_n hx hb dX7_add_0 rfl (lv_at hl 0 rfl) ?_
  refine va_get (D := D) (ci := 5) (v := .int (v0.1 4)) (C := RX7) (T := TX7) (N := 5) hx hb hts hi5 hown hK hP 0 rfl rfl 3 (by decide) hw1 (fun _ h9 => h9) rfl dX7_add_1 ?_
  refine lv_istore (lv' := [(4, .int (v0.1 4)), (0, .ref (q0 3)), (1, .int a1), (2, .int a2), (3, .int a3)]) hx hb dX7_add_4 hl (by decide) rfl (fun ls hl => ?_)
  refine lv_aload_n hx hb dX7_add_6 rfl (lv_at hl 1 rfl) ?_
  refine va_get (D := D) (ci := 5) (v := .ref (q0 4)) (C := RX7) (T := TX7) (N := 5) hx hb hts hi5 hown hK hP 0 rfl rfl 0 (by decide) hw2 (fun _ h9 => h9) rfl dX7_add_7 ?_
  refine lv_iload hx hb dX7_add_10 (lv_at hl 0 rfl) ?_
  refine lv_iload_n hx hb dX7_add_12 rfl (lv_at hl 2 rfl) ?_
  refine lv_iload_n hx hb dX7_add_13 rfl (lv_at hl 3 rfl) ?_
  refine va_mmin hx hb (hml.trans hl.1.symm) hown hw3 hw4 hw5 hw6 (Nat.le_of_ble_eq_true rfl) (Nat.le_of_ble_eq_true rfl) (Nat.zero_le _) (Nat.zero_le _) dX7_add_14 ?_
  obtain ⟨t_1, et_1, hf⟩ := nm_of hf
  rw [← et_1]
  obtain ⟨hin, hf⟩ := ckI_of hf
  obtain ⟨v_2, ev_2, hf⟩ := nm_of hf
  refine va_iast (D := D) hx hb hK hP hD hS 1 0 rfl rfl hin dX7_add_17 (fun H locs hP hD hS => ?_)
  have hP : va_P D vwCl (kLines G q0 v_2) H := by rw [ev_2]; exact hP
  have hD : va_D A (kLines G q0 v_2) := by rw [ev_2]; exact hD
  refine lv_aload_n hx hb dX7_add_18 rfl (lv_at hl 1 rfl) ?_
  refine va_get (D := D) (ci := 5) (v := .ref (q0 5)) (C := RX7) (T := TX7) (N := 5) hx hb hts hi5 hown hK hP 0 rfl rfl 1 (by decide) hw7 (fun _ h9 => h9) rfl dX7_add_19 ?_
  refine lv_iload hx hb dX7_add_22 (lv_at hl 0 rfl) ?_
  refine lv_iload_n hx hb dX7_add_24 rfl (lv_at hl 2 rfl) ?_
  refine lv_iload_n hx hb dX7_add_25 rfl (lv_at hl 3 rfl) ?_
  refine va_mmax hx hb (hml.trans hl.1.symm) hown hw8 hw9 hw5 hw10 (Nat.le_of_ble_eq_true rfl) (Nat.le_of_ble_eq_true rfl) (Nat.zero_le _) (Nat.zero_le _) dX7_add_26 ?_
  obtain ⟨t_3, et_3, hf⟩ := nm_of hf
  rw [← et_3]
  obtain ⟨hin, hf⟩ := ckI_of hf
  obtain ⟨v_4, ev_4, hf⟩ := nm_of hf
  refine va_iast (D := D) hx hb hK hP hD hS 2 0 rfl rfl hin dX7_add_29 (fun H locs hP hD hS => ?_)
  have hP : va_P D vwCl (kLines G q0 v_4) H := by rw [ev_4]; exact hP
  have hD : va_D A (kLines G q0 v_4) := by rw [ev_4]; exact hD
  refine lv_aload_n hx hb dX7_add_30 rfl (lv_at hl 1 rfl) ?_
  refine va_get (D := D) (ci := 5) (v := .ref (q0 6)) (C := RX7) (T := TX7) (N := 5) hx hb hts hi5 hown hK hP 0 rfl rfl 2 (by decide) hw11 (fun _ h9 => h9) rfl dX7_add_31 ?_
  refine lv_iload hx hb dX7_add_34 (lv_at hl 0 rfl) ?_
  refine lv_iload_n hx hb dX7_add_36 rfl (lv_at hl 4 rfl) ?_
  obtain ⟨hin, hf⟩ := ckI_of hf
  obtain ⟨v_5, ev_5, hf⟩ := nm_of hf
  refine va_iast (D := D) hx hb hK hP hD hS 3 0 rfl rfl hin dX7_add_37 (fun H locs hP hD hS => ?_)
  have hP : va_P D vwCl (kLines G q0 v_5) H := by rw [ev_5]; exact hP
  have hD : va_D A (kLines G q0 v_5) := by rw [ev_5]; exact hD
  refine lv_aload_n hx hb dX7_add_38 rfl (lv_at hl 1 rfl) ?_
  refine lv_dup hx hb dX7_add_39 rfl ?_
  refine va_get (D := D) (ci := 5) (v := .int (v_5.1 4)) (C := RX7) (T := TX7) (N := 5) hx hb hts hi5 hown hK hP 0 rfl rfl 3 (by decide) hw1 (fun _ h9 => h9) rfl dX7_add_40 ?_
  refine lv_iconst (v := 1) hx hb dX7_add_43 (by decide) ?_
  refine lv_iadd hx hb dX7_add_44 ?_
  obtain ⟨v_6, ev_6, hf⟩ := nm_of hf
  refine va_put (D := D) (ci := 5) (v := .int ((v_5.1 4) + 1)) (ty := .int) (C := RX7) (T := TX7) (N := 5) hx hb hts hi5 tyX7 tyX7_ok nmX7 hown hK hP hD hS 0 rfl rfl 3 (by decide) hw1 (fun _ h9 => h9) rfl (by decide +kernel) rfl rfl (Nat.le_of_ble_eq_true rfl) dX7_add_45 (fun H locs hP hD hS => ?_)
  have hP : va_P D vwCl (kLines G q0 v_6) H := by rw [ev_6]; exact hP
  have hD : va_D A (kLines G q0 v_6) := by rw [ev_6]; exact hD
  refine lv_aload_n hx hb dX7_add_48 rfl (lv_at hl 1 rfl) ?_
  refine lv_dup hx hb dX7_add_49 rfl ?_
  refine va_get (D := D) (ci := 5) (v := .int (v_6.1 5)) (C := RX7) (T := TX7) (N := 5) hx hb hts hi5 hown hK hP 0 rfl rfl 4 (by decide) hw12 (fun _ h9 => h9) rfl dX7_add_50 ?_
  refine lv_iconst (v := 1) hx hb dX7_add_53 (by decide) ?_
  refine lv_iadd hx hb dX7_add_54 ?_
  obtain ⟨v_7, ev_7, hf⟩ := nm_of hf
  refine va_put (D := D) (ci := 5) (v := .int ((v_6.1 5) + 1)) (ty := .int) (C := RX7) (T := TX7) (N := 5) hx hb hts hi5 tyX7 tyX7_ok nmX7 hown hK hP hD hS 0 rfl rfl 4 (by decide) hw12 (fun _ h9 => h9) rfl (by decide +kernel) rfl rfl (Nat.le_of_ble_eq_true rfl) dX7_add_55 (fun H locs hP hD hS => ?_)
  have hP : va_P D vwCl (kLines G q0 v_7) H := by rw [ev_7]; exact hP
  have hD : va_D A (kLines G q0 v_7) := by rw [ev_7]; exact hD
  refine lv_iload hx hb dX7_add_58 (lv_at hl 0 rfl) ?_
  obtain ⟨rfl, rfl⟩ := re2 hf
  exact hE hP hD hS dX7_add_60
def f_X7_passDay_K4 (y_12 : Int32) (y_13 : Int32) (z_14 : SV) : Option SV :=
  nm (pF z_14 4 y_13) fun v_15 =>
  some v_15
def f_X7_passDay_B4 (selfL_8 : (Int32 → Int32 → SV → Option SV)) (x_5 : Int32) (x_6 : Int32) (u_7 : SV) : Option SV :=
  if (u_7.1 4) ≤ x_5 then
    f_X7_passDay_K4 x_5 x_6 u_7
  else
    ckI x_5 6 <|
    if (u_7.2 4 x_5.toNatClampNeg) ≤ 1 then
      selfL_8 (x_5 + 1) x_6 u_7
    else
      ckI x_5 6 <|
      ckI x_6 6 <|
      nm (pA u_7 2 x_6 (u_7.2 2 x_5.toNatClampNeg)) fun v_9 =>
      ckI x_5 6 <|
      ckI x_6 6 <|
      nm (pA v_9 3 x_6 (v_9.2 3 x_5.toNatClampNeg)) fun v_10 =>
      ckI x_5 6 <|
      ckI x_6 6 <|
      nm (pA v_10 4 x_6 ((v_10.2 4 x_5.toNatClampNeg) - 1)) fun v_11 =>
      selfL_8 (x_5 + 1) (x_6 + 1) v_11
def f_X7_passDay (v0 : SV) : Option SV :=
  lz3 (f_X7_passDay_B4) FU 0 0 v0
abbrev rm_X7_passDay : Room := { frames := 0, cells := 0, slots := 0, locals := 0 }
set_option maxHeartbeats 4000000 in
set_option maxRecDepth 100000 in
theorem c_X7_passDay (l : Launch) (D : va_G) (G : Nat → ClassId) (q0 : Nat → Nat) (v0 : SV) (v0' : SV) (hf : f_X7_passDay v0 = some v0') (sz : Nat) : mC l yX7_passDay wsX7_passDay rm_X7_passDay D (tyG G) kT [.ref (q0 3)] (kLines G q0 v0) (kLines G q0 v0') sz none 0 0 := by
  refine mC_ofV (cc := cX7_passDay) (maxL := 3) (ret := none) (by decide) rfl rfl (Nat.le_of_ble_eq_true rfl) ?_
  intro p e s m args below meth c Q0 hx hb hml hts hown hN hK A hD hA hE hP hS hJ ls hl
  have hl : lv_has ls 3 [(0, .ref (q0 3))] := hl
  unfold f_X7_passDay at hf
  have hi5 : ∀ w ∈ u_ws RX7 TX7 5, w ∈ wsX7_passDay := by decide +kernel
  have hw1 := hts (.fieldLink RX7 21 "BalconyCensus$Lines" "count" "I") (by decide +kernel)
  have hw2 := hts (.fieldLink RX7 18 "BalconyCensus$Lines" "daysLeft" "[I") (by decide +kernel)
  have hw3 := hts (.fieldLink RX7 9 "BalconyCensus$Lines" "lower" "[I") (by decide +kernel)
  have hw4 := hts (.fieldLink RX7 15 "BalconyCensus$Lines" "higher" "[I") (by decide +kernel)
  refine lv_iconst (v := 0) hx hb dX7_passDay_0 (by decide) ?_
  refine lv_istore_n (lv' := [(1, .int 0), (0, .ref (q0 3))]) hx hb dX7_passDay_1 rfl hl (by decide) rfl (fun ls hl => ?_)
  refine lv_iconst (v := 0) hx hb dX7_passDay_2 (by decide) ?_
  refine lv_istore_n (lv' := [(2, .int 0), (1, .int 0), (0, .ref (q0 3))]) hx hb dX7_passDay_3 rfl hl (by decide) rfl (fun ls hl => ?_)
  have exL_8 : ∀ (y_12 : Int32) (y_13 : Int32) (z_14 : SV) (H : Heap) (locs : List Loc) (ls : Array Slot), lv_has ls 3 [(2, .int y_12), (1, .int y_13), (0, .ref (q0 3))] → va_P D vwCl (kLines G q0 z_14) H → va_D A (kLines G q0 z_14) → va_S A s.heap H locs → f_X7_passDay_K4 y_12 y_13 z_14 = some v0' → W p l e rm_X7_passDay s m args below meth c H locs 0 0 Q0 (F0 m 69 ls []) := by
    intro y_12 y_13 z_14 H locs ls hl hP hD hS hf
    unfold f_X7_passDay_K4 at hf
    refine lv_aload_n hx hb dX7_passDay_69 rfl (lv_at hl 2 rfl) ?_
    refine lv_iload_n hx hb dX7_passDay_70 rfl (lv_at hl 1 rfl) ?_
    obtain ⟨v_15, ev_15, hf⟩ := nm_of hf
    refine va_put (D := D) (ci := 5) (v := .int y_13) (ty := .int) (C := RX7) (T := TX7) (N := 5) hx hb hts hi5 tyX7 tyX7_ok nmX7 hown hK hP hD hS 0 rfl rfl 3 (by decide) hw1 (fun _ h9 => h9) rfl (by decide +kernel) rfl rfl (Nat.le_of_ble_eq_true rfl) dX7_passDay_71 (fun H locs hP hD hS => ?_)
    have hP : va_P D vwCl (kLines G q0 v_15) H := by rw [ev_15]; exact hP
    have hD : va_D A (kLines G q0 v_15) := by rw [ev_15]; exact hD
    obtain rfl := re1 hf
    exact hE hP hD hS dX7_passDay_74
  have loL_8 : ∀ (n : Nat) (x_5 : Int32) (x_6 : Int32) (u_7 : SV) (H : Heap) (locs : List Loc) (ls : Array Slot), lv_has ls 3 [(2, .int x_5), (1, .int x_6), (0, .ref (q0 3))] → va_P D vwCl (kLines G q0 u_7) H → va_D A (kLines G q0 u_7) → va_S A s.heap H locs → lz3 (f_X7_passDay_B4) n x_5 x_6 u_7 = some v0' → W p l e rm_X7_passDay s m args below meth c H locs 0 0 Q0 (F0 m 4 ls []) := by
    intro n
    induction n with
    | zero => intro x_5 x_6 u_7 H locs ls hl hP hD hS hf; cases hf
    | succ n ihL_8 =>
      intro x_5 x_6 u_7 H locs ls hl hP hD hS hf
      replace hf := lz3_s hf
      unfold f_X7_passDay_B4 at hf
      refine lv_iload_n hx hb dX7_passDay_4 rfl (lv_at hl 0 rfl) ?_
      refine lv_aload_n hx hb dX7_passDay_5 rfl (lv_at hl 2 rfl) ?_
      refine va_get (D := D) (ci := 5) (v := .int (u_7.1 4)) (C := RX7) (T := TX7) (N := 5) hx hb hts hi5 hown hK hP 0 rfl rfl 3 (by decide) hw1 (fun _ h9 => h9) rfl dX7_passDay_6 ?_
      refine lv_icmp_ge (tgt := 69) hx hb dX7_passDay_9 (by decide) (fun cc => ?_) (fun cc => ?_)
      · replace hf := ifT cc hf
        exact exL_8 x_5 x_6 u_7 _ _ _ (lv_sub hl [0, 1, 2] rfl) hP hD hS hf
      · replace hf := ifF cc hf
        refine lv_aload_n hx hb dX7_passDay_12 rfl (lv_at hl 2 rfl) ?_
        refine va_get (D := D) (ci := 5) (v := .ref (q0 6)) (C := RX7) (T := TX7) (N := 5) hx hb hts hi5 hown hK hP 0 rfl rfl 2 (by decide) hw2 (fun _ h9 => h9) rfl dX7_passDay_13 ?_
        refine lv_iload_n hx hb dX7_passDay_16 rfl (lv_at hl 0 rfl) ?_
        obtain ⟨hin, hf⟩ := ckI_of hf
        refine va_iald (D := D) hx hb hK hP 3 0 rfl rfl hin dX7_passDay_17 ?_
        refine lv_iconst (v := 1) hx hb dX7_passDay_18 (by decide) ?_
        refine lv_icmp_le (tgt := 63) hx hb dX7_passDay_19 (by decide) (fun cc => ?_) (fun cc => ?_)
        · replace hf := ifT cc hf
          refine lv_iinc (v := (x_5 + 1)) (lv' := [(2, .int (x_5 + 1)), (1, .int x_6), (0, .ref (q0 3))]) hx hb dX7_passDay_63 hl (k := 0) rfl rfl (by decide) rfl (fun ls hl => ?_)
          refine lv_goto (tgt := 4) hx hb dX7_passDay_66 (by decide) ?_
          exact ihL_8 (x_5 + 1) x_6 u_7 _ _ _ (lv_sub hl [0, 1, 2] rfl) hP hD hS hf
        · replace hf := ifF cc hf
          refine lv_aload_n hx hb dX7_passDay_22 rfl (lv_at hl 2 rfl) ?_
          refine va_get (D := D) (ci := 5) (v := .ref (q0 4)) (C := RX7) (T := TX7) (N := 5) hx hb hts hi5 hown hK hP 0 rfl rfl 0 (by decide) hw3 (fun _ h9 => h9) rfl dX7_passDay_23 ?_
          refine lv_iload_n hx hb dX7_passDay_26 rfl (lv_at hl 1 rfl) ?_
          refine lv_aload_n hx hb dX7_passDay_27 rfl (lv_at hl 2 rfl) ?_
          refine va_get (D := D) (ci := 5) (v := .ref (q0 4)) (C := RX7) (T := TX7) (N := 5) hx hb hts hi5 hown hK hP 0 rfl rfl 0 (by decide) hw3 (fun _ h9 => h9) rfl dX7_passDay_28 ?_
          refine lv_iload_n hx hb dX7_passDay_31 rfl (lv_at hl 0 rfl) ?_
          obtain ⟨hin, hf⟩ := ckI_of hf
          refine va_iald (D := D) hx hb hK hP 1 0 rfl rfl hin dX7_passDay_32 ?_
          obtain ⟨hin, hf⟩ := ckI_of hf
          obtain ⟨v_9, ev_9, hf⟩ := nm_of hf
          refine va_iast (D := D) hx hb hK hP hD hS 1 0 rfl rfl hin dX7_passDay_33 (fun H locs hP hD hS => ?_)
          have hP : va_P D vwCl (kLines G q0 v_9) H := by rw [ev_9]; exact hP
          have hD : va_D A (kLines G q0 v_9) := by rw [ev_9]; exact hD
          refine lv_aload_n hx hb dX7_passDay_34 rfl (lv_at hl 2 rfl) ?_
          refine va_get (D := D) (ci := 5) (v := .ref (q0 5)) (C := RX7) (T := TX7) (N := 5) hx hb hts hi5 hown hK hP 0 rfl rfl 1 (by decide) hw4 (fun _ h9 => h9) rfl dX7_passDay_35 ?_
          refine lv_iload_n hx hb dX7_passDay_38 rfl (lv_at hl 1 rfl) ?_
          refine lv_aload_n hx hb dX7_passDay_39 rfl (lv_at hl 2 rfl) ?_
          refine va_get (D := D) (ci := 5) (v := .ref (q0 5)) (C := RX7) (T := TX7) (N := 5) hx hb hts hi5 hown hK hP 0 rfl rfl 1 (by decide) hw4 (fun _ h9 => h9) rfl dX7_passDay_40 ?_
          refine lv_iload_n hx hb dX7_passDay_43 rfl (lv_at hl 0 rfl) ?_
          obtain ⟨hin, hf⟩ := ckI_of hf
          refine va_iald (D := D) hx hb hK hP 2 0 rfl rfl hin dX7_passDay_44 ?_
          obtain ⟨hin, hf⟩ := ckI_of hf
          obtain ⟨v_10, ev_10, hf⟩ := nm_of hf
          refine va_iast (D := D) hx hb hK hP hD hS 2 0 rfl rfl hin dX7_passDay_45 (fun H locs hP hD hS => ?_)
          have hP : va_P D vwCl (kLines G q0 v_10) H := by rw [ev_10]; exact hP
          have hD : va_D A (kLines G q0 v_10) := by rw [ev_10]; exact hD
          refine lv_aload_n hx hb dX7_passDay_46 rfl (lv_at hl 2 rfl) ?_
          refine va_get (D := D) (ci := 5) (v := .ref (q0 6)) (C := RX7) (T := TX7) (N := 5) hx hb hts hi5 hown hK hP 0 rfl rfl 2 (by decide) hw2 (fun _ h9 => h9) rfl dX7_passDay_47 ?_
          refine lv_iload_n hx hb dX7_passDay_50 rfl (lv_at hl 1 rfl) ?_
          refine lv_aload_n hx hb dX7_passDay_51 rfl (lv_at hl 2 rfl) ?_
          refine va_get (D := D) (ci := 5) (v := .ref (q0 6)) (C := RX7) (T := TX7) (N := 5) hx hb hts hi5 hown hK hP 0 rfl rfl 2 (by decide) hw2 (fun _ h9 => h9) rfl dX7_passDay_52 ?_
          refine lv_iload_n hx hb dX7_passDay_55 rfl (lv_at hl 0 rfl) ?_
          obtain ⟨hin, hf⟩ := ckI_of hf
          refine va_iald (D := D) hx hb hK hP 3 0 rfl rfl hin dX7_passDay_56 ?_
          refine lv_iconst (v := 1) hx hb dX7_passDay_57 (by decide) ?_
          refine lv_isub hx hb dX7_passDay_58 ?_
          obtain ⟨hin, hf⟩ := ckI_of hf
          obtain ⟨v_11, ev_11, hf⟩ := nm_of hf
          refine va_iast (D := D) hx hb hK hP hD hS 3 0 rfl rfl hin dX7_passDay_59 (fun H locs hP hD hS => ?_)
          have hP : va_P D vwCl (kLines G q0 v_11) H := by rw [ev_11]; exact hP
          have hD : va_D A (kLines G q0 v_11) := by rw [ev_11]; exact hD
          refine lv_iinc (v := (x_6 + 1)) (lv' := [(1, .int (x_6 + 1)), (2, .int x_5), (0, .ref (q0 3))]) hx hb dX7_passDay_60 hl (k := 1) rfl rfl (by decide) rfl (fun ls hl => ?_)
          refine lv_iinc (v := (x_5 + 1)) (lv' := [(2, .int (x_5 + 1)), (1, .int (x_6 + 1)), (0, .ref (q0 3))]) hx hb dX7_passDay_63 hl (k := 1) rfl rfl (by decide) rfl (fun ls hl => ?_)
          refine lv_goto (tgt := 4) hx hb dX7_passDay_66 (by decide) ?_
          exact ihL_8 (x_5 + 1) (x_6 + 1) v_11 _ _ _ (lv_sub hl [0, 1, 2] rfl) hP hD hS hf
  exact loL_8 FU 0 0 v0 _ _ _ hl hP hD hS hf
