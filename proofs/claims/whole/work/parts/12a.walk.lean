/-! Walks, laid by wip/whole/gen.py: for each method f_ (what it does to its world) and c_ (its contract). -/
def f_X13_in (a0 : Int32) (a1 : Int32) (a2 : Int32) : Option Int32 :=
  if a0 < a1 then
    some 0
  else
    if a2 < a0 then
      some 0
    else
      some 1
abbrev rm_X13_in : Room := { frames := 0, cells := 0, slots := 0, locals := 0 }
set_option maxHeartbeats 4000000 in
set_option maxRecDepth 100000 in
theorem c_X13_in (l : Launch) (D : va_G) (G : Nat → ClassId) (a0 : Int32) (a1 : Int32) (a2 : Int32) (r : Int32) (hf : f_X13_in a0 a1 a2 = some r) (sz : Nat) : mC l yX13_in wsX13_in rm_X13_in D (tyG G) kT [.int a0, .int a1, .int a2] ([] : va_W) ([] : va_W) sz (some (.int r)) 0 0 := by
  refine mC_ofZ (cc := cX13_in) (maxL := 3) (ret := (some .boolean)) (by decide) rfl rfl (Nat.le_of_ble_eq_true rfl) ?_
  intro p e s m args below meth c Q0 hx hb hml hts hown hN hK A hD hA hE hP hS hJ ls hl
  have hl : lv_has ls 3 [(0, .int a0), (1, .int a1), (2, .int a2)] := hl
  unfold f_X13_in at hf
  refine lv_iload_n hx hb dX13_in_0 rfl (lv_at hl 0 rfl) ?_
  refine lv_iload_n hx hb dX13_in_1 rfl (lv_at hl 1 rfl) ?_
  refine lv_icmp_lt (tgt := 14) hx hb dX13_in_2 (by decide) (fun cc => ?_) (fun cc => ?_)
  · replace hf := ifT cc hf
    refine lv_iconst (v := 0) hx hb dX13_in_14 (by decide) ?_
    obtain rfl := re1 hf
    exact hE (.inl rfl) hP hD hS dX13_in_15
  · replace hf := ifF cc hf
    refine lv_iload_n hx hb dX13_in_5 rfl (lv_at hl 0 rfl) ?_
    refine lv_iload_n hx hb dX13_in_6 rfl (lv_at hl 2 rfl) ?_
    refine lv_icmp_gt (tgt := 14) hx hb dX13_in_7 (by decide) (fun cc => ?_) (fun cc => ?_)
    · replace hf := ifT cc hf
      refine lv_iconst (v := 0) hx hb dX13_in_14 (by decide) ?_
      obtain rfl := re1 hf
      exact hE (.inl rfl) hP hD hS dX13_in_15
    · replace hf := ifF cc hf
      refine lv_iconst (v := 1) hx hb dX13_in_10 (by decide) ?_
      refine lv_goto (tgt := 15) hx hb dX13_in_11 (by decide) ?_
      obtain rfl := re1 hf
      exact hE (.inr rfl) hP hD hS dX13_in_15
def f_X13_copies_same_K3 (y_7 : Int32) (z_8 : (Nat → Int32)) : Option (Nat → Int32) :=
  some z_8
def f_X13_copies_same_B3 (a1 : Int32) (n0 : Nat) (a3 : Int32) (selfL_5 : (Int32 → (Nat → Int32) → Option (Nat → Int32))) (x_3 : Int32) (u_4 : (Nat → Int32)) : Option (Nat → Int32) :=
  if 240 ≤ x_3 then
    f_X13_copies_same_K3 x_3 u_4
  else
    ckI (a1 + x_3) n0 <|
    ckI (a3 + x_3) n0 <|
    nm (upd u_4 (a3 + x_3).toNatClampNeg (u_4 (a1 + x_3).toNatClampNeg)) fun v_6 =>
    selfL_5 (x_3 + 1) v_6
def f_X13_copies_same (a1 : Int32) (a3 : Int32) (n0 : Nat) (v0 : Nat → Int32) : Option (Nat → Int32) :=
  lz2 (f_X13_copies_same_B3 a1 n0 a3) FU 0 v0
abbrev rm_X13_copies_same : Room := { frames := 0, cells := 0, slots := 0, locals := 0 }
set_option maxHeartbeats 4000000 in
set_option maxRecDepth 100000 in
theorem c_X13_copies_same (l : Launch) (D : va_G) (G : Nat → ClassId) (b0 n0 : Nat) (a1 : Int32) (a3 : Int32) (v0 : Nat → Int32) (v0' : (Nat → Int32)) (hf : f_X13_copies_same a1 a3 n0 v0 = some v0') (sz : Nat) : mC l yX13_copies wsX13_copies rm_X13_copies_same D (tyG G) kT [.ref b0, .int a1, .ref b0, .int a3] (kArr G b0 n0 v0) (kArr G b0 n0 v0') sz none 0 0 := by
  refine mC_ofV (cc := cX13_copies) (maxL := 5) (ret := none) (by decide) rfl rfl (Nat.le_of_ble_eq_true rfl) ?_
  intro p e s m args below meth c Q0 hx hb hml hts hown hN hK A hD hA hE hP hS hJ ls hl
  have hl : lv_has ls 5 [(0, .ref b0), (1, .int a1), (2, .ref b0), (3, .int a3)] := hl
  unfold f_X13_copies_same at hf
  refine lv_iconst (v := 0) hx hb dX13_copies_0 (by decide) ?_
  refine lv_istore (lv' := [(4, .int 0), (0, .ref b0), (1, .int a1), (2, .ref b0), (3, .int a3)]) hx hb dX13_copies_1 hl (by decide) rfl (fun ls hl => ?_)
  have exL_5 : ∀ (y_7 : Int32) (z_8 : (Nat → Int32)) (H : Heap) (locs : List Loc) (ls : Array Slot), lv_has ls 5 [(4, .int y_7), (0, .ref b0), (1, .int a1), (2, .ref b0), (3, .int a3)] → va_P D vwCl (kArr G b0 n0 z_8) H → va_D A (kArr G b0 n0 z_8) → va_S A s.heap H locs → f_X13_copies_same_K3 y_7 z_8 = some v0' → W p l e rm_X13_copies_same s m args below meth c H locs 0 0 Q0 (F0 m 29 ls []) := by
    intro y_7 z_8 H locs ls hl hP hD hS hf
    unfold f_X13_copies_same_K3 at hf
    obtain rfl := re1 hf
    exact hE hP hD hS dX13_copies_29
  have loL_5 : ∀ (n : Nat) (x_3 : Int32) (u_4 : (Nat → Int32)) (H : Heap) (locs : List Loc) (ls : Array Slot), lv_has ls 5 [(4, .int x_3), (0, .ref b0), (1, .int a1), (2, .ref b0), (3, .int a3)] → va_P D vwCl (kArr G b0 n0 u_4) H → va_D A (kArr G b0 n0 u_4) → va_S A s.heap H locs → lz2 (f_X13_copies_same_B3 a1 n0 a3) n x_3 u_4 = some v0' → W p l e rm_X13_copies_same s m args below meth c H locs 0 0 Q0 (F0 m 3 ls []) := by
    intro n
    induction n with
    | zero => intro x_3 u_4 H locs ls hl hP hD hS hf; cases hf
    | succ n ihL_5 =>
      intro x_3 u_4 H locs ls hl hP hD hS hf
      replace hf := lz2_s hf
      unfold f_X13_copies_same_B3 at hf
      refine lv_iload hx hb dX13_copies_3 (lv_at hl 0 rfl) ?_
      refine lv_sipush (v := 240) hx hb dX13_copies_5 (by decide +kernel) ?_
      refine lv_icmp_ge (tgt := 29) hx hb dX13_copies_8 (by decide) (fun cc => ?_) (fun cc => ?_)
      · replace hf := ifT cc hf
        exact exL_5 x_3 u_4 _ _ _ (lv_sub hl [0, 1, 2, 3, 4] rfl) hP hD hS hf
      · replace hf := ifF cc hf
        refine lv_aload_n hx hb dX13_copies_11 rfl (lv_at hl 3 rfl) ?_
        refine lv_iload_n hx hb dX13_copies_12 rfl (lv_at hl 4 rfl) ?_
        refine lv_iload hx hb dX13_copies_13 (lv_at hl 0 rfl) ?_
        refine lv_iadd hx hb dX13_copies_15 ?_
        refine lv_aload_n hx hb dX13_copies_16 rfl (lv_at hl 1 rfl) ?_
        refine lv_iload_n hx hb dX13_copies_17 rfl (lv_at hl 2 rfl) ?_
        refine lv_iload hx hb dX13_copies_18 (lv_at hl 0 rfl) ?_
        refine lv_iadd hx hb dX13_copies_20 ?_
        obtain ⟨hin, hf⟩ := ckI_of hf
        refine va_iald (D := D) hx hb hK hP 0 0 rfl rfl hin dX13_copies_21 ?_
        obtain ⟨hin, hf⟩ := ckI_of hf
        obtain ⟨v_6, ev_6, hf⟩ := nm_of hf
        refine va_iast (D := D) hx hb hK hP hD hS 0 0 rfl rfl hin dX13_copies_22 (fun H locs hP hD hS => ?_)
        have hP : va_P D vwCl (kArr G b0 n0 v_6) H := by rw [ev_6]; exact hP
        have hD : va_D A (kArr G b0 n0 v_6) := by rw [ev_6]; exact hD
        refine lv_iinc (v := (x_3 + 1)) (lv' := [(4, .int (x_3 + 1)), (0, .ref b0), (1, .int a1), (2, .ref b0), (3, .int a3)]) hx hb dX13_copies_23 hl (k := 0) rfl rfl (by decide) rfl (fun ls hl => ?_)
        refine lv_goto (tgt := 3) hx hb dX13_copies_26 (by decide) ?_
        exact ihL_5 (x_3 + 1) v_6 _ _ _ (lv_sub hl [0, 1, 2, 3, 4] rfl) hP hD hS hf
  exact loL_5 FU 0 v0 _ _ _ hl hP hD hS hf
def f_X13_copies_K3 (y_7 : Int32) (z_8 : (Nat → Int32)) : Option (Nat → Int32) :=
  some z_8
def f_X13_copies_B3 (a1 : Int32) (n0 : Nat) (a3 : Int32) (n1 : Nat) (v0 : (Nat → Int32)) (selfL_5 : (Int32 → (Nat → Int32) → Option (Nat → Int32))) (x_3 : Int32) (u_4 : (Nat → Int32)) : Option (Nat → Int32) :=
  if 240 ≤ x_3 then
    f_X13_copies_K3 x_3 u_4
  else
    ckI (a1 + x_3) n0 <|
    ckI (a3 + x_3) n1 <|
    nm (upd u_4 (a3 + x_3).toNatClampNeg (v0 (a1 + x_3).toNatClampNeg)) fun v_6 =>
    selfL_5 (x_3 + 1) v_6
def f_X13_copies (a1 : Int32) (a3 : Int32) (n0 : Nat) (v0 : Nat → Int32) (n1 : Nat) (v1 : Nat → Int32) : Option (Nat → Int32) :=
  lz2 (f_X13_copies_B3 a1 n0 a3 n1 v0) FU 0 v1
abbrev rm_X13_copies : Room := { frames := 0, cells := 0, slots := 0, locals := 0 }
set_option maxHeartbeats 4000000 in
set_option maxRecDepth 100000 in
theorem c_X13_copies (l : Launch) (D : va_G) (G : Nat → ClassId) (b0 n0 : Nat) (b1 n1 : Nat) (a1 : Int32) (a3 : Int32) (v0 : Nat → Int32) (v1 : Nat → Int32) (v1' : (Nat → Int32)) (hf : f_X13_copies a1 a3 n0 v0 n1 v1 = some v1') (sz : Nat) : mC l yX13_copies wsX13_copies rm_X13_copies D (tyG G) kT [.ref b0, .int a1, .ref b1, .int a3] (kArr G b0 n0 v0 ++ kArr G b1 n1 v1) (kArr G b0 n0 v0 ++ kArr G b1 n1 v1') sz none 0 0 := by
  refine mC_ofV (cc := cX13_copies) (maxL := 5) (ret := none) (by decide) rfl rfl (Nat.le_of_ble_eq_true rfl) ?_
  intro p e s m args below meth c Q0 hx hb hml hts hown hN hK A hD hA hE hP hS hJ ls hl
  have hl : lv_has ls 5 [(0, .ref b0), (1, .int a1), (2, .ref b1), (3, .int a3)] := hl
  unfold f_X13_copies at hf
  refine lv_iconst (v := 0) hx hb dX13_copies_0 (by decide) ?_
  refine lv_istore (lv' := [(4, .int 0), (0, .ref b0), (1, .int a1), (2, .ref b1), (3, .int a3)]) hx hb dX13_copies_1 hl (by decide) rfl (fun ls hl => ?_)
  have exL_5 : ∀ (y_7 : Int32) (z_8 : (Nat → Int32)) (H : Heap) (locs : List Loc) (ls : Array Slot), lv_has ls 5 [(4, .int y_7), (0, .ref b0), (1, .int a1), (2, .ref b1), (3, .int a3)] → va_P D vwCl (kArr G b0 n0 v0 ++ kArr G b1 n1 z_8) H → va_D A (kArr G b0 n0 v0 ++ kArr G b1 n1 z_8) → va_S A s.heap H locs → f_X13_copies_K3 y_7 z_8 = some v1' → W p l e rm_X13_copies s m args below meth c H locs 0 0 Q0 (F0 m 29 ls []) := by
    intro y_7 z_8 H locs ls hl hP hD hS hf
    unfold f_X13_copies_K3 at hf
    obtain rfl := re1 hf
    exact hE hP hD hS dX13_copies_29
  have loL_5 : ∀ (n : Nat) (x_3 : Int32) (u_4 : (Nat → Int32)) (H : Heap) (locs : List Loc) (ls : Array Slot), lv_has ls 5 [(4, .int x_3), (0, .ref b0), (1, .int a1), (2, .ref b1), (3, .int a3)] → va_P D vwCl (kArr G b0 n0 v0 ++ kArr G b1 n1 u_4) H → va_D A (kArr G b0 n0 v0 ++ kArr G b1 n1 u_4) → va_S A s.heap H locs → lz2 (f_X13_copies_B3 a1 n0 a3 n1 v0) n x_3 u_4 = some v1' → W p l e rm_X13_copies s m args below meth c H locs 0 0 Q0 (F0 m 3 ls []) := by
    intro n
    induction n with
    | zero => intro x_3 u_4 H locs ls hl hP hD hS hf; cases hf
    | succ n ihL_5 =>
      intro x_3 u_4 H locs ls hl hP hD hS hf
      replace hf := lz2_s hf
      unfold f_X13_copies_B3 at hf
      refine lv_iload hx hb dX13_copies_3 (lv_at hl 0 rfl) ?_
      refine lv_sipush (v := 240) hx hb dX13_copies_5 (by decide +kernel) ?_
      refine lv_icmp_ge (tgt := 29) hx hb dX13_copies_8 (by decide) (fun cc => ?_) (fun cc => ?_)
      · replace hf := ifT cc hf
        exact exL_5 x_3 u_4 _ _ _ (lv_sub hl [0, 1, 2, 3, 4] rfl) hP hD hS hf
      · replace hf := ifF cc hf
        refine lv_aload_n hx hb dX13_copies_11 rfl (lv_at hl 3 rfl) ?_
        refine lv_iload_n hx hb dX13_copies_12 rfl (lv_at hl 4 rfl) ?_
        refine lv_iload hx hb dX13_copies_13 (lv_at hl 0 rfl) ?_
        refine lv_iadd hx hb dX13_copies_15 ?_
        refine lv_aload_n hx hb dX13_copies_16 rfl (lv_at hl 1 rfl) ?_
        refine lv_iload_n hx hb dX13_copies_17 rfl (lv_at hl 2 rfl) ?_
        refine lv_iload hx hb dX13_copies_18 (lv_at hl 0 rfl) ?_
        refine lv_iadd hx hb dX13_copies_20 ?_
        obtain ⟨hin, hf⟩ := ckI_of hf
        refine va_iald (D := D) hx hb hK hP 0 0 rfl rfl hin dX13_copies_21 ?_
        obtain ⟨hin, hf⟩ := ckI_of hf
        obtain ⟨v_6, ev_6, hf⟩ := nm_of hf
        refine va_iast (D := D) hx hb hK hP hD hS 1 0 rfl rfl hin dX13_copies_22 (fun H locs hP hD hS => ?_)
        have hP : va_P D vwCl (kArr G b0 n0 v0 ++ kArr G b1 n1 v_6) H := by rw [ev_6]; exact hP
        have hD : va_D A (kArr G b0 n0 v0 ++ kArr G b1 n1 v_6) := by rw [ev_6]; exact hD
        refine lv_iinc (v := (x_3 + 1)) (lv' := [(4, .int (x_3 + 1)), (0, .ref b0), (1, .int a1), (2, .ref b1), (3, .int a3)]) hx hb dX13_copies_23 hl (k := 0) rfl rfl (by decide) rfl (fun ls hl => ?_)
        refine lv_goto (tgt := 3) hx hb dX13_copies_26 (by decide) ?_
        exact ihL_5 (x_3 + 1) v_6 _ _ _ (lv_sub hl [0, 1, 2, 3, 4] rfl) hP hD hS hf
  exact loL_5 FU 0 v1 _ _ _ hl hP hD hS hf
def f_X13_isBad (a1 : Int32) (a2 : Int32) (v0 : SV) : Option (Int32 × SV) :=
  nm (pF v0 1 a1) fun v_1 =>
  nm (pF v_1 2 a2) fun v_2 =>
  some (1, v_2)
abbrev rm_X13_isBad : Room := { frames := 0, cells := 0, slots := 0, locals := 0 }
set_option maxHeartbeats 4000000 in
set_option maxRecDepth 100000 in
theorem c_X13_isBad (l : Launch) (D : va_G) (G : Nat → ClassId) (q0 : Nat → Nat) (a1 : Int32) (a2 : Int32) (v0 : SV) (r : Int32) (v0' : SV) (hf : f_X13_isBad a1 a2 v0 = some (r, v0')) (sz : Nat) : mC l yX13_isBad wsX13_isBad rm_X13_isBad D (tyG G) kT [.ref (q0 0), .int a1, .int a2] (kModel G q0 v0) (kModel G q0 v0') sz (some (.int r)) 0 0 := by
  refine mC_ofZ (cc := cX13_isBad) (maxL := 3) (ret := (some .boolean)) (by decide) rfl rfl (Nat.le_of_ble_eq_true rfl) ?_
  intro p e s m args below meth c Q0 hx hb hml hts hown hN hK A hD hA hE hP hS hJ ls hl
  have hl : lv_has ls 3 [(0, .ref (q0 0)), (1, .int a1), (2, .int a2)] := hl
  unfold f_X13_isBad at hf
  have hi11 : ∀ w ∈ u_ws RX13 TX13 27, w ∈ wsX13_isBad := by decide +kernel
  have hw1 := hts (.fieldLink RX13 29 "BalconyCensusModel" "why" "I") (by decide +kernel)
  have hw2 := hts (.fieldLink RX13 32 "BalconyCensusModel" "number" "I") (by decide +kernel)
  refine lv_aload_n hx hb dX13_isBad_0 rfl (lv_at hl 0 rfl) ?_
  refine lv_iload_n hx hb dX13_isBad_1 rfl (lv_at hl 1 rfl) ?_
  obtain ⟨v_1, ev_1, hf⟩ := nm_of hf
  refine va_put (D := D) (ci := 11) (v := .int a1) (ty := .int) (C := RX13) (T := TX13) (N := 27) hx hb hts hi11 tyX13 tyX13_ok nmX13 hown hK hP hD hS 0 rfl rfl 6 (by decide) hw1 (fun _ h9 => h9) rfl (by decide +kernel) rfl rfl (Nat.le_of_ble_eq_true rfl) dX13_isBad_2 (fun H locs hP hD hS => ?_)
  have hP : va_P D vwCl (kModel G q0 v_1) H := by rw [ev_1]; exact hP
  have hD : va_D A (kModel G q0 v_1) := by rw [ev_1]; exact hD
  refine lv_aload_n hx hb dX13_isBad_5 rfl (lv_at hl 0 rfl) ?_
  refine lv_iload_n hx hb dX13_isBad_6 rfl (lv_at hl 2 rfl) ?_
  obtain ⟨v_2, ev_2, hf⟩ := nm_of hf
  refine va_put (D := D) (ci := 11) (v := .int a2) (ty := .int) (C := RX13) (T := TX13) (N := 27) hx hb hts hi11 tyX13 tyX13_ok nmX13 hown hK hP hD hS 0 rfl rfl 7 (by decide) hw2 (fun _ h9 => h9) rfl (by decide +kernel) rfl rfl (Nat.le_of_ble_eq_true rfl) dX13_isBad_7 (fun H locs hP hD hS => ?_)
  have hP : va_P D vwCl (kModel G q0 v_2) H := by rw [ev_2]; exact hP
  have hD : va_D A (kModel G q0 v_2) := by rw [ev_2]; exact hD
  refine lv_iconst (v := 1) hx hb dX13_isBad_10 (by decide) ?_
  obtain ⟨rfl, rfl⟩ := re2 hf
  exact hE (.inr rfl) hP hD hS dX13_isBad_11
def f_X13_refused (v0 : SV) : Option (Int32 × SV) :=
  nm (pF v0 3 (v0.1 1)) fun v_1 =>
  nm (pF v_1 4 (v_1.1 2)) fun v_2 =>
  nm (pF v_2 5 0) fun v_3 =>
  some ((-3), v_3)
abbrev rm_X13_refused : Room := { frames := 0, cells := 0, slots := 0, locals := 0 }
set_option maxHeartbeats 4000000 in
set_option maxRecDepth 100000 in
theorem c_X13_refused (l : Launch) (D : va_G) (G : Nat → ClassId) (q0 : Nat → Nat) (v0 : SV) (r : Int32) (v0' : SV) (hf : f_X13_refused v0 = some (r, v0')) (sz : Nat) : mC l yX13_refused wsX13_refused rm_X13_refused D (tyG G) kT [.ref (q0 0)] (kModel G q0 v0) (kModel G q0 v0') sz (some (.int r)) 0 0 := by
  refine mC_ofI (cc := cX13_refused) (maxL := 1) (ret := (some .int)) (by decide) rfl rfl (Nat.le_of_ble_eq_true rfl) ?_
  intro p e s m args below meth c Q0 hx hb hml hts hown hN hK A hD hA hE hP hS hJ ls hl
  have hl : lv_has ls 1 [(0, .ref (q0 0))] := hl
  unfold f_X13_refused at hf
  have hi11 : ∀ w ∈ u_ws RX13 TX13 27, w ∈ wsX13_refused := by decide +kernel
  have hw1 := hts (.fieldLink RX13 29 "BalconyCensusModel" "why" "I") (by decide +kernel)
  have hw2 := hts (.fieldLink RX13 35 "BalconyCensusModel" "reason" "I") (by decide +kernel)
  have hw3 := hts (.fieldLink RX13 32 "BalconyCensusModel" "number" "I") (by decide +kernel)
  have hw4 := hts (.fieldLink RX13 38 "BalconyCensusModel" "detail" "I") (by decide +kernel)
  have hw5 := hts (.fieldLink RX13 41 "BalconyCensusModel" "behind" "I") (by decide +kernel)
  refine lv_aload_n hx hb dX13_refused_0 rfl (lv_at hl 0 rfl) ?_
  refine lv_aload_n hx hb dX13_refused_1 rfl (lv_at hl 0 rfl) ?_
  refine va_get (D := D) (ci := 11) (v := .int (v0.1 1)) (C := RX13) (T := TX13) (N := 27) hx hb hts hi11 hown hK hP 0 rfl rfl 6 (by decide) hw1 (fun _ h9 => h9) rfl dX13_refused_2 ?_
  obtain ⟨v_1, ev_1, hf⟩ := nm_of hf
  refine va_put (D := D) (ci := 11) (v := .int (v0.1 1)) (ty := .int) (C := RX13) (T := TX13) (N := 27) hx hb hts hi11 tyX13 tyX13_ok nmX13 hown hK hP hD hS 0 rfl rfl 8 (by decide) hw2 (fun _ h9 => h9) rfl (by decide +kernel) rfl rfl (Nat.le_of_ble_eq_true rfl) dX13_refused_5 (fun H locs hP hD hS => ?_)
  have hP : va_P D vwCl (kModel G q0 v_1) H := by rw [ev_1]; exact hP
  have hD : va_D A (kModel G q0 v_1) := by rw [ev_1]; exact hD
  refine lv_aload_n hx hb dX13_refused_8 rfl (lv_at hl 0 rfl) ?_
  refine lv_aload_n hx hb dX13_refused_9 rfl (lv_at hl 0 rfl) ?_
  refine va_get (D := D) (ci := 11) (v := .int (v_1.1 2)) (C := RX13) (T := TX13) (N := 27) hx hb hts hi11 hown hK hP 0 rfl rfl 7 (by decide) hw3 (fun _ h9 => h9) rfl dX13_refused_10 ?_
  obtain ⟨v_2, ev_2, hf⟩ := nm_of hf
  refine va_put (D := D) (ci := 11) (v := .int (v_1.1 2)) (ty := .int) (C := RX13) (T := TX13) (N := 27) hx hb hts hi11 tyX13 tyX13_ok nmX13 hown hK hP hD hS 0 rfl rfl 9 (by decide) hw4 (fun _ h9 => h9) rfl (by decide +kernel) rfl rfl (Nat.le_of_ble_eq_true rfl) dX13_refused_13 (fun H locs hP hD hS => ?_)
  have hP : va_P D vwCl (kModel G q0 v_2) H := by rw [ev_2]; exact hP
  have hD : va_D A (kModel G q0 v_2) := by rw [ev_2]; exact hD
  refine lv_aload_n hx hb dX13_refused_16 rfl (lv_at hl 0 rfl) ?_
  refine lv_iconst (v := 0) hx hb dX13_refused_17 (by decide) ?_
  obtain ⟨v_3, ev_3, hf⟩ := nm_of hf
  refine va_put (D := D) (ci := 11) (v := .int 0) (ty := .int) (C := RX13) (T := TX13) (N := 27) hx hb hts hi11 tyX13 tyX13_ok nmX13 hown hK hP hD hS 0 rfl rfl 10 (by decide) hw5 (fun _ h9 => h9) rfl (by decide +kernel) rfl rfl (Nat.le_of_ble_eq_true rfl) dX13_refused_18 (fun H locs hP hD hS => ?_)
  have hP : va_P D vwCl (kModel G q0 v_3) H := by rw [ev_3]; exact hP
  have hD : va_D A (kModel G q0 v_3) := by rw [ev_3]; exact hD
  refine lv_bipush (v := (-3)) hx hb dX13_refused_21 (by decide +kernel) ?_
  obtain ⟨rfl, rfl⟩ := re2 hf
  exact hE hP hD hS dX13_refused_23
def f_X13_begins (v0 : SV) : Option SV :=
  bd1 (f_X13_copies 0 0 240 (v0.2 0) 240 (v0.2 1)) fun w_1 =>
  nm (pR v0 1 w_1) fun v_2 =>
  some v_2
abbrev rm_X13_begins : Room := { frames := 1, cells := 0, slots := 0, locals := 24 }
set_option maxHeartbeats 4000000 in
set_option maxRecDepth 100000 in
theorem c_X13_begins (l : Launch) (D : va_G) (G : Nat → ClassId) (q0 : Nat → Nat) (v0 : SV) (v0' : SV) (hf : f_X13_begins v0 = some v0') (sz : Nat) : mC l yX13_begins wsX13_begins rm_X13_begins D (tyG G) kT [.ref (q0 0)] (kModel G q0 v0) (kModel G q0 v0') sz none 0 0 := by
  refine mC_ofV (cc := cX13_begins) (maxL := 1) (ret := none) (by decide) rfl rfl (Nat.le_of_ble_eq_true rfl) ?_
  intro p e s m args below meth c Q0 hx hb hml hts hown hN hK A hD hA hE hP hS hJ ls hl
  have hl : lv_has ls 1 [(0, .ref (q0 0))] := hl
  unfold f_X13_begins at hf
  have hi11 : ∀ w ∈ u_ws RX13 TX13 27, w ∈ wsX13_begins := by decide +kernel
  have hw1 := hts (.fieldLink RX13 7 "BalconyCensusModel" "now" "[I") (by decide +kernel)
  have hw2 := hts (.fieldLink RX13 13 "BalconyCensusModel" "before" "[I") (by decide +kernel)
  refine lv_aload_n hx hb dX13_begins_0 rfl (lv_at hl 0 rfl) ?_
  refine va_get (D := D) (ci := 11) (v := .ref (q0 1)) (C := RX13) (T := TX13) (N := 27) hx hb hts hi11 hown hK hP 0 rfl rfl 0 (by decide) hw1 (fun _ h9 => h9) rfl dX13_begins_1 ?_
  refine lv_iconst (v := 0) hx hb dX13_begins_4 (by decide) ?_
  refine lv_aload_n hx hb dX13_begins_5 rfl (lv_at hl 0 rfl) ?_
  refine va_get (D := D) (ci := 11) (v := .ref (q0 2)) (C := RX13) (T := TX13) (N := 27) hx hb hts hi11 hown hK hP 0 rfl rfl 1 (by decide) hw2 (fun _ h9 => h9) rfl dX13_begins_6 ?_
  refine lv_iconst (v := 0) hx hb dX13_begins_9 (by decide) ?_
  obtain ⟨w_1, hc, hf⟩ := bd1_of hf
  refine k_S (As := [.ref (q0 1), .int 0, .ref (q0 2), .int 0]) (rest := []) (ws1 := (kModel G q0 (pR v0 1 w_1))) ⟨hx, hb, hml, hown, hts⟩ (c_X13_copies l D G (q0 1) 240 (q0 2) 240 0 0 (v0.2 0) (v0.2 1) _ hc  _) (va_cwS 4 hts gX13_begins_X13_copies rfl rfl rfl (by decide +kernel) ⟨Nat.le_of_ble_eq_true rfl, Nat.le_of_ble_eq_true rfl⟩) hl.1 (Nat.le_of_ble_eq_true rfl) dX13_begins_10 ⟨Nat.le_of_ble_eq_true rfl, Nat.le_of_ble_eq_true rfl⟩ rfl kT_bl (fun _ _ _ => trivial) hN hK hP hD hS hA [1, 2] [0, 3, 4, 5, 6, 7, 8, 9, 10, 11] [0, 10, 11, 1, 2, 3, 4, 5, 6, 7, 8, 9] [0, 1, 2, 3] rfl rfl rfl ⟨by decide, by decide, by decide, by decide⟩ rfl (fun H locs hP hD hS => ?_)
  obtain ⟨v_2, ev_2, hf⟩ := nm_of hf
  have hP : va_P D vwCl (kModel G q0 v_2) H := by rw [ev_2]; exact hP
  have hD : va_D A (kModel G q0 v_2) := by rw [ev_2]; exact hD
  obtain rfl := re1 hf
  exact hE hP hD hS dX13_begins_13
def f_X13_keeps_J56 (a1 : Int32) (jv_13 : SV) : Option (Int32 × SV) :=
  bd1 (f_X13_copies 0 (240 * (jv_13.1 0)) 240 (jv_13.2 1) 1920 (jv_13.2 4)) fun w_14 =>
  nm (pR jv_13 4 w_14) fun v_15 =>
  nm (pF v_15 0 ((v_15.1 0) + 1)) fun v_16 =>
  some (a1, v_16)
def f_X13_keeps_K11 (a1 : Int32) (y_10 : Int32) (z_11 : SV) : Option (Int32 × SV) :=
  nm (pF z_11 0 ((z_11.1 0) - 1)) fun v_12 =>
  f_X13_keeps_J56 a1 v_12
def f_X13_keeps_B11 (a1 : Int32) (selfL_7 : (Int32 → SV → Option (Int32 × SV))) (x_5 : Int32) (u_6 : SV) : Option (Int32 × SV) :=
  if 8 ≤ x_5 then
    f_X13_keeps_K11 a1 x_5 u_6
  else
    bd1 (f_X13_copies_same (240 * x_5) (240 * (x_5 - 1)) 1920 (u_6.2 4)) fun w_8 =>
    nm (pR u_6 4 w_8) fun v_9 =>
    selfL_7 (x_5 + 1) v_9
def f_X13_keeps (a1 : Int32) (v0 : SV) : Option (Int32 × SV) :=
  if (v0.1 0) = 8 then
    lz2 (f_X13_keeps_B11 a1) FU 1 v0
  else
    f_X13_keeps_J56 a1 v0
abbrev rm_X13_keeps : Room := { frames := 1, cells := 0, slots := 0, locals := 24 }
set_option maxHeartbeats 4000000 in
set_option maxRecDepth 100000 in
theorem c_X13_keeps (l : Launch) (D : va_G) (G : Nat → ClassId) (q0 : Nat → Nat) (a1 : Int32) (v0 : SV) (r : Int32) (v0' : SV) (hf : f_X13_keeps a1 v0 = some (r, v0')) (sz : Nat) : mC l yX13_keeps wsX13_keeps rm_X13_keeps D (tyG G) kT [.ref (q0 0), .int a1] (kModel G q0 v0) (kModel G q0 v0') sz (some (.int r)) 0 0 := by
  refine mC_ofI (cc := cX13_keeps) (maxL := 3) (ret := (some .int)) (by decide) rfl rfl (Nat.le_of_ble_eq_true rfl) ?_
  intro p e s m args below meth c Q0 hx hb hml hts hown hN hK A hD hA hE hP hS hJ ls hl
  have hl : lv_has ls 3 [(0, .ref (q0 0)), (1, .int a1)] := hl
  unfold f_X13_keeps at hf
  have hi11 : ∀ w ∈ u_ws RX13 TX13 27, w ∈ wsX13_keeps := by decide +kernel
  have hw1 := hts (.fieldLink RX13 25 "BalconyCensusModel" "changed" "I") (by decide +kernel)
  have hw2 := hts (.fieldLink RX13 22 "BalconyCensusModel" "changes" "[I") (by decide +kernel)
  have hw3 := hts (.fieldLink RX13 13 "BalconyCensusModel" "before" "[I") (by decide +kernel)
  refine lv_aload_n hx hb dX13_keeps_0 rfl (lv_at hl 0 rfl) ?_
  refine va_get (D := D) (ci := 11) (v := .int (v0.1 0)) (C := RX13) (T := TX13) (N := 27) hx hb hts hi11 hown hK hP 0 rfl rfl 5 (by decide) hw1 (fun _ h9 => h9) rfl dX13_keeps_1 ?_
  refine lv_bipush (v := 8) hx hb dX13_keeps_4 (by decide +kernel) ?_
  have jnJ_1 : ∀ (jv_13 : SV) (H : Heap) (locs : List Loc) (ls : Array Slot), lv_has ls 3 [(0, .ref (q0 0)), (1, .int a1)] → va_P D vwCl (kModel G q0 jv_13) H → va_D A (kModel G q0 jv_13) → va_S A s.heap H locs → f_X13_keeps_J56 a1 jv_13 = some (r, v0') → W p l e rm_X13_keeps s m args below meth c H locs 0 0 Q0 (F0 m 56 ls []) := by
    intro jv_13 H locs ls hl hP hD hS hf
    unfold f_X13_keeps_J56 at hf
    refine lv_aload_n hx hb dX13_keeps_56 rfl (lv_at hl 0 rfl) ?_
    refine va_get (D := D) (ci := 11) (v := .ref (q0 2)) (C := RX13) (T := TX13) (N := 27) hx hb hts hi11 hown hK hP 0 rfl rfl 1 (by decide) hw3 (fun _ h9 => h9) rfl dX13_keeps_57 ?_
    refine lv_iconst (v := 0) hx hb dX13_keeps_60 (by decide) ?_
    refine lv_aload_n hx hb dX13_keeps_61 rfl (lv_at hl 0 rfl) ?_
    refine va_get (D := D) (ci := 11) (v := .ref (q0 5)) (C := RX13) (T := TX13) (N := 27) hx hb hts hi11 hown hK hP 0 rfl rfl 4 (by decide) hw2 (fun _ h9 => h9) rfl dX13_keeps_62 ?_
    refine lv_sipush (v := 240) hx hb dX13_keeps_65 (by decide +kernel) ?_
    refine lv_aload_n hx hb dX13_keeps_68 rfl (lv_at hl 0 rfl) ?_
    refine va_get (D := D) (ci := 11) (v := .int (jv_13.1 0)) (C := RX13) (T := TX13) (N := 27) hx hb hts hi11 hown hK hP 0 rfl rfl 5 (by decide) hw1 (fun _ h9 => h9) rfl dX13_keeps_69 ?_
    refine lv_imul hx hb dX13_keeps_72 ?_
    obtain ⟨w_14, hc, hf⟩ := bd1_of hf
    refine k_S (As := [.ref (q0 2), .int 0, .ref (q0 5), .int (240 * (jv_13.1 0))]) (rest := []) (ws1 := (kModel G q0 (pR jv_13 4 w_14))) ⟨hx, hb, hml, hown, hts⟩ (c_X13_copies l D G (q0 2) 240 (q0 5) 1920 0 (240 * (jv_13.1 0)) (jv_13.2 1) (jv_13.2 4) _ hc  _) (va_cwS 4 hts gX13_keeps_X13_copies rfl rfl rfl (by decide +kernel) ⟨Nat.le_of_ble_eq_true rfl, Nat.le_of_ble_eq_true rfl⟩) hl.1 (Nat.le_of_ble_eq_true rfl) dX13_keeps_73 ⟨Nat.le_of_ble_eq_true rfl, Nat.le_of_ble_eq_true rfl⟩ rfl kT_bl (fun _ _ _ => trivial) hN hK hP hD hS hA [2, 5] [0, 1, 3, 4, 6, 7, 8, 9, 10, 11] [0, 1, 10, 2, 3, 11, 4, 5, 6, 7, 8, 9] [0, 1, 2, 3] rfl rfl rfl ⟨by decide, by decide, by decide, by decide⟩ rfl (fun H locs hP hD hS => ?_)
    obtain ⟨v_15, ev_15, hf⟩ := nm_of hf
    have hP : va_P D vwCl (kModel G q0 v_15) H := by rw [ev_15]; exact hP
    have hD : va_D A (kModel G q0 v_15) := by rw [ev_15]; exact hD
    refine lv_aload_n hx hb dX13_keeps_76 rfl (lv_at hl 0 rfl) ?_
    refine lv_dup hx hb dX13_keeps_77 rfl ?_
    refine va_get (D := D) (ci := 11) (v := .int (v_15.1 0)) (C := RX13) (T := TX13) (N := 27) hx hb hts hi11 hown hK hP 0 rfl rfl 5 (by decide) hw1 (fun _ h9 => h9) rfl dX13_keeps_78 ?_
    refine lv_iconst (v := 1) hx hb dX13_keeps_81 (by decide) ?_
    refine lv_iadd hx hb dX13_keeps_82 ?_
    obtain ⟨v_16, ev_16, hf⟩ := nm_of hf
    refine va_put (D := D) (ci := 11) (v := .int ((v_15.1 0) + 1)) (ty := .int) (C := RX13) (T := TX13) (N := 27) hx hb hts hi11 tyX13 tyX13_ok nmX13 hown hK hP hD hS 0 rfl rfl 5 (by decide) hw1 (fun _ h9 => h9) rfl (by decide +kernel) rfl rfl (Nat.le_of_ble_eq_true rfl) dX13_keeps_83 (fun H locs hP hD hS => ?_)
    have hP : va_P D vwCl (kModel G q0 v_16) H := by rw [ev_16]; exact hP
    have hD : va_D A (kModel G q0 v_16) := by rw [ev_16]; exact hD
    refine lv_iload_n hx hb dX13_keeps_86 rfl (lv_at hl 1 rfl) ?_
    obtain ⟨rfl, rfl⟩ := re2 hf
    exact hE hP hD hS dX13_keeps_87
  refine lv_icmp_ne (tgt := 56) hx hb dX13_keeps_6 (by decide) (fun cc => ?_) (fun cc => ?_)
  · replace hf := ifF cc hf
    exact jnJ_1 v0 _ _ _ (lv_sub hl [0, 1] rfl) hP hD hS hf
  · replace hf := ifT cc hf
    refine lv_iconst (v := 1) hx hb dX13_keeps_9 (by decide) ?_
    refine lv_istore_n (lv' := [(2, .int 1), (0, .ref (q0 0)), (1, .int a1)]) hx hb dX13_keeps_10 rfl hl (by decide) rfl (fun ls hl => ?_)
    have exL_7 : ∀ (y_10 : Int32) (z_11 : SV) (H : Heap) (locs : List Loc) (ls : Array Slot), lv_has ls 3 [(2, .int y_10), (0, .ref (q0 0)), (1, .int a1)] → va_P D vwCl (kModel G q0 z_11) H → va_D A (kModel G q0 z_11) → va_S A s.heap H locs → f_X13_keeps_K11 a1 y_10 z_11 = some (r, v0') → W p l e rm_X13_keeps s m args below meth c H locs 0 0 Q0 (F0 m 46 ls []) := by
      intro y_10 z_11 H locs ls hl hP hD hS hf
      unfold f_X13_keeps_K11 at hf
      refine lv_aload_n hx hb dX13_keeps_46 rfl (lv_at hl 1 rfl) ?_
      refine lv_dup hx hb dX13_keeps_47 rfl ?_
      refine va_get (D := D) (ci := 11) (v := .int (z_11.1 0)) (C := RX13) (T := TX13) (N := 27) hx hb hts hi11 hown hK hP 0 rfl rfl 5 (by decide) hw1 (fun _ h9 => h9) rfl dX13_keeps_48 ?_
      refine lv_iconst (v := 1) hx hb dX13_keeps_51 (by decide) ?_
      refine lv_isub hx hb dX13_keeps_52 ?_
      obtain ⟨v_12, ev_12, hf⟩ := nm_of hf
      refine va_put (D := D) (ci := 11) (v := .int ((z_11.1 0) - 1)) (ty := .int) (C := RX13) (T := TX13) (N := 27) hx hb hts hi11 tyX13 tyX13_ok nmX13 hown hK hP hD hS 0 rfl rfl 5 (by decide) hw1 (fun _ h9 => h9) rfl (by decide +kernel) rfl rfl (Nat.le_of_ble_eq_true rfl) dX13_keeps_53 (fun H locs hP hD hS => ?_)
      have hP : va_P D vwCl (kModel G q0 v_12) H := by rw [ev_12]; exact hP
      have hD : va_D A (kModel G q0 v_12) := by rw [ev_12]; exact hD
      exact jnJ_1 v_12 _ _ _ (lv_sub hl [1, 2] rfl) hP hD hS hf
    have loL_7 : ∀ (n : Nat) (x_5 : Int32) (u_6 : SV) (H : Heap) (locs : List Loc) (ls : Array Slot), lv_has ls 3 [(2, .int x_5), (0, .ref (q0 0)), (1, .int a1)] → va_P D vwCl (kModel G q0 u_6) H → va_D A (kModel G q0 u_6) → va_S A s.heap H locs → lz2 (f_X13_keeps_B11 a1) n x_5 u_6 = some (r, v0') → W p l e rm_X13_keeps s m args below meth c H locs 0 0 Q0 (F0 m 11 ls []) := by
      intro n
      induction n with
      | zero => intro x_5 u_6 H locs ls hl hP hD hS hf; cases hf
      | succ n ihL_7 =>
        intro x_5 u_6 H locs ls hl hP hD hS hf
        replace hf := lz2_s hf
        unfold f_X13_keeps_B11 at hf
        refine lv_iload_n hx hb dX13_keeps_11 rfl (lv_at hl 0 rfl) ?_
        refine lv_bipush (v := 8) hx hb dX13_keeps_12 (by decide +kernel) ?_
        refine lv_icmp_ge (tgt := 46) hx hb dX13_keeps_14 (by decide) (fun cc => ?_) (fun cc => ?_)
        · replace hf := ifT cc hf
          exact exL_7 x_5 u_6 _ _ _ (lv_sub hl [0, 1, 2] rfl) hP hD hS hf
        · replace hf := ifF cc hf
          refine lv_aload_n hx hb dX13_keeps_17 rfl (lv_at hl 1 rfl) ?_
          refine va_get (D := D) (ci := 11) (v := .ref (q0 5)) (C := RX13) (T := TX13) (N := 27) hx hb hts hi11 hown hK hP 0 rfl rfl 4 (by decide) hw2 (fun _ h9 => h9) rfl dX13_keeps_18 ?_
          refine lv_sipush (v := 240) hx hb dX13_keeps_21 (by decide +kernel) ?_
          refine lv_iload_n hx hb dX13_keeps_24 rfl (lv_at hl 0 rfl) ?_
          refine lv_imul hx hb dX13_keeps_25 ?_
          refine lv_aload_n hx hb dX13_keeps_26 rfl (lv_at hl 1 rfl) ?_
          refine va_get (D := D) (ci := 11) (v := .ref (q0 5)) (C := RX13) (T := TX13) (N := 27) hx hb hts hi11 hown hK hP 0 rfl rfl 4 (by decide) hw2 (fun _ h9 => h9) rfl dX13_keeps_27 ?_
          refine lv_sipush (v := 240) hx hb dX13_keeps_30 (by decide +kernel) ?_
          refine lv_iload_n hx hb dX13_keeps_33 rfl (lv_at hl 0 rfl) ?_
          refine lv_iconst (v := 1) hx hb dX13_keeps_34 (by decide) ?_
          refine lv_isub hx hb dX13_keeps_35 ?_
          refine lv_imul hx hb dX13_keeps_36 ?_
          obtain ⟨w_8, hc, hf⟩ := bd1_of hf
          refine k_S (As := [.ref (q0 5), .int (240 * x_5), .ref (q0 5), .int (240 * (x_5 - 1))]) (rest := []) (ws1 := (kModel G q0 (pR u_6 4 w_8))) ⟨hx, hb, hml, hown, hts⟩ (c_X13_copies_same l D G (q0 5) 1920 (240 * x_5) (240 * (x_5 - 1)) (u_6.2 4) _ hc  _) (va_cwS 4 hts gX13_keeps_X13_copies rfl rfl rfl (by decide +kernel) ⟨Nat.le_of_ble_eq_true rfl, Nat.le_of_ble_eq_true rfl⟩) hl.1 (Nat.le_of_ble_eq_true rfl) dX13_keeps_37 ⟨Nat.le_of_ble_eq_true rfl, Nat.le_of_ble_eq_true rfl⟩ rfl kT_bl (fun _ _ _ => trivial) hN hK hP hD hS hA [5] [0, 1, 2, 3, 4, 6, 7, 8, 9, 10, 11] [0, 1, 2, 3, 4, 11, 5, 6, 7, 8, 9, 10] [0, 1, 2, 3] rfl rfl rfl ⟨by decide, by decide, by decide, by decide⟩ rfl (fun H locs hP hD hS => ?_)
          obtain ⟨v_9, ev_9, hf⟩ := nm_of hf
          have hP : va_P D vwCl (kModel G q0 v_9) H := by rw [ev_9]; exact hP
          have hD : va_D A (kModel G q0 v_9) := by rw [ev_9]; exact hD
          refine lv_iinc (v := (x_5 + 1)) (lv' := [(2, .int (x_5 + 1)), (0, .ref (q0 0)), (1, .int a1)]) hx hb dX13_keeps_40 hl (k := 0) rfl rfl (by decide) rfl (fun ls hl => ?_)
          refine lv_goto (tgt := 11) hx hb dX13_keeps_43 (by decide) ?_
          exact ihL_7 (x_5 + 1) v_9 _ _ _ (lv_sub hl [0, 1, 2] rfl) hP hD hS hf
    exact loL_7 FU 1 v0 _ _ _ hl hP hD hS hf
def f_X13_isBalcony (a0 : Int32) : Option Int32 :=
  bd1 (f_X13_in a0 0 11) fun r_1 =>
  ckB r_1 <|
  some r_1
abbrev rm_X13_isBalcony : Room := { frames := 1, cells := 0, slots := 0, locals := 22 }
set_option maxHeartbeats 4000000 in
set_option maxRecDepth 100000 in
theorem c_X13_isBalcony (l : Launch) (D : va_G) (G : Nat → ClassId) (a0 : Int32) (r : Int32) (hf : f_X13_isBalcony a0 = some r) (sz : Nat) : mC l yX13_isBalcony wsX13_isBalcony rm_X13_isBalcony D (tyG G) kT [.int a0] ([] : va_W) ([] : va_W) sz (some (.int r)) 0 0 := by
  refine mC_ofZ (cc := cX13_isBalcony) (maxL := 1) (ret := (some .boolean)) (by decide) rfl rfl (Nat.le_of_ble_eq_true rfl) ?_
  intro p e s m args below meth c Q0 hx hb hml hts hown hN hK A hD hA hE hP hS hJ ls hl
  have hl : lv_has ls 1 [(0, .int a0)] := hl
  unfold f_X13_isBalcony at hf
  refine lv_iload_n hx hb dX13_isBalcony_0 rfl (lv_at hl 0 rfl) ?_
  refine lv_iconst (v := 0) hx hb dX13_isBalcony_1 (by decide) ?_
  refine lv_bipush (v := 11) hx hb dX13_isBalcony_2 (by decide +kernel) ?_
  obtain ⟨r_1, hc, hf⟩ := bd1_of hf
  refine k_S (As := [.int a0, .int 0, .int 11]) (rest := []) (ws1 := ([] : va_W)) ⟨hx, hb, hml, hown, hts⟩ (c_X13_in l D G  a0 0 11  _ hc  _) (va_cwS 3 hts gX13_isBalcony_X13_in rfl rfl rfl (by decide +kernel) ⟨Nat.le_of_ble_eq_true rfl, Nat.le_of_ble_eq_true rfl⟩) hl.1 (Nat.le_of_ble_eq_true rfl) dX13_isBalcony_4 ⟨Nat.le_of_ble_eq_true rfl, Nat.le_of_ble_eq_true rfl⟩ rfl kT_bl (fun _ _ _ => trivial) hN hK hP hD hS hA [] [] [] [0, 1, 2, 3] rfl rfl rfl ⟨by decide, by decide, by decide, by decide⟩ rfl (fun H locs hP hD hS => ?_)
  obtain ⟨h01, hf⟩ := ckB_of hf
  obtain rfl := re1 hf
  exact hE h01 hP hD hS dX13_isBalcony_7
def f_X13_isAbove (a0 : Int32) (a1 : Int32) : Option Int32 :=
  if a0 ≤ a1 then
    some 0
  else
    if (a0 - a0 / 4 * 4) = (a1 - a1 / 4 * 4) then
      some 1
    else
      some 0
abbrev rm_X13_isAbove : Room := { frames := 0, cells := 0, slots := 0, locals := 0 }
set_option maxHeartbeats 4000000 in
set_option maxRecDepth 100000 in
theorem c_X13_isAbove (l : Launch) (D : va_G) (G : Nat → ClassId) (a0 : Int32) (a1 : Int32) (r : Int32) (hf : f_X13_isAbove a0 a1 = some r) (sz : Nat) : mC l yX13_isAbove wsX13_isAbove rm_X13_isAbove D (tyG G) kT [.int a0, .int a1] ([] : va_W) ([] : va_W) sz (some (.int r)) 0 0 := by
  refine mC_ofZ (cc := cX13_isAbove) (maxL := 2) (ret := (some .boolean)) (by decide) rfl rfl (Nat.le_of_ble_eq_true rfl) ?_
  intro p e s m args below meth c Q0 hx hb hml hts hown hN hK A hD hA hE hP hS hJ ls hl
  have hl : lv_has ls 2 [(0, .int a0), (1, .int a1)] := hl
  unfold f_X13_isAbove at hf
  refine lv_iload_n hx hb dX13_isAbove_0 rfl (lv_at hl 0 rfl) ?_
  refine lv_iload_n hx hb dX13_isAbove_1 rfl (lv_at hl 1 rfl) ?_
  refine lv_icmp_le (tgt := 18) hx hb dX13_isAbove_2 (by decide) (fun cc => ?_) (fun cc => ?_)
  · replace hf := ifT cc hf
    refine lv_iconst (v := 0) hx hb dX13_isAbove_18 (by decide) ?_
    obtain rfl := re1 hf
    exact hE (.inl rfl) hP hD hS dX13_isAbove_19
  · replace hf := ifF cc hf
    refine lv_iload_n hx hb dX13_isAbove_5 rfl (lv_at hl 0 rfl) ?_
    refine lv_iconst (v := 4) hx hb dX13_isAbove_6 (by decide) ?_
    refine lv_irem hx hb dX13_isAbove_7 (by decide) ?_
    refine lv_iload_n hx hb dX13_isAbove_8 rfl (lv_at hl 1 rfl) ?_
    refine lv_iconst (v := 4) hx hb dX13_isAbove_9 (by decide) ?_
    refine lv_irem hx hb dX13_isAbove_10 (by decide) ?_
    refine lv_icmp_ne (tgt := 18) hx hb dX13_isAbove_11 (by decide) (fun cc => ?_) (fun cc => ?_)
    · replace hf := ifF cc hf
      refine lv_iconst (v := 0) hx hb dX13_isAbove_18 (by decide) ?_
      obtain rfl := re1 hf
      exact hE (.inl rfl) hP hD hS dX13_isAbove_19
    · replace hf := ifT cc hf
      refine lv_iconst (v := 1) hx hb dX13_isAbove_14 (by decide) ?_
      refine lv_goto (tgt := 19) hx hb dX13_isAbove_15 (by decide) ?_
      obtain rfl := re1 hf
      exact hE (.inr rfl) hP hD hS dX13_isAbove_19
def f_X13_isBeside_J14 (a0 : Int32) (a1 : Int32) (j_2 : Int32) : Option Int32 :=
  if j_2 = 4 then
    some 1
  else
    if j_2 = 1 then
      if (a0 / 4) = (a1 / 4) then
        some 1
      else
        some 0
    else
      some 0
def f_X13_isBeside (a0 : Int32) (a1 : Int32) : Option Int32 :=
  if a1 ≤ a0 then
    f_X13_isBeside_J14 a0 a1 (a0 - a1)
  else
    f_X13_isBeside_J14 a0 a1 (a1 - a0)
abbrev rm_X13_isBeside : Room := { frames := 0, cells := 0, slots := 0, locals := 0 }
set_option maxHeartbeats 4000000 in
set_option maxRecDepth 100000 in
theorem c_X13_isBeside (l : Launch) (D : va_G) (G : Nat → ClassId) (a0 : Int32) (a1 : Int32) (r : Int32) (hf : f_X13_isBeside a0 a1 = some r) (sz : Nat) : mC l yX13_isBeside wsX13_isBeside rm_X13_isBeside D (tyG G) kT [.int a0, .int a1] ([] : va_W) ([] : va_W) sz (some (.int r)) 0 0 := by
  refine mC_ofZ (cc := cX13_isBeside) (maxL := 3) (ret := (some .boolean)) (by decide) rfl rfl (Nat.le_of_ble_eq_true rfl) ?_
  intro p e s m args below meth c Q0 hx hb hml hts hown hN hK A hD hA hE hP hS hJ ls hl
  have hl : lv_has ls 3 [(0, .int a0), (1, .int a1)] := hl
  unfold f_X13_isBeside at hf
  refine lv_iload_n hx hb dX13_isBeside_0 rfl (lv_at hl 0 rfl) ?_
  refine lv_iload_n hx hb dX13_isBeside_1 rfl (lv_at hl 1 rfl) ?_
  have jnJ_1 : ∀ (j_2 : Int32) (H : Heap) (locs : List Loc) (ls : Array Slot), lv_has ls 3 [(0, .int a0), (1, .int a1)] → va_P D vwCl ([] : va_W) H → va_D A ([] : va_W) → va_S A s.heap H locs → f_X13_isBeside_J14 a0 a1 j_2 = some r → W p l e rm_X13_isBeside s m args below meth c H locs 0 0 Q0 (F0 m 14 ls [.int j_2]) := by
    intro j_2 H locs ls hl hP hD hS hf
    unfold f_X13_isBeside_J14 at hf
    refine lv_istore_n (lv' := [(2, .int j_2), (0, .int a0), (1, .int a1)]) hx hb dX13_isBeside_14 rfl hl (by decide) rfl (fun ls hl => ?_)
    refine lv_iload_n hx hb dX13_isBeside_15 rfl (lv_at hl 0 rfl) ?_
    refine lv_iconst (v := 4) hx hb dX13_isBeside_16 (by decide) ?_
    refine lv_icmp_eq (tgt := 34) hx hb dX13_isBeside_17 (by decide) (fun cc => ?_) (fun cc => ?_)
    · replace hf := ifT cc hf
      refine lv_iconst (v := 1) hx hb dX13_isBeside_34 (by decide) ?_
      refine lv_goto (tgt := 39) hx hb dX13_isBeside_35 (by decide) ?_
      obtain rfl := re1 hf
      exact hE (.inr rfl) hP hD hS dX13_isBeside_39
    · replace hf := ifF cc hf
      refine lv_iload_n hx hb dX13_isBeside_20 rfl (lv_at hl 0 rfl) ?_
      refine lv_iconst (v := 1) hx hb dX13_isBeside_21 (by decide) ?_
      refine lv_icmp_ne (tgt := 38) hx hb dX13_isBeside_22 (by decide) (fun cc => ?_) (fun cc => ?_)
      · replace hf := ifF cc hf
        refine lv_iconst (v := 0) hx hb dX13_isBeside_38 (by decide) ?_
        obtain rfl := re1 hf
        exact hE (.inl rfl) hP hD hS dX13_isBeside_39
      · replace hf := ifT cc hf
        refine lv_iload_n hx hb dX13_isBeside_25 rfl (lv_at hl 1 rfl) ?_
        refine lv_iconst (v := 4) hx hb dX13_isBeside_26 (by decide) ?_
        refine lv_idiv hx hb dX13_isBeside_27 (by decide) ?_
        refine lv_iload_n hx hb dX13_isBeside_28 rfl (lv_at hl 2 rfl) ?_
        refine lv_iconst (v := 4) hx hb dX13_isBeside_29 (by decide) ?_
        refine lv_idiv hx hb dX13_isBeside_30 (by decide) ?_
        refine lv_icmp_ne (tgt := 38) hx hb dX13_isBeside_31 (by decide) (fun cc => ?_) (fun cc => ?_)
        · replace hf := ifF cc hf
          refine lv_iconst (v := 0) hx hb dX13_isBeside_38 (by decide) ?_
          obtain rfl := re1 hf
          exact hE (.inl rfl) hP hD hS dX13_isBeside_39
        · replace hf := ifT cc hf
          refine lv_iconst (v := 1) hx hb dX13_isBeside_34 (by decide) ?_
          refine lv_goto (tgt := 39) hx hb dX13_isBeside_35 (by decide) ?_
          obtain rfl := re1 hf
          exact hE (.inr rfl) hP hD hS dX13_isBeside_39
  refine lv_icmp_ge (tgt := 11) hx hb dX13_isBeside_2 (by decide) (fun cc => ?_) (fun cc => ?_)
  · replace hf := ifT cc hf
    refine lv_iload_n hx hb dX13_isBeside_11 rfl (lv_at hl 0 rfl) ?_
    refine lv_iload_n hx hb dX13_isBeside_12 rfl (lv_at hl 1 rfl) ?_
    refine lv_isub hx hb dX13_isBeside_13 ?_
    exact jnJ_1 (a0 - a1) _ _ _ (lv_sub hl [0, 1] rfl) hP hD hS hf
  · replace hf := ifF cc hf
    refine lv_iload_n hx hb dX13_isBeside_5 rfl (lv_at hl 1 rfl) ?_
    refine lv_iload_n hx hb dX13_isBeside_6 rfl (lv_at hl 0 rfl) ?_
    refine lv_isub hx hb dX13_isBeside_7 ?_
    refine lv_goto (tgt := 14) hx hb dX13_isBeside_8 (by decide) ?_
    exact jnJ_1 (a1 - a0) _ _ _ (lv_sub hl [0, 1] rfl) hP hD hS hf
def f_X13_plants (a1 : Int32) (v0 : SV) : Option Int32 :=
  ckI (10 + a1) 240 <|
  some (v0.2 0 (10 + a1).toNatClampNeg)
abbrev rm_X13_plants : Room := { frames := 0, cells := 0, slots := 0, locals := 0 }
set_option maxHeartbeats 4000000 in
set_option maxRecDepth 100000 in
theorem c_X13_plants (l : Launch) (D : va_G) (G : Nat → ClassId) (q0 : Nat → Nat) (a1 : Int32) (v0 : SV) (r : Int32) (hf : f_X13_plants a1 v0 = some r) (sz : Nat) : mC l yX13_plants wsX13_plants rm_X13_plants D (tyG G) kT [.ref (q0 0), .int a1] (kModel G q0 v0) (kModel G q0 v0) sz (some (.int r)) 0 0 := by
  refine mC_ofI (cc := cX13_plants) (maxL := 2) (ret := (some .int)) (by decide) rfl rfl (Nat.le_of_ble_eq_true rfl) ?_
  intro p e s m args below meth c Q0 hx hb hml hts hown hN hK A hD hA hE hP hS hJ ls hl
  have hl : lv_has ls 2 [(0, .ref (q0 0)), (1, .int a1)] := hl
  unfold f_X13_plants at hf
  have hi11 : ∀ w ∈ u_ws RX13 TX13 27, w ∈ wsX13_plants := by decide +kernel
  have hw1 := hts (.fieldLink RX13 7 "BalconyCensusModel" "now" "[I") (by decide +kernel)
  refine lv_aload_n hx hb dX13_plants_0 rfl (lv_at hl 0 rfl) ?_
  refine va_get (D := D) (ci := 11) (v := .ref (q0 1)) (C := RX13) (T := TX13) (N := 27) hx hb hts hi11 hown hK hP 0 rfl rfl 0 (by decide) hw1 (fun _ h9 => h9) rfl dX13_plants_1 ?_
  refine lv_bipush (v := 10) hx hb dX13_plants_4 (by decide +kernel) ?_
  refine lv_iload_n hx hb dX13_plants_6 rfl (lv_at hl 1 rfl) ?_
  refine lv_iadd hx hb dX13_plants_7 ?_
  obtain ⟨hin, hf⟩ := ckI_of hf
  refine va_iald (D := D) hx hb hK hP 1 0 rfl rfl hin dX13_plants_8 ?_
  obtain rfl := re1 hf
  exact hE hP hD hS dX13_plants_9
def f_X13_allPlants_K4 (y_7 : Int32) (y_8 : Int32) : Option Int32 :=
  some y_8
def f_X13_allPlants_B4 (v0 : SV) (selfL_5 : (Int32 → Int32 → Option Int32)) (x_3 : Int32) (x_4 : Int32) : Option Int32 :=
  if 12 ≤ x_3 then
    f_X13_allPlants_K4 x_3 x_4
  else
    bd1 (f_X13_plants x_3 v0) fun r_6 =>
    selfL_5 (x_3 + 1) (x_4 + r_6)
def f_X13_allPlants (v0 : SV) : Option Int32 :=
  lz2 (f_X13_allPlants_B4 v0) FU 0 0
abbrev rm_X13_allPlants : Room := { frames := 1, cells := 0, slots := 0, locals := 21 }
set_option maxHeartbeats 4000000 in
set_option maxRecDepth 100000 in
theorem c_X13_allPlants (l : Launch) (D : va_G) (G : Nat → ClassId) (q0 : Nat → Nat) (v0 : SV) (r : Int32) (hf : f_X13_allPlants v0 = some r) (sz : Nat) : mC l yX13_allPlants wsX13_allPlants rm_X13_allPlants D (tyG G) kT [.ref (q0 0)] (kModel G q0 v0) (kModel G q0 v0) sz (some (.int r)) 0 0 := by
  refine mC_ofI (cc := cX13_allPlants) (maxL := 3) (ret := (some .int)) (by decide) rfl rfl (Nat.le_of_ble_eq_true rfl) ?_
  intro p e s m args below meth c Q0 hx hb hml hts hown hN hK A hD hA hE hP hS hJ ls hl
  have hl : lv_has ls 3 [(0, .ref (q0 0))] := hl
  unfold f_X13_allPlants at hf
  refine lv_iconst (v := 0) hx hb dX13_allPlants_0 (by decide) ?_
  refine lv_istore_n (lv' := [(1, .int 0), (0, .ref (q0 0))]) hx hb dX13_allPlants_1 rfl hl (by decide) rfl (fun ls hl => ?_)
  refine lv_iconst (v := 0) hx hb dX13_allPlants_2 (by decide) ?_
  refine lv_istore_n (lv' := [(2, .int 0), (1, .int 0), (0, .ref (q0 0))]) hx hb dX13_allPlants_3 rfl hl (by decide) rfl (fun ls hl => ?_)
  have exL_5 : ∀ (y_7 : Int32) (y_8 : Int32) (H : Heap) (locs : List Loc) (ls : Array Slot), lv_has ls 3 [(2, .int y_7), (1, .int y_8), (0, .ref (q0 0))] → va_P D vwCl (kModel G q0 v0) H → va_D A (kModel G q0 v0) → va_S A s.heap H locs → f_X13_allPlants_K4 y_7 y_8 = some r → W p l e rm_X13_allPlants s m args below meth c H locs 0 0 Q0 (F0 m 24 ls []) := by
    intro y_7 y_8 H locs ls hl hP hD hS hf
    unfold f_X13_allPlants_K4 at hf
    refine lv_iload_n hx hb dX13_allPlants_24 rfl (lv_at hl 1 rfl) ?_
    obtain rfl := re1 hf
    exact hE hP hD hS dX13_allPlants_25
  have loL_5 : ∀ (n : Nat) (x_3 : Int32) (x_4 : Int32) (H : Heap) (locs : List Loc) (ls : Array Slot), lv_has ls 3 [(2, .int x_3), (1, .int x_4), (0, .ref (q0 0))] → va_P D vwCl (kModel G q0 v0) H → va_D A (kModel G q0 v0) → va_S A s.heap H locs → lz2 (f_X13_allPlants_B4 v0) n x_3 x_4 = some r → W p l e rm_X13_allPlants s m args below meth c H locs 0 0 Q0 (F0 m 4 ls []) := by
    intro n
    induction n with
    | zero => intro x_3 x_4 H locs ls hl hP hD hS hf; cases hf
    | succ n ihL_5 =>
      intro x_3 x_4 H locs ls hl hP hD hS hf
      replace hf := lz2_s hf
      unfold f_X13_allPlants_B4 at hf
      refine lv_iload_n hx hb dX13_allPlants_4 rfl (lv_at hl 0 rfl) ?_
      refine lv_bipush (v := 12) hx hb dX13_allPlants_5 (by decide +kernel) ?_
      refine lv_icmp_ge (tgt := 24) hx hb dX13_allPlants_7 (by decide) (fun cc => ?_) (fun cc => ?_)
      · replace hf := ifT cc hf
        exact exL_5 x_3 x_4 _ _ _ (lv_sub hl [0, 1, 2] rfl) hP hD hS hf
      · replace hf := ifF cc hf
        refine lv_iload_n hx hb dX13_allPlants_10 rfl (lv_at hl 1 rfl) ?_
        refine lv_aload_n hx hb dX13_allPlants_11 rfl (lv_at hl 2 rfl) ?_
        refine lv_iload_n hx hb dX13_allPlants_12 rfl (lv_at hl 0 rfl) ?_
        obtain ⟨r_6, hc, hf⟩ := bd1_of hf
        refine k_V (As := [.int x_3]) (rest := [.int x_4]) (ws1 := (kModel G q0 v0)) ⟨hx, hb, hml, hown, hts⟩ (c_X13_plants l D G q0 x_3 v0 _ hc  _) (cwV 1 hts gX13_allPlants_X13_plants rfl rfl rfl (by decide +kernel) ⟨Nat.le_of_ble_eq_true rfl, Nat.le_of_ble_eq_true rfl⟩) hl.1 (Nat.le_of_ble_eq_true rfl) dX13_allPlants_13 ⟨Nat.le_of_ble_eq_true rfl, Nat.le_of_ble_eq_true rfl⟩ rfl kT_bl (fun _ _ _ => trivial) hN hK hP hD hS hA 0 11 rfl rfl rfl [0, 1, 2, 3, 4, 5, 6, 7, 8, 9, 10, 11] [] [0, 1, 2, 3, 4, 5, 6, 7, 8, 9, 10, 11] [0, 1, 2, 3] rfl rfl rfl ⟨by decide, by decide, by decide, by decide⟩ rfl (fun H locs hP hD hS => ?_)
        refine lv_iadd hx hb dX13_allPlants_16 ?_
        refine lv_istore_n (lv' := [(1, .int (x_4 + r_6)), (2, .int x_3), (0, .ref (q0 0))]) hx hb dX13_allPlants_17 rfl hl (by decide) rfl (fun ls hl => ?_)
        refine lv_iinc (v := (x_3 + 1)) (lv' := [(2, .int (x_3 + 1)), (1, .int (x_4 + r_6)), (0, .ref (q0 0))]) hx hb dX13_allPlants_18 hl (k := 1) rfl rfl (by decide) rfl (fun ls hl => ?_)
        refine lv_goto (tgt := 4) hx hb dX13_allPlants_21 (by decide) ?_
        exact ihL_5 (x_3 + 1) (x_4 + r_6) _ _ _ (lv_sub hl [0, 1, 2] rfl) hP hD hS hf
  exact loL_5 FU 0 0 _ _ _ hl hP hD hS hf
def f_X13_linePart (a1 : Int32) (a2 : Int32) (v0 : SV) : Option Int32 :=
  ckI ((190 + (3 * a1)) + a2) 240 <|
  some (v0.2 0 ((190 + (3 * a1)) + a2).toNatClampNeg)
abbrev rm_X13_linePart : Room := { frames := 0, cells := 0, slots := 0, locals := 0 }
set_option maxHeartbeats 4000000 in
set_option maxRecDepth 100000 in
theorem c_X13_linePart (l : Launch) (D : va_G) (G : Nat → ClassId) (q0 : Nat → Nat) (a1 : Int32) (a2 : Int32) (v0 : SV) (r : Int32) (hf : f_X13_linePart a1 a2 v0 = some r) (sz : Nat) : mC l yX13_linePart wsX13_linePart rm_X13_linePart D (tyG G) kT [.ref (q0 0), .int a1, .int a2] (kModel G q0 v0) (kModel G q0 v0) sz (some (.int r)) 0 0 := by
  refine mC_ofI (cc := cX13_linePart) (maxL := 3) (ret := (some .int)) (by decide) rfl rfl (Nat.le_of_ble_eq_true rfl) ?_
  intro p e s m args below meth c Q0 hx hb hml hts hown hN hK A hD hA hE hP hS hJ ls hl
  have hl : lv_has ls 3 [(0, .ref (q0 0)), (1, .int a1), (2, .int a2)] := hl
  unfold f_X13_linePart at hf
  have hi11 : ∀ w ∈ u_ws RX13 TX13 27, w ∈ wsX13_linePart := by decide +kernel
  have hw1 := hts (.fieldLink RX13 7 "BalconyCensusModel" "now" "[I") (by decide +kernel)
  refine lv_aload_n hx hb dX13_linePart_0 rfl (lv_at hl 0 rfl) ?_
  refine va_get (D := D) (ci := 11) (v := .ref (q0 1)) (C := RX13) (T := TX13) (N := 27) hx hb hts hi11 hown hK hP 0 rfl rfl 0 (by decide) hw1 (fun _ h9 => h9) rfl dX13_linePart_1 ?_
  refine lv_sipush (v := 190) hx hb dX13_linePart_4 (by decide +kernel) ?_
  refine lv_iconst (v := 3) hx hb dX13_linePart_7 (by decide) ?_
  refine lv_iload_n hx hb dX13_linePart_8 rfl (lv_at hl 1 rfl) ?_
  refine lv_imul hx hb dX13_linePart_9 ?_
  refine lv_iadd hx hb dX13_linePart_10 ?_
  refine lv_iload_n hx hb dX13_linePart_11 rfl (lv_at hl 2 rfl) ?_
  refine lv_iadd hx hb dX13_linePart_12 ?_
  obtain ⟨hin, hf⟩ := ckI_of hf
  refine va_iald (D := D) hx hb hK hP 1 0 rfl rfl hin dX13_linePart_13 ?_
  obtain rfl := re1 hf
  exact hE hP hD hS dX13_linePart_14
def f_X13_lineBetween_K2 (y_12 : Int32) : Option Int32 :=
  some (-1)
def f_X13_lineBetween_J28 (r_8 : Int32) (x_6 : Int32) (v0 : SV) (a2 : Int32) (a1 : Int32) (selfL_7 : (Int32 → Option Int32)) (j_10 : Int32) : Option Int32 :=
  if r_8 = j_10 then
    bd1 (f_X13_linePart x_6 1 v0) fun r_11 =>
    if a2 ≤ a1 then
      if r_11 = a1 then
        some x_6
      else
        selfL_7 (x_6 + 1)
    else
      if r_11 = a2 then
        some x_6
      else
        selfL_7 (x_6 + 1)
  else
    selfL_7 (x_6 + 1)
def f_X13_lineBetween_B2 (v0 : SV) (a2 : Int32) (a1 : Int32) (selfL_7 : (Int32 → Option Int32)) (x_6 : Int32) : Option Int32 :=
  ckI 0 240 <|
  if (v0.2 0 (0 : Int32).toNatClampNeg) ≤ x_6 then
    f_X13_lineBetween_K2 x_6
  else
    bd1 (f_X13_linePart x_6 0 v0) fun r_8 =>
    if a2 ≤ a1 then
      f_X13_lineBetween_J28 r_8 x_6 v0 a2 a1 selfL_7 a2
    else
      f_X13_lineBetween_J28 r_8 x_6 v0 a2 a1 selfL_7 a1
def f_X13_lineBetween (a1 : Int32) (a2 : Int32) (v0 : SV) : Option Int32 :=
  lz1 (f_X13_lineBetween_B2 v0 a2 a1) FU 0
abbrev rm_X13_lineBetween : Room := { frames := 1, cells := 0, slots := 0, locals := 22 }
set_option maxHeartbeats 4000000 in
set_option maxRecDepth 100000 in
theorem c_X13_lineBetween (l : Launch) (D : va_G) (G : Nat → ClassId) (q0 : Nat → Nat) (a1 : Int32) (a2 : Int32) (v0 : SV) (r : Int32) (hf : f_X13_lineBetween a1 a2 v0 = some r) (sz : Nat) : mC l yX13_lineBetween wsX13_lineBetween rm_X13_lineBetween D (tyG G) kT [.ref (q0 0), .int a1, .int a2] (kModel G q0 v0) (kModel G q0 v0) sz (some (.int r)) 0 0 := by
  refine mC_ofI (cc := cX13_lineBetween) (maxL := 4) (ret := (some .int)) (by decide) rfl rfl (Nat.le_of_ble_eq_true rfl) ?_
  intro p e s m args below meth c Q0 hx hb hml hts hown hN hK A hD hA hE hP hS hJ ls hl
  have hl : lv_has ls 4 [(0, .ref (q0 0)), (1, .int a1), (2, .int a2)] := hl
  unfold f_X13_lineBetween at hf
  have hi11 : ∀ w ∈ u_ws RX13 TX13 27, w ∈ wsX13_lineBetween := by decide +kernel
  have hw1 := hts (.fieldLink RX13 7 "BalconyCensusModel" "now" "[I") (by decide +kernel)
  refine lv_iconst (v := 0) hx hb dX13_lineBetween_0 (by decide) ?_
  refine lv_istore_n (lv' := [(3, .int 0), (0, .ref (q0 0)), (1, .int a1), (2, .int a2)]) hx hb dX13_lineBetween_1 rfl hl (by decide) rfl (fun ls hl => ?_)
  have exL_7 : ∀ (y_12 : Int32) (H : Heap) (locs : List Loc) (ls : Array Slot), lv_has ls 4 [(3, .int y_12), (0, .ref (q0 0)), (1, .int a1), (2, .int a2)] → va_P D vwCl (kModel G q0 v0) H → va_D A (kModel G q0 v0) → va_S A s.heap H locs → f_X13_lineBetween_K2 y_12 = some r → W p l e rm_X13_lineBetween s m args below meth c H locs 0 0 Q0 (F0 m 58 ls []) := by
    intro y_12 H locs ls hl hP hD hS hf
    unfold f_X13_lineBetween_K2 at hf
    refine lv_iconst (v := (-1)) hx hb dX13_lineBetween_58 (by decide) ?_
    obtain rfl := re1 hf
    exact hE hP hD hS dX13_lineBetween_59
  have loL_7 : ∀ (n : Nat) (x_6 : Int32) (H : Heap) (locs : List Loc) (ls : Array Slot), lv_has ls 4 [(3, .int x_6), (0, .ref (q0 0)), (1, .int a1), (2, .int a2)] → va_P D vwCl (kModel G q0 v0) H → va_D A (kModel G q0 v0) → va_S A s.heap H locs → lz1 (f_X13_lineBetween_B2 v0 a2 a1) n x_6 = some r → W p l e rm_X13_lineBetween s m args below meth c H locs 0 0 Q0 (F0 m 2 ls []) := by
    intro n
    induction n with
    | zero => intro x_6 H locs ls hl hP hD hS hf; cases hf
    | succ n ihL_7 =>
      intro x_6 H locs ls hl hP hD hS hf
      replace hf := lz1_s hf
      generalize lz1 (f_X13_lineBetween_B2 v0 a2 a1) n = selfL_7 at hf ihL_7
      unfold f_X13_lineBetween_B2 at hf
      refine lv_iload_n hx hb dX13_lineBetween_2 rfl (lv_at hl 0 rfl) ?_
      refine lv_aload_n hx hb dX13_lineBetween_3 rfl (lv_at hl 1 rfl) ?_
      refine va_get (D := D) (ci := 11) (v := .ref (q0 1)) (C := RX13) (T := TX13) (N := 27) hx hb hts hi11 hown hK hP 0 rfl rfl 0 (by decide) hw1 (fun _ h9 => h9) rfl dX13_lineBetween_4 ?_
      refine lv_iconst (v := 0) hx hb dX13_lineBetween_7 (by decide) ?_
      obtain ⟨hin, hf⟩ := ckI_of hf
      refine va_iald (D := D) hx hb hK hP 1 0 rfl rfl hin dX13_lineBetween_8 ?_
      refine lv_icmp_ge (tgt := 58) hx hb dX13_lineBetween_9 (by decide) (fun cc => ?_) (fun cc => ?_)
      · replace hf := ifT cc hf
        exact exL_7 x_6 _ _ _ (lv_sub hl [0, 1, 2, 3] rfl) hP hD hS hf
      · replace hf := ifF cc hf
        refine lv_aload_n hx hb dX13_lineBetween_12 rfl (lv_at hl 1 rfl) ?_
        refine lv_iload_n hx hb dX13_lineBetween_13 rfl (lv_at hl 0 rfl) ?_
        refine lv_iconst (v := 0) hx hb dX13_lineBetween_14 (by decide) ?_
        obtain ⟨r_8, hc, hf⟩ := bd1_of hf
        refine k_V (As := [.int x_6, .int 0]) (rest := []) (ws1 := (kModel G q0 v0)) ⟨hx, hb, hml, hown, hts⟩ (c_X13_linePart l D G q0 x_6 0 v0 _ hc  _) (cwV 2 hts gX13_lineBetween_X13_linePart rfl rfl rfl (by decide +kernel) ⟨Nat.le_of_ble_eq_true rfl, Nat.le_of_ble_eq_true rfl⟩) hl.1 (Nat.le_of_ble_eq_true rfl) dX13_lineBetween_15 ⟨Nat.le_of_ble_eq_true rfl, Nat.le_of_ble_eq_true rfl⟩ rfl kT_bl (fun _ _ _ => trivial) hN hK hP hD hS hA 0 11 rfl rfl rfl [0, 1, 2, 3, 4, 5, 6, 7, 8, 9, 10, 11] [] [0, 1, 2, 3, 4, 5, 6, 7, 8, 9, 10, 11] [0, 1, 2, 3] rfl rfl rfl ⟨by decide, by decide, by decide, by decide⟩ rfl (fun H locs hP hD hS => ?_)
        refine lv_iload_n hx hb dX13_lineBetween_18 rfl (lv_at hl 2 rfl) ?_
        refine lv_iload_n hx hb dX13_lineBetween_19 rfl (lv_at hl 3 rfl) ?_
        have jnJ_9 : ∀ (j_10 : Int32) (H : Heap) (locs : List Loc) (ls : Array Slot), lv_has ls 4 [(3, .int x_6), (0, .ref (q0 0)), (1, .int a1), (2, .int a2)] → va_P D vwCl (kModel G q0 v0) H → va_D A (kModel G q0 v0) → va_S A s.heap H locs → f_X13_lineBetween_J28 r_8 x_6 v0 a2 a1 selfL_7 j_10 = some r → W p l e rm_X13_lineBetween s m args below meth c H locs 0 0 Q0 (F0 m 28 ls [.int j_10, .int r_8]) := by
          intro j_10 H locs ls hl hP hD hS hf
          unfold f_X13_lineBetween_J28 at hf
          refine lv_icmp_ne (tgt := 52) hx hb dX13_lineBetween_28 (by decide) (fun cc => ?_) (fun cc => ?_)
          · replace hf := ifF cc hf
            refine lv_iinc (v := (x_6 + 1)) (lv' := [(3, .int (x_6 + 1)), (0, .ref (q0 0)), (1, .int a1), (2, .int a2)]) hx hb dX13_lineBetween_52 hl (k := 0) rfl rfl (by decide) rfl (fun ls hl => ?_)
            refine lv_goto (tgt := 2) hx hb dX13_lineBetween_55 (by decide) ?_
            exact ihL_7 (x_6 + 1) _ _ _ (lv_sub hl [0, 1, 2, 3] rfl) hP hD hS hf
          · replace hf := ifT cc hf
            refine lv_aload_n hx hb dX13_lineBetween_31 rfl (lv_at hl 1 rfl) ?_
            refine lv_iload_n hx hb dX13_lineBetween_32 rfl (lv_at hl 0 rfl) ?_
            refine lv_iconst (v := 1) hx hb dX13_lineBetween_33 (by decide) ?_
            obtain ⟨r_11, hc, hf⟩ := bd1_of hf
            refine k_V (As := [.int x_6, .int 1]) (rest := []) (ws1 := (kModel G q0 v0)) ⟨hx, hb, hml, hown, hts⟩ (c_X13_linePart l D G q0 x_6 1 v0 _ hc  _) (cwV 2 hts gX13_lineBetween_X13_linePart rfl rfl rfl (by decide +kernel) ⟨Nat.le_of_ble_eq_true rfl, Nat.le_of_ble_eq_true rfl⟩) hl.1 (Nat.le_of_ble_eq_true rfl) dX13_lineBetween_34 ⟨Nat.le_of_ble_eq_true rfl, Nat.le_of_ble_eq_true rfl⟩ rfl kT_bl (fun _ _ _ => trivial) hN hK hP hD hS hA 0 11 rfl rfl rfl [0, 1, 2, 3, 4, 5, 6, 7, 8, 9, 10, 11] [] [0, 1, 2, 3, 4, 5, 6, 7, 8, 9, 10, 11] [0, 1, 2, 3] rfl rfl rfl ⟨by decide, by decide, by decide, by decide⟩ rfl (fun H locs hP hD hS => ?_)
            refine lv_iload_n hx hb dX13_lineBetween_37 rfl (lv_at hl 2 rfl) ?_
            refine lv_iload_n hx hb dX13_lineBetween_38 rfl (lv_at hl 3 rfl) ?_
            refine lv_icmp_ge (tgt := 46) hx hb dX13_lineBetween_39 (by decide) (fun cc => ?_) (fun cc => ?_)
            · replace hf := ifT cc hf
              refine lv_iload_n hx hb dX13_lineBetween_46 rfl (lv_at hl 2 rfl) ?_
              refine lv_icmp_ne (tgt := 52) hx hb dX13_lineBetween_47 (by decide) (fun cc => ?_) (fun cc => ?_)
              · replace hf := ifF cc hf
                refine lv_iinc (v := (x_6 + 1)) (lv' := [(3, .int (x_6 + 1)), (0, .ref (q0 0)), (1, .int a1), (2, .int a2)]) hx hb dX13_lineBetween_52 hl (k := 0) rfl rfl (by decide) rfl (fun ls hl => ?_)
                refine lv_goto (tgt := 2) hx hb dX13_lineBetween_55 (by decide) ?_
                exact ihL_7 (x_6 + 1) _ _ _ (lv_sub hl [0, 1, 2, 3] rfl) hP hD hS hf
              · replace hf := ifT cc hf
                refine lv_iload_n hx hb dX13_lineBetween_50 rfl (lv_at hl 0 rfl) ?_
                obtain rfl := re1 hf
                exact hE hP hD hS dX13_lineBetween_51
            · replace hf := ifF cc hf
              refine lv_iload_n hx hb dX13_lineBetween_42 rfl (lv_at hl 3 rfl) ?_
              refine lv_goto (tgt := 47) hx hb dX13_lineBetween_43 (by decide) ?_
              refine lv_icmp_ne (tgt := 52) hx hb dX13_lineBetween_47 (by decide) (fun cc => ?_) (fun cc => ?_)
              · replace hf := ifF cc hf
                refine lv_iinc (v := (x_6 + 1)) (lv' := [(3, .int (x_6 + 1)), (0, .ref (q0 0)), (1, .int a1), (2, .int a2)]) hx hb dX13_lineBetween_52 hl (k := 0) rfl rfl (by decide) rfl (fun ls hl => ?_)
                refine lv_goto (tgt := 2) hx hb dX13_lineBetween_55 (by decide) ?_
                exact ihL_7 (x_6 + 1) _ _ _ (lv_sub hl [0, 1, 2, 3] rfl) hP hD hS hf
              · replace hf := ifT cc hf
                refine lv_iload_n hx hb dX13_lineBetween_50 rfl (lv_at hl 0 rfl) ?_
                obtain rfl := re1 hf
                exact hE hP hD hS dX13_lineBetween_51
        refine lv_icmp_ge (tgt := 27) hx hb dX13_lineBetween_20 (by decide) (fun cc => ?_) (fun cc => ?_)
        · replace hf := ifT cc hf
          refine lv_iload_n hx hb dX13_lineBetween_27 rfl (lv_at hl 3 rfl) ?_
          exact jnJ_9 a2 _ _ _ (lv_sub hl [0, 1, 2, 3] rfl) hP hD hS hf
        · replace hf := ifF cc hf
          refine lv_iload_n hx hb dX13_lineBetween_23 rfl (lv_at hl 2 rfl) ?_
          refine lv_goto (tgt := 28) hx hb dX13_lineBetween_24 (by decide) ?_
          exact jnJ_9 a1 _ _ _ (lv_sub hl [0, 1, 2, 3] rfl) hP hD hS hf
  exact loL_7 FU 0 _ _ _ hl hP hD hS hf
def f_X13_isTooMany (a1 : Int32) (a2 : Int32) (v0 : SV) : Option Int32 :=
  bd1 (f_X13_isAbove a1 a2) fun r_1 =>
  if r_1 = 0 then
    some 0
  else
    bd1 (f_X13_plants a1 v0) fun r_2 =>
    ckI (22 + a2) 240 <|
    if r_2 ≤ (v0.2 0 (22 + a2).toNatClampNeg) then
      some 0
    else
      bd1 (f_X13_lineBetween a1 a2 v0) fun r_3 =>
      if 0 ≤ r_3 then
        some 0
      else
        some 1
abbrev rm_X13_isTooMany : Room := { frames := 2, cells := 0, slots := 0, locals := 45 }
set_option maxHeartbeats 4000000 in
set_option maxRecDepth 100000 in
theorem c_X13_isTooMany (l : Launch) (D : va_G) (G : Nat → ClassId) (q0 : Nat → Nat) (a1 : Int32) (a2 : Int32) (v0 : SV) (r : Int32) (hf : f_X13_isTooMany a1 a2 v0 = some r) (sz : Nat) : mC l yX13_isTooMany wsX13_isTooMany rm_X13_isTooMany D (tyG G) kT [.ref (q0 0), .int a1, .int a2] (kModel G q0 v0) (kModel G q0 v0) sz (some (.int r)) 0 0 := by
  refine mC_ofZ (cc := cX13_isTooMany) (maxL := 3) (ret := (some .boolean)) (by decide) rfl rfl (Nat.le_of_ble_eq_true rfl) ?_
  intro p e s m args below meth c Q0 hx hb hml hts hown hN hK A hD hA hE hP hS hJ ls hl
  have hl : lv_has ls 3 [(0, .ref (q0 0)), (1, .int a1), (2, .int a2)] := hl
  unfold f_X13_isTooMany at hf
  have hi11 : ∀ w ∈ u_ws RX13 TX13 27, w ∈ wsX13_isTooMany := by decide +kernel
  have hw1 := hts (.fieldLink RX13 7 "BalconyCensusModel" "now" "[I") (by decide +kernel)
  refine lv_iload_n hx hb dX13_isTooMany_0 rfl (lv_at hl 1 rfl) ?_
  refine lv_iload_n hx hb dX13_isTooMany_1 rfl (lv_at hl 2 rfl) ?_
  obtain ⟨r_1, hc, hf⟩ := bd1_of hf
  refine k_S (As := [.int a1, .int a2]) (rest := []) (ws1 := (kModel G q0 v0)) ⟨hx, hb, hml, hown, hts⟩ (c_X13_isAbove l D G  a1 a2  _ hc  _) (va_cwS 2 hts gX13_isTooMany_X13_isAbove rfl rfl rfl (by decide +kernel) ⟨Nat.le_of_ble_eq_true rfl, Nat.le_of_ble_eq_true rfl⟩) hl.1 (Nat.le_of_ble_eq_true rfl) dX13_isTooMany_2 ⟨Nat.le_of_ble_eq_true rfl, Nat.le_of_ble_eq_true rfl⟩ rfl kT_bl (fun _ _ _ => trivial) hN hK hP hD hS hA [] [0, 1, 2, 3, 4, 5, 6, 7, 8, 9, 10, 11] [0, 1, 2, 3, 4, 5, 6, 7, 8, 9, 10, 11] [0, 1, 2, 3] rfl rfl rfl ⟨by decide, by decide, by decide, by decide⟩ rfl (fun H locs hP hD hS => ?_)
  refine lv_if_eq (tgt := 38) hx hb dX13_isTooMany_5 (by decide) (fun cc => ?_) (fun cc => ?_)
  · replace hf := ifT cc hf
    refine lv_iconst (v := 0) hx hb dX13_isTooMany_38 (by decide) ?_
    obtain rfl := re1 hf
    exact hE (.inl rfl) hP hD hS dX13_isTooMany_39
  · replace hf := ifF cc hf
    refine lv_aload_n hx hb dX13_isTooMany_8 rfl (lv_at hl 0 rfl) ?_
    refine lv_iload_n hx hb dX13_isTooMany_9 rfl (lv_at hl 1 rfl) ?_
    obtain ⟨r_2, hc, hf⟩ := bd1_of hf
    refine k_V (As := [.int a1]) (rest := []) (ws1 := (kModel G q0 v0)) ⟨hx, hb, hml, hown, hts⟩ (c_X13_plants l D G q0 a1 v0 _ hc  _) (cwV 1 hts gX13_isTooMany_X13_plants rfl rfl rfl (by decide +kernel) ⟨Nat.le_of_ble_eq_true rfl, Nat.le_of_ble_eq_true rfl⟩) hl.1 (Nat.le_of_ble_eq_true rfl) dX13_isTooMany_10 ⟨Nat.le_of_ble_eq_true rfl, Nat.le_of_ble_eq_true rfl⟩ rfl kT_bl (fun _ _ _ => trivial) hN hK hP hD hS hA 0 11 rfl rfl rfl [0, 1, 2, 3, 4, 5, 6, 7, 8, 9, 10, 11] [] [0, 1, 2, 3, 4, 5, 6, 7, 8, 9, 10, 11] [0, 1, 2, 3] rfl rfl rfl ⟨by decide, by decide, by decide, by decide⟩ rfl (fun H locs hP hD hS => ?_)
    refine lv_aload_n hx hb dX13_isTooMany_13 rfl (lv_at hl 0 rfl) ?_
    refine va_get (D := D) (ci := 11) (v := .ref (q0 1)) (C := RX13) (T := TX13) (N := 27) hx hb hts hi11 hown hK hP 0 rfl rfl 0 (by decide) hw1 (fun _ h9 => h9) rfl dX13_isTooMany_14 ?_
    refine lv_bipush (v := 22) hx hb dX13_isTooMany_17 (by decide +kernel) ?_
    refine lv_iload_n hx hb dX13_isTooMany_19 rfl (lv_at hl 2 rfl) ?_
    refine lv_iadd hx hb dX13_isTooMany_20 ?_
    obtain ⟨hin, hf⟩ := ckI_of hf
    refine va_iald (D := D) hx hb hK hP 1 0 rfl rfl hin dX13_isTooMany_21 ?_
    refine lv_icmp_le (tgt := 38) hx hb dX13_isTooMany_22 (by decide) (fun cc => ?_) (fun cc => ?_)
    · replace hf := ifT cc hf
      refine lv_iconst (v := 0) hx hb dX13_isTooMany_38 (by decide) ?_
      obtain rfl := re1 hf
      exact hE (.inl rfl) hP hD hS dX13_isTooMany_39
    · replace hf := ifF cc hf
      refine lv_aload_n hx hb dX13_isTooMany_25 rfl (lv_at hl 0 rfl) ?_
      refine lv_iload_n hx hb dX13_isTooMany_26 rfl (lv_at hl 1 rfl) ?_
      refine lv_iload_n hx hb dX13_isTooMany_27 rfl (lv_at hl 2 rfl) ?_
      obtain ⟨r_3, hc, hf⟩ := bd1_of hf
      refine k_V (As := [.int a1, .int a2]) (rest := []) (ws1 := (kModel G q0 v0)) ⟨hx, hb, hml, hown, hts⟩ (c_X13_lineBetween l D G q0 a1 a2 v0 _ hc  _) (cwV 2 hts gX13_isTooMany_X13_lineBetween rfl rfl rfl (by decide +kernel) ⟨Nat.le_of_ble_eq_true rfl, Nat.le_of_ble_eq_true rfl⟩) hl.1 (Nat.le_of_ble_eq_true rfl) dX13_isTooMany_28 ⟨Nat.le_of_ble_eq_true rfl, Nat.le_of_ble_eq_true rfl⟩ rfl kT_bl (fun _ _ _ => trivial) hN hK hP hD hS hA 0 11 rfl rfl rfl [0, 1, 2, 3, 4, 5, 6, 7, 8, 9, 10, 11] [] [0, 1, 2, 3, 4, 5, 6, 7, 8, 9, 10, 11] [0, 1, 2, 3] rfl rfl rfl ⟨by decide, by decide, by decide, by decide⟩ rfl (fun H locs hP hD hS => ?_)
      refine lv_if_ge (tgt := 38) hx hb dX13_isTooMany_31 (by decide) (fun cc => ?_) (fun cc => ?_)
      · replace hf := ifT cc hf
        refine lv_iconst (v := 0) hx hb dX13_isTooMany_38 (by decide) ?_
        obtain rfl := re1 hf
        exact hE (.inl rfl) hP hD hS dX13_isTooMany_39
      · replace hf := ifF cc hf
        refine lv_iconst (v := 1) hx hb dX13_isTooMany_34 (by decide) ?_
        refine lv_goto (tgt := 39) hx hb dX13_isTooMany_35 (by decide) ?_
        obtain rfl := re1 hf
        exact hE (.inr rfl) hP hD hS dX13_isTooMany_39
def f_X13_areFeuding (a1 : Int32) (a2 : Int32) (v0 : SV) : Option Int32 :=
  bd1 (f_X13_isTooMany a1 a2 v0) fun r_1 =>
  if r_1 = 0 then
    bd1 (f_X13_isTooMany a2 a1 v0) fun r_2 =>
    if r_2 = 0 then
      some 0
    else
      some 1
  else
    some 1
abbrev rm_X13_areFeuding : Room := { frames := 3, cells := 0, slots := 0, locals := 67 }
set_option maxHeartbeats 4000000 in
set_option maxRecDepth 100000 in
theorem c_X13_areFeuding (l : Launch) (D : va_G) (G : Nat → ClassId) (q0 : Nat → Nat) (a1 : Int32) (a2 : Int32) (v0 : SV) (r : Int32) (hf : f_X13_areFeuding a1 a2 v0 = some r) (sz : Nat) : mC l yX13_areFeuding wsX13_areFeuding rm_X13_areFeuding D (tyG G) kT [.ref (q0 0), .int a1, .int a2] (kModel G q0 v0) (kModel G q0 v0) sz (some (.int r)) 0 0 := by
  refine mC_ofZ (cc := cX13_areFeuding) (maxL := 3) (ret := (some .boolean)) (by decide) rfl rfl (Nat.le_of_ble_eq_true rfl) ?_
  intro p e s m args below meth c Q0 hx hb hml hts hown hN hK A hD hA hE hP hS hJ ls hl
  have hl : lv_has ls 3 [(0, .ref (q0 0)), (1, .int a1), (2, .int a2)] := hl
  unfold f_X13_areFeuding at hf
  refine lv_aload_n hx hb dX13_areFeuding_0 rfl (lv_at hl 0 rfl) ?_
  refine lv_iload_n hx hb dX13_areFeuding_1 rfl (lv_at hl 1 rfl) ?_
  refine lv_iload_n hx hb dX13_areFeuding_2 rfl (lv_at hl 2 rfl) ?_
  obtain ⟨r_1, hc, hf⟩ := bd1_of hf
  refine k_V (As := [.int a1, .int a2]) (rest := []) (ws1 := (kModel G q0 v0)) ⟨hx, hb, hml, hown, hts⟩ (c_X13_isTooMany l D G q0 a1 a2 v0 _ hc  _) (cwV 2 hts gX13_areFeuding_X13_isTooMany rfl rfl rfl (by decide +kernel) ⟨Nat.le_of_ble_eq_true rfl, Nat.le_of_ble_eq_true rfl⟩) hl.1 (Nat.le_of_ble_eq_true rfl) dX13_areFeuding_3 ⟨Nat.le_of_ble_eq_true rfl, Nat.le_of_ble_eq_true rfl⟩ rfl kT_bl (fun _ _ _ => trivial) hN hK hP hD hS hA 0 11 rfl rfl rfl [0, 1, 2, 3, 4, 5, 6, 7, 8, 9, 10, 11] [] [0, 1, 2, 3, 4, 5, 6, 7, 8, 9, 10, 11] [0, 1, 2, 3] rfl rfl rfl ⟨by decide, by decide, by decide, by decide⟩ rfl (fun H locs hP hD hS => ?_)
  refine lv_if_ne (tgt := 18) hx hb dX13_areFeuding_6 (by decide) (fun cc => ?_) (fun cc => ?_)
  · replace hf := ifF cc hf
    refine lv_iconst (v := 1) hx hb dX13_areFeuding_18 (by decide) ?_
    refine lv_goto (tgt := 23) hx hb dX13_areFeuding_19 (by decide) ?_
    obtain rfl := re1 hf
    exact hE (.inr rfl) hP hD hS dX13_areFeuding_23
  · replace hf := ifT cc hf
    refine lv_aload_n hx hb dX13_areFeuding_9 rfl (lv_at hl 0 rfl) ?_
    refine lv_iload_n hx hb dX13_areFeuding_10 rfl (lv_at hl 2 rfl) ?_
    refine lv_iload_n hx hb dX13_areFeuding_11 rfl (lv_at hl 1 rfl) ?_
    obtain ⟨r_2, hc, hf⟩ := bd1_of hf
    refine k_V (As := [.int a2, .int a1]) (rest := []) (ws1 := (kModel G q0 v0)) ⟨hx, hb, hml, hown, hts⟩ (c_X13_isTooMany l D G q0 a2 a1 v0 _ hc  _) (cwV 2 hts gX13_areFeuding_X13_isTooMany rfl rfl rfl (by decide +kernel) ⟨Nat.le_of_ble_eq_true rfl, Nat.le_of_ble_eq_true rfl⟩) hl.1 (Nat.le_of_ble_eq_true rfl) dX13_areFeuding_12 ⟨Nat.le_of_ble_eq_true rfl, Nat.le_of_ble_eq_true rfl⟩ rfl kT_bl (fun _ _ _ => trivial) hN hK hP hD hS hA 0 11 rfl rfl rfl [0, 1, 2, 3, 4, 5, 6, 7, 8, 9, 10, 11] [] [0, 1, 2, 3, 4, 5, 6, 7, 8, 9, 10, 11] [0, 1, 2, 3] rfl rfl rfl ⟨by decide, by decide, by decide, by decide⟩ rfl (fun H locs hP hD hS => ?_)
    refine lv_if_eq (tgt := 22) hx hb dX13_areFeuding_15 (by decide) (fun cc => ?_) (fun cc => ?_)
    · replace hf := ifT cc hf
      refine lv_iconst (v := 0) hx hb dX13_areFeuding_22 (by decide) ?_
      obtain rfl := re1 hf
      exact hE (.inl rfl) hP hD hS dX13_areFeuding_23
    · replace hf := ifF cc hf
      refine lv_iconst (v := 1) hx hb dX13_areFeuding_18 (by decide) ?_
      refine lv_goto (tgt := 23) hx hb dX13_areFeuding_19 (by decide) ?_
      obtain rfl := re1 hf
      exact hE (.inr rfl) hP hD hS dX13_areFeuding_23
def f_X13_feudsOf_K4 (y_7 : Int32) (y_8 : Int32) : Option Int32 :=
  some y_8
def f_X13_feudsOf_B4 (a1 : Int32) (v0 : SV) (selfL_5 : (Int32 → Int32 → Option Int32)) (x_3 : Int32) (x_4 : Int32) : Option Int32 :=
  if 12 ≤ x_3 then
    f_X13_feudsOf_K4 x_3 x_4
  else
    bd1 (f_X13_areFeuding a1 x_3 v0) fun r_6 =>
    if r_6 = 0 then
      selfL_5 (x_3 + 1) (x_4 + 0)
    else
      selfL_5 (x_3 + 1) (x_4 + 1)
def f_X13_feudsOf (a1 : Int32) (v0 : SV) : Option Int32 :=
  lz2 (f_X13_feudsOf_B4 a1 v0) FU 0 0
abbrev rm_X13_feudsOf : Room := { frames := 4, cells := 0, slots := 0, locals := 89 }
set_option maxHeartbeats 4000000 in
set_option maxRecDepth 100000 in
theorem c_X13_feudsOf (l : Launch) (D : va_G) (G : Nat → ClassId) (q0 : Nat → Nat) (a1 : Int32) (v0 : SV) (r : Int32) (hf : f_X13_feudsOf a1 v0 = some r) (sz : Nat) : mC l yX13_feudsOf wsX13_feudsOf rm_X13_feudsOf D (tyG G) kT [.ref (q0 0), .int a1] (kModel G q0 v0) (kModel G q0 v0) sz (some (.int r)) 0 0 := by
  refine mC_ofI (cc := cX13_feudsOf) (maxL := 4) (ret := (some .int)) (by decide) rfl rfl (Nat.le_of_ble_eq_true rfl) ?_
  intro p e s m args below meth c Q0 hx hb hml hts hown hN hK A hD hA hE hP hS hJ ls hl
  have hl : lv_has ls 4 [(0, .ref (q0 0)), (1, .int a1)] := hl
  unfold f_X13_feudsOf at hf
  refine lv_iconst (v := 0) hx hb dX13_feudsOf_0 (by decide) ?_
  refine lv_istore_n (lv' := [(2, .int 0), (0, .ref (q0 0)), (1, .int a1)]) hx hb dX13_feudsOf_1 rfl hl (by decide) rfl (fun ls hl => ?_)
  refine lv_iconst (v := 0) hx hb dX13_feudsOf_2 (by decide) ?_
  refine lv_istore_n (lv' := [(3, .int 0), (2, .int 0), (0, .ref (q0 0)), (1, .int a1)]) hx hb dX13_feudsOf_3 rfl hl (by decide) rfl (fun ls hl => ?_)
  have exL_5 : ∀ (y_7 : Int32) (y_8 : Int32) (H : Heap) (locs : List Loc) (ls : Array Slot), lv_has ls 4 [(3, .int y_7), (2, .int y_8), (0, .ref (q0 0)), (1, .int a1)] → va_P D vwCl (kModel G q0 v0) H → va_D A (kModel G q0 v0) → va_S A s.heap H locs → f_X13_feudsOf_K4 y_7 y_8 = some r → W p l e rm_X13_feudsOf s m args below meth c H locs 0 0 Q0 (F0 m 33 ls []) := by
    intro y_7 y_8 H locs ls hl hP hD hS hf
    unfold f_X13_feudsOf_K4 at hf
    refine lv_iload_n hx hb dX13_feudsOf_33 rfl (lv_at hl 1 rfl) ?_
    obtain rfl := re1 hf
    exact hE hP hD hS dX13_feudsOf_34
  have loL_5 : ∀ (n : Nat) (x_3 : Int32) (x_4 : Int32) (H : Heap) (locs : List Loc) (ls : Array Slot), lv_has ls 4 [(3, .int x_3), (2, .int x_4), (0, .ref (q0 0)), (1, .int a1)] → va_P D vwCl (kModel G q0 v0) H → va_D A (kModel G q0 v0) → va_S A s.heap H locs → lz2 (f_X13_feudsOf_B4 a1 v0) n x_3 x_4 = some r → W p l e rm_X13_feudsOf s m args below meth c H locs 0 0 Q0 (F0 m 4 ls []) := by
    intro n
    induction n with
    | zero => intro x_3 x_4 H locs ls hl hP hD hS hf; cases hf
    | succ n ihL_5 =>
      intro x_3 x_4 H locs ls hl hP hD hS hf
      replace hf := lz2_s hf
      unfold f_X13_feudsOf_B4 at hf
      refine lv_iload_n hx hb dX13_feudsOf_4 rfl (lv_at hl 0 rfl) ?_
      refine lv_bipush (v := 12) hx hb dX13_feudsOf_5 (by decide +kernel) ?_
      refine lv_icmp_ge (tgt := 33) hx hb dX13_feudsOf_7 (by decide) (fun cc => ?_) (fun cc => ?_)
      · replace hf := ifT cc hf
        exact exL_5 x_3 x_4 _ _ _ (lv_sub hl [0, 1, 2, 3] rfl) hP hD hS hf
      · replace hf := ifF cc hf
        refine lv_iload_n hx hb dX13_feudsOf_10 rfl (lv_at hl 1 rfl) ?_
        refine lv_aload_n hx hb dX13_feudsOf_11 rfl (lv_at hl 2 rfl) ?_
        refine lv_iload_n hx hb dX13_feudsOf_12 rfl (lv_at hl 3 rfl) ?_
        refine lv_iload_n hx hb dX13_feudsOf_13 rfl (lv_at hl 0 rfl) ?_
        obtain ⟨r_6, hc, hf⟩ := bd1_of hf
        refine k_V (As := [.int a1, .int x_3]) (rest := [.int x_4]) (ws1 := (kModel G q0 v0)) ⟨hx, hb, hml, hown, hts⟩ (c_X13_areFeuding l D G q0 a1 x_3 v0 _ hc  _) (cwV 2 hts gX13_feudsOf_X13_areFeuding rfl rfl rfl (by decide +kernel) ⟨Nat.le_of_ble_eq_true rfl, Nat.le_of_ble_eq_true rfl⟩) hl.1 (Nat.le_of_ble_eq_true rfl) dX13_feudsOf_14 ⟨Nat.le_of_ble_eq_true rfl, Nat.le_of_ble_eq_true rfl⟩ rfl kT_bl (fun _ _ _ => trivial) hN hK hP hD hS hA 0 11 rfl rfl rfl [0, 1, 2, 3, 4, 5, 6, 7, 8, 9, 10, 11] [] [0, 1, 2, 3, 4, 5, 6, 7, 8, 9, 10, 11] [0, 1, 2, 3] rfl rfl rfl ⟨by decide, by decide, by decide, by decide⟩ rfl (fun H locs hP hD hS => ?_)
        refine lv_if_eq (tgt := 24) hx hb dX13_feudsOf_17 (by decide) (fun cc => ?_) (fun cc => ?_)
        · replace hf := ifT cc hf
          refine lv_iconst (v := 0) hx hb dX13_feudsOf_24 (by decide) ?_
          refine lv_iadd hx hb dX13_feudsOf_25 ?_
          refine lv_istore_n (lv' := [(2, .int (x_4 + 0)), (3, .int x_3), (0, .ref (q0 0)), (1, .int a1)]) hx hb dX13_feudsOf_26 rfl hl (by decide) rfl (fun ls hl => ?_)
          refine lv_iinc (v := (x_3 + 1)) (lv' := [(3, .int (x_3 + 1)), (2, .int (x_4 + 0)), (0, .ref (q0 0)), (1, .int a1)]) hx hb dX13_feudsOf_27 hl (k := 1) rfl rfl (by decide) rfl (fun ls hl => ?_)
          refine lv_goto (tgt := 4) hx hb dX13_feudsOf_30 (by decide) ?_
          exact ihL_5 (x_3 + 1) (x_4 + 0) _ _ _ (lv_sub hl [0, 1, 2, 3] rfl) hP hD hS hf
        · replace hf := ifF cc hf
          refine lv_iconst (v := 1) hx hb dX13_feudsOf_20 (by decide) ?_
          refine lv_goto (tgt := 25) hx hb dX13_feudsOf_21 (by decide) ?_
          refine lv_iadd hx hb dX13_feudsOf_25 ?_
          refine lv_istore_n (lv' := [(2, .int (x_4 + 1)), (3, .int x_3), (0, .ref (q0 0)), (1, .int a1)]) hx hb dX13_feudsOf_26 rfl hl (by decide) rfl (fun ls hl => ?_)
          refine lv_iinc (v := (x_3 + 1)) (lv' := [(3, .int (x_3 + 1)), (2, .int (x_4 + 1)), (0, .ref (q0 0)), (1, .int a1)]) hx hb dX13_feudsOf_27 hl (k := 1) rfl rfl (by decide) rfl (fun ls hl => ?_)
          refine lv_goto (tgt := 4) hx hb dX13_feudsOf_30 (by decide) ?_
          exact ihL_5 (x_3 + 1) (x_4 + 1) _ _ _ (lv_sub hl [0, 1, 2, 3] rfl) hP hD hS hf
  exact loL_5 FU 0 0 _ _ _ hl hP hD hS hf
def f_X13_allFeuds_K4 (y_7 : Int32) (y_8 : Int32) : Option Int32 :=
  some (y_8 / 2)
def f_X13_allFeuds_B4 (v0 : SV) (selfL_5 : (Int32 → Int32 → Option Int32)) (x_3 : Int32) (x_4 : Int32) : Option Int32 :=
  if 12 ≤ x_3 then
    f_X13_allFeuds_K4 x_3 x_4
  else
    bd1 (f_X13_feudsOf x_3 v0) fun r_6 =>
    selfL_5 (x_3 + 1) (x_4 + r_6)
def f_X13_allFeuds (v0 : SV) : Option Int32 :=
  lz2 (f_X13_allFeuds_B4 v0) FU 0 0
abbrev rm_X13_allFeuds : Room := { frames := 5, cells := 0, slots := 0, locals := 112 }
set_option maxHeartbeats 4000000 in
set_option maxRecDepth 100000 in
theorem c_X13_allFeuds (l : Launch) (D : va_G) (G : Nat → ClassId) (q0 : Nat → Nat) (v0 : SV) (r : Int32) (hf : f_X13_allFeuds v0 = some r) (sz : Nat) : mC l yX13_allFeuds wsX13_allFeuds rm_X13_allFeuds D (tyG G) kT [.ref (q0 0)] (kModel G q0 v0) (kModel G q0 v0) sz (some (.int r)) 0 0 := by
  refine mC_ofI (cc := cX13_allFeuds) (maxL := 3) (ret := (some .int)) (by decide) rfl rfl (Nat.le_of_ble_eq_true rfl) ?_
  intro p e s m args below meth c Q0 hx hb hml hts hown hN hK A hD hA hE hP hS hJ ls hl
  have hl : lv_has ls 3 [(0, .ref (q0 0))] := hl
  unfold f_X13_allFeuds at hf
  refine lv_iconst (v := 0) hx hb dX13_allFeuds_0 (by decide) ?_
  refine lv_istore_n (lv' := [(1, .int 0), (0, .ref (q0 0))]) hx hb dX13_allFeuds_1 rfl hl (by decide) rfl (fun ls hl => ?_)
  refine lv_iconst (v := 0) hx hb dX13_allFeuds_2 (by decide) ?_
  refine lv_istore_n (lv' := [(2, .int 0), (1, .int 0), (0, .ref (q0 0))]) hx hb dX13_allFeuds_3 rfl hl (by decide) rfl (fun ls hl => ?_)
  have exL_5 : ∀ (y_7 : Int32) (y_8 : Int32) (H : Heap) (locs : List Loc) (ls : Array Slot), lv_has ls 3 [(2, .int y_7), (1, .int y_8), (0, .ref (q0 0))] → va_P D vwCl (kModel G q0 v0) H → va_D A (kModel G q0 v0) → va_S A s.heap H locs → f_X13_allFeuds_K4 y_7 y_8 = some r → W p l e rm_X13_allFeuds s m args below meth c H locs 0 0 Q0 (F0 m 24 ls []) := by
    intro y_7 y_8 H locs ls hl hP hD hS hf
    unfold f_X13_allFeuds_K4 at hf
    refine lv_iload_n hx hb dX13_allFeuds_24 rfl (lv_at hl 1 rfl) ?_
    refine lv_iconst (v := 2) hx hb dX13_allFeuds_25 (by decide) ?_
    refine lv_idiv hx hb dX13_allFeuds_26 (by decide) ?_
    obtain rfl := re1 hf
    exact hE hP hD hS dX13_allFeuds_27
  have loL_5 : ∀ (n : Nat) (x_3 : Int32) (x_4 : Int32) (H : Heap) (locs : List Loc) (ls : Array Slot), lv_has ls 3 [(2, .int x_3), (1, .int x_4), (0, .ref (q0 0))] → va_P D vwCl (kModel G q0 v0) H → va_D A (kModel G q0 v0) → va_S A s.heap H locs → lz2 (f_X13_allFeuds_B4 v0) n x_3 x_4 = some r → W p l e rm_X13_allFeuds s m args below meth c H locs 0 0 Q0 (F0 m 4 ls []) := by
    intro n
    induction n with
    | zero => intro x_3 x_4 H locs ls hl hP hD hS hf; cases hf
    | succ n ihL_5 =>
      intro x_3 x_4 H locs ls hl hP hD hS hf
      replace hf := lz2_s hf
      unfold f_X13_allFeuds_B4 at hf
      refine lv_iload_n hx hb dX13_allFeuds_4 rfl (lv_at hl 0 rfl) ?_
      refine lv_bipush (v := 12) hx hb dX13_allFeuds_5 (by decide +kernel) ?_
      refine lv_icmp_ge (tgt := 24) hx hb dX13_allFeuds_7 (by decide) (fun cc => ?_) (fun cc => ?_)
      · replace hf := ifT cc hf
        exact exL_5 x_3 x_4 _ _ _ (lv_sub hl [0, 1, 2] rfl) hP hD hS hf
      · replace hf := ifF cc hf
        refine lv_iload_n hx hb dX13_allFeuds_10 rfl (lv_at hl 1 rfl) ?_
        refine lv_aload_n hx hb dX13_allFeuds_11 rfl (lv_at hl 2 rfl) ?_
        refine lv_iload_n hx hb dX13_allFeuds_12 rfl (lv_at hl 0 rfl) ?_
        obtain ⟨r_6, hc, hf⟩ := bd1_of hf
        refine k_V (As := [.int x_3]) (rest := [.int x_4]) (ws1 := (kModel G q0 v0)) ⟨hx, hb, hml, hown, hts⟩ (c_X13_feudsOf l D G q0 x_3 v0 _ hc  _) (cwV 1 hts gX13_allFeuds_X13_feudsOf rfl rfl rfl (by decide +kernel) ⟨Nat.le_of_ble_eq_true rfl, Nat.le_of_ble_eq_true rfl⟩) hl.1 (Nat.le_of_ble_eq_true rfl) dX13_allFeuds_13 ⟨Nat.le_of_ble_eq_true rfl, Nat.le_of_ble_eq_true rfl⟩ rfl kT_bl (fun _ _ _ => trivial) hN hK hP hD hS hA 0 11 rfl rfl rfl [0, 1, 2, 3, 4, 5, 6, 7, 8, 9, 10, 11] [] [0, 1, 2, 3, 4, 5, 6, 7, 8, 9, 10, 11] [0, 1, 2, 3] rfl rfl rfl ⟨by decide, by decide, by decide, by decide⟩ rfl (fun H locs hP hD hS => ?_)
        refine lv_iadd hx hb dX13_allFeuds_16 ?_
        refine lv_istore_n (lv' := [(1, .int (x_4 + r_6)), (2, .int x_3), (0, .ref (q0 0))]) hx hb dX13_allFeuds_17 rfl hl (by decide) rfl (fun ls hl => ?_)
        refine lv_iinc (v := (x_3 + 1)) (lv' := [(2, .int (x_3 + 1)), (1, .int (x_4 + r_6)), (0, .ref (q0 0))]) hx hb dX13_allFeuds_18 hl (k := 1) rfl rfl (by decide) rfl (fun ls hl => ?_)
        refine lv_goto (tgt := 4) hx hb dX13_allFeuds_21 (by decide) ?_
        exact ihL_5 (x_3 + 1) (x_4 + r_6) _ _ _ (lv_sub hl [0, 1, 2] rfl) hP hD hS hf
  exact loL_5 FU 0 0 _ _ _ hl hP hD hS hf
def f_X13_clears_K24 (y_15 : Int32) (z_16 : SV) : Option SV :=
  some z_16
def f_X13_clears_B24 (selfL_13 : (Int32 → SV → Option SV)) (x_11 : Int32) (u_12 : SV) : Option SV :=
  if 12 ≤ x_11 then
    f_X13_clears_K24 x_11 u_12
  else
    ckI (22 + x_11) 240 <|
    nm (pA u_12 0 (22 + x_11) 3) fun v_14 =>
    selfL_13 (x_11 + 1) v_14
def f_X13_clears_K2 (y_7 : Int32) (z_8 : SV) : Option SV :=
  lz2 (f_X13_clears_B24) FU 0 z_8
def f_X13_clears_B2 (selfL_5 : (Int32 → SV → Option SV)) (x_3 : Int32) (u_4 : SV) : Option SV :=
  if 240 ≤ x_3 then
    f_X13_clears_K2 x_3 u_4
  else
    ckI x_3 240 <|
    nm (pA u_4 0 x_3 0) fun v_6 =>
    selfL_5 (x_3 + 1) v_6
def f_X13_clears (v0 : SV) : Option SV :=
  lz2 (f_X13_clears_B2) FU 0 v0
abbrev rm_X13_clears : Room := { frames := 0, cells := 0, slots := 0, locals := 0 }
set_option maxHeartbeats 4000000 in
set_option maxRecDepth 100000 in
theorem c_X13_clears (l : Launch) (D : va_G) (G : Nat → ClassId) (q0 : Nat → Nat) (v0 : SV) (v0' : SV) (hf : f_X13_clears v0 = some v0') (sz : Nat) : mC l yX13_clears wsX13_clears rm_X13_clears D (tyG G) kT [.ref (q0 0)] (kModel G q0 v0) (kModel G q0 v0') sz none 0 0 := by
  refine mC_ofV (cc := cX13_clears) (maxL := 2) (ret := none) (by decide) rfl rfl (Nat.le_of_ble_eq_true rfl) ?_
  intro p e s m args below meth c Q0 hx hb hml hts hown hN hK A hD hA hE hP hS hJ ls hl
  have hl : lv_has ls 2 [(0, .ref (q0 0))] := hl
  unfold f_X13_clears at hf
  have hi11 : ∀ w ∈ u_ws RX13 TX13 27, w ∈ wsX13_clears := by decide +kernel
  have hw1 := hts (.fieldLink RX13 7 "BalconyCensusModel" "now" "[I") (by decide +kernel)
  refine lv_iconst (v := 0) hx hb dX13_clears_0 (by decide) ?_
  refine lv_istore_n (lv' := [(1, .int 0), (0, .ref (q0 0))]) hx hb dX13_clears_1 rfl hl (by decide) rfl (fun ls hl => ?_)
  have exL_5 : ∀ (y_7 : Int32) (z_8 : SV) (H : Heap) (locs : List Loc) (ls : Array Slot), lv_has ls 2 [(1, .int y_7), (0, .ref (q0 0))] → va_P D vwCl (kModel G q0 z_8) H → va_D A (kModel G q0 z_8) → va_S A s.heap H locs → f_X13_clears_K2 y_7 z_8 = some v0' → W p l e rm_X13_clears s m args below meth c H locs 0 0 Q0 (F0 m 22 ls []) := by
    intro y_7 z_8 H locs ls hl hP hD hS hf
    unfold f_X13_clears_K2 at hf
    refine lv_iconst (v := 0) hx hb dX13_clears_22 (by decide) ?_
    refine lv_istore_n (lv' := [(1, .int 0), (0, .ref (q0 0))]) hx hb dX13_clears_23 rfl hl (by decide) rfl (fun ls hl => ?_)
    have exL_13 : ∀ (y_15 : Int32) (z_16 : SV) (H : Heap) (locs : List Loc) (ls : Array Slot), lv_has ls 2 [(1, .int y_15), (0, .ref (q0 0))] → va_P D vwCl (kModel G q0 z_16) H → va_D A (kModel G q0 z_16) → va_S A s.heap H locs → f_X13_clears_K24 y_15 z_16 = some v0' → W p l e rm_X13_clears s m args below meth c H locs 0 0 Q0 (F0 m 46 ls []) := by
      intro y_15 z_16 H locs ls hl hP hD hS hf
      unfold f_X13_clears_K24 at hf
      obtain rfl := re1 hf
      exact hE hP hD hS dX13_clears_46
    have loL_13 : ∀ (n : Nat) (x_11 : Int32) (u_12 : SV) (H : Heap) (locs : List Loc) (ls : Array Slot), lv_has ls 2 [(1, .int x_11), (0, .ref (q0 0))] → va_P D vwCl (kModel G q0 u_12) H → va_D A (kModel G q0 u_12) → va_S A s.heap H locs → lz2 (f_X13_clears_B24) n x_11 u_12 = some v0' → W p l e rm_X13_clears s m args below meth c H locs 0 0 Q0 (F0 m 24 ls []) := by
      intro n
      induction n with
      | zero => intro x_11 u_12 H locs ls hl hP hD hS hf; cases hf
      | succ n ihL_13 =>
        intro x_11 u_12 H locs ls hl hP hD hS hf
        replace hf := lz2_s hf
        unfold f_X13_clears_B24 at hf
        refine lv_iload_n hx hb dX13_clears_24 rfl (lv_at hl 0 rfl) ?_
        refine lv_bipush (v := 12) hx hb dX13_clears_25 (by decide +kernel) ?_
        refine lv_icmp_ge (tgt := 46) hx hb dX13_clears_27 (by decide) (fun cc => ?_) (fun cc => ?_)
        · replace hf := ifT cc hf
          exact exL_13 x_11 u_12 _ _ _ (lv_sub hl [0, 1] rfl) hP hD hS hf
        · replace hf := ifF cc hf
          refine lv_aload_n hx hb dX13_clears_30 rfl (lv_at hl 1 rfl) ?_
          refine va_get (D := D) (ci := 11) (v := .ref (q0 1)) (C := RX13) (T := TX13) (N := 27) hx hb hts hi11 hown hK hP 0 rfl rfl 0 (by decide) hw1 (fun _ h9 => h9) rfl dX13_clears_31 ?_
          refine lv_bipush (v := 22) hx hb dX13_clears_34 (by decide +kernel) ?_
          refine lv_iload_n hx hb dX13_clears_36 rfl (lv_at hl 0 rfl) ?_
          refine lv_iadd hx hb dX13_clears_37 ?_
          refine lv_iconst (v := 3) hx hb dX13_clears_38 (by decide) ?_
          obtain ⟨hin, hf⟩ := ckI_of hf
          obtain ⟨v_14, ev_14, hf⟩ := nm_of hf
          refine va_iast (D := D) hx hb hK hP hD hS 1 0 rfl rfl hin dX13_clears_39 (fun H locs hP hD hS => ?_)
          have hP : va_P D vwCl (kModel G q0 v_14) H := by rw [ev_14]; exact hP
          have hD : va_D A (kModel G q0 v_14) := by rw [ev_14]; exact hD
          refine lv_iinc (v := (x_11 + 1)) (lv' := [(1, .int (x_11 + 1)), (0, .ref (q0 0))]) hx hb dX13_clears_40 hl (k := 0) rfl rfl (by decide) rfl (fun ls hl => ?_)
          refine lv_goto (tgt := 24) hx hb dX13_clears_43 (by decide) ?_
          exact ihL_13 (x_11 + 1) v_14 _ _ _ (lv_sub hl [0, 1] rfl) hP hD hS hf
    exact loL_13 FU 0 z_8 _ _ _ hl hP hD hS hf
  have loL_5 : ∀ (n : Nat) (x_3 : Int32) (u_4 : SV) (H : Heap) (locs : List Loc) (ls : Array Slot), lv_has ls 2 [(1, .int x_3), (0, .ref (q0 0))] → va_P D vwCl (kModel G q0 u_4) H → va_D A (kModel G q0 u_4) → va_S A s.heap H locs → lz2 (f_X13_clears_B2) n x_3 u_4 = some v0' → W p l e rm_X13_clears s m args below meth c H locs 0 0 Q0 (F0 m 2 ls []) := by
    intro n
    induction n with
    | zero => intro x_3 u_4 H locs ls hl hP hD hS hf; cases hf
    | succ n ihL_5 =>
      intro x_3 u_4 H locs ls hl hP hD hS hf
      replace hf := lz2_s hf
      unfold f_X13_clears_B2 at hf
      refine lv_iload_n hx hb dX13_clears_2 rfl (lv_at hl 0 rfl) ?_
      refine lv_sipush (v := 240) hx hb dX13_clears_3 (by decide +kernel) ?_
      refine lv_icmp_ge (tgt := 22) hx hb dX13_clears_6 (by decide) (fun cc => ?_) (fun cc => ?_)
      · replace hf := ifT cc hf
        exact exL_5 x_3 u_4 _ _ _ (lv_sub hl [0, 1] rfl) hP hD hS hf
      · replace hf := ifF cc hf
        refine lv_aload_n hx hb dX13_clears_9 rfl (lv_at hl 1 rfl) ?_
        refine va_get (D := D) (ci := 11) (v := .ref (q0 1)) (C := RX13) (T := TX13) (N := 27) hx hb hts hi11 hown hK hP 0 rfl rfl 0 (by decide) hw1 (fun _ h9 => h9) rfl dX13_clears_10 ?_
        refine lv_iload_n hx hb dX13_clears_13 rfl (lv_at hl 0 rfl) ?_
        refine lv_iconst (v := 0) hx hb dX13_clears_14 (by decide) ?_
        obtain ⟨hin, hf⟩ := ckI_of hf
        obtain ⟨v_6, ev_6, hf⟩ := nm_of hf
        refine va_iast (D := D) hx hb hK hP hD hS 1 0 rfl rfl hin dX13_clears_15 (fun H locs hP hD hS => ?_)
        have hP : va_P D vwCl (kModel G q0 v_6) H := by rw [ev_6]; exact hP
        have hD : va_D A (kModel G q0 v_6) := by rw [ev_6]; exact hD
        refine lv_iinc (v := (x_3 + 1)) (lv' := [(1, .int (x_3 + 1)), (0, .ref (q0 0))]) hx hb dX13_clears_16 hl (k := 0) rfl rfl (by decide) rfl (fun ls hl => ?_)
        refine lv_goto (tgt := 2) hx hb dX13_clears_19 (by decide) ?_
        exact ihL_5 (x_3 + 1) v_6 _ _ _ (lv_sub hl [0, 1] rfl) hP hD hS hf
  exact loL_5 FU 0 v0 _ _ _ hl hP hD hS hf
def f_X13_clear (v0 : SV) : Option (Int32 × SV) :=
  bd1 (f_X13_allPlants v0) fun r_1 =>
  bd1 (f_X13_clears v0) fun w_2 =>
  nm (pF w_2 0 0) fun v_3 =>
  some (r_1, v_3)
abbrev rm_X13_clear : Room := { frames := 2, cells := 0, slots := 0, locals := 43 }
set_option maxHeartbeats 4000000 in
set_option maxRecDepth 100000 in
theorem c_X13_clear (l : Launch) (D : va_G) (G : Nat → ClassId) (q0 : Nat → Nat) (v0 : SV) (r : Int32) (v0' : SV) (hf : f_X13_clear v0 = some (r, v0')) (sz : Nat) : mC l yX13_clear wsX13_clear rm_X13_clear D (tyG G) kT [.ref (q0 0)] (kModel G q0 v0) (kModel G q0 v0') sz (some (.int r)) 0 0 := by
  refine mC_ofI (cc := cX13_clear) (maxL := 2) (ret := (some .int)) (by decide) rfl rfl (Nat.le_of_ble_eq_true rfl) ?_
  intro p e s m args below meth c Q0 hx hb hml hts hown hN hK A hD hA hE hP hS hJ ls hl
  have hl : lv_has ls 2 [(0, .ref (q0 0))] := hl
  unfold f_X13_clear at hf
  have hi11 : ∀ w ∈ u_ws RX13 TX13 27, w ∈ wsX13_clear := by decide +kernel
  have hw1 := hts (.fieldLink RX13 25 "BalconyCensusModel" "changed" "I") (by decide +kernel)
  refine lv_aload_n hx hb dX13_clear_0 rfl (lv_at hl 0 rfl) ?_
  obtain ⟨r_1, hc, hf⟩ := bd1_of hf
  refine k_V (As := []) (rest := []) (ws1 := (kModel G q0 v0)) ⟨hx, hb, hml, hown, hts⟩ (c_X13_allPlants l D G q0  v0 _ hc  _) (cwV 0 hts gX13_clear_X13_allPlants rfl rfl rfl (by decide +kernel) ⟨Nat.le_of_ble_eq_true rfl, Nat.le_of_ble_eq_true rfl⟩) hl.1 (Nat.le_of_ble_eq_true rfl) dX13_clear_1 ⟨Nat.le_of_ble_eq_true rfl, Nat.le_of_ble_eq_true rfl⟩ rfl kT_bl (fun _ _ _ => trivial) hN hK hP hD hS hA 0 11 rfl rfl rfl [0, 1, 2, 3, 4, 5, 6, 7, 8, 9, 10, 11] [] [0, 1, 2, 3, 4, 5, 6, 7, 8, 9, 10, 11] [0, 1, 2, 3] rfl rfl rfl ⟨by decide, by decide, by decide, by decide⟩ rfl (fun H locs hP hD hS => ?_)
  refine lv_istore_n (lv' := [(1, .int r_1), (0, .ref (q0 0))]) hx hb dX13_clear_4 rfl hl (by decide) rfl (fun ls hl => ?_)
  refine lv_aload_n hx hb dX13_clear_5 rfl (lv_at hl 1 rfl) ?_
  obtain ⟨w_2, hc, hf⟩ := bd1_of hf
  refine k_V (As := []) (rest := []) (ws1 := (kModel G q0 w_2)) ⟨hx, hb, hml, hown, hts⟩ (c_X13_clears l D G q0  v0 _ hc  _) (cwV 0 hts gX13_clear_X13_clears rfl rfl rfl (by decide +kernel) ⟨Nat.le_of_ble_eq_true rfl, Nat.le_of_ble_eq_true rfl⟩) hl.1 (Nat.le_of_ble_eq_true rfl) dX13_clear_6 ⟨Nat.le_of_ble_eq_true rfl, Nat.le_of_ble_eq_true rfl⟩ rfl kT_bl (fun _ _ _ => trivial) hN hK hP hD hS hA 0 11 rfl rfl rfl [0, 1, 2, 3, 4, 5, 6, 7, 8, 9, 10, 11] [] [0, 1, 2, 3, 4, 5, 6, 7, 8, 9, 10, 11] [0, 1, 2, 3] rfl rfl rfl ⟨by decide, by decide, by decide, by decide⟩ rfl (fun H locs hP hD hS => ?_)
  refine lv_aload_n hx hb dX13_clear_9 rfl (lv_at hl 1 rfl) ?_
  refine lv_iconst (v := 0) hx hb dX13_clear_10 (by decide) ?_
  obtain ⟨v_3, ev_3, hf⟩ := nm_of hf
  refine va_put (D := D) (ci := 11) (v := .int 0) (ty := .int) (C := RX13) (T := TX13) (N := 27) hx hb hts hi11 tyX13 tyX13_ok nmX13 hown hK hP hD hS 0 rfl rfl 5 (by decide) hw1 (fun _ h9 => h9) rfl (by decide +kernel) rfl rfl (Nat.le_of_ble_eq_true rfl) dX13_clear_11 (fun H locs hP hD hS => ?_)
  have hP : va_P D vwCl (kModel G q0 v_3) H := by rw [ev_3]; exact hP
  have hD : va_D A (kModel G q0 v_3) := by rw [ev_3]; exact hD
  refine lv_iload_n hx hb dX13_clear_14 rfl (lv_at hl 0 rfl) ?_
  obtain ⟨rfl, rfl⟩ := re2 hf
  exact hE hP hD hS dX13_clear_15
def f_X13_areMany (a0 : Int32) : Option Int32 :=
  bd1 (f_X13_in a0 1 9) fun r_1 =>
  ckB r_1 <|
  some r_1
abbrev rm_X13_areMany : Room := { frames := 1, cells := 0, slots := 0, locals := 22 }
set_option maxHeartbeats 4000000 in
set_option maxRecDepth 100000 in
theorem c_X13_areMany (l : Launch) (D : va_G) (G : Nat → ClassId) (a0 : Int32) (r : Int32) (hf : f_X13_areMany a0 = some r) (sz : Nat) : mC l yX13_areMany wsX13_areMany rm_X13_areMany D (tyG G) kT [.int a0] ([] : va_W) ([] : va_W) sz (some (.int r)) 0 0 := by
  refine mC_ofZ (cc := cX13_areMany) (maxL := 1) (ret := (some .boolean)) (by decide) rfl rfl (Nat.le_of_ble_eq_true rfl) ?_
  intro p e s m args below meth c Q0 hx hb hml hts hown hN hK A hD hA hE hP hS hJ ls hl
  have hl : lv_has ls 1 [(0, .int a0)] := hl
  unfold f_X13_areMany at hf
  refine lv_iload_n hx hb dX13_areMany_0 rfl (lv_at hl 0 rfl) ?_
  refine lv_iconst (v := 1) hx hb dX13_areMany_1 (by decide) ?_
  refine lv_bipush (v := 9) hx hb dX13_areMany_2 (by decide +kernel) ?_
  obtain ⟨r_1, hc, hf⟩ := bd1_of hf
  refine k_S (As := [.int a0, .int 1, .int 9]) (rest := []) (ws1 := ([] : va_W)) ⟨hx, hb, hml, hown, hts⟩ (c_X13_in l D G  a0 1 9  _ hc  _) (va_cwS 3 hts gX13_areMany_X13_in rfl rfl rfl (by decide +kernel) ⟨Nat.le_of_ble_eq_true rfl, Nat.le_of_ble_eq_true rfl⟩) hl.1 (Nat.le_of_ble_eq_true rfl) dX13_areMany_4 ⟨Nat.le_of_ble_eq_true rfl, Nat.le_of_ble_eq_true rfl⟩ rfl kT_bl (fun _ _ _ => trivial) hN hK hP hD hS hA [] [] [] [0, 1, 2, 3] rfl rfl rfl ⟨by decide, by decide, by decide, by decide⟩ rfl (fun H locs hP hD hS => ?_)
  obtain ⟨h01, hf⟩ := ckB_of hf
  obtain rfl := re1 hf
  exact hE h01 hP hD hS dX13_areMany_7
def f_X13_isRefusedPlant (a1 : Int32) (a2 : Int32) (v0 : SV) : Option (Int32 × SV) :=
  bd1 (f_X13_plants a1 v0) fun r_1 =>
  if (r_1 + a2) ≤ 9 then
    some (0, v0)
  else
    bd1 (f_X13_plants a1 v0) fun r_2 =>
    bd2 (f_X13_isBad 4 r_2 v0) fun r_3 w_4 =>
    if r_3 = 0 then
      some (0, w_4)
    else
      some (1, w_4)
abbrev rm_X13_isRefusedPlant : Room := { frames := 1, cells := 0, slots := 0, locals := 22 }
set_option maxHeartbeats 4000000 in
set_option maxRecDepth 100000 in
theorem c_X13_isRefusedPlant (l : Launch) (D : va_G) (G : Nat → ClassId) (q0 : Nat → Nat) (a1 : Int32) (a2 : Int32) (v0 : SV) (r : Int32) (v0' : SV) (hf : f_X13_isRefusedPlant a1 a2 v0 = some (r, v0')) (sz : Nat) : mC l yX13_isRefusedPlant wsX13_isRefusedPlant rm_X13_isRefusedPlant D (tyG G) kT [.ref (q0 0), .int a1, .int a2] (kModel G q0 v0) (kModel G q0 v0') sz (some (.int r)) 0 0 := by
  refine mC_ofZ (cc := cX13_isRefusedPlant) (maxL := 3) (ret := (some .boolean)) (by decide) rfl rfl (Nat.le_of_ble_eq_true rfl) ?_
  intro p e s m args below meth c Q0 hx hb hml hts hown hN hK A hD hA hE hP hS hJ ls hl
  have hl : lv_has ls 3 [(0, .ref (q0 0)), (1, .int a1), (2, .int a2)] := hl
  unfold f_X13_isRefusedPlant at hf
  refine lv_aload_n hx hb dX13_isRefusedPlant_0 rfl (lv_at hl 0 rfl) ?_
  refine lv_iload_n hx hb dX13_isRefusedPlant_1 rfl (lv_at hl 1 rfl) ?_
  obtain ⟨r_1, hc, hf⟩ := bd1_of hf
  refine k_V (As := [.int a1]) (rest := []) (ws1 := (kModel G q0 v0)) ⟨hx, hb, hml, hown, hts⟩ (c_X13_plants l D G q0 a1 v0 _ hc  _) (cwV 1 hts gX13_isRefusedPlant_X13_plants rfl rfl rfl (by decide +kernel) ⟨Nat.le_of_ble_eq_true rfl, Nat.le_of_ble_eq_true rfl⟩) hl.1 (Nat.le_of_ble_eq_true rfl) dX13_isRefusedPlant_2 ⟨Nat.le_of_ble_eq_true rfl, Nat.le_of_ble_eq_true rfl⟩ rfl kT_bl (fun _ _ _ => trivial) hN hK hP hD hS hA 0 11 rfl rfl rfl [0, 1, 2, 3, 4, 5, 6, 7, 8, 9, 10, 11] [] [0, 1, 2, 3, 4, 5, 6, 7, 8, 9, 10, 11] [0, 1, 2, 3] rfl rfl rfl ⟨by decide, by decide, by decide, by decide⟩ rfl (fun H locs hP hD hS => ?_)
  refine lv_iload_n hx hb dX13_isRefusedPlant_5 rfl (lv_at hl 2 rfl) ?_
  refine lv_iadd hx hb dX13_isRefusedPlant_6 ?_
  refine lv_bipush (v := 9) hx hb dX13_isRefusedPlant_7 (by decide +kernel) ?_
  refine lv_icmp_le (tgt := 29) hx hb dX13_isRefusedPlant_9 (by decide) (fun cc => ?_) (fun cc => ?_)
  · replace hf := ifT cc hf
    refine lv_iconst (v := 0) hx hb dX13_isRefusedPlant_29 (by decide) ?_
    obtain ⟨rfl, rfl⟩ := re2 hf
    exact hE (.inl rfl) hP hD hS dX13_isRefusedPlant_30
  · replace hf := ifF cc hf
    refine lv_aload_n hx hb dX13_isRefusedPlant_12 rfl (lv_at hl 0 rfl) ?_
    refine lv_iconst (v := 4) hx hb dX13_isRefusedPlant_13 (by decide) ?_
    refine lv_aload_n hx hb dX13_isRefusedPlant_14 rfl (lv_at hl 0 rfl) ?_
    refine lv_iload_n hx hb dX13_isRefusedPlant_15 rfl (lv_at hl 1 rfl) ?_
    obtain ⟨r_2, hc, hf⟩ := bd1_of hf
    refine k_V (As := [.int a1]) (rest := [.int 4, .ref (q0 0)]) (ws1 := (kModel G q0 v0)) ⟨hx, hb, hml, hown, hts⟩ (c_X13_plants l D G q0 a1 v0 _ hc  _) (cwV 1 hts gX13_isRefusedPlant_X13_plants rfl rfl rfl (by decide +kernel) ⟨Nat.le_of_ble_eq_true rfl, Nat.le_of_ble_eq_true rfl⟩) hl.1 (Nat.le_of_ble_eq_true rfl) dX13_isRefusedPlant_16 ⟨Nat.le_of_ble_eq_true rfl, Nat.le_of_ble_eq_true rfl⟩ rfl kT_bl (fun _ _ _ => trivial) hN hK hP hD hS hA 0 11 rfl rfl rfl [0, 1, 2, 3, 4, 5, 6, 7, 8, 9, 10, 11] [] [0, 1, 2, 3, 4, 5, 6, 7, 8, 9, 10, 11] [0, 1, 2, 3] rfl rfl rfl ⟨by decide, by decide, by decide, by decide⟩ rfl (fun H locs hP hD hS => ?_)
    obtain ⟨r_3, w_4, hc, hf⟩ := bd2_of hf
    refine k_V (As := [.int 4, .int r_2]) (rest := []) (ws1 := (kModel G q0 w_4)) ⟨hx, hb, hml, hown, hts⟩ (c_X13_isBad l D G q0 4 r_2 v0 _ _ hc  _) (cwV 2 hts gX13_isRefusedPlant_X13_isBad rfl rfl rfl (by decide +kernel) ⟨Nat.le_of_ble_eq_true rfl, Nat.le_of_ble_eq_true rfl⟩) hl.1 (Nat.le_of_ble_eq_true rfl) dX13_isRefusedPlant_19 ⟨Nat.le_of_ble_eq_true rfl, Nat.le_of_ble_eq_true rfl⟩ rfl kT_bl (fun _ _ _ => trivial) hN hK hP hD hS hA 0 11 rfl rfl rfl [0, 1, 2, 3, 4, 5, 6, 7, 8, 9, 10, 11] [] [0, 1, 2, 3, 4, 5, 6, 7, 8, 9, 10, 11] [0, 1, 2, 3] rfl rfl rfl ⟨by decide, by decide, by decide, by decide⟩ rfl (fun H locs hP hD hS => ?_)
    refine lv_if_eq (tgt := 29) hx hb dX13_isRefusedPlant_22 (by decide) (fun cc => ?_) (fun cc => ?_)
    · replace hf := ifT cc hf
      refine lv_iconst (v := 0) hx hb dX13_isRefusedPlant_29 (by decide) ?_
      obtain ⟨rfl, rfl⟩ := re2 hf
      exact hE (.inl rfl) hP hD hS dX13_isRefusedPlant_30
    · replace hf := ifF cc hf
      refine lv_iconst (v := 1) hx hb dX13_isRefusedPlant_25 (by decide) ?_
      refine lv_goto (tgt := 30) hx hb dX13_isRefusedPlant_26 (by decide) ?_
      obtain ⟨rfl, rfl⟩ := re2 hf
      exact hE (.inr rfl) hP hD hS dX13_isRefusedPlant_30
def f_X13_puts (a1 : Int32) (a2 : Int32) (v0 : SV) : Option (Int32 × SV) :=
  ckI (10 + a1) 240 <|
  ckI (10 + a1) 240 <|
  nm (pA v0 0 (10 + a1) ((v0.2 0 (10 + a1).toNatClampNeg) + a2)) fun v_1 =>
  ckI 4 240 <|
  ckI 4 240 <|
  nm (pA v_1 0 4 ((v_1.2 0 (4 : Int32).toNatClampNeg) + a2)) fun v_2 =>
  bd1 (f_X13_plants a1 v_2) fun r_3 =>
  some (r_3, v_2)
abbrev rm_X13_puts : Room := { frames := 1, cells := 0, slots := 0, locals := 21 }
set_option maxHeartbeats 4000000 in
set_option maxRecDepth 100000 in
theorem c_X13_puts (l : Launch) (D : va_G) (G : Nat → ClassId) (q0 : Nat → Nat) (a1 : Int32) (a2 : Int32) (v0 : SV) (r : Int32) (v0' : SV) (hf : f_X13_puts a1 a2 v0 = some (r, v0')) (sz : Nat) : mC l yX13_puts wsX13_puts rm_X13_puts D (tyG G) kT [.ref (q0 0), .int a1, .int a2] (kModel G q0 v0) (kModel G q0 v0') sz (some (.int r)) 0 0 := by
  refine mC_ofI (cc := cX13_puts) (maxL := 3) (ret := (some .int)) (by decide) rfl rfl (Nat.le_of_ble_eq_true rfl) ?_
  intro p e s m args below meth c Q0 hx hb hml hts hown hN hK A hD hA hE hP hS hJ ls hl
  have hl : lv_has ls 3 [(0, .ref (q0 0)), (1, .int a1), (2, .int a2)] := hl
  unfold f_X13_puts at hf
  have hi11 : ∀ w ∈ u_ws RX13 TX13 27, w ∈ wsX13_puts := by decide +kernel
  have hw1 := hts (.fieldLink RX13 7 "BalconyCensusModel" "now" "[I") (by decide +kernel)
  refine lv_aload_n hx hb dX13_puts_0 rfl (lv_at hl 0 rfl) ?_
  refine va_get (D := D) (ci := 11) (v := .ref (q0 1)) (C := RX13) (T := TX13) (N := 27) hx hb hts hi11 hown hK hP 0 rfl rfl 0 (by decide) hw1 (fun _ h9 => h9) rfl dX13_puts_1 ?_
  refine lv_bipush (v := 10) hx hb dX13_puts_4 (by decide +kernel) ?_
  refine lv_iload_n hx hb dX13_puts_6 rfl (lv_at hl 1 rfl) ?_
  refine lv_iadd hx hb dX13_puts_7 ?_
  refine lv_dup2_11 hx hb dX13_puts_8 rfl rfl ?_
  obtain ⟨hin, hf⟩ := ckI_of hf
  refine va_iald (D := D) hx hb hK hP 1 0 rfl rfl hin dX13_puts_9 ?_
  refine lv_iload_n hx hb dX13_puts_10 rfl (lv_at hl 2 rfl) ?_
  refine lv_iadd hx hb dX13_puts_11 ?_
  obtain ⟨hin, hf⟩ := ckI_of hf
  obtain ⟨v_1, ev_1, hf⟩ := nm_of hf
  refine va_iast (D := D) hx hb hK hP hD hS 1 0 rfl rfl hin dX13_puts_12 (fun H locs hP hD hS => ?_)
  have hP : va_P D vwCl (kModel G q0 v_1) H := by rw [ev_1]; exact hP
  have hD : va_D A (kModel G q0 v_1) := by rw [ev_1]; exact hD
  refine lv_aload_n hx hb dX13_puts_13 rfl (lv_at hl 0 rfl) ?_
  refine va_get (D := D) (ci := 11) (v := .ref (q0 1)) (C := RX13) (T := TX13) (N := 27) hx hb hts hi11 hown hK hP 0 rfl rfl 0 (by decide) hw1 (fun _ h9 => h9) rfl dX13_puts_14 ?_
  refine lv_iconst (v := 4) hx hb dX13_puts_17 (by decide) ?_
  refine lv_dup2_11 hx hb dX13_puts_18 rfl rfl ?_
  obtain ⟨hin, hf⟩ := ckI_of hf
  refine va_iald (D := D) hx hb hK hP 1 0 rfl rfl hin dX13_puts_19 ?_
  refine lv_iload_n hx hb dX13_puts_20 rfl (lv_at hl 2 rfl) ?_
  refine lv_iadd hx hb dX13_puts_21 ?_
  obtain ⟨hin, hf⟩ := ckI_of hf
  obtain ⟨v_2, ev_2, hf⟩ := nm_of hf
  refine va_iast (D := D) hx hb hK hP hD hS 1 0 rfl rfl hin dX13_puts_22 (fun H locs hP hD hS => ?_)
  have hP : va_P D vwCl (kModel G q0 v_2) H := by rw [ev_2]; exact hP
  have hD : va_D A (kModel G q0 v_2) := by rw [ev_2]; exact hD
  refine lv_aload_n hx hb dX13_puts_23 rfl (lv_at hl 0 rfl) ?_
  refine lv_iload_n hx hb dX13_puts_24 rfl (lv_at hl 1 rfl) ?_
  obtain ⟨r_3, hc, hf⟩ := bd1_of hf
  refine k_V (As := [.int a1]) (rest := []) (ws1 := (kModel G q0 v_2)) ⟨hx, hb, hml, hown, hts⟩ (c_X13_plants l D G q0 a1 v_2 _ hc  _) (cwV 1 hts gX13_puts_X13_plants rfl rfl rfl (by decide +kernel) ⟨Nat.le_of_ble_eq_true rfl, Nat.le_of_ble_eq_true rfl⟩) hl.1 (Nat.le_of_ble_eq_true rfl) dX13_puts_25 ⟨Nat.le_of_ble_eq_true rfl, Nat.le_of_ble_eq_true rfl⟩ rfl kT_bl (fun _ _ _ => trivial) hN hK hP hD hS hA 0 11 rfl rfl rfl [0, 1, 2, 3, 4, 5, 6, 7, 8, 9, 10, 11] [] [0, 1, 2, 3, 4, 5, 6, 7, 8, 9, 10, 11] [0, 1, 2, 3] rfl rfl rfl ⟨by decide, by decide, by decide, by decide⟩ rfl (fun H locs hP hD hS => ?_)
  obtain ⟨rfl, rfl⟩ := re2 hf
  exact hE hP hD hS dX13_puts_28
