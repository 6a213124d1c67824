/-! Walks, laid by wip/whole/gen.py: for each method f_ (what it does to its world) and c_ (its contract). -/
def f_X13_atHome_K4 (y_9 : Int32) (y_10 : Int32) : Option Int32 :=
  some y_10
def f_X13_atHome_B4 (v0 : SV) (selfL_6 : (Int32 → Int32 → Option Int32)) (x_4 : Int32) (x_5 : Int32) : Option Int32 :=
  ckI 1 240 <|
  if (v0.2 0 (1 : Int32).toNatClampNeg) ≤ x_4 then
    f_X13_atHome_K4 x_4 x_5
  else
    bd1 (f_X13_catPart x_4 0 v0) fun r_7 =>
    bd1 (f_X13_catPart x_4 1 v0) fun r_8 =>
    if r_7 = r_8 then
      selfL_6 (x_4 + 1) (x_5 + 1)
    else
      selfL_6 (x_4 + 1) (x_5 + 0)
def f_X13_atHome (v0 : SV) : Option Int32 :=
  lz2 (f_X13_atHome_B4 v0) FU 0 0
abbrev rm_X13_atHome : Room := { frames := 1, cells := 0, slots := 0, locals := 22 }
set_option maxHeartbeats 4000000 in
set_option maxRecDepth 100000 in
theorem c_X13_atHome (l : Launch) (D : va_G) (G : Nat → ClassId) (q0 : Nat → Nat) (v0 : SV) (r : Int32) (hf : f_X13_atHome v0 = some r) (sz : Nat) : mC l yX13_atHome wsX13_atHome rm_X13_atHome D (tyG G) kT [.ref (q0 0)] (kModel G q0 v0) (kModel G q0 v0) sz (some (.int r)) 0 0 := by
  refine mC_ofI (cc := cX13_atHome) (maxL := 3) (ret := (some .int)) (by decide) rfl rfl (Nat.le_of_ble_eq_true rfl) ?_
  intro p e s m args below meth c Q0 hx hb hml hts hown hN hK A hD hA hE hP hS hJ ls hl
  have hl : lv_has ls 3 [(0, .ref (q0 0))] := hl
  unfold f_X13_atHome at hf
  have hi11 : ∀ w ∈ u_ws RX13 TX13 27, w ∈ wsX13_atHome := by decide +kernel
  have hw1 := hts (.fieldLink RX13 7 "BalconyCensusModel" "now" "[I") (by decide +kernel)
  refine lv_iconst (v := 0) hx hb dX13_atHome_0 (by decide) ?_
  refine lv_istore_n (lv' := [(1, .int 0), (0, .ref (q0 0))]) hx hb dX13_atHome_1 rfl hl (by decide) rfl (fun ls hl => ?_)
  refine lv_iconst (v := 0) hx hb dX13_atHome_2 (by decide) ?_
  refine lv_istore_n (lv' := [(2, .int 0), (1, .int 0), (0, .ref (q0 0))]) hx hb dX13_atHome_3 rfl hl (by decide) rfl (fun ls hl => ?_)
  have exL_6 : ∀ (y_9 : Int32) (y_10 : Int32) (H : Heap) (locs : List Loc) (ls : Array Slot), lv_has ls 3 [(2, .int y_9), (1, .int y_10), (0, .ref (q0 0))] → va_P D vwCl (kModel G q0 v0) H → va_D A (kModel G q0 v0) → va_S A s.heap H locs → f_X13_atHome_K4 y_9 y_10 = some r → W p l e rm_X13_atHome s m args below meth c H locs 0 0 Q0 (F0 m 43 ls []) := by
    intro y_9 y_10 H locs ls hl hP hD hS hf
    unfold f_X13_atHome_K4 at hf
    refine lv_iload_n hx hb dX13_atHome_43 rfl (lv_at hl 1 rfl) ?_
    obtain rfl := re1 hf
    exact hE hP hD hS dX13_atHome_44
  have loL_6 : ∀ (n : Nat) (x_4 : Int32) (x_5 : Int32) (H : Heap) (locs : List Loc) (ls : Array Slot), lv_has ls 3 [(2, .int x_4), (1, .int x_5), (0, .ref (q0 0))] → va_P D vwCl (kModel G q0 v0) H → va_D A (kModel G q0 v0) → va_S A s.heap H locs → lz2 (f_X13_atHome_B4 v0) n x_4 x_5 = some r → W p l e rm_X13_atHome s m args below meth c H locs 0 0 Q0 (F0 m 4 ls []) := by
    intro n
    induction n with
    | zero => intro x_4 x_5 H locs ls hl hP hD hS hf; cases hf
    | succ n ihL_6 =>
      intro x_4 x_5 H locs ls hl hP hD hS hf
      replace hf := lz2_s hf
      unfold f_X13_atHome_B4 at hf
      refine lv_iload_n hx hb dX13_atHome_4 rfl (lv_at hl 0 rfl) ?_
      refine lv_aload_n hx hb dX13_atHome_5 rfl (lv_at hl 2 rfl) ?_
      refine va_get (D := D) (ci := 11) (v := .ref (q0 1)) (C := RX13) (T := TX13) (N := 27) hx hb hts hi11 hown hK hP 0 rfl rfl 0 (by decide) hw1 (fun _ h9 => h9) rfl dX13_atHome_6 ?_
      refine lv_iconst (v := 1) hx hb dX13_atHome_9 (by decide) ?_
      obtain ⟨hin, hf⟩ := ckI_of hf
      refine va_iald (D := D) hx hb hK hP 1 0 rfl rfl hin dX13_atHome_10 ?_
      refine lv_icmp_ge (tgt := 43) hx hb dX13_atHome_11 (by decide) (fun cc => ?_) (fun cc => ?_)
      · replace hf := ifT cc hf
        exact exL_6 x_4 x_5 _ _ _ (lv_sub hl [0, 1, 2] rfl) hP hD hS hf
      · replace hf := ifF cc hf
        refine lv_iload_n hx hb dX13_atHome_14 rfl (lv_at hl 1 rfl) ?_
        refine lv_aload_n hx hb dX13_atHome_15 rfl (lv_at hl 2 rfl) ?_
        refine lv_iload_n hx hb dX13_atHome_16 rfl (lv_at hl 0 rfl) ?_
        refine lv_iconst (v := 0) hx hb dX13_atHome_17 (by decide) ?_
        obtain ⟨r_7, hc, hf⟩ := bd1_of hf
        refine k_V (As := [.int x_4, .int 0]) (rest := [.int x_5]) (ws1 := (kModel G q0 v0)) ⟨hx, hb, hml, hown, hts⟩ (c_X13_catPart l D G q0 x_4 0 v0 _ hc  _) (cwV 2 hts gX13_atHome_X13_catPart rfl rfl rfl (by decide +kernel) ⟨Nat.le_of_ble_eq_true rfl, Nat.le_of_ble_eq_true rfl⟩) hl.1 (Nat.le_of_ble_eq_true rfl) dX13_atHome_18 ⟨Nat.le_of_ble_eq_true rfl, Nat.le_of_ble_eq_true rfl⟩ rfl kT_bl (fun _ _ _ => trivial) hN hK hP hD hS hA 0 11 rfl rfl rfl [0, 1, 2, 3, 4, 5, 6, 7, 8, 9, 10, 11] [] [0, 1, 2, 3, 4, 5, 6, 7, 8, 9, 10, 11] [0, 1, 2, 3] rfl rfl rfl ⟨by decide, by decide, by decide, by decide⟩ rfl (fun H locs hP hD hS => ?_)
        refine lv_aload_n hx hb dX13_atHome_21 rfl (lv_at hl 2 rfl) ?_
        refine lv_iload_n hx hb dX13_atHome_22 rfl (lv_at hl 0 rfl) ?_
        refine lv_iconst (v := 1) hx hb dX13_atHome_23 (by decide) ?_
        obtain ⟨r_8, hc, hf⟩ := bd1_of hf
        refine k_V (As := [.int x_4, .int 1]) (rest := [.int r_7, .int x_5]) (ws1 := (kModel G q0 v0)) ⟨hx, hb, hml, hown, hts⟩ (c_X13_catPart l D G q0 x_4 1 v0 _ hc  _) (cwV 2 hts gX13_atHome_X13_catPart rfl rfl rfl (by decide +kernel) ⟨Nat.le_of_ble_eq_true rfl, Nat.le_of_ble_eq_true rfl⟩) hl.1 (Nat.le_of_ble_eq_true rfl) dX13_atHome_24 ⟨Nat.le_of_ble_eq_true rfl, Nat.le_of_ble_eq_true rfl⟩ rfl kT_bl (fun _ _ _ => trivial) hN hK hP hD hS hA 0 11 rfl rfl rfl [0, 1, 2, 3, 4, 5, 6, 7, 8, 9, 10, 11] [] [0, 1, 2, 3, 4, 5, 6, 7, 8, 9, 10, 11] [0, 1, 2, 3] rfl rfl rfl ⟨by decide, by decide, by decide, by decide⟩ rfl (fun H locs hP hD hS => ?_)
        refine lv_icmp_ne (tgt := 34) hx hb dX13_atHome_27 (by decide) (fun cc => ?_) (fun cc => ?_)
        · replace hf := ifF cc hf
          refine lv_iconst (v := 0) hx hb dX13_atHome_34 (by decide) ?_
          refine lv_iadd hx hb dX13_atHome_35 ?_
          refine lv_istore_n (lv' := [(1, .int (x_5 + 0)), (2, .int x_4), (0, .ref (q0 0))]) hx hb dX13_atHome_36 rfl hl (by decide) rfl (fun ls hl => ?_)
          refine lv_iinc (v := (x_4 + 1)) (lv' := [(2, .int (x_4 + 1)), (1, .int (x_5 + 0)), (0, .ref (q0 0))]) hx hb dX13_atHome_37 hl (k := 1) rfl rfl (by decide) rfl (fun ls hl => ?_)
          refine lv_goto (tgt := 4) hx hb dX13_atHome_40 (by decide) ?_
          exact ihL_6 (x_4 + 1) (x_5 + 0) _ _ _ (lv_sub hl [0, 1, 2] rfl) hP hD hS hf
        · replace hf := ifT cc hf
          refine lv_iconst (v := 1) hx hb dX13_atHome_30 (by decide) ?_
          refine lv_goto (tgt := 35) hx hb dX13_atHome_31 (by decide) ?_
          refine lv_iadd hx hb dX13_atHome_35 ?_
          refine lv_istore_n (lv' := [(1, .int (x_5 + 1)), (2, .int x_4), (0, .ref (q0 0))]) hx hb dX13_atHome_36 rfl hl (by decide) rfl (fun ls hl => ?_)
          refine lv_iinc (v := (x_4 + 1)) (lv' := [(2, .int (x_4 + 1)), (1, .int (x_5 + 1)), (0, .ref (q0 0))]) hx hb dX13_atHome_37 hl (k := 1) rfl rfl (by decide) rfl (fun ls hl => ?_)
          refine lv_goto (tgt := 4) hx hb dX13_atHome_40 (by decide) ?_
          exact ihL_6 (x_4 + 1) (x_5 + 1) _ _ _ (lv_sub hl [0, 1, 2] rfl) hP hD hS hf
  exact loL_6 FU 0 0 _ _ _ hl hP hD hS hf
def f_X13_isShaded_K4 (y_8 : Int32) : Option Int32 :=
  some 0
def f_X13_isShaded_B4 (v0 : SV) (a1 : Int32) (selfL_5 : (Int32 → Option Int32)) (x_4 : Int32) : Option Int32 :=
  if 12 ≤ x_4 then
    f_X13_isShaded_K4 x_4
  else
    bd1 (f_X13_plants x_4 v0) fun r_6 =>
    bd1 (f_X13_plants a1 v0) fun r_7 =>
    if r_6 ≤ r_7 then
      selfL_5 (x_4 + 4)
    else
      some 1
def f_X13_isShaded (a1 : Int32) (v0 : SV) : Option Int32 :=
  lz1 (f_X13_isShaded_B4 v0 a1) FU (a1 + 4)
abbrev rm_X13_isShaded : Room := { frames := 1, cells := 0, slots := 0, locals := 21 }
set_option maxHeartbeats 4000000 in
set_option maxRecDepth 100000 in
theorem c_X13_isShaded (l : Launch) (D : va_G) (G : Nat → ClassId) (q0 : Nat → Nat) (a1 : Int32) (v0 : SV) (r : Int32) (hf : f_X13_isShaded a1 v0 = some r) (sz : Nat) : mC l yX13_isShaded wsX13_isShaded rm_X13_isShaded D (tyG G) kT [.ref (q0 0), .int a1] (kModel G q0 v0) (kModel G q0 v0) sz (some (.int r)) 0 0 := by
  refine mC_ofZ (cc := cX13_isShaded) (maxL := 3) (ret := (some .boolean)) (by decide) rfl rfl (Nat.le_of_ble_eq_true rfl) ?_
  intro p e s m args below meth c Q0 hx hb hml hts hown hN hK A hD hA hE hP hS hJ ls hl
  have hl : lv_has ls 3 [(0, .ref (q0 0)), (1, .int a1)] := hl
  unfold f_X13_isShaded at hf
  refine lv_iload_n hx hb dX13_isShaded_0 rfl (lv_at hl 1 rfl) ?_
  refine lv_iconst (v := 4) hx hb dX13_isShaded_1 (by decide) ?_
  refine lv_iadd hx hb dX13_isShaded_2 ?_
  refine lv_istore_n (lv' := [(2, .int (a1 + 4)), (0, .ref (q0 0)), (1, .int a1)]) hx hb dX13_isShaded_3 rfl hl (by decide) rfl (fun ls hl => ?_)
  have exL_5 : ∀ (y_8 : Int32) (H : Heap) (locs : List Loc) (ls : Array Slot), lv_has ls 3 [(2, .int y_8), (0, .ref (q0 0)), (1, .int a1)] → va_P D vwCl (kModel G q0 v0) H → va_D A (kModel G q0 v0) → va_S A s.heap H locs → f_X13_isShaded_K4 y_8 = some r → W p l e rm_X13_isShaded s m args below meth c H locs 0 0 Q0 (F0 m 31 ls []) := by
    intro y_8 H locs ls hl hP hD hS hf
    unfold f_X13_isShaded_K4 at hf
    refine lv_iconst (v := 0) hx hb dX13_isShaded_31 (by decide) ?_
    obtain rfl := re1 hf
    exact hE (.inl rfl) hP hD hS dX13_isShaded_32
  have loL_5 : ∀ (n : Nat) (x_4 : Int32) (H : Heap) (locs : List Loc) (ls : Array Slot), lv_has ls 3 [(2, .int x_4), (0, .ref (q0 0)), (1, .int a1)] → va_P D vwCl (kModel G q0 v0) H → va_D A (kModel G q0 v0) → va_S A s.heap H locs → lz1 (f_X13_isShaded_B4 v0 a1) n x_4 = some r → W p l e rm_X13_isShaded s m args below meth c H locs 0 0 Q0 (F0 m 4 ls []) := by
    intro n
    induction n with
    | zero => intro x_4 H locs ls hl hP hD hS hf; cases hf
    | succ n ihL_5 =>
      intro x_4 H locs ls hl hP hD hS hf
      replace hf := lz1_s hf
      unfold f_X13_isShaded_B4 at hf
      refine lv_iload_n hx hb dX13_isShaded_4 rfl (lv_at hl 0 rfl) ?_
      refine lv_bipush (v := 12) hx hb dX13_isShaded_5 (by decide +kernel) ?_
      refine lv_icmp_ge (tgt := 31) hx hb dX13_isShaded_7 (by decide) (fun cc => ?_) (fun cc => ?_)
      · replace hf := ifT cc hf
        exact exL_5 x_4 _ _ _ (lv_sub hl [0, 1, 2] rfl) hP hD hS hf
      · replace hf := ifF cc hf
        refine lv_aload_n hx hb dX13_isShaded_10 rfl (lv_at hl 1 rfl) ?_
        refine lv_iload_n hx hb dX13_isShaded_11 rfl (lv_at hl 0 rfl) ?_
        obtain ⟨r_6, hc, hf⟩ := bd1_of hf
        refine k_V (As := [.int x_4]) (rest := []) (ws1 := (kModel G q0 v0)) ⟨hx, hb, hml, hown, hts⟩ (c_X13_plants l D G q0 x_4 v0 _ hc  _) (cwV 1 hts gX13_isShaded_X13_plants rfl rfl rfl (by decide +kernel) ⟨Nat.le_of_ble_eq_true rfl, Nat.le_of_ble_eq_true rfl⟩) hl.1 (Nat.le_of_ble_eq_true rfl) dX13_isShaded_12 ⟨Nat.le_of_ble_eq_true rfl, Nat.le_of_ble_eq_true rfl⟩ rfl kT_bl (fun _ _ _ => trivial) hN hK hP hD hS hA 0 11 rfl rfl rfl [0, 1, 2, 3, 4, 5, 6, 7, 8, 9, 10, 11] [] [0, 1, 2, 3, 4, 5, 6, 7, 8, 9, 10, 11] [0, 1, 2, 3] rfl rfl rfl ⟨by decide, by decide, by decide, by decide⟩ rfl (fun H locs hP hD hS => ?_)
        refine lv_aload_n hx hb dX13_isShaded_15 rfl (lv_at hl 1 rfl) ?_
        refine lv_iload_n hx hb dX13_isShaded_16 rfl (lv_at hl 2 rfl) ?_
        obtain ⟨r_7, hc, hf⟩ := bd1_of hf
        refine k_V (As := [.int a1]) (rest := [.int r_6]) (ws1 := (kModel G q0 v0)) ⟨hx, hb, hml, hown, hts⟩ (c_X13_plants l D G q0 a1 v0 _ hc  _) (cwV 1 hts gX13_isShaded_X13_plants rfl rfl rfl (by decide +kernel) ⟨Nat.le_of_ble_eq_true rfl, Nat.le_of_ble_eq_true rfl⟩) hl.1 (Nat.le_of_ble_eq_true rfl) dX13_isShaded_17 ⟨Nat.le_of_ble_eq_true rfl, Nat.le_of_ble_eq_true rfl⟩ rfl kT_bl (fun _ _ _ => trivial) hN hK hP hD hS hA 0 11 rfl rfl rfl [0, 1, 2, 3, 4, 5, 6, 7, 8, 9, 10, 11] [] [0, 1, 2, 3, 4, 5, 6, 7, 8, 9, 10, 11] [0, 1, 2, 3] rfl rfl rfl ⟨by decide, by decide, by decide, by decide⟩ rfl (fun H locs hP hD hS => ?_)
        refine lv_icmp_le (tgt := 25) hx hb dX13_isShaded_20 (by decide) (fun cc => ?_) (fun cc => ?_)
        · replace hf := ifT cc hf
          refine lv_iinc (v := (x_4 + 4)) (lv' := [(2, .int (x_4 + 4)), (0, .ref (q0 0)), (1, .int a1)]) hx hb dX13_isShaded_25 hl (k := 0) rfl rfl (by decide) rfl (fun ls hl => ?_)
          refine lv_goto (tgt := 4) hx hb dX13_isShaded_28 (by decide) ?_
          exact ihL_5 (x_4 + 4) _ _ _ (lv_sub hl [0, 1, 2] rfl) hP hD hS hf
        · replace hf := ifF cc hf
          refine lv_iconst (v := 1) hx hb dX13_isShaded_23 (by decide) ?_
          obtain rfl := re1 hf
          exact hE (.inr rfl) hP hD hS dX13_isShaded_24
  exact loL_5 FU (a1 + 4) _ _ _ hl hP hD hS hf
def f_X13_growing_K4 (y_11 : Int32) (y_12 : Int32) : Option Int32 :=
  some y_12
def f_X13_growing_B4 (v0 : SV) (selfL_7 : (Int32 → Int32 → Option Int32)) (x_5 : Int32) (x_6 : Int32) : Option Int32 :=
  if 12 ≤ x_5 then
    f_X13_growing_K4 x_5 x_6
  else
    bd1 (f_X13_plants x_5 v0) fun r_8 =>
    bd1 (f_X13_in r_8 1 8) fun r_9 =>
    if r_9 = 0 then
      selfL_7 (x_5 + 1) (x_6 ||| 0)
    else
      bd1 (f_X13_isShaded x_5 v0) fun r_10 =>
      if r_10 = 0 then
        selfL_7 (x_5 + 1) (x_6 ||| (1 <<< (x_5 &&& 31)))
      else
        selfL_7 (x_5 + 1) (x_6 ||| 0)
def f_X13_growing (v0 : SV) : Option Int32 :=
  lz2 (f_X13_growing_B4 v0) FU 0 0
abbrev rm_X13_growing : Room := { frames := 2, cells := 0, slots := 0, locals := 43 }
set_option maxHeartbeats 4000000 in
set_option maxRecDepth 100000 in
theorem c_X13_growing (l : Launch) (D : va_G) (G : Nat → ClassId) (q0 : Nat → Nat) (v0 : SV) (r : Int32) (hf : f_X13_growing v0 = some r) (sz : Nat) : mC l yX13_growing wsX13_growing rm_X13_growing D (tyG G) kT [.ref (q0 0)] (kModel G q0 v0) (kModel G q0 v0) sz (some (.int r)) 0 0 := by
  refine mC_ofI (cc := cX13_growing) (maxL := 3) (ret := (some .int)) (by decide) rfl rfl (Nat.le_of_ble_eq_true rfl) ?_
  intro p e s m args below meth c Q0 hx hb hml hts hown hN hK A hD hA hE hP hS hJ ls hl
  have hl : lv_has ls 3 [(0, .ref (q0 0))] := hl
  unfold f_X13_growing at hf
  refine lv_iconst (v := 0) hx hb dX13_growing_0 (by decide) ?_
  refine lv_istore_n (lv' := [(1, .int 0), (0, .ref (q0 0))]) hx hb dX13_growing_1 rfl hl (by decide) rfl (fun ls hl => ?_)
  refine lv_iconst (v := 0) hx hb dX13_growing_2 (by decide) ?_
  refine lv_istore_n (lv' := [(2, .int 0), (1, .int 0), (0, .ref (q0 0))]) hx hb dX13_growing_3 rfl hl (by decide) rfl (fun ls hl => ?_)
  have exL_7 : ∀ (y_11 : Int32) (y_12 : Int32) (H : Heap) (locs : List Loc) (ls : Array Slot), lv_has ls 3 [(2, .int y_11), (1, .int y_12), (0, .ref (q0 0))] → va_P D vwCl (kModel G q0 v0) H → va_D A (kModel G q0 v0) → va_S A s.heap H locs → f_X13_growing_K4 y_11 y_12 = some r → W p l e rm_X13_growing s m args below meth c H locs 0 0 Q0 (F0 m 48 ls []) := by
    intro y_11 y_12 H locs ls hl hP hD hS hf
    unfold f_X13_growing_K4 at hf
    refine lv_iload_n hx hb dX13_growing_48 rfl (lv_at hl 1 rfl) ?_
    obtain rfl := re1 hf
    exact hE hP hD hS dX13_growing_49
  have loL_7 : ∀ (n : Nat) (x_5 : Int32) (x_6 : Int32) (H : Heap) (locs : List Loc) (ls : Array Slot), lv_has ls 3 [(2, .int x_5), (1, .int x_6), (0, .ref (q0 0))] → va_P D vwCl (kModel G q0 v0) H → va_D A (kModel G q0 v0) → va_S A s.heap H locs → lz2 (f_X13_growing_B4 v0) n x_5 x_6 = some r → W p l e rm_X13_growing s m args below meth c H locs 0 0 Q0 (F0 m 4 ls []) := by
    intro n
    induction n with
    | zero => intro x_5 x_6 H locs ls hl hP hD hS hf; cases hf
    | succ n ihL_7 =>
      intro x_5 x_6 H locs ls hl hP hD hS hf
      replace hf := lz2_s hf
      unfold f_X13_growing_B4 at hf
      refine lv_iload_n hx hb dX13_growing_4 rfl (lv_at hl 0 rfl) ?_
      refine lv_bipush (v := 12) hx hb dX13_growing_5 (by decide +kernel) ?_
      refine lv_icmp_ge (tgt := 48) hx hb dX13_growing_7 (by decide) (fun cc => ?_) (fun cc => ?_)
      · replace hf := ifT cc hf
        exact exL_7 x_5 x_6 _ _ _ (lv_sub hl [0, 1, 2] rfl) hP hD hS hf
      · replace hf := ifF cc hf
        refine lv_iload_n hx hb dX13_growing_10 rfl (lv_at hl 1 rfl) ?_
        refine lv_aload_n hx hb dX13_growing_11 rfl (lv_at hl 2 rfl) ?_
        refine lv_iload_n hx hb dX13_growing_12 rfl (lv_at hl 0 rfl) ?_
        obtain ⟨r_8, hc, hf⟩ := bd1_of hf
        refine k_V (As := [.int x_5]) (rest := [.int x_6]) (ws1 := (kModel G q0 v0)) ⟨hx, hb, hml, hown, hts⟩ (c_X13_plants l D G q0 x_5 v0 _ hc  _) (cwV 1 hts gX13_growing_X13_plants rfl rfl rfl (by decide +kernel) ⟨Nat.le_of_ble_eq_true rfl, Nat.le_of_ble_eq_true rfl⟩) hl.1 (Nat.le_of_ble_eq_true rfl) dX13_growing_13 ⟨Nat.le_of_ble_eq_true rfl, Nat.le_of_ble_eq_true rfl⟩ rfl kT_bl (fun _ _ _ => trivial) hN hK hP hD hS hA 0 11 rfl rfl rfl [0, 1, 2, 3, 4, 5, 6, 7, 8, 9, 10, 11] [] [0, 1, 2, 3, 4, 5, 6, 7, 8, 9, 10, 11] [0, 1, 2, 3] rfl rfl rfl ⟨by decide, by decide, by decide, by decide⟩ rfl (fun H locs hP hD hS => ?_)
        refine lv_iconst (v := 1) hx hb dX13_growing_16 (by decide) ?_
        refine lv_bipush (v := 8) hx hb dX13_growing_17 (by decide +kernel) ?_
        obtain ⟨r_9, hc, hf⟩ := bd1_of hf
        refine k_S (As := [.int r_8, .int 1, .int 8]) (rest := [.int x_6]) (ws1 := (kModel G q0 v0)) ⟨hx, hb, hml, hown, hts⟩ (c_X13_in l D G  r_8 1 8  _ hc  _) (va_cwS 3 hts gX13_growing_X13_in rfl rfl rfl (by decide +kernel) ⟨Nat.le_of_ble_eq_true rfl, Nat.le_of_ble_eq_true rfl⟩) hl.1 (Nat.le_of_ble_eq_true rfl) dX13_growing_19 ⟨Nat.le_of_ble_eq_true rfl, Nat.le_of_ble_eq_true rfl⟩ rfl kT_bl (fun _ _ _ => trivial) hN hK hP hD hS hA [] [0, 1, 2, 3, 4, 5, 6, 7, 8, 9, 10, 11] [0, 1, 2, 3, 4, 5, 6, 7, 8, 9, 10, 11] [0, 1, 2, 3] rfl rfl rfl ⟨by decide, by decide, by decide, by decide⟩ rfl (fun H locs hP hD hS => ?_)
        refine lv_if_eq (tgt := 39) hx hb dX13_growing_22 (by decide) (fun cc => ?_) (fun cc => ?_)
        · replace hf := ifT cc hf
          refine lv_iconst (v := 0) hx hb dX13_growing_39 (by decide) ?_
          refine lv_ior hx hb dX13_growing_40 ?_
          refine lv_istore_n (lv' := [(1, .int (x_6 ||| 0)), (2, .int x_5), (0, .ref (q0 0))]) hx hb dX13_growing_41 rfl hl (by decide) rfl (fun ls hl => ?_)
          refine lv_iinc (v := (x_5 + 1)) (lv' := [(2, .int (x_5 + 1)), (1, .int (x_6 ||| 0)), (0, .ref (q0 0))]) hx hb dX13_growing_42 hl (k := 1) rfl rfl (by decide) rfl (fun ls hl => ?_)
          refine lv_goto (tgt := 4) hx hb dX13_growing_45 (by decide) ?_
          exact ihL_7 (x_5 + 1) (x_6 ||| 0) _ _ _ (lv_sub hl [0, 1, 2] rfl) hP hD hS hf
        · replace hf := ifF cc hf
          refine lv_aload_n hx hb dX13_growing_25 rfl (lv_at hl 2 rfl) ?_
          refine lv_iload_n hx hb dX13_growing_26 rfl (lv_at hl 0 rfl) ?_
          obtain ⟨r_10, hc, hf⟩ := bd1_of hf
          refine k_V (As := [.int x_5]) (rest := [.int x_6]) (ws1 := (kModel G q0 v0)) ⟨hx, hb, hml, hown, hts⟩ (c_X13_isShaded l D G q0 x_5 v0 _ hc  _) (cwV 1 hts gX13_growing_X13_isShaded rfl rfl rfl (by decide +kernel) ⟨Nat.le_of_ble_eq_true rfl, Nat.le_of_ble_eq_true rfl⟩) hl.1 (Nat.le_of_ble_eq_true rfl) dX13_growing_27 ⟨Nat.le_of_ble_eq_true rfl, Nat.le_of_ble_eq_true rfl⟩ rfl kT_bl (fun _ _ _ => trivial) hN hK hP hD hS hA 0 11 rfl rfl rfl [0, 1, 2, 3, 4, 5, 6, 7, 8, 9, 10, 11] [] [0, 1, 2, 3, 4, 5, 6, 7, 8, 9, 10, 11] [0, 1, 2, 3] rfl rfl rfl ⟨by decide, by decide, by decide, by decide⟩ rfl (fun H locs hP hD hS => ?_)
          refine lv_if_ne (tgt := 39) hx hb dX13_growing_30 (by decide) (fun cc => ?_) (fun cc => ?_)
          · replace hf := ifF cc hf
            refine lv_iconst (v := 0) hx hb dX13_growing_39 (by decide) ?_
            refine lv_ior hx hb dX13_growing_40 ?_
            refine lv_istore_n (lv' := [(1, .int (x_6 ||| 0)), (2, .int x_5), (0, .ref (q0 0))]) hx hb dX13_growing_41 rfl hl (by decide) rfl (fun ls hl => ?_)
            refine lv_iinc (v := (x_5 + 1)) (lv' := [(2, .int (x_5 + 1)), (1, .int (x_6 ||| 0)), (0, .ref (q0 0))]) hx hb dX13_growing_42 hl (k := 1) rfl rfl (by decide) rfl (fun ls hl => ?_)
            refine lv_goto (tgt := 4) hx hb dX13_growing_45 (by decide) ?_
            exact ihL_7 (x_5 + 1) (x_6 ||| 0) _ _ _ (lv_sub hl [0, 1, 2] rfl) hP hD hS hf
          · replace hf := ifT cc hf
            refine lv_iconst (v := 1) hx hb dX13_growing_33 (by decide) ?_
            refine lv_iload_n hx hb dX13_growing_34 rfl (lv_at hl 0 rfl) ?_
            refine lv_ishl hx hb dX13_growing_35 ?_
            refine lv_goto (tgt := 40) hx hb dX13_growing_36 (by decide) ?_
            refine lv_ior hx hb dX13_growing_40 ?_
            refine lv_istore_n (lv' := [(1, .int (x_6 ||| (1 <<< (x_5 &&& 31)))), (2, .int x_5), (0, .ref (q0 0))]) hx hb dX13_growing_41 rfl hl (by decide) rfl (fun ls hl => ?_)
            refine lv_iinc (v := (x_5 + 1)) (lv' := [(2, .int (x_5 + 1)), (1, .int (x_6 ||| (1 <<< (x_5 &&& 31)))), (0, .ref (q0 0))]) hx hb dX13_growing_42 hl (k := 1) rfl rfl (by decide) rfl (fun ls hl => ?_)
            refine lv_goto (tgt := 4) hx hb dX13_growing_45 (by decide) ?_
            exact ihL_7 (x_5 + 1) (x_6 ||| (1 <<< (x_5 &&& 31))) _ _ _ (lv_sub hl [0, 1, 2] rfl) hP hD hS hf
  exact loL_7 FU 0 0 _ _ _ hl hP hD hS hf
def f_X13_grows_K9 (y_11 : Int32) (y_12 : Int32) (z_13 : SV) : Option (Int32 × SV) :=
  ckI 5 240 <|
  ckI 5 240 <|
  nm (pA z_13 0 5 ((z_13.2 0 (5 : Int32).toNatClampNeg) + y_12)) fun v_14 =>
  some (y_12, v_14)
def f_X13_grows_B9 (r_1 : Int32) (selfL_8 : (Int32 → Int32 → SV → Option (Int32 × SV))) (x_5 : Int32) (x_6 : Int32) (u_7 : SV) : Option (Int32 × SV) :=
  if 12 ≤ x_5 then
    f_X13_grows_K9 x_5 x_6 u_7
  else
    ckI (10 + x_5) 240 <|
    ckI (10 + x_5) 240 <|
    nm (pA u_7 0 (10 + x_5) ((u_7.2 0 (10 + x_5).toNatClampNeg) + ((r_1 >>> (x_5 &&& 31)) &&& 1))) fun v_9 =>
    nm (x_6 + ((r_1 >>> (x_5 &&& 31)) &&& 1)) fun t_10 =>
    selfL_8 (x_5 + 1) t_10 v_9
def f_X13_grows (v0 : SV) : Option (Int32 × SV) :=
  bd1 (f_X13_growing v0) fun r_1 =>
  lz3 (f_X13_grows_B9 r_1) FU 0 0 v0
abbrev rm_X13_grows : Room := { frames := 3, cells := 0, slots := 0, locals := 65 }
set_option maxHeartbeats 4000000 in
set_option maxRecDepth 100000 in
theorem c_X13_grows (l : Launch) (D : va_G) (G : Nat → ClassId) (q0 : Nat → Nat) (v0 : SV) (r : Int32) (v0' : SV) (hf : f_X13_grows v0 = some (r, v0')) (sz : Nat) : mC l yX13_grows wsX13_grows rm_X13_grows D (tyG G) kT [.ref (q0 0)] (kModel G q0 v0) (kModel G q0 v0') sz (some (.int r)) 0 0 := by
  refine mC_ofI (cc := cX13_grows) (maxL := 4) (ret := (some .int)) (by decide) rfl rfl (Nat.le_of_ble_eq_true rfl) ?_
  intro p e s m args below meth c Q0 hx hb hml hts hown hN hK A hD hA hE hP hS hJ ls hl
  have hl : lv_has ls 4 [(0, .ref (q0 0))] := hl
  unfold f_X13_grows at hf
  have hi11 : ∀ w ∈ u_ws RX13 TX13 27, w ∈ wsX13_grows := by decide +kernel
  have hw1 := hts (.fieldLink RX13 7 "BalconyCensusModel" "now" "[I") (by decide +kernel)
  refine lv_aload_n hx hb dX13_grows_0 rfl (lv_at hl 0 rfl) ?_
  obtain ⟨r_1, hc, hf⟩ := bd1_of hf
  refine k_V (As := []) (rest := []) (ws1 := (kModel G q0 v0)) ⟨hx, hb, hml, hown, hts⟩ (c_X13_growing l D G q0  v0 _ hc  _) (cwV 0 hts gX13_grows_X13_growing rfl rfl rfl (by decide +kernel) ⟨Nat.le_of_ble_eq_true rfl, Nat.le_of_ble_eq_true rfl⟩) hl.1 (Nat.le_of_ble_eq_true rfl) dX13_grows_1 ⟨Nat.le_of_ble_eq_true rfl, Nat.le_of_ble_eq_true rfl⟩ rfl kT_bl (fun _ _ _ => trivial) hN hK hP hD hS hA 0 11 rfl rfl rfl [0, 1, 2, 3, 4, 5, 6, 7, 8, 9, 10, 11] [] [0, 1, 2, 3, 4, 5, 6, 7, 8, 9, 10, 11] [0, 1, 2, 3] rfl rfl rfl ⟨by decide, by decide, by decide, by decide⟩ rfl (fun H locs hP hD hS => ?_)
  refine lv_istore_n (lv' := [(1, .int r_1), (0, .ref (q0 0))]) hx hb dX13_grows_4 rfl hl (by decide) rfl (fun ls hl => ?_)
  refine lv_iconst (v := 0) hx hb dX13_grows_5 (by decide) ?_
  refine lv_istore_n (lv' := [(2, .int 0), (1, .int r_1), (0, .ref (q0 0))]) hx hb dX13_grows_6 rfl hl (by decide) rfl (fun ls hl => ?_)
  refine lv_iconst (v := 0) hx hb dX13_grows_7 (by decide) ?_
  refine lv_istore_n (lv' := [(3, .int 0), (2, .int 0), (1, .int r_1), (0, .ref (q0 0))]) hx hb dX13_grows_8 rfl hl (by decide) rfl (fun ls hl => ?_)
  have exL_8 : ∀ (y_11 : Int32) (y_12 : Int32) (z_13 : SV) (H : Heap) (locs : List Loc) (ls : Array Slot), lv_has ls 4 [(3, .int y_11), (2, .int y_12), (1, .int r_1), (0, .ref (q0 0))] → va_P D vwCl (kModel G q0 z_13) H → va_D A (kModel G q0 z_13) → va_S A s.heap H locs → f_X13_grows_K9 y_11 y_12 z_13 = some (r, v0') → W p l e rm_X13_grows s m args below meth c H locs 0 0 Q0 (F0 m 46 ls []) := by
    intro y_11 y_12 z_13 H locs ls hl hP hD hS hf
    unfold f_X13_grows_K9 at hf
    refine lv_aload_n hx hb dX13_grows_46 rfl (lv_at hl 3 rfl) ?_
    refine va_get (D := D) (ci := 11) (v := .ref (q0 1)) (C := RX13) (T := TX13) (N := 27) hx hb hts hi11 hown hK hP 0 rfl rfl 0 (by decide) hw1 (fun _ h9 => h9) rfl dX13_grows_47 ?_
    refine lv_iconst (v := 5) hx hb dX13_grows_50 (by decide) ?_
    refine lv_dup2_11 hx hb dX13_grows_51 rfl rfl ?_
    obtain ⟨hin, hf⟩ := ckI_of hf
    refine va_iald (D := D) hx hb hK hP 1 0 rfl rfl hin dX13_grows_52 ?_
    refine lv_iload_n hx hb dX13_grows_53 rfl (lv_at hl 1 rfl) ?_
    refine lv_iadd hx hb dX13_grows_54 ?_
    obtain ⟨hin, hf⟩ := ckI_of hf
    obtain ⟨v_14, ev_14, hf⟩ := nm_of hf
    refine va_iast (D := D) hx hb hK hP hD hS 1 0 rfl rfl hin dX13_grows_55 (fun H locs hP hD hS => ?_)
    have hP : va_P D vwCl (kModel G q0 v_14) H := by rw [ev_14]; exact hP
    have hD : va_D A (kModel G q0 v_14) := by rw [ev_14]; exact hD
    refine lv_iload_n hx hb dX13_grows_56 rfl (lv_at hl 1 rfl) ?_
    obtain ⟨rfl, rfl⟩ := re2 hf
    exact hE hP hD hS dX13_grows_57
  have loL_8 : ∀ (n : Nat) (x_5 : Int32) (x_6 : Int32) (u_7 : SV) (H : Heap) (locs : List Loc) (ls : Array Slot), lv_has ls 4 [(3, .int x_5), (2, .int x_6), (1, .int r_1), (0, .ref (q0 0))] → va_P D vwCl (kModel G q0 u_7) H → va_D A (kModel G q0 u_7) → va_S A s.heap H locs → lz3 (f_X13_grows_B9 r_1) n x_5 x_6 u_7 = some (r, v0') → W p l e rm_X13_grows s m args below meth c H locs 0 0 Q0 (F0 m 9 ls []) := by
    intro n
    induction n with
    | zero => intro x_5 x_6 u_7 H locs ls hl hP hD hS hf; cases hf
    | succ n ihL_8 =>
      intro x_5 x_6 u_7 H locs ls hl hP hD hS hf
      replace hf := lz3_s hf
      unfold f_X13_grows_B9 at hf
      refine lv_iload_n hx hb dX13_grows_9 rfl (lv_at hl 0 rfl) ?_
      refine lv_bipush (v := 12) hx hb dX13_grows_10 (by decide +kernel) ?_
      refine lv_icmp_ge (tgt := 46) hx hb dX13_grows_12 (by decide) (fun cc => ?_) (fun cc => ?_)
      · replace hf := ifT cc hf
        exact exL_8 x_5 x_6 u_7 _ _ _ (lv_sub hl [0, 1, 2, 3] rfl) hP hD hS hf
      · replace hf := ifF cc hf
        refine lv_aload_n hx hb dX13_grows_15 rfl (lv_at hl 3 rfl) ?_
        refine va_get (D := D) (ci := 11) (v := .ref (q0 1)) (C := RX13) (T := TX13) (N := 27) hx hb hts hi11 hown hK hP 0 rfl rfl 0 (by decide) hw1 (fun _ h9 => h9) rfl dX13_grows_16 ?_
        refine lv_bipush (v := 10) hx hb dX13_grows_19 (by decide +kernel) ?_
        refine lv_iload_n hx hb dX13_grows_21 rfl (lv_at hl 0 rfl) ?_
        refine lv_iadd hx hb dX13_grows_22 ?_
        refine lv_dup2_11 hx hb dX13_grows_23 rfl rfl ?_
        obtain ⟨hin, hf⟩ := ckI_of hf
        refine va_iald (D := D) hx hb hK hP 1 0 rfl rfl hin dX13_grows_24 ?_
        refine lv_iload_n hx hb dX13_grows_25 rfl (lv_at hl 2 rfl) ?_
        refine lv_iload_n hx hb dX13_grows_26 rfl (lv_at hl 0 rfl) ?_
        refine lv_ishr hx hb dX13_grows_27 ?_
        refine lv_iconst (v := 1) hx hb dX13_grows_28 (by decide) ?_
        refine lv_iand hx hb dX13_grows_29 ?_
        refine lv_iadd hx hb dX13_grows_30 ?_
        obtain ⟨hin, hf⟩ := ckI_of hf
        obtain ⟨v_9, ev_9, hf⟩ := nm_of hf
        refine va_iast (D := D) hx hb hK hP hD hS 1 0 rfl rfl hin dX13_grows_31 (fun H locs hP hD hS => ?_)
        have hP : va_P D vwCl (kModel G q0 v_9) H := by rw [ev_9]; exact hP
        have hD : va_D A (kModel G q0 v_9) := by rw [ev_9]; exact hD
        refine lv_iload_n hx hb dX13_grows_32 rfl (lv_at hl 1 rfl) ?_
        refine lv_iload_n hx hb dX13_grows_33 rfl (lv_at hl 2 rfl) ?_
        refine lv_iload_n hx hb dX13_grows_34 rfl (lv_at hl 0 rfl) ?_
        refine lv_ishr hx hb dX13_grows_35 ?_
        refine lv_iconst (v := 1) hx hb dX13_grows_36 (by decide) ?_
        refine lv_iand hx hb dX13_grows_37 ?_
        refine lv_iadd hx hb dX13_grows_38 ?_
        obtain ⟨t_10, et_10, hf⟩ := nm_of hf
        rw [← et_10]
        refine lv_istore_n (lv' := [(2, .int t_10), (3, .int x_5), (1, .int r_1), (0, .ref (q0 0))]) hx hb dX13_grows_39 rfl hl (by decide) rfl (fun ls hl => ?_)
        refine lv_iinc (v := (x_5 + 1)) (lv' := [(3, .int (x_5 + 1)), (2, .int t_10), (1, .int r_1), (0, .ref (q0 0))]) hx hb dX13_grows_40 hl (k := 1) rfl rfl (by decide) rfl (fun ls hl => ?_)
        refine lv_goto (tgt := 9) hx hb dX13_grows_43 (by decide) ?_
        exact ihL_8 (x_5 + 1) t_10 v_9 _ _ _ (lv_sub hl [0, 1, 2, 3] rfl) hP hD hS hf
  exact loL_8 FU 0 0 v0 _ _ _ hl hP hD hS hf
def f_X13_ages_K16 (y_35 : Int32) (z_36 : SV) : Option SV :=
  some z_36
def f_X13_ages_K49 (r_24 : Int32) (selfL_21 : (Int32 → SV → Option SV)) (x_19 : Int32) (r_22 : Int32) (r_23 : Int32) (y_29 : Int32) (z_30 : SV) : Option SV :=
  if (r_24 - 1) = 0 then
    selfL_21 (x_19 + 1) z_30
  else
    ckI 0 240 <|
    ckI (190 + (3 * (z_30.2 0 (0 : Int32).toNatClampNeg))) 240 <|
    nm (pA z_30 0 (190 + (3 * (z_30.2 0 (0 : Int32).toNatClampNeg))) r_22) fun v_31 =>
    ckI 0 240 <|
    ckI ((190 + (3 * (v_31.2 0 (0 : Int32).toNatClampNeg))) + 1) 240 <|
    nm (pA v_31 0 ((190 + (3 * (v_31.2 0 (0 : Int32).toNatClampNeg))) + 1) r_23) fun v_32 =>
    ckI 0 240 <|
    ckI ((190 + (3 * (v_32.2 0 (0 : Int32).toNatClampNeg))) + 2) 240 <|
    nm (pA v_32 0 ((190 + (3 * (v_32.2 0 (0 : Int32).toNatClampNeg))) + 2) (r_24 - 1)) fun v_33 =>
    ckI 0 240 <|
    ckI 0 240 <|
    nm (pA v_33 0 0 ((v_33.2 0 (0 : Int32).toNatClampNeg) + 1)) fun v_34 =>
    selfL_21 (x_19 + 1) v_34
def f_X13_ages_B49 (r_24 : Int32) (selfL_21 : (Int32 → SV → Option SV)) (x_19 : Int32) (r_22 : Int32) (r_23 : Int32) (selfL_27 : (Int32 → SV → Option SV)) (x_25 : Int32) (u_26 : SV) : Option SV :=
  if 3 ≤ x_25 then
    f_X13_ages_K49 r_24 selfL_21 x_19 r_22 r_23 x_25 u_26
  else
    ckI ((190 + (3 * x_19)) + x_25) 240 <|
    nm (pA u_26 0 ((190 + (3 * x_19)) + x_25) 0) fun v_28 =>
    selfL_27 (x_25 + 1) v_28
def f_X13_ages_B16 (t_1 : Int32) (selfL_21 : (Int32 → SV → Option SV)) (x_19 : Int32) (u_20 : SV) : Option SV :=
  if t_1 ≤ x_19 then
    f_X13_ages_K16 x_19 u_20
  else
    bd1 (f_X13_linePart x_19 0 u_20) fun r_22 =>
    bd1 (f_X13_linePart x_19 1 u_20) fun r_23 =>
    bd1 (f_X13_linePart x_19 2 u_20) fun r_24 =>
    lz2 (f_X13_ages_B49 r_24 selfL_21 x_19 r_22 r_23) FU 0 u_20
def f_X13_ages (v0 : SV) : Option SV :=
  ckI 0 240 <|
  nm (v0.2 0 (0 : Int32).toNatClampNeg) fun t_1 =>
  ckI 0 240 <|
  nm (pA v0 0 0 0) fun v_2 =>
  lz2 (f_X13_ages_B16 t_1) FU 0 v_2
abbrev rm_X13_ages : Room := { frames := 1, cells := 0, slots := 0, locals := 22 }
set_option maxHeartbeats 4000000 in
set_option maxRecDepth 100000 in
theorem c_X13_ages (l : Launch) (D : va_G) (G : Nat → ClassId) (q0 : Nat → Nat) (v0 : SV) (v0' : SV) (hf : f_X13_ages v0 = some v0') (sz : Nat) : mC l yX13_ages wsX13_ages rm_X13_ages D (tyG G) kT [.ref (q0 0)] (kModel G q0 v0) (kModel G q0 v0') sz none 0 0 := by
  refine mC_ofV (cc := cX13_ages) (maxL := 7) (ret := none) (by decide) rfl rfl (Nat.le_of_ble_eq_true rfl) ?_
  intro p e s m args below meth c Q0 hx hb hml hts hown hN hK A hD hA hE hP hS hJ ls hl
  have hl : lv_has ls 7 [(0, .ref (q0 0))] := hl
  unfold f_X13_ages at hf
  have hi11 : ∀ w ∈ u_ws RX13 TX13 27, w ∈ wsX13_ages := by decide +kernel
  have hw1 := hts (.fieldLink RX13 7 "BalconyCensusModel" "now" "[I") (by decide +kernel)
  refine lv_aload_n hx hb dX13_ages_0 rfl (lv_at hl 0 rfl) ?_
  refine va_get (D := D) (ci := 11) (v := .ref (q0 1)) (C := RX13) (T := TX13) (N := 27) hx hb hts hi11 hown hK hP 0 rfl rfl 0 (by decide) hw1 (fun _ h9 => h9) rfl dX13_ages_1 ?_
  refine lv_iconst (v := 0) hx hb dX13_ages_4 (by decide) ?_
  obtain ⟨hin, hf⟩ := ckI_of hf
  refine va_iald (D := D) hx hb hK hP 1 0 rfl rfl hin dX13_ages_5 ?_
  obtain ⟨t_1, et_1, hf⟩ := nm_of hf
  rw [← et_1]
  refine lv_istore_n (lv' := [(1, .int t_1), (0, .ref (q0 0))]) hx hb dX13_ages_6 rfl hl (by decide) rfl (fun ls hl => ?_)
  refine lv_aload_n hx hb dX13_ages_7 rfl (lv_at hl 1 rfl) ?_
  refine va_get (D := D) (ci := 11) (v := .ref (q0 1)) (C := RX13) (T := TX13) (N := 27) hx hb hts hi11 hown hK hP 0 rfl rfl 0 (by decide) hw1 (fun _ h9 => h9) rfl dX13_ages_8 ?_
  refine lv_iconst (v := 0) hx hb dX13_ages_11 (by decide) ?_
  refine lv_iconst (v := 0) hx hb dX13_ages_12 (by decide) ?_
  obtain ⟨hin, hf⟩ := ckI_of hf
  obtain ⟨v_2, ev_2, hf⟩ := nm_of hf
  refine va_iast (D := D) hx hb hK hP hD hS 1 0 rfl rfl hin dX13_ages_13 (fun H locs hP hD hS => ?_)
  have hP : va_P D vwCl (kModel G q0 v_2) H := by rw [ev_2]; exact hP
  have hD : va_D A (kModel G q0 v_2) := by rw [ev_2]; exact hD
  refine lv_iconst (v := 0) hx hb dX13_ages_14 (by decide) ?_
  refine lv_istore_n (lv' := [(2, .int 0), (1, .int t_1), (0, .ref (q0 0))]) hx hb dX13_ages_15 rfl hl (by decide) rfl (fun ls hl => ?_)
  have exL_21 : ∀ (y_35 : Int32) (z_36 : SV) (H : Heap) (locs : List Loc) (ls : Array Slot), lv_has ls 7 [(2, .int y_35), (1, .int t_1), (0, .ref (q0 0))] → va_P D vwCl (kModel G q0 z_36) H → va_D A (kModel G q0 z_36) → va_S A s.heap H locs → f_X13_ages_K16 y_35 z_36 = some v0' → W p l e rm_X13_ages s m args below meth c H locs 0 0 Q0 (F0 m 161 ls []) := by
    intro y_35 z_36 H locs ls hl hP hD hS hf
    unfold f_X13_ages_K16 at hf
    obtain rfl := re1 hf
    exact hE hP hD hS dX13_ages_161
  have loL_21 : ∀ (n : Nat) (x_19 : Int32) (u_20 : SV) (H : Heap) (locs : List Loc) (ls : Array Slot), lv_has ls 7 [(2, .int x_19), (1, .int t_1), (0, .ref (q0 0))] → va_P D vwCl (kModel G q0 u_20) H → va_D A (kModel G q0 u_20) → va_S A s.heap H locs → lz2 (f_X13_ages_B16 t_1) n x_19 u_20 = some v0' → W p l e rm_X13_ages s m args below meth c H locs 0 0 Q0 (F0 m 16 ls []) := by
    intro n
    induction n with
    | zero => intro x_19 u_20 H locs ls hl hP hD hS hf; cases hf
    | succ n ihL_21 =>
      intro x_19 u_20 H locs ls hl hP hD hS hf
      replace hf := lz2_s hf
      generalize lz2 (f_X13_ages_B16 t_1) n = selfL_21 at hf ihL_21
      unfold f_X13_ages_B16 at hf
      refine lv_iload_n hx hb dX13_ages_16 rfl (lv_at hl 0 rfl) ?_
      refine lv_iload_n hx hb dX13_ages_17 rfl (lv_at hl 1 rfl) ?_
      refine lv_icmp_ge (tgt := 161) hx hb dX13_ages_18 (by decide) (fun cc => ?_) (fun cc => ?_)
      · replace hf := ifT cc hf
        exact exL_21 x_19 u_20 _ _ _ (lv_sub hl [0, 1, 2] rfl) hP hD hS hf
      · replace hf := ifF cc hf
        refine lv_aload_n hx hb dX13_ages_21 rfl (lv_at hl 2 rfl) ?_
        refine lv_iload_n hx hb dX13_ages_22 rfl (lv_at hl 0 rfl) ?_
        refine lv_iconst (v := 0) hx hb dX13_ages_23 (by decide) ?_
        obtain ⟨r_22, hc, hf⟩ := bd1_of hf
        refine k_V (As := [.int x_19, .int 0]) (rest := []) (ws1 := (kModel G q0 u_20)) ⟨hx, hb, hml, hown, hts⟩ (c_X13_linePart l D G q0 x_19 0 u_20 _ hc  _) (cwV 2 hts gX13_ages_X13_linePart rfl rfl rfl (by decide +kernel) ⟨Nat.le_of_ble_eq_true rfl, Nat.le_of_ble_eq_true rfl⟩) hl.1 (Nat.le_of_ble_eq_true rfl) dX13_ages_24 ⟨Nat.le_of_ble_eq_true rfl, Nat.le_of_ble_eq_true rfl⟩ rfl kT_bl (fun _ _ _ => trivial) hN hK hP hD hS hA 0 11 rfl rfl rfl [0, 1, 2, 3, 4, 5, 6, 7, 8, 9, 10, 11] [] [0, 1, 2, 3, 4, 5, 6, 7, 8, 9, 10, 11] [0, 1, 2, 3] rfl rfl rfl ⟨by decide, by decide, by decide, by decide⟩ rfl (fun H locs hP hD hS => ?_)
        refine lv_istore_n (lv' := [(3, .int r_22), (2, .int x_19), (1, .int t_1), (0, .ref (q0 0))]) hx hb dX13_ages_27 rfl hl (by decide) rfl (fun ls hl => ?_)
        refine lv_aload_n hx hb dX13_ages_28 rfl (lv_at hl 3 rfl) ?_
        refine lv_iload_n hx hb dX13_ages_29 rfl (lv_at hl 1 rfl) ?_
        refine lv_iconst (v := 1) hx hb dX13_ages_30 (by decide) ?_
        obtain ⟨r_23, hc, hf⟩ := bd1_of hf
        refine k_V (As := [.int x_19, .int 1]) (rest := []) (ws1 := (kModel G q0 u_20)) ⟨hx, hb, hml, hown, hts⟩ (c_X13_linePart l D G q0 x_19 1 u_20 _ hc  _) (cwV 2 hts gX13_ages_X13_linePart rfl rfl rfl (by decide +kernel) ⟨Nat.le_of_ble_eq_true rfl, Nat.le_of_ble_eq_true rfl⟩) hl.1 (Nat.le_of_ble_eq_true rfl) dX13_ages_31 ⟨Nat.le_of_ble_eq_true rfl, Nat.le_of_ble_eq_true rfl⟩ rfl kT_bl (fun _ _ _ => trivial) hN hK hP hD hS hA 0 11 rfl rfl rfl [0, 1, 2, 3, 4, 5, 6, 7, 8, 9, 10, 11] [] [0, 1, 2, 3, 4, 5, 6, 7, 8, 9, 10, 11] [0, 1, 2, 3] rfl rfl rfl ⟨by decide, by decide, by decide, by decide⟩ rfl (fun H locs hP hD hS => ?_)
        refine lv_istore (lv' := [(4, .int r_23), (3, .int r_22), (2, .int x_19), (1, .int t_1), (0, .ref (q0 0))]) hx hb dX13_ages_34 hl (by decide) rfl (fun ls hl => ?_)
        refine lv_aload_n hx hb dX13_ages_36 rfl (lv_at hl 4 rfl) ?_
        refine lv_iload_n hx hb dX13_ages_37 rfl (lv_at hl 2 rfl) ?_
        refine lv_iconst (v := 2) hx hb dX13_ages_38 (by decide) ?_
        obtain ⟨r_24, hc, hf⟩ := bd1_of hf
        refine k_V (As := [.int x_19, .int 2]) (rest := []) (ws1 := (kModel G q0 u_20)) ⟨hx, hb, hml, hown, hts⟩ (c_X13_linePart l D G q0 x_19 2 u_20 _ hc  _) (cwV 2 hts gX13_ages_X13_linePart rfl rfl rfl (by decide +kernel) ⟨Nat.le_of_ble_eq_true rfl, Nat.le_of_ble_eq_true rfl⟩) hl.1 (Nat.le_of_ble_eq_true rfl) dX13_ages_39 ⟨Nat.le_of_ble_eq_true rfl, Nat.le_of_ble_eq_true rfl⟩ rfl kT_bl (fun _ _ _ => trivial) hN hK hP hD hS hA 0 11 rfl rfl rfl [0, 1, 2, 3, 4, 5, 6, 7, 8, 9, 10, 11] [] [0, 1, 2, 3, 4, 5, 6, 7, 8, 9, 10, 11] [0, 1, 2, 3] rfl rfl rfl ⟨by decide, by decide, by decide, by decide⟩ rfl (fun H locs hP hD hS => ?_)
        refine lv_iconst (v := 1) hx hb dX13_ages_42 (by decide) ?_
        refine lv_isub hx hb dX13_ages_43 ?_
        refine lv_istore (lv' := [(5, .int (r_24 - 1)), (4, .int r_23), (3, .int r_22), (2, .int x_19), (1, .int t_1), (0, .ref (q0 0))]) hx hb dX13_ages_44 hl (by decide) rfl (fun ls hl => ?_)
        refine lv_iconst (v := 0) hx hb dX13_ages_46 (by decide) ?_
        refine lv_istore (lv' := [(6, .int 0), (5, .int (r_24 - 1)), (4, .int r_23), (3, .int r_22), (2, .int x_19), (1, .int t_1), (0, .ref (q0 0))]) hx hb dX13_ages_47 hl (by decide) rfl (fun ls hl => ?_)
        have exL_27 : ∀ (y_29 : Int32) (z_30 : SV) (H : Heap) (locs : List Loc) (ls : Array Slot), lv_has ls 7 [(6, .int y_29), (5, .int (r_24 - 1)), (4, .int r_23), (3, .int r_22), (2, .int x_19), (1, .int t_1), (0, .ref (q0 0))] → va_P D vwCl (kModel G q0 z_30) H → va_D A (kModel G q0 z_30) → va_S A s.heap H locs → f_X13_ages_K49 r_24 selfL_21 x_19 r_22 r_23 y_29 z_30 = some v0' → W p l e rm_X13_ages s m args below meth c H locs 0 0 Q0 (F0 m 77 ls []) := by
          intro y_29 z_30 H locs ls hl hP hD hS hf
          unfold f_X13_ages_K49 at hf
          refine lv_iload hx hb dX13_ages_77 (lv_at hl 1 rfl) ?_
          refine lv_if_ne (tgt := 85) hx hb dX13_ages_79 (by decide) (fun cc => ?_) (fun cc => ?_)
          · replace hf := ifF cc hf
            refine lv_aload_n hx hb dX13_ages_85 rfl (lv_at hl 6 rfl) ?_
            refine va_get (D := D) (ci := 11) (v := .ref (q0 1)) (C := RX13) (T := TX13) (N := 27) hx hb hts hi11 hown hK hP 0 rfl rfl 0 (by decide) hw1 (fun _ h9 => h9) rfl dX13_ages_86 ?_
            refine lv_sipush (v := 190) hx hb dX13_ages_89 (by decide +kernel) ?_
            refine lv_iconst (v := 3) hx hb dX13_ages_92 (by decide) ?_
            refine lv_aload_n hx hb dX13_ages_93 rfl (lv_at hl 6 rfl) ?_
            refine va_get (D := D) (ci := 11) (v := .ref (q0 1)) (C := RX13) (T := TX13) (N := 27) hx hb hts hi11 hown hK hP 0 rfl rfl 0 (by decide) hw1 (fun _ h9 => h9) rfl dX13_ages_94 ?_
            refine lv_iconst (v := 0) hx hb dX13_ages_97 (by decide) ?_
            obtain ⟨hin, hf⟩ := ckI_of hf
            refine va_iald (D := D) hx hb hK hP 1 0 rfl rfl hin dX13_ages_98 ?_
            refine lv_imul hx hb dX13_ages_99 ?_
            refine lv_iadd hx hb dX13_ages_100 ?_
            refine lv_iload_n hx hb dX13_ages_101 rfl (lv_at hl 3 rfl) ?_
            obtain ⟨hin, hf⟩ := ckI_of hf
            obtain ⟨v_31, ev_31, hf⟩ := nm_of hf
            refine va_iast (D := D) hx hb hK hP hD hS 1 0 rfl rfl hin dX13_ages_102 (fun H locs hP hD hS => ?_)
            have hP : va_P D vwCl (kModel G q0 v_31) H := by rw [ev_31]; exact hP
            have hD : va_D A (kModel G q0 v_31) := by rw [ev_31]; exact hD
            refine lv_aload_n hx hb dX13_ages_103 rfl (lv_at hl 6 rfl) ?_
            refine va_get (D := D) (ci := 11) (v := .ref (q0 1)) (C := RX13) (T := TX13) (N := 27) hx hb hts hi11 hown hK hP 0 rfl rfl 0 (by decide) hw1 (fun _ h9 => h9) rfl dX13_ages_104 ?_
            refine lv_sipush (v := 190) hx hb dX13_ages_107 (by decide +kernel) ?_
            refine lv_iconst (v := 3) hx hb dX13_ages_110 (by decide) ?_
            refine lv_aload_n hx hb dX13_ages_111 rfl (lv_at hl 6 rfl) ?_
            refine va_get (D := D) (ci := 11) (v := .ref (q0 1)) (C := RX13) (T := TX13) (N := 27) hx hb hts hi11 hown hK hP 0 rfl rfl 0 (by decide) hw1 (fun _ h9 => h9) rfl dX13_ages_112 ?_
            refine lv_iconst (v := 0) hx hb dX13_ages_115 (by decide) ?_
            obtain ⟨hin, hf⟩ := ckI_of hf
            refine va_iald (D := D) hx hb hK hP 1 0 rfl rfl hin dX13_ages_116 ?_
            refine lv_imul hx hb dX13_ages_117 ?_
            refine lv_iadd hx hb dX13_ages_118 ?_
            refine lv_iconst (v := 1) hx hb dX13_ages_119 (by decide) ?_
            refine lv_iadd hx hb dX13_ages_120 ?_
            refine lv_iload hx hb dX13_ages_121 (lv_at hl 2 rfl) ?_
            obtain ⟨hin, hf⟩ := ckI_of hf
            obtain ⟨v_32, ev_32, hf⟩ := nm_of hf
            refine va_iast (D := D) hx hb hK hP hD hS 1 0 rfl rfl hin dX13_ages_123 (fun H locs hP hD hS => ?_)
            have hP : va_P D vwCl (kModel G q0 v_32) H := by rw [ev_32]; exact hP
            have hD : va_D A (kModel G q0 v_32) := by rw [ev_32]; exact hD
            refine lv_aload_n hx hb dX13_ages_124 rfl (lv_at hl 6 rfl) ?_
            refine va_get (D := D) (ci := 11) (v := .ref (q0 1)) (C := RX13) (T := TX13) (N := 27) hx hb hts hi11 hown hK hP 0 rfl rfl 0 (by decide) hw1 (fun _ h9 => h9) rfl dX13_ages_125 ?_
            refine lv_sipush (v := 190) hx hb dX13_ages_128 (by decide +kernel) ?_
            refine lv_iconst (v := 3) hx hb dX13_ages_131 (by decide) ?_
            refine lv_aload_n hx hb dX13_ages_132 rfl (lv_at hl 6 rfl) ?_
            refine va_get (D := D) (ci := 11) (v := .ref (q0 1)) (C := RX13) (T := TX13) (N := 27) hx hb hts hi11 hown hK hP 0 rfl rfl 0 (by decide) hw1 (fun _ h9 => h9) rfl dX13_ages_133 ?_
            refine lv_iconst (v := 0) hx hb dX13_ages_136 (by decide) ?_
            obtain ⟨hin, hf⟩ := ckI_of hf
            refine va_iald (D := D) hx hb hK hP 1 0 rfl rfl hin dX13_ages_137 ?_
            refine lv_imul hx hb dX13_ages_138 ?_
            refine lv_iadd hx hb dX13_ages_139 ?_
            refine lv_iconst (v := 2) hx hb dX13_ages_140 (by decide) ?_
            refine lv_iadd hx hb dX13_ages_141 ?_
            refine lv_iload hx hb dX13_ages_142 (lv_at hl 1 rfl) ?_
            obtain ⟨hin, hf⟩ := ckI_of hf
            obtain ⟨v_33, ev_33, hf⟩ := nm_of hf
            refine va_iast (D := D) hx hb hK hP hD hS 1 0 rfl rfl hin dX13_ages_144 (fun H locs hP hD hS => ?_)
            have hP : va_P D vwCl (kModel G q0 v_33) H := by rw [ev_33]; exact hP
            have hD : va_D A (kModel G q0 v_33) := by rw [ev_33]; exact hD
            refine lv_aload_n hx hb dX13_ages_145 rfl (lv_at hl 6 rfl) ?_
            refine va_get (D := D) (ci := 11) (v := .ref (q0 1)) (C := RX13) (T := TX13) (N := 27) hx hb hts hi11 hown hK hP 0 rfl rfl 0 (by decide) hw1 (fun _ h9 => h9) rfl dX13_ages_146 ?_
            refine lv_iconst (v := 0) hx hb dX13_ages_149 (by decide) ?_
            refine lv_dup2_11 hx hb dX13_ages_150 rfl rfl ?_
            obtain ⟨hin, hf⟩ := ckI_of hf
            refine va_iald (D := D) hx hb hK hP 1 0 rfl rfl hin dX13_ages_151 ?_
            refine lv_iconst (v := 1) hx hb dX13_ages_152 (by decide) ?_
            refine lv_iadd hx hb dX13_ages_153 ?_
            obtain ⟨hin, hf⟩ := ckI_of hf
            obtain ⟨v_34, ev_34, hf⟩ := nm_of hf
            refine va_iast (D := D) hx hb hK hP hD hS 1 0 rfl rfl hin dX13_ages_154 (fun H locs hP hD hS => ?_)
            have hP : va_P D vwCl (kModel G q0 v_34) H := by rw [ev_34]; exact hP
            have hD : va_D A (kModel G q0 v_34) := by rw [ev_34]; exact hD
            refine lv_iinc (v := (x_19 + 1)) (lv' := [(2, .int (x_19 + 1)), (6, .int y_29), (5, .int (r_24 - 1)), (4, .int r_23), (3, .int r_22), (1, .int t_1), (0, .ref (q0 0))]) hx hb dX13_ages_155 hl (k := 4) rfl rfl (by decide) rfl (fun ls hl => ?_)
            refine lv_goto (tgt := 16) hx hb dX13_ages_158 (by decide) ?_
            exact ihL_21 (x_19 + 1) v_34 _ _ _ (lv_sub hl [0, 5, 6] rfl) hP hD hS hf
          · replace hf := ifT cc hf
            refine lv_goto (tgt := 155) hx hb dX13_ages_82 (by decide) ?_
            refine lv_iinc (v := (x_19 + 1)) (lv' := [(2, .int (x_19 + 1)), (6, .int y_29), (5, .int (r_24 - 1)), (4, .int r_23), (3, .int r_22), (1, .int t_1), (0, .ref (q0 0))]) hx hb dX13_ages_155 hl (k := 4) rfl rfl (by decide) rfl (fun ls hl => ?_)
            refine lv_goto (tgt := 16) hx hb dX13_ages_158 (by decide) ?_
            exact ihL_21 (x_19 + 1) z_30 _ _ _ (lv_sub hl [0, 5, 6] rfl) hP hD hS hf
        have loL_27 : ∀ (n : Nat) (x_25 : Int32) (u_26 : SV) (H : Heap) (locs : List Loc) (ls : Array Slot), lv_has ls 7 [(6, .int x_25), (5, .int (r_24 - 1)), (4, .int r_23), (3, .int r_22), (2, .int x_19), (1, .int t_1), (0, .ref (q0 0))] → va_P D vwCl (kModel G q0 u_26) H → va_D A (kModel G q0 u_26) → va_S A s.heap H locs → lz2 (f_X13_ages_B49 r_24 selfL_21 x_19 r_22 r_23) n x_25 u_26 = some v0' → W p l e rm_X13_ages s m args below meth c H locs 0 0 Q0 (F0 m 49 ls []) := by
          intro n
          induction n with
          | zero => intro x_25 u_26 H locs ls hl hP hD hS hf; cases hf
          | succ n ihL_27 =>
            intro x_25 u_26 H locs ls hl hP hD hS hf
            replace hf := lz2_s hf
            unfold f_X13_ages_B49 at hf
            refine lv_iload hx hb dX13_ages_49 (lv_at hl 0 rfl) ?_
            refine lv_iconst (v := 3) hx hb dX13_ages_51 (by decide) ?_
            refine lv_icmp_ge (tgt := 77) hx hb dX13_ages_52 (by decide) (fun cc => ?_) (fun cc => ?_)
            · replace hf := ifT cc hf
              exact exL_27 x_25 u_26 _ _ _ (lv_sub hl [0, 1, 2, 3, 4, 5, 6] rfl) hP hD hS hf
            · replace hf := ifF cc hf
              refine lv_aload_n hx hb dX13_ages_55 rfl (lv_at hl 6 rfl) ?_
              refine va_get (D := D) (ci := 11) (v := .ref (q0 1)) (C := RX13) (T := TX13) (N := 27) hx hb hts hi11 hown hK hP 0 rfl rfl 0 (by decide) hw1 (fun _ h9 => h9) rfl dX13_ages_56 ?_
              refine lv_sipush (v := 190) hx hb dX13_ages_59 (by decide +kernel) ?_
              refine lv_iconst (v := 3) hx hb dX13_ages_62 (by decide) ?_
              refine lv_iload_n hx hb dX13_ages_63 rfl (lv_at hl 4 rfl) ?_
              refine lv_imul hx hb dX13_ages_64 ?_
              refine lv_iadd hx hb dX13_ages_65 ?_
              refine lv_iload hx hb dX13_ages_66 (lv_at hl 0 rfl) ?_
              refine lv_iadd hx hb dX13_ages_68 ?_
              refine lv_iconst (v := 0) hx hb dX13_ages_69 (by decide) ?_
              obtain ⟨hin, hf⟩ := ckI_of hf
              obtain ⟨v_28, ev_28, hf⟩ := nm_of hf
              refine va_iast (D := D) hx hb hK hP hD hS 1 0 rfl rfl hin dX13_ages_70 (fun H locs hP hD hS => ?_)
              have hP : va_P D vwCl (kModel G q0 v_28) H := by rw [ev_28]; exact hP
              have hD : va_D A (kModel G q0 v_28) := by rw [ev_28]; exact hD
              refine lv_iinc (v := (x_25 + 1)) (lv' := [(6, .int (x_25 + 1)), (5, .int (r_24 - 1)), (4, .int r_23), (3, .int r_22), (2, .int x_19), (1, .int t_1), (0, .ref (q0 0))]) hx hb dX13_ages_71 hl (k := 0) rfl rfl (by decide) rfl (fun ls hl => ?_)
              refine lv_goto (tgt := 49) hx hb dX13_ages_74 (by decide) ?_
              exact ihL_27 (x_25 + 1) v_28 _ _ _ (lv_sub hl [0, 1, 2, 3, 4, 5, 6] rfl) hP hD hS hf
        exact loL_27 FU 0 u_20 _ _ _ hl hP hD hS hf
  exact loL_21 FU 0 v_2 _ _ _ hl hP hD hS hf
def f_X13_ends_K21 (r_1 : Int32) (y_11 : Int32) (z_12 : SV) : Option (Int32 × SV) :=
  some (r_1, z_12)
def f_X13_ends_B21 (r_1 : Int32) (selfL_9 : (Int32 → SV → Option (Int32 × SV))) (x_7 : Int32) (u_8 : SV) : Option (Int32 × SV) :=
  if 12 ≤ x_7 then
    f_X13_ends_K21 r_1 x_7 u_8
  else
    ckI (34 + x_7) 240 <|
    nm (pA u_8 0 (34 + x_7) 0) fun v_10 =>
    selfL_9 (x_7 + 1) v_10
def f_X13_ends (v0 : SV) : Option (Int32 × SV) :=
  bd2 (f_X13_grows v0) fun r_1 w_2 =>
  bd1 (f_X13_ages w_2) fun w_3 =>
  ckI 2 240 <|
  ckI 2 240 <|
  nm (pA w_3 0 2 ((w_3.2 0 (2 : Int32).toNatClampNeg) + 1)) fun v_4 =>
  lz2 (f_X13_ends_B21 r_1) FU 0 v_4
abbrev rm_X13_ends : Room := { frames := 4, cells := 0, slots := 0, locals := 88 }
set_option maxHeartbeats 4000000 in
set_option maxRecDepth 100000 in
theorem c_X13_ends (l : Launch) (D : va_G) (G : Nat → ClassId) (q0 : Nat → Nat) (v0 : SV) (r : Int32) (v0' : SV) (hf : f_X13_ends v0 = some (r, v0')) (sz : Nat) : mC l yX13_ends wsX13_ends rm_X13_ends D (tyG G) kT [.ref (q0 0)] (kModel G q0 v0) (kModel G q0 v0') sz (some (.int r)) 0 0 := by
  refine mC_ofI (cc := cX13_ends) (maxL := 3) (ret := (some .int)) (by decide) rfl rfl (Nat.le_of_ble_eq_true rfl) ?_
  intro p e s m args below meth c Q0 hx hb hml hts hown hN hK A hD hA hE hP hS hJ ls hl
  have hl : lv_has ls 3 [(0, .ref (q0 0))] := hl
  unfold f_X13_ends at hf
  have hi11 : ∀ w ∈ u_ws RX13 TX13 27, w ∈ wsX13_ends := by decide +kernel
  have hw1 := hts (.fieldLink RX13 7 "BalconyCensusModel" "now" "[I") (by decide +kernel)
  refine lv_aload_n hx hb dX13_ends_0 rfl (lv_at hl 0 rfl) ?_
  obtain ⟨r_1, w_2, hc, hf⟩ := bd2_of hf
  refine k_V (As := []) (rest := []) (ws1 := (kModel G q0 w_2)) ⟨hx, hb, hml, hown, hts⟩ (c_X13_grows l D G q0  v0 _ _ hc  _) (cwV 0 hts gX13_ends_X13_grows rfl rfl rfl (by decide +kernel) ⟨Nat.le_of_ble_eq_true rfl, Nat.le_of_ble_eq_true rfl⟩) hl.1 (Nat.le_of_ble_eq_true rfl) dX13_ends_1 ⟨Nat.le_of_ble_eq_true rfl, Nat.le_of_ble_eq_true rfl⟩ rfl kT_bl (fun _ _ _ => trivial) hN hK hP hD hS hA 0 11 rfl rfl rfl [0, 1, 2, 3, 4, 5, 6, 7, 8, 9, 10, 11] [] [0, 1, 2, 3, 4, 5, 6, 7, 8, 9, 10, 11] [0, 1, 2, 3] rfl rfl rfl ⟨by decide, by decide, by decide, by decide⟩ rfl (fun H locs hP hD hS => ?_)
  refine lv_istore_n (lv' := [(1, .int r_1), (0, .ref (q0 0))]) hx hb dX13_ends_4 rfl hl (by decide) rfl (fun ls hl => ?_)
  refine lv_aload_n hx hb dX13_ends_5 rfl (lv_at hl 1 rfl) ?_
  obtain ⟨w_3, hc, hf⟩ := bd1_of hf
  refine k_V (As := []) (rest := []) (ws1 := (kModel G q0 w_3)) ⟨hx, hb, hml, hown, hts⟩ (c_X13_ages l D G q0  w_2 _ hc  _) (cwV 0 hts gX13_ends_X13_ages rfl rfl rfl (by decide +kernel) ⟨Nat.le_of_ble_eq_true rfl, Nat.le_of_ble_eq_true rfl⟩) hl.1 (Nat.le_of_ble_eq_true rfl) dX13_ends_6 ⟨Nat.le_of_ble_eq_true rfl, Nat.le_of_ble_eq_true rfl⟩ rfl kT_bl (fun _ _ _ => trivial) hN hK hP hD hS hA 0 11 rfl rfl rfl [0, 1, 2, 3, 4, 5, 6, 7, 8, 9, 10, 11] [] [0, 1, 2, 3, 4, 5, 6, 7, 8, 9, 10, 11] [0, 1, 2, 3] rfl rfl rfl ⟨by decide, by decide, by decide, by decide⟩ rfl (fun H locs hP hD hS => ?_)
  refine lv_aload_n hx hb dX13_ends_9 rfl (lv_at hl 1 rfl) ?_
  refine va_get (D := D) (ci := 11) (v := .ref (q0 1)) (C := RX13) (T := TX13) (N := 27) hx hb hts hi11 hown hK hP 0 rfl rfl 0 (by decide) hw1 (fun _ h9 => h9) rfl dX13_ends_10 ?_
  refine lv_iconst (v := 2) hx hb dX13_ends_13 (by decide) ?_
  refine lv_dup2_11 hx hb dX13_ends_14 rfl rfl ?_
  obtain ⟨hin, hf⟩ := ckI_of hf
  refine va_iald (D := D) hx hb hK hP 1 0 rfl rfl hin dX13_ends_15 ?_
  refine lv_iconst (v := 1) hx hb dX13_ends_16 (by decide) ?_
  refine lv_iadd hx hb dX13_ends_17 ?_
  obtain ⟨hin, hf⟩ := ckI_of hf
  obtain ⟨v_4, ev_4, hf⟩ := nm_of hf
  refine va_iast (D := D) hx hb hK hP hD hS 1 0 rfl rfl hin dX13_ends_18 (fun H locs hP hD hS => ?_)
  have hP : va_P D vwCl (kModel G q0 v_4) H := by rw [ev_4]; exact hP
  have hD : va_D A (kModel G q0 v_4) := by rw [ev_4]; exact hD
  refine lv_iconst (v := 0) hx hb dX13_ends_19 (by decide) ?_
  refine lv_istore_n (lv' := [(2, .int 0), (1, .int r_1), (0, .ref (q0 0))]) hx hb dX13_ends_20 rfl hl (by decide) rfl (fun ls hl => ?_)
  have exL_9 : ∀ (y_11 : Int32) (z_12 : SV) (H : Heap) (locs : List Loc) (ls : Array Slot), lv_has ls 3 [(2, .int y_11), (1, .int r_1), (0, .ref (q0 0))] → va_P D vwCl (kModel G q0 z_12) H → va_D A (kModel G q0 z_12) → va_S A s.heap H locs → f_X13_ends_K21 r_1 y_11 z_12 = some (r, v0') → W p l e rm_X13_ends s m args below meth c H locs 0 0 Q0 (F0 m 43 ls []) := by
    intro y_11 z_12 H locs ls hl hP hD hS hf
    unfold f_X13_ends_K21 at hf
    refine lv_iload_n hx hb dX13_ends_43 rfl (lv_at hl 1 rfl) ?_
    obtain ⟨rfl, rfl⟩ := re2 hf
    exact hE hP hD hS dX13_ends_44
  have loL_9 : ∀ (n : Nat) (x_7 : Int32) (u_8 : SV) (H : Heap) (locs : List Loc) (ls : Array Slot), lv_has ls 3 [(2, .int x_7), (1, .int r_1), (0, .ref (q0 0))] → va_P D vwCl (kModel G q0 u_8) H → va_D A (kModel G q0 u_8) → va_S A s.heap H locs → lz2 (f_X13_ends_B21 r_1) n x_7 u_8 = some (r, v0') → W p l e rm_X13_ends s m args below meth c H locs 0 0 Q0 (F0 m 21 ls []) := by
    intro n
    induction n with
    | zero => intro x_7 u_8 H locs ls hl hP hD hS hf; cases hf
    | succ n ihL_9 =>
      intro x_7 u_8 H locs ls hl hP hD hS hf
      replace hf := lz2_s hf
      unfold f_X13_ends_B21 at hf
      refine lv_iload_n hx hb dX13_ends_21 rfl (lv_at hl 0 rfl) ?_
      refine lv_bipush (v := 12) hx hb dX13_ends_22 (by decide +kernel) ?_
      refine lv_icmp_ge (tgt := 43) hx hb dX13_ends_24 (by decide) (fun cc => ?_) (fun cc => ?_)
      · replace hf := ifT cc hf
        exact exL_9 x_7 u_8 _ _ _ (lv_sub hl [0, 1, 2] rfl) hP hD hS hf
      · replace hf := ifF cc hf
        refine lv_aload_n hx hb dX13_ends_27 rfl (lv_at hl 2 rfl) ?_
        refine va_get (D := D) (ci := 11) (v := .ref (q0 1)) (C := RX13) (T := TX13) (N := 27) hx hb hts hi11 hown hK hP 0 rfl rfl 0 (by decide) hw1 (fun _ h9 => h9) rfl dX13_ends_28 ?_
        refine lv_bipush (v := 34) hx hb dX13_ends_31 (by decide +kernel) ?_
        refine lv_iload_n hx hb dX13_ends_33 rfl (lv_at hl 0 rfl) ?_
        refine lv_iadd hx hb dX13_ends_34 ?_
        refine lv_iconst (v := 0) hx hb dX13_ends_35 (by decide) ?_
        obtain ⟨hin, hf⟩ := ckI_of hf
        obtain ⟨v_10, ev_10, hf⟩ := nm_of hf
        refine va_iast (D := D) hx hb hK hP hD hS 1 0 rfl rfl hin dX13_ends_36 (fun H locs hP hD hS => ?_)
        have hP : va_P D vwCl (kModel G q0 v_10) H := by rw [ev_10]; exact hP
        have hD : va_D A (kModel G q0 v_10) := by rw [ev_10]; exact hD
        refine lv_iinc (v := (x_7 + 1)) (lv' := [(2, .int (x_7 + 1)), (1, .int r_1), (0, .ref (q0 0))]) hx hb dX13_ends_37 hl (k := 0) rfl rfl (by decide) rfl (fun ls hl => ?_)
        refine lv_goto (tgt := 21) hx hb dX13_ends_40 (by decide) ?_
        exact ihL_9 (x_7 + 1) v_10 _ _ _ (lv_sub hl [0, 1, 2] rfl) hP hD hS hf
  exact loL_9 FU 0 v_4 _ _ _ hl hP hD hS hf
def f_X13_day (v0 : SV) : Option (Int32 × SV) :=
  bd1 (f_X13_begins v0) fun w_1 =>
  bd2 (f_X13_ends w_1) fun r_2 w_3 =>
  bd2 (f_X13_keeps r_2 w_3) fun r_4 w_5 =>
  some (r_4, w_5)
abbrev rm_X13_day : Room := { frames := 5, cells := 0, slots := 0, locals := 110 }
set_option maxHeartbeats 4000000 in
set_option maxRecDepth 100000 in
theorem c_X13_day (l : Launch) (D : va_G) (G : Nat → ClassId) (q0 : Nat → Nat) (v0 : SV) (r : Int32) (v0' : SV) (hf : f_X13_day v0 = some (r, v0')) (sz : Nat) : mC l yX13_day wsX13_day rm_X13_day D (tyG G) kT [.ref (q0 0)] (kModel G q0 v0) (kModel G q0 v0') sz (some (.int r)) 0 0 := by
  refine mC_ofI (cc := cX13_day) (maxL := 1) (ret := (some .int)) (by decide) rfl rfl (Nat.le_of_ble_eq_true rfl) ?_
  intro p e s m args below meth c Q0 hx hb hml hts hown hN hK A hD hA hE hP hS hJ ls hl
  have hl : lv_has ls 1 [(0, .ref (q0 0))] := hl
  unfold f_X13_day at hf
  refine lv_aload_n hx hb dX13_day_0 rfl (lv_at hl 0 rfl) ?_
  obtain ⟨w_1, hc, hf⟩ := bd1_of hf
  refine k_V (As := []) (rest := []) (ws1 := (kModel G q0 w_1)) ⟨hx, hb, hml, hown, hts⟩ (c_X13_begins l D G q0  v0 _ hc  _) (cwV 0 hts gX13_day_X13_begins rfl rfl rfl (by decide +kernel) ⟨Nat.le_of_ble_eq_true rfl, Nat.le_of_ble_eq_true rfl⟩) hl.1 (Nat.le_of_ble_eq_true rfl) dX13_day_1 ⟨Nat.le_of_ble_eq_true rfl, Nat.le_of_ble_eq_true rfl⟩ rfl kT_bl (fun _ _ _ => trivial) hN hK hP hD hS hA 0 11 rfl rfl rfl [0, 1, 2, 3, 4, 5, 6, 7, 8, 9, 10, 11] [] [0, 1, 2, 3, 4, 5, 6, 7, 8, 9, 10, 11] [0, 1, 2, 3] rfl rfl rfl ⟨by decide, by decide, by decide, by decide⟩ rfl (fun H locs hP hD hS => ?_)
  refine lv_aload_n hx hb dX13_day_4 rfl (lv_at hl 0 rfl) ?_
  refine lv_aload_n hx hb dX13_day_5 rfl (lv_at hl 0 rfl) ?_
  obtain ⟨r_2, w_3, hc, hf⟩ := bd2_of hf
  refine k_V (As := []) (rest := [.ref (q0 0)]) (ws1 := (kModel G q0 w_3)) ⟨hx, hb, hml, hown, hts⟩ (c_X13_ends l D G q0  w_1 _ _ hc  _) (cwV 0 hts gX13_day_X13_ends rfl rfl rfl (by decide +kernel) ⟨Nat.le_of_ble_eq_true rfl, Nat.le_of_ble_eq_true rfl⟩) hl.1 (Nat.le_of_ble_eq_true rfl) dX13_day_6 ⟨Nat.le_of_ble_eq_true rfl, Nat.le_of_ble_eq_true rfl⟩ rfl kT_bl (fun _ _ _ => trivial) hN hK hP hD hS hA 0 11 rfl rfl rfl [0, 1, 2, 3, 4, 5, 6, 7, 8, 9, 10, 11] [] [0, 1, 2, 3, 4, 5, 6, 7, 8, 9, 10, 11] [0, 1, 2, 3] rfl rfl rfl ⟨by decide, by decide, by decide, by decide⟩ rfl (fun H locs hP hD hS => ?_)
  obtain ⟨r_4, w_5, hc, hf⟩ := bd2_of hf
  refine k_V (As := [.int r_2]) (rest := []) (ws1 := (kModel G q0 w_5)) ⟨hx, hb, hml, hown, hts⟩ (c_X13_keeps l D G q0 r_2 w_3 _ _ hc  _) (cwV 1 hts gX13_day_X13_keeps rfl rfl rfl (by decide +kernel) ⟨Nat.le_of_ble_eq_true rfl, Nat.le_of_ble_eq_true rfl⟩) hl.1 (Nat.le_of_ble_eq_true rfl) dX13_day_9 ⟨Nat.le_of_ble_eq_true rfl, Nat.le_of_ble_eq_true rfl⟩ rfl kT_bl (fun _ _ _ => trivial) hN hK hP hD hS hA 0 11 rfl rfl rfl [0, 1, 2, 3, 4, 5, 6, 7, 8, 9, 10, 11] [] [0, 1, 2, 3, 4, 5, 6, 7, 8, 9, 10, 11] [0, 1, 2, 3] rfl rfl rfl ⟨by decide, by decide, by decide, by decide⟩ rfl (fun H locs hP hD hS => ?_)
  obtain ⟨rfl, rfl⟩ := re2 hf
  exact hE hP hD hS dX13_day_12
