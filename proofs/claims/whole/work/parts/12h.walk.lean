/-! Walks, laid by wip/whole/gen.py: for each method f_ (what it does to its world) and c_ (its contract). -/
def f_X13_excessOf_K4 (y_13 : Int32) (y_14 : Int32) : Option Int32 :=
  some y_14
def f_X13_excessOf_B4 (a1 : Int32) (v0 : SV) (selfL_8 : (Int32 → Int32 → Option Int32)) (x_6 : Int32) (x_7 : Int32) : Option Int32 :=
  if 12 ≤ x_6 then
    f_X13_excessOf_K4 x_6 x_7
  else
    bd1 (f_X13_isTooMany a1 x_6 v0) fun r_9 =>
    if r_9 = 0 then
      selfL_8 (x_6 + 1) x_7
    else
      bd1 (f_X13_plants a1 v0) fun r_10 =>
      ckI (22 + x_6) 240 <|
      if (r_10 - (v0.2 0 (22 + x_6).toNatClampNeg)) ≤ x_7 then
        selfL_8 (x_6 + 1) x_7
      else
        bd1 (f_X13_plants a1 v0) fun r_11 =>
        ckI (22 + x_6) 240 <|
        nm (r_11 - (v0.2 0 (22 + x_6).toNatClampNeg)) fun t_12 =>
        selfL_8 (x_6 + 1) t_12
def f_X13_excessOf (a1 : Int32) (v0 : SV) : Option Int32 :=
  lz2 (f_X13_excessOf_B4 a1 v0) FU 0 0
abbrev rm_X13_excessOf : Room := { frames := 3, cells := 0, slots := 0, locals := 67 }
set_option maxHeartbeats 4000000 in
set_option maxRecDepth 100000 in
theorem c_X13_excessOf (l : Launch) (D : va_G) (G : Nat → ClassId) (q0 : Nat → Nat) (a1 : Int32) (v0 : SV) (r : Int32) (hf : f_X13_excessOf a1 v0 = some r) (sz : Nat) : mC l yX13_excessOf wsX13_excessOf rm_X13_excessOf D (tyG G) kT [.ref (q0 0), .int a1] (kModel G q0 v0) (kModel G q0 v0) sz (some (.int r)) 0 0 := by
  refine mC_ofI (cc := cX13_excessOf) (maxL := 4) (ret := (some .int)) (by decide) rfl rfl (Nat.le_of_ble_eq_true rfl) ?_
  intro p e s m args below meth c Q0 hx hb hml hts hown hN hK A hD hA hE hP hS hJ ls hl
  have hl : lv_has ls 4 [(0, .ref (q0 0)), (1, .int a1)] := hl
  unfold f_X13_excessOf at hf
  have hi11 : ∀ w ∈ u_ws RX13 TX13 27, w ∈ wsX13_excessOf := by decide +kernel
  have hw1 := hts (.fieldLink RX13 7 "BalconyCensusModel" "now" "[I") (by decide +kernel)
  refine lv_iconst (v := 0) hx hb dX13_excessOf_0 (by decide) ?_
  refine lv_istore_n (lv' := [(2, .int 0), (0, .ref (q0 0)), (1, .int a1)]) hx hb dX13_excessOf_1 rfl hl (by decide) rfl (fun ls hl => ?_)
  refine lv_iconst (v := 0) hx hb dX13_excessOf_2 (by decide) ?_
  refine lv_istore_n (lv' := [(3, .int 0), (2, .int 0), (0, .ref (q0 0)), (1, .int a1)]) hx hb dX13_excessOf_3 rfl hl (by decide) rfl (fun ls hl => ?_)
  have exL_8 : ∀ (y_13 : Int32) (y_14 : Int32) (H : Heap) (locs : List Loc) (ls : Array Slot), lv_has ls 4 [(3, .int y_13), (2, .int y_14), (0, .ref (q0 0)), (1, .int a1)] → va_P D vwCl (kModel G q0 v0) H → va_D A (kModel G q0 v0) → va_S A s.heap H locs → f_X13_excessOf_K4 y_13 y_14 = some r → W p l e rm_X13_excessOf s m args below meth c H locs 0 0 Q0 (F0 m 60 ls []) := by
    intro y_13 y_14 H locs ls hl hP hD hS hf
    unfold f_X13_excessOf_K4 at hf
    refine lv_iload_n hx hb dX13_excessOf_60 rfl (lv_at hl 1 rfl) ?_
    obtain rfl := re1 hf
    exact hE hP hD hS dX13_excessOf_61
  have loL_8 : ∀ (n : Nat) (x_6 : Int32) (x_7 : Int32) (H : Heap) (locs : List Loc) (ls : Array Slot), lv_has ls 4 [(3, .int x_6), (2, .int x_7), (0, .ref (q0 0)), (1, .int a1)] → va_P D vwCl (kModel G q0 v0) H → va_D A (kModel G q0 v0) → va_S A s.heap H locs → lz2 (f_X13_excessOf_B4 a1 v0) n x_6 x_7 = some r → W p l e rm_X13_excessOf s m args below meth c H locs 0 0 Q0 (F0 m 4 ls []) := by
    intro n
    induction n with
    | zero => intro x_6 x_7 H locs ls hl hP hD hS hf; cases hf
    | succ n ihL_8 =>
      intro x_6 x_7 H locs ls hl hP hD hS hf
      replace hf := lz2_s hf
      unfold f_X13_excessOf_B4 at hf
      refine lv_iload_n hx hb dX13_excessOf_4 rfl (lv_at hl 0 rfl) ?_
      refine lv_bipush (v := 12) hx hb dX13_excessOf_5 (by decide +kernel) ?_
      refine lv_icmp_ge (tgt := 60) hx hb dX13_excessOf_7 (by decide) (fun cc => ?_) (fun cc => ?_)
      · replace hf := ifT cc hf
        exact exL_8 x_6 x_7 _ _ _ (lv_sub hl [0, 1, 2, 3] rfl) hP hD hS hf
      · replace hf := ifF cc hf
        refine lv_aload_n hx hb dX13_excessOf_10 rfl (lv_at hl 2 rfl) ?_
        refine lv_iload_n hx hb dX13_excessOf_11 rfl (lv_at hl 3 rfl) ?_
        refine lv_iload_n hx hb dX13_excessOf_12 rfl (lv_at hl 0 rfl) ?_
        obtain ⟨r_9, hc, hf⟩ := bd1_of hf
        refine k_V (As := [.int a1, .int x_6]) (rest := []) (ws1 := (kModel G q0 v0)) ⟨hx, hb, hml, hown, hts⟩ (c_X13_isTooMany l D G q0 a1 x_6 v0 _ hc  _) (cwV 2 hts gX13_excessOf_X13_isTooMany rfl rfl rfl (by decide +kernel) ⟨Nat.le_of_ble_eq_true rfl, Nat.le_of_ble_eq_true rfl⟩) hl.1 (Nat.le_of_ble_eq_true rfl) dX13_excessOf_13 ⟨Nat.le_of_ble_eq_true rfl, Nat.le_of_ble_eq_true rfl⟩ rfl kT_bl (fun _ _ _ => trivial) hN hK hP hD hS hA 0 11 rfl rfl rfl [0, 1, 2, 3, 4, 5, 6, 7, 8, 9, 10, 11] [] [0, 1, 2, 3, 4, 5, 6, 7, 8, 9, 10, 11] [0, 1, 2, 3] rfl rfl rfl ⟨by decide, by decide, by decide, by decide⟩ rfl (fun H locs hP hD hS => ?_)
        refine lv_if_eq (tgt := 54) hx hb dX13_excessOf_16 (by decide) (fun cc => ?_) (fun cc => ?_)
        · replace hf := ifT cc hf
          refine lv_iinc (v := (x_6 + 1)) (lv' := [(3, .int (x_6 + 1)), (2, .int x_7), (0, .ref (q0 0)), (1, .int a1)]) hx hb dX13_excessOf_54 hl (k := 0) rfl rfl (by decide) rfl (fun ls hl => ?_)
          refine lv_goto (tgt := 4) hx hb dX13_excessOf_57 (by decide) ?_
          exact ihL_8 (x_6 + 1) x_7 _ _ _ (lv_sub hl [0, 1, 2, 3] rfl) hP hD hS hf
        · replace hf := ifF cc hf
          refine lv_aload_n hx hb dX13_excessOf_19 rfl (lv_at hl 2 rfl) ?_
          refine lv_iload_n hx hb dX13_excessOf_20 rfl (lv_at hl 3 rfl) ?_
          obtain ⟨r_10, hc, hf⟩ := bd1_of hf
          refine k_V (As := [.int a1]) (rest := []) (ws1 := (kModel G q0 v0)) ⟨hx, hb, hml, hown, hts⟩ (c_X13_plants l D G q0 a1 v0 _ hc  _) (cwV 1 hts gX13_excessOf_X13_plants rfl rfl rfl (by decide +kernel) ⟨Nat.le_of_ble_eq_true rfl, Nat.le_of_ble_eq_true rfl⟩) hl.1 (Nat.le_of_ble_eq_true rfl) dX13_excessOf_21 ⟨Nat.le_of_ble_eq_true rfl, Nat.le_of_ble_eq_true rfl⟩ rfl kT_bl (fun _ _ _ => trivial) hN hK hP hD hS hA 0 11 rfl rfl rfl [0, 1, 2, 3, 4, 5, 6, 7, 8, 9, 10, 11] [] [0, 1, 2, 3, 4, 5, 6, 7, 8, 9, 10, 11] [0, 1, 2, 3] rfl rfl rfl ⟨by decide, by decide, by decide, by decide⟩ rfl (fun H locs hP hD hS => ?_)
          refine lv_aload_n hx hb dX13_excessOf_24 rfl (lv_at hl 2 rfl) ?_
          refine va_get (D := D) (ci := 11) (v := .ref (q0 1)) (C := RX13) (T := TX13) (N := 27) hx hb hts hi11 hown hK hP 0 rfl rfl 0 (by decide) hw1 (fun _ h9 => h9) rfl dX13_excessOf_25 ?_
          refine lv_bipush (v := 22) hx hb dX13_excessOf_28 (by decide +kernel) ?_
          refine lv_iload_n hx hb dX13_excessOf_30 rfl (lv_at hl 0 rfl) ?_
          refine lv_iadd hx hb dX13_excessOf_31 ?_
          obtain ⟨hin, hf⟩ := ckI_of hf
          refine va_iald (D := D) hx hb hK hP 1 0 rfl rfl hin dX13_excessOf_32 ?_
          refine lv_isub hx hb dX13_excessOf_33 ?_
          refine lv_iload_n hx hb dX13_excessOf_34 rfl (lv_at hl 1 rfl) ?_
          refine lv_icmp_le (tgt := 54) hx hb dX13_excessOf_35 (by decide) (fun cc => ?_) (fun cc => ?_)
          · replace hf := ifT cc hf
            refine lv_iinc (v := (x_6 + 1)) (lv' := [(3, .int (x_6 + 1)), (2, .int x_7), (0, .ref (q0 0)), (1, .int a1)]) hx hb dX13_excessOf_54 hl (k := 0) rfl rfl (by decide) rfl (fun ls hl => ?_)
            refine lv_goto (tgt := 4) hx hb dX13_excessOf_57 (by decide) ?_
            exact ihL_8 (x_6 + 1) x_7 _ _ _ (lv_sub hl [0, 1, 2, 3] rfl) hP hD hS hf
          · replace hf := ifF cc hf
            refine lv_aload_n hx hb dX13_excessOf_38 rfl (lv_at hl 2 rfl) ?_
            refine lv_iload_n hx hb dX13_excessOf_39 rfl (lv_at hl 3 rfl) ?_
            obtain ⟨r_11, hc, hf⟩ := bd1_of hf
            refine k_V (As := [.int a1]) (rest := []) (ws1 := (kModel G q0 v0)) ⟨hx, hb, hml, hown, hts⟩ (c_X13_plants l D G q0 a1 v0 _ hc  _) (cwV 1 hts gX13_excessOf_X13_plants rfl rfl rfl (by decide +kernel) ⟨Nat.le_of_ble_eq_true rfl, Nat.le_of_ble_eq_true rfl⟩) hl.1 (Nat.le_of_ble_eq_true rfl) dX13_excessOf_40 ⟨Nat.le_of_ble_eq_true rfl, Nat.le_of_ble_eq_true rfl⟩ rfl kT_bl (fun _ _ _ => trivial) hN hK hP hD hS hA 0 11 rfl rfl rfl [0, 1, 2, 3, 4, 5, 6, 7, 8, 9, 10, 11] [] [0, 1, 2, 3, 4, 5, 6, 7, 8, 9, 10, 11] [0, 1, 2, 3] rfl rfl rfl ⟨by decide, by decide, by decide, by decide⟩ rfl (fun H locs hP hD hS => ?_)
            refine lv_aload_n hx hb dX13_excessOf_43 rfl (lv_at hl 2 rfl) ?_
            refine va_get (D := D) (ci := 11) (v := .ref (q0 1)) (C := RX13) (T := TX13) (N := 27) hx hb hts hi11 hown hK hP 0 rfl rfl 0 (by decide) hw1 (fun _ h9 => h9) rfl dX13_excessOf_44 ?_
            refine lv_bipush (v := 22) hx hb dX13_excessOf_47 (by decide +kernel) ?_
            refine lv_iload_n hx hb dX13_excessOf_49 rfl (lv_at hl 0 rfl) ?_
            refine lv_iadd hx hb dX13_excessOf_50 ?_
            obtain ⟨hin, hf⟩ := ckI_of hf
            refine va_iald (D := D) hx hb hK hP 1 0 rfl rfl hin dX13_excessOf_51 ?_
            refine lv_isub hx hb dX13_excessOf_52 ?_
            obtain ⟨t_12, et_12, hf⟩ := nm_of hf
            rw [← et_12]
            refine lv_istore_n (lv' := [(2, .int t_12), (3, .int x_6), (0, .ref (q0 0)), (1, .int a1)]) hx hb dX13_excessOf_53 rfl hl (by decide) rfl (fun ls hl => ?_)
            refine lv_iinc (v := (x_6 + 1)) (lv' := [(3, .int (x_6 + 1)), (2, .int t_12), (0, .ref (q0 0)), (1, .int a1)]) hx hb dX13_excessOf_54 hl (k := 1) rfl rfl (by decide) rfl (fun ls hl => ?_)
            refine lv_goto (tgt := 4) hx hb dX13_excessOf_57 (by decide) ?_
            exact ihL_8 (x_6 + 1) t_12 _ _ _ (lv_sub hl [0, 1, 2, 3] rfl) hP hD hS hf
  exact loL_8 FU 0 0 _ _ _ hl hP hD hS hf
def f_X13_allExcess_K4 (y_7 : Int32) (y_8 : Int32) : Option Int32 :=
  some y_8
def f_X13_allExcess_B4 (v0 : SV) (selfL_5 : (Int32 → Int32 → Option Int32)) (x_3 : Int32) (x_4 : Int32) : Option Int32 :=
  if 12 ≤ x_3 then
    f_X13_allExcess_K4 x_3 x_4
  else
    bd1 (f_X13_excessOf x_3 v0) fun r_6 =>
    selfL_5 (x_3 + 1) (x_4 + r_6)
def f_X13_allExcess (v0 : SV) : Option Int32 :=
  lz2 (f_X13_allExcess_B4 v0) FU 0 0
abbrev rm_X13_allExcess : Room := { frames := 4, cells := 0, slots := 0, locals := 90 }
set_option maxHeartbeats 4000000 in
set_option maxRecDepth 100000 in
theorem c_X13_allExcess (l : Launch) (D : va_G) (G : Nat → ClassId) (q0 : Nat → Nat) (v0 : SV) (r : Int32) (hf : f_X13_allExcess v0 = some r) (sz : Nat) : mC l yX13_allExcess wsX13_allExcess rm_X13_allExcess D (tyG G) kT [.ref (q0 0)] (kModel G q0 v0) (kModel G q0 v0) sz (some (.int r)) 0 0 := by
  refine mC_ofI (cc := cX13_allExcess) (maxL := 3) (ret := (some .int)) (by decide) rfl rfl (Nat.le_of_ble_eq_true rfl) ?_
  intro p e s m args below meth c Q0 hx hb hml hts hown hN hK A hD hA hE hP hS hJ ls hl
  have hl : lv_has ls 3 [(0, .ref (q0 0))] := hl
  unfold f_X13_allExcess at hf
  refine lv_iconst (v := 0) hx hb dX13_allExcess_0 (by decide) ?_
  refine lv_istore_n (lv' := [(1, .int 0), (0, .ref (q0 0))]) hx hb dX13_allExcess_1 rfl hl (by decide) rfl (fun ls hl => ?_)
  refine lv_iconst (v := 0) hx hb dX13_allExcess_2 (by decide) ?_
  refine lv_istore_n (lv' := [(2, .int 0), (1, .int 0), (0, .ref (q0 0))]) hx hb dX13_allExcess_3 rfl hl (by decide) rfl (fun ls hl => ?_)
  have exL_5 : ∀ (y_7 : Int32) (y_8 : Int32) (H : Heap) (locs : List Loc) (ls : Array Slot), lv_has ls 3 [(2, .int y_7), (1, .int y_8), (0, .ref (q0 0))] → va_P D vwCl (kModel G q0 v0) H → va_D A (kModel G q0 v0) → va_S A s.heap H locs → f_X13_allExcess_K4 y_7 y_8 = some r → W p l e rm_X13_allExcess s m args below meth c H locs 0 0 Q0 (F0 m 24 ls []) := by
    intro y_7 y_8 H locs ls hl hP hD hS hf
    unfold f_X13_allExcess_K4 at hf
    refine lv_iload_n hx hb dX13_allExcess_24 rfl (lv_at hl 1 rfl) ?_
    obtain rfl := re1 hf
    exact hE hP hD hS dX13_allExcess_25
  have loL_5 : ∀ (n : Nat) (x_3 : Int32) (x_4 : Int32) (H : Heap) (locs : List Loc) (ls : Array Slot), lv_has ls 3 [(2, .int x_3), (1, .int x_4), (0, .ref (q0 0))] → va_P D vwCl (kModel G q0 v0) H → va_D A (kModel G q0 v0) → va_S A s.heap H locs → lz2 (f_X13_allExcess_B4 v0) n x_3 x_4 = some r → W p l e rm_X13_allExcess s m args below meth c H locs 0 0 Q0 (F0 m 4 ls []) := by
    intro n
    induction n with
    | zero => intro x_3 x_4 H locs ls hl hP hD hS hf; cases hf
    | succ n ihL_5 =>
      intro x_3 x_4 H locs ls hl hP hD hS hf
      replace hf := lz2_s hf
      unfold f_X13_allExcess_B4 at hf
      refine lv_iload_n hx hb dX13_allExcess_4 rfl (lv_at hl 0 rfl) ?_
      refine lv_bipush (v := 12) hx hb dX13_allExcess_5 (by decide +kernel) ?_
      refine lv_icmp_ge (tgt := 24) hx hb dX13_allExcess_7 (by decide) (fun cc => ?_) (fun cc => ?_)
      · replace hf := ifT cc hf
        exact exL_5 x_3 x_4 _ _ _ (lv_sub hl [0, 1, 2] rfl) hP hD hS hf
      · replace hf := ifF cc hf
        refine lv_iload_n hx hb dX13_allExcess_10 rfl (lv_at hl 1 rfl) ?_
        refine lv_aload_n hx hb dX13_allExcess_11 rfl (lv_at hl 2 rfl) ?_
        refine lv_iload_n hx hb dX13_allExcess_12 rfl (lv_at hl 0 rfl) ?_
        obtain ⟨r_6, hc, hf⟩ := bd1_of hf
        refine k_V (As := [.int x_3]) (rest := [.int x_4]) (ws1 := (kModel G q0 v0)) ⟨hx, hb, hml, hown, hts⟩ (c_X13_excessOf l D G q0 x_3 v0 _ hc  _) (cwV 1 hts gX13_allExcess_X13_excessOf rfl rfl rfl (by decide +kernel) ⟨Nat.le_of_ble_eq_true rfl, Nat.le_of_ble_eq_true rfl⟩) hl.1 (Nat.le_of_ble_eq_true rfl) dX13_allExcess_13 ⟨Nat.le_of_ble_eq_true rfl, Nat.le_of_ble_eq_true rfl⟩ rfl kT_bl (fun _ _ _ => trivial) hN hK hP hD hS hA 0 11 rfl rfl rfl [0, 1, 2, 3, 4, 5, 6, 7, 8, 9, 10, 11] [] [0, 1, 2, 3, 4, 5, 6, 7, 8, 9, 10, 11] [0, 1, 2, 3] rfl rfl rfl ⟨by decide, by decide, by decide, by decide⟩ rfl (fun H locs hP hD hS => ?_)
        refine lv_iadd hx hb dX13_allExcess_16 ?_
        refine lv_istore_n (lv' := [(1, .int (x_4 + r_6)), (2, .int x_3), (0, .ref (q0 0))]) hx hb dX13_allExcess_17 rfl hl (by decide) rfl (fun ls hl => ?_)
        refine lv_iinc (v := (x_3 + 1)) (lv' := [(2, .int (x_3 + 1)), (1, .int (x_4 + r_6)), (0, .ref (q0 0))]) hx hb dX13_allExcess_18 hl (k := 1) rfl rfl (by decide) rfl (fun ls hl => ?_)
        refine lv_goto (tgt := 4) hx hb dX13_allExcess_21 (by decide) ?_
        exact ihL_5 (x_3 + 1) (x_4 + r_6) _ _ _ (lv_sub hl [0, 1, 2] rfl) hP hD hS hf
  exact loL_5 FU 0 0 _ _ _ hl hP hD hS hf
def f_X13_excess (v0 : SV) : Option Int32 :=
  bd1 (f_X13_allExcess v0) fun r_1 =>
  some r_1
abbrev rm_X13_excess : Room := { frames := 5, cells := 0, slots := 0, locals := 112 }
set_option maxHeartbeats 4000000 in
set_option maxRecDepth 100000 in
theorem c_X13_excess (l : Launch) (D : va_G) (G : Nat → ClassId) (q0 : Nat → Nat) (v0 : SV) (r : Int32) (hf : f_X13_excess v0 = some r) (sz : Nat) : mC l yX13_excess wsX13_excess rm_X13_excess D (tyG G) kT [.ref (q0 0)] (kModel G q0 v0) (kModel G q0 v0) sz (some (.int r)) 0 0 := by
  refine mC_ofI (cc := cX13_excess) (maxL := 1) (ret := (some .int)) (by decide) rfl rfl (Nat.le_of_ble_eq_true rfl) ?_
  intro p e s m args below meth c Q0 hx hb hml hts hown hN hK A hD hA hE hP hS hJ ls hl
  have hl : lv_has ls 1 [(0, .ref (q0 0))] := hl
  unfold f_X13_excess at hf
  refine lv_aload_n hx hb dX13_excess_0 rfl (lv_at hl 0 rfl) ?_
  obtain ⟨r_1, hc, hf⟩ := bd1_of hf
  refine k_V (As := []) (rest := []) (ws1 := (kModel G q0 v0)) ⟨hx, hb, hml, hown, hts⟩ (c_X13_allExcess l D G q0  v0 _ hc  _) (cwV 0 hts gX13_excess_X13_allExcess rfl rfl rfl (by decide +kernel) ⟨Nat.le_of_ble_eq_true rfl, Nat.le_of_ble_eq_true rfl⟩) hl.1 (Nat.le_of_ble_eq_true rfl) dX13_excess_1 ⟨Nat.le_of_ble_eq_true rfl, Nat.le_of_ble_eq_true rfl⟩ rfl kT_bl (fun _ _ _ => trivial) hN hK hP hD hS hA 0 11 rfl rfl rfl [0, 1, 2, 3, 4, 5, 6, 7, 8, 9, 10, 11] [] [0, 1, 2, 3, 4, 5, 6, 7, 8, 9, 10, 11] [0, 1, 2, 3] rfl rfl rfl ⟨by decide, by decide, by decide, by decide⟩ rfl (fun H locs hP hD hS => ?_)
  obtain rfl := re1 hf
  exact hE hP hD hS dX13_excess_4
def f_X13_excessAgain (v0 : SV) : Option Int32 :=
  bd1 (f_X13_allExcess v0) fun r_1 =>
  some r_1
abbrev rm_X13_excessAgain : Room := { frames := 5, cells := 0, slots := 0, locals := 112 }
set_option maxHeartbeats 4000000 in
set_option maxRecDepth 100000 in
theorem c_X13_excessAgain (l : Launch) (D : va_G) (G : Nat → ClassId) (q0 : Nat → Nat) (v0 : SV) (r : Int32) (hf : f_X13_excessAgain v0 = some r) (sz : Nat) : mC l yX13_excessAgain wsX13_excessAgain rm_X13_excessAgain D (tyG G) kT [.ref (q0 0)] (kModel G q0 v0) (kModel G q0 v0) sz (some (.int r)) 0 0 := by
  refine mC_ofI (cc := cX13_excessAgain) (maxL := 1) (ret := (some .int)) (by decide) rfl rfl (Nat.le_of_ble_eq_true rfl) ?_
  intro p e s m args below meth c Q0 hx hb hml hts hown hN hK A hD hA hE hP hS hJ ls hl
  have hl : lv_has ls 1 [(0, .ref (q0 0))] := hl
  unfold f_X13_excessAgain at hf
  refine lv_aload_n hx hb dX13_excessAgain_0 rfl (lv_at hl 0 rfl) ?_
  obtain ⟨r_1, hc, hf⟩ := bd1_of hf
  refine k_V (As := []) (rest := []) (ws1 := (kModel G q0 v0)) ⟨hx, hb, hml, hown, hts⟩ (c_X13_allExcess l D G q0  v0 _ hc  _) (cwV 0 hts gX13_excessAgain_X13_allExcess rfl rfl rfl (by decide +kernel) ⟨Nat.le_of_ble_eq_true rfl, Nat.le_of_ble_eq_true rfl⟩) hl.1 (Nat.le_of_ble_eq_true rfl) dX13_excessAgain_1 ⟨Nat.le_of_ble_eq_true rfl, Nat.le_of_ble_eq_true rfl⟩ rfl kT_bl (fun _ _ _ => trivial) hN hK hP hD hS hA 0 11 rfl rfl rfl [0, 1, 2, 3, 4, 5, 6, 7, 8, 9, 10, 11] [] [0, 1, 2, 3, 4, 5, 6, 7, 8, 9, 10, 11] [0, 1, 2, 3] rfl rfl rfl ⟨by decide, by decide, by decide, by decide⟩ rfl (fun H locs hP hD hS => ?_)
  obtain rfl := re1 hf
  exact hE hP hD hS dX13_excessAgain_4
def f_X13_census (v0 : SV) : Option Int32 :=
  bd1 (f_X13_allGreetings v0) fun r_1 =>
  some r_1
abbrev rm_X13_census : Room := { frames := 3, cells := 0, slots := 0, locals := 67 }
set_option maxHeartbeats 4000000 in
set_option maxRecDepth 100000 in
theorem c_X13_census (l : Launch) (D : va_G) (G : Nat → ClassId) (q0 : Nat → Nat) (v0 : SV) (r : Int32) (hf : f_X13_census v0 = some r) (sz : Nat) : mC l yX13_census wsX13_census rm_X13_census D (tyG G) kT [.ref (q0 0)] (kModel G q0 v0) (kModel G q0 v0) sz (some (.int r)) 0 0 := by
  refine mC_ofI (cc := cX13_census) (maxL := 1) (ret := (some .int)) (by decide) rfl rfl (Nat.le_of_ble_eq_true rfl) ?_
  intro p e s m args below meth c Q0 hx hb hml hts hown hN hK A hD hA hE hP hS hJ ls hl
  have hl : lv_has ls 1 [(0, .ref (q0 0))] := hl
  unfold f_X13_census at hf
  refine lv_aload_n hx hb dX13_census_0 rfl (lv_at hl 0 rfl) ?_
  obtain ⟨r_1, hc, hf⟩ := bd1_of hf
  refine k_V (As := []) (rest := []) (ws1 := (kModel G q0 v0)) ⟨hx, hb, hml, hown, hts⟩ (c_X13_allGreetings l D G q0  v0 _ hc  _) (cwV 0 hts gX13_census_X13_allGreetings rfl rfl rfl (by decide +kernel) ⟨Nat.le_of_ble_eq_true rfl, Nat.le_of_ble_eq_true rfl⟩) hl.1 (Nat.le_of_ble_eq_true rfl) dX13_census_1 ⟨Nat.le_of_ble_eq_true rfl, Nat.le_of_ble_eq_true rfl⟩ rfl kT_bl (fun _ _ _ => trivial) hN hK hP hD hS hA 0 11 rfl rfl rfl [0, 1, 2, 3, 4, 5, 6, 7, 8, 9, 10, 11] [] [0, 1, 2, 3, 4, 5, 6, 7, 8, 9, 10, 11] [0, 1, 2, 3] rfl rfl rfl ⟨by decide, by decide, by decide, by decide⟩ rfl (fun H locs hP hD hS => ?_)
  obtain rfl := re1 hf
  exact hE hP hD hS dX13_census_4
def f_X13_censusAgain (v0 : SV) : Option Int32 :=
  bd1 (f_X13_allGreetings v0) fun r_1 =>
  some r_1
abbrev rm_X13_censusAgain : Room := { frames := 3, cells := 0, slots := 0, locals := 67 }
set_option maxHeartbeats 4000000 in
set_option maxRecDepth 100000 in
theorem c_X13_censusAgain (l : Launch) (D : va_G) (G : Nat → ClassId) (q0 : Nat → Nat) (v0 : SV) (r : Int32) (hf : f_X13_censusAgain v0 = some r) (sz : Nat) : mC l yX13_censusAgain wsX13_censusAgain rm_X13_censusAgain D (tyG G) kT [.ref (q0 0)] (kModel G q0 v0) (kModel G q0 v0) sz (some (.int r)) 0 0 := by
  refine mC_ofI (cc := cX13_censusAgain) (maxL := 1) (ret := (some .int)) (by decide) rfl rfl (Nat.le_of_ble_eq_true rfl) ?_
  intro p e s m args below meth c Q0 hx hb hml hts hown hN hK A hD hA hE hP hS hJ ls hl
  have hl : lv_has ls 1 [(0, .ref (q0 0))] := hl
  unfold f_X13_censusAgain at hf
  refine lv_aload_n hx hb dX13_censusAgain_0 rfl (lv_at hl 0 rfl) ?_
  obtain ⟨r_1, hc, hf⟩ := bd1_of hf
  refine k_V (As := []) (rest := []) (ws1 := (kModel G q0 v0)) ⟨hx, hb, hml, hown, hts⟩ (c_X13_allGreetings l D G q0  v0 _ hc  _) (cwV 0 hts gX13_censusAgain_X13_allGreetings rfl rfl rfl (by decide +kernel) ⟨Nat.le_of_ble_eq_true rfl, Nat.le_of_ble_eq_true rfl⟩) hl.1 (Nat.le_of_ble_eq_true rfl) dX13_censusAgain_1 ⟨Nat.le_of_ble_eq_true rfl, Nat.le_of_ble_eq_true rfl⟩ rfl kT_bl (fun _ _ _ => trivial) hN hK hP hD hS hA 0 11 rfl rfl rfl [0, 1, 2, 3, 4, 5, 6, 7, 8, 9, 10, 11] [] [0, 1, 2, 3, 4, 5, 6, 7, 8, 9, 10, 11] [0, 1, 2, 3] rfl rfl rfl ⟨by decide, by decide, by decide, by decide⟩ rfl (fun H locs hP hD hS => ?_)
  obtain rfl := re1 hf
  exact hE hP hD hS dX13_censusAgain_4
def f_X13_steps (a1 : Int32) (a2 : Int32) (v0 : SV) : Option (Int32 × SV) :=
  bd1 (f_X13_areTwo a1 a2) fun r_1 =>
  if r_1 = 0 then
    some ((-1), v0)
  else
    bd2 (f_X13_fewest a1 a2 v0) fun r_2 w_3 =>
    some (r_2, w_3)
abbrev rm_X13_steps : Room := { frames := 7, cells := 0, slots := 0, locals := 157 }
set_option maxHeartbeats 4000000 in
set_option maxRecDepth 100000 in
theorem c_X13_steps (l : Launch) (D : va_G) (G : Nat → ClassId) (q0 : Nat → Nat) (a1 : Int32) (a2 : Int32) (v0 : SV) (r : Int32) (v0' : SV) (hf : f_X13_steps a1 a2 v0 = some (r, v0')) (sz : Nat) : mC l yX13_steps wsX13_steps rm_X13_steps D (tyG G) kT [.ref (q0 0), .int a1, .int a2] (kModel G q0 v0) (kModel G q0 v0') sz (some (.int r)) 0 0 := by
  refine mC_ofI (cc := cX13_steps) (maxL := 3) (ret := (some .int)) (by decide) rfl rfl (Nat.le_of_ble_eq_true rfl) ?_
  intro p e s m args below meth c Q0 hx hb hml hts hown hN hK A hD hA hE hP hS hJ ls hl
  have hl : lv_has ls 3 [(0, .ref (q0 0)), (1, .int a1), (2, .int a2)] := hl
  unfold f_X13_steps at hf
  refine lv_iload_n hx hb dX13_steps_0 rfl (lv_at hl 1 rfl) ?_
  refine lv_iload_n hx hb dX13_steps_1 rfl (lv_at hl 2 rfl) ?_
  obtain ⟨r_1, hc, hf⟩ := bd1_of hf
  refine k_S (As := [.int a1, .int a2]) (rest := []) (ws1 := (kModel G q0 v0)) ⟨hx, hb, hml, hown, hts⟩ (c_X13_areTwo l D G  a1 a2  _ hc  _) (va_cwS 2 hts gX13_steps_X13_areTwo rfl rfl rfl (by decide +kernel) ⟨Nat.le_of_ble_eq_true rfl, Nat.le_of_ble_eq_true rfl⟩) hl.1 (Nat.le_of_ble_eq_true rfl) dX13_steps_2 ⟨Nat.le_of_ble_eq_true rfl, Nat.le_of_ble_eq_true rfl⟩ rfl kT_bl (fun _ _ _ => trivial) hN hK hP hD hS hA [] [0, 1, 2, 3, 4, 5, 6, 7, 8, 9, 10, 11] [0, 1, 2, 3, 4, 5, 6, 7, 8, 9, 10, 11] [0, 1, 2, 3] rfl rfl rfl ⟨by decide, by decide, by decide, by decide⟩ rfl (fun H locs hP hD hS => ?_)
  refine lv_if_eq (tgt := 17) hx hb dX13_steps_5 (by decide) (fun cc => ?_) (fun cc => ?_)
  · replace hf := ifT cc hf
    refine lv_iconst (v := (-1)) hx hb dX13_steps_17 (by decide) ?_
    obtain ⟨rfl, rfl⟩ := re2 hf
    exact hE hP hD hS dX13_steps_18
  · replace hf := ifF cc hf
    refine lv_aload_n hx hb dX13_steps_8 rfl (lv_at hl 0 rfl) ?_
    refine lv_iload_n hx hb dX13_steps_9 rfl (lv_at hl 1 rfl) ?_
    refine lv_iload_n hx hb dX13_steps_10 rfl (lv_at hl 2 rfl) ?_
    obtain ⟨r_2, w_3, hc, hf⟩ := bd2_of hf
    refine k_V (As := [.int a1, .int a2]) (rest := []) (ws1 := (kModel G q0 w_3)) ⟨hx, hb, hml, hown, hts⟩ (c_X13_fewest l D G q0 a1 a2 v0 _ _ hc  _) (cwV 2 hts gX13_steps_X13_fewest rfl rfl rfl (by decide +kernel) ⟨Nat.le_of_ble_eq_true rfl, Nat.le_of_ble_eq_true rfl⟩) hl.1 (Nat.le_of_ble_eq_true rfl) dX13_steps_11 ⟨Nat.le_of_ble_eq_true rfl, Nat.le_of_ble_eq_true rfl⟩ rfl kT_bl (fun _ _ _ => trivial) hN hK hP hD hS hA 0 11 rfl rfl rfl [0, 1, 2, 3, 4, 5, 6, 7, 8, 9, 10, 11] [] [0, 1, 2, 3, 4, 5, 6, 7, 8, 9, 10, 11] [0, 1, 2, 3] rfl rfl rfl ⟨by decide, by decide, by decide, by decide⟩ rfl (fun H locs hP hD hS => ?_)
    refine lv_goto (tgt := 18) hx hb dX13_steps_14 (by decide) ?_
    obtain ⟨rfl, rfl⟩ := re2 hf
    exact hE hP hD hS dX13_steps_18
def f_X13_stepsAgain (a1 : Int32) (a2 : Int32) (v0 : SV) : Option (Int32 × SV) :=
  bd1 (f_X13_areTwo a1 a2) fun r_1 =>
  if r_1 = 0 then
    some ((-1), v0)
  else
    bd2 (f_X13_fewest a1 a2 v0) fun r_2 w_3 =>
    some (r_2, w_3)
abbrev rm_X13_stepsAgain : Room := { frames := 7, cells := 0, slots := 0, locals := 157 }
set_option maxHeartbeats 4000000 in
set_option maxRecDepth 100000 in
theorem c_X13_stepsAgain (l : Launch) (D : va_G) (G : Nat → ClassId) (q0 : Nat → Nat) (a1 : Int32) (a2 : Int32) (v0 : SV) (r : Int32) (v0' : SV) (hf : f_X13_stepsAgain a1 a2 v0 = some (r, v0')) (sz : Nat) : mC l yX13_stepsAgain wsX13_stepsAgain rm_X13_stepsAgain D (tyG G) kT [.ref (q0 0), .int a1, .int a2] (kModel G q0 v0) (kModel G q0 v0') sz (some (.int r)) 0 0 := by
  refine mC_ofI (cc := cX13_stepsAgain) (maxL := 3) (ret := (some .int)) (by decide) rfl rfl (Nat.le_of_ble_eq_true rfl) ?_
  intro p e s m args below meth c Q0 hx hb hml hts hown hN hK A hD hA hE hP hS hJ ls hl
  have hl : lv_has ls 3 [(0, .ref (q0 0)), (1, .int a1), (2, .int a2)] := hl
  unfold f_X13_stepsAgain at hf
  refine lv_iload_n hx hb dX13_stepsAgain_0 rfl (lv_at hl 1 rfl) ?_
  refine lv_iload_n hx hb dX13_stepsAgain_1 rfl (lv_at hl 2 rfl) ?_
  obtain ⟨r_1, hc, hf⟩ := bd1_of hf
  refine k_S (As := [.int a1, .int a2]) (rest := []) (ws1 := (kModel G q0 v0)) ⟨hx, hb, hml, hown, hts⟩ (c_X13_areTwo l D G  a1 a2  _ hc  _) (va_cwS 2 hts gX13_stepsAgain_X13_areTwo rfl rfl rfl (by decide +kernel) ⟨Nat.le_of_ble_eq_true rfl, Nat.le_of_ble_eq_true rfl⟩) hl.1 (Nat.le_of_ble_eq_true rfl) dX13_stepsAgain_2 ⟨Nat.le_of_ble_eq_true rfl, Nat.le_of_ble_eq_true rfl⟩ rfl kT_bl (fun _ _ _ => trivial) hN hK hP hD hS hA [] [0, 1, 2, 3, 4, 5, 6, 7, 8, 9, 10, 11] [0, 1, 2, 3, 4, 5, 6, 7, 8, 9, 10, 11] [0, 1, 2, 3] rfl rfl rfl ⟨by decide, by decide, by decide, by decide⟩ rfl (fun H locs hP hD hS => ?_)
  refine lv_if_eq (tgt := 17) hx hb dX13_stepsAgain_5 (by decide) (fun cc => ?_) (fun cc => ?_)
  · replace hf := ifT cc hf
    refine lv_iconst (v := (-1)) hx hb dX13_stepsAgain_17 (by decide) ?_
    obtain ⟨rfl, rfl⟩ := re2 hf
    exact hE hP hD hS dX13_stepsAgain_18
  · replace hf := ifF cc hf
    refine lv_aload_n hx hb dX13_stepsAgain_8 rfl (lv_at hl 0 rfl) ?_
    refine lv_iload_n hx hb dX13_stepsAgain_9 rfl (lv_at hl 1 rfl) ?_
    refine lv_iload_n hx hb dX13_stepsAgain_10 rfl (lv_at hl 2 rfl) ?_
    obtain ⟨r_2, w_3, hc, hf⟩ := bd2_of hf
    refine k_V (As := [.int a1, .int a2]) (rest := []) (ws1 := (kModel G q0 w_3)) ⟨hx, hb, hml, hown, hts⟩ (c_X13_fewest l D G q0 a1 a2 v0 _ _ hc  _) (cwV 2 hts gX13_stepsAgain_X13_fewest rfl rfl rfl (by decide +kernel) ⟨Nat.le_of_ble_eq_true rfl, Nat.le_of_ble_eq_true rfl⟩) hl.1 (Nat.le_of_ble_eq_true rfl) dX13_stepsAgain_11 ⟨Nat.le_of_ble_eq_true rfl, Nat.le_of_ble_eq_true rfl⟩ rfl kT_bl (fun _ _ _ => trivial) hN hK hP hD hS hA 0 11 rfl rfl rfl [0, 1, 2, 3, 4, 5, 6, 7, 8, 9, 10, 11] [] [0, 1, 2, 3, 4, 5, 6, 7, 8, 9, 10, 11] [0, 1, 2, 3] rfl rfl rfl ⟨by decide, by decide, by decide, by decide⟩ rfl (fun H locs hP hD hS => ?_)
    refine lv_goto (tgt := 18) hx hb dX13_stepsAgain_14 (by decide) ?_
    obtain ⟨rfl, rfl⟩ := re2 hf
    exact hE hP hD hS dX13_stepsAgain_18
