/-! Walks, laid by wip/whole/gen.py: for each method f_ (what it does to its world) and c_ (its contract). -/
def f_X13_nextOf_K2 (y_6 : Int32) : Option Int32 :=
  some (-1)
def f_X13_nextOf_B2 (a1 : Int32) (v0 : SV) (selfL_4 : (Int32 → Option Int32)) (x_3 : Int32) : Option Int32 :=
  if 12 ≤ x_3 then
    f_X13_nextOf_K2 x_3
  else
    bd1 (f_X13_isStep a1 x_3 v0) fun r_5 =>
    if r_5 = 0 then
      selfL_4 (x_3 + 1)
    else
      ckI x_3 12 <|
      ckI a1 12 <|
      if (v0.2 5 x_3.toNatClampNeg) = ((v0.2 5 a1.toNatClampNeg) - 1) then
        some x_3
      else
        selfL_4 (x_3 + 1)
def f_X13_nextOf (a1 : Int32) (v0 : SV) : Option Int32 :=
  lz1 (f_X13_nextOf_B2 a1 v0) FU 0
abbrev rm_X13_nextOf : Room := { frames := 5, cells := 0, slots := 0, locals := 111 }
set_option maxHeartbeats 4000000 in
set_option maxRecDepth 100000 in
theorem c_X13_nextOf (l : Launch) (D : va_G) (G : Nat → ClassId) (q0 : Nat → Nat) (a1 : Int32) (v0 : SV) (r : Int32) (hf : f_X13_nextOf a1 v0 = some r) (sz : Nat) : mC l yX13_nextOf wsX13_nextOf rm_X13_nextOf D (tyG G) kT [.ref (q0 0), .int a1] (kModel G q0 v0) (kModel G q0 v0) sz (some (.int r)) 0 0 := by
  refine mC_ofI (cc := cX13_nextOf) (maxL := 3) (ret := (some .int)) (by decide) rfl rfl (Nat.le_of_ble_eq_true rfl) ?_
  intro p e s m args below meth c Q0 hx hb hml hts hown hN hK A hD hA hE hP hS hJ ls hl
  have hl : lv_has ls 3 [(0, .ref (q0 0)), (1, .int a1)] := hl
  unfold f_X13_nextOf at hf
  have hi11 : ∀ w ∈ u_ws RX13 TX13 27, w ∈ wsX13_nextOf := by decide +kernel
  have hw1 := hts (.fieldLink RX13 54 "BalconyCensusModel" "far" "[I") (by decide +kernel)
  refine lv_iconst (v := 0) hx hb dX13_nextOf_0 (by decide) ?_
  refine lv_istore_n (lv' := [(2, .int 0), (0, .ref (q0 0)), (1, .int a1)]) hx hb dX13_nextOf_1 rfl hl (by decide) rfl (fun ls hl => ?_)
  have exL_4 : ∀ (y_6 : Int32) (H : Heap) (locs : List Loc) (ls : Array Slot), lv_has ls 3 [(2, .int y_6), (0, .ref (q0 0)), (1, .int a1)] → va_P D vwCl (kModel G q0 v0) H → va_D A (kModel G q0 v0) → va_S A s.heap H locs → f_X13_nextOf_K2 y_6 = some r → W p l e rm_X13_nextOf s m args below meth c H locs 0 0 Q0 (F0 m 42 ls []) := by
    intro y_6 H locs ls hl hP hD hS hf
    unfold f_X13_nextOf_K2 at hf
    refine lv_iconst (v := (-1)) hx hb dX13_nextOf_42 (by decide) ?_
    obtain rfl := re1 hf
    exact hE hP hD hS dX13_nextOf_43
  have loL_4 : ∀ (n : Nat) (x_3 : Int32) (H : Heap) (locs : List Loc) (ls : Array Slot), lv_has ls 3 [(2, .int x_3), (0, .ref (q0 0)), (1, .int a1)] → va_P D vwCl (kModel G q0 v0) H → va_D A (kModel G q0 v0) → va_S A s.heap H locs → lz1 (f_X13_nextOf_B2 a1 v0) n x_3 = some r → W p l e rm_X13_nextOf s m args below meth c H locs 0 0 Q0 (F0 m 2 ls []) := by
    intro n
    induction n with
    | zero => intro x_3 H locs ls hl hP hD hS hf; cases hf
    | succ n ihL_4 =>
      intro x_3 H locs ls hl hP hD hS hf
      replace hf := lz1_s hf
      unfold f_X13_nextOf_B2 at hf
      refine lv_iload_n hx hb dX13_nextOf_2 rfl (lv_at hl 0 rfl) ?_
      refine lv_bipush (v := 12) hx hb dX13_nextOf_3 (by decide +kernel) ?_
      refine lv_icmp_ge (tgt := 42) hx hb dX13_nextOf_5 (by decide) (fun cc => ?_) (fun cc => ?_)
      · replace hf := ifT cc hf
        exact exL_4 x_3 _ _ _ (lv_sub hl [0, 1, 2] rfl) hP hD hS hf
      · replace hf := ifF cc hf
        refine lv_aload_n hx hb dX13_nextOf_8 rfl (lv_at hl 1 rfl) ?_
        refine lv_iload_n hx hb dX13_nextOf_9 rfl (lv_at hl 2 rfl) ?_
        refine lv_iload_n hx hb dX13_nextOf_10 rfl (lv_at hl 0 rfl) ?_
        obtain ⟨r_5, hc, hf⟩ := bd1_of hf
        refine k_V (As := [.int a1, .int x_3]) (rest := []) (ws1 := (kModel G q0 v0)) ⟨hx, hb, hml, hown, hts⟩ (c_X13_isStep l D G q0 a1 x_3 v0 _ hc  _) (cwV 2 hts gX13_nextOf_X13_isStep rfl rfl rfl (by decide +kernel) ⟨Nat.le_of_ble_eq_true rfl, Nat.le_of_ble_eq_true rfl⟩) hl.1 (Nat.le_of_ble_eq_true rfl) dX13_nextOf_11 ⟨Nat.le_of_ble_eq_true rfl, Nat.le_of_ble_eq_true rfl⟩ rfl kT_bl (fun _ _ _ => trivial) hN hK hP hD hS hA 0 11 rfl rfl rfl [0, 1, 2, 3, 4, 5, 6, 7, 8, 9, 10, 11] [] [0, 1, 2, 3, 4, 5, 6, 7, 8, 9, 10, 11] [0, 1, 2, 3] rfl rfl rfl ⟨by decide, by decide, by decide, by decide⟩ rfl (fun H locs hP hD hS => ?_)
        refine lv_if_eq (tgt := 36) hx hb dX13_nextOf_14 (by decide) (fun cc => ?_) (fun cc => ?_)
        · replace hf := ifT cc hf
          refine lv_iinc (v := (x_3 + 1)) (lv' := [(2, .int (x_3 + 1)), (0, .ref (q0 0)), (1, .int a1)]) hx hb dX13_nextOf_36 hl (k := 0) rfl rfl (by decide) rfl (fun ls hl => ?_)
          refine lv_goto (tgt := 2) hx hb dX13_nextOf_39 (by decide) ?_
          exact ihL_4 (x_3 + 1) _ _ _ (lv_sub hl [0, 1, 2] rfl) hP hD hS hf
        · replace hf := ifF cc hf
          refine lv_aload_n hx hb dX13_nextOf_17 rfl (lv_at hl 1 rfl) ?_
          refine va_get (D := D) (ci := 11) (v := .ref (q0 6)) (C := RX13) (T := TX13) (N := 27) hx hb hts hi11 hown hK hP 0 rfl rfl 14 (by decide) hw1 (fun _ h9 => h9) rfl dX13_nextOf_18 ?_
          refine lv_iload_n hx hb dX13_nextOf_21 rfl (lv_at hl 0 rfl) ?_
          obtain ⟨hin, hf⟩ := ckI_of hf
          refine va_iald (D := D) hx hb hK hP 6 0 rfl rfl hin dX13_nextOf_22 ?_
          refine lv_aload_n hx hb dX13_nextOf_23 rfl (lv_at hl 1 rfl) ?_
          refine va_get (D := D) (ci := 11) (v := .ref (q0 6)) (C := RX13) (T := TX13) (N := 27) hx hb hts hi11 hown hK hP 0 rfl rfl 14 (by decide) hw1 (fun _ h9 => h9) rfl dX13_nextOf_24 ?_
          refine lv_iload_n hx hb dX13_nextOf_27 rfl (lv_at hl 2 rfl) ?_
          obtain ⟨hin, hf⟩ := ckI_of hf
          refine va_iald (D := D) hx hb hK hP 6 0 rfl rfl hin dX13_nextOf_28 ?_
          refine lv_iconst (v := 1) hx hb dX13_nextOf_29 (by decide) ?_
          refine lv_isub hx hb dX13_nextOf_30 ?_
          refine lv_icmp_ne (tgt := 36) hx hb dX13_nextOf_31 (by decide) (fun cc => ?_) (fun cc => ?_)
          · replace hf := ifF cc hf
            refine lv_iinc (v := (x_3 + 1)) (lv' := [(2, .int (x_3 + 1)), (0, .ref (q0 0)), (1, .int a1)]) hx hb dX13_nextOf_36 hl (k := 0) rfl rfl (by decide) rfl (fun ls hl => ?_)
            refine lv_goto (tgt := 2) hx hb dX13_nextOf_39 (by decide) ?_
            exact ihL_4 (x_3 + 1) _ _ _ (lv_sub hl [0, 1, 2] rfl) hP hD hS hf
          · replace hf := ifT cc hf
            refine lv_iload_n hx hb dX13_nextOf_34 rfl (lv_at hl 0 rfl) ?_
            obtain rfl := re1 hf
            exact hE hP hD hS dX13_nextOf_35
  exact loL_4 FU 0 _ _ _ hl hP hD hS hf
def f_X13_way_K42 (w_3 : SV) (y_11 : Int32) (y_12 : Int32) : Option (Int32 × SV) :=
  some (y_12, w_3)
def f_X13_way_B42 (a3 : Int32) (w_3 : SV) (selfL_9 : (Int32 → Int32 → Option (Int32 × SV))) (x_7 : Int32) (x_8 : Int32) : Option (Int32 × SV) :=
  if a3 ≤ x_7 then
    f_X13_way_K42 w_3 x_7 x_8
  else
    bd1 (f_X13_nextOf x_8 w_3) fun r_10 =>
    selfL_9 (x_7 + 1) r_10
def f_X13_way (a1 : Int32) (a2 : Int32) (a3 : Int32) (v0 : SV) : Option (Int32 × SV) :=
  bd1 (f_X13_areTwo a1 a2) fun r_1 =>
  if r_1 = 0 then
    some ((-1), v0)
  else
    bd2 (f_X13_fewest a1 a2 v0) fun r_2 w_3 =>
    if r_2 < 0 then
      some ((-4), w_3)
    else
      bd1 (f_X13_in a3 0 r_2) fun r_4 =>
      if r_4 = 0 then
        some ((-4), w_3)
      else
        lz2 (f_X13_way_B42 a3 w_3) FU 0 a1
abbrev rm_X13_way : Room := { frames := 7, cells := 0, slots := 0, locals := 157 }
set_option maxHeartbeats 4000000 in
set_option maxRecDepth 100000 in
theorem c_X13_way (l : Launch) (D : va_G) (G : Nat → ClassId) (q0 : Nat → Nat) (a1 : Int32) (a2 : Int32) (a3 : Int32) (v0 : SV) (r : Int32) (v0' : SV) (hf : f_X13_way a1 a2 a3 v0 = some (r, v0')) (sz : Nat) : mC l yX13_way wsX13_way rm_X13_way D (tyG G) kT [.ref (q0 0), .int a1, .int a2, .int a3] (kModel G q0 v0) (kModel G q0 v0') sz (some (.int r)) 0 0 := by
  refine mC_ofI (cc := cX13_way) (maxL := 7) (ret := (some .int)) (by decide) rfl rfl (Nat.le_of_ble_eq_true rfl) ?_
  intro p e s m args below meth c Q0 hx hb hml hts hown hN hK A hD hA hE hP hS hJ ls hl
  have hl : lv_has ls 7 [(0, .ref (q0 0)), (1, .int a1), (2, .int a2), (3, .int a3)] := hl
  unfold f_X13_way at hf
  refine lv_iload_n hx hb dX13_way_0 rfl (lv_at hl 1 rfl) ?_
  refine lv_iload_n hx hb dX13_way_1 rfl (lv_at hl 2 rfl) ?_
  obtain ⟨r_1, hc, hf⟩ := bd1_of hf
  refine k_S (As := [.int a1, .int a2]) (rest := []) (ws1 := (kModel G q0 v0)) ⟨hx, hb, hml, hown, hts⟩ (c_X13_areTwo l D G  a1 a2  _ hc  _) (va_cwS 2 hts gX13_way_X13_areTwo rfl rfl rfl (by decide +kernel) ⟨Nat.le_of_ble_eq_true rfl, Nat.le_of_ble_eq_true rfl⟩) hl.1 (Nat.le_of_ble_eq_true rfl) dX13_way_2 ⟨Nat.le_of_ble_eq_true rfl, Nat.le_of_ble_eq_true rfl⟩ rfl kT_bl (fun _ _ _ => trivial) hN hK hP hD hS hA [] [0, 1, 2, 3, 4, 5, 6, 7, 8, 9, 10, 11] [0, 1, 2, 3, 4, 5, 6, 7, 8, 9, 10, 11] [0, 1, 2, 3] rfl rfl rfl ⟨by decide, by decide, by decide, by decide⟩ rfl (fun H locs hP hD hS => ?_)
  refine lv_if_ne (tgt := 10) hx hb dX13_way_5 (by decide) (fun cc => ?_) (fun cc => ?_)
  · replace hf := ifF cc hf
    refine lv_aload_n hx hb dX13_way_10 rfl (lv_at hl 0 rfl) ?_
    refine lv_iload_n hx hb dX13_way_11 rfl (lv_at hl 1 rfl) ?_
    refine lv_iload_n hx hb dX13_way_12 rfl (lv_at hl 2 rfl) ?_
    obtain ⟨r_2, w_3, hc, hf⟩ := bd2_of hf
    refine k_V (As := [.int a1, .int a2]) (rest := []) (ws1 := (kModel G q0 w_3)) ⟨hx, hb, hml, hown, hts⟩ (c_X13_fewest l D G q0 a1 a2 v0 _ _ hc  _) (cwV 2 hts gX13_way_X13_fewest rfl rfl rfl (by decide +kernel) ⟨Nat.le_of_ble_eq_true rfl, Nat.le_of_ble_eq_true rfl⟩) hl.1 (Nat.le_of_ble_eq_true rfl) dX13_way_13 ⟨Nat.le_of_ble_eq_true rfl, Nat.le_of_ble_eq_true rfl⟩ rfl kT_bl (fun _ _ _ => trivial) hN hK hP hD hS hA 0 11 rfl rfl rfl [0, 1, 2, 3, 4, 5, 6, 7, 8, 9, 10, 11] [] [0, 1, 2, 3, 4, 5, 6, 7, 8, 9, 10, 11] [0, 1, 2, 3] rfl rfl rfl ⟨by decide, by decide, by decide, by decide⟩ rfl (fun H locs hP hD hS => ?_)
    refine lv_istore (lv' := [(4, .int r_2), (0, .ref (q0 0)), (1, .int a1), (2, .int a2), (3, .int a3)]) hx hb dX13_way_16 hl (by decide) rfl (fun ls hl => ?_)
    refine lv_iload hx hb dX13_way_18 (lv_at hl 0 rfl) ?_
    refine lv_if_lt (tgt := 33) hx hb dX13_way_20 (by decide) (fun cc => ?_) (fun cc => ?_)
    · replace hf := ifT cc hf
      refine lv_bipush (v := (-4)) hx hb dX13_way_33 (by decide +kernel) ?_
      obtain ⟨rfl, rfl⟩ := re2 hf
      exact hE hP hD hS dX13_way_35
    · replace hf := ifF cc hf
      refine lv_iload_n hx hb dX13_way_23 rfl (lv_at hl 4 rfl) ?_
      refine lv_iconst (v := 0) hx hb dX13_way_24 (by decide) ?_
      refine lv_iload hx hb dX13_way_25 (lv_at hl 0 rfl) ?_
      obtain ⟨r_4, hc, hf⟩ := bd1_of hf
      refine k_S (As := [.int a3, .int 0, .int r_2]) (rest := []) (ws1 := (kModel G q0 w_3)) ⟨hx, hb, hml, hown, hts⟩ (c_X13_in l D G  a3 0 r_2  _ hc  _) (va_cwS 3 hts gX13_way_X13_in rfl rfl rfl (by decide +kernel) ⟨Nat.le_of_ble_eq_true rfl, Nat.le_of_ble_eq_true rfl⟩) hl.1 (Nat.le_of_ble_eq_true rfl) dX13_way_27 ⟨Nat.le_of_ble_eq_true rfl, Nat.le_of_ble_eq_true rfl⟩ rfl kT_bl (fun _ _ _ => trivial) hN hK hP hD hS hA [] [0, 1, 2, 3, 4, 5, 6, 7, 8, 9, 10, 11] [0, 1, 2, 3, 4, 5, 6, 7, 8, 9, 10, 11] [0, 1, 2, 3] rfl rfl rfl ⟨by decide, by decide, by decide, by decide⟩ rfl (fun H locs hP hD hS => ?_)
      refine lv_if_ne (tgt := 36) hx hb dX13_way_30 (by decide) (fun cc => ?_) (fun cc => ?_)
      · replace hf := ifF cc hf
        refine lv_iload_n hx hb dX13_way_36 rfl (lv_at hl 2 rfl) ?_
        refine lv_istore (lv' := [(5, .int a1), (4, .int r_2), (0, .ref (q0 0)), (1, .int a1), (2, .int a2), (3, .int a3)]) hx hb dX13_way_37 hl (by decide) rfl (fun ls hl => ?_)
        refine lv_iconst (v := 0) hx hb dX13_way_39 (by decide) ?_
        refine lv_istore (lv' := [(6, .int 0), (5, .int a1), (4, .int r_2), (0, .ref (q0 0)), (1, .int a1), (2, .int a2), (3, .int a3)]) hx hb dX13_way_40 hl (by decide) rfl (fun ls hl => ?_)
        have exL_9 : ∀ (y_11 : Int32) (y_12 : Int32) (H : Heap) (locs : List Loc) (ls : Array Slot), lv_has ls 7 [(6, .int y_11), (5, .int y_12), (4, .int r_2), (0, .ref (q0 0)), (1, .int a1), (2, .int a2), (3, .int a3)] → va_P D vwCl (kModel G q0 w_3) H → va_D A (kModel G q0 w_3) → va_S A s.heap H locs → f_X13_way_K42 w_3 y_11 y_12 = some (r, v0') → W p l e rm_X13_way s m args below meth c H locs 0 0 Q0 (F0 m 62 ls []) := by
          intro y_11 y_12 H locs ls hl hP hD hS hf
          unfold f_X13_way_K42 at hf
          refine lv_iload hx hb dX13_way_62 (lv_at hl 1 rfl) ?_
          obtain ⟨rfl, rfl⟩ := re2 hf
          exact hE hP hD hS dX13_way_64
        have loL_9 : ∀ (n : Nat) (x_7 : Int32) (x_8 : Int32) (H : Heap) (locs : List Loc) (ls : Array Slot), lv_has ls 7 [(6, .int x_7), (5, .int x_8), (4, .int r_2), (0, .ref (q0 0)), (1, .int a1), (2, .int a2), (3, .int a3)] → va_P D vwCl (kModel G q0 w_3) H → va_D A (kModel G q0 w_3) → va_S A s.heap H locs → lz2 (f_X13_way_B42 a3 w_3) n x_7 x_8 = some (r, v0') → W p l e rm_X13_way s m args below meth c H locs 0 0 Q0 (F0 m 42 ls []) := by
          intro n
          induction n with
          | zero => intro x_7 x_8 H locs ls hl hP hD hS hf; cases hf
          | succ n ihL_9 =>
            intro x_7 x_8 H locs ls hl hP hD hS hf
            replace hf := lz2_s hf
            unfold f_X13_way_B42 at hf
            refine lv_iload hx hb dX13_way_42 (lv_at hl 0 rfl) ?_
            refine lv_iload_n hx hb dX13_way_44 rfl (lv_at hl 6 rfl) ?_
            refine lv_icmp_ge (tgt := 62) hx hb dX13_way_45 (by decide) (fun cc => ?_) (fun cc => ?_)
            · replace hf := ifT cc hf
              exact exL_9 x_7 x_8 _ _ _ (lv_sub hl [0, 1, 2, 3, 4, 5, 6] rfl) hP hD hS hf
            · replace hf := ifF cc hf
              refine lv_aload_n hx hb dX13_way_48 rfl (lv_at hl 3 rfl) ?_
              refine lv_iload hx hb dX13_way_49 (lv_at hl 1 rfl) ?_
              obtain ⟨r_10, hc, hf⟩ := bd1_of hf
              refine k_V (As := [.int x_8]) (rest := []) (ws1 := (kModel G q0 w_3)) ⟨hx, hb, hml, hown, hts⟩ (c_X13_nextOf l D G q0 x_8 w_3 _ hc  _) (cwV 1 hts gX13_way_X13_nextOf rfl rfl rfl (by decide +kernel) ⟨Nat.le_of_ble_eq_true rfl, Nat.le_of_ble_eq_true rfl⟩) hl.1 (Nat.le_of_ble_eq_true rfl) dX13_way_51 ⟨Nat.le_of_ble_eq_true rfl, Nat.le_of_ble_eq_true rfl⟩ rfl kT_bl (fun _ _ _ => trivial) hN hK hP hD hS hA 0 11 rfl rfl rfl [0, 1, 2, 3, 4, 5, 6, 7, 8, 9, 10, 11] [] [0, 1, 2, 3, 4, 5, 6, 7, 8, 9, 10, 11] [0, 1, 2, 3] rfl rfl rfl ⟨by decide, by decide, by decide, by decide⟩ rfl (fun H locs hP hD hS => ?_)
              refine lv_istore (lv' := [(5, .int r_10), (6, .int x_7), (4, .int r_2), (0, .ref (q0 0)), (1, .int a1), (2, .int a2), (3, .int a3)]) hx hb dX13_way_54 hl (by decide) rfl (fun ls hl => ?_)
              refine lv_iinc (v := (x_7 + 1)) (lv' := [(6, .int (x_7 + 1)), (5, .int r_10), (4, .int r_2), (0, .ref (q0 0)), (1, .int a1), (2, .int a2), (3, .int a3)]) hx hb dX13_way_56 hl (k := 1) rfl rfl (by decide) rfl (fun ls hl => ?_)
              refine lv_goto (tgt := 42) hx hb dX13_way_59 (by decide) ?_
              exact ihL_9 (x_7 + 1) r_10 _ _ _ (lv_sub hl [0, 1, 2, 3, 4, 5, 6] rfl) hP hD hS hf
        exact loL_9 FU 0 a1 _ _ _ hl hP hD hS hf
      · replace hf := ifT cc hf
        refine lv_bipush (v := (-4)) hx hb dX13_way_33 (by decide +kernel) ?_
        obtain ⟨rfl, rfl⟩ := re2 hf
        exact hE hP hD hS dX13_way_35
  · replace hf := ifT cc hf
    refine lv_iconst (v := (-1)) hx hb dX13_way_8 (by decide) ?_
    obtain ⟨rfl, rfl⟩ := re2 hf
    exact hE hP hD hS dX13_way_9
def f_X13_circles_K6 (y_37 : Int32) (y_38 : Int32) (y_39 : Int32) : Option Int32 :=
  some y_39
def f_X13_circles_K35 (selfL_25 : (Int32 → Int32 → Int32 → Option Int32)) (x_22 : Int32) (x_23 : Int32) (x_24 : Int32) (y_35 : Int32) (y_36 : Int32) : Option Int32 :=
  selfL_25 (x_22 + 1) (x_23 ||| y_36) (x_24 + 1)
def f_X13_circles_K49 (selfL_28 : (Int32 → Int32 → Option Int32)) (x_27 : Int32) (y_33 : Int32) (y_34 : Int32) : Option Int32 :=
  selfL_28 x_27 y_34
def f_X13_circles_B49 (selfL_28 : (Int32 → Int32 → Option Int32)) (x_27 : Int32) (v0 : SV) (selfL_31 : (Int32 → Int32 → Option Int32)) (x_29 : Int32) (x_30 : Int32) : Option Int32 :=
  if 12 ≤ x_29 then
    f_X13_circles_K49 selfL_28 x_27 x_29 x_30
  else
    if ((x_27 >>> (x_29 &&& 31)) &&& 1) = 1 then
      bd1 (f_X13_friends x_29 v0) fun r_32 =>
      selfL_31 (x_29 + 1) (x_30 ||| r_32)
    else
      selfL_31 (x_29 + 1) (x_30 ||| 0)
def f_X13_circles_B35 (selfL_25 : (Int32 → Int32 → Int32 → Option Int32)) (x_22 : Int32) (x_23 : Int32) (x_24 : Int32) (v0 : SV) (selfL_28 : (Int32 → Int32 → Option Int32)) (x_26 : Int32) (x_27 : Int32) : Option Int32 :=
  if x_27 = x_26 then
    f_X13_circles_K35 selfL_25 x_22 x_23 x_24 x_26 x_27
  else
    lz2 (f_X13_circles_B49 selfL_28 x_27 v0) FU 0 x_27
def f_X13_circles_B6 (v0 : SV) (selfL_25 : (Int32 → Int32 → Int32 → Option Int32)) (x_22 : Int32) (x_23 : Int32) (x_24 : Int32) : Option Int32 :=
  if 12 ≤ x_22 then
    f_X13_circles_K6 x_22 x_23 x_24
  else
    if ((x_23 >>> (x_22 &&& 31)) &&& 1) = 1 then
      selfL_25 (x_22 + 1) x_23 x_24
    else
      lz2 (f_X13_circles_B35 selfL_25 x_22 x_23 x_24 v0) FU 0 (1 <<< (x_22 &&& 31))
def f_X13_circles (v0 : SV) : Option Int32 :=
  lz3 (f_X13_circles_B6 v0) FU 0 0 0
abbrev rm_X13_circles : Room := { frames := 2, cells := 0, slots := 0, locals := 45 }
set_option maxHeartbeats 4000000 in
set_option maxRecDepth 100000 in
theorem c_X13_circles (l : Launch) (D : va_G) (G : Nat → ClassId) (q0 : Nat → Nat) (v0 : SV) (r : Int32) (hf : f_X13_circles v0 = some r) (sz : Nat) : mC l yX13_circles wsX13_circles rm_X13_circles D (tyG G) kT [.ref (q0 0)] (kModel G q0 v0) (kModel G q0 v0) sz (some (.int r)) 0 0 := by
  refine mC_ofI (cc := cX13_circles) (maxL := 7) (ret := (some .int)) (by decide) rfl rfl (Nat.le_of_ble_eq_true rfl) ?_
  intro p e s m args below meth c Q0 hx hb hml hts hown hN hK A hD hA hE hP hS hJ ls hl
  have hl : lv_has ls 7 [(0, .ref (q0 0))] := hl
  unfold f_X13_circles at hf
  refine lv_iconst (v := 0) hx hb dX13_circles_0 (by decide) ?_
  refine lv_istore_n (lv' := [(1, .int 0), (0, .ref (q0 0))]) hx hb dX13_circles_1 rfl hl (by decide) rfl (fun ls hl => ?_)
  refine lv_iconst (v := 0) hx hb dX13_circles_2 (by decide) ?_
  refine lv_istore_n (lv' := [(2, .int 0), (1, .int 0), (0, .ref (q0 0))]) hx hb dX13_circles_3 rfl hl (by decide) rfl (fun ls hl => ?_)
  refine lv_iconst (v := 0) hx hb dX13_circles_4 (by decide) ?_
  refine lv_istore_n (lv' := [(3, .int 0), (2, .int 0), (1, .int 0), (0, .ref (q0 0))]) hx hb dX13_circles_5 rfl hl (by decide) rfl (fun ls hl => ?_)
  have exL_25 : ∀ (y_37 : Int32) (y_38 : Int32) (y_39 : Int32) (H : Heap) (locs : List Loc) (ls : Array Slot), lv_has ls 7 [(3, .int y_37), (2, .int y_38), (1, .int y_39), (0, .ref (q0 0))] → va_P D vwCl (kModel G q0 v0) H → va_D A (kModel G q0 v0) → va_S A s.heap H locs → f_X13_circles_K6 y_37 y_38 y_39 = some r → W p l e rm_X13_circles s m args below meth c H locs 0 0 Q0 (F0 m 102 ls []) := by
    intro y_37 y_38 y_39 H locs ls hl hP hD hS hf
    unfold f_X13_circles_K6 at hf
    refine lv_iload_n hx hb dX13_circles_102 rfl (lv_at hl 2 rfl) ?_
    obtain rfl := re1 hf
    exact hE hP hD hS dX13_circles_103
  have loL_25 : ∀ (n : Nat) (x_22 : Int32) (x_23 : Int32) (x_24 : Int32) (H : Heap) (locs : List Loc) (ls : Array Slot), lv_has ls 7 [(3, .int x_22), (2, .int x_23), (1, .int x_24), (0, .ref (q0 0))] → va_P D vwCl (kModel G q0 v0) H → va_D A (kModel G q0 v0) → va_S A s.heap H locs → lz3 (f_X13_circles_B6 v0) n x_22 x_23 x_24 = some r → W p l e rm_X13_circles s m args below meth c H locs 0 0 Q0 (F0 m 6 ls []) := by
    intro n
    induction n with
    | zero => intro x_22 x_23 x_24 H locs ls hl hP hD hS hf; cases hf
    | succ n ihL_25 =>
      intro x_22 x_23 x_24 H locs ls hl hP hD hS hf
      replace hf := lz3_s hf
      generalize lz3 (f_X13_circles_B6 v0) n = selfL_25 at hf ihL_25
      unfold f_X13_circles_B6 at hf
      refine lv_iload_n hx hb dX13_circles_6 rfl (lv_at hl 0 rfl) ?_
      refine lv_bipush (v := 12) hx hb dX13_circles_7 (by decide +kernel) ?_
      refine lv_icmp_ge (tgt := 102) hx hb dX13_circles_9 (by decide) (fun cc => ?_) (fun cc => ?_)
      · replace hf := ifT cc hf
        exact exL_25 x_22 x_23 x_24 _ _ _ (lv_sub hl [0, 1, 2, 3] rfl) hP hD hS hf
      · replace hf := ifF cc hf
        refine lv_iload_n hx hb dX13_circles_12 rfl (lv_at hl 1 rfl) ?_
        refine lv_iload_n hx hb dX13_circles_13 rfl (lv_at hl 0 rfl) ?_
        refine lv_ishr hx hb dX13_circles_14 ?_
        refine lv_iconst (v := 1) hx hb dX13_circles_15 (by decide) ?_
        refine lv_iand hx hb dX13_circles_16 ?_
        refine lv_iconst (v := 1) hx hb dX13_circles_17 (by decide) ?_
        refine lv_icmp_ne (tgt := 24) hx hb dX13_circles_18 (by decide) (fun cc => ?_) (fun cc => ?_)
        · replace hf := ifF cc hf
          refine lv_iinc (v := (x_24 + 1)) (lv' := [(1, .int (x_24 + 1)), (3, .int x_22), (2, .int x_23), (0, .ref (q0 0))]) hx hb dX13_circles_24 hl (k := 2) rfl rfl (by decide) rfl (fun ls hl => ?_)
          refine lv_iconst (v := 1) hx hb dX13_circles_27 (by decide) ?_
          refine lv_iload_n hx hb dX13_circles_28 rfl (lv_at hl 1 rfl) ?_
          refine lv_ishl hx hb dX13_circles_29 ?_
          refine lv_istore (lv' := [(4, .int (1 <<< (x_22 &&& 31))), (1, .int (x_24 + 1)), (3, .int x_22), (2, .int x_23), (0, .ref (q0 0))]) hx hb dX13_circles_30 hl (by decide) rfl (fun ls hl => ?_)
          refine lv_iconst (v := 0) hx hb dX13_circles_32 (by decide) ?_
          refine lv_istore (lv' := [(5, .int 0), (4, .int (1 <<< (x_22 &&& 31))), (1, .int (x_24 + 1)), (3, .int x_22), (2, .int x_23), (0, .ref (q0 0))]) hx hb dX13_circles_33 hl (by decide) rfl (fun ls hl => ?_)
          have exL_28 : ∀ (y_35 : Int32) (y_36 : Int32) (H : Heap) (locs : List Loc) (ls : Array Slot), lv_has ls 7 [(5, .int y_35), (4, .int y_36), (1, .int (x_24 + 1)), (3, .int x_22), (2, .int x_23), (0, .ref (q0 0))] → va_P D vwCl (kModel G q0 v0) H → va_D A (kModel G q0 v0) → va_S A s.heap H locs → f_X13_circles_K35 selfL_25 x_22 x_23 x_24 y_35 y_36 = some r → W p l e rm_X13_circles s m args below meth c H locs 0 0 Q0 (F0 m 91 ls []) := by
            intro y_35 y_36 H locs ls hl hP hD hS hf
            unfold f_X13_circles_K35 at hf
            refine lv_iload_n hx hb dX13_circles_91 rfl (lv_at hl 4 rfl) ?_
            refine lv_iload hx hb dX13_circles_92 (lv_at hl 1 rfl) ?_
            refine lv_ior hx hb dX13_circles_94 ?_
            refine lv_istore_n (lv' := [(2, .int (x_23 ||| y_36)), (5, .int y_35), (4, .int y_36), (1, .int (x_24 + 1)), (3, .int x_22), (0, .ref (q0 0))]) hx hb dX13_circles_95 rfl hl (by decide) rfl (fun ls hl => ?_)
            refine lv_iinc (v := (x_22 + 1)) (lv' := [(3, .int (x_22 + 1)), (2, .int (x_23 ||| y_36)), (5, .int y_35), (4, .int y_36), (1, .int (x_24 + 1)), (0, .ref (q0 0))]) hx hb dX13_circles_96 hl (k := 4) rfl rfl (by decide) rfl (fun ls hl => ?_)
            refine lv_goto (tgt := 6) hx hb dX13_circles_99 (by decide) ?_
            exact ihL_25 (x_22 + 1) (x_23 ||| y_36) (x_24 + 1) _ _ _ (lv_sub hl [0, 1, 4, 5] rfl) hP hD hS hf
          have loL_28 : ∀ (n : Nat) (x_26 : Int32) (x_27 : Int32) (H : Heap) (locs : List Loc) (ls : Array Slot), lv_has ls 7 [(5, .int x_26), (4, .int x_27), (1, .int (x_24 + 1)), (3, .int x_22), (2, .int x_23), (0, .ref (q0 0))] → va_P D vwCl (kModel G q0 v0) H → va_D A (kModel G q0 v0) → va_S A s.heap H locs → lz2 (f_X13_circles_B35 selfL_25 x_22 x_23 x_24 v0) n x_26 x_27 = some r → W p l e rm_X13_circles s m args below meth c H locs 0 0 Q0 (F0 m 35 ls []) := by
            intro n
            induction n with
            | zero => intro x_26 x_27 H locs ls hl hP hD hS hf; cases hf
            | succ n ihL_28 =>
              intro x_26 x_27 H locs ls hl hP hD hS hf
              replace hf := lz2_s hf
              generalize lz2 (f_X13_circles_B35 selfL_25 x_22 x_23 x_24 v0) n = selfL_28 at hf ihL_28
              unfold f_X13_circles_B35 at hf
              refine lv_iload hx hb dX13_circles_35 (lv_at hl 1 rfl) ?_
              refine lv_iload hx hb dX13_circles_37 (lv_at hl 0 rfl) ?_
              refine lv_icmp_eq (tgt := 91) hx hb dX13_circles_39 (by decide) (fun cc => ?_) (fun cc => ?_)
              · replace hf := ifT cc hf
                exact exL_28 x_26 x_27 _ _ _ (lv_sub hl [0, 1, 2, 3, 4, 5] rfl) hP hD hS hf
              · replace hf := ifF cc hf
                refine lv_iload hx hb dX13_circles_42 (lv_at hl 1 rfl) ?_
                refine lv_istore (lv' := [(5, .int x_27), (4, .int x_27), (1, .int (x_24 + 1)), (3, .int x_22), (2, .int x_23), (0, .ref (q0 0))]) hx hb dX13_circles_44 hl (by decide) rfl (fun ls hl => ?_)
                refine lv_iconst (v := 0) hx hb dX13_circles_46 (by decide) ?_
                refine lv_istore (lv' := [(6, .int 0), (5, .int x_27), (4, .int x_27), (1, .int (x_24 + 1)), (3, .int x_22), (2, .int x_23), (0, .ref (q0 0))]) hx hb dX13_circles_47 hl (by decide) rfl (fun ls hl => ?_)
                have exL_31 : ∀ (y_33 : Int32) (y_34 : Int32) (H : Heap) (locs : List Loc) (ls : Array Slot), lv_has ls 7 [(6, .int y_33), (5, .int x_27), (4, .int y_34), (1, .int (x_24 + 1)), (3, .int x_22), (2, .int x_23), (0, .ref (q0 0))] → va_P D vwCl (kModel G q0 v0) H → va_D A (kModel G q0 v0) → va_S A s.heap H locs → f_X13_circles_K49 selfL_28 x_27 y_33 y_34 = some r → W p l e rm_X13_circles s m args below meth c H locs 0 0 Q0 (F0 m 88 ls []) := by
                  intro y_33 y_34 H locs ls hl hP hD hS hf
                  unfold f_X13_circles_K49 at hf
                  refine lv_goto (tgt := 35) hx hb dX13_circles_88 (by decide) ?_
                  exact ihL_28 x_27 y_34 _ _ _ (lv_sub hl [1, 2, 3, 4, 5, 6] rfl) hP hD hS hf
                have loL_31 : ∀ (n : Nat) (x_29 : Int32) (x_30 : Int32) (H : Heap) (locs : List Loc) (ls : Array Slot), lv_has ls 7 [(6, .int x_29), (5, .int x_27), (4, .int x_30), (1, .int (x_24 + 1)), (3, .int x_22), (2, .int x_23), (0, .ref (q0 0))] → va_P D vwCl (kModel G q0 v0) H → va_D A (kModel G q0 v0) → va_S A s.heap H locs → lz2 (f_X13_circles_B49 selfL_28 x_27 v0) n x_29 x_30 = some r → W p l e rm_X13_circles s m args below meth c H locs 0 0 Q0 (F0 m 49 ls []) := by
                  intro n
                  induction n with
                  | zero => intro x_29 x_30 H locs ls hl hP hD hS hf; cases hf
                  | succ n ihL_31 =>
                    intro x_29 x_30 H locs ls hl hP hD hS hf
                    replace hf := lz2_s hf
                    unfold f_X13_circles_B49 at hf
                    refine lv_iload hx hb dX13_circles_49 (lv_at hl 0 rfl) ?_
                    refine lv_bipush (v := 12) hx hb dX13_circles_51 (by decide +kernel) ?_
                    refine lv_icmp_ge (tgt := 88) hx hb dX13_circles_53 (by decide) (fun cc => ?_) (fun cc => ?_)
                    · replace hf := ifT cc hf
                      exact exL_31 x_29 x_30 _ _ _ (lv_sub hl [0, 1, 2, 3, 4, 5, 6] rfl) hP hD hS hf
                    · replace hf := ifF cc hf
                      refine lv_iload hx hb dX13_circles_56 (lv_at hl 2 rfl) ?_
                      refine lv_iload hx hb dX13_circles_58 (lv_at hl 1 rfl) ?_
                      refine lv_iload hx hb dX13_circles_60 (lv_at hl 0 rfl) ?_
                      refine lv_ishr hx hb dX13_circles_62 ?_
                      refine lv_iconst (v := 1) hx hb dX13_circles_63 (by decide) ?_
                      refine lv_iand hx hb dX13_circles_64 ?_
                      refine lv_iconst (v := 1) hx hb dX13_circles_65 (by decide) ?_
                      refine lv_icmp_ne (tgt := 78) hx hb dX13_circles_66 (by decide) (fun cc => ?_) (fun cc => ?_)
                      · replace hf := ifF cc hf
                        refine lv_iconst (v := 0) hx hb dX13_circles_78 (by decide) ?_
                        refine lv_ior hx hb dX13_circles_79 ?_
                        refine lv_istore (lv' := [(4, .int (x_30 ||| 0)), (6, .int x_29), (5, .int x_27), (1, .int (x_24 + 1)), (3, .int x_22), (2, .int x_23), (0, .ref (q0 0))]) hx hb dX13_circles_80 hl (by decide) rfl (fun ls hl => ?_)
                        refine lv_iinc (v := (x_29 + 1)) (lv' := [(6, .int (x_29 + 1)), (4, .int (x_30 ||| 0)), (5, .int x_27), (1, .int (x_24 + 1)), (3, .int x_22), (2, .int x_23), (0, .ref (q0 0))]) hx hb dX13_circles_82 hl (k := 1) rfl rfl (by decide) rfl (fun ls hl => ?_)
                        refine lv_goto (tgt := 49) hx hb dX13_circles_85 (by decide) ?_
                        exact ihL_31 (x_29 + 1) (x_30 ||| 0) _ _ _ (lv_sub hl [0, 2, 1, 3, 4, 5, 6] rfl) hP hD hS hf
                      · replace hf := ifT cc hf
                        refine lv_aload_n hx hb dX13_circles_69 rfl (lv_at hl 6 rfl) ?_
                        refine lv_iload hx hb dX13_circles_70 (lv_at hl 0 rfl) ?_
                        obtain ⟨r_32, hc, hf⟩ := bd1_of hf
                        refine k_V (As := [.int x_29]) (rest := [.int x_30]) (ws1 := (kModel G q0 v0)) ⟨hx, hb, hml, hown, hts⟩ (c_X13_friends l D G q0 x_29 v0 _ hc  _) (cwV 1 hts gX13_circles_X13_friends rfl rfl rfl (by decide +kernel) ⟨Nat.le_of_ble_eq_true rfl, Nat.le_of_ble_eq_true rfl⟩) hl.1 (Nat.le_of_ble_eq_true rfl) dX13_circles_72 ⟨Nat.le_of_ble_eq_true rfl, Nat.le_of_ble_eq_true rfl⟩ rfl kT_bl (fun _ _ _ => trivial) hN hK hP hD hS hA 0 11 rfl rfl rfl [0, 1, 2, 3, 4, 5, 6, 7, 8, 9, 10, 11] [] [0, 1, 2, 3, 4, 5, 6, 7, 8, 9, 10, 11] [0, 1, 2, 3] rfl rfl rfl ⟨by decide, by decide, by decide, by decide⟩ rfl (fun H locs hP hD hS => ?_)
                        refine lv_goto (tgt := 79) hx hb dX13_circles_75 (by decide) ?_
                        refine lv_ior hx hb dX13_circles_79 ?_
                        refine lv_istore (lv' := [(4, .int (x_30 ||| r_32)), (6, .int x_29), (5, .int x_27), (1, .int (x_24 + 1)), (3, .int x_22), (2, .int x_23), (0, .ref (q0 0))]) hx hb dX13_circles_80 hl (by decide) rfl (fun ls hl => ?_)
                        refine lv_iinc (v := (x_29 + 1)) (lv' := [(6, .int (x_29 + 1)), (4, .int (x_30 ||| r_32)), (5, .int x_27), (1, .int (x_24 + 1)), (3, .int x_22), (2, .int x_23), (0, .ref (q0 0))]) hx hb dX13_circles_82 hl (k := 1) rfl rfl (by decide) rfl (fun ls hl => ?_)
                        refine lv_goto (tgt := 49) hx hb dX13_circles_85 (by decide) ?_
                        exact ihL_31 (x_29 + 1) (x_30 ||| r_32) _ _ _ (lv_sub hl [0, 2, 1, 3, 4, 5, 6] rfl) hP hD hS hf
                exact loL_31 FU 0 x_27 _ _ _ hl hP hD hS hf
          exact loL_28 FU 0 (1 <<< (x_22 &&& 31)) _ _ _ hl hP hD hS hf
        · replace hf := ifT cc hf
          refine lv_goto (tgt := 96) hx hb dX13_circles_21 (by decide) ?_
          refine lv_iinc (v := (x_22 + 1)) (lv' := [(3, .int (x_22 + 1)), (2, .int x_23), (1, .int x_24), (0, .ref (q0 0))]) hx hb dX13_circles_96 hl (k := 0) rfl rfl (by decide) rfl (fun ls hl => ?_)
          refine lv_goto (tgt := 6) hx hb dX13_circles_99 (by decide) ?_
          exact ihL_25 (x_22 + 1) x_23 x_24 _ _ _ (lv_sub hl [0, 1, 2, 3] rfl) hP hD hS hf
  exact loL_25 FU 0 0 0 _ _ _ hl hP hD hS hf
def f_X13_wouldGrow_K30 (y_13 : Int32) (y_14 : Int32) (z_15 : SV) : Option (Int32 × SV) :=
  bd1 (f_X13_allPlants z_15) fun r_16 =>
  bd1 (f_X13_copies 0 0 240 (z_15.2 2) 240 (z_15.2 0)) fun w_17 =>
  nm (pR z_15 0 w_17) fun v_18 =>
  some (r_16, v_18)
def f_X13_wouldGrow_B30 (a1 : Int32) (selfL_10 : (Int32 → Int32 → SV → Option (Int32 × SV))) (x_7 : Int32) (x_8 : Int32) (u_9 : SV) : Option (Int32 × SV) :=
  if a1 ≤ x_7 then
    f_X13_wouldGrow_K30 x_7 x_8 u_9
  else
    bd2 (f_X13_grows u_9) fun r_11 w_12 =>
    selfL_10 (x_7 + 1) r_11 w_12
def f_X13_wouldGrow (a1 : Int32) (v0 : SV) : Option (Int32 × SV) :=
  bd1 (f_X13_in a1 0 20) fun r_1 =>
  if r_1 = 0 then
    some ((-2), v0)
  else
    bd1 (f_X13_copies 0 0 240 (v0.2 0) 240 (v0.2 2)) fun w_2 =>
    nm (pR v0 2 w_2) fun v_3 =>
    lz3 (f_X13_wouldGrow_B30 a1) FU 0 0 v_3
abbrev rm_X13_wouldGrow : Room := { frames := 4, cells := 0, slots := 0, locals := 88 }
set_option maxHeartbeats 4000000 in
set_option maxRecDepth 100000 in
theorem c_X13_wouldGrow (l : Launch) (D : va_G) (G : Nat → ClassId) (q0 : Nat → Nat) (a1 : Int32) (v0 : SV) (r : Int32) (v0' : SV) (hf : f_X13_wouldGrow a1 v0 = some (r, v0')) (sz : Nat) : mC l yX13_wouldGrow wsX13_wouldGrow rm_X13_wouldGrow D (tyG G) kT [.ref (q0 0), .int a1] (kModel G q0 v0) (kModel G q0 v0') sz (some (.int r)) 0 0 := by
  refine mC_ofI (cc := cX13_wouldGrow) (maxL := 4) (ret := (some .int)) (by decide) rfl rfl (Nat.le_of_ble_eq_true rfl) ?_
  intro p e s m args below meth c Q0 hx hb hml hts hown hN hK A hD hA hE hP hS hJ ls hl
  have hl : lv_has ls 4 [(0, .ref (q0 0)), (1, .int a1)] := hl
  unfold f_X13_wouldGrow at hf
  have hi11 : ∀ w ∈ u_ws RX13 TX13 27, w ∈ wsX13_wouldGrow := by decide +kernel
  have hw1 := hts (.fieldLink RX13 7 "BalconyCensusModel" "now" "[I") (by decide +kernel)
  have hw2 := hts (.fieldLink RX13 16 "BalconyCensusModel" "aside" "[I") (by decide +kernel)
  refine lv_iload_n hx hb dX13_wouldGrow_0 rfl (lv_at hl 1 rfl) ?_
  refine lv_iconst (v := 0) hx hb dX13_wouldGrow_1 (by decide) ?_
  refine lv_bipush (v := 20) hx hb dX13_wouldGrow_2 (by decide +kernel) ?_
  obtain ⟨r_1, hc, hf⟩ := bd1_of hf
  refine k_S (As := [.int a1, .int 0, .int 20]) (rest := []) (ws1 := (kModel G q0 v0)) ⟨hx, hb, hml, hown, hts⟩ (c_X13_in l D G  a1 0 20  _ hc  _) (va_cwS 3 hts gX13_wouldGrow_X13_in rfl rfl rfl (by decide +kernel) ⟨Nat.le_of_ble_eq_true rfl, Nat.le_of_ble_eq_true rfl⟩) hl.1 (Nat.le_of_ble_eq_true rfl) dX13_wouldGrow_4 ⟨Nat.le_of_ble_eq_true rfl, Nat.le_of_ble_eq_true rfl⟩ rfl kT_bl (fun _ _ _ => trivial) hN hK hP hD hS hA [] [0, 1, 2, 3, 4, 5, 6, 7, 8, 9, 10, 11] [0, 1, 2, 3, 4, 5, 6, 7, 8, 9, 10, 11] [0, 1, 2, 3] rfl rfl rfl ⟨by decide, by decide, by decide, by decide⟩ rfl (fun H locs hP hD hS => ?_)
  refine lv_if_ne (tgt := 13) hx hb dX13_wouldGrow_7 (by decide) (fun cc => ?_) (fun cc => ?_)
  · replace hf := ifF cc hf
    refine lv_aload_n hx hb dX13_wouldGrow_13 rfl (lv_at hl 0 rfl) ?_
    refine va_get (D := D) (ci := 11) (v := .ref (q0 1)) (C := RX13) (T := TX13) (N := 27) hx hb hts hi11 hown hK hP 0 rfl rfl 0 (by decide) hw1 (fun _ h9 => h9) rfl dX13_wouldGrow_14 ?_
    refine lv_iconst (v := 0) hx hb dX13_wouldGrow_17 (by decide) ?_
    refine lv_aload_n hx hb dX13_wouldGrow_18 rfl (lv_at hl 0 rfl) ?_
    refine va_get (D := D) (ci := 11) (v := .ref (q0 3)) (C := RX13) (T := TX13) (N := 27) hx hb hts hi11 hown hK hP 0 rfl rfl 2 (by decide) hw2 (fun _ h9 => h9) rfl dX13_wouldGrow_19 ?_
    refine lv_iconst (v := 0) hx hb dX13_wouldGrow_22 (by decide) ?_
    obtain ⟨w_2, hc, hf⟩ := bd1_of hf
    refine k_S (As := [.ref (q0 1), .int 0, .ref (q0 3), .int 0]) (rest := []) (ws1 := (kModel G q0 (pR v0 2 w_2))) ⟨hx, hb, hml, hown, hts⟩ (c_X13_copies l D G (q0 1) 240 (q0 3) 240 0 0 (v0.2 0) (v0.2 2) _ hc  _) (va_cwS 4 hts gX13_wouldGrow_X13_copies rfl rfl rfl (by decide +kernel) ⟨Nat.le_of_ble_eq_true rfl, Nat.le_of_ble_eq_true rfl⟩) hl.1 (Nat.le_of_ble_eq_true rfl) dX13_wouldGrow_23 ⟨Nat.le_of_ble_eq_true rfl, Nat.le_of_ble_eq_true rfl⟩ rfl kT_bl (fun _ _ _ => trivial) hN hK hP hD hS hA [1, 3] [0, 2, 4, 5, 6, 7, 8, 9, 10, 11] [0, 10, 1, 11, 2, 3, 4, 5, 6, 7, 8, 9] [0, 1, 2, 3] rfl rfl rfl ⟨by decide, by decide, by decide, by decide⟩ rfl (fun H locs hP hD hS => ?_)
    obtain ⟨v_3, ev_3, hf⟩ := nm_of hf
    have hP : va_P D vwCl (kModel G q0 v_3) H := by rw [ev_3]; exact hP
    have hD : va_D A (kModel G q0 v_3) := by rw [ev_3]; exact hD
    refine lv_iconst (v := 0) hx hb dX13_wouldGrow_26 (by decide) ?_
    refine lv_istore_n (lv' := [(2, .int 0), (0, .ref (q0 0)), (1, .int a1)]) hx hb dX13_wouldGrow_27 rfl hl (by decide) rfl (fun ls hl => ?_)
    refine lv_iconst (v := 0) hx hb dX13_wouldGrow_28 (by decide) ?_
    refine lv_istore_n (lv' := [(3, .int 0), (2, .int 0), (0, .ref (q0 0)), (1, .int a1)]) hx hb dX13_wouldGrow_29 rfl hl (by decide) rfl (fun ls hl => ?_)
    have exL_10 : ∀ (y_13 : Int32) (y_14 : Int32) (z_15 : SV) (H : Heap) (locs : List Loc) (ls : Array Slot), lv_has ls 4 [(3, .int y_13), (2, .int y_14), (0, .ref (q0 0)), (1, .int a1)] → va_P D vwCl (kModel G q0 z_15) H → va_D A (kModel G q0 z_15) → va_S A s.heap H locs → f_X13_wouldGrow_K30 y_13 y_14 z_15 = some (r, v0') → W p l e rm_X13_wouldGrow s m args below meth c H locs 0 0 Q0 (F0 m 46 ls []) := by
      intro y_13 y_14 z_15 H locs ls hl hP hD hS hf
      unfold f_X13_wouldGrow_K30 at hf
      refine lv_aload_n hx hb dX13_wouldGrow_46 rfl (lv_at hl 2 rfl) ?_
      obtain ⟨r_16, hc, hf⟩ := bd1_of hf
      refine k_V (As := []) (rest := []) (ws1 := (kModel G q0 z_15)) ⟨hx, hb, hml, hown, hts⟩ (c_X13_allPlants l D G q0  z_15 _ hc  _) (cwV 0 hts gX13_wouldGrow_X13_allPlants rfl rfl rfl (by decide +kernel) ⟨Nat.le_of_ble_eq_true rfl, Nat.le_of_ble_eq_true rfl⟩) hl.1 (Nat.le_of_ble_eq_true rfl) dX13_wouldGrow_47 ⟨Nat.le_of_ble_eq_true rfl, Nat.le_of_ble_eq_true rfl⟩ rfl kT_bl (fun _ _ _ => trivial) hN hK hP hD hS hA 0 11 rfl rfl rfl [0, 1, 2, 3, 4, 5, 6, 7, 8, 9, 10, 11] [] [0, 1, 2, 3, 4, 5, 6, 7, 8, 9, 10, 11] [0, 1, 2, 3] rfl rfl rfl ⟨by decide, by decide, by decide, by decide⟩ rfl (fun H locs hP hD hS => ?_)
      refine lv_istore_n (lv' := [(3, .int r_16), (2, .int y_14), (0, .ref (q0 0)), (1, .int a1)]) hx hb dX13_wouldGrow_50 rfl hl (by decide) rfl (fun ls hl => ?_)
      refine lv_aload_n hx hb dX13_wouldGrow_51 rfl (lv_at hl 2 rfl) ?_
      refine va_get (D := D) (ci := 11) (v := .ref (q0 3)) (C := RX13) (T := TX13) (N := 27) hx hb hts hi11 hown hK hP 0 rfl rfl 2 (by decide) hw2 (fun _ h9 => h9) rfl dX13_wouldGrow_52 ?_
      refine lv_iconst (v := 0) hx hb dX13_wouldGrow_55 (by decide) ?_
      refine lv_aload_n hx hb dX13_wouldGrow_56 rfl (lv_at hl 2 rfl) ?_
      refine va_get (D := D) (ci := 11) (v := .ref (q0 1)) (C := RX13) (T := TX13) (N := 27) hx hb hts hi11 hown hK hP 0 rfl rfl 0 (by decide) hw1 (fun _ h9 => h9) rfl dX13_wouldGrow_57 ?_
      refine lv_iconst (v := 0) hx hb dX13_wouldGrow_60 (by decide) ?_
      obtain ⟨w_17, hc, hf⟩ := bd1_of hf
      refine k_S (As := [.ref (q0 3), .int 0, .ref (q0 1), .int 0]) (rest := []) (ws1 := (kModel G q0 (pR z_15 0 w_17))) ⟨hx, hb, hml, hown, hts⟩ (c_X13_copies l D G (q0 3) 240 (q0 1) 240 0 0 (z_15.2 2) (z_15.2 0) _ hc  _) (va_cwS 4 hts gX13_wouldGrow_X13_copies rfl rfl rfl (by decide +kernel) ⟨Nat.le_of_ble_eq_true rfl, Nat.le_of_ble_eq_true rfl⟩) hl.1 (Nat.le_of_ble_eq_true rfl) dX13_wouldGrow_61 ⟨Nat.le_of_ble_eq_true rfl, Nat.le_of_ble_eq_true rfl⟩ rfl kT_bl (fun _ _ _ => trivial) hN hK hP hD hS hA [3, 1] [0, 2, 4, 5, 6, 7, 8, 9, 10, 11] [0, 11, 1, 10, 2, 3, 4, 5, 6, 7, 8, 9] [0, 1, 2, 3] rfl rfl rfl ⟨by decide, by decide, by decide, by decide⟩ rfl (fun H locs hP hD hS => ?_)
      obtain ⟨v_18, ev_18, hf⟩ := nm_of hf
      have hP : va_P D vwCl (kModel G q0 v_18) H := by rw [ev_18]; exact hP
      have hD : va_D A (kModel G q0 v_18) := by rw [ev_18]; exact hD
      refine lv_iload_n hx hb dX13_wouldGrow_64 rfl (lv_at hl 0 rfl) ?_
      obtain ⟨rfl, rfl⟩ := re2 hf
      exact hE hP hD hS dX13_wouldGrow_65
    have loL_10 : ∀ (n : Nat) (x_7 : Int32) (x_8 : Int32) (u_9 : SV) (H : Heap) (locs : List Loc) (ls : Array Slot), lv_has ls 4 [(3, .int x_7), (2, .int x_8), (0, .ref (q0 0)), (1, .int a1)] → va_P D vwCl (kModel G q0 u_9) H → va_D A (kModel G q0 u_9) → va_S A s.heap H locs → lz3 (f_X13_wouldGrow_B30 a1) n x_7 x_8 u_9 = some (r, v0') → W p l e rm_X13_wouldGrow s m args below meth c H locs 0 0 Q0 (F0 m 30 ls []) := by
      intro n
      induction n with
      | zero => intro x_7 x_8 u_9 H locs ls hl hP hD hS hf; cases hf
      | succ n ihL_10 =>
        intro x_7 x_8 u_9 H locs ls hl hP hD hS hf
        replace hf := lz3_s hf
        unfold f_X13_wouldGrow_B30 at hf
        refine lv_iload_n hx hb dX13_wouldGrow_30 rfl (lv_at hl 0 rfl) ?_
        refine lv_iload_n hx hb dX13_wouldGrow_31 rfl (lv_at hl 3 rfl) ?_
        refine lv_icmp_ge (tgt := 46) hx hb dX13_wouldGrow_32 (by decide) (fun cc => ?_) (fun cc => ?_)
        · replace hf := ifT cc hf
          exact exL_10 x_7 x_8 u_9 _ _ _ (lv_sub hl [0, 1, 2, 3] rfl) hP hD hS hf
        · replace hf := ifF cc hf
          refine lv_aload_n hx hb dX13_wouldGrow_35 rfl (lv_at hl 2 rfl) ?_
          obtain ⟨r_11, w_12, hc, hf⟩ := bd2_of hf
          refine k_V (As := []) (rest := []) (ws1 := (kModel G q0 w_12)) ⟨hx, hb, hml, hown, hts⟩ (c_X13_grows l D G q0  u_9 _ _ hc  _) (cwV 0 hts gX13_wouldGrow_X13_grows rfl rfl rfl (by decide +kernel) ⟨Nat.le_of_ble_eq_true rfl, Nat.le_of_ble_eq_true rfl⟩) hl.1 (Nat.le_of_ble_eq_true rfl) dX13_wouldGrow_36 ⟨Nat.le_of_ble_eq_true rfl, Nat.le_of_ble_eq_true rfl⟩ rfl kT_bl (fun _ _ _ => trivial) hN hK hP hD hS hA 0 11 rfl rfl rfl [0, 1, 2, 3, 4, 5, 6, 7, 8, 9, 10, 11] [] [0, 1, 2, 3, 4, 5, 6, 7, 8, 9, 10, 11] [0, 1, 2, 3] rfl rfl rfl ⟨by decide, by decide, by decide, by decide⟩ rfl (fun H locs hP hD hS => ?_)
          refine lv_istore_n (lv' := [(2, .int r_11), (3, .int x_7), (0, .ref (q0 0)), (1, .int a1)]) hx hb dX13_wouldGrow_39 rfl hl (by decide) rfl (fun ls hl => ?_)
          refine lv_iinc (v := (x_7 + 1)) (lv' := [(3, .int (x_7 + 1)), (2, .int r_11), (0, .ref (q0 0)), (1, .int a1)]) hx hb dX13_wouldGrow_40 hl (k := 1) rfl rfl (by decide) rfl (fun ls hl => ?_)
          refine lv_goto (tgt := 30) hx hb dX13_wouldGrow_43 (by decide) ?_
          exact ihL_10 (x_7 + 1) r_11 w_12 _ _ _ (lv_sub hl [0, 1, 2, 3] rfl) hP hD hS hf
    exact loL_10 FU 0 0 v_3 _ _ _ hl hP hD hS hf
  · replace hf := ifT cc hf
    refine lv_bipush (v := (-2)) hx hb dX13_wouldGrow_10 (by decide +kernel) ?_
    obtain ⟨rfl, rfl⟩ := re2 hf
    exact hE hP hD hS dX13_wouldGrow_12
