/-! Walks, laid by wip/whole/gen.py: for each method f_ (what it does to its world) and c_ (its contract). -/
def f_X9_walkOn_K2 (y_9 : Int32) (z_10 : SV) : Option SV :=
  some z_10
def f_X9_walkOn_B2 (a2 : Int32) (v1 : SV) (selfL_6 : (Int32 → SV → Option SV)) (x_4 : Int32) (u_5 : SV) : Option SV :=
  if 4 ≤ x_4 then
    f_X9_walkOn_K2 x_4 u_5
  else
    bd1 (f_X6_stepFrom a2 x_4 v1) fun r_7 =>
    if r_7 < 0 then
      selfL_6 (x_4 + 1) u_5
    else
      ckI r_7 12 <|
      if (u_5.2 0 r_7.toNatClampNeg) = (-4) then
        ckI a2 12 <|
        ckI r_7 12 <|
        nm (pA u_5 0 r_7 ((u_5.2 0 a2.toNatClampNeg) + 1)) fun v_8 =>
        selfL_6 (x_4 + 1) v_8
      else
        selfL_6 (x_4 + 1) u_5
def f_X9_walkOn (a2 : Int32) (v0 : SV) (v1 : SV) : Option SV :=
  lz2 (f_X9_walkOn_B2 a2 v1) FU 0 v0
abbrev rm_X9_walkOn : Room := { frames := 3, cells := 0, slots := 0, locals := 72 }
set_option maxHeartbeats 4000000 in
set_option maxRecDepth 100000 in
theorem c_X9_walkOn (l : Launch) (D : va_G) (G : Nat → ClassId) (q0 : Nat → Nat) (q1 : Nat → Nat) (a2 : Int32) (v0 : SV) (v1 : SV) (v0' : SV) (hf : f_X9_walkOn a2 v0 v1 = some v0') (sz : Nat) : mC l yX9_walkOn wsX9_walkOn rm_X9_walkOn D (tyG G) kT [.ref (q0 0), .ref (q1 0), .int a2] (kPaths G q0 v0 ++ kHouse G q1 v1) (kPaths G q0 v0' ++ kHouse G q1 v1) sz none 0 0 := by
  refine mC_ofV (cc := cX9_walkOn) (maxL := 5) (ret := none) (by decide) rfl rfl (Nat.le_of_ble_eq_true rfl) ?_
  intro p e s m args below meth c Q0 hx hb hml hts hown hN hK A hD hA hE hP hS hJ ls hl
  have hl : lv_has ls 5 [(0, .ref (q0 0)), (1, .ref (q1 0)), (2, .int a2)] := hl
  unfold f_X9_walkOn at hf
  have hi7 : ∀ w ∈ u_ws RX9 TX9 2, w ∈ wsX9_walkOn := by decide +kernel
  have hw1 := hts (.fieldLink RX9 9 "BalconyCensus$Paths" "walked" "[I") (by decide +kernel)
  refine lv_iconst (v := 0) hx hb dX9_walkOn_0 (by decide) ?_
  refine lv_istore_n (lv' := [(3, .int 0), (0, .ref (q0 0)), (1, .ref (q1 0)), (2, .int a2)]) hx hb dX9_walkOn_1 rfl hl (by decide) rfl (fun ls hl => ?_)
  have exL_6 : ∀ (y_9 : Int32) (z_10 : SV) (H : Heap) (locs : List Loc) (ls : Array Slot), lv_has ls 5 [(3, .int y_9), (0, .ref (q0 0)), (1, .ref (q1 0)), (2, .int a2)] → va_P D vwCl (kPaths G q0 z_10 ++ kHouse G q1 v1) H → va_D A (kPaths G q0 z_10 ++ kHouse G q1 v1) → va_S A s.heap H locs → f_X9_walkOn_K2 y_9 z_10 = some v0' → W p l e rm_X9_walkOn s m args below meth c H locs 0 0 Q0 (F0 m 53 ls []) := by
    intro y_9 z_10 H locs ls hl hP hD hS hf
    unfold f_X9_walkOn_K2 at hf
    obtain rfl := re1 hf
    exact hE hP hD hS dX9_walkOn_53
  have loL_6 : ∀ (n : Nat) (x_4 : Int32) (u_5 : SV) (H : Heap) (locs : List Loc) (ls : Array Slot), lv_has ls 5 [(3, .int x_4), (0, .ref (q0 0)), (1, .ref (q1 0)), (2, .int a2)] → va_P D vwCl (kPaths G q0 u_5 ++ kHouse G q1 v1) H → va_D A (kPaths G q0 u_5 ++ kHouse G q1 v1) → va_S A s.heap H locs → lz2 (f_X9_walkOn_B2 a2 v1) n x_4 u_5 = some v0' → W p l e rm_X9_walkOn s m args below meth c H locs 0 0 Q0 (F0 m 2 ls []) := by
    intro n
    induction n with
    | zero => intro x_4 u_5 H locs ls hl hP hD hS hf; cases hf
    | succ n ihL_6 =>
      intro x_4 u_5 H locs ls hl hP hD hS hf
      replace hf := lz2_s hf
      unfold f_X9_walkOn_B2 at hf
      refine lv_iload_n hx hb dX9_walkOn_2 rfl (lv_at hl 0 rfl) ?_
      refine lv_iconst (v := 4) hx hb dX9_walkOn_3 (by decide) ?_
      refine lv_icmp_ge (tgt := 53) hx hb dX9_walkOn_4 (by decide) (fun cc => ?_) (fun cc => ?_)
      · replace hf := ifT cc hf
        exact exL_6 x_4 u_5 _ _ _ (lv_sub hl [0, 1, 2, 3] rfl) hP hD hS hf
      · replace hf := ifF cc hf
        refine lv_aload_n hx hb dX9_walkOn_7 rfl (lv_at hl 2 rfl) ?_
        refine lv_iload_n hx hb dX9_walkOn_8 rfl (lv_at hl 3 rfl) ?_
        refine lv_iload_n hx hb dX9_walkOn_9 rfl (lv_at hl 0 rfl) ?_
        obtain ⟨r_7, hc, hf⟩ := bd1_of hf
        refine k_V (As := [.int a2, .int x_4]) (rest := []) (ws1 := (kPaths G q0 u_5 ++ kHouse G q1 v1)) ⟨hx, hb, hml, hown, hts⟩ (c_X6_stepFrom l D G q1 a2 x_4 v1 _ hc  _) (cwV 2 hts gX9_walkOn_X6_stepFrom rfl rfl rfl (by decide +kernel) ⟨Nat.le_of_ble_eq_true rfl, Nat.le_of_ble_eq_true rfl⟩) hl.1 (Nat.le_of_ble_eq_true rfl) dX9_walkOn_10 ⟨Nat.le_of_ble_eq_true rfl, Nat.le_of_ble_eq_true rfl⟩ rfl kT_bl (fun _ _ _ => trivial) hN hK hP hD hS hA 3 4 rfl rfl rfl [3, 4, 5, 6, 7, 8, 9, 10, 11, 12, 13, 14, 15, 16, 17] [0, 1, 2] [0, 1, 2, 3, 4, 5, 6, 7, 8, 9, 10, 11, 12, 13, 14, 15, 16, 17] [0, 1, 2, 3] rfl rfl rfl ⟨by decide, by decide, by decide, by decide⟩ rfl (fun H locs hP hD hS => ?_)
        refine lv_istore (lv' := [(4, .int r_7), (3, .int x_4), (0, .ref (q0 0)), (1, .ref (q1 0)), (2, .int a2)]) hx hb dX9_walkOn_13 hl (by decide) rfl (fun ls hl => ?_)
        refine lv_iload hx hb dX9_walkOn_15 (lv_at hl 0 rfl) ?_
        refine lv_if_lt (tgt := 47) hx hb dX9_walkOn_17 (by decide) (fun cc => ?_) (fun cc => ?_)
        · replace hf := ifT cc hf
          refine lv_iinc (v := (x_4 + 1)) (lv' := [(3, .int (x_4 + 1)), (4, .int r_7), (0, .ref (q0 0)), (1, .ref (q1 0)), (2, .int a2)]) hx hb dX9_walkOn_47 hl (k := 1) rfl rfl (by decide) rfl (fun ls hl => ?_)
          refine lv_goto (tgt := 2) hx hb dX9_walkOn_50 (by decide) ?_
          exact ihL_6 (x_4 + 1) u_5 _ _ _ (lv_sub hl [0, 2, 3, 4] rfl) hP hD hS hf
        · replace hf := ifF cc hf
          refine lv_aload_n hx hb dX9_walkOn_20 rfl (lv_at hl 2 rfl) ?_
          refine va_get (D := D) (ci := 7) (v := .ref (q0 1)) (C := RX9) (T := TX9) (N := 2) hx hb hts hi7 hown hK hP 0 rfl rfl 0 (by decide) hw1 (fun _ h9 => h9) rfl dX9_walkOn_21 ?_
          refine lv_iload hx hb dX9_walkOn_24 (lv_at hl 0 rfl) ?_
          obtain ⟨hin, hf⟩ := ckI_of hf
          refine va_iald (D := D) hx hb hK hP 1 0 rfl rfl hin dX9_walkOn_26 ?_
          refine lv_bipush (v := (-4)) hx hb dX9_walkOn_27 (by decide +kernel) ?_
          refine lv_icmp_ne (tgt := 47) hx hb dX9_walkOn_29 (by decide) (fun cc => ?_) (fun cc => ?_)
          · replace hf := ifF cc hf
            refine lv_iinc (v := (x_4 + 1)) (lv' := [(3, .int (x_4 + 1)), (4, .int r_7), (0, .ref (q0 0)), (1, .ref (q1 0)), (2, .int a2)]) hx hb dX9_walkOn_47 hl (k := 1) rfl rfl (by decide) rfl (fun ls hl => ?_)
            refine lv_goto (tgt := 2) hx hb dX9_walkOn_50 (by decide) ?_
            exact ihL_6 (x_4 + 1) u_5 _ _ _ (lv_sub hl [0, 2, 3, 4] rfl) hP hD hS hf
          · replace hf := ifT cc hf
            refine lv_aload_n hx hb dX9_walkOn_32 rfl (lv_at hl 2 rfl) ?_
            refine va_get (D := D) (ci := 7) (v := .ref (q0 1)) (C := RX9) (T := TX9) (N := 2) hx hb hts hi7 hown hK hP 0 rfl rfl 0 (by decide) hw1 (fun _ h9 => h9) rfl dX9_walkOn_33 ?_
            refine lv_iload hx hb dX9_walkOn_36 (lv_at hl 0 rfl) ?_
            refine lv_aload_n hx hb dX9_walkOn_38 rfl (lv_at hl 2 rfl) ?_
            refine va_get (D := D) (ci := 7) (v := .ref (q0 1)) (C := RX9) (T := TX9) (N := 2) hx hb hts hi7 hown hK hP 0 rfl rfl 0 (by decide) hw1 (fun _ h9 => h9) rfl dX9_walkOn_39 ?_
            refine lv_iload_n hx hb dX9_walkOn_42 rfl (lv_at hl 4 rfl) ?_
            obtain ⟨hin, hf⟩ := ckI_of hf
            refine va_iald (D := D) hx hb hK hP 1 0 rfl rfl hin dX9_walkOn_43 ?_
            refine lv_iconst (v := 1) hx hb dX9_walkOn_44 (by decide) ?_
            refine lv_iadd hx hb dX9_walkOn_45 ?_
            obtain ⟨hin, hf⟩ := ckI_of hf
            obtain ⟨v_8, ev_8, hf⟩ := nm_of hf
            refine va_iast (D := D) hx hb hK hP hD hS 1 0 rfl rfl hin dX9_walkOn_46 (fun H locs hP hD hS => ?_)
            have hP : va_P D vwCl (kPaths G q0 v_8 ++ kHouse G q1 v1) H := by rw [ev_8]; exact hP
            have hD : va_D A (kPaths G q0 v_8 ++ kHouse G q1 v1) := by rw [ev_8]; exact hD
            refine lv_iinc (v := (x_4 + 1)) (lv' := [(3, .int (x_4 + 1)), (4, .int r_7), (0, .ref (q0 0)), (1, .ref (q1 0)), (2, .int a2)]) hx hb dX9_walkOn_47 hl (k := 1) rfl rfl (by decide) rfl (fun ls hl => ?_)
            refine lv_goto (tgt := 2) hx hb dX9_walkOn_50 (by decide) ?_
            exact ihL_6 (x_4 + 1) v_8 _ _ _ (lv_sub hl [0, 2, 3, 4] rfl) hP hD hS hf
  exact loL_6 FU 0 v0 _ _ _ hl hP hD hS hf
def f_X9_walkFrom_K18 (y_22 : Int32) (z_23 : SV) : Option SV :=
  some z_23
def f_X9_walkFrom_K27 (selfL_15 : (Int32 → SV → Option SV)) (x_13 : Int32) (y_20 : Int32) (z_21 : SV) : Option SV :=
  selfL_15 (x_13 + 1) z_21
def f_X9_walkFrom_B27 (selfL_15 : (Int32 → SV → Option SV)) (x_13 : Int32) (v1 : SV) (selfL_18 : (Int32 → SV → Option SV)) (x_16 : Int32) (u_17 : SV) : Option SV :=
  if 12 ≤ x_16 then
    f_X9_walkFrom_K27 selfL_15 x_13 x_16 u_17
  else
    ckI x_16 12 <|
    if (u_17.2 0 x_16.toNatClampNeg) = x_13 then
      bd1 (f_X9_walkOn x_16 u_17 v1) fun w_19 =>
      selfL_18 (x_16 + 1) w_19
    else
      selfL_18 (x_16 + 1) u_17
def f_X9_walkFrom_B18 (v1 : SV) (selfL_15 : (Int32 → SV → Option SV)) (x_13 : Int32) (u_14 : SV) : Option SV :=
  if 12 ≤ x_13 then
    f_X9_walkFrom_K18 x_13 u_14
  else
    lz2 (f_X9_walkFrom_B27 selfL_15 x_13 v1) FU 0 u_14
def f_X9_walkFrom (a2 : Int32) (v0 : SV) (v1 : SV) : Option SV :=
  bd1 (f_J7_fill_53178 (-4) 12 (v0.2 0)) fun w_1 =>
  nm (pR v0 0 w_1) fun v_2 =>
  ckI a2 12 <|
  nm (pA v_2 0 a2 0) fun v_3 =>
  lz2 (f_X9_walkFrom_B18 v1) FU 0 v_3
abbrev rm_X9_walkFrom : Room := { frames := 4, cells := 0, slots := 0, locals := 96 }
set_option maxHeartbeats 4000000 in
set_option maxRecDepth 100000 in
theorem c_X9_walkFrom (l : Launch) (D : va_G) (G : Nat → ClassId) (q0 : Nat → Nat) (q1 : Nat → Nat) (a2 : Int32) (v0 : SV) (v1 : SV) (v0' : SV) (hf : f_X9_walkFrom a2 v0 v1 = some v0') (sz : Nat) : mC l yX9_walkFrom wsX9_walkFrom rm_X9_walkFrom D (tyG G) kT [.ref (q0 0), .ref (q1 0), .int a2] (kPaths G q0 v0 ++ kHouse G q1 v1) (kPaths G q0 v0' ++ kHouse G q1 v1) sz none 0 0 := by
  refine mC_ofV (cc := cX9_walkFrom) (maxL := 5) (ret := none) (by decide) rfl rfl (Nat.le_of_ble_eq_true rfl) ?_
  intro p e s m args below meth c Q0 hx hb hml hts hown hN hK A hD hA hE hP hS hJ ls hl
  have hl : lv_has ls 5 [(0, .ref (q0 0)), (1, .ref (q1 0)), (2, .int a2)] := hl
  unfold f_X9_walkFrom at hf
  have hi7 : ∀ w ∈ u_ws RX9 TX9 2, w ∈ wsX9_walkFrom := by decide +kernel
  have hw1 := hts (.fieldLink RX9 9 "BalconyCensus$Paths" "walked" "[I") (by decide +kernel)
  refine lv_aload_n hx hb dX9_walkFrom_0 rfl (lv_at hl 0 rfl) ?_
  refine va_get (D := D) (ci := 7) (v := .ref (q0 1)) (C := RX9) (T := TX9) (N := 2) hx hb hts hi7 hown hK hP 0 rfl rfl 0 (by decide) hw1 (fun _ h9 => h9) rfl dX9_walkFrom_1 ?_
  refine lv_bipush (v := (-4)) hx hb dX9_walkFrom_4 (by decide +kernel) ?_
  obtain ⟨w_1, hc, hf⟩ := bd1_of hf
  refine k_S (As := [.ref (q0 1), .int (-4)]) (rest := []) (ws1 := (kPaths G q0 (pR v0 0 w_1) ++ kHouse G q1 v1)) ⟨hx, hb, hml, hown, hts⟩ (c_J7_fill_53178 l D G (q0 1) 12 (-4) (v0.2 0) _ hc  _) (va_cwS 2 hts gX9_walkFrom_J7_fill_53178 rfl rfl rfl (by decide +kernel) ⟨Nat.le_of_ble_eq_true rfl, Nat.le_of_ble_eq_true rfl⟩) hl.1 (Nat.le_of_ble_eq_true rfl) dX9_walkFrom_6 ⟨Nat.le_of_ble_eq_true rfl, Nat.le_of_ble_eq_true rfl⟩ rfl kT_bl (fun _ _ _ => trivial) hN hK hP hD hS hA [1] [0, 2, 3, 4, 5, 6, 7, 8, 9, 10, 11, 12, 13, 14, 15, 16, 17] [0, 17, 1, 2, 3, 4, 5, 6, 7, 8, 9, 10, 11, 12, 13, 14, 15, 16] [0, 1, 2, 3] rfl rfl rfl ⟨by decide, by decide, by decide, by decide⟩ rfl (fun H locs hP hD hS => ?_)
  obtain ⟨v_2, ev_2, hf⟩ := nm_of hf
  have hP : va_P D vwCl (kPaths G q0 v_2 ++ kHouse G q1 v1) H := by rw [ev_2]; exact hP
  have hD : va_D A (kPaths G q0 v_2 ++ kHouse G q1 v1) := by rw [ev_2]; exact hD
  refine lv_aload_n hx hb dX9_walkFrom_9 rfl (lv_at hl 0 rfl) ?_
  refine va_get (D := D) (ci := 7) (v := .ref (q0 1)) (C := RX9) (T := TX9) (N := 2) hx hb hts hi7 hown hK hP 0 rfl rfl 0 (by decide) hw1 (fun _ h9 => h9) rfl dX9_walkFrom_10 ?_
  refine lv_iload_n hx hb dX9_walkFrom_13 rfl (lv_at hl 2 rfl) ?_
  refine lv_iconst (v := 0) hx hb dX9_walkFrom_14 (by decide) ?_
  obtain ⟨hin, hf⟩ := ckI_of hf
  obtain ⟨v_3, ev_3, hf⟩ := nm_of hf
  refine va_iast (D := D) hx hb hK hP hD hS 1 0 rfl rfl hin dX9_walkFrom_15 (fun H locs hP hD hS => ?_)
  have hP : va_P D vwCl (kPaths G q0 v_3 ++ kHouse G q1 v1) H := by rw [ev_3]; exact hP
  have hD : va_D A (kPaths G q0 v_3 ++ kHouse G q1 v1) := by rw [ev_3]; exact hD
  refine lv_iconst (v := 0) hx hb dX9_walkFrom_16 (by decide) ?_
  refine lv_istore_n (lv' := [(3, .int 0), (0, .ref (q0 0)), (1, .ref (q1 0)), (2, .int a2)]) hx hb dX9_walkFrom_17 rfl hl (by decide) rfl (fun ls hl => ?_)
  have exL_15 : ∀ (y_22 : Int32) (z_23 : SV) (H : Heap) (locs : List Loc) (ls : Array Slot), lv_has ls 5 [(3, .int y_22), (0, .ref (q0 0)), (1, .ref (q1 0)), (2, .int a2)] → va_P D vwCl (kPaths G q0 z_23 ++ kHouse G q1 v1) H → va_D A (kPaths G q0 z_23 ++ kHouse G q1 v1) → va_S A s.heap H locs → f_X9_walkFrom_K18 y_22 z_23 = some v0' → W p l e rm_X9_walkFrom s m args below meth c H locs 0 0 Q0 (F0 m 64 ls []) := by
    intro y_22 z_23 H locs ls hl hP hD hS hf
    unfold f_X9_walkFrom_K18 at hf
    obtain rfl := re1 hf
    exact hE hP hD hS dX9_walkFrom_64
  have loL_15 : ∀ (n : Nat) (x_13 : Int32) (u_14 : SV) (H : Heap) (locs : List Loc) (ls : Array Slot), lv_has ls 5 [(3, .int x_13), (0, .ref (q0 0)), (1, .ref (q1 0)), (2, .int a2)] → va_P D vwCl (kPaths G q0 u_14 ++ kHouse G q1 v1) H → va_D A (kPaths G q0 u_14 ++ kHouse G q1 v1) → va_S A s.heap H locs → lz2 (f_X9_walkFrom_B18 v1) n x_13 u_14 = some v0' → W p l e rm_X9_walkFrom s m args below meth c H locs 0 0 Q0 (F0 m 18 ls []) := by
    intro n
    induction n with
    | zero => intro x_13 u_14 H locs ls hl hP hD hS hf; cases hf
    | succ n ihL_15 =>
      intro x_13 u_14 H locs ls hl hP hD hS hf
      replace hf := lz2_s hf
      generalize lz2 (f_X9_walkFrom_B18 v1) n = selfL_15 at hf ihL_15
      unfold f_X9_walkFrom_B18 at hf
      refine lv_iload_n hx hb dX9_walkFrom_18 rfl (lv_at hl 0 rfl) ?_
      refine lv_bipush (v := 12) hx hb dX9_walkFrom_19 (by decide +kernel) ?_
      refine lv_icmp_ge (tgt := 64) hx hb dX9_walkFrom_21 (by decide) (fun cc => ?_) (fun cc => ?_)
      · replace hf := ifT cc hf
        exact exL_15 x_13 u_14 _ _ _ (lv_sub hl [0, 1, 2, 3] rfl) hP hD hS hf
      · replace hf := ifF cc hf
        refine lv_iconst (v := 0) hx hb dX9_walkFrom_24 (by decide) ?_
        refine lv_istore (lv' := [(4, .int 0), (3, .int x_13), (0, .ref (q0 0)), (1, .ref (q1 0)), (2, .int a2)]) hx hb dX9_walkFrom_25 hl (by decide) rfl (fun ls hl => ?_)
        have exL_18 : ∀ (y_20 : Int32) (z_21 : SV) (H : Heap) (locs : List Loc) (ls : Array Slot), lv_has ls 5 [(4, .int y_20), (3, .int x_13), (0, .ref (q0 0)), (1, .ref (q1 0)), (2, .int a2)] → va_P D vwCl (kPaths G q0 z_21 ++ kHouse G q1 v1) H → va_D A (kPaths G q0 z_21 ++ kHouse G q1 v1) → va_S A s.heap H locs → f_X9_walkFrom_K27 selfL_15 x_13 y_20 z_21 = some v0' → W p l e rm_X9_walkFrom s m args below meth c H locs 0 0 Q0 (F0 m 58 ls []) := by
          intro y_20 z_21 H locs ls hl hP hD hS hf
          unfold f_X9_walkFrom_K27 at hf
          refine lv_iinc (v := (x_13 + 1)) (lv' := [(3, .int (x_13 + 1)), (4, .int y_20), (0, .ref (q0 0)), (1, .ref (q1 0)), (2, .int a2)]) hx hb dX9_walkFrom_58 hl (k := 1) rfl rfl (by decide) rfl (fun ls hl => ?_)
          refine lv_goto (tgt := 18) hx hb dX9_walkFrom_61 (by decide) ?_
          exact ihL_15 (x_13 + 1) z_21 _ _ _ (lv_sub hl [0, 2, 3, 4] rfl) hP hD hS hf
        have loL_18 : ∀ (n : Nat) (x_16 : Int32) (u_17 : SV) (H : Heap) (locs : List Loc) (ls : Array Slot), lv_has ls 5 [(4, .int x_16), (3, .int x_13), (0, .ref (q0 0)), (1, .ref (q1 0)), (2, .int a2)] → va_P D vwCl (kPaths G q0 u_17 ++ kHouse G q1 v1) H → va_D A (kPaths G q0 u_17 ++ kHouse G q1 v1) → va_S A s.heap H locs → lz2 (f_X9_walkFrom_B27 selfL_15 x_13 v1) n x_16 u_17 = some v0' → W p l e rm_X9_walkFrom s m args below meth c H locs 0 0 Q0 (F0 m 27 ls []) := by
          intro n
          induction n with
          | zero => intro x_16 u_17 H locs ls hl hP hD hS hf; cases hf
          | succ n ihL_18 =>
            intro x_16 u_17 H locs ls hl hP hD hS hf
            replace hf := lz2_s hf
            unfold f_X9_walkFrom_B27 at hf
            refine lv_iload hx hb dX9_walkFrom_27 (lv_at hl 0 rfl) ?_
            refine lv_bipush (v := 12) hx hb dX9_walkFrom_29 (by decide +kernel) ?_
            refine lv_icmp_ge (tgt := 58) hx hb dX9_walkFrom_31 (by decide) (fun cc => ?_) (fun cc => ?_)
            · replace hf := ifT cc hf
              exact exL_18 x_16 u_17 _ _ _ (lv_sub hl [0, 1, 2, 3, 4] rfl) hP hD hS hf
            · replace hf := ifF cc hf
              refine lv_aload_n hx hb dX9_walkFrom_34 rfl (lv_at hl 2 rfl) ?_
              refine va_get (D := D) (ci := 7) (v := .ref (q0 1)) (C := RX9) (T := TX9) (N := 2) hx hb hts hi7 hown hK hP 0 rfl rfl 0 (by decide) hw1 (fun _ h9 => h9) rfl dX9_walkFrom_35 ?_
              refine lv_iload hx hb dX9_walkFrom_38 (lv_at hl 0 rfl) ?_
              obtain ⟨hin, hf⟩ := ckI_of hf
              refine va_iald (D := D) hx hb hK hP 1 0 rfl rfl hin dX9_walkFrom_40 ?_
              refine lv_iload_n hx hb dX9_walkFrom_41 rfl (lv_at hl 1 rfl) ?_
              refine lv_icmp_ne (tgt := 52) hx hb dX9_walkFrom_42 (by decide) (fun cc => ?_) (fun cc => ?_)
              · replace hf := ifF cc hf
                refine lv_iinc (v := (x_16 + 1)) (lv' := [(4, .int (x_16 + 1)), (3, .int x_13), (0, .ref (q0 0)), (1, .ref (q1 0)), (2, .int a2)]) hx hb dX9_walkFrom_52 hl (k := 0) rfl rfl (by decide) rfl (fun ls hl => ?_)
                refine lv_goto (tgt := 27) hx hb dX9_walkFrom_55 (by decide) ?_
                exact ihL_18 (x_16 + 1) u_17 _ _ _ (lv_sub hl [0, 1, 2, 3, 4] rfl) hP hD hS hf
              · replace hf := ifT cc hf
                refine lv_aload_n hx hb dX9_walkFrom_45 rfl (lv_at hl 2 rfl) ?_
                refine lv_aload_n hx hb dX9_walkFrom_46 rfl (lv_at hl 3 rfl) ?_
                refine lv_iload hx hb dX9_walkFrom_47 (lv_at hl 0 rfl) ?_
                obtain ⟨w_19, hc, hf⟩ := bd1_of hf
                refine k_V (As := [.ref (q1 0), .int x_16]) (rest := []) (ws1 := (kPaths G q0 w_19 ++ kHouse G q1 v1)) ⟨hx, hb, hml, hown, hts⟩ (c_X9_walkOn l D G q0 q1 x_16 u_17 v1 _ hc  _) (cwV 2 hts gX9_walkFrom_X9_walkOn rfl rfl rfl (by decide +kernel) ⟨Nat.le_of_ble_eq_true rfl, Nat.le_of_ble_eq_true rfl⟩) hl.1 (Nat.le_of_ble_eq_true rfl) dX9_walkFrom_49 ⟨Nat.le_of_ble_eq_true rfl, Nat.le_of_ble_eq_true rfl⟩ rfl kT_bl (fun _ _ _ => trivial) hN hK hP hD hS hA 0 7 rfl rfl rfl [0, 1, 2, 3, 4, 5, 6, 7, 8, 9, 10, 11, 12, 13, 14, 15, 16, 17] [] [0, 1, 2, 3, 4, 5, 6, 7, 8, 9, 10, 11, 12, 13, 14, 15, 16, 17] [0, 1, 2, 3] rfl rfl rfl ⟨by decide, by decide, by decide, by decide⟩ rfl (fun H locs hP hD hS => ?_)
                refine lv_iinc (v := (x_16 + 1)) (lv' := [(4, .int (x_16 + 1)), (3, .int x_13), (0, .ref (q0 0)), (1, .ref (q1 0)), (2, .int a2)]) hx hb dX9_walkFrom_52 hl (k := 0) rfl rfl (by decide) rfl (fun ls hl => ?_)
                refine lv_goto (tgt := 27) hx hb dX9_walkFrom_55 (by decide) ?_
                exact ihL_18 (x_16 + 1) w_19 _ _ _ (lv_sub hl [0, 1, 2, 3, 4] rfl) hP hD hS hf
        exact loL_18 FU 0 u_14 _ _ _ hl hP hD hS hf
  exact loL_15 FU 0 v_3 _ _ _ hl hP hD hS hf
def f_X9_lessenBeside_K5 (y_10 : Int32) (y_11 : Int32) (z_12 : SV) : Option (Int32 × SV) :=
  ckB y_11 <|
  some (y_11, z_12)
def f_X9_lessenBeside_B5 (a2 : Int32) (v1 : SV) (selfL_7 : (Int32 → Int32 → SV → Option (Int32 × SV))) (x_4 : Int32) (x_5 : Int32) (u_6 : SV) : Option (Int32 × SV) :=
  if 4 ≤ x_4 then
    f_X9_lessenBeside_K5 x_4 x_5 u_6
  else
    bd1 (f_X6_stepFrom a2 x_4 v1) fun r_8 =>
    if r_8 < 0 then
      selfL_7 (x_4 + 1) x_5 u_6
    else
      ckI a2 12 <|
      ckI r_8 12 <|
      if (u_6.2 1 r_8.toNatClampNeg) ≤ ((u_6.2 1 a2.toNatClampNeg) + 1) then
        selfL_7 (x_4 + 1) x_5 u_6
      else
        ckI a2 12 <|
        ckI r_8 12 <|
        nm (pA u_6 1 r_8 ((u_6.2 1 a2.toNatClampNeg) + 1)) fun v_9 =>
        selfL_7 (x_4 + 1) 1 v_9
def f_X9_lessenBeside (a2 : Int32) (v0 : SV) (v1 : SV) : Option (Int32 × SV) :=
  lz3 (f_X9_lessenBeside_B5 a2 v1) FU 0 0 v0
abbrev rm_X9_lessenBeside : Room := { frames := 3, cells := 0, slots := 0, locals := 72 }
set_option maxHeartbeats 4000000 in
set_option maxRecDepth 100000 in
theorem c_X9_lessenBeside (l : Launch) (D : va_G) (G : Nat → ClassId) (q0 : Nat → Nat) (q1 : Nat → Nat) (a2 : Int32) (v0 : SV) (v1 : SV) (r : Int32) (v0' : SV) (hf : f_X9_lessenBeside a2 v0 v1 = some (r, v0')) (sz : Nat) : mC l yX9_lessenBeside wsX9_lessenBeside rm_X9_lessenBeside D (tyG G) kT [.ref (q0 0), .ref (q1 0), .int a2] (kPaths G q0 v0 ++ kHouse G q1 v1) (kPaths G q0 v0' ++ kHouse G q1 v1) sz (some (.int r)) 0 0 := by
  refine mC_ofZ (cc := cX9_lessenBeside) (maxL := 6) (ret := (some .boolean)) (by decide) rfl rfl (Nat.le_of_ble_eq_true rfl) ?_
  intro p e s m args below meth c Q0 hx hb hml hts hown hN hK A hD hA hE hP hS hJ ls hl
  have hl : lv_has ls 6 [(0, .ref (q0 0)), (1, .ref (q1 0)), (2, .int a2)] := hl
  unfold f_X9_lessenBeside at hf
  have hi7 : ∀ w ∈ u_ws RX9 TX9 2, w ∈ wsX9_lessenBeside := by decide +kernel
  have hw1 := hts (.fieldLink RX9 15 "BalconyCensus$Paths" "lessened" "[I") (by decide +kernel)
  refine lv_iconst (v := 0) hx hb dX9_lessenBeside_0 (by decide) ?_
  refine lv_istore_n (lv' := [(3, .int 0), (0, .ref (q0 0)), (1, .ref (q1 0)), (2, .int a2)]) hx hb dX9_lessenBeside_1 rfl hl (by decide) rfl (fun ls hl => ?_)
  refine lv_iconst (v := 0) hx hb dX9_lessenBeside_2 (by decide) ?_
  refine lv_istore (lv' := [(4, .int 0), (3, .int 0), (0, .ref (q0 0)), (1, .ref (q1 0)), (2, .int a2)]) hx hb dX9_lessenBeside_3 hl (by decide) rfl (fun ls hl => ?_)
  have exL_7 : ∀ (y_10 : Int32) (y_11 : Int32) (z_12 : SV) (H : Heap) (locs : List Loc) (ls : Array Slot), lv_has ls 6 [(4, .int y_10), (3, .int y_11), (0, .ref (q0 0)), (1, .ref (q1 0)), (2, .int a2)] → va_P D vwCl (kPaths G q0 z_12 ++ kHouse G q1 v1) H → va_D A (kPaths G q0 z_12 ++ kHouse G q1 v1) → va_S A s.heap H locs → f_X9_lessenBeside_K5 y_10 y_11 z_12 = some (r, v0') → W p l e rm_X9_lessenBeside s m args below meth c H locs 0 0 Q0 (F0 m 66 ls []) := by
    intro y_10 y_11 z_12 H locs ls hl hP hD hS hf
    unfold f_X9_lessenBeside_K5 at hf
    refine lv_iload_n hx hb dX9_lessenBeside_66 rfl (lv_at hl 1 rfl) ?_
    obtain ⟨h01, hf⟩ := ckB_of hf
    obtain ⟨rfl, rfl⟩ := re2 hf
    exact hE h01 hP hD hS dX9_lessenBeside_67
  have loL_7 : ∀ (n : Nat) (x_4 : Int32) (x_5 : Int32) (u_6 : SV) (H : Heap) (locs : List Loc) (ls : Array Slot), lv_has ls 6 [(4, .int x_4), (3, .int x_5), (0, .ref (q0 0)), (1, .ref (q1 0)), (2, .int a2)] → va_P D vwCl (kPaths G q0 u_6 ++ kHouse G q1 v1) H → va_D A (kPaths G q0 u_6 ++ kHouse G q1 v1) → va_S A s.heap H locs → lz3 (f_X9_lessenBeside_B5 a2 v1) n x_4 x_5 u_6 = some (r, v0') → W p l e rm_X9_lessenBeside s m args below meth c H locs 0 0 Q0 (F0 m 5 ls []) := by
    intro n
    induction n with
    | zero => intro x_4 x_5 u_6 H locs ls hl hP hD hS hf; cases hf
    | succ n ihL_7 =>
      intro x_4 x_5 u_6 H locs ls hl hP hD hS hf
      replace hf := lz3_s hf
      unfold f_X9_lessenBeside_B5 at hf
      refine lv_iload hx hb dX9_lessenBeside_5 (lv_at hl 0 rfl) ?_
      refine lv_iconst (v := 4) hx hb dX9_lessenBeside_7 (by decide) ?_
      refine lv_icmp_ge (tgt := 66) hx hb dX9_lessenBeside_8 (by decide) (fun cc => ?_) (fun cc => ?_)
      · replace hf := ifT cc hf
        exact exL_7 x_4 x_5 u_6 _ _ _ (lv_sub hl [0, 1, 2, 3, 4] rfl) hP hD hS hf
      · replace hf := ifF cc hf
        refine lv_aload_n hx hb dX9_lessenBeside_11 rfl (lv_at hl 3 rfl) ?_
        refine lv_iload_n hx hb dX9_lessenBeside_12 rfl (lv_at hl 4 rfl) ?_
        refine lv_iload hx hb dX9_lessenBeside_13 (lv_at hl 0 rfl) ?_
        obtain ⟨r_8, hc, hf⟩ := bd1_of hf
        refine k_V (As := [.int a2, .int x_4]) (rest := []) (ws1 := (kPaths G q0 u_6 ++ kHouse G q1 v1)) ⟨hx, hb, hml, hown, hts⟩ (c_X6_stepFrom l D G q1 a2 x_4 v1 _ hc  _) (cwV 2 hts gX9_lessenBeside_X6_stepFrom rfl rfl rfl (by decide +kernel) ⟨Nat.le_of_ble_eq_true rfl, Nat.le_of_ble_eq_true rfl⟩) hl.1 (Nat.le_of_ble_eq_true rfl) dX9_lessenBeside_15 ⟨Nat.le_of_ble_eq_true rfl, Nat.le_of_ble_eq_true rfl⟩ rfl kT_bl (fun _ _ _ => trivial) hN hK hP hD hS hA 3 4 rfl rfl rfl [3, 4, 5, 6, 7, 8, 9, 10, 11, 12, 13, 14, 15, 16, 17] [0, 1, 2] [0, 1, 2, 3, 4, 5, 6, 7, 8, 9, 10, 11, 12, 13, 14, 15, 16, 17] [0, 1, 2, 3] rfl rfl rfl ⟨by decide, by decide, by decide, by decide⟩ rfl (fun H locs hP hD hS => ?_)
        refine lv_istore (lv' := [(5, .int r_8), (4, .int x_4), (3, .int x_5), (0, .ref (q0 0)), (1, .ref (q1 0)), (2, .int a2)]) hx hb dX9_lessenBeside_18 hl (by decide) rfl (fun ls hl => ?_)
        refine lv_iload hx hb dX9_lessenBeside_20 (lv_at hl 0 rfl) ?_
        refine lv_if_lt (tgt := 60) hx hb dX9_lessenBeside_22 (by decide) (fun cc => ?_) (fun cc => ?_)
        · replace hf := ifT cc hf
          refine lv_iinc (v := (x_4 + 1)) (lv' := [(4, .int (x_4 + 1)), (5, .int r_8), (3, .int x_5), (0, .ref (q0 0)), (1, .ref (q1 0)), (2, .int a2)]) hx hb dX9_lessenBeside_60 hl (k := 1) rfl rfl (by decide) rfl (fun ls hl => ?_)
          refine lv_goto (tgt := 5) hx hb dX9_lessenBeside_63 (by decide) ?_
          exact ihL_7 (x_4 + 1) x_5 u_6 _ _ _ (lv_sub hl [0, 2, 3, 4, 5] rfl) hP hD hS hf
        · replace hf := ifF cc hf
          refine lv_aload_n hx hb dX9_lessenBeside_25 rfl (lv_at hl 3 rfl) ?_
          refine va_get (D := D) (ci := 7) (v := .ref (q0 2)) (C := RX9) (T := TX9) (N := 2) hx hb hts hi7 hown hK hP 0 rfl rfl 1 (by decide) hw1 (fun _ h9 => h9) rfl dX9_lessenBeside_26 ?_
          refine lv_iload_n hx hb dX9_lessenBeside_29 rfl (lv_at hl 5 rfl) ?_
          obtain ⟨hin, hf⟩ := ckI_of hf
          refine va_iald (D := D) hx hb hK hP 2 0 rfl rfl hin dX9_lessenBeside_30 ?_
          refine lv_iconst (v := 1) hx hb dX9_lessenBeside_31 (by decide) ?_
          refine lv_iadd hx hb dX9_lessenBeside_32 ?_
          refine lv_aload_n hx hb dX9_lessenBeside_33 rfl (lv_at hl 3 rfl) ?_
          refine va_get (D := D) (ci := 7) (v := .ref (q0 2)) (C := RX9) (T := TX9) (N := 2) hx hb hts hi7 hown hK hP 0 rfl rfl 1 (by decide) hw1 (fun _ h9 => h9) rfl dX9_lessenBeside_34 ?_
          refine lv_iload hx hb dX9_lessenBeside_37 (lv_at hl 0 rfl) ?_
          obtain ⟨hin, hf⟩ := ckI_of hf
          refine va_iald (D := D) hx hb hK hP 2 0 rfl rfl hin dX9_lessenBeside_39 ?_
          refine lv_icmp_ge (tgt := 60) hx hb dX9_lessenBeside_40 (by decide) (fun cc => ?_) (fun cc => ?_)
          · replace hf := ifT cc hf
            refine lv_iinc (v := (x_4 + 1)) (lv' := [(4, .int (x_4 + 1)), (5, .int r_8), (3, .int x_5), (0, .ref (q0 0)), (1, .ref (q1 0)), (2, .int a2)]) hx hb dX9_lessenBeside_60 hl (k := 1) rfl rfl (by decide) rfl (fun ls hl => ?_)
            refine lv_goto (tgt := 5) hx hb dX9_lessenBeside_63 (by decide) ?_
            exact ihL_7 (x_4 + 1) x_5 u_6 _ _ _ (lv_sub hl [0, 2, 3, 4, 5] rfl) hP hD hS hf
          · replace hf := ifF cc hf
            refine lv_aload_n hx hb dX9_lessenBeside_43 rfl (lv_at hl 3 rfl) ?_
            refine va_get (D := D) (ci := 7) (v := .ref (q0 2)) (C := RX9) (T := TX9) (N := 2) hx hb hts hi7 hown hK hP 0 rfl rfl 1 (by decide) hw1 (fun _ h9 => h9) rfl dX9_lessenBeside_44 ?_
            refine lv_iload hx hb dX9_lessenBeside_47 (lv_at hl 0 rfl) ?_
            refine lv_aload_n hx hb dX9_lessenBeside_49 rfl (lv_at hl 3 rfl) ?_
            refine va_get (D := D) (ci := 7) (v := .ref (q0 2)) (C := RX9) (T := TX9) (N := 2) hx hb hts hi7 hown hK hP 0 rfl rfl 1 (by decide) hw1 (fun _ h9 => h9) rfl dX9_lessenBeside_50 ?_
            refine lv_iload_n hx hb dX9_lessenBeside_53 rfl (lv_at hl 5 rfl) ?_
            obtain ⟨hin, hf⟩ := ckI_of hf
            refine va_iald (D := D) hx hb hK hP 2 0 rfl rfl hin dX9_lessenBeside_54 ?_
            refine lv_iconst (v := 1) hx hb dX9_lessenBeside_55 (by decide) ?_
            refine lv_iadd hx hb dX9_lessenBeside_56 ?_
            obtain ⟨hin, hf⟩ := ckI_of hf
            obtain ⟨v_9, ev_9, hf⟩ := nm_of hf
            refine va_iast (D := D) hx hb hK hP hD hS 2 0 rfl rfl hin dX9_lessenBeside_57 (fun H locs hP hD hS => ?_)
            have hP : va_P D vwCl (kPaths G q0 v_9 ++ kHouse G q1 v1) H := by rw [ev_9]; exact hP
            have hD : va_D A (kPaths G q0 v_9 ++ kHouse G q1 v1) := by rw [ev_9]; exact hD
            refine lv_iconst (v := 1) hx hb dX9_lessenBeside_58 (by decide) ?_
            refine lv_istore_n (lv' := [(3, .int 1), (5, .int r_8), (4, .int x_4), (0, .ref (q0 0)), (1, .ref (q1 0)), (2, .int a2)]) hx hb dX9_lessenBeside_59 rfl hl (by decide) rfl (fun ls hl => ?_)
            refine lv_iinc (v := (x_4 + 1)) (lv' := [(4, .int (x_4 + 1)), (3, .int 1), (5, .int r_8), (0, .ref (q0 0)), (1, .ref (q1 0)), (2, .int a2)]) hx hb dX9_lessenBeside_60 hl (k := 2) rfl rfl (by decide) rfl (fun ls hl => ?_)
            refine lv_goto (tgt := 5) hx hb dX9_lessenBeside_63 (by decide) ?_
            exact ihL_7 (x_4 + 1) 1 v_9 _ _ _ (lv_sub hl [0, 1, 3, 4, 5] rfl) hP hD hS hf
  exact loL_7 FU 0 0 v0 _ _ _ hl hP hD hS hf
def f_X9_lessenFrom_K72 (y_39 : Int32) (z_40 : SV) : Option SV :=
  some z_40
def f_X9_lessenFrom_B72 (selfL_37 : (Int32 → SV → Option SV)) (x_35 : Int32) (u_36 : SV) : Option SV :=
  if 12 ≤ x_35 then
    f_X9_lessenFrom_K72 x_35 u_36
  else
    ckI x_35 12 <|
    if (u_36.2 1 x_35.toNatClampNeg) < 1000 then
      selfL_37 (x_35 + 1) u_36
    else
      ckI x_35 12 <|
      nm (pA u_36 1 x_35 (-4)) fun v_38 =>
      selfL_37 (x_35 + 1) v_38
def f_X9_lessenFrom_K22 (y_30 : Int32) (y_31 : Int32) (z_32 : SV) : Option SV :=
  lz2 (f_X9_lessenFrom_B72) FU 0 z_32
def f_X9_lessenFrom_K38 (selfL_20 : (Int32 → Int32 → SV → Option SV)) (x_17 : Int32) (y_27 : Int32) (y_28 : Int32) (z_29 : SV) : Option SV :=
  selfL_20 (x_17 + 1) y_28 z_29
def f_X9_lessenFrom_B38 (selfL_20 : (Int32 → Int32 → SV → Option SV)) (x_17 : Int32) (v1 : SV) (selfL_24 : (Int32 → Int32 → SV → Option SV)) (x_21 : Int32) (x_22 : Int32) (u_23 : SV) : Option SV :=
  if 12 ≤ x_21 then
    f_X9_lessenFrom_K38 selfL_20 x_17 x_21 x_22 u_23
  else
    bd2 (f_X9_lessenBeside x_21 u_23 v1) fun r_25 w_26 =>
    if r_25 = 0 then
      selfL_24 (x_21 + 1) x_22 w_26
    else
      selfL_24 (x_21 + 1) 1 w_26
def f_X9_lessenFrom_B22 (v1 : SV) (selfL_20 : (Int32 → Int32 → SV → Option SV)) (x_17 : Int32) (x_18 : Int32) (u_19 : SV) : Option SV :=
  if 12 ≤ x_17 then
    f_X9_lessenFrom_K22 x_17 x_18 u_19
  else
    if x_18 = 0 then
      f_X9_lessenFrom_K22 x_17 x_18 u_19
    else
      lz3 (f_X9_lessenFrom_B38 selfL_20 x_17 v1) FU 0 0 u_19
def f_X9_lessenFrom (a2 : Int32) (v0 : SV) (v1 : SV) : Option SV :=
  bd1 (f_J7_fill_53178 1000 12 (v0.2 1)) fun w_1 =>
  nm (pR v0 1 w_1) fun v_2 =>
  ckI a2 12 <|
  nm (pA v_2 1 a2 0) fun v_3 =>
  lz3 (f_X9_lessenFrom_B22 v1) FU 0 1 v_3
abbrev rm_X9_lessenFrom : Room := { frames := 4, cells := 0, slots := 0, locals := 97 }
set_option maxHeartbeats 4000000 in
set_option maxRecDepth 100000 in
theorem c_X9_lessenFrom (l : Launch) (D : va_G) (G : Nat → ClassId) (q0 : Nat → Nat) (q1 : Nat → Nat) (a2 : Int32) (v0 : SV) (v1 : SV) (v0' : SV) (hf : f_X9_lessenFrom a2 v0 v1 = some v0') (sz : Nat) : mC l yX9_lessenFrom wsX9_lessenFrom rm_X9_lessenFrom D (tyG G) kT [.ref (q0 0), .ref (q1 0), .int a2] (kPaths G q0 v0 ++ kHouse G q1 v1) (kPaths G q0 v0' ++ kHouse G q1 v1) sz none 0 0 := by
  refine mC_ofV (cc := cX9_lessenFrom) (maxL := 6) (ret := none) (by decide) rfl rfl (Nat.le_of_ble_eq_true rfl) ?_
  intro p e s m args below meth c Q0 hx hb hml hts hown hN hK A hD hA hE hP hS hJ ls hl
  have hl : lv_has ls 6 [(0, .ref (q0 0)), (1, .ref (q1 0)), (2, .int a2)] := hl
  unfold f_X9_lessenFrom at hf
  have hi7 : ∀ w ∈ u_ws RX9 TX9 2, w ∈ wsX9_lessenFrom := by decide +kernel
  have hw1 := hts (.fieldLink RX9 15 "BalconyCensus$Paths" "lessened" "[I") (by decide +kernel)
  refine lv_aload_n hx hb dX9_lessenFrom_0 rfl (lv_at hl 0 rfl) ?_
  refine va_get (D := D) (ci := 7) (v := .ref (q0 2)) (C := RX9) (T := TX9) (N := 2) hx hb hts hi7 hown hK hP 0 rfl rfl 1 (by decide) hw1 (fun _ h9 => h9) rfl dX9_lessenFrom_1 ?_
  refine lv_sipush (v := 1000) hx hb dX9_lessenFrom_4 (by decide +kernel) ?_
  obtain ⟨w_1, hc, hf⟩ := bd1_of hf
  refine k_S (As := [.ref (q0 2), .int 1000]) (rest := []) (ws1 := (kPaths G q0 (pR v0 1 w_1) ++ kHouse G q1 v1)) ⟨hx, hb, hml, hown, hts⟩ (c_J7_fill_53178 l D G (q0 2) 12 1000 (v0.2 1) _ hc  _) (va_cwS 2 hts gX9_lessenFrom_J7_fill_53178 rfl rfl rfl (by decide +kernel) ⟨Nat.le_of_ble_eq_true rfl, Nat.le_of_ble_eq_true rfl⟩) hl.1 (Nat.le_of_ble_eq_true rfl) dX9_lessenFrom_7 ⟨Nat.le_of_ble_eq_true rfl, Nat.le_of_ble_eq_true rfl⟩ rfl kT_bl (fun _ _ _ => trivial) hN hK hP hD hS hA [2] [0, 1, 3, 4, 5, 6, 7, 8, 9, 10, 11, 12, 13, 14, 15, 16, 17] [0, 1, 17, 2, 3, 4, 5, 6, 7, 8, 9, 10, 11, 12, 13, 14, 15, 16] [0, 1, 2, 3] rfl rfl rfl ⟨by decide, by decide, by decide, by decide⟩ rfl (fun H locs hP hD hS => ?_)
  obtain ⟨v_2, ev_2, hf⟩ := nm_of hf
  have hP : va_P D vwCl (kPaths G q0 v_2 ++ kHouse G q1 v1) H := by rw [ev_2]; exact hP
  have hD : va_D A (kPaths G q0 v_2 ++ kHouse G q1 v1) := by rw [ev_2]; exact hD
  refine lv_aload_n hx hb dX9_lessenFrom_10 rfl (lv_at hl 0 rfl) ?_
  refine va_get (D := D) (ci := 7) (v := .ref (q0 2)) (C := RX9) (T := TX9) (N := 2) hx hb hts hi7 hown hK hP 0 rfl rfl 1 (by decide) hw1 (fun _ h9 => h9) rfl dX9_lessenFrom_11 ?_
  refine lv_iload_n hx hb dX9_lessenFrom_14 rfl (lv_at hl 2 rfl) ?_
  refine lv_iconst (v := 0) hx hb dX9_lessenFrom_15 (by decide) ?_
  obtain ⟨hin, hf⟩ := ckI_of hf
  obtain ⟨v_3, ev_3, hf⟩ := nm_of hf
  refine va_iast (D := D) hx hb hK hP hD hS 2 0 rfl rfl hin dX9_lessenFrom_16 (fun H locs hP hD hS => ?_)
  have hP : va_P D vwCl (kPaths G q0 v_3 ++ kHouse G q1 v1) H := by rw [ev_3]; exact hP
  have hD : va_D A (kPaths G q0 v_3 ++ kHouse G q1 v1) := by rw [ev_3]; exact hD
  refine lv_iconst (v := 1) hx hb dX9_lessenFrom_17 (by decide) ?_
  refine lv_istore_n (lv' := [(3, .int 1), (0, .ref (q0 0)), (1, .ref (q1 0)), (2, .int a2)]) hx hb dX9_lessenFrom_18 rfl hl (by decide) rfl (fun ls hl => ?_)
  refine lv_iconst (v := 0) hx hb dX9_lessenFrom_19 (by decide) ?_
  refine lv_istore (lv' := [(4, .int 0), (3, .int 1), (0, .ref (q0 0)), (1, .ref (q1 0)), (2, .int a2)]) hx hb dX9_lessenFrom_20 hl (by decide) rfl (fun ls hl => ?_)
  have exL_20 : ∀ (y_30 : Int32) (y_31 : Int32) (z_32 : SV) (H : Heap) (locs : List Loc) (ls : Array Slot), lv_has ls 6 [(4, .int y_30), (3, .int y_31), (0, .ref (q0 0)), (1, .ref (q1 0)), (2, .int a2)] → va_P D vwCl (kPaths G q0 z_32 ++ kHouse G q1 v1) H → va_D A (kPaths G q0 z_32 ++ kHouse G q1 v1) → va_S A s.heap H locs → f_X9_lessenFrom_K22 y_30 y_31 z_32 = some v0' → W p l e rm_X9_lessenFrom s m args below meth c H locs 0 0 Q0 (F0 m 69 ls []) := by
    intro y_30 y_31 z_32 H locs ls hl hP hD hS hf
    unfold f_X9_lessenFrom_K22 at hf
    refine lv_iconst (v := 0) hx hb dX9_lessenFrom_69 (by decide) ?_
    refine lv_istore (lv' := [(4, .int 0), (3, .int y_31), (0, .ref (q0 0)), (1, .ref (q1 0)), (2, .int a2)]) hx hb dX9_lessenFrom_70 hl (by decide) rfl (fun ls hl => ?_)
    have exL_37 : ∀ (y_39 : Int32) (z_40 : SV) (H : Heap) (locs : List Loc) (ls : Array Slot), lv_has ls 6 [(4, .int y_39), (3, .int y_31), (0, .ref (q0 0)), (1, .ref (q1 0)), (2, .int a2)] → va_P D vwCl (kPaths G q0 z_40 ++ kHouse G q1 v1) H → va_D A (kPaths G q0 z_40 ++ kHouse G q1 v1) → va_S A s.heap H locs → f_X9_lessenFrom_K72 y_39 z_40 = some v0' → W p l e rm_X9_lessenFrom s m args below meth c H locs 0 0 Q0 (F0 m 107 ls []) := by
      intro y_39 z_40 H locs ls hl hP hD hS hf
      unfold f_X9_lessenFrom_K72 at hf
      obtain rfl := re1 hf
      exact hE hP hD hS dX9_lessenFrom_107
    have loL_37 : ∀ (n : Nat) (x_35 : Int32) (u_36 : SV) (H : Heap) (locs : List Loc) (ls : Array Slot), lv_has ls 6 [(4, .int x_35), (3, .int y_31), (0, .ref (q0 0)), (1, .ref (q1 0)), (2, .int a2)] → va_P D vwCl (kPaths G q0 u_36 ++ kHouse G q1 v1) H → va_D A (kPaths G q0 u_36 ++ kHouse G q1 v1) → va_S A s.heap H locs → lz2 (f_X9_lessenFrom_B72) n x_35 u_36 = some v0' → W p l e rm_X9_lessenFrom s m args below meth c H locs 0 0 Q0 (F0 m 72 ls []) := by
      intro n
      induction n with
      | zero => intro x_35 u_36 H locs ls hl hP hD hS hf; cases hf
      | succ n ihL_37 =>
        intro x_35 u_36 H locs ls hl hP hD hS hf
        replace hf := lz2_s hf
        unfold f_X9_lessenFrom_B72 at hf
        refine lv_iload hx hb dX9_lessenFrom_72 (lv_at hl 0 rfl) ?_
        refine lv_bipush (v := 12) hx hb dX9_lessenFrom_74 (by decide +kernel) ?_
        refine lv_icmp_ge (tgt := 107) hx hb dX9_lessenFrom_76 (by decide) (fun cc => ?_) (fun cc => ?_)
        · replace hf := ifT cc hf
          exact exL_37 x_35 u_36 _ _ _ (lv_sub hl [0, 1, 2, 3, 4] rfl) hP hD hS hf
        · replace hf := ifF cc hf
          refine lv_aload_n hx hb dX9_lessenFrom_79 rfl (lv_at hl 2 rfl) ?_
          refine va_get (D := D) (ci := 7) (v := .ref (q0 2)) (C := RX9) (T := TX9) (N := 2) hx hb hts hi7 hown hK hP 0 rfl rfl 1 (by decide) hw1 (fun _ h9 => h9) rfl dX9_lessenFrom_80 ?_
          refine lv_iload hx hb dX9_lessenFrom_83 (lv_at hl 0 rfl) ?_
          obtain ⟨hin, hf⟩ := ckI_of hf
          refine va_iald (D := D) hx hb hK hP 2 0 rfl rfl hin dX9_lessenFrom_85 ?_
          refine lv_sipush (v := 1000) hx hb dX9_lessenFrom_86 (by decide +kernel) ?_
          refine lv_icmp_lt (tgt := 101) hx hb dX9_lessenFrom_89 (by decide) (fun cc => ?_) (fun cc => ?_)
          · replace hf := ifT cc hf
            refine lv_iinc (v := (x_35 + 1)) (lv' := [(4, .int (x_35 + 1)), (3, .int y_31), (0, .ref (q0 0)), (1, .ref (q1 0)), (2, .int a2)]) hx hb dX9_lessenFrom_101 hl (k := 0) rfl rfl (by decide) rfl (fun ls hl => ?_)
            refine lv_goto (tgt := 72) hx hb dX9_lessenFrom_104 (by decide) ?_
            exact ihL_37 (x_35 + 1) u_36 _ _ _ (lv_sub hl [0, 1, 2, 3, 4] rfl) hP hD hS hf
          · replace hf := ifF cc hf
            refine lv_aload_n hx hb dX9_lessenFrom_92 rfl (lv_at hl 2 rfl) ?_
            refine va_get (D := D) (ci := 7) (v := .ref (q0 2)) (C := RX9) (T := TX9) (N := 2) hx hb hts hi7 hown hK hP 0 rfl rfl 1 (by decide) hw1 (fun _ h9 => h9) rfl dX9_lessenFrom_93 ?_
            refine lv_iload hx hb dX9_lessenFrom_96 (lv_at hl 0 rfl) ?_
            refine lv_bipush (v := (-4)) hx hb dX9_lessenFrom_98 (by decide +kernel) ?_
            obtain ⟨hin, hf⟩ := ckI_of hf
            obtain ⟨v_38, ev_38, hf⟩ := nm_of hf
            refine va_iast (D := D) hx hb hK hP hD hS 2 0 rfl rfl hin dX9_lessenFrom_100 (fun H locs hP hD hS => ?_)
            have hP : va_P D vwCl (kPaths G q0 v_38 ++ kHouse G q1 v1) H := by rw [ev_38]; exact hP
            have hD : va_D A (kPaths G q0 v_38 ++ kHouse G q1 v1) := by rw [ev_38]; exact hD
            refine lv_iinc (v := (x_35 + 1)) (lv' := [(4, .int (x_35 + 1)), (3, .int y_31), (0, .ref (q0 0)), (1, .ref (q1 0)), (2, .int a2)]) hx hb dX9_lessenFrom_101 hl (k := 0) rfl rfl (by decide) rfl (fun ls hl => ?_)
            refine lv_goto (tgt := 72) hx hb dX9_lessenFrom_104 (by decide) ?_
            exact ihL_37 (x_35 + 1) v_38 _ _ _ (lv_sub hl [0, 1, 2, 3, 4] rfl) hP hD hS hf
    exact loL_37 FU 0 z_32 _ _ _ hl hP hD hS hf
  have loL_20 : ∀ (n : Nat) (x_17 : Int32) (x_18 : Int32) (u_19 : SV) (H : Heap) (locs : List Loc) (ls : Array Slot), lv_has ls 6 [(4, .int x_17), (3, .int x_18), (0, .ref (q0 0)), (1, .ref (q1 0)), (2, .int a2)] → va_P D vwCl (kPaths G q0 u_19 ++ kHouse G q1 v1) H → va_D A (kPaths G q0 u_19 ++ kHouse G q1 v1) → va_S A s.heap H locs → lz3 (f_X9_lessenFrom_B22 v1) n x_17 x_18 u_19 = some v0' → W p l e rm_X9_lessenFrom s m args below meth c H locs 0 0 Q0 (F0 m 22 ls []) := by
    intro n
    induction n with
    | zero => intro x_17 x_18 u_19 H locs ls hl hP hD hS hf; cases hf
    | succ n ihL_20 =>
      intro x_17 x_18 u_19 H locs ls hl hP hD hS hf
      replace hf := lz3_s hf
      generalize lz3 (f_X9_lessenFrom_B22 v1) n = selfL_20 at hf ihL_20
      unfold f_X9_lessenFrom_B22 at hf
      refine lv_iload hx hb dX9_lessenFrom_22 (lv_at hl 0 rfl) ?_
      refine lv_bipush (v := 12) hx hb dX9_lessenFrom_24 (by decide +kernel) ?_
      refine lv_icmp_ge (tgt := 69) hx hb dX9_lessenFrom_26 (by decide) (fun cc => ?_) (fun cc => ?_)
      · replace hf := ifT cc hf
        exact exL_20 x_17 x_18 u_19 _ _ _ (lv_sub hl [0, 1, 2, 3, 4] rfl) hP hD hS hf
      · replace hf := ifF cc hf
        refine lv_iload_n hx hb dX9_lessenFrom_29 rfl (lv_at hl 1 rfl) ?_
        refine lv_if_eq (tgt := 69) hx hb dX9_lessenFrom_30 (by decide) (fun cc => ?_) (fun cc => ?_)
        · replace hf := ifT cc hf
          exact exL_20 x_17 x_18 u_19 _ _ _ (lv_sub hl [0, 1, 2, 3, 4] rfl) hP hD hS hf
        · replace hf := ifF cc hf
          refine lv_iconst (v := 0) hx hb dX9_lessenFrom_33 (by decide) ?_
          refine lv_istore_n (lv' := [(3, .int 0), (4, .int x_17), (0, .ref (q0 0)), (1, .ref (q1 0)), (2, .int a2)]) hx hb dX9_lessenFrom_34 rfl hl (by decide) rfl (fun ls hl => ?_)
          refine lv_iconst (v := 0) hx hb dX9_lessenFrom_35 (by decide) ?_
          refine lv_istore (lv' := [(5, .int 0), (3, .int 0), (4, .int x_17), (0, .ref (q0 0)), (1, .ref (q1 0)), (2, .int a2)]) hx hb dX9_lessenFrom_36 hl (by decide) rfl (fun ls hl => ?_)
          have exL_24 : ∀ (y_27 : Int32) (y_28 : Int32) (z_29 : SV) (H : Heap) (locs : List Loc) (ls : Array Slot), lv_has ls 6 [(5, .int y_27), (3, .int y_28), (4, .int x_17), (0, .ref (q0 0)), (1, .ref (q1 0)), (2, .int a2)] → va_P D vwCl (kPaths G q0 z_29 ++ kHouse G q1 v1) H → va_D A (kPaths G q0 z_29 ++ kHouse G q1 v1) → va_S A s.heap H locs → f_X9_lessenFrom_K38 selfL_20 x_17 y_27 y_28 z_29 = some v0' → W p l e rm_X9_lessenFrom s m args below meth c H locs 0 0 Q0 (F0 m 63 ls []) := by
            intro y_27 y_28 z_29 H locs ls hl hP hD hS hf
            unfold f_X9_lessenFrom_K38 at hf
            refine lv_iinc (v := (x_17 + 1)) (lv' := [(4, .int (x_17 + 1)), (5, .int y_27), (3, .int y_28), (0, .ref (q0 0)), (1, .ref (q1 0)), (2, .int a2)]) hx hb dX9_lessenFrom_63 hl (k := 2) rfl rfl (by decide) rfl (fun ls hl => ?_)
            refine lv_goto (tgt := 22) hx hb dX9_lessenFrom_66 (by decide) ?_
            exact ihL_20 (x_17 + 1) y_28 z_29 _ _ _ (lv_sub hl [0, 2, 3, 4, 5] rfl) hP hD hS hf
          have loL_24 : ∀ (n : Nat) (x_21 : Int32) (x_22 : Int32) (u_23 : SV) (H : Heap) (locs : List Loc) (ls : Array Slot), lv_has ls 6 [(5, .int x_21), (3, .int x_22), (4, .int x_17), (0, .ref (q0 0)), (1, .ref (q1 0)), (2, .int a2)] → va_P D vwCl (kPaths G q0 u_23 ++ kHouse G q1 v1) H → va_D A (kPaths G q0 u_23 ++ kHouse G q1 v1) → va_S A s.heap H locs → lz3 (f_X9_lessenFrom_B38 selfL_20 x_17 v1) n x_21 x_22 u_23 = some v0' → W p l e rm_X9_lessenFrom s m args below meth c H locs 0 0 Q0 (F0 m 38 ls []) := by
            intro n
            induction n with
            | zero => intro x_21 x_22 u_23 H locs ls hl hP hD hS hf; cases hf
            | succ n ihL_24 =>
              intro x_21 x_22 u_23 H locs ls hl hP hD hS hf
              replace hf := lz3_s hf
              unfold f_X9_lessenFrom_B38 at hf
              refine lv_iload hx hb dX9_lessenFrom_38 (lv_at hl 0 rfl) ?_
              refine lv_bipush (v := 12) hx hb dX9_lessenFrom_40 (by decide +kernel) ?_
              refine lv_icmp_ge (tgt := 63) hx hb dX9_lessenFrom_42 (by decide) (fun cc => ?_) (fun cc => ?_)
              · replace hf := ifT cc hf
                exact exL_24 x_21 x_22 u_23 _ _ _ (lv_sub hl [0, 1, 2, 3, 4, 5] rfl) hP hD hS hf
              · replace hf := ifF cc hf
                refine lv_aload_n hx hb dX9_lessenFrom_45 rfl (lv_at hl 3 rfl) ?_
                refine lv_aload_n hx hb dX9_lessenFrom_46 rfl (lv_at hl 4 rfl) ?_
                refine lv_iload hx hb dX9_lessenFrom_47 (lv_at hl 0 rfl) ?_
                obtain ⟨r_25, w_26, hc, hf⟩ := bd2_of hf
                refine k_V (As := [.ref (q1 0), .int x_21]) (rest := []) (ws1 := (kPaths G q0 w_26 ++ kHouse G q1 v1)) ⟨hx, hb, hml, hown, hts⟩ (c_X9_lessenBeside l D G q0 q1 x_21 u_23 v1 _ _ hc  _) (cwV 2 hts gX9_lessenFrom_X9_lessenBeside rfl rfl rfl (by decide +kernel) ⟨Nat.le_of_ble_eq_true rfl, Nat.le_of_ble_eq_true rfl⟩) hl.1 (Nat.le_of_ble_eq_true rfl) dX9_lessenFrom_49 ⟨Nat.le_of_ble_eq_true rfl, Nat.le_of_ble_eq_true rfl⟩ rfl kT_bl (fun _ _ _ => trivial) hN hK hP hD hS hA 0 7 rfl rfl rfl [0, 1, 2, 3, 4, 5, 6, 7, 8, 9, 10, 11, 12, 13, 14, 15, 16, 17] [] [0, 1, 2, 3, 4, 5, 6, 7, 8, 9, 10, 11, 12, 13, 14, 15, 16, 17] [0, 1, 2, 3] rfl rfl rfl ⟨by decide, by decide, by decide, by decide⟩ rfl (fun H locs hP hD hS => ?_)
                refine lv_if_eq (tgt := 57) hx hb dX9_lessenFrom_52 (by decide) (fun cc => ?_) (fun cc => ?_)
                · replace hf := ifT cc hf
                  refine lv_iinc (v := (x_21 + 1)) (lv' := [(5, .int (x_21 + 1)), (3, .int x_22), (4, .int x_17), (0, .ref (q0 0)), (1, .ref (q1 0)), (2, .int a2)]) hx hb dX9_lessenFrom_57 hl (k := 0) rfl rfl (by decide) rfl (fun ls hl => ?_)
                  refine lv_goto (tgt := 38) hx hb dX9_lessenFrom_60 (by decide) ?_
                  exact ihL_24 (x_21 + 1) x_22 w_26 _ _ _ (lv_sub hl [0, 1, 2, 3, 4, 5] rfl) hP hD hS hf
                · replace hf := ifF cc hf
                  refine lv_iconst (v := 1) hx hb dX9_lessenFrom_55 (by decide) ?_
                  refine lv_istore_n (lv' := [(3, .int 1), (5, .int x_21), (4, .int x_17), (0, .ref (q0 0)), (1, .ref (q1 0)), (2, .int a2)]) hx hb dX9_lessenFrom_56 rfl hl (by decide) rfl (fun ls hl => ?_)
                  refine lv_iinc (v := (x_21 + 1)) (lv' := [(5, .int (x_21 + 1)), (3, .int 1), (4, .int x_17), (0, .ref (q0 0)), (1, .ref (q1 0)), (2, .int a2)]) hx hb dX9_lessenFrom_57 hl (k := 1) rfl rfl (by decide) rfl (fun ls hl => ?_)
                  refine lv_goto (tgt := 38) hx hb dX9_lessenFrom_60 (by decide) ?_
                  exact ihL_24 (x_21 + 1) 1 w_26 _ _ _ (lv_sub hl [0, 1, 2, 3, 4, 5] rfl) hP hD hS hf
          exact loL_24 FU 0 0 u_19 _ _ _ hl hP hD hS hf
  exact loL_20 FU 0 1 v_3 _ _ _ hl hP hD hS hf
def f_X9_areAlike_K2 (y_4 : Int32) : Option Int32 :=
  some 1
def f_X9_areAlike_B2 (v0 : SV) (selfL_3 : (Int32 → Option Int32)) (x_2 : Int32) : Option Int32 :=
  if 12 ≤ x_2 then
    f_X9_areAlike_K2 x_2
  else
    ckI x_2 12 <|
    ckI x_2 12 <|
    if (v0.2 0 x_2.toNatClampNeg) = (v0.2 1 x_2.toNatClampNeg) then
      selfL_3 (x_2 + 1)
    else
      some 0
def f_X9_areAlike (v0 : SV) : Option Int32 :=
  lz1 (f_X9_areAlike_B2 v0) FU 0
abbrev rm_X9_areAlike : Room := { frames := 0, cells := 0, slots := 0, locals := 0 }
set_option maxHeartbeats 4000000 in
set_option maxRecDepth 100000 in
theorem c_X9_areAlike (l : Launch) (D : va_G) (G : Nat → ClassId) (q0 : Nat → Nat) (v0 : SV) (r : Int32) (hf : f_X9_areAlike v0 = some r) (sz : Nat) : mC l yX9_areAlike wsX9_areAlike rm_X9_areAlike D (tyG G) kT [.ref (q0 0)] (kPaths G q0 v0) (kPaths G q0 v0) sz (some (.int r)) 0 0 := by
  refine mC_ofZ (cc := cX9_areAlike) (maxL := 2) (ret := (some .boolean)) (by decide) rfl rfl (Nat.le_of_ble_eq_true rfl) ?_
  intro p e s m args below meth c Q0 hx hb hml hts hown hN hK A hD hA hE hP hS hJ ls hl
  have hl : lv_has ls 2 [(0, .ref (q0 0))] := hl
  unfold f_X9_areAlike at hf
  have hi7 : ∀ w ∈ u_ws RX9 TX9 2, w ∈ wsX9_areAlike := by decide +kernel
  have hw1 := hts (.fieldLink RX9 9 "BalconyCensus$Paths" "walked" "[I") (by decide +kernel)
  have hw2 := hts (.fieldLink RX9 15 "BalconyCensus$Paths" "lessened" "[I") (by decide +kernel)
  refine lv_iconst (v := 0) hx hb dX9_areAlike_0 (by decide) ?_
  refine lv_istore_n (lv' := [(1, .int 0), (0, .ref (q0 0))]) hx hb dX9_areAlike_1 rfl hl (by decide) rfl (fun ls hl => ?_)
  have exL_3 : ∀ (y_4 : Int32) (H : Heap) (locs : List Loc) (ls : Array Slot), lv_has ls 2 [(1, .int y_4), (0, .ref (q0 0))] → va_P D vwCl (kPaths G q0 v0) H → va_D A (kPaths G q0 v0) → va_S A s.heap H locs → f_X9_areAlike_K2 y_4 = some r → W p l e rm_X9_areAlike s m args below meth c H locs 0 0 Q0 (F0 m 31 ls []) := by
    intro y_4 H locs ls hl hP hD hS hf
    unfold f_X9_areAlike_K2 at hf
    refine lv_iconst (v := 1) hx hb dX9_areAlike_31 (by decide) ?_
    obtain rfl := re1 hf
    exact hE (.inr rfl) hP hD hS dX9_areAlike_32
  have loL_3 : ∀ (n : Nat) (x_2 : Int32) (H : Heap) (locs : List Loc) (ls : Array Slot), lv_has ls 2 [(1, .int x_2), (0, .ref (q0 0))] → va_P D vwCl (kPaths G q0 v0) H → va_D A (kPaths G q0 v0) → va_S A s.heap H locs → lz1 (f_X9_areAlike_B2 v0) n x_2 = some r → W p l e rm_X9_areAlike s m args below meth c H locs 0 0 Q0 (F0 m 2 ls []) := by
    intro n
    induction n with
    | zero => intro x_2 H locs ls hl hP hD hS hf; cases hf
    | succ n ihL_3 =>
      intro x_2 H locs ls hl hP hD hS hf
      replace hf := lz1_s hf
      unfold f_X9_areAlike_B2 at hf
      refine lv_iload_n hx hb dX9_areAlike_2 rfl (lv_at hl 0 rfl) ?_
      refine lv_bipush (v := 12) hx hb dX9_areAlike_3 (by decide +kernel) ?_
      refine lv_icmp_ge (tgt := 31) hx hb dX9_areAlike_5 (by decide) (fun cc => ?_) (fun cc => ?_)
      · replace hf := ifT cc hf
        exact exL_3 x_2 _ _ _ (lv_sub hl [0, 1] rfl) hP hD hS hf
      · replace hf := ifF cc hf
        refine lv_aload_n hx hb dX9_areAlike_8 rfl (lv_at hl 1 rfl) ?_
        refine va_get (D := D) (ci := 7) (v := .ref (q0 1)) (C := RX9) (T := TX9) (N := 2) hx hb hts hi7 hown hK hP 0 rfl rfl 0 (by decide) hw1 (fun _ h9 => h9) rfl dX9_areAlike_9 ?_
        refine lv_iload_n hx hb dX9_areAlike_12 rfl (lv_at hl 0 rfl) ?_
        obtain ⟨hin, hf⟩ := ckI_of hf
        refine va_iald (D := D) hx hb hK hP 1 0 rfl rfl hin dX9_areAlike_13 ?_
        refine lv_aload_n hx hb dX9_areAlike_14 rfl (lv_at hl 1 rfl) ?_
        refine va_get (D := D) (ci := 7) (v := .ref (q0 2)) (C := RX9) (T := TX9) (N := 2) hx hb hts hi7 hown hK hP 0 rfl rfl 1 (by decide) hw2 (fun _ h9 => h9) rfl dX9_areAlike_15 ?_
        refine lv_iload_n hx hb dX9_areAlike_18 rfl (lv_at hl 0 rfl) ?_
        obtain ⟨hin, hf⟩ := ckI_of hf
        refine va_iald (D := D) hx hb hK hP 2 0 rfl rfl hin dX9_areAlike_19 ?_
        refine lv_icmp_eq (tgt := 25) hx hb dX9_areAlike_20 (by decide) (fun cc => ?_) (fun cc => ?_)
        · replace hf := ifT cc hf
          refine lv_iinc (v := (x_2 + 1)) (lv' := [(1, .int (x_2 + 1)), (0, .ref (q0 0))]) hx hb dX9_areAlike_25 hl (k := 0) rfl rfl (by decide) rfl (fun ls hl => ?_)
          refine lv_goto (tgt := 2) hx hb dX9_areAlike_28 (by decide) ?_
          exact ihL_3 (x_2 + 1) _ _ _ (lv_sub hl [0, 1] rfl) hP hD hS hf
        · replace hf := ifF cc hf
          refine lv_iconst (v := 0) hx hb dX9_areAlike_23 (by decide) ?_
          obtain rfl := re1 hf
          exact hE (.inl rfl) hP hD hS dX9_areAlike_24
  exact loL_3 FU 0 _ _ _ hl hP hD hS hf
def f_X9_lowestNearer_K2 (a2 : Int32) (y_6 : Int32) : Option Int32 :=
  some a2
def f_X9_lowestNearer_B2 (a2 : Int32) (v1 : SV) (v0 : SV) (selfL_4 : (Int32 → Option Int32)) (x_3 : Int32) : Option Int32 :=
  if 4 ≤ x_3 then
    f_X9_lowestNearer_K2 a2 x_3
  else
    bd1 (f_X6_stepFrom a2 x_3 v1) fun r_5 =>
    if r_5 < 0 then
      selfL_4 (x_3 + 1)
    else
      ckI r_5 12 <|
      ckI a2 12 <|
      if (v0.2 0 r_5.toNatClampNeg) = ((v0.2 0 a2.toNatClampNeg) - 1) then
        some r_5
      else
        selfL_4 (x_3 + 1)
def f_X9_lowestNearer (a2 : Int32) (v0 : SV) (v1 : SV) : Option Int32 :=
  lz1 (f_X9_lowestNearer_B2 a2 v1 v0) FU 0
abbrev rm_X9_lowestNearer : Room := { frames := 3, cells := 0, slots := 0, locals := 72 }
set_option maxHeartbeats 4000000 in
set_option maxRecDepth 100000 in
theorem c_X9_lowestNearer (l : Launch) (D : va_G) (G : Nat → ClassId) (q0 : Nat → Nat) (q1 : Nat → Nat) (a2 : Int32) (v0 : SV) (v1 : SV) (r : Int32) (hf : f_X9_lowestNearer a2 v0 v1 = some r) (sz : Nat) : mC l yX9_lowestNearer wsX9_lowestNearer rm_X9_lowestNearer D (tyG G) kT [.ref (q0 0), .ref (q1 0), .int a2] (kPaths G q0 v0 ++ kHouse G q1 v1) (kPaths G q0 v0 ++ kHouse G q1 v1) sz (some (.int r)) 0 0 := by
  refine mC_ofI (cc := cX9_lowestNearer) (maxL := 5) (ret := (some .int)) (by decide) rfl rfl (Nat.le_of_ble_eq_true rfl) ?_
  intro p e s m args below meth c Q0 hx hb hml hts hown hN hK A hD hA hE hP hS hJ ls hl
  have hl : lv_has ls 5 [(0, .ref (q0 0)), (1, .ref (q1 0)), (2, .int a2)] := hl
  unfold f_X9_lowestNearer at hf
  have hi7 : ∀ w ∈ u_ws RX9 TX9 2, w ∈ wsX9_lowestNearer := by decide +kernel
  have hw1 := hts (.fieldLink RX9 9 "BalconyCensus$Paths" "walked" "[I") (by decide +kernel)
  refine lv_iconst (v := 0) hx hb dX9_lowestNearer_0 (by decide) ?_
  refine lv_istore_n (lv' := [(3, .int 0), (0, .ref (q0 0)), (1, .ref (q1 0)), (2, .int a2)]) hx hb dX9_lowestNearer_1 rfl hl (by decide) rfl (fun ls hl => ?_)
  have exL_4 : ∀ (y_6 : Int32) (H : Heap) (locs : List Loc) (ls : Array Slot), lv_has ls 5 [(3, .int y_6), (0, .ref (q0 0)), (1, .ref (q1 0)), (2, .int a2)] → va_P D vwCl (kPaths G q0 v0 ++ kHouse G q1 v1) H → va_D A (kPaths G q0 v0 ++ kHouse G q1 v1) → va_S A s.heap H locs → f_X9_lowestNearer_K2 a2 y_6 = some r → W p l e rm_X9_lowestNearer s m args below meth c H locs 0 0 Q0 (F0 m 47 ls []) := by
    intro y_6 H locs ls hl hP hD hS hf
    unfold f_X9_lowestNearer_K2 at hf
    refine lv_iload_n hx hb dX9_lowestNearer_47 rfl (lv_at hl 3 rfl) ?_
    obtain rfl := re1 hf
    exact hE hP hD hS dX9_lowestNearer_48
  have loL_4 : ∀ (n : Nat) (x_3 : Int32) (H : Heap) (locs : List Loc) (ls : Array Slot), lv_has ls 5 [(3, .int x_3), (0, .ref (q0 0)), (1, .ref (q1 0)), (2, .int a2)] → va_P D vwCl (kPaths G q0 v0 ++ kHouse G q1 v1) H → va_D A (kPaths G q0 v0 ++ kHouse G q1 v1) → va_S A s.heap H locs → lz1 (f_X9_lowestNearer_B2 a2 v1 v0) n x_3 = some r → W p l e rm_X9_lowestNearer s m args below meth c H locs 0 0 Q0 (F0 m 2 ls []) := by
    intro n
    induction n with
    | zero => intro x_3 H locs ls hl hP hD hS hf; cases hf
    | succ n ihL_4 =>
      intro x_3 H locs ls hl hP hD hS hf
      replace hf := lz1_s hf
      unfold f_X9_lowestNearer_B2 at hf
      refine lv_iload_n hx hb dX9_lowestNearer_2 rfl (lv_at hl 0 rfl) ?_
      refine lv_iconst (v := 4) hx hb dX9_lowestNearer_3 (by decide) ?_
      refine lv_icmp_ge (tgt := 47) hx hb dX9_lowestNearer_4 (by decide) (fun cc => ?_) (fun cc => ?_)
      · replace hf := ifT cc hf
        exact exL_4 x_3 _ _ _ (lv_sub hl [0, 1, 2, 3] rfl) hP hD hS hf
      · replace hf := ifF cc hf
        refine lv_aload_n hx hb dX9_lowestNearer_7 rfl (lv_at hl 2 rfl) ?_
        refine lv_iload_n hx hb dX9_lowestNearer_8 rfl (lv_at hl 3 rfl) ?_
        refine lv_iload_n hx hb dX9_lowestNearer_9 rfl (lv_at hl 0 rfl) ?_
        obtain ⟨r_5, hc, hf⟩ := bd1_of hf
        refine k_V (As := [.int a2, .int x_3]) (rest := []) (ws1 := (kPaths G q0 v0 ++ kHouse G q1 v1)) ⟨hx, hb, hml, hown, hts⟩ (c_X6_stepFrom l D G q1 a2 x_3 v1 _ hc  _) (cwV 2 hts gX9_lowestNearer_X6_stepFrom rfl rfl rfl (by decide +kernel) ⟨Nat.le_of_ble_eq_true rfl, Nat.le_of_ble_eq_true rfl⟩) hl.1 (Nat.le_of_ble_eq_true rfl) dX9_lowestNearer_10 ⟨Nat.le_of_ble_eq_true rfl, Nat.le_of_ble_eq_true rfl⟩ rfl kT_bl (fun _ _ _ => trivial) hN hK hP hD hS hA 3 4 rfl rfl rfl [3, 4, 5, 6, 7, 8, 9, 10, 11, 12, 13, 14, 15, 16, 17] [0, 1, 2] [0, 1, 2, 3, 4, 5, 6, 7, 8, 9, 10, 11, 12, 13, 14, 15, 16, 17] [0, 1, 2, 3] rfl rfl rfl ⟨by decide, by decide, by decide, by decide⟩ rfl (fun H locs hP hD hS => ?_)
        refine lv_istore (lv' := [(4, .int r_5), (3, .int x_3), (0, .ref (q0 0)), (1, .ref (q1 0)), (2, .int a2)]) hx hb dX9_lowestNearer_13 hl (by decide) rfl (fun ls hl => ?_)
        refine lv_iload hx hb dX9_lowestNearer_15 (lv_at hl 0 rfl) ?_
        refine lv_if_lt (tgt := 41) hx hb dX9_lowestNearer_17 (by decide) (fun cc => ?_) (fun cc => ?_)
        · replace hf := ifT cc hf
          refine lv_iinc (v := (x_3 + 1)) (lv' := [(3, .int (x_3 + 1)), (4, .int r_5), (0, .ref (q0 0)), (1, .ref (q1 0)), (2, .int a2)]) hx hb dX9_lowestNearer_41 hl (k := 1) rfl rfl (by decide) rfl (fun ls hl => ?_)
          refine lv_goto (tgt := 2) hx hb dX9_lowestNearer_44 (by decide) ?_
          exact ihL_4 (x_3 + 1) _ _ _ (lv_sub hl [0, 2, 3, 4] rfl) hP hD hS hf
        · replace hf := ifF cc hf
          refine lv_aload_n hx hb dX9_lowestNearer_20 rfl (lv_at hl 2 rfl) ?_
          refine va_get (D := D) (ci := 7) (v := .ref (q0 1)) (C := RX9) (T := TX9) (N := 2) hx hb hts hi7 hown hK hP 0 rfl rfl 0 (by decide) hw1 (fun _ h9 => h9) rfl dX9_lowestNearer_21 ?_
          refine lv_iload hx hb dX9_lowestNearer_24 (lv_at hl 0 rfl) ?_
          obtain ⟨hin, hf⟩ := ckI_of hf
          refine va_iald (D := D) hx hb hK hP 1 0 rfl rfl hin dX9_lowestNearer_26 ?_
          refine lv_aload_n hx hb dX9_lowestNearer_27 rfl (lv_at hl 2 rfl) ?_
          refine va_get (D := D) (ci := 7) (v := .ref (q0 1)) (C := RX9) (T := TX9) (N := 2) hx hb hts hi7 hown hK hP 0 rfl rfl 0 (by decide) hw1 (fun _ h9 => h9) rfl dX9_lowestNearer_28 ?_
          refine lv_iload_n hx hb dX9_lowestNearer_31 rfl (lv_at hl 4 rfl) ?_
          obtain ⟨hin, hf⟩ := ckI_of hf
          refine va_iald (D := D) hx hb hK hP 1 0 rfl rfl hin dX9_lowestNearer_32 ?_
          refine lv_iconst (v := 1) hx hb dX9_lowestNearer_33 (by decide) ?_
          refine lv_isub hx hb dX9_lowestNearer_34 ?_
          refine lv_icmp_ne (tgt := 41) hx hb dX9_lowestNearer_35 (by decide) (fun cc => ?_) (fun cc => ?_)
          · replace hf := ifF cc hf
            refine lv_iinc (v := (x_3 + 1)) (lv' := [(3, .int (x_3 + 1)), (4, .int r_5), (0, .ref (q0 0)), (1, .ref (q1 0)), (2, .int a2)]) hx hb dX9_lowestNearer_41 hl (k := 1) rfl rfl (by decide) rfl (fun ls hl => ?_)
            refine lv_goto (tgt := 2) hx hb dX9_lowestNearer_44 (by decide) ?_
            exact ihL_4 (x_3 + 1) _ _ _ (lv_sub hl [0, 2, 3, 4] rfl) hP hD hS hf
          · replace hf := ifT cc hf
            refine lv_iload hx hb dX9_lowestNearer_38 (lv_at hl 0 rfl) ?_
            obtain rfl := re1 hf
            exact hE hP hD hS dX9_lowestNearer_40
  exact loL_4 FU 0 _ _ _ hl hP hD hS hf
def f_X9_placeOnWay_K31 (w_1 : SV) (y_8 : Int32) (y_9 : Int32) : Option (Int32 × SV) :=
  some (y_9, w_1)
def f_X9_placeOnWay_B31 (a4 : Int32) (w_1 : SV) (v1 : SV) (selfL_6 : (Int32 → Int32 → Option (Int32 × SV))) (x_4 : Int32) (x_5 : Int32) : Option (Int32 × SV) :=
  if a4 ≤ x_4 then
    f_X9_placeOnWay_K31 w_1 x_4 x_5
  else
    if 12 ≤ x_4 then
      f_X9_placeOnWay_K31 w_1 x_4 x_5
    else
      bd1 (f_X9_lowestNearer x_5 w_1 v1) fun r_7 =>
      selfL_6 (x_4 + 1) r_7
def f_X9_placeOnWay (a2 : Int32) (a3 : Int32) (a4 : Int32) (v0 : SV) (v1 : SV) : Option (Int32 × SV) :=
  bd1 (f_X9_walkFrom a3 v0 v1) fun w_1 =>
  if a4 < 0 then
    some ((-4), w_1)
  else
    ckI a2 12 <|
    if a4 ≤ (w_1.2 0 a2.toNatClampNeg) then
      lz2 (f_X9_placeOnWay_B31 a4 w_1 v1) FU 0 a2
    else
      some ((-4), w_1)
abbrev rm_X9_placeOnWay : Room := { frames := 5, cells := 0, slots := 0, locals := 120 }
set_option maxHeartbeats 4000000 in
set_option maxRecDepth 100000 in
theorem c_X9_placeOnWay (l : Launch) (D : va_G) (G : Nat → ClassId) (q0 : Nat → Nat) (q1 : Nat → Nat) (a2 : Int32) (a3 : Int32) (a4 : Int32) (v0 : SV) (v1 : SV) (r : Int32) (v0' : SV) (hf : f_X9_placeOnWay a2 a3 a4 v0 v1 = some (r, v0')) (sz : Nat) : mC l yX9_placeOnWay wsX9_placeOnWay rm_X9_placeOnWay D (tyG G) kT [.ref (q0 0), .ref (q1 0), .int a2, .int a3, .int a4] (kPaths G q0 v0 ++ kHouse G q1 v1) (kPaths G q0 v0' ++ kHouse G q1 v1) sz (some (.int r)) 0 0 := by
  refine mC_ofI (cc := cX9_placeOnWay) (maxL := 7) (ret := (some .int)) (by decide) rfl rfl (Nat.le_of_ble_eq_true rfl) ?_
  intro p e s m args below meth c Q0 hx hb hml hts hown hN hK A hD hA hE hP hS hJ ls hl
  have hl : lv_has ls 7 [(0, .ref (q0 0)), (1, .ref (q1 0)), (2, .int a2), (3, .int a3), (4, .int a4)] := hl
  unfold f_X9_placeOnWay at hf
  have hi7 : ∀ w ∈ u_ws RX9 TX9 2, w ∈ wsX9_placeOnWay := by decide +kernel
  have hw1 := hts (.fieldLink RX9 9 "BalconyCensus$Paths" "walked" "[I") (by decide +kernel)
  refine lv_aload_n hx hb dX9_placeOnWay_0 rfl (lv_at hl 0 rfl) ?_
  refine lv_aload_n hx hb dX9_placeOnWay_1 rfl (lv_at hl 1 rfl) ?_
  refine lv_iload_n hx hb dX9_placeOnWay_2 rfl (lv_at hl 3 rfl) ?_
  obtain ⟨w_1, hc, hf⟩ := bd1_of hf
  refine k_V (As := [.ref (q1 0), .int a3]) (rest := []) (ws1 := (kPaths G q0 w_1 ++ kHouse G q1 v1)) ⟨hx, hb, hml, hown, hts⟩ (c_X9_walkFrom l D G q0 q1 a3 v0 v1 _ hc  _) (cwV 2 hts gX9_placeOnWay_X9_walkFrom rfl rfl rfl (by decide +kernel) ⟨Nat.le_of_ble_eq_true rfl, Nat.le_of_ble_eq_true rfl⟩) hl.1 (Nat.le_of_ble_eq_true rfl) dX9_placeOnWay_3 ⟨Nat.le_of_ble_eq_true rfl, Nat.le_of_ble_eq_true rfl⟩ rfl kT_bl (fun _ _ _ => trivial) hN hK hP hD hS hA 0 7 rfl rfl rfl [0, 1, 2, 3, 4, 5, 6, 7, 8, 9, 10, 11, 12, 13, 14, 15, 16, 17] [] [0, 1, 2, 3, 4, 5, 6, 7, 8, 9, 10, 11, 12, 13, 14, 15, 16, 17] [0, 1, 2, 3] rfl rfl rfl ⟨by decide, by decide, by decide, by decide⟩ rfl (fun H locs hP hD hS => ?_)
  refine lv_iload hx hb dX9_placeOnWay_6 (lv_at hl 4 rfl) ?_
  refine lv_if_lt (tgt := 22) hx hb dX9_placeOnWay_8 (by decide) (fun cc => ?_) (fun cc => ?_)
  · replace hf := ifT cc hf
    refine lv_bipush (v := (-4)) hx hb dX9_placeOnWay_22 (by decide +kernel) ?_
    obtain ⟨rfl, rfl⟩ := re2 hf
    exact hE hP hD hS dX9_placeOnWay_24
  · replace hf := ifF cc hf
    refine lv_iload hx hb dX9_placeOnWay_11 (lv_at hl 4 rfl) ?_
    refine lv_aload_n hx hb dX9_placeOnWay_13 rfl (lv_at hl 0 rfl) ?_
    refine va_get (D := D) (ci := 7) (v := .ref (q0 1)) (C := RX9) (T := TX9) (N := 2) hx hb hts hi7 hown hK hP 0 rfl rfl 0 (by decide) hw1 (fun _ h9 => h9) rfl dX9_placeOnWay_14 ?_
    refine lv_iload_n hx hb dX9_placeOnWay_17 rfl (lv_at hl 2 rfl) ?_
    obtain ⟨hin, hf⟩ := ckI_of hf
    refine va_iald (D := D) hx hb hK hP 1 0 rfl rfl hin dX9_placeOnWay_18 ?_
    refine lv_icmp_le (tgt := 25) hx hb dX9_placeOnWay_19 (by decide) (fun cc => ?_) (fun cc => ?_)
    · replace hf := ifT cc hf
      refine lv_iload_n hx hb dX9_placeOnWay_25 rfl (lv_at hl 2 rfl) ?_
      refine lv_istore (lv' := [(5, .int a2), (0, .ref (q0 0)), (1, .ref (q1 0)), (2, .int a2), (3, .int a3), (4, .int a4)]) hx hb dX9_placeOnWay_26 hl (by decide) rfl (fun ls hl => ?_)
      refine lv_iconst (v := 0) hx hb dX9_placeOnWay_28 (by decide) ?_
      refine lv_istore (lv' := [(6, .int 0), (5, .int a2), (0, .ref (q0 0)), (1, .ref (q1 0)), (2, .int a2), (3, .int a3), (4, .int a4)]) hx hb dX9_placeOnWay_29 hl (by decide) rfl (fun ls hl => ?_)
      have exL_6 : ∀ (y_8 : Int32) (y_9 : Int32) (H : Heap) (locs : List Loc) (ls : Array Slot), lv_has ls 7 [(6, .int y_8), (5, .int y_9), (0, .ref (q0 0)), (1, .ref (q1 0)), (2, .int a2), (3, .int a3), (4, .int a4)] → va_P D vwCl (kPaths G q0 w_1 ++ kHouse G q1 v1) H → va_D A (kPaths G q0 w_1 ++ kHouse G q1 v1) → va_S A s.heap H locs → f_X9_placeOnWay_K31 w_1 y_8 y_9 = some (r, v0') → W p l e rm_X9_placeOnWay s m args below meth c H locs 0 0 Q0 (F0 m 60 ls []) := by
        intro y_8 y_9 H locs ls hl hP hD hS hf
        unfold f_X9_placeOnWay_K31 at hf
        refine lv_iload hx hb dX9_placeOnWay_60 (lv_at hl 1 rfl) ?_
        obtain ⟨rfl, rfl⟩ := re2 hf
        exact hE hP hD hS dX9_placeOnWay_62
      have loL_6 : ∀ (n : Nat) (x_4 : Int32) (x_5 : Int32) (H : Heap) (locs : List Loc) (ls : Array Slot), lv_has ls 7 [(6, .int x_4), (5, .int x_5), (0, .ref (q0 0)), (1, .ref (q1 0)), (2, .int a2), (3, .int a3), (4, .int a4)] → va_P D vwCl (kPaths G q0 w_1 ++ kHouse G q1 v1) H → va_D A (kPaths G q0 w_1 ++ kHouse G q1 v1) → va_S A s.heap H locs → lz2 (f_X9_placeOnWay_B31 a4 w_1 v1) n x_4 x_5 = some (r, v0') → W p l e rm_X9_placeOnWay s m args below meth c H locs 0 0 Q0 (F0 m 31 ls []) := by
        intro n
        induction n with
        | zero => intro x_4 x_5 H locs ls hl hP hD hS hf; cases hf
        | succ n ihL_6 =>
          intro x_4 x_5 H locs ls hl hP hD hS hf
          replace hf := lz2_s hf
          unfold f_X9_placeOnWay_B31 at hf
          refine lv_iload hx hb dX9_placeOnWay_31 (lv_at hl 0 rfl) ?_
          refine lv_iload hx hb dX9_placeOnWay_33 (lv_at hl 6 rfl) ?_
          refine lv_icmp_ge (tgt := 60) hx hb dX9_placeOnWay_35 (by decide) (fun cc => ?_) (fun cc => ?_)
          · replace hf := ifT cc hf
            exact exL_6 x_4 x_5 _ _ _ (lv_sub hl [0, 1, 2, 3, 4, 5, 6] rfl) hP hD hS hf
          · replace hf := ifF cc hf
            refine lv_iload hx hb dX9_placeOnWay_38 (lv_at hl 0 rfl) ?_
            refine lv_bipush (v := 12) hx hb dX9_placeOnWay_40 (by decide +kernel) ?_
            refine lv_icmp_ge (tgt := 60) hx hb dX9_placeOnWay_42 (by decide) (fun cc => ?_) (fun cc => ?_)
            · replace hf := ifT cc hf
              exact exL_6 x_4 x_5 _ _ _ (lv_sub hl [0, 1, 2, 3, 4, 5, 6] rfl) hP hD hS hf
            · replace hf := ifF cc hf
              refine lv_aload_n hx hb dX9_placeOnWay_45 rfl (lv_at hl 2 rfl) ?_
              refine lv_aload_n hx hb dX9_placeOnWay_46 rfl (lv_at hl 3 rfl) ?_
              refine lv_iload hx hb dX9_placeOnWay_47 (lv_at hl 1 rfl) ?_
              obtain ⟨r_7, hc, hf⟩ := bd1_of hf
              refine k_V (As := [.ref (q1 0), .int x_5]) (rest := []) (ws1 := (kPaths G q0 w_1 ++ kHouse G q1 v1)) ⟨hx, hb, hml, hown, hts⟩ (c_X9_lowestNearer l D G q0 q1 x_5 w_1 v1 _ hc  _) (cwV 2 hts gX9_placeOnWay_X9_lowestNearer rfl rfl rfl (by decide +kernel) ⟨Nat.le_of_ble_eq_true rfl, Nat.le_of_ble_eq_true rfl⟩) hl.1 (Nat.le_of_ble_eq_true rfl) dX9_placeOnWay_49 ⟨Nat.le_of_ble_eq_true rfl, Nat.le_of_ble_eq_true rfl⟩ rfl kT_bl (fun _ _ _ => trivial) hN hK hP hD hS hA 0 7 rfl rfl rfl [0, 1, 2, 3, 4, 5, 6, 7, 8, 9, 10, 11, 12, 13, 14, 15, 16, 17] [] [0, 1, 2, 3, 4, 5, 6, 7, 8, 9, 10, 11, 12, 13, 14, 15, 16, 17] [0, 1, 2, 3] rfl rfl rfl ⟨by decide, by decide, by decide, by decide⟩ rfl (fun H locs hP hD hS => ?_)
              refine lv_istore (lv' := [(5, .int r_7), (6, .int x_4), (0, .ref (q0 0)), (1, .ref (q1 0)), (2, .int a2), (3, .int a3), (4, .int a4)]) hx hb dX9_placeOnWay_52 hl (by decide) rfl (fun ls hl => ?_)
              refine lv_iinc (v := (x_4 + 1)) (lv' := [(6, .int (x_4 + 1)), (5, .int r_7), (0, .ref (q0 0)), (1, .ref (q1 0)), (2, .int a2), (3, .int a3), (4, .int a4)]) hx hb dX9_placeOnWay_54 hl (k := 1) rfl rfl (by decide) rfl (fun ls hl => ?_)
              refine lv_goto (tgt := 31) hx hb dX9_placeOnWay_57 (by decide) ?_
              exact ihL_6 (x_4 + 1) r_7 _ _ _ (lv_sub hl [0, 1, 2, 3, 4, 5, 6] rfl) hP hD hS hf
      exact loL_6 FU 0 a2 _ _ _ hl hP hD hS hf
    · replace hf := ifF cc hf
      refine lv_bipush (v := (-4)) hx hb dX9_placeOnWay_22 (by decide +kernel) ?_
      obtain ⟨rfl, rfl⟩ := re2 hf
      exact hE hP hD hS dX9_placeOnWay_24
def f_X8_setKeys (a1 : Int32) (a2 : Int32) (a3 : Int32) (v0 : SV) : Option SV :=
  ckI a1 12 <|
  nm (pA v0 0 a1 a2) fun v_1 =>
  ckI a1 12 <|
  nm (pA v_1 1 a1 a3) fun v_2 =>
  some v_2
abbrev rm_X8_setKeys : Room := { frames := 0, cells := 0, slots := 0, locals := 0 }
set_option maxHeartbeats 4000000 in
set_option maxRecDepth 100000 in
theorem c_X8_setKeys (l : Launch) (D : va_G) (G : Nat → ClassId) (q0 : Nat → Nat) (a1 : Int32) (a2 : Int32) (a3 : Int32) (v0 : SV) (v0' : SV) (hf : f_X8_setKeys a1 a2 a3 v0 = some v0') (sz : Nat) : mC l yX8_setKeys wsX8_setKeys rm_X8_setKeys D (tyG G) kT [.ref (q0 0), .int a1, .int a2, .int a3] (kOrder G q0 v0) (kOrder G q0 v0') sz none 0 0 := by
  refine mC_ofV (cc := cX8_setKeys) (maxL := 4) (ret := none) (by decide) rfl rfl (Nat.le_of_ble_eq_true rfl) ?_
  intro p e s m args below meth c Q0 hx hb hml hts hown hN hK A hD hA hE hP hS hJ ls hl
  have hl : lv_has ls 4 [(0, .ref (q0 0)), (1, .int a1), (2, .int a2), (3, .int a3)] := hl
  unfold f_X8_setKeys at hf
  have hi6 : ∀ w ∈ u_ws RX8 TX8 2, w ∈ wsX8_setKeys := by decide +kernel
  have hw1 := hts (.fieldLink RX8 9 "BalconyCensus$Order" "keys" "[I") (by decide +kernel)
  have hw2 := hts (.fieldLink RX8 15 "BalconyCensus$Order" "nextKeys" "[I") (by decide +kernel)
  refine lv_aload_n hx hb dX8_setKeys_0 rfl (lv_at hl 0 rfl) ?_
  refine va_get (D := D) (ci := 6) (v := .ref (q0 1)) (C := RX8) (T := TX8) (N := 2) hx hb hts hi6 hown hK hP 0 rfl rfl 0 (by decide) hw1 (fun _ h9 => h9) rfl dX8_setKeys_1 ?_
  refine lv_iload_n hx hb dX8_setKeys_4 rfl (lv_at hl 1 rfl) ?_
  refine lv_iload_n hx hb dX8_setKeys_5 rfl (lv_at hl 2 rfl) ?_
  obtain ⟨hin, hf⟩ := ckI_of hf
  obtain ⟨v_1, ev_1, hf⟩ := nm_of hf
  refine va_iast (D := D) hx hb hK hP hD hS 1 0 rfl rfl hin dX8_setKeys_6 (fun H locs hP hD hS => ?_)
  have hP : va_P D vwCl (kOrder G q0 v_1) H := by rw [ev_1]; exact hP
  have hD : va_D A (kOrder G q0 v_1) := by rw [ev_1]; exact hD
  refine lv_aload_n hx hb dX8_setKeys_7 rfl (lv_at hl 0 rfl) ?_
  refine va_get (D := D) (ci := 6) (v := .ref (q0 2)) (C := RX8) (T := TX8) (N := 2) hx hb hts hi6 hown hK hP 0 rfl rfl 1 (by decide) hw2 (fun _ h9 => h9) rfl dX8_setKeys_8 ?_
  refine lv_iload_n hx hb dX8_setKeys_11 rfl (lv_at hl 1 rfl) ?_
  refine lv_iload_n hx hb dX8_setKeys_12 rfl (lv_at hl 3 rfl) ?_
  obtain ⟨hin, hf⟩ := ckI_of hf
  obtain ⟨v_2, ev_2, hf⟩ := nm_of hf
  refine va_iast (D := D) hx hb hK hP hD hS 2 0 rfl rfl hin dX8_setKeys_13 (fun H locs hP hD hS => ?_)
  have hP : va_P D vwCl (kOrder G q0 v_2) H := by rw [ev_2]; exact hP
  have hD : va_D A (kOrder G q0 v_2) := by rw [ev_2]; exact hD
  obtain rfl := re1 hf
  exact hE hP hD hS dX8_setKeys_14
def f_X8_isAhead (a1 : Int32) (a2 : Int32) (v0 : SV) : Option Int32 :=
  ckI a1 12 <|
  ckI a2 12 <|
  if (v0.2 0 a1.toNatClampNeg) = (v0.2 0 a2.toNatClampNeg) then
    ckI a1 12 <|
    ckI a2 12 <|
    if (v0.2 1 a1.toNatClampNeg) = (v0.2 1 a2.toNatClampNeg) then
      if a2 ≤ a1 then
        some 0
      else
        some 1
    else
      ckI a1 12 <|
      ckI a2 12 <|
      if (v0.2 1 a1.toNatClampNeg) ≤ (v0.2 1 a2.toNatClampNeg) then
        some 0
      else
        some 1
  else
    ckI a1 12 <|
    ckI a2 12 <|
    if (v0.2 0 a1.toNatClampNeg) ≤ (v0.2 0 a2.toNatClampNeg) then
      some 0
    else
      some 1
abbrev rm_X8_isAhead : Room := { frames := 0, cells := 0, slots := 0, locals := 0 }
set_option maxHeartbeats 4000000 in
set_option maxRecDepth 100000 in
theorem c_X8_isAhead (l : Launch) (D : va_G) (G : Nat → ClassId) (q0 : Nat → Nat) (a1 : Int32) (a2 : Int32) (v0 : SV) (r : Int32) (hf : f_X8_isAhead a1 a2 v0 = some r) (sz : Nat) : mC l yX8_isAhead wsX8_isAhead rm_X8_isAhead D (tyG G) kT [.ref (q0 0), .int a1, .int a2] (kOrder G q0 v0) (kOrder G q0 v0) sz (some (.int r)) 0 0 := by
  refine mC_ofZ (cc := cX8_isAhead) (maxL := 3) (ret := (some .boolean)) (by decide) rfl rfl (Nat.le_of_ble_eq_true rfl) ?_
  intro p e s m args below meth c Q0 hx hb hml hts hown hN hK A hD hA hE hP hS hJ ls hl
  have hl : lv_has ls 3 [(0, .ref (q0 0)), (1, .int a1), (2, .int a2)] := hl
  unfold f_X8_isAhead at hf
  have hi6 : ∀ w ∈ u_ws RX8 TX8 2, w ∈ wsX8_isAhead := by decide +kernel
  have hw1 := hts (.fieldLink RX8 9 "BalconyCensus$Order" "keys" "[I") (by decide +kernel)
  have hw2 := hts (.fieldLink RX8 15 "BalconyCensus$Order" "nextKeys" "[I") (by decide +kernel)
  refine lv_aload_n hx hb dX8_isAhead_0 rfl (lv_at hl 0 rfl) ?_
  refine va_get (D := D) (ci := 6) (v := .ref (q0 1)) (C := RX8) (T := TX8) (N := 2) hx hb hts hi6 hown hK hP 0 rfl rfl 0 (by decide) hw1 (fun _ h9 => h9) rfl dX8_isAhead_1 ?_
  refine lv_iload_n hx hb dX8_isAhead_4 rfl (lv_at hl 1 rfl) ?_
  obtain ⟨hin, hf⟩ := ckI_of hf
  refine va_iald (D := D) hx hb hK hP 1 0 rfl rfl hin dX8_isAhead_5 ?_
  refine lv_aload_n hx hb dX8_isAhead_6 rfl (lv_at hl 0 rfl) ?_
  refine va_get (D := D) (ci := 6) (v := .ref (q0 1)) (C := RX8) (T := TX8) (N := 2) hx hb hts hi6 hown hK hP 0 rfl rfl 0 (by decide) hw1 (fun _ h9 => h9) rfl dX8_isAhead_7 ?_
  refine lv_iload_n hx hb dX8_isAhead_10 rfl (lv_at hl 2 rfl) ?_
  obtain ⟨hin, hf⟩ := ckI_of hf
  refine va_iald (D := D) hx hb hK hP 1 0 rfl rfl hin dX8_isAhead_11 ?_
  refine lv_icmp_eq (tgt := 36) hx hb dX8_isAhead_12 (by decide) (fun cc => ?_) (fun cc => ?_)
  · replace hf := ifT cc hf
    refine lv_aload_n hx hb dX8_isAhead_36 rfl (lv_at hl 0 rfl) ?_
    refine va_get (D := D) (ci := 6) (v := .ref (q0 2)) (C := RX8) (T := TX8) (N := 2) hx hb hts hi6 hown hK hP 0 rfl rfl 1 (by decide) hw2 (fun _ h9 => h9) rfl dX8_isAhead_37 ?_
    refine lv_iload_n hx hb dX8_isAhead_40 rfl (lv_at hl 1 rfl) ?_
    obtain ⟨hin, hf⟩ := ckI_of hf
    refine va_iald (D := D) hx hb hK hP 2 0 rfl rfl hin dX8_isAhead_41 ?_
    refine lv_aload_n hx hb dX8_isAhead_42 rfl (lv_at hl 0 rfl) ?_
    refine va_get (D := D) (ci := 6) (v := .ref (q0 2)) (C := RX8) (T := TX8) (N := 2) hx hb hts hi6 hown hK hP 0 rfl rfl 1 (by decide) hw2 (fun _ h9 => h9) rfl dX8_isAhead_43 ?_
    refine lv_iload_n hx hb dX8_isAhead_46 rfl (lv_at hl 2 rfl) ?_
    obtain ⟨hin, hf⟩ := ckI_of hf
    refine va_iald (D := D) hx hb hK hP 2 0 rfl rfl hin dX8_isAhead_47 ?_
    refine lv_icmp_eq (tgt := 72) hx hb dX8_isAhead_48 (by decide) (fun cc => ?_) (fun cc => ?_)
    · replace hf := ifT cc hf
      refine lv_iload_n hx hb dX8_isAhead_72 rfl (lv_at hl 1 rfl) ?_
      refine lv_iload_n hx hb dX8_isAhead_73 rfl (lv_at hl 2 rfl) ?_
      refine lv_icmp_ge (tgt := 81) hx hb dX8_isAhead_74 (by decide) (fun cc => ?_) (fun cc => ?_)
      · replace hf := ifT cc hf
        refine lv_iconst (v := 0) hx hb dX8_isAhead_81 (by decide) ?_
        obtain rfl := re1 hf
        exact hE (.inl rfl) hP hD hS dX8_isAhead_82
      · replace hf := ifF cc hf
        refine lv_iconst (v := 1) hx hb dX8_isAhead_77 (by decide) ?_
        refine lv_goto (tgt := 82) hx hb dX8_isAhead_78 (by decide) ?_
        obtain rfl := re1 hf
        exact hE (.inr rfl) hP hD hS dX8_isAhead_82
    · replace hf := ifF cc hf
      refine lv_aload_n hx hb dX8_isAhead_51 rfl (lv_at hl 0 rfl) ?_
      refine va_get (D := D) (ci := 6) (v := .ref (q0 2)) (C := RX8) (T := TX8) (N := 2) hx hb hts hi6 hown hK hP 0 rfl rfl 1 (by decide) hw2 (fun _ h9 => h9) rfl dX8_isAhead_52 ?_
      refine lv_iload_n hx hb dX8_isAhead_55 rfl (lv_at hl 1 rfl) ?_
      obtain ⟨hin, hf⟩ := ckI_of hf
      refine va_iald (D := D) hx hb hK hP 2 0 rfl rfl hin dX8_isAhead_56 ?_
      refine lv_aload_n hx hb dX8_isAhead_57 rfl (lv_at hl 0 rfl) ?_
      refine va_get (D := D) (ci := 6) (v := .ref (q0 2)) (C := RX8) (T := TX8) (N := 2) hx hb hts hi6 hown hK hP 0 rfl rfl 1 (by decide) hw2 (fun _ h9 => h9) rfl dX8_isAhead_58 ?_
      refine lv_iload_n hx hb dX8_isAhead_61 rfl (lv_at hl 2 rfl) ?_
      obtain ⟨hin, hf⟩ := ckI_of hf
      refine va_iald (D := D) hx hb hK hP 2 0 rfl rfl hin dX8_isAhead_62 ?_
      refine lv_icmp_le (tgt := 70) hx hb dX8_isAhead_63 (by decide) (fun cc => ?_) (fun cc => ?_)
      · replace hf := ifT cc hf
        refine lv_iconst (v := 0) hx hb dX8_isAhead_70 (by decide) ?_
        obtain rfl := re1 hf
        exact hE (.inl rfl) hP hD hS dX8_isAhead_71
      · replace hf := ifF cc hf
        refine lv_iconst (v := 1) hx hb dX8_isAhead_66 (by decide) ?_
        refine lv_goto (tgt := 71) hx hb dX8_isAhead_67 (by decide) ?_
        obtain rfl := re1 hf
        exact hE (.inr rfl) hP hD hS dX8_isAhead_71
  · replace hf := ifF cc hf
    refine lv_aload_n hx hb dX8_isAhead_15 rfl (lv_at hl 0 rfl) ?_
    refine va_get (D := D) (ci := 6) (v := .ref (q0 1)) (C := RX8) (T := TX8) (N := 2) hx hb hts hi6 hown hK hP 0 rfl rfl 0 (by decide) hw1 (fun _ h9 => h9) rfl dX8_isAhead_16 ?_
    refine lv_iload_n hx hb dX8_isAhead_19 rfl (lv_at hl 1 rfl) ?_
    obtain ⟨hin, hf⟩ := ckI_of hf
    refine va_iald (D := D) hx hb hK hP 1 0 rfl rfl hin dX8_isAhead_20 ?_
    refine lv_aload_n hx hb dX8_isAhead_21 rfl (lv_at hl 0 rfl) ?_
    refine va_get (D := D) (ci := 6) (v := .ref (q0 1)) (C := RX8) (T := TX8) (N := 2) hx hb hts hi6 hown hK hP 0 rfl rfl 0 (by decide) hw1 (fun _ h9 => h9) rfl dX8_isAhead_22 ?_
    refine lv_iload_n hx hb dX8_isAhead_25 rfl (lv_at hl 2 rfl) ?_
    obtain ⟨hin, hf⟩ := ckI_of hf
    refine va_iald (D := D) hx hb hK hP 1 0 rfl rfl hin dX8_isAhead_26 ?_
    refine lv_icmp_le (tgt := 34) hx hb dX8_isAhead_27 (by decide) (fun cc => ?_) (fun cc => ?_)
    · replace hf := ifT cc hf
      refine lv_iconst (v := 0) hx hb dX8_isAhead_34 (by decide) ?_
      obtain rfl := re1 hf
      exact hE (.inl rfl) hP hD hS dX8_isAhead_35
    · replace hf := ifF cc hf
      refine lv_iconst (v := 1) hx hb dX8_isAhead_30 (by decide) ?_
      refine lv_goto (tgt := 35) hx hb dX8_isAhead_31 (by decide) ?_
      obtain rfl := re1 hf
      exact hE (.inr rfl) hP hD hS dX8_isAhead_35
def f_X8_countAhead_K4 (y_7 : Int32) (y_8 : Int32) : Option Int32 :=
  some y_8
def f_X8_countAhead_B4 (a1 : Int32) (v0 : SV) (selfL_5 : (Int32 → Int32 → Option Int32)) (x_3 : Int32) (x_4 : Int32) : Option Int32 :=
  if 12 ≤ x_3 then
    f_X8_countAhead_K4 x_3 x_4
  else
    bd1 (f_X8_isAhead x_3 a1 v0) fun r_6 =>
    if r_6 = 0 then
      selfL_5 (x_3 + 1) x_4
    else
      selfL_5 (x_3 + 1) (x_4 + 1)
def f_X8_countAhead (a1 : Int32) (v0 : SV) : Option Int32 :=
  lz2 (f_X8_countAhead_B4 a1 v0) FU 0 0
abbrev rm_X8_countAhead : Room := { frames := 1, cells := 0, slots := 0, locals := 22 }
set_option maxHeartbeats 4000000 in
set_option maxRecDepth 100000 in
theorem c_X8_countAhead (l : Launch) (D : va_G) (G : Nat → ClassId) (q0 : Nat → Nat) (a1 : Int32) (v0 : SV) (r : Int32) (hf : f_X8_countAhead a1 v0 = some r) (sz : Nat) : mC l yX8_countAhead wsX8_countAhead rm_X8_countAhead D (tyG G) kT [.ref (q0 0), .int a1] (kOrder G q0 v0) (kOrder G q0 v0) sz (some (.int r)) 0 0 := by
  refine mC_ofI (cc := cX8_countAhead) (maxL := 4) (ret := (some .int)) (by decide) rfl rfl (Nat.le_of_ble_eq_true rfl) ?_
  intro p e s m args below meth c Q0 hx hb hml hts hown hN hK A hD hA hE hP hS hJ ls hl
  have hl : lv_has ls 4 [(0, .ref (q0 0)), (1, .int a1)] := hl
  unfold f_X8_countAhead at hf
  refine lv_iconst (v := 0) hx hb dX8_countAhead_0 (by decide) ?_
  refine lv_istore_n (lv' := [(2, .int 0), (0, .ref (q0 0)), (1, .int a1)]) hx hb dX8_countAhead_1 rfl hl (by decide) rfl (fun ls hl => ?_)
  refine lv_iconst (v := 0) hx hb dX8_countAhead_2 (by decide) ?_
  refine lv_istore_n (lv' := [(3, .int 0), (2, .int 0), (0, .ref (q0 0)), (1, .int a1)]) hx hb dX8_countAhead_3 rfl hl (by decide) rfl (fun ls hl => ?_)
  have exL_5 : ∀ (y_7 : Int32) (y_8 : Int32) (H : Heap) (locs : List Loc) (ls : Array Slot), lv_has ls 4 [(3, .int y_7), (2, .int y_8), (0, .ref (q0 0)), (1, .int a1)] → va_P D vwCl (kOrder G q0 v0) H → va_D A (kOrder G q0 v0) → va_S A s.heap H locs → f_X8_countAhead_K4 y_7 y_8 = some r → W p l e rm_X8_countAhead s m args below meth c H locs 0 0 Q0 (F0 m 28 ls []) := by
    intro y_7 y_8 H locs ls hl hP hD hS hf
    unfold f_X8_countAhead_K4 at hf
    refine lv_iload_n hx hb dX8_countAhead_28 rfl (lv_at hl 1 rfl) ?_
    obtain rfl := re1 hf
    exact hE hP hD hS dX8_countAhead_29
  have loL_5 : ∀ (n : Nat) (x_3 : Int32) (x_4 : Int32) (H : Heap) (locs : List Loc) (ls : Array Slot), lv_has ls 4 [(3, .int x_3), (2, .int x_4), (0, .ref (q0 0)), (1, .int a1)] → va_P D vwCl (kOrder G q0 v0) H → va_D A (kOrder G q0 v0) → va_S A s.heap H locs → lz2 (f_X8_countAhead_B4 a1 v0) n x_3 x_4 = some r → W p l e rm_X8_countAhead s m args below meth c H locs 0 0 Q0 (F0 m 4 ls []) := by
    intro n
    induction n with
    | zero => intro x_3 x_4 H locs ls hl hP hD hS hf; cases hf
    | succ n ihL_5 =>
      intro x_3 x_4 H locs ls hl hP hD hS hf
      replace hf := lz2_s hf
      unfold f_X8_countAhead_B4 at hf
      refine lv_iload_n hx hb dX8_countAhead_4 rfl (lv_at hl 0 rfl) ?_
      refine lv_bipush (v := 12) hx hb dX8_countAhead_5 (by decide +kernel) ?_
      refine lv_icmp_ge (tgt := 28) hx hb dX8_countAhead_7 (by decide) (fun cc => ?_) (fun cc => ?_)
      · replace hf := ifT cc hf
        exact exL_5 x_3 x_4 _ _ _ (lv_sub hl [0, 1, 2, 3] rfl) hP hD hS hf
      · replace hf := ifF cc hf
        refine lv_aload_n hx hb dX8_countAhead_10 rfl (lv_at hl 2 rfl) ?_
        refine lv_iload_n hx hb dX8_countAhead_11 rfl (lv_at hl 0 rfl) ?_
        refine lv_iload_n hx hb dX8_countAhead_12 rfl (lv_at hl 3 rfl) ?_
        obtain ⟨r_6, hc, hf⟩ := bd1_of hf
        refine k_V (As := [.int x_3, .int a1]) (rest := []) (ws1 := (kOrder G q0 v0)) ⟨hx, hb, hml, hown, hts⟩ (c_X8_isAhead l D G q0 x_3 a1 v0 _ hc  _) (cwV 2 hts gX8_countAhead_X8_isAhead rfl rfl rfl (by decide +kernel) ⟨Nat.le_of_ble_eq_true rfl, Nat.le_of_ble_eq_true rfl⟩) hl.1 (Nat.le_of_ble_eq_true rfl) dX8_countAhead_13 ⟨Nat.le_of_ble_eq_true rfl, Nat.le_of_ble_eq_true rfl⟩ rfl kT_bl (fun _ _ _ => trivial) hN hK hP hD hS hA 0 6 rfl rfl rfl [0, 1, 2] [] [0, 1, 2] [0, 1, 2, 3] rfl rfl rfl ⟨by decide, by decide, by decide, by decide⟩ rfl (fun H locs hP hD hS => ?_)
        refine lv_if_eq (tgt := 22) hx hb dX8_countAhead_16 (by decide) (fun cc => ?_) (fun cc => ?_)
        · replace hf := ifT cc hf
          refine lv_iinc (v := (x_3 + 1)) (lv' := [(3, .int (x_3 + 1)), (2, .int x_4), (0, .ref (q0 0)), (1, .int a1)]) hx hb dX8_countAhead_22 hl (k := 0) rfl rfl (by decide) rfl (fun ls hl => ?_)
          refine lv_goto (tgt := 4) hx hb dX8_countAhead_25 (by decide) ?_
          exact ihL_5 (x_3 + 1) x_4 _ _ _ (lv_sub hl [0, 1, 2, 3] rfl) hP hD hS hf
        · replace hf := ifF cc hf
          refine lv_iinc (v := (x_4 + 1)) (lv' := [(2, .int (x_4 + 1)), (3, .int x_3), (0, .ref (q0 0)), (1, .int a1)]) hx hb dX8_countAhead_19 hl (k := 1) rfl rfl (by decide) rfl (fun ls hl => ?_)
          refine lv_iinc (v := (x_3 + 1)) (lv' := [(3, .int (x_3 + 1)), (2, .int (x_4 + 1)), (0, .ref (q0 0)), (1, .int a1)]) hx hb dX8_countAhead_22 hl (k := 1) rfl rfl (by decide) rfl (fun ls hl => ?_)
          refine lv_goto (tgt := 4) hx hb dX8_countAhead_25 (by decide) ?_
          exact ihL_5 (x_3 + 1) (x_4 + 1) _ _ _ (lv_sub hl [0, 1, 2, 3] rfl) hP hD hS hf
  exact loL_5 FU 0 0 _ _ _ hl hP hD hS hf
def f_X8_balconyAt_K2 (y_6 : Int32) : Option Int32 :=
  some (-1)
def f_X8_balconyAt_B2 (v0 : SV) (a1 : Int32) (selfL_4 : (Int32 → Option Int32)) (x_3 : Int32) : Option Int32 :=
  if 12 ≤ x_3 then
    f_X8_balconyAt_K2 x_3
  else
    bd1 (f_X8_countAhead x_3 v0) fun r_5 =>
    if r_5 = a1 then
      some x_3
    else
      selfL_4 (x_3 + 1)
def f_X8_balconyAt (a1 : Int32) (v0 : SV) : Option Int32 :=
  lz1 (f_X8_balconyAt_B2 v0 a1) FU 0
abbrev rm_X8_balconyAt : Room := { frames := 2, cells := 0, slots := 0, locals := 45 }
set_option maxHeartbeats 4000000 in
set_option maxRecDepth 100000 in
theorem c_X8_balconyAt (l : Launch) (D : va_G) (G : Nat → ClassId) (q0 : Nat → Nat) (a1 : Int32) (v0 : SV) (r : Int32) (hf : f_X8_balconyAt a1 v0 = some r) (sz : Nat) : mC l yX8_balconyAt wsX8_balconyAt rm_X8_balconyAt D (tyG G) kT [.ref (q0 0), .int a1] (kOrder G q0 v0) (kOrder G q0 v0) sz (some (.int r)) 0 0 := by
  refine mC_ofI (cc := cX8_balconyAt) (maxL := 3) (ret := (some .int)) (by decide) rfl rfl (Nat.le_of_ble_eq_true rfl) ?_
  intro p e s m args below meth c Q0 hx hb hml hts hown hN hK A hD hA hE hP hS hJ ls hl
  have hl : lv_has ls 3 [(0, .ref (q0 0)), (1, .int a1)] := hl
  unfold f_X8_balconyAt at hf
  refine lv_iconst (v := 0) hx hb dX8_balconyAt_0 (by decide) ?_
  refine lv_istore_n (lv' := [(2, .int 0), (0, .ref (q0 0)), (1, .int a1)]) hx hb dX8_balconyAt_1 rfl hl (by decide) rfl (fun ls hl => ?_)
  have exL_4 : ∀ (y_6 : Int32) (H : Heap) (locs : List Loc) (ls : Array Slot), lv_has ls 3 [(2, .int y_6), (0, .ref (q0 0)), (1, .int a1)] → va_P D vwCl (kOrder G q0 v0) H → va_D A (kOrder G q0 v0) → va_S A s.heap H locs → f_X8_balconyAt_K2 y_6 = some r → W p l e rm_X8_balconyAt s m args below meth c H locs 0 0 Q0 (F0 m 25 ls []) := by
    intro y_6 H locs ls hl hP hD hS hf
    unfold f_X8_balconyAt_K2 at hf
    refine lv_iconst (v := (-1)) hx hb dX8_balconyAt_25 (by decide) ?_
    obtain rfl := re1 hf
    exact hE hP hD hS dX8_balconyAt_26
  have loL_4 : ∀ (n : Nat) (x_3 : Int32) (H : Heap) (locs : List Loc) (ls : Array Slot), lv_has ls 3 [(2, .int x_3), (0, .ref (q0 0)), (1, .int a1)] → va_P D vwCl (kOrder G q0 v0) H → va_D A (kOrder G q0 v0) → va_S A s.heap H locs → lz1 (f_X8_balconyAt_B2 v0 a1) n x_3 = some r → W p l e rm_X8_balconyAt s m args below meth c H locs 0 0 Q0 (F0 m 2 ls []) := by
    intro n
    induction n with
    | zero => intro x_3 H locs ls hl hP hD hS hf; cases hf
    | succ n ihL_4 =>
      intro x_3 H locs ls hl hP hD hS hf
      replace hf := lz1_s hf
      unfold f_X8_balconyAt_B2 at hf
      refine lv_iload_n hx hb dX8_balconyAt_2 rfl (lv_at hl 0 rfl) ?_
      refine lv_bipush (v := 12) hx hb dX8_balconyAt_3 (by decide +kernel) ?_
      refine lv_icmp_ge (tgt := 25) hx hb dX8_balconyAt_5 (by decide) (fun cc => ?_) (fun cc => ?_)
      · replace hf := ifT cc hf
        exact exL_4 x_3 _ _ _ (lv_sub hl [0, 1, 2] rfl) hP hD hS hf
      · replace hf := ifF cc hf
        refine lv_aload_n hx hb dX8_balconyAt_8 rfl (lv_at hl 1 rfl) ?_
        refine lv_iload_n hx hb dX8_balconyAt_9 rfl (lv_at hl 0 rfl) ?_
        obtain ⟨r_5, hc, hf⟩ := bd1_of hf
        refine k_V (As := [.int x_3]) (rest := []) (ws1 := (kOrder G q0 v0)) ⟨hx, hb, hml, hown, hts⟩ (c_X8_countAhead l D G q0 x_3 v0 _ hc  _) (cwV 1 hts gX8_balconyAt_X8_countAhead rfl rfl rfl (by decide +kernel) ⟨Nat.le_of_ble_eq_true rfl, Nat.le_of_ble_eq_true rfl⟩) hl.1 (Nat.le_of_ble_eq_true rfl) dX8_balconyAt_10 ⟨Nat.le_of_ble_eq_true rfl, Nat.le_of_ble_eq_true rfl⟩ rfl kT_bl (fun _ _ _ => trivial) hN hK hP hD hS hA 0 6 rfl rfl rfl [0, 1, 2] [] [0, 1, 2] [0, 1, 2, 3] rfl rfl rfl ⟨by decide, by decide, by decide, by decide⟩ rfl (fun H locs hP hD hS => ?_)
        refine lv_iload_n hx hb dX8_balconyAt_13 rfl (lv_at hl 2 rfl) ?_
        refine lv_icmp_ne (tgt := 19) hx hb dX8_balconyAt_14 (by decide) (fun cc => ?_) (fun cc => ?_)
        · replace hf := ifF cc hf
          refine lv_iinc (v := (x_3 + 1)) (lv' := [(2, .int (x_3 + 1)), (0, .ref (q0 0)), (1, .int a1)]) hx hb dX8_balconyAt_19 hl (k := 0) rfl rfl (by decide) rfl (fun ls hl => ?_)
          refine lv_goto (tgt := 2) hx hb dX8_balconyAt_22 (by decide) ?_
          exact ihL_4 (x_3 + 1) _ _ _ (lv_sub hl [0, 1, 2] rfl) hP hD hS hf
        · replace hf := ifT cc hf
          refine lv_iload_n hx hb dX8_balconyAt_17 rfl (lv_at hl 0 rfl) ?_
          obtain rfl := re1 hf
          exact hE hP hD hS dX8_balconyAt_18
  exact loL_4 FU 0 _ _ _ hl hP hD hS hf
def f_X5_forget (vhi : SV) : Option SV :=
  nm (pF vhi 1 0) fun v_1 =>
  some v_1
abbrev rm_X5_forget : Room := { frames := 0, cells := 0, slots := 0, locals := 0 }
set_option maxHeartbeats 4000000 in
set_option maxRecDepth 100000 in
theorem c_X5_forget (l : Launch) (D : va_G) (G : Nat → ClassId) (Q : Nat → Nat → Nat) (vhi : SV) (vhi' : SV) (hf : f_X5_forget vhi = some vhi') (sz : Nat) : mC l yX5_forget wsX5_forget rm_X5_forget D (tyG G) kT [.ref ((Q 4) 0)] (kHist Q vhi) (kHist Q vhi') sz none 0 0 := by
  refine mC_ofV (cc := cX5_forget) (maxL := 1) (ret := none) (by decide) rfl rfl (Nat.le_of_ble_eq_true rfl) ?_
  intro p e s m args below meth c Q0 hx hb hml hts hown hN hK A hD hA hE hP hS hJ ls hl
  have hl : lv_has ls 1 [(0, .ref ((Q 4) 0))] := hl
  unfold f_X5_forget at hf
  have hi3 : ∀ w ∈ u_ws RX5 TX5 3, w ∈ wsX5_forget := by decide +kernel
  have hw1 := hts (.fieldLink RX5 26 "BalconyCensus$History" "count" "I") (by decide +kernel)
  refine lv_aload_n hx hb dX5_forget_0 rfl (lv_at hl 0 rfl) ?_
  refine lv_iconst (v := 0) hx hb dX5_forget_1 (by decide) ?_
  obtain ⟨v_1, ev_1, hf⟩ := nm_of hf
  refine va_put (D := D) (ci := 3) (v := .int 0) (ty := .int) (C := RX5) (T := TX5) (N := 3) hx hb hts hi3 tyX5 tyX5_ok nmX5 hown hK hP hD hS 0 rfl rfl 2 (by decide) hw1 (fun _ h9 => h9) rfl (by decide +kernel) rfl rfl (Nat.le_of_ble_eq_true rfl) dX5_forget_2 (fun H locs hP hD hS => ?_)
  have hP : va_P D vwCl (kHist Q v_1) H := by rw [ev_1]; exact hP
  have hD : va_D A (kHist Q v_1) := by rw [ev_1]; exact hD
  obtain rfl := re1 hf
  exact hE hP hD hS dX5_forget_5
