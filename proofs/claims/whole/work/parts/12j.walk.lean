/-! Walks, laid by wip/whole/gen.py: for each method f_ (what it does to its world) and c_ (its contract). -/
def f_X13_isKinder (a1 : Int32) (a2 : Int32) (v0 : SV) : Option Int32 :=
  bd1 (f_X13_given a1 v0) fun r_1 =>
  bd1 (f_X13_given a2 v0) fun r_2 =>
  if r_1 = r_2 then
    bd1 (f_X13_got a1 v0) fun r_3 =>
    bd1 (f_X13_got a2 v0) fun r_4 =>
    if r_4 < r_3 then
      some 1
    else
      bd1 (f_X13_got a1 v0) fun r_5 =>
      bd1 (f_X13_got a2 v0) fun r_6 =>
      if r_5 = r_6 then
        if a2 ≤ a1 then
          some 0
        else
          some 1
      else
        some 0
  else
    bd1 (f_X13_given a1 v0) fun r_7 =>
    bd1 (f_X13_given a2 v0) fun r_8 =>
    if r_7 ≤ r_8 then
      some 0
    else
      some 1
abbrev rm_X13_isKinder : Room := { frames := 2, cells := 0, slots := 0, locals := 45 }
set_option maxHeartbeats 4000000 in
set_option maxRecDepth 100000 in
theorem c_X13_isKinder (l : Launch) (D : va_G) (G : Nat → ClassId) (q0 : Nat → Nat) (a1 : Int32) (a2 : Int32) (v0 : SV) (r : Int32) (hf : f_X13_isKinder a1 a2 v0 = some r) (sz : Nat) : mC l yX13_isKinder wsX13_isKinder rm_X13_isKinder D (tyG G) kT [.ref (q0 0), .int a1, .int a2] (kModel G q0 v0) (kModel G q0 v0) sz (some (.int r)) 0 0 := by
  refine mC_ofZ (cc := cX13_isKinder) (maxL := 3) (ret := (some .boolean)) (by decide) rfl rfl (Nat.le_of_ble_eq_true rfl) ?_
  intro p e s m args below meth c Q0 hx hb hml hts hown hN hK A hD hA hE hP hS hJ ls hl
  have hl : lv_has ls 3 [(0, .ref (q0 0)), (1, .int a1), (2, .int a2)] := hl
  unfold f_X13_isKinder at hf
  refine lv_aload_n hx hb dX13_isKinder_0 rfl (lv_at hl 0 rfl) ?_
  refine lv_iload_n hx hb dX13_isKinder_1 rfl (lv_at hl 1 rfl) ?_
  obtain ⟨r_1, hc, hf⟩ := bd1_of hf
  refine k_V (As := [.int a1]) (rest := []) (ws1 := (kModel G q0 v0)) ⟨hx, hb, hml, hown, hts⟩ (c_X13_given l D G q0 a1 v0 _ hc  _) (cwV 1 hts gX13_isKinder_X13_given rfl rfl rfl (by decide +kernel) ⟨Nat.le_of_ble_eq_true rfl, Nat.le_of_ble_eq_true rfl⟩) hl.1 (Nat.le_of_ble_eq_true rfl) dX13_isKinder_2 ⟨Nat.le_of_ble_eq_true rfl, Nat.le_of_ble_eq_true rfl⟩ rfl kT_bl (fun _ _ _ => trivial) hN hK hP hD hS hA 0 11 rfl rfl rfl [0, 1, 2, 3, 4, 5, 6, 7, 8, 9, 10, 11] [] [0, 1, 2, 3, 4, 5, 6, 7, 8, 9, 10, 11] [0, 1, 2, 3] rfl rfl rfl ⟨by decide, by decide, by decide, by decide⟩ rfl (fun H locs hP hD hS => ?_)
  refine lv_aload_n hx hb dX13_isKinder_5 rfl (lv_at hl 0 rfl) ?_
  refine lv_iload_n hx hb dX13_isKinder_6 rfl (lv_at hl 2 rfl) ?_
  obtain ⟨r_2, hc, hf⟩ := bd1_of hf
  refine k_V (As := [.int a2]) (rest := [.int r_1]) (ws1 := (kModel G q0 v0)) ⟨hx, hb, hml, hown, hts⟩ (c_X13_given l D G q0 a2 v0 _ hc  _) (cwV 1 hts gX13_isKinder_X13_given rfl rfl rfl (by decide +kernel) ⟨Nat.le_of_ble_eq_true rfl, Nat.le_of_ble_eq_true rfl⟩) hl.1 (Nat.le_of_ble_eq_true rfl) dX13_isKinder_7 ⟨Nat.le_of_ble_eq_true rfl, Nat.le_of_ble_eq_true rfl⟩ rfl kT_bl (fun _ _ _ => trivial) hN hK hP hD hS hA 0 11 rfl rfl rfl [0, 1, 2, 3, 4, 5, 6, 7, 8, 9, 10, 11] [] [0, 1, 2, 3, 4, 5, 6, 7, 8, 9, 10, 11] [0, 1, 2, 3] rfl rfl rfl ⟨by decide, by decide, by decide, by decide⟩ rfl (fun H locs hP hD hS => ?_)
  refine lv_icmp_eq (tgt := 32) hx hb dX13_isKinder_10 (by decide) (fun cc => ?_) (fun cc => ?_)
  · replace hf := ifT cc hf
    refine lv_aload_n hx hb dX13_isKinder_32 rfl (lv_at hl 0 rfl) ?_
    refine lv_iload_n hx hb dX13_isKinder_33 rfl (lv_at hl 1 rfl) ?_
    obtain ⟨r_3, hc, hf⟩ := bd1_of hf
    refine k_V (As := [.int a1]) (rest := []) (ws1 := (kModel G q0 v0)) ⟨hx, hb, hml, hown, hts⟩ (c_X13_got l D G q0 a1 v0 _ hc  _) (cwV 1 hts gX13_isKinder_X13_got rfl rfl rfl (by decide +kernel) ⟨Nat.le_of_ble_eq_true rfl, Nat.le_of_ble_eq_true rfl⟩) hl.1 (Nat.le_of_ble_eq_true rfl) dX13_isKinder_34 ⟨Nat.le_of_ble_eq_true rfl, Nat.le_of_ble_eq_true rfl⟩ rfl kT_bl (fun _ _ _ => trivial) hN hK hP hD hS hA 0 11 rfl rfl rfl [0, 1, 2, 3, 4, 5, 6, 7, 8, 9, 10, 11] [] [0, 1, 2, 3, 4, 5, 6, 7, 8, 9, 10, 11] [0, 1, 2, 3] rfl rfl rfl ⟨by decide, by decide, by decide, by decide⟩ rfl (fun H locs hP hD hS => ?_)
    refine lv_aload_n hx hb dX13_isKinder_37 rfl (lv_at hl 0 rfl) ?_
    refine lv_iload_n hx hb dX13_isKinder_38 rfl (lv_at hl 2 rfl) ?_
    obtain ⟨r_4, hc, hf⟩ := bd1_of hf
    refine k_V (As := [.int a2]) (rest := [.int r_3]) (ws1 := (kModel G q0 v0)) ⟨hx, hb, hml, hown, hts⟩ (c_X13_got l D G q0 a2 v0 _ hc  _) (cwV 1 hts gX13_isKinder_X13_got rfl rfl rfl (by decide +kernel) ⟨Nat.le_of_ble_eq_true rfl, Nat.le_of_ble_eq_true rfl⟩) hl.1 (Nat.le_of_ble_eq_true rfl) dX13_isKinder_39 ⟨Nat.le_of_ble_eq_true rfl, Nat.le_of_ble_eq_true rfl⟩ rfl kT_bl (fun _ _ _ => trivial) hN hK hP hD hS hA 0 11 rfl rfl rfl [0, 1, 2, 3, 4, 5, 6, 7, 8, 9, 10, 11] [] [0, 1, 2, 3, 4, 5, 6, 7, 8, 9, 10, 11] [0, 1, 2, 3] rfl rfl rfl ⟨by decide, by decide, by decide, by decide⟩ rfl (fun H locs hP hD hS => ?_)
    refine lv_icmp_gt (tgt := 63) hx hb dX13_isKinder_42 (by decide) (fun cc => ?_) (fun cc => ?_)
    · replace hf := ifT cc hf
      refine lv_iconst (v := 1) hx hb dX13_isKinder_63 (by decide) ?_
      refine lv_goto (tgt := 68) hx hb dX13_isKinder_64 (by decide) ?_
      obtain rfl := re1 hf
      exact hE (.inr rfl) hP hD hS dX13_isKinder_68
    · replace hf := ifF cc hf
      refine lv_aload_n hx hb dX13_isKinder_45 rfl (lv_at hl 0 rfl) ?_
      refine lv_iload_n hx hb dX13_isKinder_46 rfl (lv_at hl 1 rfl) ?_
      obtain ⟨r_5, hc, hf⟩ := bd1_of hf
      refine k_V (As := [.int a1]) (rest := []) (ws1 := (kModel G q0 v0)) ⟨hx, hb, hml, hown, hts⟩ (c_X13_got l D G q0 a1 v0 _ hc  _) (cwV 1 hts gX13_isKinder_X13_got rfl rfl rfl (by decide +kernel) ⟨Nat.le_of_ble_eq_true rfl, Nat.le_of_ble_eq_true rfl⟩) hl.1 (Nat.le_of_ble_eq_true rfl) dX13_isKinder_47 ⟨Nat.le_of_ble_eq_true rfl, Nat.le_of_ble_eq_true rfl⟩ rfl kT_bl (fun _ _ _ => trivial) hN hK hP hD hS hA 0 11 rfl rfl rfl [0, 1, 2, 3, 4, 5, 6, 7, 8, 9, 10, 11] [] [0, 1, 2, 3, 4, 5, 6, 7, 8, 9, 10, 11] [0, 1, 2, 3] rfl rfl rfl ⟨by decide, by decide, by decide, by decide⟩ rfl (fun H locs hP hD hS => ?_)
      refine lv_aload_n hx hb dX13_isKinder_50 rfl (lv_at hl 0 rfl) ?_
      refine lv_iload_n hx hb dX13_isKinder_51 rfl (lv_at hl 2 rfl) ?_
      obtain ⟨r_6, hc, hf⟩ := bd1_of hf
      refine k_V (As := [.int a2]) (rest := [.int r_5]) (ws1 := (kModel G q0 v0)) ⟨hx, hb, hml, hown, hts⟩ (c_X13_got l D G q0 a2 v0 _ hc  _) (cwV 1 hts gX13_isKinder_X13_got rfl rfl rfl (by decide +kernel) ⟨Nat.le_of_ble_eq_true rfl, Nat.le_of_ble_eq_true rfl⟩) hl.1 (Nat.le_of_ble_eq_true rfl) dX13_isKinder_52 ⟨Nat.le_of_ble_eq_true rfl, Nat.le_of_ble_eq_true rfl⟩ rfl kT_bl (fun _ _ _ => trivial) hN hK hP hD hS hA 0 11 rfl rfl rfl [0, 1, 2, 3, 4, 5, 6, 7, 8, 9, 10, 11] [] [0, 1, 2, 3, 4, 5, 6, 7, 8, 9, 10, 11] [0, 1, 2, 3] rfl rfl rfl ⟨by decide, by decide, by decide, by decide⟩ rfl (fun H locs hP hD hS => ?_)
      refine lv_icmp_ne (tgt := 67) hx hb dX13_isKinder_55 (by decide) (fun cc => ?_) (fun cc => ?_)
      · replace hf := ifF cc hf
        refine lv_iconst (v := 0) hx hb dX13_isKinder_67 (by decide) ?_
        obtain rfl := re1 hf
        exact hE (.inl rfl) hP hD hS dX13_isKinder_68
      · replace hf := ifT cc hf
        refine lv_iload_n hx hb dX13_isKinder_58 rfl (lv_at hl 1 rfl) ?_
        refine lv_iload_n hx hb dX13_isKinder_59 rfl (lv_at hl 2 rfl) ?_
        refine lv_icmp_ge (tgt := 67) hx hb dX13_isKinder_60 (by decide) (fun cc => ?_) (fun cc => ?_)
        · replace hf := ifT cc hf
          refine lv_iconst (v := 0) hx hb dX13_isKinder_67 (by decide) ?_
          obtain rfl := re1 hf
          exact hE (.inl rfl) hP hD hS dX13_isKinder_68
        · replace hf := ifF cc hf
          refine lv_iconst (v := 1) hx hb dX13_isKinder_63 (by decide) ?_
          refine lv_goto (tgt := 68) hx hb dX13_isKinder_64 (by decide) ?_
          obtain rfl := re1 hf
          exact hE (.inr rfl) hP hD hS dX13_isKinder_68
  · replace hf := ifF cc hf
    refine lv_aload_n hx hb dX13_isKinder_13 rfl (lv_at hl 0 rfl) ?_
    refine lv_iload_n hx hb dX13_isKinder_14 rfl (lv_at hl 1 rfl) ?_
    obtain ⟨r_7, hc, hf⟩ := bd1_of hf
    refine k_V (As := [.int a1]) (rest := []) (ws1 := (kModel G q0 v0)) ⟨hx, hb, hml, hown, hts⟩ (c_X13_given l D G q0 a1 v0 _ hc  _) (cwV 1 hts gX13_isKinder_X13_given rfl rfl rfl (by decide +kernel) ⟨Nat.le_of_ble_eq_true rfl, Nat.le_of_ble_eq_true rfl⟩) hl.1 (Nat.le_of_ble_eq_true rfl) dX13_isKinder_15 ⟨Nat.le_of_ble_eq_true rfl, Nat.le_of_ble_eq_true rfl⟩ rfl kT_bl (fun _ _ _ => trivial) hN hK hP hD hS hA 0 11 rfl rfl rfl [0, 1, 2, 3, 4, 5, 6, 7, 8, 9, 10, 11] [] [0, 1, 2, 3, 4, 5, 6, 7, 8, 9, 10, 11] [0, 1, 2, 3] rfl rfl rfl ⟨by decide, by decide, by decide, by decide⟩ rfl (fun H locs hP hD hS => ?_)
    refine lv_aload_n hx hb dX13_isKinder_18 rfl (lv_at hl 0 rfl) ?_
    refine lv_iload_n hx hb dX13_isKinder_19 rfl (lv_at hl 2 rfl) ?_
    obtain ⟨r_8, hc, hf⟩ := bd1_of hf
    refine k_V (As := [.int a2]) (rest := [.int r_7]) (ws1 := (kModel G q0 v0)) ⟨hx, hb, hml, hown, hts⟩ (c_X13_given l D G q0 a2 v0 _ hc  _) (cwV 1 hts gX13_isKinder_X13_given rfl rfl rfl (by decide +kernel) ⟨Nat.le_of_ble_eq_true rfl, Nat.le_of_ble_eq_true rfl⟩) hl.1 (Nat.le_of_ble_eq_true rfl) dX13_isKinder_20 ⟨Nat.le_of_ble_eq_true rfl, Nat.le_of_ble_eq_true rfl⟩ rfl kT_bl (fun _ _ _ => trivial) hN hK hP hD hS hA 0 11 rfl rfl rfl [0, 1, 2, 3, 4, 5, 6, 7, 8, 9, 10, 11] [] [0, 1, 2, 3, 4, 5, 6, 7, 8, 9, 10, 11] [0, 1, 2, 3] rfl rfl rfl ⟨by decide, by decide, by decide, by decide⟩ rfl (fun H locs hP hD hS => ?_)
    refine lv_icmp_le (tgt := 30) hx hb dX13_isKinder_23 (by decide) (fun cc => ?_) (fun cc => ?_)
    · replace hf := ifT cc hf
      refine lv_iconst (v := 0) hx hb dX13_isKinder_30 (by decide) ?_
      obtain rfl := re1 hf
      exact hE (.inl rfl) hP hD hS dX13_isKinder_31
    · replace hf := ifF cc hf
      refine lv_iconst (v := 1) hx hb dX13_isKinder_26 (by decide) ?_
      refine lv_goto (tgt := 31) hx hb dX13_isKinder_27 (by decide) ?_
      obtain rfl := re1 hf
      exact hE (.inr rfl) hP hD hS dX13_isKinder_31
def f_X13_kindest_K2 (y_18 : Int32) : Option Int32 :=
  some (-1)
def f_X13_kindest_K13 (a1 : Int32) (x_10 : Int32) (selfL_11 : (Int32 → Option Int32)) (y_16 : Int32) (y_17 : Int32) : Option Int32 :=
  if y_17 = a1 then
    some x_10
  else
    selfL_11 (x_10 + 1)
def f_X13_kindest_B13 (a1 : Int32) (x_10 : Int32) (selfL_11 : (Int32 → Option Int32)) (v0 : SV) (selfL_14 : (Int32 → Int32 → Option Int32)) (x_12 : Int32) (x_13 : Int32) : Option Int32 :=
  if 12 ≤ x_12 then
    f_X13_kindest_K13 a1 x_10 selfL_11 x_12 x_13
  else
    bd1 (f_X13_isKinder x_12 x_10 v0) fun r_15 =>
    if r_15 = 0 then
      selfL_14 (x_12 + 1) (x_13 + 0)
    else
      selfL_14 (x_12 + 1) (x_13 + 1)
def f_X13_kindest_B2 (a1 : Int32) (v0 : SV) (selfL_11 : (Int32 → Option Int32)) (x_10 : Int32) : Option Int32 :=
  if 12 ≤ x_10 then
    f_X13_kindest_K2 x_10
  else
    lz2 (f_X13_kindest_B13 a1 x_10 selfL_11 v0) FU 0 0
def f_X13_kindest (a1 : Int32) (v0 : SV) : Option Int32 :=
  lz1 (f_X13_kindest_B2 a1 v0) FU 0
abbrev rm_X13_kindest : Room := { frames := 3, cells := 0, slots := 0, locals := 67 }
set_option maxHeartbeats 4000000 in
set_option maxRecDepth 100000 in
theorem c_X13_kindest (l : Launch) (D : va_G) (G : Nat → ClassId) (q0 : Nat → Nat) (a1 : Int32) (v0 : SV) (r : Int32) (hf : f_X13_kindest a1 v0 = some r) (sz : Nat) : mC l yX13_kindest wsX13_kindest rm_X13_kindest D (tyG G) kT [.ref (q0 0), .int a1] (kModel G q0 v0) (kModel G q0 v0) sz (some (.int r)) 0 0 := by
  refine mC_ofI (cc := cX13_kindest) (maxL := 5) (ret := (some .int)) (by decide) rfl rfl (Nat.le_of_ble_eq_true rfl) ?_
  intro p e s m args below meth c Q0 hx hb hml hts hown hN hK A hD hA hE hP hS hJ ls hl
  have hl : lv_has ls 5 [(0, .ref (q0 0)), (1, .int a1)] := hl
  unfold f_X13_kindest at hf
  refine lv_iconst (v := 0) hx hb dX13_kindest_0 (by decide) ?_
  refine lv_istore_n (lv' := [(2, .int 0), (0, .ref (q0 0)), (1, .int a1)]) hx hb dX13_kindest_1 rfl hl (by decide) rfl (fun ls hl => ?_)
  have exL_11 : ∀ (y_18 : Int32) (H : Heap) (locs : List Loc) (ls : Array Slot), lv_has ls 5 [(2, .int y_18), (0, .ref (q0 0)), (1, .int a1)] → va_P D vwCl (kModel G q0 v0) H → va_D A (kModel G q0 v0) → va_S A s.heap H locs → f_X13_kindest_K2 y_18 = some r → W p l e rm_X13_kindest s m args below meth c H locs 0 0 Q0 (F0 m 57 ls []) := by
    intro y_18 H locs ls hl hP hD hS hf
    unfold f_X13_kindest_K2 at hf
    refine lv_iconst (v := (-1)) hx hb dX13_kindest_57 (by decide) ?_
    obtain rfl := re1 hf
    exact hE hP hD hS dX13_kindest_58
  have loL_11 : ∀ (n : Nat) (x_10 : Int32) (H : Heap) (locs : List Loc) (ls : Array Slot), lv_has ls 5 [(2, .int x_10), (0, .ref (q0 0)), (1, .int a1)] → va_P D vwCl (kModel G q0 v0) H → va_D A (kModel G q0 v0) → va_S A s.heap H locs → lz1 (f_X13_kindest_B2 a1 v0) n x_10 = some r → W p l e rm_X13_kindest s m args below meth c H locs 0 0 Q0 (F0 m 2 ls []) := by
    intro n
    induction n with
    | zero => intro x_10 H locs ls hl hP hD hS hf; cases hf
    | succ n ihL_11 =>
      intro x_10 H locs ls hl hP hD hS hf
      replace hf := lz1_s hf
      generalize lz1 (f_X13_kindest_B2 a1 v0) n = selfL_11 at hf ihL_11
      unfold f_X13_kindest_B2 at hf
      refine lv_iload_n hx hb dX13_kindest_2 rfl (lv_at hl 0 rfl) ?_
      refine lv_bipush (v := 12) hx hb dX13_kindest_3 (by decide +kernel) ?_
      refine lv_icmp_ge (tgt := 57) hx hb dX13_kindest_5 (by decide) (fun cc => ?_) (fun cc => ?_)
      · replace hf := ifT cc hf
        exact exL_11 x_10 _ _ _ (lv_sub hl [0, 1, 2] rfl) hP hD hS hf
      · replace hf := ifF cc hf
        refine lv_iconst (v := 0) hx hb dX13_kindest_8 (by decide) ?_
        refine lv_istore_n (lv' := [(3, .int 0), (2, .int x_10), (0, .ref (q0 0)), (1, .int a1)]) hx hb dX13_kindest_9 rfl hl (by decide) rfl (fun ls hl => ?_)
        refine lv_iconst (v := 0) hx hb dX13_kindest_10 (by decide) ?_
        refine lv_istore (lv' := [(4, .int 0), (3, .int 0), (2, .int x_10), (0, .ref (q0 0)), (1, .int a1)]) hx hb dX13_kindest_11 hl (by decide) rfl (fun ls hl => ?_)
        have exL_14 : ∀ (y_16 : Int32) (y_17 : Int32) (H : Heap) (locs : List Loc) (ls : Array Slot), lv_has ls 5 [(4, .int y_16), (3, .int y_17), (2, .int x_10), (0, .ref (q0 0)), (1, .int a1)] → va_P D vwCl (kModel G q0 v0) H → va_D A (kModel G q0 v0) → va_S A s.heap H locs → f_X13_kindest_K13 a1 x_10 selfL_11 y_16 y_17 = some r → W p l e rm_X13_kindest s m args below meth c H locs 0 0 Q0 (F0 m 44 ls []) := by
          intro y_16 y_17 H locs ls hl hP hD hS hf
          unfold f_X13_kindest_K13 at hf
          refine lv_iload_n hx hb dX13_kindest_44 rfl (lv_at hl 1 rfl) ?_
          refine lv_iload_n hx hb dX13_kindest_45 rfl (lv_at hl 4 rfl) ?_
          refine lv_icmp_ne (tgt := 51) hx hb dX13_kindest_46 (by decide) (fun cc => ?_) (fun cc => ?_)
          · replace hf := ifF cc hf
            refine lv_iinc (v := (x_10 + 1)) (lv' := [(2, .int (x_10 + 1)), (4, .int y_16), (3, .int y_17), (0, .ref (q0 0)), (1, .int a1)]) hx hb dX13_kindest_51 hl (k := 2) rfl rfl (by decide) rfl (fun ls hl => ?_)
            refine lv_goto (tgt := 2) hx hb dX13_kindest_54 (by decide) ?_
            exact ihL_11 (x_10 + 1) _ _ _ (lv_sub hl [0, 3, 4] rfl) hP hD hS hf
          · replace hf := ifT cc hf
            refine lv_iload_n hx hb dX13_kindest_49 rfl (lv_at hl 2 rfl) ?_
            obtain rfl := re1 hf
            exact hE hP hD hS dX13_kindest_50
        have loL_14 : ∀ (n : Nat) (x_12 : Int32) (x_13 : Int32) (H : Heap) (locs : List Loc) (ls : Array Slot), lv_has ls 5 [(4, .int x_12), (3, .int x_13), (2, .int x_10), (0, .ref (q0 0)), (1, .int a1)] → va_P D vwCl (kModel G q0 v0) H → va_D A (kModel G q0 v0) → va_S A s.heap H locs → lz2 (f_X13_kindest_B13 a1 x_10 selfL_11 v0) n x_12 x_13 = some r → W p l e rm_X13_kindest s m args below meth c H locs 0 0 Q0 (F0 m 13 ls []) := by
          intro n
          induction n with
          | zero => intro x_12 x_13 H locs ls hl hP hD hS hf; cases hf
          | succ n ihL_14 =>
            intro x_12 x_13 H locs ls hl hP hD hS hf
            replace hf := lz2_s hf
            unfold f_X13_kindest_B13 at hf
            refine lv_iload hx hb dX13_kindest_13 (lv_at hl 0 rfl) ?_
            refine lv_bipush (v := 12) hx hb dX13_kindest_15 (by decide +kernel) ?_
            refine lv_icmp_ge (tgt := 44) hx hb dX13_kindest_17 (by decide) (fun cc => ?_) (fun cc => ?_)
            · replace hf := ifT cc hf
              exact exL_14 x_12 x_13 _ _ _ (lv_sub hl [0, 1, 2, 3, 4] rfl) hP hD hS hf
            · replace hf := ifF cc hf
              refine lv_iload_n hx hb dX13_kindest_20 rfl (lv_at hl 1 rfl) ?_
              refine lv_aload_n hx hb dX13_kindest_21 rfl (lv_at hl 3 rfl) ?_
              refine lv_iload hx hb dX13_kindest_22 (lv_at hl 0 rfl) ?_
              refine lv_iload_n hx hb dX13_kindest_24 rfl (lv_at hl 2 rfl) ?_
              obtain ⟨r_15, hc, hf⟩ := bd1_of hf
              refine k_V (As := [.int x_12, .int x_10]) (rest := [.int x_13]) (ws1 := (kModel G q0 v0)) ⟨hx, hb, hml, hown, hts⟩ (c_X13_isKinder l D G q0 x_12 x_10 v0 _ hc  _) (cwV 2 hts gX13_kindest_X13_isKinder rfl rfl rfl (by decide +kernel) ⟨Nat.le_of_ble_eq_true rfl, Nat.le_of_ble_eq_true rfl⟩) hl.1 (Nat.le_of_ble_eq_true rfl) dX13_kindest_25 ⟨Nat.le_of_ble_eq_true rfl, Nat.le_of_ble_eq_true rfl⟩ rfl kT_bl (fun _ _ _ => trivial) hN hK hP hD hS hA 0 11 rfl rfl rfl [0, 1, 2, 3, 4, 5, 6, 7, 8, 9, 10, 11] [] [0, 1, 2, 3, 4, 5, 6, 7, 8, 9, 10, 11] [0, 1, 2, 3] rfl rfl rfl ⟨by decide, by decide, by decide, by decide⟩ rfl (fun H locs hP hD hS => ?_)
              refine lv_if_eq (tgt := 35) hx hb dX13_kindest_28 (by decide) (fun cc => ?_) (fun cc => ?_)
              · replace hf := ifT cc hf
                refine lv_iconst (v := 0) hx hb dX13_kindest_35 (by decide) ?_
                refine lv_iadd hx hb dX13_kindest_36 ?_
                refine lv_istore_n (lv' := [(3, .int (x_13 + 0)), (4, .int x_12), (2, .int x_10), (0, .ref (q0 0)), (1, .int a1)]) hx hb dX13_kindest_37 rfl hl (by decide) rfl (fun ls hl => ?_)
                refine lv_iinc (v := (x_12 + 1)) (lv' := [(4, .int (x_12 + 1)), (3, .int (x_13 + 0)), (2, .int x_10), (0, .ref (q0 0)), (1, .int a1)]) hx hb dX13_kindest_38 hl (k := 1) rfl rfl (by decide) rfl (fun ls hl => ?_)
                refine lv_goto (tgt := 13) hx hb dX13_kindest_41 (by decide) ?_
                exact ihL_14 (x_12 + 1) (x_13 + 0) _ _ _ (lv_sub hl [0, 1, 2, 3, 4] rfl) hP hD hS hf
              · replace hf := ifF cc hf
                refine lv_iconst (v := 1) hx hb dX13_kindest_31 (by decide) ?_
                refine lv_goto (tgt := 36) hx hb dX13_kindest_32 (by decide) ?_
                refine lv_iadd hx hb dX13_kindest_36 ?_
                refine lv_istore_n (lv' := [(3, .int (x_13 + 1)), (4, .int x_12), (2, .int x_10), (0, .ref (q0 0)), (1, .int a1)]) hx hb dX13_kindest_37 rfl hl (by decide) rfl (fun ls hl => ?_)
                refine lv_iinc (v := (x_12 + 1)) (lv' := [(4, .int (x_12 + 1)), (3, .int (x_13 + 1)), (2, .int x_10), (0, .ref (q0 0)), (1, .int a1)]) hx hb dX13_kindest_38 hl (k := 1) rfl rfl (by decide) rfl (fun ls hl => ?_)
                refine lv_goto (tgt := 13) hx hb dX13_kindest_41 (by decide) ?_
                exact ihL_14 (x_12 + 1) (x_13 + 1) _ _ _ (lv_sub hl [0, 1, 2, 3, 4] rfl) hP hD hS hf
        exact loL_14 FU 0 0 _ _ _ hl hP hD hS hf
  exact loL_11 FU 0 _ _ _ hl hP hD hS hf
def f_X13_isWorse (a1 : Int32) (a2 : Int32) (v0 : SV) : Option Int32 :=
  bd1 (f_X13_feudsOf a1 v0) fun r_1 =>
  bd1 (f_X13_feudsOf a2 v0) fun r_2 =>
  if r_1 = r_2 then
    bd1 (f_X13_plants a1 v0) fun r_3 =>
    bd1 (f_X13_plants a2 v0) fun r_4 =>
    if r_4 < r_3 then
      some 1
    else
      bd1 (f_X13_plants a1 v0) fun r_5 =>
      bd1 (f_X13_plants a2 v0) fun r_6 =>
      if r_5 = r_6 then
        if a2 ≤ a1 then
          some 0
        else
          some 1
      else
        some 0
  else
    bd1 (f_X13_feudsOf a1 v0) fun r_7 =>
    bd1 (f_X13_feudsOf a2 v0) fun r_8 =>
    if r_7 ≤ r_8 then
      some 0
    else
      some 1
abbrev rm_X13_isWorse : Room := { frames := 5, cells := 0, slots := 0, locals := 112 }
set_option maxHeartbeats 4000000 in
set_option maxRecDepth 100000 in
theorem c_X13_isWorse (l : Launch) (D : va_G) (G : Nat → ClassId) (q0 : Nat → Nat) (a1 : Int32) (a2 : Int32) (v0 : SV) (r : Int32) (hf : f_X13_isWorse a1 a2 v0 = some r) (sz : Nat) : mC l yX13_isWorse wsX13_isWorse rm_X13_isWorse D (tyG G) kT [.ref (q0 0), .int a1, .int a2] (kModel G q0 v0) (kModel G q0 v0) sz (some (.int r)) 0 0 := by
  refine mC_ofZ (cc := cX13_isWorse) (maxL := 3) (ret := (some .boolean)) (by decide) rfl rfl (Nat.le_of_ble_eq_true rfl) ?_
  intro p e s m args below meth c Q0 hx hb hml hts hown hN hK A hD hA hE hP hS hJ ls hl
  have hl : lv_has ls 3 [(0, .ref (q0 0)), (1, .int a1), (2, .int a2)] := hl
  unfold f_X13_isWorse at hf
  refine lv_aload_n hx hb dX13_isWorse_0 rfl (lv_at hl 0 rfl) ?_
  refine lv_iload_n hx hb dX13_isWorse_1 rfl (lv_at hl 1 rfl) ?_
  obtain ⟨r_1, hc, hf⟩ := bd1_of hf
  refine k_V (As := [.int a1]) (rest := []) (ws1 := (kModel G q0 v0)) ⟨hx, hb, hml, hown, hts⟩ (c_X13_feudsOf l D G q0 a1 v0 _ hc  _) (cwV 1 hts gX13_isWorse_X13_feudsOf rfl rfl rfl (by decide +kernel) ⟨Nat.le_of_ble_eq_true rfl, Nat.le_of_ble_eq_true rfl⟩) hl.1 (Nat.le_of_ble_eq_true rfl) dX13_isWorse_2 ⟨Nat.le_of_ble_eq_true rfl, Nat.le_of_ble_eq_true rfl⟩ rfl kT_bl (fun _ _ _ => trivial) hN hK hP hD hS hA 0 11 rfl rfl rfl [0, 1, 2, 3, 4, 5, 6, 7, 8, 9, 10, 11] [] [0, 1, 2, 3, 4, 5, 6, 7, 8, 9, 10, 11] [0, 1, 2, 3] rfl rfl rfl ⟨by decide, by decide, by decide, by decide⟩ rfl (fun H locs hP hD hS => ?_)
  refine lv_aload_n hx hb dX13_isWorse_5 rfl (lv_at hl 0 rfl) ?_
  refine lv_iload_n hx hb dX13_isWorse_6 rfl (lv_at hl 2 rfl) ?_
  obtain ⟨r_2, hc, hf⟩ := bd1_of hf
  refine k_V (As := [.int a2]) (rest := [.int r_1]) (ws1 := (kModel G q0 v0)) ⟨hx, hb, hml, hown, hts⟩ (c_X13_feudsOf l D G q0 a2 v0 _ hc  _) (cwV 1 hts gX13_isWorse_X13_feudsOf rfl rfl rfl (by decide +kernel) ⟨Nat.le_of_ble_eq_true rfl, Nat.le_of_ble_eq_true rfl⟩) hl.1 (Nat.le_of_ble_eq_true rfl) dX13_isWorse_7 ⟨Nat.le_of_ble_eq_true rfl, Nat.le_of_ble_eq_true rfl⟩ rfl kT_bl (fun _ _ _ => trivial) hN hK hP hD hS hA 0 11 rfl rfl rfl [0, 1, 2, 3, 4, 5, 6, 7, 8, 9, 10, 11] [] [0, 1, 2, 3, 4, 5, 6, 7, 8, 9, 10, 11] [0, 1, 2, 3] rfl rfl rfl ⟨by decide, by decide, by decide, by decide⟩ rfl (fun H locs hP hD hS => ?_)
  refine lv_icmp_eq (tgt := 32) hx hb dX13_isWorse_10 (by decide) (fun cc => ?_) (fun cc => ?_)
  · replace hf := ifT cc hf
    refine lv_aload_n hx hb dX13_isWorse_32 rfl (lv_at hl 0 rfl) ?_
    refine lv_iload_n hx hb dX13_isWorse_33 rfl (lv_at hl 1 rfl) ?_
    obtain ⟨r_3, hc, hf⟩ := bd1_of hf
    refine k_V (As := [.int a1]) (rest := []) (ws1 := (kModel G q0 v0)) ⟨hx, hb, hml, hown, hts⟩ (c_X13_plants l D G q0 a1 v0 _ hc  _) (cwV 1 hts gX13_isWorse_X13_plants rfl rfl rfl (by decide +kernel) ⟨Nat.le_of_ble_eq_true rfl, Nat.le_of_ble_eq_true rfl⟩) hl.1 (Nat.le_of_ble_eq_true rfl) dX13_isWorse_34 ⟨Nat.le_of_ble_eq_true rfl, Nat.le_of_ble_eq_true rfl⟩ rfl kT_bl (fun _ _ _ => trivial) hN hK hP hD hS hA 0 11 rfl rfl rfl [0, 1, 2, 3, 4, 5, 6, 7, 8, 9, 10, 11] [] [0, 1, 2, 3, 4, 5, 6, 7, 8, 9, 10, 11] [0, 1, 2, 3] rfl rfl rfl ⟨by decide, by decide, by decide, by decide⟩ rfl (fun H locs hP hD hS => ?_)
    refine lv_aload_n hx hb dX13_isWorse_37 rfl (lv_at hl 0 rfl) ?_
    refine lv_iload_n hx hb dX13_isWorse_38 rfl (lv_at hl 2 rfl) ?_
    obtain ⟨r_4, hc, hf⟩ := bd1_of hf
    refine k_V (As := [.int a2]) (rest := [.int r_3]) (ws1 := (kModel G q0 v0)) ⟨hx, hb, hml, hown, hts⟩ (c_X13_plants l D G q0 a2 v0 _ hc  _) (cwV 1 hts gX13_isWorse_X13_plants rfl rfl rfl (by decide +kernel) ⟨Nat.le_of_ble_eq_true rfl, Nat.le_of_ble_eq_true rfl⟩) hl.1 (Nat.le_of_ble_eq_true rfl) dX13_isWorse_39 ⟨Nat.le_of_ble_eq_true rfl, Nat.le_of_ble_eq_true rfl⟩ rfl kT_bl (fun _ _ _ => trivial) hN hK hP hD hS hA 0 11 rfl rfl rfl [0, 1, 2, 3, 4, 5, 6, 7, 8, 9, 10, 11] [] [0, 1, 2, 3, 4, 5, 6, 7, 8, 9, 10, 11] [0, 1, 2, 3] rfl rfl rfl ⟨by decide, by decide, by decide, by decide⟩ rfl (fun H locs hP hD hS => ?_)
    refine lv_icmp_gt (tgt := 63) hx hb dX13_isWorse_42 (by decide) (fun cc => ?_) (fun cc => ?_)
    · replace hf := ifT cc hf
      refine lv_iconst (v := 1) hx hb dX13_isWorse_63 (by decide) ?_
      refine lv_goto (tgt := 68) hx hb dX13_isWorse_64 (by decide) ?_
      obtain rfl := re1 hf
      exact hE (.inr rfl) hP hD hS dX13_isWorse_68
    · replace hf := ifF cc hf
      refine lv_aload_n hx hb dX13_isWorse_45 rfl (lv_at hl 0 rfl) ?_
      refine lv_iload_n hx hb dX13_isWorse_46 rfl (lv_at hl 1 rfl) ?_
      obtain ⟨r_5, hc, hf⟩ := bd1_of hf
      refine k_V (As := [.int a1]) (rest := []) (ws1 := (kModel G q0 v0)) ⟨hx, hb, hml, hown, hts⟩ (c_X13_plants l D G q0 a1 v0 _ hc  _) (cwV 1 hts gX13_isWorse_X13_plants rfl rfl rfl (by decide +kernel) ⟨Nat.le_of_ble_eq_true rfl, Nat.le_of_ble_eq_true rfl⟩) hl.1 (Nat.le_of_ble_eq_true rfl) dX13_isWorse_47 ⟨Nat.le_of_ble_eq_true rfl, Nat.le_of_ble_eq_true rfl⟩ rfl kT_bl (fun _ _ _ => trivial) hN hK hP hD hS hA 0 11 rfl rfl rfl [0, 1, 2, 3, 4, 5, 6, 7, 8, 9, 10, 11] [] [0, 1, 2, 3, 4, 5, 6, 7, 8, 9, 10, 11] [0, 1, 2, 3] rfl rfl rfl ⟨by decide, by decide, by decide, by decide⟩ rfl (fun H locs hP hD hS => ?_)
      refine lv_aload_n hx hb dX13_isWorse_50 rfl (lv_at hl 0 rfl) ?_
      refine lv_iload_n hx hb dX13_isWorse_51 rfl (lv_at hl 2 rfl) ?_
      obtain ⟨r_6, hc, hf⟩ := bd1_of hf
      refine k_V (As := [.int a2]) (rest := [.int r_5]) (ws1 := (kModel G q0 v0)) ⟨hx, hb, hml, hown, hts⟩ (c_X13_plants l D G q0 a2 v0 _ hc  _) (cwV 1 hts gX13_isWorse_X13_plants rfl rfl rfl (by decide +kernel) ⟨Nat.le_of_ble_eq_true rfl, Nat.le_of_ble_eq_true rfl⟩) hl.1 (Nat.le_of_ble_eq_true rfl) dX13_isWorse_52 ⟨Nat.le_of_ble_eq_true rfl, Nat.le_of_ble_eq_true rfl⟩ rfl kT_bl (fun _ _ _ => trivial) hN hK hP hD hS hA 0 11 rfl rfl rfl [0, 1, 2, 3, 4, 5, 6, 7, 8, 9, 10, 11] [] [0, 1, 2, 3, 4, 5, 6, 7, 8, 9, 10, 11] [0, 1, 2, 3] rfl rfl rfl ⟨by decide, by decide, by decide, by decide⟩ rfl (fun H locs hP hD hS => ?_)
      refine lv_icmp_ne (tgt := 67) hx hb dX13_isWorse_55 (by decide) (fun cc => ?_) (fun cc => ?_)
      · replace hf := ifF cc hf
        refine lv_iconst (v := 0) hx hb dX13_isWorse_67 (by decide) ?_
        obtain rfl := re1 hf
        exact hE (.inl rfl) hP hD hS dX13_isWorse_68
      · replace hf := ifT cc hf
        refine lv_iload_n hx hb dX13_isWorse_58 rfl (lv_at hl 1 rfl) ?_
        refine lv_iload_n hx hb dX13_isWorse_59 rfl (lv_at hl 2 rfl) ?_
        refine lv_icmp_ge (tgt := 67) hx hb dX13_isWorse_60 (by decide) (fun cc => ?_) (fun cc => ?_)
        · replace hf := ifT cc hf
          refine lv_iconst (v := 0) hx hb dX13_isWorse_67 (by decide) ?_
          obtain rfl := re1 hf
          exact hE (.inl rfl) hP hD hS dX13_isWorse_68
        · replace hf := ifF cc hf
          refine lv_iconst (v := 1) hx hb dX13_isWorse_63 (by decide) ?_
          refine lv_goto (tgt := 68) hx hb dX13_isWorse_64 (by decide) ?_
          obtain rfl := re1 hf
          exact hE (.inr rfl) hP hD hS dX13_isWorse_68
  · replace hf := ifF cc hf
    refine lv_aload_n hx hb dX13_isWorse_13 rfl (lv_at hl 0 rfl) ?_
    refine lv_iload_n hx hb dX13_isWorse_14 rfl (lv_at hl 1 rfl) ?_
    obtain ⟨r_7, hc, hf⟩ := bd1_of hf
    refine k_V (As := [.int a1]) (rest := []) (ws1 := (kModel G q0 v0)) ⟨hx, hb, hml, hown, hts⟩ (c_X13_feudsOf l D G q0 a1 v0 _ hc  _) (cwV 1 hts gX13_isWorse_X13_feudsOf rfl rfl rfl (by decide +kernel) ⟨Nat.le_of_ble_eq_true rfl, Nat.le_of_ble_eq_true rfl⟩) hl.1 (Nat.le_of_ble_eq_true rfl) dX13_isWorse_15 ⟨Nat.le_of_ble_eq_true rfl, Nat.le_of_ble_eq_true rfl⟩ rfl kT_bl (fun _ _ _ => trivial) hN hK hP hD hS hA 0 11 rfl rfl rfl [0, 1, 2, 3, 4, 5, 6, 7, 8, 9, 10, 11] [] [0, 1, 2, 3, 4, 5, 6, 7, 8, 9, 10, 11] [0, 1, 2, 3] rfl rfl rfl ⟨by decide, by decide, by decide, by decide⟩ rfl (fun H locs hP hD hS => ?_)
    refine lv_aload_n hx hb dX13_isWorse_18 rfl (lv_at hl 0 rfl) ?_
    refine lv_iload_n hx hb dX13_isWorse_19 rfl (lv_at hl 2 rfl) ?_
    obtain ⟨r_8, hc, hf⟩ := bd1_of hf
    refine k_V (As := [.int a2]) (rest := [.int r_7]) (ws1 := (kModel G q0 v0)) ⟨hx, hb, hml, hown, hts⟩ (c_X13_feudsOf l D G q0 a2 v0 _ hc  _) (cwV 1 hts gX13_isWorse_X13_feudsOf rfl rfl rfl (by decide +kernel) ⟨Nat.le_of_ble_eq_true rfl, Nat.le_of_ble_eq_true rfl⟩) hl.1 (Nat.le_of_ble_eq_true rfl) dX13_isWorse_20 ⟨Nat.le_of_ble_eq_true rfl, Nat.le_of_ble_eq_true rfl⟩ rfl kT_bl (fun _ _ _ => trivial) hN hK hP hD hS hA 0 11 rfl rfl rfl [0, 1, 2, 3, 4, 5, 6, 7, 8, 9, 10, 11] [] [0, 1, 2, 3, 4, 5, 6, 7, 8, 9, 10, 11] [0, 1, 2, 3] rfl rfl rfl ⟨by decide, by decide, by decide, by decide⟩ rfl (fun H locs hP hD hS => ?_)
    refine lv_icmp_le (tgt := 30) hx hb dX13_isWorse_23 (by decide) (fun cc => ?_) (fun cc => ?_)
    · replace hf := ifT cc hf
      refine lv_iconst (v := 0) hx hb dX13_isWorse_30 (by decide) ?_
      obtain rfl := re1 hf
      exact hE (.inl rfl) hP hD hS dX13_isWorse_31
    · replace hf := ifF cc hf
      refine lv_iconst (v := 1) hx hb dX13_isWorse_26 (by decide) ?_
      refine lv_goto (tgt := 31) hx hb dX13_isWorse_27 (by decide) ?_
      obtain rfl := re1 hf
      exact hE (.inr rfl) hP hD hS dX13_isWorse_31
def f_X13_worst_K2 (y_18 : Int32) : Option Int32 :=
  some (-1)
def f_X13_worst_K13 (a1 : Int32) (x_10 : Int32) (selfL_11 : (Int32 → Option Int32)) (y_16 : Int32) (y_17 : Int32) : Option Int32 :=
  if y_17 = a1 then
    some x_10
  else
    selfL_11 (x_10 + 1)
def f_X13_worst_B13 (a1 : Int32) (x_10 : Int32) (selfL_11 : (Int32 → Option Int32)) (v0 : SV) (selfL_14 : (Int32 → Int32 → Option Int32)) (x_12 : Int32) (x_13 : Int32) : Option Int32 :=
  if 12 ≤ x_12 then
    f_X13_worst_K13 a1 x_10 selfL_11 x_12 x_13
  else
    bd1 (f_X13_isWorse x_12 x_10 v0) fun r_15 =>
    if r_15 = 0 then
      selfL_14 (x_12 + 1) (x_13 + 0)
    else
      selfL_14 (x_12 + 1) (x_13 + 1)
def f_X13_worst_B2 (a1 : Int32) (v0 : SV) (selfL_11 : (Int32 → Option Int32)) (x_10 : Int32) : Option Int32 :=
  if 12 ≤ x_10 then
    f_X13_worst_K2 x_10
  else
    lz2 (f_X13_worst_B13 a1 x_10 selfL_11 v0) FU 0 0
def f_X13_worst (a1 : Int32) (v0 : SV) : Option Int32 :=
  lz1 (f_X13_worst_B2 a1 v0) FU 0
abbrev rm_X13_worst : Room := { frames := 6, cells := 0, slots := 0, locals := 134 }
set_option maxHeartbeats 4000000 in
set_option maxRecDepth 100000 in
theorem c_X13_worst (l : Launch) (D : va_G) (G : Nat → ClassId) (q0 : Nat → Nat) (a1 : Int32) (v0 : SV) (r : Int32) (hf : f_X13_worst a1 v0 = some r) (sz : Nat) : mC l yX13_worst wsX13_worst rm_X13_worst D (tyG G) kT [.ref (q0 0), .int a1] (kModel G q0 v0) (kModel G q0 v0) sz (some (.int r)) 0 0 := by
  refine mC_ofI (cc := cX13_worst) (maxL := 5) (ret := (some .int)) (by decide) rfl rfl (Nat.le_of_ble_eq_true rfl) ?_
  intro p e s m args below meth c Q0 hx hb hml hts hown hN hK A hD hA hE hP hS hJ ls hl
  have hl : lv_has ls 5 [(0, .ref (q0 0)), (1, .int a1)] := hl
  unfold f_X13_worst at hf
  refine lv_iconst (v := 0) hx hb dX13_worst_0 (by decide) ?_
  refine lv_istore_n (lv' := [(2, .int 0), (0, .ref (q0 0)), (1, .int a1)]) hx hb dX13_worst_1 rfl hl (by decide) rfl (fun ls hl => ?_)
  have exL_11 : ∀ (y_18 : Int32) (H : Heap) (locs : List Loc) (ls : Array Slot), lv_has ls 5 [(2, .int y_18), (0, .ref (q0 0)), (1, .int a1)] → va_P D vwCl (kModel G q0 v0) H → va_D A (kModel G q0 v0) → va_S A s.heap H locs → f_X13_worst_K2 y_18 = some r → W p l e rm_X13_worst s m args below meth c H locs 0 0 Q0 (F0 m 57 ls []) := by
    intro y_18 H locs ls hl hP hD hS hf
    unfold f_X13_worst_K2 at hf
    refine lv_iconst (v := (-1)) hx hb dX13_worst_57 (by decide) ?_
    obtain rfl := re1 hf
    exact hE hP hD hS dX13_worst_58
  have loL_11 : ∀ (n : Nat) (x_10 : Int32) (H : Heap) (locs : List Loc) (ls : Array Slot), lv_has ls 5 [(2, .int x_10), (0, .ref (q0 0)), (1, .int a1)] → va_P D vwCl (kModel G q0 v0) H → va_D A (kModel G q0 v0) → va_S A s.heap H locs → lz1 (f_X13_worst_B2 a1 v0) n x_10 = some r → W p l e rm_X13_worst s m args below meth c H locs 0 0 Q0 (F0 m 2 ls []) := by
    intro n
    induction n with
    | zero => intro x_10 H locs ls hl hP hD hS hf; cases hf
    | succ n ihL_11 =>
      intro x_10 H locs ls hl hP hD hS hf
      replace hf := lz1_s hf
      generalize lz1 (f_X13_worst_B2 a1 v0) n = selfL_11 at hf ihL_11
      unfold f_X13_worst_B2 at hf
      refine lv_iload_n hx hb dX13_worst_2 rfl (lv_at hl 0 rfl) ?_
      refine lv_bipush (v := 12) hx hb dX13_worst_3 (by decide +kernel) ?_
      refine lv_icmp_ge (tgt := 57) hx hb dX13_worst_5 (by decide) (fun cc => ?_) (fun cc => ?_)
      · replace hf := ifT cc hf
        exact exL_11 x_10 _ _ _ (lv_sub hl [0, 1, 2] rfl) hP hD hS hf
      · replace hf := ifF cc hf
        refine lv_iconst (v := 0) hx hb dX13_worst_8 (by decide) ?_
        refine lv_istore_n (lv' := [(3, .int 0), (2, .int x_10), (0, .ref (q0 0)), (1, .int a1)]) hx hb dX13_worst_9 rfl hl (by decide) rfl (fun ls hl => ?_)
        refine lv_iconst (v := 0) hx hb dX13_worst_10 (by decide) ?_
        refine lv_istore (lv' := [(4, .int 0), (3, .int 0), (2, .int x_10), (0, .ref (q0 0)), (1, .int a1)]) hx hb dX13_worst_11 hl (by decide) rfl (fun ls hl => ?_)
        have exL_14 : ∀ (y_16 : Int32) (y_17 : Int32) (H : Heap) (locs : List Loc) (ls : Array Slot), lv_has ls 5 [(4, .int y_16), (3, .int y_17), (2, .int x_10), (0, .ref (q0 0)), (1, .int a1)] → va_P D vwCl (kModel G q0 v0) H → va_D A (kModel G q0 v0) → va_S A s.heap H locs → f_X13_worst_K13 a1 x_10 selfL_11 y_16 y_17 = some r → W p l e rm_X13_worst s m args below meth c H locs 0 0 Q0 (F0 m 44 ls []) := by
          intro y_16 y_17 H locs ls hl hP hD hS hf
          unfold f_X13_worst_K13 at hf
          refine lv_iload_n hx hb dX13_worst_44 rfl (lv_at hl 1 rfl) ?_
          refine lv_iload_n hx hb dX13_worst_45 rfl (lv_at hl 4 rfl) ?_
          refine lv_icmp_ne (tgt := 51) hx hb dX13_worst_46 (by decide) (fun cc => ?_) (fun cc => ?_)
          · replace hf := ifF cc hf
            refine lv_iinc (v := (x_10 + 1)) (lv' := [(2, .int (x_10 + 1)), (4, .int y_16), (3, .int y_17), (0, .ref (q0 0)), (1, .int a1)]) hx hb dX13_worst_51 hl (k := 2) rfl rfl (by decide) rfl (fun ls hl => ?_)
            refine lv_goto (tgt := 2) hx hb dX13_worst_54 (by decide) ?_
            exact ihL_11 (x_10 + 1) _ _ _ (lv_sub hl [0, 3, 4] rfl) hP hD hS hf
          · replace hf := ifT cc hf
            refine lv_iload_n hx hb dX13_worst_49 rfl (lv_at hl 2 rfl) ?_
            obtain rfl := re1 hf
            exact hE hP hD hS dX13_worst_50
        have loL_14 : ∀ (n : Nat) (x_12 : Int32) (x_13 : Int32) (H : Heap) (locs : List Loc) (ls : Array Slot), lv_has ls 5 [(4, .int x_12), (3, .int x_13), (2, .int x_10), (0, .ref (q0 0)), (1, .int a1)] → va_P D vwCl (kModel G q0 v0) H → va_D A (kModel G q0 v0) → va_S A s.heap H locs → lz2 (f_X13_worst_B13 a1 x_10 selfL_11 v0) n x_12 x_13 = some r → W p l e rm_X13_worst s m args below meth c H locs 0 0 Q0 (F0 m 13 ls []) := by
          intro n
          induction n with
          | zero => intro x_12 x_13 H locs ls hl hP hD hS hf; cases hf
          | succ n ihL_14 =>
            intro x_12 x_13 H locs ls hl hP hD hS hf
            replace hf := lz2_s hf
            unfold f_X13_worst_B13 at hf
            refine lv_iload hx hb dX13_worst_13 (lv_at hl 0 rfl) ?_
            refine lv_bipush (v := 12) hx hb dX13_worst_15 (by decide +kernel) ?_
            refine lv_icmp_ge (tgt := 44) hx hb dX13_worst_17 (by decide) (fun cc => ?_) (fun cc => ?_)
            · replace hf := ifT cc hf
              exact exL_14 x_12 x_13 _ _ _ (lv_sub hl [0, 1, 2, 3, 4] rfl) hP hD hS hf
            · replace hf := ifF cc hf
              refine lv_iload_n hx hb dX13_worst_20 rfl (lv_at hl 1 rfl) ?_
              refine lv_aload_n hx hb dX13_worst_21 rfl (lv_at hl 3 rfl) ?_
              refine lv_iload hx hb dX13_worst_22 (lv_at hl 0 rfl) ?_
              refine lv_iload_n hx hb dX13_worst_24 rfl (lv_at hl 2 rfl) ?_
              obtain ⟨r_15, hc, hf⟩ := bd1_of hf
              refine k_V (As := [.int x_12, .int x_10]) (rest := [.int x_13]) (ws1 := (kModel G q0 v0)) ⟨hx, hb, hml, hown, hts⟩ (c_X13_isWorse l D G q0 x_12 x_10 v0 _ hc  _) (cwV 2 hts gX13_worst_X13_isWorse rfl rfl rfl (by decide +kernel) ⟨Nat.le_of_ble_eq_true rfl, Nat.le_of_ble_eq_true rfl⟩) hl.1 (Nat.le_of_ble_eq_true rfl) dX13_worst_25 ⟨Nat.le_of_ble_eq_true rfl, Nat.le_of_ble_eq_true rfl⟩ rfl kT_bl (fun _ _ _ => trivial) hN hK hP hD hS hA 0 11 rfl rfl rfl [0, 1, 2, 3, 4, 5, 6, 7, 8, 9, 10, 11] [] [0, 1, 2, 3, 4, 5, 6, 7, 8, 9, 10, 11] [0, 1, 2, 3] rfl rfl rfl ⟨by decide, by decide, by decide, by decide⟩ rfl (fun H locs hP hD hS => ?_)
              refine lv_if_eq (tgt := 35) hx hb dX13_worst_28 (by decide) (fun cc => ?_) (fun cc => ?_)
              · replace hf := ifT cc hf
                refine lv_iconst (v := 0) hx hb dX13_worst_35 (by decide) ?_
                refine lv_iadd hx hb dX13_worst_36 ?_
                refine lv_istore_n (lv' := [(3, .int (x_13 + 0)), (4, .int x_12), (2, .int x_10), (0, .ref (q0 0)), (1, .int a1)]) hx hb dX13_worst_37 rfl hl (by decide) rfl (fun ls hl => ?_)
                refine lv_iinc (v := (x_12 + 1)) (lv' := [(4, .int (x_12 + 1)), (3, .int (x_13 + 0)), (2, .int x_10), (0, .ref (q0 0)), (1, .int a1)]) hx hb dX13_worst_38 hl (k := 1) rfl rfl (by decide) rfl (fun ls hl => ?_)
                refine lv_goto (tgt := 13) hx hb dX13_worst_41 (by decide) ?_
                exact ihL_14 (x_12 + 1) (x_13 + 0) _ _ _ (lv_sub hl [0, 1, 2, 3, 4] rfl) hP hD hS hf
              · replace hf := ifF cc hf
                refine lv_iconst (v := 1) hx hb dX13_worst_31 (by decide) ?_
                refine lv_goto (tgt := 36) hx hb dX13_worst_32 (by decide) ?_
                refine lv_iadd hx hb dX13_worst_36 ?_
                refine lv_istore_n (lv' := [(3, .int (x_13 + 1)), (4, .int x_12), (2, .int x_10), (0, .ref (q0 0)), (1, .int a1)]) hx hb dX13_worst_37 rfl hl (by decide) rfl (fun ls hl => ?_)
                refine lv_iinc (v := (x_12 + 1)) (lv' := [(4, .int (x_12 + 1)), (3, .int (x_13 + 1)), (2, .int x_10), (0, .ref (q0 0)), (1, .int a1)]) hx hb dX13_worst_38 hl (k := 1) rfl rfl (by decide) rfl (fun ls hl => ?_)
                refine lv_goto (tgt := 13) hx hb dX13_worst_41 (by decide) ?_
                exact ihL_14 (x_12 + 1) (x_13 + 1) _ _ _ (lv_sub hl [0, 1, 2, 3, 4] rfl) hP hD hS hf
        exact loL_14 FU 0 0 _ _ _ hl hP hD hS hf
  exact loL_11 FU 0 _ _ _ hl hP hD hS hf
