/-! Walks, laid by wip/whole/gen.py: for each method f_ (what it does to its world) and c_ (its contract). -/
def f_X3_ofBalcony_K4 (y_7 : Int32) (y_8 : Int32) : Option Int32 :=
  some y_8
def f_X3_ofBalcony_B4 (a1 : Int32) (v0 : SV) (selfL_5 : (Int32 → Int32 → Option Int32)) (x_3 : Int32) (x_4 : Int32) : Option Int32 :=
  if 12 ≤ x_3 then
    f_X3_ofBalcony_K4 x_3 x_4
  else
    bd1 (f_X6_isFeud a1 x_3 v0) fun r_6 =>
    if r_6 = 0 then
      selfL_5 (x_3 + 1) x_4
    else
      selfL_5 (x_3 + 1) (x_4 + 1)
def f_X3_ofBalcony (a1 : Int32) (v0 : SV) : Option Int32 :=
  lz2 (f_X3_ofBalcony_B4 a1 v0) FU 0 0
abbrev rm_X3_ofBalcony : Room := { frames := 2, cells := 0, slots := 0, locals := 49 }
set_option maxHeartbeats 4000000 in
set_option maxRecDepth 100000 in
theorem c_X3_ofBalcony (l : Launch) (D : va_G) (G : Nat → ClassId) (q0 : Nat → Nat) (a1 : Int32) (v0 : SV) (r : Int32) (hf : f_X3_ofBalcony a1 v0 = some r) (sz : Nat) : mC l yX3_ofBalcony wsX3_ofBalcony rm_X3_ofBalcony D (tyG G) kT [.ref (q0 0), .int a1] (kHouse G q0 v0) (kHouse G q0 v0) sz (some (.int r)) 0 0 := by
  refine mC_ofI (cc := cX3_ofBalcony) (maxL := 4) (ret := (some .int)) (by decide) rfl rfl (Nat.le_of_ble_eq_true rfl) ?_
  intro p e s m args below meth c Q0 hx hb hml hts hown hN hK A hD hA hE hP hS hJ ls hl
  have hl : lv_has ls 4 [(0, .ref (q0 0)), (1, .int a1)] := hl
  unfold f_X3_ofBalcony at hf
  refine lv_iconst (v := 0) hx hb dX3_ofBalcony_0 (by decide) ?_
  refine lv_istore_n (lv' := [(2, .int 0), (0, .ref (q0 0)), (1, .int a1)]) hx hb dX3_ofBalcony_1 rfl hl (by decide) rfl (fun ls hl => ?_)
  refine lv_iconst (v := 0) hx hb dX3_ofBalcony_2 (by decide) ?_
  refine lv_istore_n (lv' := [(3, .int 0), (2, .int 0), (0, .ref (q0 0)), (1, .int a1)]) hx hb dX3_ofBalcony_3 rfl hl (by decide) rfl (fun ls hl => ?_)
  have exL_5 : ∀ (y_7 : Int32) (y_8 : Int32) (H : Heap) (locs : List Loc) (ls : Array Slot), lv_has ls 4 [(3, .int y_7), (2, .int y_8), (0, .ref (q0 0)), (1, .int a1)] → va_P D vwCl (kHouse G q0 v0) H → va_D A (kHouse G q0 v0) → va_S A s.heap H locs → f_X3_ofBalcony_K4 y_7 y_8 = some r → W p l e rm_X3_ofBalcony s m args below meth c H locs 0 0 Q0 (F0 m 28 ls []) := by
    intro y_7 y_8 H locs ls hl hP hD hS hf
    unfold f_X3_ofBalcony_K4 at hf
    refine lv_iload_n hx hb dX3_ofBalcony_28 rfl (lv_at hl 1 rfl) ?_
    obtain rfl := re1 hf
    exact hE hP hD hS dX3_ofBalcony_29
  have loL_5 : ∀ (n : Nat) (x_3 : Int32) (x_4 : Int32) (H : Heap) (locs : List Loc) (ls : Array Slot), lv_has ls 4 [(3, .int x_3), (2, .int x_4), (0, .ref (q0 0)), (1, .int a1)] → va_P D vwCl (kHouse G q0 v0) H → va_D A (kHouse G q0 v0) → va_S A s.heap H locs → lz2 (f_X3_ofBalcony_B4 a1 v0) n x_3 x_4 = some r → W p l e rm_X3_ofBalcony s m args below meth c H locs 0 0 Q0 (F0 m 4 ls []) := by
    intro n
    induction n with
    | zero => intro x_3 x_4 H locs ls hl hP hD hS hf; cases hf
    | succ n ihL_5 =>
      intro x_3 x_4 H locs ls hl hP hD hS hf
      replace hf := lz2_s hf
      unfold f_X3_ofBalcony_B4 at hf
      refine lv_iload_n hx hb dX3_ofBalcony_4 rfl (lv_at hl 0 rfl) ?_
      refine lv_bipush (v := 12) hx hb dX3_ofBalcony_5 (by decide +kernel) ?_
      refine lv_icmp_ge (tgt := 28) hx hb dX3_ofBalcony_7 (by decide) (fun cc => ?_) (fun cc => ?_)
      · replace hf := ifT cc hf
        exact exL_5 x_3 x_4 _ _ _ (lv_sub hl [0, 1, 2, 3] rfl) hP hD hS hf
      · replace hf := ifF cc hf
        refine lv_aload_n hx hb dX3_ofBalcony_10 rfl (lv_at hl 2 rfl) ?_
        refine lv_iload_n hx hb dX3_ofBalcony_11 rfl (lv_at hl 3 rfl) ?_
        refine lv_iload_n hx hb dX3_ofBalcony_12 rfl (lv_at hl 0 rfl) ?_
        obtain ⟨r_6, hc, hf⟩ := bd1_of hf
        refine k_V (As := [.int a1, .int x_3]) (rest := []) (ws1 := (kHouse G q0 v0)) ⟨hx, hb, hml, hown, hts⟩ (c_X6_isFeud l D G q0 a1 x_3 v0 _ hc  _) (cwV 2 hts gX3_ofBalcony_X6_isFeud rfl rfl rfl (by decide +kernel) ⟨Nat.le_of_ble_eq_true rfl, Nat.le_of_ble_eq_true rfl⟩) hl.1 (Nat.le_of_ble_eq_true rfl) dX3_ofBalcony_13 ⟨Nat.le_of_ble_eq_true rfl, Nat.le_of_ble_eq_true rfl⟩ rfl kT_bl (fun _ _ _ => trivial) hN hK hP hD hS hA 0 4 rfl rfl rfl [0, 1, 2, 3, 4, 5, 6, 7, 8, 9, 10, 11, 12, 13, 14] [] [0, 1, 2, 3, 4, 5, 6, 7, 8, 9, 10, 11, 12, 13, 14] [0, 1, 2, 3] rfl rfl rfl ⟨by decide, by decide, by decide, by decide⟩ rfl (fun H locs hP hD hS => ?_)
        refine lv_if_eq (tgt := 22) hx hb dX3_ofBalcony_16 (by decide) (fun cc => ?_) (fun cc => ?_)
        · replace hf := ifT cc hf
          refine lv_iinc (v := (x_3 + 1)) (lv' := [(3, .int (x_3 + 1)), (2, .int x_4), (0, .ref (q0 0)), (1, .int a1)]) hx hb dX3_ofBalcony_22 hl (k := 0) rfl rfl (by decide) rfl (fun ls hl => ?_)
          refine lv_goto (tgt := 4) hx hb dX3_ofBalcony_25 (by decide) ?_
          exact ihL_5 (x_3 + 1) x_4 _ _ _ (lv_sub hl [0, 1, 2, 3] rfl) hP hD hS hf
        · replace hf := ifF cc hf
          refine lv_iinc (v := (x_4 + 1)) (lv' := [(2, .int (x_4 + 1)), (3, .int x_3), (0, .ref (q0 0)), (1, .int a1)]) hx hb dX3_ofBalcony_19 hl (k := 1) rfl rfl (by decide) rfl (fun ls hl => ?_)
          refine lv_iinc (v := (x_3 + 1)) (lv' := [(3, .int (x_3 + 1)), (2, .int (x_4 + 1)), (0, .ref (q0 0)), (1, .int a1)]) hx hb dX3_ofBalcony_22 hl (k := 1) rfl rfl (by decide) rfl (fun ls hl => ?_)
          refine lv_goto (tgt := 4) hx hb dX3_ofBalcony_25 (by decide) ?_
          exact ihL_5 (x_3 + 1) (x_4 + 1) _ _ _ (lv_sub hl [0, 1, 2, 3] rfl) hP hD hS hf
  exact loL_5 FU 0 0 _ _ _ hl hP hD hS hf
def f_X3_byPairs_K4 (y_19 : Int32) (y_20 : Int32) : Option Int32 :=
  some y_20
def f_X3_byPairs_K14 (selfL_12 : (Int32 → Int32 → Option Int32)) (x_10 : Int32) (y_17 : Int32) (y_18 : Int32) : Option Int32 :=
  selfL_12 (x_10 + 1) y_18
def f_X3_byPairs_B14 (selfL_12 : (Int32 → Int32 → Option Int32)) (x_10 : Int32) (v0 : SV) (selfL_15 : (Int32 → Int32 → Option Int32)) (x_13 : Int32) (x_14 : Int32) : Option Int32 :=
  if 12 ≤ x_13 then
    f_X3_byPairs_K14 selfL_12 x_10 x_13 x_14
  else
    bd1 (f_X6_isFeud x_10 x_13 v0) fun r_16 =>
    if r_16 = 0 then
      selfL_15 (x_13 + 1) x_14
    else
      selfL_15 (x_13 + 1) (x_14 + 1)
def f_X3_byPairs_B4 (v0 : SV) (selfL_12 : (Int32 → Int32 → Option Int32)) (x_10 : Int32) (x_11 : Int32) : Option Int32 :=
  if 12 ≤ x_10 then
    f_X3_byPairs_K4 x_10 x_11
  else
    lz2 (f_X3_byPairs_B14 selfL_12 x_10 v0) FU (x_10 + 1) x_11
def f_X3_byPairs (v0 : SV) : Option Int32 :=
  lz2 (f_X3_byPairs_B4 v0) FU 0 0
abbrev rm_X3_byPairs : Room := { frames := 2, cells := 0, slots := 0, locals := 49 }
set_option maxHeartbeats 4000000 in
set_option maxRecDepth 100000 in
theorem c_X3_byPairs (l : Launch) (D : va_G) (G : Nat → ClassId) (q0 : Nat → Nat) (v0 : SV) (r : Int32) (hf : f_X3_byPairs v0 = some r) (sz : Nat) : mC l yX3_byPairs wsX3_byPairs rm_X3_byPairs D (tyG G) kT [.ref (q0 0)] (kHouse G q0 v0) (kHouse G q0 v0) sz (some (.int r)) 0 0 := by
  refine mC_ofI (cc := cX3_byPairs) (maxL := 4) (ret := (some .int)) (by decide) rfl rfl (Nat.le_of_ble_eq_true rfl) ?_
  intro p e s m args below meth c Q0 hx hb hml hts hown hN hK A hD hA hE hP hS hJ ls hl
  have hl : lv_has ls 4 [(0, .ref (q0 0))] := hl
  unfold f_X3_byPairs at hf
  refine lv_iconst (v := 0) hx hb dX3_byPairs_0 (by decide) ?_
  refine lv_istore_n (lv' := [(1, .int 0), (0, .ref (q0 0))]) hx hb dX3_byPairs_1 rfl hl (by decide) rfl (fun ls hl => ?_)
  refine lv_iconst (v := 0) hx hb dX3_byPairs_2 (by decide) ?_
  refine lv_istore_n (lv' := [(2, .int 0), (1, .int 0), (0, .ref (q0 0))]) hx hb dX3_byPairs_3 rfl hl (by decide) rfl (fun ls hl => ?_)
  have exL_12 : ∀ (y_19 : Int32) (y_20 : Int32) (H : Heap) (locs : List Loc) (ls : Array Slot), lv_has ls 4 [(2, .int y_19), (1, .int y_20), (0, .ref (q0 0))] → va_P D vwCl (kHouse G q0 v0) H → va_D A (kHouse G q0 v0) → va_S A s.heap H locs → f_X3_byPairs_K4 y_19 y_20 = some r → W p l e rm_X3_byPairs s m args below meth c H locs 0 0 Q0 (F0 m 44 ls []) := by
    intro y_19 y_20 H locs ls hl hP hD hS hf
    unfold f_X3_byPairs_K4 at hf
    refine lv_iload_n hx hb dX3_byPairs_44 rfl (lv_at hl 1 rfl) ?_
    obtain rfl := re1 hf
    exact hE hP hD hS dX3_byPairs_45
  have loL_12 : ∀ (n : Nat) (x_10 : Int32) (x_11 : Int32) (H : Heap) (locs : List Loc) (ls : Array Slot), lv_has ls 4 [(2, .int x_10), (1, .int x_11), (0, .ref (q0 0))] → va_P D vwCl (kHouse G q0 v0) H → va_D A (kHouse G q0 v0) → va_S A s.heap H locs → lz2 (f_X3_byPairs_B4 v0) n x_10 x_11 = some r → W p l e rm_X3_byPairs s m args below meth c H locs 0 0 Q0 (F0 m 4 ls []) := by
    intro n
    induction n with
    | zero => intro x_10 x_11 H locs ls hl hP hD hS hf; cases hf
    | succ n ihL_12 =>
      intro x_10 x_11 H locs ls hl hP hD hS hf
      replace hf := lz2_s hf
      generalize lz2 (f_X3_byPairs_B4 v0) n = selfL_12 at hf ihL_12
      unfold f_X3_byPairs_B4 at hf
      refine lv_iload_n hx hb dX3_byPairs_4 rfl (lv_at hl 0 rfl) ?_
      refine lv_bipush (v := 12) hx hb dX3_byPairs_5 (by decide +kernel) ?_
      refine lv_icmp_ge (tgt := 44) hx hb dX3_byPairs_7 (by decide) (fun cc => ?_) (fun cc => ?_)
      · replace hf := ifT cc hf
        exact exL_12 x_10 x_11 _ _ _ (lv_sub hl [0, 1, 2] rfl) hP hD hS hf
      · replace hf := ifF cc hf
        refine lv_iload_n hx hb dX3_byPairs_10 rfl (lv_at hl 0 rfl) ?_
        refine lv_iconst (v := 1) hx hb dX3_byPairs_11 (by decide) ?_
        refine lv_iadd hx hb dX3_byPairs_12 ?_
        refine lv_istore_n (lv' := [(3, .int (x_10 + 1)), (2, .int x_10), (1, .int x_11), (0, .ref (q0 0))]) hx hb dX3_byPairs_13 rfl hl (by decide) rfl (fun ls hl => ?_)
        have exL_15 : ∀ (y_17 : Int32) (y_18 : Int32) (H : Heap) (locs : List Loc) (ls : Array Slot), lv_has ls 4 [(3, .int y_17), (2, .int x_10), (1, .int y_18), (0, .ref (q0 0))] → va_P D vwCl (kHouse G q0 v0) H → va_D A (kHouse G q0 v0) → va_S A s.heap H locs → f_X3_byPairs_K14 selfL_12 x_10 y_17 y_18 = some r → W p l e rm_X3_byPairs s m args below meth c H locs 0 0 Q0 (F0 m 38 ls []) := by
          intro y_17 y_18 H locs ls hl hP hD hS hf
          unfold f_X3_byPairs_K14 at hf
          refine lv_iinc (v := (x_10 + 1)) (lv' := [(2, .int (x_10 + 1)), (3, .int y_17), (1, .int y_18), (0, .ref (q0 0))]) hx hb dX3_byPairs_38 hl (k := 1) rfl rfl (by decide) rfl (fun ls hl => ?_)
          refine lv_goto (tgt := 4) hx hb dX3_byPairs_41 (by decide) ?_
          exact ihL_12 (x_10 + 1) y_18 _ _ _ (lv_sub hl [0, 2, 3] rfl) hP hD hS hf
        have loL_15 : ∀ (n : Nat) (x_13 : Int32) (x_14 : Int32) (H : Heap) (locs : List Loc) (ls : Array Slot), lv_has ls 4 [(3, .int x_13), (2, .int x_10), (1, .int x_14), (0, .ref (q0 0))] → va_P D vwCl (kHouse G q0 v0) H → va_D A (kHouse G q0 v0) → va_S A s.heap H locs → lz2 (f_X3_byPairs_B14 selfL_12 x_10 v0) n x_13 x_14 = some r → W p l e rm_X3_byPairs s m args below meth c H locs 0 0 Q0 (F0 m 14 ls []) := by
          intro n
          induction n with
          | zero => intro x_13 x_14 H locs ls hl hP hD hS hf; cases hf
          | succ n ihL_15 =>
            intro x_13 x_14 H locs ls hl hP hD hS hf
            replace hf := lz2_s hf
            unfold f_X3_byPairs_B14 at hf
            refine lv_iload_n hx hb dX3_byPairs_14 rfl (lv_at hl 0 rfl) ?_
            refine lv_bipush (v := 12) hx hb dX3_byPairs_15 (by decide +kernel) ?_
            refine lv_icmp_ge (tgt := 38) hx hb dX3_byPairs_17 (by decide) (fun cc => ?_) (fun cc => ?_)
            · replace hf := ifT cc hf
              exact exL_15 x_13 x_14 _ _ _ (lv_sub hl [0, 1, 2, 3] rfl) hP hD hS hf
            · replace hf := ifF cc hf
              refine lv_aload_n hx hb dX3_byPairs_20 rfl (lv_at hl 3 rfl) ?_
              refine lv_iload_n hx hb dX3_byPairs_21 rfl (lv_at hl 1 rfl) ?_
              refine lv_iload_n hx hb dX3_byPairs_22 rfl (lv_at hl 0 rfl) ?_
              obtain ⟨r_16, hc, hf⟩ := bd1_of hf
              refine k_V (As := [.int x_10, .int x_13]) (rest := []) (ws1 := (kHouse G q0 v0)) ⟨hx, hb, hml, hown, hts⟩ (c_X6_isFeud l D G q0 x_10 x_13 v0 _ hc  _) (cwV 2 hts gX3_byPairs_X6_isFeud rfl rfl rfl (by decide +kernel) ⟨Nat.le_of_ble_eq_true rfl, Nat.le_of_ble_eq_true rfl⟩) hl.1 (Nat.le_of_ble_eq_true rfl) dX3_byPairs_23 ⟨Nat.le_of_ble_eq_true rfl, Nat.le_of_ble_eq_true rfl⟩ rfl kT_bl (fun _ _ _ => trivial) hN hK hP hD hS hA 0 4 rfl rfl rfl [0, 1, 2, 3, 4, 5, 6, 7, 8, 9, 10, 11, 12, 13, 14] [] [0, 1, 2, 3, 4, 5, 6, 7, 8, 9, 10, 11, 12, 13, 14] [0, 1, 2, 3] rfl rfl rfl ⟨by decide, by decide, by decide, by decide⟩ rfl (fun H locs hP hD hS => ?_)
              refine lv_if_eq (tgt := 32) hx hb dX3_byPairs_26 (by decide) (fun cc => ?_) (fun cc => ?_)
              · replace hf := ifT cc hf
                refine lv_iinc (v := (x_13 + 1)) (lv' := [(3, .int (x_13 + 1)), (2, .int x_10), (1, .int x_14), (0, .ref (q0 0))]) hx hb dX3_byPairs_32 hl (k := 0) rfl rfl (by decide) rfl (fun ls hl => ?_)
                refine lv_goto (tgt := 14) hx hb dX3_byPairs_35 (by decide) ?_
                exact ihL_15 (x_13 + 1) x_14 _ _ _ (lv_sub hl [0, 1, 2, 3] rfl) hP hD hS hf
              · replace hf := ifF cc hf
                refine lv_iinc (v := (x_14 + 1)) (lv' := [(1, .int (x_14 + 1)), (3, .int x_13), (2, .int x_10), (0, .ref (q0 0))]) hx hb dX3_byPairs_29 hl (k := 2) rfl rfl (by decide) rfl (fun ls hl => ?_)
                refine lv_iinc (v := (x_13 + 1)) (lv' := [(3, .int (x_13 + 1)), (1, .int (x_14 + 1)), (2, .int x_10), (0, .ref (q0 0))]) hx hb dX3_byPairs_32 hl (k := 1) rfl rfl (by decide) rfl (fun ls hl => ?_)
                refine lv_goto (tgt := 14) hx hb dX3_byPairs_35 (by decide) ?_
                exact ihL_15 (x_13 + 1) (x_14 + 1) _ _ _ (lv_sub hl [0, 2, 1, 3] rfl) hP hD hS hf
        exact loL_15 FU (x_10 + 1) x_11 _ _ _ hl hP hD hS hf
  exact loL_12 FU 0 0 _ _ _ hl hP hD hS hf
def f_X3_countTooRichAbove_K6 (y_5 : Int32) (y_6 : Int32) : Option Int32 :=
  some y_6
def f_X3_countTooRichAbove_B6 (a1 : Int32) (v0 : SV) (selfL_4 : (Int32 → Int32 → Option Int32)) (x_2 : Int32) (x_3 : Int32) : Option Int32 :=
  if 12 ≤ x_2 then
    f_X3_countTooRichAbove_K6 x_2 x_3
  else
    ckI x_2 12 <|
    ckI a1 12 <|
    if (v0.2 0 x_2.toNatClampNeg) ≤ (v0.2 1 a1.toNatClampNeg) then
      selfL_4 (x_2 + 4) x_3
    else
      selfL_4 (x_2 + 4) (x_3 + 1)
def f_X3_countTooRichAbove (a1 : Int32) (v0 : SV) : Option Int32 :=
  lz2 (f_X3_countTooRichAbove_B6 a1 v0) FU (a1 + 4) 0
abbrev rm_X3_countTooRichAbove : Room := { frames := 0, cells := 0, slots := 0, locals := 0 }
set_option maxHeartbeats 4000000 in
set_option maxRecDepth 100000 in
theorem c_X3_countTooRichAbove (l : Launch) (D : va_G) (G : Nat → ClassId) (q0 : Nat → Nat) (a1 : Int32) (v0 : SV) (r : Int32) (hf : f_X3_countTooRichAbove a1 v0 = some r) (sz : Nat) : mC l yX3_countTooRichAbove wsX3_countTooRichAbove rm_X3_countTooRichAbove D (tyG G) kT [.ref (q0 0), .int a1] (kHouse G q0 v0) (kHouse G q0 v0) sz (some (.int r)) 0 0 := by
  refine mC_ofI (cc := cX3_countTooRichAbove) (maxL := 4) (ret := (some .int)) (by decide) rfl rfl (Nat.le_of_ble_eq_true rfl) ?_
  intro p e s m args below meth c Q0 hx hb hml hts hown hN hK A hD hA hE hP hS hJ ls hl
  have hl : lv_has ls 4 [(0, .ref (q0 0)), (1, .int a1)] := hl
  unfold f_X3_countTooRichAbove at hf
  have hi4 : ∀ w ∈ u_ws RX6 TX6 10, w ∈ wsX3_countTooRichAbove := by decide +kernel
  have hw1 := hts (.fieldLink RX3 29 "BalconyCensus$House" "plants" "[I") (by decide +kernel)
  have hw2 := hts (.fieldLink RX3 33 "BalconyCensus$House" "tolerances" "[I") (by decide +kernel)
  refine lv_iconst (v := 0) hx hb dX3_countTooRichAbove_0 (by decide) ?_
  refine lv_istore_n (lv' := [(2, .int 0), (0, .ref (q0 0)), (1, .int a1)]) hx hb dX3_countTooRichAbove_1 rfl hl (by decide) rfl (fun ls hl => ?_)
  refine lv_iload_n hx hb dX3_countTooRichAbove_2 rfl (lv_at hl 2 rfl) ?_
  refine lv_iconst (v := 4) hx hb dX3_countTooRichAbove_3 (by decide) ?_
  refine lv_iadd hx hb dX3_countTooRichAbove_4 ?_
  refine lv_istore_n (lv' := [(3, .int (a1 + 4)), (2, .int 0), (0, .ref (q0 0)), (1, .int a1)]) hx hb dX3_countTooRichAbove_5 rfl hl (by decide) rfl (fun ls hl => ?_)
  have exL_4 : ∀ (y_5 : Int32) (y_6 : Int32) (H : Heap) (locs : List Loc) (ls : Array Slot), lv_has ls 4 [(3, .int y_5), (2, .int y_6), (0, .ref (q0 0)), (1, .int a1)] → va_P D vwCl (kHouse G q0 v0) H → va_D A (kHouse G q0 v0) → va_S A s.heap H locs → f_X3_countTooRichAbove_K6 y_5 y_6 = some r → W p l e rm_X3_countTooRichAbove s m args below meth c H locs 0 0 Q0 (F0 m 36 ls []) := by
    intro y_5 y_6 H locs ls hl hP hD hS hf
    unfold f_X3_countTooRichAbove_K6 at hf
    refine lv_iload_n hx hb dX3_countTooRichAbove_36 rfl (lv_at hl 1 rfl) ?_
    obtain rfl := re1 hf
    exact hE hP hD hS dX3_countTooRichAbove_37
  have loL_4 : ∀ (n : Nat) (x_2 : Int32) (x_3 : Int32) (H : Heap) (locs : List Loc) (ls : Array Slot), lv_has ls 4 [(3, .int x_2), (2, .int x_3), (0, .ref (q0 0)), (1, .int a1)] → va_P D vwCl (kHouse G q0 v0) H → va_D A (kHouse G q0 v0) → va_S A s.heap H locs → lz2 (f_X3_countTooRichAbove_B6 a1 v0) n x_2 x_3 = some r → W p l e rm_X3_countTooRichAbove s m args below meth c H locs 0 0 Q0 (F0 m 6 ls []) := by
    intro n
    induction n with
    | zero => intro x_2 x_3 H locs ls hl hP hD hS hf; cases hf
    | succ n ihL_4 =>
      intro x_2 x_3 H locs ls hl hP hD hS hf
      replace hf := lz2_s hf
      unfold f_X3_countTooRichAbove_B6 at hf
      refine lv_iload_n hx hb dX3_countTooRichAbove_6 rfl (lv_at hl 0 rfl) ?_
      refine lv_bipush (v := 12) hx hb dX3_countTooRichAbove_7 (by decide +kernel) ?_
      refine lv_icmp_ge (tgt := 36) hx hb dX3_countTooRichAbove_9 (by decide) (fun cc => ?_) (fun cc => ?_)
      · replace hf := ifT cc hf
        exact exL_4 x_2 x_3 _ _ _ (lv_sub hl [0, 1, 2, 3] rfl) hP hD hS hf
      · replace hf := ifF cc hf
        refine lv_aload_n hx hb dX3_countTooRichAbove_12 rfl (lv_at hl 2 rfl) ?_
        refine va_get (D := D) (ci := 4) (v := .ref (q0 1)) (C := RX6) (T := TX6) (N := 10) hx hb hts hi4 hown hK hP 0 rfl rfl 0 (by decide) hw1 (fun _ h9 => h9) rfl dX3_countTooRichAbove_13 ?_
        refine lv_iload_n hx hb dX3_countTooRichAbove_16 rfl (lv_at hl 0 rfl) ?_
        obtain ⟨hin, hf⟩ := ckI_of hf
        refine va_iald (D := D) hx hb hK hP 1 0 rfl rfl hin dX3_countTooRichAbove_17 ?_
        refine lv_aload_n hx hb dX3_countTooRichAbove_18 rfl (lv_at hl 2 rfl) ?_
        refine va_get (D := D) (ci := 4) (v := .ref (q0 2)) (C := RX6) (T := TX6) (N := 10) hx hb hts hi4 hown hK hP 0 rfl rfl 1 (by decide) hw2 (fun _ h9 => h9) rfl dX3_countTooRichAbove_19 ?_
        refine lv_iload_n hx hb dX3_countTooRichAbove_22 rfl (lv_at hl 3 rfl) ?_
        obtain ⟨hin, hf⟩ := ckI_of hf
        refine va_iald (D := D) hx hb hK hP 2 0 rfl rfl hin dX3_countTooRichAbove_23 ?_
        refine lv_icmp_le (tgt := 30) hx hb dX3_countTooRichAbove_24 (by decide) (fun cc => ?_) (fun cc => ?_)
        · replace hf := ifT cc hf
          refine lv_iinc (v := (x_2 + 4)) (lv' := [(3, .int (x_2 + 4)), (2, .int x_3), (0, .ref (q0 0)), (1, .int a1)]) hx hb dX3_countTooRichAbove_30 hl (k := 0) rfl rfl (by decide) rfl (fun ls hl => ?_)
          refine lv_goto (tgt := 6) hx hb dX3_countTooRichAbove_33 (by decide) ?_
          exact ihL_4 (x_2 + 4) x_3 _ _ _ (lv_sub hl [0, 1, 2, 3] rfl) hP hD hS hf
        · replace hf := ifF cc hf
          refine lv_iinc (v := (x_3 + 1)) (lv' := [(2, .int (x_3 + 1)), (3, .int x_2), (0, .ref (q0 0)), (1, .int a1)]) hx hb dX3_countTooRichAbove_27 hl (k := 1) rfl rfl (by decide) rfl (fun ls hl => ?_)
          refine lv_iinc (v := (x_2 + 4)) (lv' := [(3, .int (x_2 + 4)), (2, .int (x_3 + 1)), (0, .ref (q0 0)), (1, .int a1)]) hx hb dX3_countTooRichAbove_30 hl (k := 1) rfl rfl (by decide) rfl (fun ls hl => ?_)
          refine lv_goto (tgt := 6) hx hb dX3_countTooRichAbove_33 (by decide) ?_
          exact ihL_4 (x_2 + 4) (x_3 + 1) _ _ _ (lv_sub hl [0, 1, 2, 3] rfl) hP hD hS hf
  exact loL_4 FU (a1 + 4) 0 _ _ _ hl hP hD hS hf
def f_X3_countTruces_K4 (y_7 : Int32) (y_8 : Int32) : Option Int32 :=
  some y_8
def f_X3_countTruces_B4 (v0 : SV) (selfL_6 : (Int32 → Int32 → Option Int32)) (x_4 : Int32) (x_5 : Int32) : Option Int32 :=
  if (v0.1 4) ≤ x_4 then
    f_X3_countTruces_K4 x_4 x_5
  else
    ckI x_4 6 <|
    ckI x_4 6 <|
    if ((v0.2 2 x_4.toNatClampNeg) - (v0.2 2 x_4.toNatClampNeg) / 4 * 4) = ((v0.2 3 x_4.toNatClampNeg) - (v0.2 3 x_4.toNatClampNeg) / 4 * 4) then
      ckI (v0.2 3 x_4.toNatClampNeg) 12 <|
      ckI (v0.2 2 x_4.toNatClampNeg) 12 <|
      if (v0.2 0 (v0.2 3 x_4.toNatClampNeg).toNatClampNeg) ≤ (v0.2 1 (v0.2 2 x_4.toNatClampNeg).toNatClampNeg) then
        selfL_6 (x_4 + 1) x_5
      else
        selfL_6 (x_4 + 1) (x_5 + 1)
    else
      selfL_6 (x_4 + 1) x_5
def f_X3_countTruces (v0 : SV) : Option Int32 :=
  lz2 (f_X3_countTruces_B4 v0) FU 0 0
abbrev rm_X3_countTruces : Room := { frames := 0, cells := 0, slots := 0, locals := 0 }
set_option maxHeartbeats 4000000 in
set_option maxRecDepth 100000 in
theorem c_X3_countTruces (l : Launch) (D : va_G) (G : Nat → ClassId) (q0 : Nat → Nat) (v0 : SV) (r : Int32) (hf : f_X3_countTruces v0 = some r) (sz : Nat) : mC l yX3_countTruces wsX3_countTruces rm_X3_countTruces D (tyG G) kT [.ref (q0 3), .ref (q0 0)] (kHouse G q0 v0) (kHouse G q0 v0) sz (some (.int r)) 0 0 := by
  refine mC_ofI (cc := cX3_countTruces) (maxL := 6) (ret := (some .int)) (by decide) rfl rfl (Nat.le_of_ble_eq_true rfl) ?_
  intro p e s m args below meth c Q0 hx hb hml hts hown hN hK A hD hA hE hP hS hJ ls hl
  have hl : lv_has ls 6 [(0, .ref (q0 3)), (1, .ref (q0 0))] := hl
  unfold f_X3_countTruces at hf
  have hi5 : ∀ w ∈ u_ws RX7 TX7 5, w ∈ wsX3_countTruces := by decide +kernel
  have hi4 : ∀ w ∈ u_ws RX6 TX6 10, w ∈ wsX3_countTruces := by decide +kernel
  have hw1 := hts (.fieldLink RX3 36 "BalconyCensus$Lines" "count" "I") (by decide +kernel)
  have hw2 := hts (.fieldLink RX3 42 "BalconyCensus$Lines" "lower" "[I") (by decide +kernel)
  have hw3 := hts (.fieldLink RX3 45 "BalconyCensus$Lines" "higher" "[I") (by decide +kernel)
  have hw4 := hts (.fieldLink RX3 29 "BalconyCensus$House" "plants" "[I") (by decide +kernel)
  have hw5 := hts (.fieldLink RX3 33 "BalconyCensus$House" "tolerances" "[I") (by decide +kernel)
  refine lv_iconst (v := 0) hx hb dX3_countTruces_0 (by decide) ?_
  refine lv_istore_n (lv' := [(2, .int 0), (0, .ref (q0 3)), (1, .ref (q0 0))]) hx hb dX3_countTruces_1 rfl hl (by decide) rfl (fun ls hl => ?_)
  refine lv_iconst (v := 0) hx hb dX3_countTruces_2 (by decide) ?_
  refine lv_istore_n (lv' := [(3, .int 0), (2, .int 0), (0, .ref (q0 3)), (1, .ref (q0 0))]) hx hb dX3_countTruces_3 rfl hl (by decide) rfl (fun ls hl => ?_)
  have exL_6 : ∀ (y_7 : Int32) (y_8 : Int32) (H : Heap) (locs : List Loc) (ls : Array Slot), lv_has ls 6 [(3, .int y_7), (2, .int y_8), (0, .ref (q0 3)), (1, .ref (q0 0))] → va_P D vwCl (kHouse G q0 v0) H → va_D A (kHouse G q0 v0) → va_S A s.heap H locs → f_X3_countTruces_K4 y_7 y_8 = some r → W p l e rm_X3_countTruces s m args below meth c H locs 0 0 Q0 (F0 m 65 ls []) := by
    intro y_7 y_8 H locs ls hl hP hD hS hf
    unfold f_X3_countTruces_K4 at hf
    refine lv_iload_n hx hb dX3_countTruces_65 rfl (lv_at hl 1 rfl) ?_
    obtain rfl := re1 hf
    exact hE hP hD hS dX3_countTruces_66
  have loL_6 : ∀ (n : Nat) (x_4 : Int32) (x_5 : Int32) (H : Heap) (locs : List Loc) (ls : Array Slot), lv_has ls 6 [(3, .int x_4), (2, .int x_5), (0, .ref (q0 3)), (1, .ref (q0 0))] → va_P D vwCl (kHouse G q0 v0) H → va_D A (kHouse G q0 v0) → va_S A s.heap H locs → lz2 (f_X3_countTruces_B4 v0) n x_4 x_5 = some r → W p l e rm_X3_countTruces s m args below meth c H locs 0 0 Q0 (F0 m 4 ls []) := by
    intro n
    induction n with
    | zero => intro x_4 x_5 H locs ls hl hP hD hS hf; cases hf
    | succ n ihL_6 =>
      intro x_4 x_5 H locs ls hl hP hD hS hf
      replace hf := lz2_s hf
      unfold f_X3_countTruces_B4 at hf
      refine lv_iload_n hx hb dX3_countTruces_4 rfl (lv_at hl 0 rfl) ?_
      refine lv_aload_n hx hb dX3_countTruces_5 rfl (lv_at hl 2 rfl) ?_
      refine va_get (D := D) (ci := 5) (v := .int (v0.1 4)) (C := RX7) (T := TX7) (N := 5) hx hb hts hi5 hown hK hP 3 rfl rfl 3 (by decide) hw1 (fun _ h9 => h9) rfl dX3_countTruces_6 ?_
      refine lv_icmp_ge (tgt := 65) hx hb dX3_countTruces_9 (by decide) (fun cc => ?_) (fun cc => ?_)
      · replace hf := ifT cc hf
        exact exL_6 x_4 x_5 _ _ _ (lv_sub hl [0, 1, 2, 3] rfl) hP hD hS hf
      · replace hf := ifF cc hf
        refine lv_aload_n hx hb dX3_countTruces_12 rfl (lv_at hl 2 rfl) ?_
        refine va_get (D := D) (ci := 5) (v := .ref (q0 4)) (C := RX7) (T := TX7) (N := 5) hx hb hts hi5 hown hK hP 3 rfl rfl 0 (by decide) hw2 (fun _ h9 => h9) rfl dX3_countTruces_13 ?_
        refine lv_iload_n hx hb dX3_countTruces_16 rfl (lv_at hl 0 rfl) ?_
        obtain ⟨hin, hf⟩ := ckI_of hf
        refine va_iald (D := D) hx hb hK hP 4 0 rfl rfl hin dX3_countTruces_17 ?_
        refine lv_istore (lv' := [(4, .int (v0.2 2 x_4.toNatClampNeg)), (3, .int x_4), (2, .int x_5), (0, .ref (q0 3)), (1, .ref (q0 0))]) hx hb dX3_countTruces_18 hl (by decide) rfl (fun ls hl => ?_)
        refine lv_aload_n hx hb dX3_countTruces_20 rfl (lv_at hl 3 rfl) ?_
        refine va_get (D := D) (ci := 5) (v := .ref (q0 5)) (C := RX7) (T := TX7) (N := 5) hx hb hts hi5 hown hK hP 3 rfl rfl 1 (by decide) hw3 (fun _ h9 => h9) rfl dX3_countTruces_21 ?_
        refine lv_iload_n hx hb dX3_countTruces_24 rfl (lv_at hl 1 rfl) ?_
        obtain ⟨hin, hf⟩ := ckI_of hf
        refine va_iald (D := D) hx hb hK hP 5 0 rfl rfl hin dX3_countTruces_25 ?_
        refine lv_istore (lv' := [(5, .int (v0.2 3 x_4.toNatClampNeg)), (4, .int (v0.2 2 x_4.toNatClampNeg)), (3, .int x_4), (2, .int x_5), (0, .ref (q0 3)), (1, .ref (q0 0))]) hx hb dX3_countTruces_26 hl (by decide) rfl (fun ls hl => ?_)
        refine lv_iload hx hb dX3_countTruces_28 (lv_at hl 1 rfl) ?_
        refine lv_iconst (v := 4) hx hb dX3_countTruces_30 (by decide) ?_
        refine lv_irem hx hb dX3_countTruces_31 (by decide) ?_
        refine lv_iload hx hb dX3_countTruces_32 (lv_at hl 0 rfl) ?_
        refine lv_iconst (v := 4) hx hb dX3_countTruces_34 (by decide) ?_
        refine lv_irem hx hb dX3_countTruces_35 (by decide) ?_
        refine lv_icmp_ne (tgt := 59) hx hb dX3_countTruces_36 (by decide) (fun cc => ?_) (fun cc => ?_)
        · replace hf := ifF cc hf
          refine lv_iinc (v := (x_4 + 1)) (lv' := [(3, .int (x_4 + 1)), (5, .int (v0.2 3 x_4.toNatClampNeg)), (4, .int (v0.2 2 x_4.toNatClampNeg)), (2, .int x_5), (0, .ref (q0 3)), (1, .ref (q0 0))]) hx hb dX3_countTruces_59 hl (k := 2) rfl rfl (by decide) rfl (fun ls hl => ?_)
          refine lv_goto (tgt := 4) hx hb dX3_countTruces_62 (by decide) ?_
          exact ihL_6 (x_4 + 1) x_5 _ _ _ (lv_sub hl [0, 3, 4, 5] rfl) hP hD hS hf
        · replace hf := ifT cc hf
          refine lv_aload_n hx hb dX3_countTruces_39 rfl (lv_at hl 5 rfl) ?_
          refine va_get (D := D) (ci := 4) (v := .ref (q0 1)) (C := RX6) (T := TX6) (N := 10) hx hb hts hi4 hown hK hP 0 rfl rfl 0 (by decide) hw4 (fun _ h9 => h9) rfl dX3_countTruces_40 ?_
          refine lv_iload hx hb dX3_countTruces_43 (lv_at hl 0 rfl) ?_
          obtain ⟨hin, hf⟩ := ckI_of hf
          refine va_iald (D := D) hx hb hK hP 1 0 rfl rfl hin dX3_countTruces_45 ?_
          refine lv_aload_n hx hb dX3_countTruces_46 rfl (lv_at hl 5 rfl) ?_
          refine va_get (D := D) (ci := 4) (v := .ref (q0 2)) (C := RX6) (T := TX6) (N := 10) hx hb hts hi4 hown hK hP 0 rfl rfl 1 (by decide) hw5 (fun _ h9 => h9) rfl dX3_countTruces_47 ?_
          refine lv_iload hx hb dX3_countTruces_50 (lv_at hl 1 rfl) ?_
          obtain ⟨hin, hf⟩ := ckI_of hf
          refine va_iald (D := D) hx hb hK hP 2 0 rfl rfl hin dX3_countTruces_52 ?_
          refine lv_icmp_le (tgt := 59) hx hb dX3_countTruces_53 (by decide) (fun cc => ?_) (fun cc => ?_)
          · replace hf := ifT cc hf
            refine lv_iinc (v := (x_4 + 1)) (lv' := [(3, .int (x_4 + 1)), (5, .int (v0.2 3 x_4.toNatClampNeg)), (4, .int (v0.2 2 x_4.toNatClampNeg)), (2, .int x_5), (0, .ref (q0 3)), (1, .ref (q0 0))]) hx hb dX3_countTruces_59 hl (k := 2) rfl rfl (by decide) rfl (fun ls hl => ?_)
            refine lv_goto (tgt := 4) hx hb dX3_countTruces_62 (by decide) ?_
            exact ihL_6 (x_4 + 1) x_5 _ _ _ (lv_sub hl [0, 3, 4, 5] rfl) hP hD hS hf
          · replace hf := ifF cc hf
            refine lv_iinc (v := (x_5 + 1)) (lv' := [(2, .int (x_5 + 1)), (5, .int (v0.2 3 x_4.toNatClampNeg)), (4, .int (v0.2 2 x_4.toNatClampNeg)), (3, .int x_4), (0, .ref (q0 3)), (1, .ref (q0 0))]) hx hb dX3_countTruces_56 hl (k := 3) rfl rfl (by decide) rfl (fun ls hl => ?_)
            refine lv_iinc (v := (x_4 + 1)) (lv' := [(3, .int (x_4 + 1)), (2, .int (x_5 + 1)), (5, .int (v0.2 3 x_4.toNatClampNeg)), (4, .int (v0.2 2 x_4.toNatClampNeg)), (0, .ref (q0 3)), (1, .ref (q0 0))]) hx hb dX3_countTruces_59 hl (k := 3) rfl rfl (by decide) rfl (fun ls hl => ?_)
            refine lv_goto (tgt := 4) hx hb dX3_countTruces_62 (by decide) ?_
            exact ihL_6 (x_4 + 1) (x_5 + 1) _ _ _ (lv_sub hl [0, 1, 4, 5] rfl) hP hD hS hf
  exact loL_6 FU 0 0 _ _ _ hl hP hD hS hf
def f_X3_byColumns_K4 (v0 : SV) (y_19 : Int32) (y_20 : Int32) : Option Int32 :=
  bd1 (f_X3_countTruces v0) fun r_21 =>
  some (y_20 - r_21)
def f_X3_byColumns_K11 (selfL_12 : (Int32 → Int32 → Option Int32)) (x_10 : Int32) (y_17 : Int32) (y_18 : Int32) : Option Int32 :=
  selfL_12 (x_10 + 1) y_18
def f_X3_byColumns_B11 (selfL_12 : (Int32 → Int32 → Option Int32)) (x_10 : Int32) (v0 : SV) (selfL_15 : (Int32 → Int32 → Option Int32)) (x_13 : Int32) (x_14 : Int32) : Option Int32 :=
  if 12 ≤ x_13 then
    f_X3_byColumns_K11 selfL_12 x_10 x_13 x_14
  else
    bd1 (f_X3_countTooRichAbove x_13 v0) fun r_16 =>
    selfL_15 (x_13 + 4) (x_14 + r_16)
def f_X3_byColumns_B4 (v0 : SV) (selfL_12 : (Int32 → Int32 → Option Int32)) (x_10 : Int32) (x_11 : Int32) : Option Int32 :=
  if 4 ≤ x_10 then
    f_X3_byColumns_K4 v0 x_10 x_11
  else
    lz2 (f_X3_byColumns_B11 selfL_12 x_10 v0) FU x_10 x_11
def f_X3_byColumns (v0 : SV) : Option Int32 :=
  lz2 (f_X3_byColumns_B4 v0) FU 0 0
abbrev rm_X3_byColumns : Room := { frames := 1, cells := 0, slots := 0, locals := 25 }
set_option maxHeartbeats 4000000 in
set_option maxRecDepth 100000 in
theorem c_X3_byColumns (l : Launch) (D : va_G) (G : Nat → ClassId) (q0 : Nat → Nat) (v0 : SV) (r : Int32) (hf : f_X3_byColumns v0 = some r) (sz : Nat) : mC l yX3_byColumns wsX3_byColumns rm_X3_byColumns D (tyG G) kT [.ref (q0 0)] (kHouse G q0 v0) (kHouse G q0 v0) sz (some (.int r)) 0 0 := by
  refine mC_ofI (cc := cX3_byColumns) (maxL := 4) (ret := (some .int)) (by decide) rfl rfl (Nat.le_of_ble_eq_true rfl) ?_
  intro p e s m args below meth c Q0 hx hb hml hts hown hN hK A hD hA hE hP hS hJ ls hl
  have hl : lv_has ls 4 [(0, .ref (q0 0))] := hl
  unfold f_X3_byColumns at hf
  have hi4 : ∀ w ∈ u_ws RX6 TX6 10, w ∈ wsX3_byColumns := by decide +kernel
  have hw1 := hts (.fieldLink RX3 21 "BalconyCensus$House" "lines" "LBalconyCensus$Lines;") (by decide +kernel)
  refine lv_iconst (v := 0) hx hb dX3_byColumns_0 (by decide) ?_
  refine lv_istore_n (lv' := [(1, .int 0), (0, .ref (q0 0))]) hx hb dX3_byColumns_1 rfl hl (by decide) rfl (fun ls hl => ?_)
  refine lv_iconst (v := 0) hx hb dX3_byColumns_2 (by decide) ?_
  refine lv_istore_n (lv' := [(2, .int 0), (1, .int 0), (0, .ref (q0 0))]) hx hb dX3_byColumns_3 rfl hl (by decide) rfl (fun ls hl => ?_)
  have exL_12 : ∀ (y_19 : Int32) (y_20 : Int32) (H : Heap) (locs : List Loc) (ls : Array Slot), lv_has ls 4 [(2, .int y_19), (1, .int y_20), (0, .ref (q0 0))] → va_P D vwCl (kHouse G q0 v0) H → va_D A (kHouse G q0 v0) → va_S A s.heap H locs → f_X3_byColumns_K4 v0 y_19 y_20 = some r → W p l e rm_X3_byColumns s m args below meth c H locs 0 0 Q0 (F0 m 37 ls []) := by
    intro y_19 y_20 H locs ls hl hP hD hS hf
    unfold f_X3_byColumns_K4 at hf
    refine lv_iload_n hx hb dX3_byColumns_37 rfl (lv_at hl 1 rfl) ?_
    refine lv_aload_n hx hb dX3_byColumns_38 rfl (lv_at hl 2 rfl) ?_
    refine va_get (D := D) (ci := 4) (v := .ref (q0 3)) (C := RX6) (T := TX6) (N := 10) hx hb hts hi4 hown hK hP 0 rfl rfl 2 (by decide) hw1 (fun _ h9 => h9) rfl dX3_byColumns_39 ?_
    refine lv_aload_n hx hb dX3_byColumns_42 rfl (lv_at hl 2 rfl) ?_
    obtain ⟨r_21, hc, hf⟩ := bd1_of hf
    refine k_S (As := [.ref (q0 3), .ref (q0 0)]) (rest := [.int y_20]) (ws1 := (kHouse G q0 v0)) ⟨hx, hb, hml, hown, hts⟩ (c_X3_countTruces l D G q0  v0 _ hc  _) (va_cwS 2 hts gX3_byColumns_X3_countTruces rfl rfl rfl (by decide +kernel) ⟨Nat.le_of_ble_eq_true rfl, Nat.le_of_ble_eq_true rfl⟩) hl.1 (Nat.le_of_ble_eq_true rfl) dX3_byColumns_43 ⟨Nat.le_of_ble_eq_true rfl, Nat.le_of_ble_eq_true rfl⟩ rfl kT_bl (fun _ _ _ => trivial) hN hK hP hD hS hA [0, 1, 2, 3, 4, 5, 6, 7, 8, 9, 10, 11, 12, 13, 14] [] [0, 1, 2, 3, 4, 5, 6, 7, 8, 9, 10, 11, 12, 13, 14] [0, 1, 2, 3] rfl rfl rfl ⟨by decide, by decide, by decide, by decide⟩ rfl (fun H locs hP hD hS => ?_)
    refine lv_isub hx hb dX3_byColumns_46 ?_
    obtain rfl := re1 hf
    exact hE hP hD hS dX3_byColumns_47
  have loL_12 : ∀ (n : Nat) (x_10 : Int32) (x_11 : Int32) (H : Heap) (locs : List Loc) (ls : Array Slot), lv_has ls 4 [(2, .int x_10), (1, .int x_11), (0, .ref (q0 0))] → va_P D vwCl (kHouse G q0 v0) H → va_D A (kHouse G q0 v0) → va_S A s.heap H locs → lz2 (f_X3_byColumns_B4 v0) n x_10 x_11 = some r → W p l e rm_X3_byColumns s m args below meth c H locs 0 0 Q0 (F0 m 4 ls []) := by
    intro n
    induction n with
    | zero => intro x_10 x_11 H locs ls hl hP hD hS hf; cases hf
    | succ n ihL_12 =>
      intro x_10 x_11 H locs ls hl hP hD hS hf
      replace hf := lz2_s hf
      generalize lz2 (f_X3_byColumns_B4 v0) n = selfL_12 at hf ihL_12
      unfold f_X3_byColumns_B4 at hf
      refine lv_iload_n hx hb dX3_byColumns_4 rfl (lv_at hl 0 rfl) ?_
      refine lv_iconst (v := 4) hx hb dX3_byColumns_5 (by decide) ?_
      refine lv_icmp_ge (tgt := 37) hx hb dX3_byColumns_6 (by decide) (fun cc => ?_) (fun cc => ?_)
      · replace hf := ifT cc hf
        exact exL_12 x_10 x_11 _ _ _ (lv_sub hl [0, 1, 2] rfl) hP hD hS hf
      · replace hf := ifF cc hf
        refine lv_iload_n hx hb dX3_byColumns_9 rfl (lv_at hl 0 rfl) ?_
        refine lv_istore_n (lv' := [(3, .int x_10), (2, .int x_10), (1, .int x_11), (0, .ref (q0 0))]) hx hb dX3_byColumns_10 rfl hl (by decide) rfl (fun ls hl => ?_)
        have exL_15 : ∀ (y_17 : Int32) (y_18 : Int32) (H : Heap) (locs : List Loc) (ls : Array Slot), lv_has ls 4 [(3, .int y_17), (2, .int x_10), (1, .int y_18), (0, .ref (q0 0))] → va_P D vwCl (kHouse G q0 v0) H → va_D A (kHouse G q0 v0) → va_S A s.heap H locs → f_X3_byColumns_K11 selfL_12 x_10 y_17 y_18 = some r → W p l e rm_X3_byColumns s m args below meth c H locs 0 0 Q0 (F0 m 31 ls []) := by
          intro y_17 y_18 H locs ls hl hP hD hS hf
          unfold f_X3_byColumns_K11 at hf
          refine lv_iinc (v := (x_10 + 1)) (lv' := [(2, .int (x_10 + 1)), (3, .int y_17), (1, .int y_18), (0, .ref (q0 0))]) hx hb dX3_byColumns_31 hl (k := 1) rfl rfl (by decide) rfl (fun ls hl => ?_)
          refine lv_goto (tgt := 4) hx hb dX3_byColumns_34 (by decide) ?_
          exact ihL_12 (x_10 + 1) y_18 _ _ _ (lv_sub hl [0, 2, 3] rfl) hP hD hS hf
        have loL_15 : ∀ (n : Nat) (x_13 : Int32) (x_14 : Int32) (H : Heap) (locs : List Loc) (ls : Array Slot), lv_has ls 4 [(3, .int x_13), (2, .int x_10), (1, .int x_14), (0, .ref (q0 0))] → va_P D vwCl (kHouse G q0 v0) H → va_D A (kHouse G q0 v0) → va_S A s.heap H locs → lz2 (f_X3_byColumns_B11 selfL_12 x_10 v0) n x_13 x_14 = some r → W p l e rm_X3_byColumns s m args below meth c H locs 0 0 Q0 (F0 m 11 ls []) := by
          intro n
          induction n with
          | zero => intro x_13 x_14 H locs ls hl hP hD hS hf; cases hf
          | succ n ihL_15 =>
            intro x_13 x_14 H locs ls hl hP hD hS hf
            replace hf := lz2_s hf
            unfold f_X3_byColumns_B11 at hf
            refine lv_iload_n hx hb dX3_byColumns_11 rfl (lv_at hl 0 rfl) ?_
            refine lv_bipush (v := 12) hx hb dX3_byColumns_12 (by decide +kernel) ?_
            refine lv_icmp_ge (tgt := 31) hx hb dX3_byColumns_14 (by decide) (fun cc => ?_) (fun cc => ?_)
            · replace hf := ifT cc hf
              exact exL_15 x_13 x_14 _ _ _ (lv_sub hl [0, 1, 2, 3] rfl) hP hD hS hf
            · replace hf := ifF cc hf
              refine lv_iload_n hx hb dX3_byColumns_17 rfl (lv_at hl 2 rfl) ?_
              refine lv_aload_n hx hb dX3_byColumns_18 rfl (lv_at hl 3 rfl) ?_
              refine lv_iload_n hx hb dX3_byColumns_19 rfl (lv_at hl 0 rfl) ?_
              obtain ⟨r_16, hc, hf⟩ := bd1_of hf
              refine k_S (As := [.ref (q0 0), .int x_13]) (rest := [.int x_14]) (ws1 := (kHouse G q0 v0)) ⟨hx, hb, hml, hown, hts⟩ (c_X3_countTooRichAbove l D G q0 x_13 v0 _ hc  _) (va_cwS 2 hts gX3_byColumns_X3_countTooRichAbove rfl rfl rfl (by decide +kernel) ⟨Nat.le_of_ble_eq_true rfl, Nat.le_of_ble_eq_true rfl⟩) hl.1 (Nat.le_of_ble_eq_true rfl) dX3_byColumns_20 ⟨Nat.le_of_ble_eq_true rfl, Nat.le_of_ble_eq_true rfl⟩ rfl kT_bl (fun _ _ _ => trivial) hN hK hP hD hS hA [0, 1, 2, 3, 4, 5, 6, 7, 8, 9, 10, 11, 12, 13, 14] [] [0, 1, 2, 3, 4, 5, 6, 7, 8, 9, 10, 11, 12, 13, 14] [0, 1, 2, 3] rfl rfl rfl ⟨by decide, by decide, by decide, by decide⟩ rfl (fun H locs hP hD hS => ?_)
              refine lv_iadd hx hb dX3_byColumns_23 ?_
              refine lv_istore_n (lv' := [(1, .int (x_14 + r_16)), (3, .int x_13), (2, .int x_10), (0, .ref (q0 0))]) hx hb dX3_byColumns_24 rfl hl (by decide) rfl (fun ls hl => ?_)
              refine lv_iinc (v := (x_13 + 4)) (lv' := [(3, .int (x_13 + 4)), (1, .int (x_14 + r_16)), (2, .int x_10), (0, .ref (q0 0))]) hx hb dX3_byColumns_25 hl (k := 1) rfl rfl (by decide) rfl (fun ls hl => ?_)
              refine lv_goto (tgt := 11) hx hb dX3_byColumns_28 (by decide) ?_
              exact ihL_15 (x_13 + 4) (x_14 + r_16) _ _ _ (lv_sub hl [0, 2, 1, 3] rfl) hP hD hS hf
        exact loL_15 FU x_10 x_11 _ _ _ hl hP hD hS hf
  exact loL_12 FU 0 0 _ _ _ hl hP hD hS hf
def f_X3_leastToleranceBelow_K7 (y_9 : Int32) (y_10 : Int32) : Option Int32 :=
  some y_10
def f_X3_leastToleranceBelow_B7 (a1 : Int32) (v0 : SV) (selfL_6 : (Int32 → Int32 → Option Int32)) (x_4 : Int32) (x_5 : Int32) : Option Int32 :=
  if x_4 < 0 then
    f_X3_leastToleranceBelow_K7 x_4 x_5
  else
    bd1 (f_X7_between x_4 a1 v0) fun r_7 =>
    if 0 ≤ r_7 then
      selfL_6 (x_4 + (-4)) x_5
    else
      ckI x_4 12 <|
      nm (if (v0.2 1 x_4.toNatClampNeg) < x_5 then (v0.2 1 x_4.toNatClampNeg) else x_5) fun t_8 =>
      selfL_6 (x_4 + (-4)) t_8
def f_X3_leastToleranceBelow (a1 : Int32) (v0 : SV) : Option Int32 :=
  lz2 (f_X3_leastToleranceBelow_B7 a1 v0) FU (a1 - 4) 9
abbrev rm_X3_leastToleranceBelow : Room := { frames := 1, cells := 0, slots := 0, locals := 25 }
set_option maxHeartbeats 4000000 in
set_option maxRecDepth 100000 in
theorem c_X3_leastToleranceBelow (l : Launch) (D : va_G) (G : Nat → ClassId) (q0 : Nat → Nat) (a1 : Int32) (v0 : SV) (r : Int32) (hf : f_X3_leastToleranceBelow a1 v0 = some r) (sz : Nat) : mC l yX3_leastToleranceBelow wsX3_leastToleranceBelow rm_X3_leastToleranceBelow D (tyG G) kT [.ref (q0 0), .int a1] (kHouse G q0 v0) (kHouse G q0 v0) sz (some (.int r)) 0 0 := by
  refine mC_ofI (cc := cX3_leastToleranceBelow) (maxL := 4) (ret := (some .int)) (by decide) rfl rfl (Nat.le_of_ble_eq_true rfl) ?_
  intro p e s m args below meth c Q0 hx hb hml hts hown hN hK A hD hA hE hP hS hJ ls hl
  have hl : lv_has ls 4 [(0, .ref (q0 0)), (1, .int a1)] := hl
  unfold f_X3_leastToleranceBelow at hf
  have hi4 : ∀ w ∈ u_ws RX6 TX6 10, w ∈ wsX3_leastToleranceBelow := by decide +kernel
  have hw1 := hts (.fieldLink RX3 21 "BalconyCensus$House" "lines" "LBalconyCensus$Lines;") (by decide +kernel)
  have hw2 := hts (.fieldLink RX3 33 "BalconyCensus$House" "tolerances" "[I") (by decide +kernel)
  have hw3 := hts (.methodLink RX3 60 Lib.Math.min.name) (by decide +kernel)
  have hw4 := hts (.static Lib.Math.min.name) (by decide +kernel)
  have hw5 := hts (.initialized "java/lang/Math") (by decide +kernel)
  have hw6 := hts (.code Lib.Math.min.name Lib.Math.min.code 2 (some .int)) (by decide +kernel)
  refine lv_bipush (v := 9) hx hb dX3_leastToleranceBelow_0 (by decide +kernel) ?_
  refine lv_istore_n (lv' := [(2, .int 9), (0, .ref (q0 0)), (1, .int a1)]) hx hb dX3_leastToleranceBelow_2 rfl hl (by decide) rfl (fun ls hl => ?_)
  refine lv_iload_n hx hb dX3_leastToleranceBelow_3 rfl (lv_at hl 2 rfl) ?_
  refine lv_iconst (v := 4) hx hb dX3_leastToleranceBelow_4 (by decide) ?_
  refine lv_isub hx hb dX3_leastToleranceBelow_5 ?_
  refine lv_istore_n (lv' := [(3, .int (a1 - 4)), (2, .int 9), (0, .ref (q0 0)), (1, .int a1)]) hx hb dX3_leastToleranceBelow_6 rfl hl (by decide) rfl (fun ls hl => ?_)
  have exL_6 : ∀ (y_9 : Int32) (y_10 : Int32) (H : Heap) (locs : List Loc) (ls : Array Slot), lv_has ls 4 [(3, .int y_9), (2, .int y_10), (0, .ref (q0 0)), (1, .int a1)] → va_P D vwCl (kHouse G q0 v0) H → va_D A (kHouse G q0 v0) → va_S A s.heap H locs → f_X3_leastToleranceBelow_K7 y_9 y_10 = some r → W p l e rm_X3_leastToleranceBelow s m args below meth c H locs 0 0 Q0 (F0 m 40 ls []) := by
    intro y_9 y_10 H locs ls hl hP hD hS hf
    unfold f_X3_leastToleranceBelow_K7 at hf
    refine lv_iload_n hx hb dX3_leastToleranceBelow_40 rfl (lv_at hl 1 rfl) ?_
    obtain rfl := re1 hf
    exact hE hP hD hS dX3_leastToleranceBelow_41
  have loL_6 : ∀ (n : Nat) (x_4 : Int32) (x_5 : Int32) (H : Heap) (locs : List Loc) (ls : Array Slot), lv_has ls 4 [(3, .int x_4), (2, .int x_5), (0, .ref (q0 0)), (1, .int a1)] → va_P D vwCl (kHouse G q0 v0) H → va_D A (kHouse G q0 v0) → va_S A s.heap H locs → lz2 (f_X3_leastToleranceBelow_B7 a1 v0) n x_4 x_5 = some r → W p l e rm_X3_leastToleranceBelow s m args below meth c H locs 0 0 Q0 (F0 m 7 ls []) := by
    intro n
    induction n with
    | zero => intro x_4 x_5 H locs ls hl hP hD hS hf; cases hf
    | succ n ihL_6 =>
      intro x_4 x_5 H locs ls hl hP hD hS hf
      replace hf := lz2_s hf
      unfold f_X3_leastToleranceBelow_B7 at hf
      refine lv_iload_n hx hb dX3_leastToleranceBelow_7 rfl (lv_at hl 0 rfl) ?_
      refine lv_if_lt (tgt := 40) hx hb dX3_leastToleranceBelow_8 (by decide) (fun cc => ?_) (fun cc => ?_)
      · replace hf := ifT cc hf
        exact exL_6 x_4 x_5 _ _ _ (lv_sub hl [0, 1, 2, 3] rfl) hP hD hS hf
      · replace hf := ifF cc hf
        refine lv_aload_n hx hb dX3_leastToleranceBelow_11 rfl (lv_at hl 2 rfl) ?_
        refine va_get (D := D) (ci := 4) (v := .ref (q0 3)) (C := RX6) (T := TX6) (N := 10) hx hb hts hi4 hown hK hP 0 rfl rfl 2 (by decide) hw1 (fun _ h9 => h9) rfl dX3_leastToleranceBelow_12 ?_
        refine lv_iload_n hx hb dX3_leastToleranceBelow_15 rfl (lv_at hl 0 rfl) ?_
        refine lv_iload_n hx hb dX3_leastToleranceBelow_16 rfl (lv_at hl 3 rfl) ?_
        obtain ⟨r_7, hc, hf⟩ := bd1_of hf
        refine k_V (As := [.int x_4, .int a1]) (rest := []) (ws1 := (kHouse G q0 v0)) ⟨hx, hb, hml, hown, hts⟩ (c_X7_between l D G q0 x_4 a1 v0 _ hc  _) (cwV 2 hts gX3_leastToleranceBelow_X7_between rfl rfl rfl (by decide +kernel) ⟨Nat.le_of_ble_eq_true rfl, Nat.le_of_ble_eq_true rfl⟩) hl.1 (Nat.le_of_ble_eq_true rfl) dX3_leastToleranceBelow_17 ⟨Nat.le_of_ble_eq_true rfl, Nat.le_of_ble_eq_true rfl⟩ rfl kT_bl (fun _ _ _ => trivial) hN hK hP hD hS hA 3 5 rfl rfl rfl [3, 4, 5, 6] [0, 1, 2, 7, 8, 9, 10, 11, 12, 13, 14] [0, 1, 2, 11, 12, 13, 14, 3, 4, 5, 6, 7, 8, 9, 10] [0, 1, 2, 3] rfl rfl rfl ⟨by decide, by decide, by decide, by decide⟩ rfl (fun H locs hP hD hS => ?_)
        refine lv_if_ge (tgt := 34) hx hb dX3_leastToleranceBelow_20 (by decide) (fun cc => ?_) (fun cc => ?_)
        · replace hf := ifT cc hf
          refine lv_iinc (v := (x_4 + (-4))) (lv' := [(3, .int (x_4 + (-4))), (2, .int x_5), (0, .ref (q0 0)), (1, .int a1)]) hx hb dX3_leastToleranceBelow_34 hl (k := 0) rfl rfl (by decide) rfl (fun ls hl => ?_)
          refine lv_goto (tgt := 7) hx hb dX3_leastToleranceBelow_37 (by decide) ?_
          exact ihL_6 (x_4 + (-4)) x_5 _ _ _ (lv_sub hl [0, 1, 2, 3] rfl) hP hD hS hf
        · replace hf := ifF cc hf
          refine lv_iload_n hx hb dX3_leastToleranceBelow_23 rfl (lv_at hl 1 rfl) ?_
          refine lv_aload_n hx hb dX3_leastToleranceBelow_24 rfl (lv_at hl 2 rfl) ?_
          refine va_get (D := D) (ci := 4) (v := .ref (q0 2)) (C := RX6) (T := TX6) (N := 10) hx hb hts hi4 hown hK hP 0 rfl rfl 1 (by decide) hw2 (fun _ h9 => h9) rfl dX3_leastToleranceBelow_25 ?_
          refine lv_iload_n hx hb dX3_leastToleranceBelow_28 rfl (lv_at hl 0 rfl) ?_
          obtain ⟨hin, hf⟩ := ckI_of hf
          refine va_iald (D := D) hx hb hK hP 2 0 rfl rfl hin dX3_leastToleranceBelow_29 ?_
          refine va_mmin hx hb (hml.trans hl.1.symm) hown hw3 hw4 hw5 hw6 (Nat.le_of_ble_eq_true rfl) (Nat.le_of_ble_eq_true rfl) (Nat.zero_le _) (Nat.zero_le _) dX3_leastToleranceBelow_30 ?_
          obtain ⟨t_8, et_8, hf⟩ := nm_of hf
          rw [← et_8]
          refine lv_istore_n (lv' := [(2, .int t_8), (3, .int x_4), (0, .ref (q0 0)), (1, .int a1)]) hx hb dX3_leastToleranceBelow_33 rfl hl (by decide) rfl (fun ls hl => ?_)
          refine lv_iinc (v := (x_4 + (-4))) (lv' := [(3, .int (x_4 + (-4))), (2, .int t_8), (0, .ref (q0 0)), (1, .int a1)]) hx hb dX3_leastToleranceBelow_34 hl (k := 1) rfl rfl (by decide) rfl (fun ls hl => ?_)
          refine lv_goto (tgt := 7) hx hb dX3_leastToleranceBelow_37 (by decide) ?_
          exact ihL_6 (x_4 + (-4)) t_8 _ _ _ (lv_sub hl [0, 1, 2, 3] rfl) hP hD hS hf
  exact loL_6 FU (a1 - 4) 9 _ _ _ hl hP hD hS hf
def f_X3_excessByTolerance_K4 (y_9 : Int32) (y_10 : Int32) : Option Int32 :=
  some y_10
def f_X3_excessByTolerance_B4 (v0 : SV) (selfL_6 : (Int32 → Int32 → Option Int32)) (x_4 : Int32) (x_5 : Int32) : Option Int32 :=
  if 12 ≤ x_4 then
    f_X3_excessByTolerance_K4 x_4 x_5
  else
    ckI x_4 12 <|
    bd1 (f_X3_leastToleranceBelow x_4 v0) fun r_7 =>
    nm (if 0 < ((v0.2 0 x_4.toNatClampNeg) - r_7) then ((v0.2 0 x_4.toNatClampNeg) - r_7) else 0) fun t_8 =>
    selfL_6 (x_4 + 1) (x_5 + t_8)
def f_X3_excessByTolerance (v0 : SV) : Option Int32 :=
  lz2 (f_X3_excessByTolerance_B4 v0) FU 0 0
abbrev rm_X3_excessByTolerance : Room := { frames := 2, cells := 0, slots := 0, locals := 48 }
set_option maxHeartbeats 4000000 in
set_option maxRecDepth 100000 in
theorem c_X3_excessByTolerance (l : Launch) (D : va_G) (G : Nat → ClassId) (q0 : Nat → Nat) (v0 : SV) (r : Int32) (hf : f_X3_excessByTolerance v0 = some r) (sz : Nat) : mC l yX3_excessByTolerance wsX3_excessByTolerance rm_X3_excessByTolerance D (tyG G) kT [.ref (q0 0)] (kHouse G q0 v0) (kHouse G q0 v0) sz (some (.int r)) 0 0 := by
  refine mC_ofI (cc := cX3_excessByTolerance) (maxL := 3) (ret := (some .int)) (by decide) rfl rfl (Nat.le_of_ble_eq_true rfl) ?_
  intro p e s m args below meth c Q0 hx hb hml hts hown hN hK A hD hA hE hP hS hJ ls hl
  have hl : lv_has ls 3 [(0, .ref (q0 0))] := hl
  unfold f_X3_excessByTolerance at hf
  have hi4 : ∀ w ∈ u_ws RX6 TX6 10, w ∈ wsX3_excessByTolerance := by decide +kernel
  have hw1 := hts (.fieldLink RX3 29 "BalconyCensus$House" "plants" "[I") (by decide +kernel)
  have hw2 := hts (.methodLink RX3 51 Lib.Math.max.name) (by decide +kernel)
  have hw3 := hts (.static Lib.Math.max.name) (by decide +kernel)
  have hw4 := hts (.initialized "java/lang/Math") (by decide +kernel)
  have hw5 := hts (.code Lib.Math.max.name Lib.Math.max.code 2 (some .int)) (by decide +kernel)
  refine lv_iconst (v := 0) hx hb dX3_excessByTolerance_0 (by decide) ?_
  refine lv_istore_n (lv' := [(1, .int 0), (0, .ref (q0 0))]) hx hb dX3_excessByTolerance_1 rfl hl (by decide) rfl (fun ls hl => ?_)
  refine lv_iconst (v := 0) hx hb dX3_excessByTolerance_2 (by decide) ?_
  refine lv_istore_n (lv' := [(2, .int 0), (1, .int 0), (0, .ref (q0 0))]) hx hb dX3_excessByTolerance_3 rfl hl (by decide) rfl (fun ls hl => ?_)
  have exL_6 : ∀ (y_9 : Int32) (y_10 : Int32) (H : Heap) (locs : List Loc) (ls : Array Slot), lv_has ls 3 [(2, .int y_9), (1, .int y_10), (0, .ref (q0 0))] → va_P D vwCl (kHouse G q0 v0) H → va_D A (kHouse G q0 v0) → va_S A s.heap H locs → f_X3_excessByTolerance_K4 y_9 y_10 = some r → W p l e rm_X3_excessByTolerance s m args below meth c H locs 0 0 Q0 (F0 m 35 ls []) := by
    intro y_9 y_10 H locs ls hl hP hD hS hf
    unfold f_X3_excessByTolerance_K4 at hf
    refine lv_iload_n hx hb dX3_excessByTolerance_35 rfl (lv_at hl 1 rfl) ?_
    obtain rfl := re1 hf
    exact hE hP hD hS dX3_excessByTolerance_36
  have loL_6 : ∀ (n : Nat) (x_4 : Int32) (x_5 : Int32) (H : Heap) (locs : List Loc) (ls : Array Slot), lv_has ls 3 [(2, .int x_4), (1, .int x_5), (0, .ref (q0 0))] → va_P D vwCl (kHouse G q0 v0) H → va_D A (kHouse G q0 v0) → va_S A s.heap H locs → lz2 (f_X3_excessByTolerance_B4 v0) n x_4 x_5 = some r → W p l e rm_X3_excessByTolerance s m args below meth c H locs 0 0 Q0 (F0 m 4 ls []) := by
    intro n
    induction n with
    | zero => intro x_4 x_5 H locs ls hl hP hD hS hf; cases hf
    | succ n ihL_6 =>
      intro x_4 x_5 H locs ls hl hP hD hS hf
      replace hf := lz2_s hf
      unfold f_X3_excessByTolerance_B4 at hf
      refine lv_iload_n hx hb dX3_excessByTolerance_4 rfl (lv_at hl 0 rfl) ?_
      refine lv_bipush (v := 12) hx hb dX3_excessByTolerance_5 (by decide +kernel) ?_
      refine lv_icmp_ge (tgt := 35) hx hb dX3_excessByTolerance_7 (by decide) (fun cc => ?_) (fun cc => ?_)
      · replace hf := ifT cc hf
        exact exL_6 x_4 x_5 _ _ _ (lv_sub hl [0, 1, 2] rfl) hP hD hS hf
      · replace hf := ifF cc hf
        refine lv_iload_n hx hb dX3_excessByTolerance_10 rfl (lv_at hl 1 rfl) ?_
        refine lv_iconst (v := 0) hx hb dX3_excessByTolerance_11 (by decide) ?_
        refine lv_aload_n hx hb dX3_excessByTolerance_12 rfl (lv_at hl 2 rfl) ?_
        refine va_get (D := D) (ci := 4) (v := .ref (q0 1)) (C := RX6) (T := TX6) (N := 10) hx hb hts hi4 hown hK hP 0 rfl rfl 0 (by decide) hw1 (fun _ h9 => h9) rfl dX3_excessByTolerance_13 ?_
        refine lv_iload_n hx hb dX3_excessByTolerance_16 rfl (lv_at hl 0 rfl) ?_
        obtain ⟨hin, hf⟩ := ckI_of hf
        refine va_iald (D := D) hx hb hK hP 1 0 rfl rfl hin dX3_excessByTolerance_17 ?_
        refine lv_aload_n hx hb dX3_excessByTolerance_18 rfl (lv_at hl 2 rfl) ?_
        refine lv_iload_n hx hb dX3_excessByTolerance_19 rfl (lv_at hl 0 rfl) ?_
        obtain ⟨r_7, hc, hf⟩ := bd1_of hf
        refine k_S (As := [.ref (q0 0), .int x_4]) (rest := [.int (v0.2 0 x_4.toNatClampNeg), .int 0, .int x_5]) (ws1 := (kHouse G q0 v0)) ⟨hx, hb, hml, hown, hts⟩ (c_X3_leastToleranceBelow l D G q0 x_4 v0 _ hc  _) (va_cwS 2 hts gX3_excessByTolerance_X3_leastToleranceBelow rfl rfl rfl (by decide +kernel) ⟨Nat.le_of_ble_eq_true rfl, Nat.le_of_ble_eq_true rfl⟩) hl.1 (Nat.le_of_ble_eq_true rfl) dX3_excessByTolerance_20 ⟨Nat.le_of_ble_eq_true rfl, Nat.le_of_ble_eq_true rfl⟩ rfl kT_bl (fun _ _ _ => trivial) hN hK hP hD hS hA [0, 1, 2, 3, 4, 5, 6, 7, 8, 9, 10, 11, 12, 13, 14] [] [0, 1, 2, 3, 4, 5, 6, 7, 8, 9, 10, 11, 12, 13, 14] [0, 1, 2, 3] rfl rfl rfl ⟨by decide, by decide, by decide, by decide⟩ rfl (fun H locs hP hD hS => ?_)
        refine lv_isub hx hb dX3_excessByTolerance_23 ?_
        refine va_mmax hx hb (hml.trans hl.1.symm) hown hw2 hw3 hw4 hw5 (Nat.le_of_ble_eq_true rfl) (Nat.le_of_ble_eq_true rfl) (Nat.zero_le _) (Nat.zero_le _) dX3_excessByTolerance_24 ?_
        obtain ⟨t_8, et_8, hf⟩ := nm_of hf
        rw [← et_8]
        refine lv_iadd hx hb dX3_excessByTolerance_27 ?_
        refine lv_istore_n (lv' := [(1, .int (x_5 + t_8)), (2, .int x_4), (0, .ref (q0 0))]) hx hb dX3_excessByTolerance_28 rfl hl (by decide) rfl (fun ls hl => ?_)
        refine lv_iinc (v := (x_4 + 1)) (lv' := [(2, .int (x_4 + 1)), (1, .int (x_5 + t_8)), (0, .ref (q0 0))]) hx hb dX3_excessByTolerance_29 hl (k := 1) rfl rfl (by decide) rfl (fun ls hl => ?_)
        refine lv_goto (tgt := 4) hx hb dX3_excessByTolerance_32 (by decide) ?_
        exact ihL_6 (x_4 + 1) (x_5 + t_8) _ _ _ (lv_sub hl [0, 1, 2] rfl) hP hD hS hf
  exact loL_6 FU 0 0 _ _ _ hl hP hD hS hf
def f_X3_firstTooRich_K2 (y_14 : Int32) : Option Int32 :=
  some (-1)
def f_X3_firstTooRich_K12 (selfL_9 : (Int32 → Option Int32)) (x_8 : Int32) (y_13 : Int32) : Option Int32 :=
  selfL_9 (x_8 + 1)
def f_X3_firstTooRich_B12 (selfL_9 : (Int32 → Option Int32)) (x_8 : Int32) (v0 : SV) (selfL_11 : (Int32 → Option Int32)) (x_10 : Int32) : Option Int32 :=
  if 12 ≤ x_10 then
    f_X3_firstTooRich_K12 selfL_9 x_8 x_10
  else
    bd1 (f_X6_isFeud x_8 x_10 v0) fun r_12 =>
    if r_12 = 0 then
      selfL_11 (x_10 + 4)
    else
      some x_10
def f_X3_firstTooRich_B2 (v0 : SV) (selfL_9 : (Int32 → Option Int32)) (x_8 : Int32) : Option Int32 :=
  if 12 ≤ x_8 then
    f_X3_firstTooRich_K2 x_8
  else
    lz1 (f_X3_firstTooRich_B12 selfL_9 x_8 v0) FU (x_8 + 4)
def f_X3_firstTooRich (v0 : SV) : Option Int32 :=
  lz1 (f_X3_firstTooRich_B2 v0) FU 0
abbrev rm_X3_firstTooRich : Room := { frames := 2, cells := 0, slots := 0, locals := 49 }
set_option maxHeartbeats 4000000 in
set_option maxRecDepth 100000 in
theorem c_X3_firstTooRich (l : Launch) (D : va_G) (G : Nat → ClassId) (q0 : Nat → Nat) (v0 : SV) (r : Int32) (hf : f_X3_firstTooRich v0 = some r) (sz : Nat) : mC l yX3_firstTooRich wsX3_firstTooRich rm_X3_firstTooRich D (tyG G) kT [.ref (q0 0)] (kHouse G q0 v0) (kHouse G q0 v0) sz (some (.int r)) 0 0 := by
  refine mC_ofI (cc := cX3_firstTooRich) (maxL := 3) (ret := (some .int)) (by decide) rfl rfl (Nat.le_of_ble_eq_true rfl) ?_
  intro p e s m args below meth c Q0 hx hb hml hts hown hN hK A hD hA hE hP hS hJ ls hl
  have hl : lv_has ls 3 [(0, .ref (q0 0))] := hl
  unfold f_X3_firstTooRich at hf
  refine lv_iconst (v := 0) hx hb dX3_firstTooRich_0 (by decide) ?_
  refine lv_istore_n (lv' := [(1, .int 0), (0, .ref (q0 0))]) hx hb dX3_firstTooRich_1 rfl hl (by decide) rfl (fun ls hl => ?_)
  have exL_9 : ∀ (y_14 : Int32) (H : Heap) (locs : List Loc) (ls : Array Slot), lv_has ls 3 [(1, .int y_14), (0, .ref (q0 0))] → va_P D vwCl (kHouse G q0 v0) H → va_D A (kHouse G q0 v0) → va_S A s.heap H locs → f_X3_firstTooRich_K2 y_14 = some r → W p l e rm_X3_firstTooRich s m args below meth c H locs 0 0 Q0 (F0 m 41 ls []) := by
    intro y_14 H locs ls hl hP hD hS hf
    unfold f_X3_firstTooRich_K2 at hf
    refine lv_iconst (v := (-1)) hx hb dX3_firstTooRich_41 (by decide) ?_
    obtain rfl := re1 hf
    exact hE hP hD hS dX3_firstTooRich_42
  have loL_9 : ∀ (n : Nat) (x_8 : Int32) (H : Heap) (locs : List Loc) (ls : Array Slot), lv_has ls 3 [(1, .int x_8), (0, .ref (q0 0))] → va_P D vwCl (kHouse G q0 v0) H → va_D A (kHouse G q0 v0) → va_S A s.heap H locs → lz1 (f_X3_firstTooRich_B2 v0) n x_8 = some r → W p l e rm_X3_firstTooRich s m args below meth c H locs 0 0 Q0 (F0 m 2 ls []) := by
    intro n
    induction n with
    | zero => intro x_8 H locs ls hl hP hD hS hf; cases hf
    | succ n ihL_9 =>
      intro x_8 H locs ls hl hP hD hS hf
      replace hf := lz1_s hf
      generalize lz1 (f_X3_firstTooRich_B2 v0) n = selfL_9 at hf ihL_9
      unfold f_X3_firstTooRich_B2 at hf
      refine lv_iload_n hx hb dX3_firstTooRich_2 rfl (lv_at hl 0 rfl) ?_
      refine lv_bipush (v := 12) hx hb dX3_firstTooRich_3 (by decide +kernel) ?_
      refine lv_icmp_ge (tgt := 41) hx hb dX3_firstTooRich_5 (by decide) (fun cc => ?_) (fun cc => ?_)
      · replace hf := ifT cc hf
        exact exL_9 x_8 _ _ _ (lv_sub hl [0, 1] rfl) hP hD hS hf
      · replace hf := ifF cc hf
        refine lv_iload_n hx hb dX3_firstTooRich_8 rfl (lv_at hl 0 rfl) ?_
        refine lv_iconst (v := 4) hx hb dX3_firstTooRich_9 (by decide) ?_
        refine lv_iadd hx hb dX3_firstTooRich_10 ?_
        refine lv_istore_n (lv' := [(2, .int (x_8 + 4)), (1, .int x_8), (0, .ref (q0 0))]) hx hb dX3_firstTooRich_11 rfl hl (by decide) rfl (fun ls hl => ?_)
        have exL_11 : ∀ (y_13 : Int32) (H : Heap) (locs : List Loc) (ls : Array Slot), lv_has ls 3 [(2, .int y_13), (1, .int x_8), (0, .ref (q0 0))] → va_P D vwCl (kHouse G q0 v0) H → va_D A (kHouse G q0 v0) → va_S A s.heap H locs → f_X3_firstTooRich_K12 selfL_9 x_8 y_13 = some r → W p l e rm_X3_firstTooRich s m args below meth c H locs 0 0 Q0 (F0 m 35 ls []) := by
          intro y_13 H locs ls hl hP hD hS hf
          unfold f_X3_firstTooRich_K12 at hf
          refine lv_iinc (v := (x_8 + 1)) (lv' := [(1, .int (x_8 + 1)), (2, .int y_13), (0, .ref (q0 0))]) hx hb dX3_firstTooRich_35 hl (k := 1) rfl rfl (by decide) rfl (fun ls hl => ?_)
          refine lv_goto (tgt := 2) hx hb dX3_firstTooRich_38 (by decide) ?_
          exact ihL_9 (x_8 + 1) _ _ _ (lv_sub hl [0, 2] rfl) hP hD hS hf
        have loL_11 : ∀ (n : Nat) (x_10 : Int32) (H : Heap) (locs : List Loc) (ls : Array Slot), lv_has ls 3 [(2, .int x_10), (1, .int x_8), (0, .ref (q0 0))] → va_P D vwCl (kHouse G q0 v0) H → va_D A (kHouse G q0 v0) → va_S A s.heap H locs → lz1 (f_X3_firstTooRich_B12 selfL_9 x_8 v0) n x_10 = some r → W p l e rm_X3_firstTooRich s m args below meth c H locs 0 0 Q0 (F0 m 12 ls []) := by
          intro n
          induction n with
          | zero => intro x_10 H locs ls hl hP hD hS hf; cases hf
          | succ n ihL_11 =>
            intro x_10 H locs ls hl hP hD hS hf
            replace hf := lz1_s hf
            unfold f_X3_firstTooRich_B12 at hf
            refine lv_iload_n hx hb dX3_firstTooRich_12 rfl (lv_at hl 0 rfl) ?_
            refine lv_bipush (v := 12) hx hb dX3_firstTooRich_13 (by decide +kernel) ?_
            refine lv_icmp_ge (tgt := 35) hx hb dX3_firstTooRich_15 (by decide) (fun cc => ?_) (fun cc => ?_)
            · replace hf := ifT cc hf
              exact exL_11 x_10 _ _ _ (lv_sub hl [0, 1, 2] rfl) hP hD hS hf
            · replace hf := ifF cc hf
              refine lv_aload_n hx hb dX3_firstTooRich_18 rfl (lv_at hl 2 rfl) ?_
              refine lv_iload_n hx hb dX3_firstTooRich_19 rfl (lv_at hl 1 rfl) ?_
              refine lv_iload_n hx hb dX3_firstTooRich_20 rfl (lv_at hl 0 rfl) ?_
              obtain ⟨r_12, hc, hf⟩ := bd1_of hf
              refine k_V (As := [.int x_8, .int x_10]) (rest := []) (ws1 := (kHouse G q0 v0)) ⟨hx, hb, hml, hown, hts⟩ (c_X6_isFeud l D G q0 x_8 x_10 v0 _ hc  _) (cwV 2 hts gX3_firstTooRich_X6_isFeud rfl rfl rfl (by decide +kernel) ⟨Nat.le_of_ble_eq_true rfl, Nat.le_of_ble_eq_true rfl⟩) hl.1 (Nat.le_of_ble_eq_true rfl) dX3_firstTooRich_21 ⟨Nat.le_of_ble_eq_true rfl, Nat.le_of_ble_eq_true rfl⟩ rfl kT_bl (fun _ _ _ => trivial) hN hK hP hD hS hA 0 4 rfl rfl rfl [0, 1, 2, 3, 4, 5, 6, 7, 8, 9, 10, 11, 12, 13, 14] [] [0, 1, 2, 3, 4, 5, 6, 7, 8, 9, 10, 11, 12, 13, 14] [0, 1, 2, 3] rfl rfl rfl ⟨by decide, by decide, by decide, by decide⟩ rfl (fun H locs hP hD hS => ?_)
              refine lv_if_eq (tgt := 29) hx hb dX3_firstTooRich_24 (by decide) (fun cc => ?_) (fun cc => ?_)
              · replace hf := ifT cc hf
                refine lv_iinc (v := (x_10 + 4)) (lv' := [(2, .int (x_10 + 4)), (1, .int x_8), (0, .ref (q0 0))]) hx hb dX3_firstTooRich_29 hl (k := 0) rfl rfl (by decide) rfl (fun ls hl => ?_)
                refine lv_goto (tgt := 12) hx hb dX3_firstTooRich_32 (by decide) ?_
                exact ihL_11 (x_10 + 4) _ _ _ (lv_sub hl [0, 1, 2] rfl) hP hD hS hf
              · replace hf := ifF cc hf
                refine lv_iload_n hx hb dX3_firstTooRich_27 rfl (lv_at hl 0 rfl) ?_
                obtain rfl := re1 hf
                exact hE hP hD hS dX3_firstTooRich_28
        exact loL_11 FU (x_8 + 4) _ _ _ hl hP hD hS hf
  exact loL_9 FU 0 _ _ _ hl hP hD hS hf
def f_X3_takeExcess_K4 (y_10 : Int32) (y_11 : Int32) (z_12 : SV) : Option (Int32 × SV) :=
  some (y_11, z_12)
def f_X3_takeExcess_B4 (selfL_7 : (Int32 → Int32 → SV → Option (Int32 × SV))) (x_4 : Int32) (x_5 : Int32) (u_6 : SV) : Option (Int32 × SV) :=
  if 108 ≤ x_4 then
    f_X3_takeExcess_K4 x_4 x_5 u_6
  else
    bd1 (f_X3_firstTooRich u_6) fun r_8 =>
    if 0 ≤ r_8 then
      ckI r_8 12 <|
      ckI r_8 12 <|
      nm (pA u_6 0 r_8 ((u_6.2 0 r_8.toNatClampNeg) - 1)) fun v_9 =>
      selfL_7 (x_4 + 1) (x_5 + 1) v_9
    else
      some (x_5, u_6)
def f_X3_takeExcess (v0 : SV) : Option (Int32 × SV) :=
  lz3 (f_X3_takeExcess_B4) FU 0 0 v0
abbrev rm_X3_takeExcess : Room := { frames := 3, cells := 0, slots := 0, locals := 71 }
set_option maxHeartbeats 4000000 in
set_option maxRecDepth 100000 in
theorem c_X3_takeExcess (l : Launch) (D : va_G) (G : Nat → ClassId) (q0 : Nat → Nat) (v0 : SV) (r : Int32) (v0' : SV) (hf : f_X3_takeExcess v0 = some (r, v0')) (sz : Nat) : mC l yX3_takeExcess wsX3_takeExcess rm_X3_takeExcess D (tyG G) kT [.ref (q0 0)] (kHouse G q0 v0) (kHouse G q0 v0') sz (some (.int r)) 0 0 := by
  refine mC_ofI (cc := cX3_takeExcess) (maxL := 4) (ret := (some .int)) (by decide) rfl rfl (Nat.le_of_ble_eq_true rfl) ?_
  intro p e s m args below meth c Q0 hx hb hml hts hown hN hK A hD hA hE hP hS hJ ls hl
  have hl : lv_has ls 4 [(0, .ref (q0 0))] := hl
  unfold f_X3_takeExcess at hf
  have hi4 : ∀ w ∈ u_ws RX6 TX6 10, w ∈ wsX3_takeExcess := by decide +kernel
  have hw1 := hts (.fieldLink RX3 29 "BalconyCensus$House" "plants" "[I") (by decide +kernel)
  refine lv_iconst (v := 0) hx hb dX3_takeExcess_0 (by decide) ?_
  refine lv_istore_n (lv' := [(1, .int 0), (0, .ref (q0 0))]) hx hb dX3_takeExcess_1 rfl hl (by decide) rfl (fun ls hl => ?_)
  refine lv_iconst (v := 0) hx hb dX3_takeExcess_2 (by decide) ?_
  refine lv_istore_n (lv' := [(2, .int 0), (1, .int 0), (0, .ref (q0 0))]) hx hb dX3_takeExcess_3 rfl hl (by decide) rfl (fun ls hl => ?_)
  have exL_7 : ∀ (y_10 : Int32) (y_11 : Int32) (z_12 : SV) (H : Heap) (locs : List Loc) (ls : Array Slot), lv_has ls 4 [(2, .int y_10), (1, .int y_11), (0, .ref (q0 0))] → va_P D vwCl (kHouse G q0 z_12) H → va_D A (kHouse G q0 z_12) → va_S A s.heap H locs → f_X3_takeExcess_K4 y_10 y_11 z_12 = some (r, v0') → W p l e rm_X3_takeExcess s m args below meth c H locs 0 0 Q0 (F0 m 40 ls []) := by
    intro y_10 y_11 z_12 H locs ls hl hP hD hS hf
    unfold f_X3_takeExcess_K4 at hf
    refine lv_iload_n hx hb dX3_takeExcess_40 rfl (lv_at hl 1 rfl) ?_
    obtain ⟨rfl, rfl⟩ := re2 hf
    exact hE hP hD hS dX3_takeExcess_41
  have loL_7 : ∀ (n : Nat) (x_4 : Int32) (x_5 : Int32) (u_6 : SV) (H : Heap) (locs : List Loc) (ls : Array Slot), lv_has ls 4 [(2, .int x_4), (1, .int x_5), (0, .ref (q0 0))] → va_P D vwCl (kHouse G q0 u_6) H → va_D A (kHouse G q0 u_6) → va_S A s.heap H locs → lz3 (f_X3_takeExcess_B4) n x_4 x_5 u_6 = some (r, v0') → W p l e rm_X3_takeExcess s m args below meth c H locs 0 0 Q0 (F0 m 4 ls []) := by
    intro n
    induction n with
    | zero => intro x_4 x_5 u_6 H locs ls hl hP hD hS hf; cases hf
    | succ n ihL_7 =>
      intro x_4 x_5 u_6 H locs ls hl hP hD hS hf
      replace hf := lz3_s hf
      unfold f_X3_takeExcess_B4 at hf
      refine lv_iload_n hx hb dX3_takeExcess_4 rfl (lv_at hl 0 rfl) ?_
      refine lv_bipush (v := 108) hx hb dX3_takeExcess_5 (by decide +kernel) ?_
      refine lv_icmp_ge (tgt := 40) hx hb dX3_takeExcess_7 (by decide) (fun cc => ?_) (fun cc => ?_)
      · replace hf := ifT cc hf
        exact exL_7 x_4 x_5 u_6 _ _ _ (lv_sub hl [0, 1, 2] rfl) hP hD hS hf
      · replace hf := ifF cc hf
        refine lv_aload_n hx hb dX3_takeExcess_10 rfl (lv_at hl 2 rfl) ?_
        obtain ⟨r_8, hc, hf⟩ := bd1_of hf
        refine k_S (As := [.ref (q0 0)]) (rest := []) (ws1 := (kHouse G q0 u_6)) ⟨hx, hb, hml, hown, hts⟩ (c_X3_firstTooRich l D G q0  u_6 _ hc  _) (va_cwS 1 hts gX3_takeExcess_X3_firstTooRich rfl rfl rfl (by decide +kernel) ⟨Nat.le_of_ble_eq_true rfl, Nat.le_of_ble_eq_true rfl⟩) hl.1 (Nat.le_of_ble_eq_true rfl) dX3_takeExcess_11 ⟨Nat.le_of_ble_eq_true rfl, Nat.le_of_ble_eq_true rfl⟩ rfl kT_bl (fun _ _ _ => trivial) hN hK hP hD hS hA [0, 1, 2, 3, 4, 5, 6, 7, 8, 9, 10, 11, 12, 13, 14] [] [0, 1, 2, 3, 4, 5, 6, 7, 8, 9, 10, 11, 12, 13, 14] [0, 1, 2, 3] rfl rfl rfl ⟨by decide, by decide, by decide, by decide⟩ rfl (fun H locs hP hD hS => ?_)
        refine lv_istore_n (lv' := [(3, .int r_8), (2, .int x_4), (1, .int x_5), (0, .ref (q0 0))]) hx hb dX3_takeExcess_14 rfl hl (by decide) rfl (fun ls hl => ?_)
        refine lv_iload_n hx hb dX3_takeExcess_15 rfl (lv_at hl 0 rfl) ?_
        refine lv_if_ge (tgt := 21) hx hb dX3_takeExcess_16 (by decide) (fun cc => ?_) (fun cc => ?_)
        · replace hf := ifT cc hf
          refine lv_aload_n hx hb dX3_takeExcess_21 rfl (lv_at hl 3 rfl) ?_
          refine va_get (D := D) (ci := 4) (v := .ref (q0 1)) (C := RX6) (T := TX6) (N := 10) hx hb hts hi4 hown hK hP 0 rfl rfl 0 (by decide) hw1 (fun _ h9 => h9) rfl dX3_takeExcess_22 ?_
          refine lv_iload_n hx hb dX3_takeExcess_25 rfl (lv_at hl 0 rfl) ?_
          refine lv_dup2_11 hx hb dX3_takeExcess_26 rfl rfl ?_
          obtain ⟨hin, hf⟩ := ckI_of hf
          refine va_iald (D := D) hx hb hK hP 1 0 rfl rfl hin dX3_takeExcess_27 ?_
          refine lv_iconst (v := 1) hx hb dX3_takeExcess_28 (by decide) ?_
          refine lv_isub hx hb dX3_takeExcess_29 ?_
          obtain ⟨hin, hf⟩ := ckI_of hf
          obtain ⟨v_9, ev_9, hf⟩ := nm_of hf
          refine va_iast (D := D) hx hb hK hP hD hS 1 0 rfl rfl hin dX3_takeExcess_30 (fun H locs hP hD hS => ?_)
          have hP : va_P D vwCl (kHouse G q0 v_9) H := by rw [ev_9]; exact hP
          have hD : va_D A (kHouse G q0 v_9) := by rw [ev_9]; exact hD
          refine lv_iinc (v := (x_5 + 1)) (lv' := [(1, .int (x_5 + 1)), (3, .int r_8), (2, .int x_4), (0, .ref (q0 0))]) hx hb dX3_takeExcess_31 hl (k := 2) rfl rfl (by decide) rfl (fun ls hl => ?_)
          refine lv_iinc (v := (x_4 + 1)) (lv' := [(2, .int (x_4 + 1)), (1, .int (x_5 + 1)), (3, .int r_8), (0, .ref (q0 0))]) hx hb dX3_takeExcess_34 hl (k := 2) rfl rfl (by decide) rfl (fun ls hl => ?_)
          refine lv_goto (tgt := 4) hx hb dX3_takeExcess_37 (by decide) ?_
          exact ihL_7 (x_4 + 1) (x_5 + 1) v_9 _ _ _ (lv_sub hl [0, 1, 3] rfl) hP hD hS hf
        · replace hf := ifF cc hf
          refine lv_iload_n hx hb dX3_takeExcess_19 rfl (lv_at hl 2 rfl) ?_
          obtain ⟨rfl, rfl⟩ := re2 hf
          exact hE hP hD hS dX3_takeExcess_20
  exact loL_7 FU 0 0 v0 _ _ _ hl hP hD hS hf
