/-! walks, laid by program -/
def f_X12_isBalcony (a0 : Int32) : Option Int32 :=
  if a0 < 0 then
    some 0
  else
    if 12 ≤ a0 then
      some 0
    else
      some 1
abbrev rm_X12_isBalcony : Room := { frames := 0, cells := 0, slots := 0, locals := 0 }
set_option maxHeartbeats 4000000 in
set_option maxRecDepth 100000 in
theorem c_X12_isBalcony (l : Launch) (D : va_G) (G : Nat → ClassId) (a0 : Int32) (r : Int32) (hf : f_X12_isBalcony a0 = some r) (sz : Nat) : mC l yX12_isBalcony wsX12_isBalcony rm_X12_isBalcony D (tyG G) [.int a0] ([] : va_W) ([] : va_W) sz (some (.int r)) 0 0 := by
  refine mC_ofZ (cc := cX12_isBalcony) (maxL := 1) (ret := (some .boolean)) (by decide) rfl rfl (by decide) ?_
  intro p e s m args below meth c Q0 hx hb hml hts hown hN hK A hD hA hE hP hS ls hl
  have hl : lv_has ls 1 [(0, .int a0)] := hl
  unfold f_X12_isBalcony at hf
  refine lv_iload_n hx hb dX12_isBalcony_0 rfl (lv_at hl 0 rfl) ?_
  refine lv_if_lt (tgt := 14) hx hb dX12_isBalcony_1 (by decide) (fun cc => ?_) (fun cc => ?_)
  · replace hf := ifT cc hf
    refine lv_iconst (v := 0) hx hb dX12_isBalcony_14 (by decide) ?_
    obtain rfl := re1 hf
    exact hE (.inl rfl) hP hD hS dX12_isBalcony_15
  · replace hf := ifF cc hf
    refine lv_iload_n hx hb dX12_isBalcony_4 rfl (lv_at hl 0 rfl) ?_
    refine lv_bipush (v := 12) hx hb dX12_isBalcony_5 (by decide) ?_
    refine lv_icmp_ge (tgt := 14) hx hb dX12_isBalcony_7 (by decide) (fun cc => ?_) (fun cc => ?_)
    · replace hf := ifT cc hf
      refine lv_iconst (v := 0) hx hb dX12_isBalcony_14 (by decide) ?_
      obtain rfl := re1 hf
      exact hE (.inl rfl) hP hD hS dX12_isBalcony_15
    · replace hf := ifF cc hf
      refine lv_iconst (v := 1) hx hb dX12_isBalcony_10 (by decide) ?_
      refine lv_goto (tgt := 15) hx hb dX12_isBalcony_11 (by decide) ?_
      obtain rfl := re1 hf
      exact hE (.inr rfl) hP hD hS dX12_isBalcony_15

def f_X12_areBalconies (a0 : Int32) (a1 : Int32) : Option Int32 :=
  bd1 (f_X12_isBalcony a0) fun r_1 =>
  if r_1 = 0 then
    some 0
  else
    bd1 (f_X12_isBalcony a1) fun r_2 =>
    if r_2 = 0 then
      some 0
    else
      some 1
abbrev rm_X12_areBalconies : Room := { frames := 1, cells := 0, slots := 0, locals := 20 }
set_option maxHeartbeats 4000000 in
set_option maxRecDepth 100000 in
theorem c_X12_areBalconies (l : Launch) (D : va_G) (G : Nat → ClassId) (a0 : Int32) (a1 : Int32) (r : Int32) (hf : f_X12_areBalconies a0 a1 = some r) (sz : Nat) : mC l yX12_areBalconies wsX12_areBalconies rm_X12_areBalconies D (tyG G) [.int a0, .int a1] ([] : va_W) ([] : va_W) sz (some (.int r)) 0 0 := by
  refine mC_ofZ (cc := cX12_areBalconies) (maxL := 2) (ret := (some .boolean)) (by decide) rfl rfl (by decide) ?_
  intro p e s m args below meth c Q0 hx hb hml hts hown hN hK A hD hA hE hP hS ls hl
  have hl : lv_has ls 2 [(0, .int a0), (1, .int a1)] := hl
  unfold f_X12_areBalconies at hf
  refine lv_iload_n hx hb dX12_areBalconies_0 rfl (lv_at hl 0 rfl) ?_
  obtain ⟨r_1, hc, hf⟩ := bd1_of hf
  refine k_S (As := [.int a0]) (rest := []) (ws1 := ([] : va_W)) ⟨hx, hb, hml, hown, hts⟩ (c_X12_isBalcony l D G  a0  _ hc _) (va_cwS _ hts gX12_areBalconies_X12_isBalcony rfl rfl rfl (by decide +kernel) ⟨Nat.le_of_ble_eq_true rfl, Nat.le_of_ble_eq_true rfl⟩) hl.1 (Nat.le_of_ble_eq_true rfl) dX12_areBalconies_1 ⟨Nat.le_of_ble_eq_true rfl, Nat.le_of_ble_eq_true rfl⟩ rfl hN hK hP hD hS hA [] [] [] [0, 1, 2, 3] rfl rfl rfl ⟨by decide, by decide, by decide, by decide⟩ rfl (fun H locs hP hD hS => ?_)
  refine lv_if_eq (tgt := 18) hx hb dX12_areBalconies_4 (by decide) (fun cc => ?_) (fun cc => ?_)
  · replace hf := ifT cc hf
    refine lv_iconst (v := 0) hx hb dX12_areBalconies_18 (by decide) ?_
    obtain rfl := re1 hf
    exact hE (.inl rfl) hP hD hS dX12_areBalconies_19
  · replace hf := ifF cc hf
    refine lv_iload_n hx hb dX12_areBalconies_7 rfl (lv_at hl 1 rfl) ?_
    obtain ⟨r_2, hc, hf⟩ := bd1_of hf
    refine k_S (As := [.int a1]) (rest := []) (ws1 := ([] : va_W)) ⟨hx, hb, hml, hown, hts⟩ (c_X12_isBalcony l D G  a1  _ hc _) (va_cwS _ hts gX12_areBalconies_X12_isBalcony rfl rfl rfl (by decide +kernel) ⟨Nat.le_of_ble_eq_true rfl, Nat.le_of_ble_eq_true rfl⟩) hl.1 (Nat.le_of_ble_eq_true rfl) dX12_areBalconies_8 ⟨Nat.le_of_ble_eq_true rfl, Nat.le_of_ble_eq_true rfl⟩ rfl hN hK hP hD hS hA [] [] [] [0, 1, 2, 3] rfl rfl rfl ⟨by decide, by decide, by decide, by decide⟩ rfl (fun H locs hP hD hS => ?_)
    refine lv_if_eq (tgt := 18) hx hb dX12_areBalconies_11 (by decide) (fun cc => ?_) (fun cc => ?_)
    · replace hf := ifT cc hf
      refine lv_iconst (v := 0) hx hb dX12_areBalconies_18 (by decide) ?_
      obtain rfl := re1 hf
      exact hE (.inl rfl) hP hD hS dX12_areBalconies_19
    · replace hf := ifF cc hf
      refine lv_iconst (v := 1) hx hb dX12_areBalconies_14 (by decide) ?_
      refine lv_goto (tgt := 19) hx hb dX12_areBalconies_15 (by decide) ?_
      obtain rfl := re1 hf
      exact hE (.inr rfl) hP hD hS dX12_areBalconies_19

def f_X7_between_K26 (y_8 : Int32) : Option Int32 :=
  some (-1)
def f_X7_between_B26 (v0 : SV) (j_2 : Int32) (j_4 : Int32) (selfL_7 : (Int32 → Option Int32)) (x_6 : Int32) : Option Int32 :=
  if (v0.1 4) ≤ x_6 then
    f_X7_between_K26 x_6
  else
    ckI x_6 6 <|
    if (v0.2 2 x_6.toNatClampNeg) = j_2 then
      ckI x_6 6 <|
      if (v0.2 3 x_6.toNatClampNeg) = j_4 then
        some x_6
      else
        selfL_7 (x_6 + 1)
    else
      selfL_7 (x_6 + 1)
def f_X7_between_J21 (v0 : SV) (j_2 : Int32) (j_4 : Int32) : Option Int32 :=
  lp1 (f_X7_between_B26 v0 j_2 j_4) FU 0
def f_X7_between_J10 (a2 : Int32) (a1 : Int32) (v0 : SV) (j_2 : Int32) : Option Int32 :=
  if a2 ≤ a1 then
    f_X7_between_J21 v0 j_2 a1
  else
    f_X7_between_J21 v0 j_2 a2
def f_X7_between (a1 : Int32) (a2 : Int32) (v0 : SV) : Option Int32 :=
  if a2 ≤ a1 then
    f_X7_between_J10 a2 a1 v0 a2
  else
    f_X7_between_J10 a2 a1 v0 a1
abbrev rm_X7_between : Room := { frames := 0, cells := 0, slots := 0, locals := 0 }
set_option maxHeartbeats 4000000 in
set_option maxRecDepth 100000 in
theorem c_X7_between (l : Launch) (D : va_G) (G : Nat → ClassId) (q0 : Nat → Nat) (a1 : Int32) (a2 : Int32) (v0 : SV) (r : Int32) (hf : f_X7_between a1 a2 v0 = some r) (sz : Nat) : mC l yX7_between wsX7_between rm_X7_between D (tyG G) [.ref (q0 3), .int a1, .int a2] (kLines G q0 v0) (kLines G q0 v0) sz (some (.int r)) 0 0 := by
  refine mC_ofI (cc := cX7_between) (maxL := 6) (ret := (some .int)) (by decide) rfl rfl (by decide) ?_
  intro p e s m args below meth c Q0 hx hb hml hts hown hN hK A hD hA hE hP hS ls hl
  have hl : lv_has ls 6 [(0, .ref (q0 3)), (1, .int a1), (2, .int a2)] := hl
  unfold f_X7_between at hf
  have hi5 : ∀ w ∈ u_ws RX7 TX7 5, w ∈ wsX7_between := by decide +kernel
  have hw1 := hts (.fieldLink RX7 21 "BalconyCensus$Lines" "count" "I") (by decide +kernel)
  have hw2 := hts (.fieldLink RX7 9 "BalconyCensus$Lines" "lower" "[I") (by decide +kernel)
  have hw3 := hts (.fieldLink RX7 15 "BalconyCensus$Lines" "higher" "[I") (by decide +kernel)
  refine lv_iload_n hx hb dX7_between_0 rfl (lv_at hl 1 rfl) ?_
  refine lv_iload_n hx hb dX7_between_1 rfl (lv_at hl 2 rfl) ?_
  have jnJ_1 : ∀ (j_2 : Int32) (H : Heap) (locs : List Loc) (ls : Array Slot), lv_has ls 6 [(0, .ref (q0 3)), (1, .int a1), (2, .int a2)] → va_P D vwCl (kLines G q0 v0) H → va_D A (kLines G q0 v0) → va_S A s.heap H locs → f_X7_between_J10 a2 a1 v0 j_2 = some r → W p l e rm_X7_between s m args below meth c H locs 0 0 Q0 (F0 m 10 ls [.int j_2]) := by
    intro j_2 H locs ls hl hP hD hS hf
    unfold f_X7_between_J10 at hf
    refine lv_istore_n (lv' := [(3, .int j_2), (0, .ref (q0 3)), (1, .int a1), (2, .int a2)]) hx hb dX7_between_10 rfl hl (by decide) rfl (fun ls hl => ?_)
    refine lv_iload_n hx hb dX7_between_11 rfl (lv_at hl 2 rfl) ?_
    refine lv_iload_n hx hb dX7_between_12 rfl (lv_at hl 3 rfl) ?_
    have jnJ_3 : ∀ (j_4 : Int32) (H : Heap) (locs : List Loc) (ls : Array Slot), lv_has ls 6 [(3, .int j_2), (0, .ref (q0 3)), (1, .int a1), (2, .int a2)] → va_P D vwCl (kLines G q0 v0) H → va_D A (kLines G q0 v0) → va_S A s.heap H locs → f_X7_between_J21 v0 j_2 j_4 = some r → W p l e rm_X7_between s m args below meth c H locs 0 0 Q0 (F0 m 21 ls [.int j_4]) := by
      intro j_4 H locs ls hl hP hD hS hf
      unfold f_X7_between_J21 at hf
      refine lv_istore (lv' := [(4, .int j_4), (3, .int j_2), (0, .ref (q0 3)), (1, .int a1), (2, .int a2)]) hx hb dX7_between_21 hl (by decide) rfl (fun ls hl => ?_)
      refine lv_iconst (v := 0) hx hb dX7_between_23 (by decide) ?_
      refine lv_istore (lv' := [(5, .int 0), (4, .int j_4), (3, .int j_2), (0, .ref (q0 3)), (1, .int a1), (2, .int a2)]) hx hb dX7_between_24 hl (by decide) rfl (fun ls hl => ?_)
      have exL_7 : ∀ (y_8 : Int32) (H : Heap) (locs : List Loc) (ls : Array Slot), lv_has ls 6 [(5, .int y_8), (4, .int j_4), (3, .int j_2), (0, .ref (q0 3)), (1, .int a1), (2, .int a2)] → va_P D vwCl (kLines G q0 v0) H → va_D A (kLines G q0 v0) → va_S A s.heap H locs → f_X7_between_K26 y_8 = some r → W p l e rm_X7_between s m args below meth c H locs 0 0 Q0 (F0 m 67 ls []) := by
        intro y_8 H locs ls hl hP hD hS hf
        unfold f_X7_between_K26 at hf
        refine lv_iconst (v := (-1)) hx hb dX7_between_67 (by decide) ?_
        obtain rfl := re1 hf
        exact hE hP hD hS dX7_between_68
      have loL_7 : ∀ (n : Nat) (x_6 : Int32) (H : Heap) (locs : List Loc) (ls : Array Slot), lv_has ls 6 [(5, .int x_6), (4, .int j_4), (3, .int j_2), (0, .ref (q0 3)), (1, .int a1), (2, .int a2)] → va_P D vwCl (kLines G q0 v0) H → va_D A (kLines G q0 v0) → va_S A s.heap H locs → lp1 (f_X7_between_B26 v0 j_2 j_4) n x_6 = some r → W p l e rm_X7_between s m args below meth c H locs 0 0 Q0 (F0 m 26 ls []) := by
        intro n
        induction n with
        | zero => intro x_6 H locs ls hl hP hD hS hf; cases hf
        | succ n ihL_7 =>
          intro x_6 H locs ls hl hP hD hS hf
          replace hf := lp1_s hf
          unfold f_X7_between_B26 at hf
          refine lv_iload hx hb dX7_between_26 (lv_at hl 0 rfl) ?_
          refine lv_aload_n hx hb dX7_between_28 rfl (lv_at hl 3 rfl) ?_
          refine va_get (D := D) (ci := 5) (v := .int (v0.1 4)) (C := RX7) (T := TX7) (N := 5) hx hb hts hi5 hown hK hP 0 rfl rfl 3 (by decide) hw1 (fun _ h9 => h9) rfl dX7_between_29 ?_
          refine lv_icmp_ge (tgt := 67) hx hb dX7_between_32 (by decide) (fun cc => ?_) (fun cc => ?_)
          · replace hf := ifT cc hf
            exact exL_7 x_6 _ _ _ (lv_sub hl [0, 1, 2, 3, 4, 5] rfl) hP hD hS hf
          · replace hf := ifF cc hf
            refine lv_aload_n hx hb dX7_between_35 rfl (lv_at hl 3 rfl) ?_
            refine va_get (D := D) (ci := 5) (v := .ref (q0 4)) (C := RX7) (T := TX7) (N := 5) hx hb hts hi5 hown hK hP 0 rfl rfl 0 (by decide) hw2 (fun _ h9 => h9) rfl dX7_between_36 ?_
            refine lv_iload hx hb dX7_between_39 (lv_at hl 0 rfl) ?_
            obtain ⟨hin, hf⟩ := ckI_of hf
            refine va_iald (D := D) hx hb hK hP 1 0 rfl rfl hin dX7_between_41 ?_
            refine lv_iload_n hx hb dX7_between_42 rfl (lv_at hl 2 rfl) ?_
            refine lv_icmp_ne (tgt := 61) hx hb dX7_between_43 (by decide) (fun cc => ?_) (fun cc => ?_)
            · replace hf := ifF cc hf
              refine lv_iinc (v := (x_6 + 1)) (lv' := [(5, .int (x_6 + 1)), (4, .int j_4), (3, .int j_2), (0, .ref (q0 3)), (1, .int a1), (2, .int a2)]) hx hb dX7_between_61 hl (k := 0) rfl rfl (by decide) rfl (fun ls hl => ?_)
              refine lv_goto (tgt := 26) hx hb dX7_between_64 (by decide) ?_
              exact ihL_7 (x_6 + 1) _ _ _ (lv_sub hl [0, 1, 2, 3, 4, 5] rfl) hP hD hS hf
            · replace hf := ifT cc hf
              refine lv_aload_n hx hb dX7_between_46 rfl (lv_at hl 3 rfl) ?_
              refine va_get (D := D) (ci := 5) (v := .ref (q0 5)) (C := RX7) (T := TX7) (N := 5) hx hb hts hi5 hown hK hP 0 rfl rfl 1 (by decide) hw3 (fun _ h9 => h9) rfl dX7_between_47 ?_
              refine lv_iload hx hb dX7_between_50 (lv_at hl 0 rfl) ?_
              obtain ⟨hin, hf⟩ := ckI_of hf
              refine va_iald (D := D) hx hb hK hP 2 0 rfl rfl hin dX7_between_52 ?_
              refine lv_iload hx hb dX7_between_53 (lv_at hl 1 rfl) ?_
              refine lv_icmp_ne (tgt := 61) hx hb dX7_between_55 (by decide) (fun cc => ?_) (fun cc => ?_)
              · replace hf := ifF cc hf
                refine lv_iinc (v := (x_6 + 1)) (lv' := [(5, .int (x_6 + 1)), (4, .int j_4), (3, .int j_2), (0, .ref (q0 3)), (1, .int a1), (2, .int a2)]) hx hb dX7_between_61 hl (k := 0) rfl rfl (by decide) rfl (fun ls hl => ?_)
                refine lv_goto (tgt := 26) hx hb dX7_between_64 (by decide) ?_
                exact ihL_7 (x_6 + 1) _ _ _ (lv_sub hl [0, 1, 2, 3, 4, 5] rfl) hP hD hS hf
              · replace hf := ifT cc hf
                refine lv_iload hx hb dX7_between_58 (lv_at hl 0 rfl) ?_
                obtain rfl := re1 hf
                exact hE hP hD hS dX7_between_60
      exact loL_7 FU 0 _ _ _ hl hP hD hS hf
    refine lv_icmp_ge (tgt := 20) hx hb dX7_between_13 (by decide) (fun cc => ?_) (fun cc => ?_)
    · replace hf := ifT cc hf
      refine lv_iload_n hx hb dX7_between_20 rfl (lv_at hl 2 rfl) ?_
      exact jnJ_3 a1 _ _ _ (lv_sub hl [0, 1, 2, 3] rfl) hP hD hS hf
    · replace hf := ifF cc hf
      refine lv_iload_n hx hb dX7_between_16 rfl (lv_at hl 3 rfl) ?_
      refine lv_goto (tgt := 21) hx hb dX7_between_17 (by decide) ?_
      exact jnJ_3 a2 _ _ _ (lv_sub hl [0, 1, 2, 3] rfl) hP hD hS hf
  refine lv_icmp_ge (tgt := 9) hx hb dX7_between_2 (by decide) (fun cc => ?_) (fun cc => ?_)
  · replace hf := ifT cc hf
    refine lv_iload_n hx hb dX7_between_9 rfl (lv_at hl 2 rfl) ?_
    exact jnJ_1 a2 _ _ _ (lv_sub hl [0, 1, 2] rfl) hP hD hS hf
  · replace hf := ifF cc hf
    refine lv_iload_n hx hb dX7_between_5 rfl (lv_at hl 1 rfl) ?_
    refine lv_goto (tgt := 10) hx hb dX7_between_6 (by decide) ?_
    exact jnJ_1 a1 _ _ _ (lv_sub hl [0, 1, 2] rfl) hP hD hS hf

def f_X1_catOn_K2 (y_4 : Int32) : Option Int32 :=
  some (-4)
def f_X1_catOn_B2 (v0 : SV) (a1 : Int32) (selfL_3 : (Int32 → Option Int32)) (x_2 : Int32) : Option Int32 :=
  if (v0.1 6) ≤ x_2 then
    f_X1_catOn_K2 x_2
  else
    ckI x_2 6 <|
    if (v0.2 7 x_2.toNatClampNeg) = a1 then
      some x_2
    else
      selfL_3 (x_2 + 1)
def f_X1_catOn (a1 : Int32) (v0 : SV) : Option Int32 :=
  lp1 (f_X1_catOn_B2 v0 a1) FU 0
abbrev rm_X1_catOn : Room := { frames := 0, cells := 0, slots := 0, locals := 0 }
set_option maxHeartbeats 4000000 in
set_option maxRecDepth 100000 in
theorem c_X1_catOn (l : Launch) (D : va_G) (G : Nat → ClassId) (q0 : Nat → Nat) (a1 : Int32) (v0 : SV) (r : Int32) (hf : f_X1_catOn a1 v0 = some r) (sz : Nat) : mC l yX1_catOn wsX1_catOn rm_X1_catOn D (tyG G) [.ref (q0 10), .int a1] (kCats G q0 v0) (kCats G q0 v0) sz (some (.int r)) 0 0 := by
  refine mC_ofI (cc := cX1_catOn) (maxL := 3) (ret := (some .int)) (by decide) rfl rfl (by decide) ?_
  intro p e s m args below meth c Q0 hx hb hml hts hown hN hK A hD hA hE hP hS ls hl
  have hl : lv_has ls 3 [(0, .ref (q0 10)), (1, .int a1)] := hl
  unfold f_X1_catOn at hf
  have hi1 : ∀ w ∈ u_ws RX1 TX1 4, w ∈ wsX1_catOn := by decide +kernel
  have hw1 := hts (.fieldLink RX1 21 "BalconyCensus$Cats" "count" "I") (by decide +kernel)
  have hw2 := hts (.fieldLink RX1 9 "BalconyCensus$Cats" "balconies" "[I") (by decide +kernel)
  refine lv_iconst (v := 0) hx hb dX1_catOn_0 (by decide) ?_
  refine lv_istore_n (lv' := [(2, .int 0), (0, .ref (q0 10)), (1, .int a1)]) hx hb dX1_catOn_1 rfl hl (by decide) rfl (fun ls hl => ?_)
  have exL_3 : ∀ (y_4 : Int32) (H : Heap) (locs : List Loc) (ls : Array Slot), lv_has ls 3 [(2, .int y_4), (0, .ref (q0 10)), (1, .int a1)] → va_P D vwCl (kCats G q0 v0) H → va_D A (kCats G q0 v0) → va_S A s.heap H locs → f_X1_catOn_K2 y_4 = some r → W p l e rm_X1_catOn s m args below meth c H locs 0 0 Q0 (F0 m 28 ls []) := by
    intro y_4 H locs ls hl hP hD hS hf
    unfold f_X1_catOn_K2 at hf
    refine lv_bipush (v := (-4)) hx hb dX1_catOn_28 (by decide) ?_
    obtain rfl := re1 hf
    exact hE hP hD hS dX1_catOn_30
  have loL_3 : ∀ (n : Nat) (x_2 : Int32) (H : Heap) (locs : List Loc) (ls : Array Slot), lv_has ls 3 [(2, .int x_2), (0, .ref (q0 10)), (1, .int a1)] → va_P D vwCl (kCats G q0 v0) H → va_D A (kCats G q0 v0) → va_S A s.heap H locs → lp1 (f_X1_catOn_B2 v0 a1) n x_2 = some r → W p l e rm_X1_catOn s m args below meth c H locs 0 0 Q0 (F0 m 2 ls []) := by
    intro n
    induction n with
    | zero => intro x_2 H locs ls hl hP hD hS hf; cases hf
    | succ n ihL_3 =>
      intro x_2 H locs ls hl hP hD hS hf
      replace hf := lp1_s hf
      unfold f_X1_catOn_B2 at hf
      refine lv_iload_n hx hb dX1_catOn_2 rfl (lv_at hl 0 rfl) ?_
      refine lv_aload_n hx hb dX1_catOn_3 rfl (lv_at hl 1 rfl) ?_
      refine va_get (D := D) (ci := 1) (v := .int (v0.1 6)) (C := RX1) (T := TX1) (N := 4) hx hb hts hi1 hown hK hP 0 rfl rfl 3 (by decide) hw1 (fun _ h9 => h9) rfl dX1_catOn_4 ?_
      refine lv_icmp_ge (tgt := 28) hx hb dX1_catOn_7 (by decide) (fun cc => ?_) (fun cc => ?_)
      · replace hf := ifT cc hf
        exact exL_3 x_2 _ _ _ (lv_sub hl [0, 1, 2] rfl) hP hD hS hf
      · replace hf := ifF cc hf
        refine lv_aload_n hx hb dX1_catOn_10 rfl (lv_at hl 1 rfl) ?_
        refine va_get (D := D) (ci := 1) (v := .ref (q0 11)) (C := RX1) (T := TX1) (N := 4) hx hb hts hi1 hown hK hP 0 rfl rfl 0 (by decide) hw2 (fun _ h9 => h9) rfl dX1_catOn_11 ?_
        refine lv_iload_n hx hb dX1_catOn_14 rfl (lv_at hl 0 rfl) ?_
        obtain ⟨hin, hf⟩ := ckI_of hf
        refine va_iald (D := D) hx hb hK hP 1 0 rfl rfl hin dX1_catOn_15 ?_
        refine lv_iload_n hx hb dX1_catOn_16 rfl (lv_at hl 2 rfl) ?_
        refine lv_icmp_ne (tgt := 22) hx hb dX1_catOn_17 (by decide) (fun cc => ?_) (fun cc => ?_)
        · replace hf := ifF cc hf
          refine lv_iinc (v := (x_2 + 1)) (lv' := [(2, .int (x_2 + 1)), (0, .ref (q0 10)), (1, .int a1)]) hx hb dX1_catOn_22 hl (k := 0) rfl rfl (by decide) rfl (fun ls hl => ?_)
          refine lv_goto (tgt := 2) hx hb dX1_catOn_25 (by decide) ?_
          exact ihL_3 (x_2 + 1) _ _ _ (lv_sub hl [0, 1, 2] rfl) hP hD hS hf
        · replace hf := ifT cc hf
          refine lv_iload_n hx hb dX1_catOn_20 rfl (lv_at hl 0 rfl) ?_
          obtain rfl := re1 hf
          exact hE hP hD hS dX1_catOn_21
  exact loL_3 FU 0 _ _ _ hl hP hD hS hf

def f_X6_plantSum_K4 (y_5 : Int32) (y_6 : Int32) : Option Int32 :=
  some y_6
def f_X6_plantSum_B4 (v0 : SV) (selfL_4 : (Int32 → Int32 → Option Int32)) (x_2 : Int32) (x_3 : Int32) : Option Int32 :=
  if 12 ≤ x_2 then
    f_X6_plantSum_K4 x_2 x_3
  else
    ckI x_2 12 <|
    selfL_4 (x_2 + 1) (x_3 + (v0.2 0 x_2.toNatClampNeg))
def f_X6_plantSum (v0 : SV) : Option Int32 :=
  lp2 (f_X6_plantSum_B4 v0) FU 0 0
abbrev rm_X6_plantSum : Room := { frames := 0, cells := 0, slots := 0, locals := 0 }
set_option maxHeartbeats 4000000 in
set_option maxRecDepth 100000 in
theorem c_X6_plantSum (l : Launch) (D : va_G) (G : Nat → ClassId) (q0 : Nat → Nat) (v0 : SV) (r : Int32) (hf : f_X6_plantSum v0 = some r) (sz : Nat) : mC l yX6_plantSum wsX6_plantSum rm_X6_plantSum D (tyG G) [.ref (q0 0)] (kHouse G q0 v0) (kHouse G q0 v0) sz (some (.int r)) 0 0 := by
  refine mC_ofI (cc := cX6_plantSum) (maxL := 3) (ret := (some .int)) (by decide) rfl rfl (by decide) ?_
  intro p e s m args below meth c Q0 hx hb hml hts hown hN hK A hD hA hE hP hS ls hl
  have hl : lv_has ls 3 [(0, .ref (q0 0))] := hl
  unfold f_X6_plantSum at hf
  have hi4 : ∀ w ∈ u_ws RX6 TX6 10, w ∈ wsX6_plantSum := by decide +kernel
  have hw1 := hts (.fieldLink RX6 9 "BalconyCensus$House" "plants" "[I") (by decide +kernel)
  refine lv_iconst (v := 0) hx hb dX6_plantSum_0 (by decide) ?_
  refine lv_istore_n (lv' := [(1, .int 0), (0, .ref (q0 0))]) hx hb dX6_plantSum_1 rfl hl (by decide) rfl (fun ls hl => ?_)
  refine lv_iconst (v := 0) hx hb dX6_plantSum_2 (by decide) ?_
  refine lv_istore_n (lv' := [(2, .int 0), (1, .int 0), (0, .ref (q0 0))]) hx hb dX6_plantSum_3 rfl hl (by decide) rfl (fun ls hl => ?_)
  have exL_4 : ∀ (y_5 : Int32) (y_6 : Int32) (H : Heap) (locs : List Loc) (ls : Array Slot), lv_has ls 3 [(2, .int y_5), (1, .int y_6), (0, .ref (q0 0))] → va_P D vwCl (kHouse G q0 v0) H → va_D A (kHouse G q0 v0) → va_S A s.heap H locs → f_X6_plantSum_K4 y_5 y_6 = some r → W p l e rm_X6_plantSum s m args below meth c H locs 0 0 Q0 (F0 m 25 ls []) := by
    intro y_5 y_6 H locs ls hl hP hD hS hf
    unfold f_X6_plantSum_K4 at hf
    refine lv_iload_n hx hb dX6_plantSum_25 rfl (lv_at hl 1 rfl) ?_
    obtain rfl := re1 hf
    exact hE hP hD hS dX6_plantSum_26
  have loL_4 : ∀ (n : Nat) (x_2 : Int32) (x_3 : Int32) (H : Heap) (locs : List Loc) (ls : Array Slot), lv_has ls 3 [(2, .int x_2), (1, .int x_3), (0, .ref (q0 0))] → va_P D vwCl (kHouse G q0 v0) H → va_D A (kHouse G q0 v0) → va_S A s.heap H locs → lp2 (f_X6_plantSum_B4 v0) n x_2 x_3 = some r → W p l e rm_X6_plantSum s m args below meth c H locs 0 0 Q0 (F0 m 4 ls []) := by
    intro n
    induction n with
    | zero => intro x_2 x_3 H locs ls hl hP hD hS hf; cases hf
    | succ n ihL_4 =>
      intro x_2 x_3 H locs ls hl hP hD hS hf
      replace hf := lp2_s hf
      unfold f_X6_plantSum_B4 at hf
      refine lv_iload_n hx hb dX6_plantSum_4 rfl (lv_at hl 0 rfl) ?_
      refine lv_bipush (v := 12) hx hb dX6_plantSum_5 (by decide) ?_
      refine lv_icmp_ge (tgt := 25) hx hb dX6_plantSum_7 (by decide) (fun cc => ?_) (fun cc => ?_)
      · replace hf := ifT cc hf
        exact exL_4 x_2 x_3 _ _ _ (lv_sub hl [0, 1, 2] rfl) hP hD hS hf
      · replace hf := ifF cc hf
        refine lv_iload_n hx hb dX6_plantSum_10 rfl (lv_at hl 1 rfl) ?_
        refine lv_aload_n hx hb dX6_plantSum_11 rfl (lv_at hl 2 rfl) ?_
        refine va_get (D := D) (ci := 4) (v := .ref (q0 1)) (C := RX6) (T := TX6) (N := 10) hx hb hts hi4 hown hK hP 0 rfl rfl 0 (by decide) hw1 (fun _ h9 => h9) rfl dX6_plantSum_12 ?_
        refine lv_iload_n hx hb dX6_plantSum_15 rfl (lv_at hl 0 rfl) ?_
        obtain ⟨hin, hf⟩ := ckI_of hf
        refine va_iald (D := D) hx hb hK hP 1 0 rfl rfl hin dX6_plantSum_16 ?_
        refine lv_iadd hx hb dX6_plantSum_17 ?_
        refine lv_istore_n (lv' := [(1, .int (x_3 + (v0.2 0 x_2.toNatClampNeg))), (2, .int x_2), (0, .ref (q0 0))]) hx hb dX6_plantSum_18 rfl hl (by decide) rfl (fun ls hl => ?_)
        refine lv_iinc (v := (x_2 + 1)) (lv' := [(2, .int (x_2 + 1)), (1, .int (x_3 + (v0.2 0 x_2.toNatClampNeg))), (0, .ref (q0 0))]) hx hb dX6_plantSum_19 hl (k := 1) rfl rfl (by decide) rfl (fun ls hl => ?_)
        refine lv_goto (tgt := 4) hx hb dX6_plantSum_22 (by decide) ?_
        exact ihL_4 (x_2 + 1) (x_3 + (v0.2 0 x_2.toNatClampNeg)) _ _ _ (lv_sub hl [0, 1, 2] rfl) hP hD hS hf
  exact loL_4 FU 0 0 _ _ _ hl hP hD hS hf

def f_X13_in (a0 : Int32) (a1 : Int32) (a2 : Int32) : Option Int32 :=
  if a0 < a1 then
    some 0
  else
    if a2 < a0 then
      some 0
    else
      some 1
abbrev rm_X13_in : Room := { frames := 0, cells := 0, slots := 0, locals := 0 }
set_option maxHeartbeats 4000000 in
set_option maxRecDepth 100000 in
theorem c_X13_in (l : Launch) (D : va_G) (G : Nat → ClassId) (a0 : Int32) (a1 : Int32) (a2 : Int32) (r : Int32) (hf : f_X13_in a0 a1 a2 = some r) (sz : Nat) : mC l yX13_in wsX13_in rm_X13_in D (tyG G) [.int a0, .int a1, .int a2] ([] : va_W) ([] : va_W) sz (some (.int r)) 0 0 := by
  refine mC_ofZ (cc := cX13_in) (maxL := 3) (ret := (some .boolean)) (by decide) rfl rfl (by decide) ?_
  intro p e s m args below meth c Q0 hx hb hml hts hown hN hK A hD hA hE hP hS ls hl
  have hl : lv_has ls 3 [(0, .int a0), (1, .int a1), (2, .int a2)] := hl
  unfold f_X13_in at hf
  refine lv_iload_n hx hb dX13_in_0 rfl (lv_at hl 0 rfl) ?_
  refine lv_iload_n hx hb dX13_in_1 rfl (lv_at hl 1 rfl) ?_
  refine lv_icmp_lt (tgt := 14) hx hb dX13_in_2 (by decide) (fun cc => ?_) (fun cc => ?_)
  · replace hf := ifT cc hf
    refine lv_iconst (v := 0) hx hb dX13_in_14 (by decide) ?_
    obtain rfl := re1 hf
    exact hE (.inl rfl) hP hD hS dX13_in_15
  · replace hf := ifF cc hf
    refine lv_iload_n hx hb dX13_in_5 rfl (lv_at hl 0 rfl) ?_
    refine lv_iload_n hx hb dX13_in_6 rfl (lv_at hl 2 rfl) ?_
    refine lv_icmp_gt (tgt := 14) hx hb dX13_in_7 (by decide) (fun cc => ?_) (fun cc => ?_)
    · replace hf := ifT cc hf
      refine lv_iconst (v := 0) hx hb dX13_in_14 (by decide) ?_
      obtain rfl := re1 hf
      exact hE (.inl rfl) hP hD hS dX13_in_15
    · replace hf := ifF cc hf
      refine lv_iconst (v := 1) hx hb dX13_in_10 (by decide) ?_
      refine lv_goto (tgt := 15) hx hb dX13_in_11 (by decide) ?_
      obtain rfl := re1 hf
      exact hE (.inr rfl) hP hD hS dX13_in_15

def f_X11_note (a1 : Int32) (a2 : Int32) (v0 : SV) : Option (Int32 × SV) :=
  some ((-3), (pF (pF (pF (pF v0 0 a1) 1 a2) 2 (-4)) 3 (-4)))
abbrev rm_X11_note : Room := { frames := 0, cells := 0, slots := 0, locals := 0 }
set_option maxHeartbeats 4000000 in
set_option maxRecDepth 100000 in
theorem c_X11_note (l : Launch) (D : va_G) (G : Nat → ClassId) (q0 : Nat → Nat) (a1 : Int32) (a2 : Int32) (v0 : SV) (r : Int32) (v0' : SV) (hf : f_X11_note a1 a2 v0 = some (r, v0')) (sz : Nat) : mC l yX11_note wsX11_note rm_X11_note D (tyG G) [.ref (q0 0), .int a1, .int a2] (kRef G q0 v0) (kRef G q0 v0') sz (some (.int r)) 0 0 := by
  refine mC_ofI (cc := cX11_note) (maxL := 3) (ret := (some .int)) (by decide) rfl rfl (by decide) ?_
  intro p e s m args below meth c Q0 hx hb hml hts hown hN hK A hD hA hE hP hS ls hl
  have hl : lv_has ls 3 [(0, .ref (q0 0)), (1, .int a1), (2, .int a2)] := hl
  unfold f_X11_note at hf
  have hi9 : ∀ w ∈ u_ws RX11 TX11 4, w ∈ wsX11_note := by decide +kernel
  have hw1 := hts (.fieldLink RX11 9 "BalconyCensus$Refusal" "reason" "I") (by decide +kernel)
  have hw2 := hts (.fieldLink RX11 15 "BalconyCensus$Refusal" "detail" "I") (by decide +kernel)
  have hw3 := hts (.fieldLink RX11 18 "BalconyCensus$Refusal" "reasonBehind" "I") (by decide +kernel)
  have hw4 := hts (.fieldLink RX11 21 "BalconyCensus$Refusal" "detailBehind" "I") (by decide +kernel)
  refine lv_aload_n hx hb dX11_note_0 rfl (lv_at hl 0 rfl) ?_
  refine lv_iload_n hx hb dX11_note_1 rfl (lv_at hl 1 rfl) ?_
  refine va_put (D := D) (ci := 9) (v := .int a1) (ty := .int) (C := RX11) (T := TX11) (N := 4) hx hb hts hi9 tyX11 tyX11_ok nmX11 hown hK hP hD hS 0 rfl rfl 0 (by decide) hw1 (fun _ h9 => h9) rfl (by decide +kernel) rfl rfl (Nat.le_of_ble_eq_true rfl) dX11_note_2 (fun H locs hP hD hS => ?_)
  have hP : va_P D vwCl (kRef G q0 (pF v0 0 a1)) H := hP
  have hD : va_D A (kRef G q0 (pF v0 0 a1)) := hD
  refine lv_aload_n hx hb dX11_note_5 rfl (lv_at hl 0 rfl) ?_
  refine lv_iload_n hx hb dX11_note_6 rfl (lv_at hl 2 rfl) ?_
  refine va_put (D := D) (ci := 9) (v := .int a2) (ty := .int) (C := RX11) (T := TX11) (N := 4) hx hb hts hi9 tyX11 tyX11_ok nmX11 hown hK hP hD hS 0 rfl rfl 1 (by decide) hw2 (fun _ h9 => h9) rfl (by decide +kernel) rfl rfl (Nat.le_of_ble_eq_true rfl) dX11_note_7 (fun H locs hP hD hS => ?_)
  have hP : va_P D vwCl (kRef G q0 (pF (pF v0 0 a1) 1 a2)) H := hP
  have hD : va_D A (kRef G q0 (pF (pF v0 0 a1) 1 a2)) := hD
  refine lv_aload_n hx hb dX11_note_10 rfl (lv_at hl 0 rfl) ?_
  refine lv_bipush (v := (-4)) hx hb dX11_note_11 (by decide) ?_
  refine va_put (D := D) (ci := 9) (v := .int (-4)) (ty := .int) (C := RX11) (T := TX11) (N := 4) hx hb hts hi9 tyX11 tyX11_ok nmX11 hown hK hP hD hS 0 rfl rfl 2 (by decide) hw3 (fun _ h9 => h9) rfl (by decide +kernel) rfl rfl (Nat.le_of_ble_eq_true rfl) dX11_note_13 (fun H locs hP hD hS => ?_)
  have hP : va_P D vwCl (kRef G q0 (pF (pF (pF v0 0 a1) 1 a2) 2 (-4))) H := hP
  have hD : va_D A (kRef G q0 (pF (pF (pF v0 0 a1) 1 a2) 2 (-4))) := hD
  refine lv_aload_n hx hb dX11_note_16 rfl (lv_at hl 0 rfl) ?_
  refine lv_bipush (v := (-4)) hx hb dX11_note_17 (by decide) ?_
  refine va_put (D := D) (ci := 9) (v := .int (-4)) (ty := .int) (C := RX11) (T := TX11) (N := 4) hx hb hts hi9 tyX11 tyX11_ok nmX11 hown hK hP hD hS 0 rfl rfl 3 (by decide) hw4 (fun _ h9 => h9) rfl (by decide +kernel) rfl rfl (Nat.le_of_ble_eq_true rfl) dX11_note_19 (fun H locs hP hD hS => ?_)
  have hP : va_P D vwCl (kRef G q0 (pF (pF (pF (pF v0 0 a1) 1 a2) 2 (-4)) 3 (-4))) H := hP
  have hD : va_D A (kRef G q0 (pF (pF (pF (pF v0 0 a1) 1 a2) 2 (-4)) 3 (-4))) := hD
  refine lv_bipush (v := (-3)) hx hb dX11_note_22 (by decide) ?_
  obtain ⟨rfl, rfl⟩ := re2 hf
  exact hE hP hD hS dX11_note_24

def f_X6_isFeud (a1 : Int32) (a2 : Int32) (v0 : SV) : Option Int32 :=
  if a1 = a2 then
    some 0
  else
    if (a1 - a1 / 4 * 4) = (a2 - a2 / 4 * 4) then
      ckI (if a1 < a2 then a2 else a1) 12 <|
      ckI (if a2 < a1 then a2 else a1) 12 <|
      if (v0.2 0 (if a1 < a2 then a2 else a1).toNatClampNeg) ≤ (v0.2 1 (if a2 < a1 then a2 else a1).toNatClampNeg) then
        some 0
      else
        bd1 (f_X7_between (if a2 < a1 then a2 else a1) (if a1 < a2 then a2 else a1) v0) fun r_1 =>
        if 0 ≤ r_1 then
          some 0
        else
          some 1
    else
      some 0
abbrev rm_X6_isFeud : Room := { frames := 1, cells := 0, slots := 0, locals := 25 }
set_option maxHeartbeats 4000000 in
set_option maxRecDepth 100000 in
theorem c_X6_isFeud (l : Launch) (D : va_G) (G : Nat → ClassId) (q0 : Nat → Nat) (a1 : Int32) (a2 : Int32) (v0 : SV) (r : Int32) (hf : f_X6_isFeud a1 a2 v0 = some r) (sz : Nat) : mC l yX6_isFeud wsX6_isFeud rm_X6_isFeud D (tyG G) [.ref (q0 0), .int a1, .int a2] (kHouse G q0 v0) (kHouse G q0 v0) sz (some (.int r)) 0 0 := by
  refine mC_ofZ (cc := cX6_isFeud) (maxL := 5) (ret := (some .boolean)) (by decide) rfl rfl (by decide) ?_
  intro p e s m args below meth c Q0 hx hb hml hts hown hN hK A hD hA hE hP hS ls hl
  have hl : lv_has ls 5 [(0, .ref (q0 0)), (1, .int a1), (2, .int a2)] := hl
  unfold f_X6_isFeud at hf
  have hi4 : ∀ w ∈ u_ws RX6 TX6 10, w ∈ wsX6_isFeud := by decide +kernel
  have hw1 := hts (.methodLink RX6 112 Lib.Math.max.name) (by decide +kernel)
  have hw2 := hts (.static Lib.Math.max.name) (by decide +kernel)
  have hw3 := hts (.initialized "java/lang/Math") (by decide +kernel)
  have hw4 := hts (.code Lib.Math.max.name Lib.Math.max.code 2 (some .int)) (by decide +kernel)
  have hw5 := hts (.methodLink RX6 143 Lib.Math.min.name) (by decide +kernel)
  have hw6 := hts (.static Lib.Math.min.name) (by decide +kernel)
  have hw7 := hts (.code Lib.Math.min.name Lib.Math.min.code 2 (some .int)) (by decide +kernel)
  have hw8 := hts (.fieldLink RX6 9 "BalconyCensus$House" "plants" "[I") (by decide +kernel)
  have hw9 := hts (.fieldLink RX6 15 "BalconyCensus$House" "tolerances" "[I") (by decide +kernel)
  have hw10 := hts (.fieldLink RX6 21 "BalconyCensus$House" "lines" "LBalconyCensus$Lines;") (by decide +kernel)
  refine lv_iload_n hx hb dX6_isFeud_0 rfl (lv_at hl 1 rfl) ?_
  refine lv_iload_n hx hb dX6_isFeud_1 rfl (lv_at hl 2 rfl) ?_
  refine lv_icmp_eq (tgt := 14) hx hb dX6_isFeud_2 (by decide) (fun cc => ?_) (fun cc => ?_)
  · replace hf := ifT cc hf
    refine lv_iconst (v := 0) hx hb dX6_isFeud_14 (by decide) ?_
    obtain rfl := re1 hf
    exact hE (.inl rfl) hP hD hS dX6_isFeud_15
  · replace hf := ifF cc hf
    refine lv_iload_n hx hb dX6_isFeud_5 rfl (lv_at hl 1 rfl) ?_
    refine lv_iconst (v := 4) hx hb dX6_isFeud_6 (by decide) ?_
    refine lv_irem hx hb dX6_isFeud_7 (by decide) ?_
    refine lv_iload_n hx hb dX6_isFeud_8 rfl (lv_at hl 2 rfl) ?_
    refine lv_iconst (v := 4) hx hb dX6_isFeud_9 (by decide) ?_
    refine lv_irem hx hb dX6_isFeud_10 (by decide) ?_
    refine lv_icmp_eq (tgt := 16) hx hb dX6_isFeud_11 (by decide) (fun cc => ?_) (fun cc => ?_)
    · replace hf := ifT cc hf
      refine lv_iload_n hx hb dX6_isFeud_16 rfl (lv_at hl 1 rfl) ?_
      refine lv_iload_n hx hb dX6_isFeud_17 rfl (lv_at hl 2 rfl) ?_
      refine va_mmax hx hb (hml.trans hl.1.symm) hown hw1 hw2 hw3 hw4 (Nat.le_of_ble_eq_true rfl) (Nat.le_of_ble_eq_true rfl) (Nat.zero_le _) (Nat.zero_le _) dX6_isFeud_18 ?_
      refine lv_istore_n (lv' := [(3, .int (if a1 < a2 then a2 else a1)), (0, .ref (q0 0)), (1, .int a1), (2, .int a2)]) hx hb dX6_isFeud_21 rfl hl (by decide) rfl (fun ls hl => ?_)
      refine lv_iload_n hx hb dX6_isFeud_22 rfl (lv_at hl 2 rfl) ?_
      refine lv_iload_n hx hb dX6_isFeud_23 rfl (lv_at hl 3 rfl) ?_
      refine va_mmin hx hb (hml.trans hl.1.symm) hown hw5 hw6 hw3 hw7 (Nat.le_of_ble_eq_true rfl) (Nat.le_of_ble_eq_true rfl) (Nat.zero_le _) (Nat.zero_le _) dX6_isFeud_24 ?_
      refine lv_istore (lv' := [(4, .int (if a2 < a1 then a2 else a1)), (3, .int (if a1 < a2 then a2 else a1)), (0, .ref (q0 0)), (1, .int a1), (2, .int a2)]) hx hb dX6_isFeud_27 hl (by decide) rfl (fun ls hl => ?_)
      refine lv_aload_n hx hb dX6_isFeud_29 rfl (lv_at hl 2 rfl) ?_
      refine va_get (D := D) (ci := 4) (v := .ref (q0 1)) (C := RX6) (T := TX6) (N := 10) hx hb hts hi4 hown hK hP 0 rfl rfl 0 (by decide) hw8 (fun _ h9 => h9) rfl dX6_isFeud_30 ?_
      refine lv_iload_n hx hb dX6_isFeud_33 rfl (lv_at hl 1 rfl) ?_
      obtain ⟨hin, hf⟩ := ckI_of hf
      refine va_iald (D := D) hx hb hK hP 1 0 rfl rfl hin dX6_isFeud_34 ?_
      refine lv_aload_n hx hb dX6_isFeud_35 rfl (lv_at hl 2 rfl) ?_
      refine va_get (D := D) (ci := 4) (v := .ref (q0 2)) (C := RX6) (T := TX6) (N := 10) hx hb hts hi4 hown hK hP 0 rfl rfl 1 (by decide) hw9 (fun _ h9 => h9) rfl dX6_isFeud_36 ?_
      refine lv_iload hx hb dX6_isFeud_39 (lv_at hl 0 rfl) ?_
      obtain ⟨hin, hf⟩ := ckI_of hf
      refine va_iald (D := D) hx hb hK hP 2 0 rfl rfl hin dX6_isFeud_41 ?_
      refine lv_icmp_le (tgt := 62) hx hb dX6_isFeud_42 (by decide) (fun cc => ?_) (fun cc => ?_)
      · replace hf := ifT cc hf
        refine lv_iconst (v := 0) hx hb dX6_isFeud_62 (by decide) ?_
        obtain rfl := re1 hf
        exact hE (.inl rfl) hP hD hS dX6_isFeud_63
      · replace hf := ifF cc hf
        refine lv_aload_n hx hb dX6_isFeud_45 rfl (lv_at hl 2 rfl) ?_
        refine va_get (D := D) (ci := 4) (v := .ref (q0 3)) (C := RX6) (T := TX6) (N := 10) hx hb hts hi4 hown hK hP 0 rfl rfl 2 (by decide) hw10 (fun _ h9 => h9) rfl dX6_isFeud_46 ?_
        refine lv_iload hx hb dX6_isFeud_49 (lv_at hl 0 rfl) ?_
        refine lv_iload_n hx hb dX6_isFeud_51 rfl (lv_at hl 1 rfl) ?_
        obtain ⟨r_1, hc, hf⟩ := bd1_of hf
        refine k_V (As := [.int (if a2 < a1 then a2 else a1), .int (if a1 < a2 then a2 else a1)]) (rest := []) (ws1 := (kHouse G q0 v0)) ⟨hx, hb, hml, hown, hts⟩ (c_X7_between l D G q0 (if a2 < a1 then a2 else a1) (if a1 < a2 then a2 else a1) v0 _ hc _) (cwV _ hts gX6_isFeud_X7_between rfl rfl rfl (by decide +kernel) ⟨Nat.le_of_ble_eq_true rfl, Nat.le_of_ble_eq_true rfl⟩) hl.1 (Nat.le_of_ble_eq_true rfl) dX6_isFeud_52 ⟨Nat.le_of_ble_eq_true rfl, Nat.le_of_ble_eq_true rfl⟩ rfl hN hK hP hD hS hA 3 5 rfl rfl rfl [3, 4, 5, 6] [0, 1, 2, 7, 8, 9, 10, 11, 12, 13, 14] [0, 1, 2, 11, 12, 13, 14, 3, 4, 5, 6, 7, 8, 9, 10] [0, 1, 2, 3] rfl rfl rfl ⟨by decide, by decide, by decide, by decide⟩ rfl (fun H locs hP hD hS => ?_)
        refine lv_if_ge (tgt := 62) hx hb dX6_isFeud_55 (by decide) (fun cc => ?_) (fun cc => ?_)
        · replace hf := ifT cc hf
          refine lv_iconst (v := 0) hx hb dX6_isFeud_62 (by decide) ?_
          obtain rfl := re1 hf
          exact hE (.inl rfl) hP hD hS dX6_isFeud_63
        · replace hf := ifF cc hf
          refine lv_iconst (v := 1) hx hb dX6_isFeud_58 (by decide) ?_
          refine lv_goto (tgt := 63) hx hb dX6_isFeud_59 (by decide) ?_
          obtain rfl := re1 hf
          exact hE (.inr rfl) hP hD hS dX6_isFeud_63
    · replace hf := ifF cc hf
      refine lv_iconst (v := 0) hx hb dX6_isFeud_14 (by decide) ?_
      obtain rfl := re1 hf
      exact hE (.inl rfl) hP hD hS dX6_isFeud_15

def f_X6_putPlants (a1 : Int32) (a2 : Int32) (v0 : SV) (v1 : SV) : Option (Int32 × SV × SV) :=
  bd1 (f_X12_isBalcony a1) fun r_1 =>
  if r_1 = 0 then
    some ((-1), v0, v1)
  else
    if a2 < 1 then
      some ((-2), v0, v1)
    else
      if a2 ≤ 9 then
        ckI a1 12 <|
        if ((v0.2 0 a1.toNatClampNeg) + a2) ≤ 9 then
          ckI a1 12 <|
          ckI a1 12 <|
          ckI a1 12 <|
          some (((pF (pA v0 0 a1 ((v0.2 0 a1.toNatClampNeg) + a2)) 2 (((pA v0 0 a1 ((v0.2 0 a1.toNatClampNeg) + a2)).1 2) + a2)).2 0 a1.toNatClampNeg), (pF (pA v0 0 a1 ((v0.2 0 a1.toNatClampNeg) + a2)) 2 (((pA v0 0 a1 ((v0.2 0 a1.toNatClampNeg) + a2)).1 2) + a2)), v1)
        else
          ckI a1 12 <|
          bd2 (f_X11_note 4 (v0.2 0 a1.toNatClampNeg) v1) fun r_2 w_3 =>
          some (r_2, v0, w_3)
      else
        some ((-2), v0, v1)
abbrev rm_X6_putPlants : Room := { frames := 1, cells := 0, slots := 0, locals := 22 }
set_option maxHeartbeats 4000000 in
set_option maxRecDepth 100000 in
theorem c_X6_putPlants (l : Launch) (D : va_G) (G : Nat → ClassId) (q0 : Nat → Nat) (q1 : Nat → Nat) (a1 : Int32) (a2 : Int32) (v0 : SV) (v1 : SV) (r : Int32) (v0' : SV) (v1' : SV) (hf : f_X6_putPlants a1 a2 v0 v1 = some (r, v0', v1')) (sz : Nat) : mC l yX6_putPlants wsX6_putPlants rm_X6_putPlants D (tyG G) [.ref (q0 0), .int a1, .int a2, .ref (q1 0)] (kHouse G q0 v0 ++ kRef G q1 v1) (kHouse G q0 v0' ++ kRef G q1 v1') sz (some (.int r)) 0 0 := by
  refine mC_ofI (cc := cX6_putPlants) (maxL := 4) (ret := (some .int)) (by decide) rfl rfl (by decide) ?_
  intro p e s m args below meth c Q0 hx hb hml hts hown hN hK A hD hA hE hP hS ls hl
  have hl : lv_has ls 4 [(0, .ref (q0 0)), (1, .int a1), (2, .int a2), (3, .ref (q1 0))] := hl
  unfold f_X6_putPlants at hf
  have hi4 : ∀ w ∈ u_ws RX6 TX6 10, w ∈ wsX6_putPlants := by decide +kernel
  have hw1 := hts (.static yX12_isBalcony) (by decide +kernel)
  have hw2 := hts (.initialized RX12) (by decide +kernel)
  have hw3 := hts (.fieldLink RX6 9 "BalconyCensus$House" "plants" "[I") (by decide +kernel)
  have hw4 := hts (.fieldLink RX6 60 "BalconyCensus$House" "plantsPut" "I") (by decide +kernel)
  refine lv_iload_n hx hb dX6_putPlants_0 rfl (lv_at hl 1 rfl) ?_
  obtain ⟨r_1, hc, hf⟩ := bd1_of hf
  refine k_SN (As := [.int a1]) (rest := []) (host := "BalconyCensus") (ws1 := (kHouse G q0 v0 ++ kRef G q1 v1)) ⟨hx, hb, hml, hown, hts⟩ (c_X12_isBalcony l D G  a1  _ hc _) ⟨va_cnB _ hts gX6_putPlants_X12_isBalcony_n82 rfl rfl rfl (hN (RX6, 82, yX12_isBalcony) (by decide +kernel)) hw2 (by decide +kernel) ⟨Nat.le_of_ble_eq_true rfl, Nat.le_of_ble_eq_true rfl⟩, hw1, trivial⟩ hl.1 (Nat.le_of_ble_eq_true rfl) dX6_putPlants_1 ⟨Nat.le_of_ble_eq_true rfl, Nat.le_of_ble_eq_true rfl⟩ rfl hN hK hP hD hS hA [] [0, 1, 2, 3, 4, 5, 6, 7, 8, 9, 10, 11, 12, 13, 14, 15] [0, 1, 2, 3, 4, 5, 6, 7, 8, 9, 10, 11, 12, 13, 14, 15] [0, 1, 2, 3] rfl rfl rfl ⟨by decide, by decide, by decide, by decide⟩ rfl (fun H locs hP hD hS => ?_)
  refine lv_if_ne (tgt := 9) hx hb dX6_putPlants_4 (by decide) (fun cc => ?_) (fun cc => ?_)
  · replace hf := ifF cc hf
    refine lv_iload_n hx hb dX6_putPlants_9 rfl (lv_at hl 2 rfl) ?_
    refine lv_iconst (v := 1) hx hb dX6_putPlants_10 (by decide) ?_
    refine lv_icmp_lt (tgt := 20) hx hb dX6_putPlants_11 (by decide) (fun cc => ?_) (fun cc => ?_)
    · replace hf := ifT cc hf
      refine lv_bipush (v := (-2)) hx hb dX6_putPlants_20 (by decide) ?_
      obtain ⟨rfl, rfl, rfl⟩ := re3 hf
      exact hE hP hD hS dX6_putPlants_22
    · replace hf := ifF cc hf
      refine lv_iload_n hx hb dX6_putPlants_14 rfl (lv_at hl 2 rfl) ?_
      refine lv_bipush (v := 9) hx hb dX6_putPlants_15 (by decide) ?_
      refine lv_icmp_le (tgt := 23) hx hb dX6_putPlants_17 (by decide) (fun cc => ?_) (fun cc => ?_)
      · replace hf := ifT cc hf
        refine lv_aload_n hx hb dX6_putPlants_23 rfl (lv_at hl 0 rfl) ?_
        refine va_get (D := D) (ci := 4) (v := .ref (q0 1)) (C := RX6) (T := TX6) (N := 10) hx hb hts hi4 hown hK hP 0 rfl rfl 0 (by decide) hw3 (fun _ h9 => h9) rfl dX6_putPlants_24 ?_
        refine lv_iload_n hx hb dX6_putPlants_27 rfl (lv_at hl 1 rfl) ?_
        obtain ⟨hin, hf⟩ := ckI_of hf
        refine va_iald (D := D) hx hb hK hP 1 0 rfl rfl hin dX6_putPlants_28 ?_
        refine lv_iload_n hx hb dX6_putPlants_29 rfl (lv_at hl 2 rfl) ?_
        refine lv_iadd hx hb dX6_putPlants_30 ?_
        refine lv_bipush (v := 9) hx hb dX6_putPlants_31 (by decide) ?_
        refine lv_icmp_le (tgt := 48) hx hb dX6_putPlants_33 (by decide) (fun cc => ?_) (fun cc => ?_)
        · replace hf := ifT cc hf
          refine lv_aload_n hx hb dX6_putPlants_48 rfl (lv_at hl 0 rfl) ?_
          refine va_get (D := D) (ci := 4) (v := .ref (q0 1)) (C := RX6) (T := TX6) (N := 10) hx hb hts hi4 hown hK hP 0 rfl rfl 0 (by decide) hw3 (fun _ h9 => h9) rfl dX6_putPlants_49 ?_
          refine lv_iload_n hx hb dX6_putPlants_52 rfl (lv_at hl 1 rfl) ?_
          refine lv_dup2_11 hx hb dX6_putPlants_53 rfl rfl ?_
          obtain ⟨hin, hf⟩ := ckI_of hf
          refine va_iald (D := D) hx hb hK hP 1 0 rfl rfl hin dX6_putPlants_54 ?_
          refine lv_iload_n hx hb dX6_putPlants_55 rfl (lv_at hl 2 rfl) ?_
          refine lv_iadd hx hb dX6_putPlants_56 ?_
          obtain ⟨hin, hf⟩ := ckI_of hf
          refine va_iast (D := D) hx hb hK hP hD hS 1 0 rfl rfl hin dX6_putPlants_57 (fun H locs hP hD hS => ?_)
          have hP : va_P D vwCl (kHouse G q0 (pA v0 0 a1 ((v0.2 0 a1.toNatClampNeg) + a2)) ++ kRef G q1 v1) H := hP
          have hD : va_D A (kHouse G q0 (pA v0 0 a1 ((v0.2 0 a1.toNatClampNeg) + a2)) ++ kRef G q1 v1) := hD
          refine lv_aload_n hx hb dX6_putPlants_58 rfl (lv_at hl 0 rfl) ?_
          refine lv_dup hx hb dX6_putPlants_59 rfl ?_
          refine va_get (D := D) (ci := 4) (v := .int ((pA v0 0 a1 ((v0.2 0 a1.toNatClampNeg) + a2)).1 2)) (C := RX6) (T := TX6) (N := 10) hx hb hts hi4 hown hK hP 0 rfl rfl 8 (by decide) hw4 (fun _ h9 => h9) rfl dX6_putPlants_60 ?_
          refine lv_iload_n hx hb dX6_putPlants_63 rfl (lv_at hl 2 rfl) ?_
          refine lv_iadd hx hb dX6_putPlants_64 ?_
          refine va_put (D := D) (ci := 4) (v := .int (((pA v0 0 a1 ((v0.2 0 a1.toNatClampNeg) + a2)).1 2) + a2)) (ty := .int) (C := RX6) (T := TX6) (N := 10) hx hb hts hi4 tyX6 tyX6_ok nmX6 hown hK hP hD hS 0 rfl rfl 8 (by decide) hw4 (fun _ h9 => h9) rfl (by decide +kernel) rfl rfl (Nat.le_of_ble_eq_true rfl) dX6_putPlants_65 (fun H locs hP hD hS => ?_)
          have hP : va_P D vwCl (kHouse G q0 (pF (pA v0 0 a1 ((v0.2 0 a1.toNatClampNeg) + a2)) 2 (((pA v0 0 a1 ((v0.2 0 a1.toNatClampNeg) + a2)).1 2) + a2)) ++ kRef G q1 v1) H := hP
          have hD : va_D A (kHouse G q0 (pF (pA v0 0 a1 ((v0.2 0 a1.toNatClampNeg) + a2)) 2 (((pA v0 0 a1 ((v0.2 0 a1.toNatClampNeg) + a2)).1 2) + a2)) ++ kRef G q1 v1) := hD
          refine lv_aload_n hx hb dX6_putPlants_68 rfl (lv_at hl 0 rfl) ?_
          refine va_get (D := D) (ci := 4) (v := .ref (q0 1)) (C := RX6) (T := TX6) (N := 10) hx hb hts hi4 hown hK hP 0 rfl rfl 0 (by decide) hw3 (fun _ h9 => h9) rfl dX6_putPlants_69 ?_
          refine lv_iload_n hx hb dX6_putPlants_72 rfl (lv_at hl 1 rfl) ?_
          obtain ⟨hin, hf⟩ := ckI_of hf
          refine va_iald (D := D) hx hb hK hP 1 0 rfl rfl hin dX6_putPlants_73 ?_
          obtain ⟨rfl, rfl, rfl⟩ := re3 hf
          exact hE hP hD hS dX6_putPlants_74
        · replace hf := ifF cc hf
          refine lv_aload_n hx hb dX6_putPlants_36 rfl (lv_at hl 3 rfl) ?_
          refine lv_iconst (v := 4) hx hb dX6_putPlants_37 (by decide) ?_
          refine lv_aload_n hx hb dX6_putPlants_38 rfl (lv_at hl 0 rfl) ?_
          refine va_get (D := D) (ci := 4) (v := .ref (q0 1)) (C := RX6) (T := TX6) (N := 10) hx hb hts hi4 hown hK hP 0 rfl rfl 0 (by decide) hw3 (fun _ h9 => h9) rfl dX6_putPlants_39 ?_
          refine lv_iload_n hx hb dX6_putPlants_42 rfl (lv_at hl 1 rfl) ?_
          obtain ⟨hin, hf⟩ := ckI_of hf
          refine va_iald (D := D) hx hb hK hP 1 0 rfl rfl hin dX6_putPlants_43 ?_
          obtain ⟨r_2, w_3, hc, hf⟩ := bd2_of hf
          refine k_V (As := [.int 4, .int (v0.2 0 a1.toNatClampNeg)]) (rest := []) (ws1 := (kHouse G q0 v0 ++ kRef G q1 w_3)) ⟨hx, hb, hml, hown, hts⟩ (c_X11_note l D G q1 4 (v0.2 0 a1.toNatClampNeg) v1 _ _ hc _) (cwV _ hts gX6_putPlants_X11_note rfl rfl rfl (by decide +kernel) ⟨Nat.le_of_ble_eq_true rfl, Nat.le_of_ble_eq_true rfl⟩) hl.1 (Nat.le_of_ble_eq_true rfl) dX6_putPlants_44 ⟨Nat.le_of_ble_eq_true rfl, Nat.le_of_ble_eq_true rfl⟩ rfl hN hK hP hD hS hA 15 9 rfl rfl rfl [15] [0, 1, 2, 3, 4, 5, 6, 7, 8, 9, 10, 11, 12, 13, 14] [0, 1, 2, 3, 4, 5, 6, 7, 8, 9, 10, 11, 12, 13, 14, 15] [0, 1, 2, 3] rfl rfl rfl ⟨by decide, by decide, by decide, by decide⟩ rfl (fun H locs hP hD hS => ?_)
          obtain ⟨rfl, rfl, rfl⟩ := re3 hf
          exact hE hP hD hS dX6_putPlants_47
      · replace hf := ifF cc hf
        refine lv_bipush (v := (-2)) hx hb dX6_putPlants_20 (by decide) ?_
        obtain ⟨rfl, rfl, rfl⟩ := re3 hf
        exact hE hP hD hS dX6_putPlants_22
  · replace hf := ifT cc hf
    refine lv_iconst (v := (-1)) hx hb dX6_putPlants_7 (by decide) ?_
    obtain ⟨rfl, rfl, rfl⟩ := re3 hf
    exact hE hP hD hS dX6_putPlants_8

def f_X7_passDay_K4 (y_6 : Int32) (y_7 : Int32) (z_8 : SV) : Option SV :=
  some (pF z_8 4 y_7)
def f_X7_passDay_B4 (selfL_5 : (Int32 → Int32 → SV → Option SV)) (x_2 : Int32) (x_3 : Int32) (u_4 : SV) : Option SV :=
  if (u_4.1 4) ≤ x_2 then
    f_X7_passDay_K4 x_2 x_3 u_4
  else
    ckI x_2 6 <|
    if (u_4.2 4 x_2.toNatClampNeg) ≤ 1 then
      selfL_5 (x_2 + 1) x_3 u_4
    else
      ckI x_2 6 <|
      ckI x_3 6 <|
      ckI x_2 6 <|
      ckI x_3 6 <|
      ckI x_2 6 <|
      ckI x_3 6 <|
      selfL_5 (x_2 + 1) (x_3 + 1) (pA (pA (pA u_4 2 x_3 (u_4.2 2 x_2.toNatClampNeg)) 3 x_3 ((pA u_4 2 x_3 (u_4.2 2 x_2.toNatClampNeg)).2 3 x_2.toNatClampNeg)) 4 x_3 (((pA (pA u_4 2 x_3 (u_4.2 2 x_2.toNatClampNeg)) 3 x_3 ((pA u_4 2 x_3 (u_4.2 2 x_2.toNatClampNeg)).2 3 x_2.toNatClampNeg)).2 4 x_2.toNatClampNeg) - 1))
def f_X7_passDay (v0 : SV) : Option SV :=
  lp3 (f_X7_passDay_B4) FU 0 0 v0
abbrev rm_X7_passDay : Room := { frames := 0, cells := 0, slots := 0, locals := 0 }
set_option maxHeartbeats 4000000 in
set_option maxRecDepth 100000 in
theorem c_X7_passDay (l : Launch) (D : va_G) (G : Nat → ClassId) (q0 : Nat → Nat) (v0 : SV) (v0' : SV) (hf : f_X7_passDay v0 = some v0') (sz : Nat) : mC l yX7_passDay wsX7_passDay rm_X7_passDay D (tyG G) [.ref (q0 3)] (kLines G q0 v0) (kLines G q0 v0') sz none 0 0 := by
  refine mC_ofV (cc := cX7_passDay) (maxL := 3) (ret := none) (by decide) rfl rfl (by decide) ?_
  intro p e s m args below meth c Q0 hx hb hml hts hown hN hK A hD hA hE hP hS ls hl
  have hl : lv_has ls 3 [(0, .ref (q0 3))] := hl
  unfold f_X7_passDay at hf
  have hi5 : ∀ w ∈ u_ws RX7 TX7 5, w ∈ wsX7_passDay := by decide +kernel
  have hw1 := hts (.fieldLink RX7 21 "BalconyCensus$Lines" "count" "I") (by decide +kernel)
  have hw2 := hts (.fieldLink RX7 18 "BalconyCensus$Lines" "daysLeft" "[I") (by decide +kernel)
  have hw3 := hts (.fieldLink RX7 9 "BalconyCensus$Lines" "lower" "[I") (by decide +kernel)
  have hw4 := hts (.fieldLink RX7 15 "BalconyCensus$Lines" "higher" "[I") (by decide +kernel)
  refine lv_iconst (v := 0) hx hb dX7_passDay_0 (by decide) ?_
  refine lv_istore_n (lv' := [(1, .int 0), (0, .ref (q0 3))]) hx hb dX7_passDay_1 rfl hl (by decide) rfl (fun ls hl => ?_)
  refine lv_iconst (v := 0) hx hb dX7_passDay_2 (by decide) ?_
  refine lv_istore_n (lv' := [(2, .int 0), (1, .int 0), (0, .ref (q0 3))]) hx hb dX7_passDay_3 rfl hl (by decide) rfl (fun ls hl => ?_)
  have exL_5 : ∀ (y_6 : Int32) (y_7 : Int32) (z_8 : SV) (H : Heap) (locs : List Loc) (ls : Array Slot), lv_has ls 3 [(2, .int y_6), (1, .int y_7), (0, .ref (q0 3))] → va_P D vwCl (kLines G q0 z_8) H → va_D A (kLines G q0 z_8) → va_S A s.heap H locs → f_X7_passDay_K4 y_6 y_7 z_8 = some v0' → W p l e rm_X7_passDay s m args below meth c H locs 0 0 Q0 (F0 m 69 ls []) := by
    intro y_6 y_7 z_8 H locs ls hl hP hD hS hf
    unfold f_X7_passDay_K4 at hf
    refine lv_aload_n hx hb dX7_passDay_69 rfl (lv_at hl 2 rfl) ?_
    refine lv_iload_n hx hb dX7_passDay_70 rfl (lv_at hl 1 rfl) ?_
    refine va_put (D := D) (ci := 5) (v := .int y_7) (ty := .int) (C := RX7) (T := TX7) (N := 5) hx hb hts hi5 tyX7 tyX7_ok nmX7 hown hK hP hD hS 0 rfl rfl 3 (by decide) hw1 (fun _ h9 => h9) rfl (by decide +kernel) rfl rfl (Nat.le_of_ble_eq_true rfl) dX7_passDay_71 (fun H locs hP hD hS => ?_)
    have hP : va_P D vwCl (kLines G q0 (pF z_8 4 y_7)) H := hP
    have hD : va_D A (kLines G q0 (pF z_8 4 y_7)) := hD
    obtain rfl := re1 hf
    exact hE hP hD hS dX7_passDay_74
  have loL_5 : ∀ (n : Nat) (x_2 : Int32) (x_3 : Int32) (u_4 : SV) (H : Heap) (locs : List Loc) (ls : Array Slot), lv_has ls 3 [(2, .int x_2), (1, .int x_3), (0, .ref (q0 3))] → va_P D vwCl (kLines G q0 u_4) H → va_D A (kLines G q0 u_4) → va_S A s.heap H locs → lp3 (f_X7_passDay_B4) n x_2 x_3 u_4 = some v0' → W p l e rm_X7_passDay s m args below meth c H locs 0 0 Q0 (F0 m 4 ls []) := by
    intro n
    induction n with
    | zero => intro x_2 x_3 u_4 H locs ls hl hP hD hS hf; cases hf
    | succ n ihL_5 =>
      intro x_2 x_3 u_4 H locs ls hl hP hD hS hf
      replace hf := lp3_s hf
      unfold f_X7_passDay_B4 at hf
      refine lv_iload_n hx hb dX7_passDay_4 rfl (lv_at hl 0 rfl) ?_
      refine lv_aload_n hx hb dX7_passDay_5 rfl (lv_at hl 2 rfl) ?_
      refine va_get (D := D) (ci := 5) (v := .int (u_4.1 4)) (C := RX7) (T := TX7) (N := 5) hx hb hts hi5 hown hK hP 0 rfl rfl 3 (by decide) hw1 (fun _ h9 => h9) rfl dX7_passDay_6 ?_
      refine lv_icmp_ge (tgt := 69) hx hb dX7_passDay_9 (by decide) (fun cc => ?_) (fun cc => ?_)
      · replace hf := ifT cc hf
        exact exL_5 x_2 x_3 u_4 _ _ _ (lv_sub hl [0, 1, 2] rfl) hP hD hS hf
      · replace hf := ifF cc hf
        refine lv_aload_n hx hb dX7_passDay_12 rfl (lv_at hl 2 rfl) ?_
        refine va_get (D := D) (ci := 5) (v := .ref (q0 6)) (C := RX7) (T := TX7) (N := 5) hx hb hts hi5 hown hK hP 0 rfl rfl 2 (by decide) hw2 (fun _ h9 => h9) rfl dX7_passDay_13 ?_
        refine lv_iload_n hx hb dX7_passDay_16 rfl (lv_at hl 0 rfl) ?_
        obtain ⟨hin, hf⟩ := ckI_of hf
        refine va_iald (D := D) hx hb hK hP 3 0 rfl rfl hin dX7_passDay_17 ?_
        refine lv_iconst (v := 1) hx hb dX7_passDay_18 (by decide) ?_
        refine lv_icmp_le (tgt := 63) hx hb dX7_passDay_19 (by decide) (fun cc => ?_) (fun cc => ?_)
        · replace hf := ifT cc hf
          refine lv_iinc (v := (x_2 + 1)) (lv' := [(2, .int (x_2 + 1)), (1, .int x_3), (0, .ref (q0 3))]) hx hb dX7_passDay_63 hl (k := 0) rfl rfl (by decide) rfl (fun ls hl => ?_)
          refine lv_goto (tgt := 4) hx hb dX7_passDay_66 (by decide) ?_
          exact ihL_5 (x_2 + 1) x_3 u_4 _ _ _ (lv_sub hl [0, 1, 2] rfl) hP hD hS hf
        · replace hf := ifF cc hf
          refine lv_aload_n hx hb dX7_passDay_22 rfl (lv_at hl 2 rfl) ?_
          refine va_get (D := D) (ci := 5) (v := .ref (q0 4)) (C := RX7) (T := TX7) (N := 5) hx hb hts hi5 hown hK hP 0 rfl rfl 0 (by decide) hw3 (fun _ h9 => h9) rfl dX7_passDay_23 ?_
          refine lv_iload_n hx hb dX7_passDay_26 rfl (lv_at hl 1 rfl) ?_
          refine lv_aload_n hx hb dX7_passDay_27 rfl (lv_at hl 2 rfl) ?_
          refine va_get (D := D) (ci := 5) (v := .ref (q0 4)) (C := RX7) (T := TX7) (N := 5) hx hb hts hi5 hown hK hP 0 rfl rfl 0 (by decide) hw3 (fun _ h9 => h9) rfl dX7_passDay_28 ?_
          refine lv_iload_n hx hb dX7_passDay_31 rfl (lv_at hl 0 rfl) ?_
          obtain ⟨hin, hf⟩ := ckI_of hf
          refine va_iald (D := D) hx hb hK hP 1 0 rfl rfl hin dX7_passDay_32 ?_
          obtain ⟨hin, hf⟩ := ckI_of hf
          refine va_iast (D := D) hx hb hK hP hD hS 1 0 rfl rfl hin dX7_passDay_33 (fun H locs hP hD hS => ?_)
          have hP : va_P D vwCl (kLines G q0 (pA u_4 2 x_3 (u_4.2 2 x_2.toNatClampNeg))) H := hP
          have hD : va_D A (kLines G q0 (pA u_4 2 x_3 (u_4.2 2 x_2.toNatClampNeg))) := hD
          refine lv_aload_n hx hb dX7_passDay_34 rfl (lv_at hl 2 rfl) ?_
          refine va_get (D := D) (ci := 5) (v := .ref (q0 5)) (C := RX7) (T := TX7) (N := 5) hx hb hts hi5 hown hK hP 0 rfl rfl 1 (by decide) hw4 (fun _ h9 => h9) rfl dX7_passDay_35 ?_
          refine lv_iload_n hx hb dX7_passDay_38 rfl (lv_at hl 1 rfl) ?_
          refine lv_aload_n hx hb dX7_passDay_39 rfl (lv_at hl 2 rfl) ?_
          refine va_get (D := D) (ci := 5) (v := .ref (q0 5)) (C := RX7) (T := TX7) (N := 5) hx hb hts hi5 hown hK hP 0 rfl rfl 1 (by decide) hw4 (fun _ h9 => h9) rfl dX7_passDay_40 ?_
          refine lv_iload_n hx hb dX7_passDay_43 rfl (lv_at hl 0 rfl) ?_
          obtain ⟨hin, hf⟩ := ckI_of hf
          refine va_iald (D := D) hx hb hK hP 2 0 rfl rfl hin dX7_passDay_44 ?_
          obtain ⟨hin, hf⟩ := ckI_of hf
          refine va_iast (D := D) hx hb hK hP hD hS 2 0 rfl rfl hin dX7_passDay_45 (fun H locs hP hD hS => ?_)
          have hP : va_P D vwCl (kLines G q0 (pA (pA u_4 2 x_3 (u_4.2 2 x_2.toNatClampNeg)) 3 x_3 ((pA u_4 2 x_3 (u_4.2 2 x_2.toNatClampNeg)).2 3 x_2.toNatClampNeg))) H := hP
          have hD : va_D A (kLines G q0 (pA (pA u_4 2 x_3 (u_4.2 2 x_2.toNatClampNeg)) 3 x_3 ((pA u_4 2 x_3 (u_4.2 2 x_2.toNatClampNeg)).2 3 x_2.toNatClampNeg))) := hD
          refine lv_aload_n hx hb dX7_passDay_46 rfl (lv_at hl 2 rfl) ?_
          refine va_get (D := D) (ci := 5) (v := .ref (q0 6)) (C := RX7) (T := TX7) (N := 5) hx hb hts hi5 hown hK hP 0 rfl rfl 2 (by decide) hw2 (fun _ h9 => h9) rfl dX7_passDay_47 ?_
          refine lv_iload_n hx hb dX7_passDay_50 rfl (lv_at hl 1 rfl) ?_
          refine lv_aload_n hx hb dX7_passDay_51 rfl (lv_at hl 2 rfl) ?_
          refine va_get (D := D) (ci := 5) (v := .ref (q0 6)) (C := RX7) (T := TX7) (N := 5) hx hb hts hi5 hown hK hP 0 rfl rfl 2 (by decide) hw2 (fun _ h9 => h9) rfl dX7_passDay_52 ?_
          refine lv_iload_n hx hb dX7_passDay_55 rfl (lv_at hl 0 rfl) ?_
          obtain ⟨hin, hf⟩ := ckI_of hf
          refine va_iald (D := D) hx hb hK hP 3 0 rfl rfl hin dX7_passDay_56 ?_
          refine lv_iconst (v := 1) hx hb dX7_passDay_57 (by decide) ?_
          refine lv_isub hx hb dX7_passDay_58 ?_
          obtain ⟨hin, hf⟩ := ckI_of hf
          refine va_iast (D := D) hx hb hK hP hD hS 3 0 rfl rfl hin dX7_passDay_59 (fun H locs hP hD hS => ?_)
          have hP : va_P D vwCl (kLines G q0 (pA (pA (pA u_4 2 x_3 (u_4.2 2 x_2.toNatClampNeg)) 3 x_3 ((pA u_4 2 x_3 (u_4.2 2 x_2.toNatClampNeg)).2 3 x_2.toNatClampNeg)) 4 x_3 (((pA (pA u_4 2 x_3 (u_4.2 2 x_2.toNatClampNeg)) 3 x_3 ((pA u_4 2 x_3 (u_4.2 2 x_2.toNatClampNeg)).2 3 x_2.toNatClampNeg)).2 4 x_2.toNatClampNeg) - 1))) H := hP
          have hD : va_D A (kLines G q0 (pA (pA (pA u_4 2 x_3 (u_4.2 2 x_2.toNatClampNeg)) 3 x_3 ((pA u_4 2 x_3 (u_4.2 2 x_2.toNatClampNeg)).2 3 x_2.toNatClampNeg)) 4 x_3 (((pA (pA u_4 2 x_3 (u_4.2 2 x_2.toNatClampNeg)) 3 x_3 ((pA u_4 2 x_3 (u_4.2 2 x_2.toNatClampNeg)).2 3 x_2.toNatClampNeg)).2 4 x_2.toNatClampNeg) - 1))) := hD
          refine lv_iinc (v := (x_3 + 1)) (lv' := [(1, .int (x_3 + 1)), (2, .int x_2), (0, .ref (q0 3))]) hx hb dX7_passDay_60 hl (k := 1) rfl rfl (by decide) rfl (fun ls hl => ?_)
          refine lv_iinc (v := (x_2 + 1)) (lv' := [(2, .int (x_2 + 1)), (1, .int (x_3 + 1)), (0, .ref (q0 3))]) hx hb dX7_passDay_63 hl (k := 1) rfl rfl (by decide) rfl (fun ls hl => ?_)
          refine lv_goto (tgt := 4) hx hb dX7_passDay_66 (by decide) ?_
          exact ihL_5 (x_2 + 1) (x_3 + 1) (pA (pA (pA u_4 2 x_3 (u_4.2 2 x_2.toNatClampNeg)) 3 x_3 ((pA u_4 2 x_3 (u_4.2 2 x_2.toNatClampNeg)).2 3 x_2.toNatClampNeg)) 4 x_3 (((pA (pA u_4 2 x_3 (u_4.2 2 x_2.toNatClampNeg)) 3 x_3 ((pA u_4 2 x_3 (u_4.2 2 x_2.toNatClampNeg)).2 3 x_2.toNatClampNeg)).2 4 x_2.toNatClampNeg) - 1)) _ _ _ (lv_sub hl [0, 1, 2] rfl) hP hD hS hf
  exact loL_5 FU 0 0 v0 _ _ _ hl hP hD hS hf

