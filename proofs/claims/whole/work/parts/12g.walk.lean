/-! Walks, laid by wip/whole/gen.py: for each method f_ (what it does to its world) and c_ (its contract). -/
def f_X13_linesAt_K4 (y_9 : Int32) (y_10 : Int32) : Option Int32 :=
  some y_10
def f_X13_linesAt_B4 (v0 : SV) (a1 : Int32) (selfL_6 : (Int32 → Int32 → Option Int32)) (x_4 : Int32) (x_5 : Int32) : Option Int32 :=
  ckI 0 240 <|
  if (v0.2 0 (0 : Int32).toNatClampNeg) ≤ x_4 then
    f_X13_linesAt_K4 x_4 x_5
  else
    bd1 (f_X13_linePart x_4 0 v0) fun r_7 =>
    if r_7 = a1 then
      selfL_6 (x_4 + 1) (x_5 + 1)
    else
      bd1 (f_X13_linePart x_4 1 v0) fun r_8 =>
      if r_8 = a1 then
        selfL_6 (x_4 + 1) (x_5 + 1)
      else
        selfL_6 (x_4 + 1) (x_5 + 0)
def f_X13_linesAt (a1 : Int32) (v0 : SV) : Option Int32 :=
  lz2 (f_X13_linesAt_B4 v0 a1) FU 0 0
abbrev rm_X13_linesAt : Room := { frames := 1, cells := 0, slots := 0, locals := 22 }
set_option maxHeartbeats 4000000 in
set_option maxRecDepth 100000 in
theorem c_X13_linesAt (l : Launch) (D : va_G) (G : Nat → ClassId) (q0 : Nat → Nat) (a1 : Int32) (v0 : SV) (r : Int32) (hf : f_X13_linesAt a1 v0 = some r) (sz : Nat) : mC l yX13_linesAt wsX13_linesAt rm_X13_linesAt D (tyG G) kT [.ref (q0 0), .int a1] (kModel G q0 v0) (kModel G q0 v0) sz (some (.int r)) 0 0 := by
  refine mC_ofI (cc := cX13_linesAt) (maxL := 4) (ret := (some .int)) (by decide) rfl rfl (Nat.le_of_ble_eq_true rfl) ?_
  intro p e s m args below meth c Q0 hx hb hml hts hown hN hK A hD hA hE hP hS hJ ls hl
  have hl : lv_has ls 4 [(0, .ref (q0 0)), (1, .int a1)] := hl
  unfold f_X13_linesAt at hf
  have hi11 : ∀ w ∈ u_ws RX13 TX13 27, w ∈ wsX13_linesAt := by decide +kernel
  have hw1 := hts (.fieldLink RX13 7 "BalconyCensusModel" "now" "[I") (by decide +kernel)
  refine lv_iconst (v := 0) hx hb dX13_linesAt_0 (by decide) ?_
  refine lv_istore_n (lv' := [(2, .int 0), (0, .ref (q0 0)), (1, .int a1)]) hx hb dX13_linesAt_1 rfl hl (by decide) rfl (fun ls hl => ?_)
  refine lv_iconst (v := 0) hx hb dX13_linesAt_2 (by decide) ?_
  refine lv_istore_n (lv' := [(3, .int 0), (2, .int 0), (0, .ref (q0 0)), (1, .int a1)]) hx hb dX13_linesAt_3 rfl hl (by decide) rfl (fun ls hl => ?_)
  have exL_6 : ∀ (y_9 : Int32) (y_10 : Int32) (H : Heap) (locs : List Loc) (ls : Array Slot), lv_has ls 4 [(3, .int y_9), (2, .int y_10), (0, .ref (q0 0)), (1, .int a1)] → va_P D vwCl (kModel G q0 v0) H → va_D A (kModel G q0 v0) → va_S A s.heap H locs → f_X13_linesAt_K4 y_9 y_10 = some r → W p l e rm_X13_linesAt s m args below meth c H locs 0 0 Q0 (F0 m 48 ls []) := by
    intro y_9 y_10 H locs ls hl hP hD hS hf
    unfold f_X13_linesAt_K4 at hf
    refine lv_iload_n hx hb dX13_linesAt_48 rfl (lv_at hl 1 rfl) ?_
    obtain rfl := re1 hf
    exact hE hP hD hS dX13_linesAt_49
  have loL_6 : ∀ (n : Nat) (x_4 : Int32) (x_5 : Int32) (H : Heap) (locs : List Loc) (ls : Array Slot), lv_has ls 4 [(3, .int x_4), (2, .int x_5), (0, .ref (q0 0)), (1, .int a1)] → va_P D vwCl (kModel G q0 v0) H → va_D A (kModel G q0 v0) → va_S A s.heap H locs → lz2 (f_X13_linesAt_B4 v0 a1) n x_4 x_5 = some r → W p l e rm_X13_linesAt s m args below meth c H locs 0 0 Q0 (F0 m 4 ls []) := by
    intro n
    induction n with
    | zero => intro x_4 x_5 H locs ls hl hP hD hS hf; cases hf
    | succ n ihL_6 =>
      intro x_4 x_5 H locs ls hl hP hD hS hf
      replace hf := lz2_s hf
      unfold f_X13_linesAt_B4 at hf
      refine lv_iload_n hx hb dX13_linesAt_4 rfl (lv_at hl 0 rfl) ?_
      refine lv_aload_n hx hb dX13_linesAt_5 rfl (lv_at hl 2 rfl) ?_
      refine va_get (D := D) (ci := 11) (v := .ref (q0 1)) (C := RX13) (T := TX13) (N := 27) hx hb hts hi11 hown hK hP 0 rfl rfl 0 (by decide) hw1 (fun _ h9 => h9) rfl dX13_linesAt_6 ?_
      refine lv_iconst (v := 0) hx hb dX13_linesAt_9 (by decide) ?_
      obtain ⟨hin, hf⟩ := ckI_of hf
      refine va_iald (D := D) hx hb hK hP 1 0 rfl rfl hin dX13_linesAt_10 ?_
      refine lv_icmp_ge (tgt := 48) hx hb dX13_linesAt_11 (by decide) (fun cc => ?_) (fun cc => ?_)
      · replace hf := ifT cc hf
        exact exL_6 x_4 x_5 _ _ _ (lv_sub hl [0, 1, 2, 3] rfl) hP hD hS hf
      · replace hf := ifF cc hf
        refine lv_iload_n hx hb dX13_linesAt_14 rfl (lv_at hl 1 rfl) ?_
        refine lv_aload_n hx hb dX13_linesAt_15 rfl (lv_at hl 2 rfl) ?_
        refine lv_iload_n hx hb dX13_linesAt_16 rfl (lv_at hl 0 rfl) ?_
        refine lv_iconst (v := 0) hx hb dX13_linesAt_17 (by decide) ?_
        obtain ⟨r_7, hc, hf⟩ := bd1_of hf
        refine k_V (As := [.int x_4, .int 0]) (rest := [.int x_5]) (ws1 := (kModel G q0 v0)) ⟨hx, hb, hml, hown, hts⟩ (c_X13_linePart l D G q0 x_4 0 v0 _ hc  _) (cwV 2 hts gX13_linesAt_X13_linePart rfl rfl rfl (by decide +kernel) ⟨Nat.le_of_ble_eq_true rfl, Nat.le_of_ble_eq_true rfl⟩) hl.1 (Nat.le_of_ble_eq_true rfl) dX13_linesAt_18 ⟨Nat.le_of_ble_eq_true rfl, Nat.le_of_ble_eq_true rfl⟩ rfl kT_bl (fun _ _ _ => trivial) hN hK hP hD hS hA 0 11 rfl rfl rfl [0, 1, 2, 3, 4, 5, 6, 7, 8, 9, 10, 11] [] [0, 1, 2, 3, 4, 5, 6, 7, 8, 9, 10, 11] [0, 1, 2, 3] rfl rfl rfl ⟨by decide, by decide, by decide, by decide⟩ rfl (fun H locs hP hD hS => ?_)
        refine lv_iload_n hx hb dX13_linesAt_21 rfl (lv_at hl 3 rfl) ?_
        refine lv_icmp_eq (tgt := 35) hx hb dX13_linesAt_22 (by decide) (fun cc => ?_) (fun cc => ?_)
        · replace hf := ifT cc hf
          refine lv_iconst (v := 1) hx hb dX13_linesAt_35 (by decide) ?_
          refine lv_goto (tgt := 40) hx hb dX13_linesAt_36 (by decide) ?_
          refine lv_iadd hx hb dX13_linesAt_40 ?_
          refine lv_istore_n (lv' := [(2, .int (x_5 + 1)), (3, .int x_4), (0, .ref (q0 0)), (1, .int a1)]) hx hb dX13_linesAt_41 rfl hl (by decide) rfl (fun ls hl => ?_)
          refine lv_iinc (v := (x_4 + 1)) (lv' := [(3, .int (x_4 + 1)), (2, .int (x_5 + 1)), (0, .ref (q0 0)), (1, .int a1)]) hx hb dX13_linesAt_42 hl (k := 1) rfl rfl (by decide) rfl (fun ls hl => ?_)
          refine lv_goto (tgt := 4) hx hb dX13_linesAt_45 (by decide) ?_
          exact ihL_6 (x_4 + 1) (x_5 + 1) _ _ _ (lv_sub hl [0, 1, 2, 3] rfl) hP hD hS hf
        · replace hf := ifF cc hf
          refine lv_aload_n hx hb dX13_linesAt_25 rfl (lv_at hl 2 rfl) ?_
          refine lv_iload_n hx hb dX13_linesAt_26 rfl (lv_at hl 0 rfl) ?_
          refine lv_iconst (v := 1) hx hb dX13_linesAt_27 (by decide) ?_
          obtain ⟨r_8, hc, hf⟩ := bd1_of hf
          refine k_V (As := [.int x_4, .int 1]) (rest := [.int x_5]) (ws1 := (kModel G q0 v0)) ⟨hx, hb, hml, hown, hts⟩ (c_X13_linePart l D G q0 x_4 1 v0 _ hc  _) (cwV 2 hts gX13_linesAt_X13_linePart rfl rfl rfl (by decide +kernel) ⟨Nat.le_of_ble_eq_true rfl, Nat.le_of_ble_eq_true rfl⟩) hl.1 (Nat.le_of_ble_eq_true rfl) dX13_linesAt_28 ⟨Nat.le_of_ble_eq_true rfl, Nat.le_of_ble_eq_true rfl⟩ rfl kT_bl (fun _ _ _ => trivial) hN hK hP hD hS hA 0 11 rfl rfl rfl [0, 1, 2, 3, 4, 5, 6, 7, 8, 9, 10, 11] [] [0, 1, 2, 3, 4, 5, 6, 7, 8, 9, 10, 11] [0, 1, 2, 3] rfl rfl rfl ⟨by decide, by decide, by decide, by decide⟩ rfl (fun H locs hP hD hS => ?_)
          refine lv_iload_n hx hb dX13_linesAt_31 rfl (lv_at hl 3 rfl) ?_
          refine lv_icmp_ne (tgt := 39) hx hb dX13_linesAt_32 (by decide) (fun cc => ?_) (fun cc => ?_)
          · replace hf := ifF cc hf
            refine lv_iconst (v := 0) hx hb dX13_linesAt_39 (by decide) ?_
            refine lv_iadd hx hb dX13_linesAt_40 ?_
            refine lv_istore_n (lv' := [(2, .int (x_5 + 0)), (3, .int x_4), (0, .ref (q0 0)), (1, .int a1)]) hx hb dX13_linesAt_41 rfl hl (by decide) rfl (fun ls hl => ?_)
            refine lv_iinc (v := (x_4 + 1)) (lv' := [(3, .int (x_4 + 1)), (2, .int (x_5 + 0)), (0, .ref (q0 0)), (1, .int a1)]) hx hb dX13_linesAt_42 hl (k := 1) rfl rfl (by decide) rfl (fun ls hl => ?_)
            refine lv_goto (tgt := 4) hx hb dX13_linesAt_45 (by decide) ?_
            exact ihL_6 (x_4 + 1) (x_5 + 0) _ _ _ (lv_sub hl [0, 1, 2, 3] rfl) hP hD hS hf
          · replace hf := ifT cc hf
            refine lv_iconst (v := 1) hx hb dX13_linesAt_35 (by decide) ?_
            refine lv_goto (tgt := 40) hx hb dX13_linesAt_36 (by decide) ?_
            refine lv_iadd hx hb dX13_linesAt_40 ?_
            refine lv_istore_n (lv' := [(2, .int (x_5 + 1)), (3, .int x_4), (0, .ref (q0 0)), (1, .int a1)]) hx hb dX13_linesAt_41 rfl hl (by decide) rfl (fun ls hl => ?_)
            refine lv_iinc (v := (x_4 + 1)) (lv' := [(3, .int (x_4 + 1)), (2, .int (x_5 + 1)), (0, .ref (q0 0)), (1, .int a1)]) hx hb dX13_linesAt_42 hl (k := 1) rfl rfl (by decide) rfl (fun ls hl => ?_)
            refine lv_goto (tgt := 4) hx hb dX13_linesAt_45 (by decide) ?_
            exact ihL_6 (x_4 + 1) (x_5 + 1) _ _ _ (lv_sub hl [0, 1, 2, 3] rfl) hP hD hS hf
  exact loL_6 FU 0 0 _ _ _ hl hP hD hS hf
def f_X13_balconyOf (a1 : Int32) (a2 : Int32) (v0 : SV) : Option Int32 :=
  bd1 (f_X13_isBalcony a1) fun r_1 =>
  if r_1 = 0 then
    some (-1)
  else
    if a2 = 0 then
      bd1 (f_X13_plants a1 v0) fun r_2 =>
      some r_2
    else
    if a2 = 1 then
      ckI (22 + a1) 240 <|
      some (v0.2 0 (22 + a1).toNatClampNeg)
    else
    if a2 = 2 then
      bd1 (f_X13_catOn a1 v0) fun r_3 =>
      some r_3
    else
    if a2 = 3 then
      bd1 (f_X13_feudsOf a1 v0) fun r_4 =>
      some r_4
    else
    if a2 = 4 then
      bd1 (f_X13_given a1 v0) fun r_5 =>
      some r_5
    else
    if a2 = 5 then
      bd1 (f_X13_got a1 v0) fun r_6 =>
      some r_6
    else
    if a2 = 6 then
      bd1 (f_X13_linesAt a1 v0) fun r_7 =>
      some r_7
    else
    if a2 = 7 then
      bd1 (f_X13_friends a1 v0) fun r_8 =>
      some r_8
    else
    some (-2)
abbrev rm_X13_balconyOf : Room := { frames := 5, cells := 0, slots := 0, locals := 112 }
set_option maxHeartbeats 4000000 in
set_option maxRecDepth 100000 in
theorem c_X13_balconyOf (l : Launch) (D : va_G) (G : Nat → ClassId) (q0 : Nat → Nat) (a1 : Int32) (a2 : Int32) (v0 : SV) (r : Int32) (hf : f_X13_balconyOf a1 a2 v0 = some r) (sz : Nat) : mC l yX13_balconyOf wsX13_balconyOf rm_X13_balconyOf D (tyG G) kT [.ref (q0 0), .int a1, .int a2] (kModel G q0 v0) (kModel G q0 v0) sz (some (.int r)) 0 0 := by
  refine mC_ofI (cc := cX13_balconyOf) (maxL := 3) (ret := (some .int)) (by decide) rfl rfl (Nat.le_of_ble_eq_true rfl) ?_
  intro p e s m args below meth c Q0 hx hb hml hts hown hN hK A hD hA hE hP hS hJ ls hl
  have hl : lv_has ls 3 [(0, .ref (q0 0)), (1, .int a1), (2, .int a2)] := hl
  unfold f_X13_balconyOf at hf
  have hi11 : ∀ w ∈ u_ws RX13 TX13 27, w ∈ wsX13_balconyOf := by decide +kernel
  have hw1 := hts (.fieldLink RX13 7 "BalconyCensusModel" "now" "[I") (by decide +kernel)
  refine lv_iload_n hx hb dX13_balconyOf_0 rfl (lv_at hl 1 rfl) ?_
  obtain ⟨r_1, hc, hf⟩ := bd1_of hf
  refine k_S (As := [.int a1]) (rest := []) (ws1 := (kModel G q0 v0)) ⟨hx, hb, hml, hown, hts⟩ (c_X13_isBalcony l D G  a1  _ hc  _) (va_cwS 1 hts gX13_balconyOf_X13_isBalcony rfl rfl rfl (by decide +kernel) ⟨Nat.le_of_ble_eq_true rfl, Nat.le_of_ble_eq_true rfl⟩) hl.1 (Nat.le_of_ble_eq_true rfl) dX13_balconyOf_1 ⟨Nat.le_of_ble_eq_true rfl, Nat.le_of_ble_eq_true rfl⟩ rfl kT_bl (fun _ _ _ => trivial) hN hK hP hD hS hA [] [0, 1, 2, 3, 4, 5, 6, 7, 8, 9, 10, 11] [0, 1, 2, 3, 4, 5, 6, 7, 8, 9, 10, 11] [0, 1, 2, 3] rfl rfl rfl ⟨by decide, by decide, by decide, by decide⟩ rfl (fun H locs hP hD hS => ?_)
  refine lv_if_ne (tgt := 9) hx hb dX13_balconyOf_4 (by decide) (fun cc => ?_) (fun cc => ?_)
  · replace hf := ifF cc hf
    refine lv_iload_n hx hb dX13_balconyOf_9 rfl (lv_at hl 2 rfl) ?_
    by_cases c0 : a2 = 0
    · replace hf := ifT c0 hf
      refine lv_tableIn (off := 46) (tgt := 56) hx hb dX13_balconyOf_10 (by rw [c0]; decide) (by rw [c0]; decide) (by rw [c0]; rfl) (by decide) ?_
      refine lv_aload_n hx hb dX13_balconyOf_56 rfl (lv_at hl 0 rfl) ?_
      refine lv_iload_n hx hb dX13_balconyOf_57 rfl (lv_at hl 1 rfl) ?_
      obtain ⟨r_2, hc, hf⟩ := bd1_of hf
      refine k_V (As := [.int a1]) (rest := []) (ws1 := (kModel G q0 v0)) ⟨hx, hb, hml, hown, hts⟩ (c_X13_plants l D G q0 a1 v0 _ hc  _) (cwV 1 hts gX13_balconyOf_X13_plants rfl rfl rfl (by decide +kernel) ⟨Nat.le_of_ble_eq_true rfl, Nat.le_of_ble_eq_true rfl⟩) hl.1 (Nat.le_of_ble_eq_true rfl) dX13_balconyOf_58 ⟨Nat.le_of_ble_eq_true rfl, Nat.le_of_ble_eq_true rfl⟩ rfl kT_bl (fun _ _ _ => trivial) hN hK hP hD hS hA 0 11 rfl rfl rfl [0, 1, 2, 3, 4, 5, 6, 7, 8, 9, 10, 11] [] [0, 1, 2, 3, 4, 5, 6, 7, 8, 9, 10, 11] [0, 1, 2, 3] rfl rfl rfl ⟨by decide, by decide, by decide, by decide⟩ rfl (fun H locs hP hD hS => ?_)
      obtain rfl := re1 hf
      exact hE hP hD hS dX13_balconyOf_61
    replace hf := ifF c0 hf
    by_cases c1 : a2 = 1
    · replace hf := ifT c1 hf
      refine lv_tableIn (off := 52) (tgt := 62) hx hb dX13_balconyOf_10 (by rw [c1]; decide) (by rw [c1]; decide) (by rw [c1]; rfl) (by decide) ?_
      refine lv_aload_n hx hb dX13_balconyOf_62 rfl (lv_at hl 0 rfl) ?_
      refine va_get (D := D) (ci := 11) (v := .ref (q0 1)) (C := RX13) (T := TX13) (N := 27) hx hb hts hi11 hown hK hP 0 rfl rfl 0 (by decide) hw1 (fun _ h9 => h9) rfl dX13_balconyOf_63 ?_
      refine lv_bipush (v := 22) hx hb dX13_balconyOf_66 (by decide +kernel) ?_
      refine lv_iload_n hx hb dX13_balconyOf_68 rfl (lv_at hl 1 rfl) ?_
      refine lv_iadd hx hb dX13_balconyOf_69 ?_
      obtain ⟨hin, hf⟩ := ckI_of hf
      refine va_iald (D := D) hx hb hK hP 1 0 rfl rfl hin dX13_balconyOf_70 ?_
      obtain rfl := re1 hf
      exact hE hP hD hS dX13_balconyOf_71
    replace hf := ifF c1 hf
    by_cases c2 : a2 = 2
    · replace hf := ifT c2 hf
      refine lv_tableIn (off := 62) (tgt := 72) hx hb dX13_balconyOf_10 (by rw [c2]; decide) (by rw [c2]; decide) (by rw [c2]; rfl) (by decide) ?_
      refine lv_aload_n hx hb dX13_balconyOf_72 rfl (lv_at hl 0 rfl) ?_
      refine lv_iload_n hx hb dX13_balconyOf_73 rfl (lv_at hl 1 rfl) ?_
      obtain ⟨r_3, hc, hf⟩ := bd1_of hf
      refine k_V (As := [.int a1]) (rest := []) (ws1 := (kModel G q0 v0)) ⟨hx, hb, hml, hown, hts⟩ (c_X13_catOn l D G q0 a1 v0 _ hc  _) (cwV 1 hts gX13_balconyOf_X13_catOn rfl rfl rfl (by decide +kernel) ⟨Nat.le_of_ble_eq_true rfl, Nat.le_of_ble_eq_true rfl⟩) hl.1 (Nat.le_of_ble_eq_true rfl) dX13_balconyOf_74 ⟨Nat.le_of_ble_eq_true rfl, Nat.le_of_ble_eq_true rfl⟩ rfl kT_bl (fun _ _ _ => trivial) hN hK hP hD hS hA 0 11 rfl rfl rfl [0, 1, 2, 3, 4, 5, 6, 7, 8, 9, 10, 11] [] [0, 1, 2, 3, 4, 5, 6, 7, 8, 9, 10, 11] [0, 1, 2, 3] rfl rfl rfl ⟨by decide, by decide, by decide, by decide⟩ rfl (fun H locs hP hD hS => ?_)
      obtain rfl := re1 hf
      exact hE hP hD hS dX13_balconyOf_77
    replace hf := ifF c2 hf
    by_cases c3 : a2 = 3
    · replace hf := ifT c3 hf
      refine lv_tableIn (off := 68) (tgt := 78) hx hb dX13_balconyOf_10 (by rw [c3]; decide) (by rw [c3]; decide) (by rw [c3]; rfl) (by decide) ?_
      refine lv_aload_n hx hb dX13_balconyOf_78 rfl (lv_at hl 0 rfl) ?_
      refine lv_iload_n hx hb dX13_balconyOf_79 rfl (lv_at hl 1 rfl) ?_
      obtain ⟨r_4, hc, hf⟩ := bd1_of hf
      refine k_V (As := [.int a1]) (rest := []) (ws1 := (kModel G q0 v0)) ⟨hx, hb, hml, hown, hts⟩ (c_X13_feudsOf l D G q0 a1 v0 _ hc  _) (cwV 1 hts gX13_balconyOf_X13_feudsOf rfl rfl rfl (by decide +kernel) ⟨Nat.le_of_ble_eq_true rfl, Nat.le_of_ble_eq_true rfl⟩) hl.1 (Nat.le_of_ble_eq_true rfl) dX13_balconyOf_80 ⟨Nat.le_of_ble_eq_true rfl, Nat.le_of_ble_eq_true rfl⟩ rfl kT_bl (fun _ _ _ => trivial) hN hK hP hD hS hA 0 11 rfl rfl rfl [0, 1, 2, 3, 4, 5, 6, 7, 8, 9, 10, 11] [] [0, 1, 2, 3, 4, 5, 6, 7, 8, 9, 10, 11] [0, 1, 2, 3] rfl rfl rfl ⟨by decide, by decide, by decide, by decide⟩ rfl (fun H locs hP hD hS => ?_)
      obtain rfl := re1 hf
      exact hE hP hD hS dX13_balconyOf_83
    replace hf := ifF c3 hf
    by_cases c4 : a2 = 4
    · replace hf := ifT c4 hf
      refine lv_tableIn (off := 74) (tgt := 84) hx hb dX13_balconyOf_10 (by rw [c4]; decide) (by rw [c4]; decide) (by rw [c4]; rfl) (by decide) ?_
      refine lv_aload_n hx hb dX13_balconyOf_84 rfl (lv_at hl 0 rfl) ?_
      refine lv_iload_n hx hb dX13_balconyOf_85 rfl (lv_at hl 1 rfl) ?_
      obtain ⟨r_5, hc, hf⟩ := bd1_of hf
      refine k_V (As := [.int a1]) (rest := []) (ws1 := (kModel G q0 v0)) ⟨hx, hb, hml, hown, hts⟩ (c_X13_given l D G q0 a1 v0 _ hc  _) (cwV 1 hts gX13_balconyOf_X13_given rfl rfl rfl (by decide +kernel) ⟨Nat.le_of_ble_eq_true rfl, Nat.le_of_ble_eq_true rfl⟩) hl.1 (Nat.le_of_ble_eq_true rfl) dX13_balconyOf_86 ⟨Nat.le_of_ble_eq_true rfl, Nat.le_of_ble_eq_true rfl⟩ rfl kT_bl (fun _ _ _ => trivial) hN hK hP hD hS hA 0 11 rfl rfl rfl [0, 1, 2, 3, 4, 5, 6, 7, 8, 9, 10, 11] [] [0, 1, 2, 3, 4, 5, 6, 7, 8, 9, 10, 11] [0, 1, 2, 3] rfl rfl rfl ⟨by decide, by decide, by decide, by decide⟩ rfl (fun H locs hP hD hS => ?_)
      obtain rfl := re1 hf
      exact hE hP hD hS dX13_balconyOf_89
    replace hf := ifF c4 hf
    by_cases c5 : a2 = 5
    · replace hf := ifT c5 hf
      refine lv_tableIn (off := 80) (tgt := 90) hx hb dX13_balconyOf_10 (by rw [c5]; decide) (by rw [c5]; decide) (by rw [c5]; rfl) (by decide) ?_
      refine lv_aload_n hx hb dX13_balconyOf_90 rfl (lv_at hl 0 rfl) ?_
      refine lv_iload_n hx hb dX13_balconyOf_91 rfl (lv_at hl 1 rfl) ?_
      obtain ⟨r_6, hc, hf⟩ := bd1_of hf
      refine k_V (As := [.int a1]) (rest := []) (ws1 := (kModel G q0 v0)) ⟨hx, hb, hml, hown, hts⟩ (c_X13_got l D G q0 a1 v0 _ hc  _) (cwV 1 hts gX13_balconyOf_X13_got rfl rfl rfl (by decide +kernel) ⟨Nat.le_of_ble_eq_true rfl, Nat.le_of_ble_eq_true rfl⟩) hl.1 (Nat.le_of_ble_eq_true rfl) dX13_balconyOf_92 ⟨Nat.le_of_ble_eq_true rfl, Nat.le_of_ble_eq_true rfl⟩ rfl kT_bl (fun _ _ _ => trivial) hN hK hP hD hS hA 0 11 rfl rfl rfl [0, 1, 2, 3, 4, 5, 6, 7, 8, 9, 10, 11] [] [0, 1, 2, 3, 4, 5, 6, 7, 8, 9, 10, 11] [0, 1, 2, 3] rfl rfl rfl ⟨by decide, by decide, by decide, by decide⟩ rfl (fun H locs hP hD hS => ?_)
      obtain rfl := re1 hf
      exact hE hP hD hS dX13_balconyOf_95
    replace hf := ifF c5 hf
    by_cases c6 : a2 = 6
    · replace hf := ifT c6 hf
      refine lv_tableIn (off := 86) (tgt := 96) hx hb dX13_balconyOf_10 (by rw [c6]; decide) (by rw [c6]; decide) (by rw [c6]; rfl) (by decide) ?_
      refine lv_aload_n hx hb dX13_balconyOf_96 rfl (lv_at hl 0 rfl) ?_
      refine lv_iload_n hx hb dX13_balconyOf_97 rfl (lv_at hl 1 rfl) ?_
      obtain ⟨r_7, hc, hf⟩ := bd1_of hf
      refine k_V (As := [.int a1]) (rest := []) (ws1 := (kModel G q0 v0)) ⟨hx, hb, hml, hown, hts⟩ (c_X13_linesAt l D G q0 a1 v0 _ hc  _) (cwV 1 hts gX13_balconyOf_X13_linesAt rfl rfl rfl (by decide +kernel) ⟨Nat.le_of_ble_eq_true rfl, Nat.le_of_ble_eq_true rfl⟩) hl.1 (Nat.le_of_ble_eq_true rfl) dX13_balconyOf_98 ⟨Nat.le_of_ble_eq_true rfl, Nat.le_of_ble_eq_true rfl⟩ rfl kT_bl (fun _ _ _ => trivial) hN hK hP hD hS hA 0 11 rfl rfl rfl [0, 1, 2, 3, 4, 5, 6, 7, 8, 9, 10, 11] [] [0, 1, 2, 3, 4, 5, 6, 7, 8, 9, 10, 11] [0, 1, 2, 3] rfl rfl rfl ⟨by decide, by decide, by decide, by decide⟩ rfl (fun H locs hP hD hS => ?_)
      obtain rfl := re1 hf
      exact hE hP hD hS dX13_balconyOf_101
    replace hf := ifF c6 hf
    by_cases c7 : a2 = 7
    · replace hf := ifT c7 hf
      refine lv_tableIn (off := 92) (tgt := 102) hx hb dX13_balconyOf_10 (by rw [c7]; decide) (by rw [c7]; decide) (by rw [c7]; rfl) (by decide) ?_
      refine lv_aload_n hx hb dX13_balconyOf_102 rfl (lv_at hl 0 rfl) ?_
      refine lv_iload_n hx hb dX13_balconyOf_103 rfl (lv_at hl 1 rfl) ?_
      obtain ⟨r_8, hc, hf⟩ := bd1_of hf
      refine k_V (As := [.int a1]) (rest := []) (ws1 := (kModel G q0 v0)) ⟨hx, hb, hml, hown, hts⟩ (c_X13_friends l D G q0 a1 v0 _ hc  _) (cwV 1 hts gX13_balconyOf_X13_friends rfl rfl rfl (by decide +kernel) ⟨Nat.le_of_ble_eq_true rfl, Nat.le_of_ble_eq_true rfl⟩) hl.1 (Nat.le_of_ble_eq_true rfl) dX13_balconyOf_104 ⟨Nat.le_of_ble_eq_true rfl, Nat.le_of_ble_eq_true rfl⟩ rfl kT_bl (fun _ _ _ => trivial) hN hK hP hD hS hA 0 11 rfl rfl rfl [0, 1, 2, 3, 4, 5, 6, 7, 8, 9, 10, 11] [] [0, 1, 2, 3, 4, 5, 6, 7, 8, 9, 10, 11] [0, 1, 2, 3] rfl rfl rfl ⟨by decide, by decide, by decide, by decide⟩ rfl (fun H locs hP hD hS => ?_)
      obtain rfl := re1 hf
      exact hE hP hD hS dX13_balconyOf_107
    replace hf := ifF c7 hf
    refine lv_tableOut (tgt := 108) hx hb dX13_balconyOf_10 (by have e0 := sw_ne (z := 0) c0 (by decide); have e1 := sw_ne (z := 1) c1 (by decide); have e2 := sw_ne (z := 2) c2 (by decide); have e3 := sw_ne (z := 3) c3 (by decide); have e4 := sw_ne (z := 4) c4 (by decide); have e5 := sw_ne (z := 5) c5 (by decide); have e6 := sw_ne (z := 6) c6 (by decide); have e7 := sw_ne (z := 7) c7 (by decide); omega) (by decide) ?_
    refine lv_bipush (v := (-2)) hx hb dX13_balconyOf_108 (by decide +kernel) ?_
    obtain rfl := re1 hf
    exact hE hP hD hS dX13_balconyOf_110
  · replace hf := ifT cc hf
    refine lv_iconst (v := (-1)) hx hb dX13_balconyOf_7 (by decide) ?_
    obtain rfl := re1 hf
    exact hE hP hD hS dX13_balconyOf_8
def f_X13_feud (a1 : Int32) (a2 : Int32) (v0 : SV) : Option Int32 :=
  bd1 (f_X13_areTwo a1 a2) fun r_1 =>
  if r_1 = 0 then
    some (-1)
  else
    bd1 (f_X13_areFeuding a1 a2 v0) fun r_2 =>
    if r_2 = 0 then
      some 0
    else
      some 1
abbrev rm_X13_feud : Room := { frames := 4, cells := 0, slots := 0, locals := 89 }
set_option maxHeartbeats 4000000 in
set_option maxRecDepth 100000 in
theorem c_X13_feud (l : Launch) (D : va_G) (G : Nat → ClassId) (q0 : Nat → Nat) (a1 : Int32) (a2 : Int32) (v0 : SV) (r : Int32) (hf : f_X13_feud a1 a2 v0 = some r) (sz : Nat) : mC l yX13_feud wsX13_feud rm_X13_feud D (tyG G) kT [.ref (q0 0), .int a1, .int a2] (kModel G q0 v0) (kModel G q0 v0) sz (some (.int r)) 0 0 := by
  refine mC_ofI (cc := cX13_feud) (maxL := 3) (ret := (some .int)) (by decide) rfl rfl (Nat.le_of_ble_eq_true rfl) ?_
  intro p e s m args below meth c Q0 hx hb hml hts hown hN hK A hD hA hE hP hS hJ ls hl
  have hl : lv_has ls 3 [(0, .ref (q0 0)), (1, .int a1), (2, .int a2)] := hl
  unfold f_X13_feud at hf
  refine lv_iload_n hx hb dX13_feud_0 rfl (lv_at hl 1 rfl) ?_
  refine lv_iload_n hx hb dX13_feud_1 rfl (lv_at hl 2 rfl) ?_
  obtain ⟨r_1, hc, hf⟩ := bd1_of hf
  refine k_S (As := [.int a1, .int a2]) (rest := []) (ws1 := (kModel G q0 v0)) ⟨hx, hb, hml, hown, hts⟩ (c_X13_areTwo l D G  a1 a2  _ hc  _) (va_cwS 2 hts gX13_feud_X13_areTwo rfl rfl rfl (by decide +kernel) ⟨Nat.le_of_ble_eq_true rfl, Nat.le_of_ble_eq_true rfl⟩) hl.1 (Nat.le_of_ble_eq_true rfl) dX13_feud_2 ⟨Nat.le_of_ble_eq_true rfl, Nat.le_of_ble_eq_true rfl⟩ rfl kT_bl (fun _ _ _ => trivial) hN hK hP hD hS hA [] [0, 1, 2, 3, 4, 5, 6, 7, 8, 9, 10, 11] [0, 1, 2, 3, 4, 5, 6, 7, 8, 9, 10, 11] [0, 1, 2, 3] rfl rfl rfl ⟨by decide, by decide, by decide, by decide⟩ rfl (fun H locs hP hD hS => ?_)
  refine lv_if_ne (tgt := 12) hx hb dX13_feud_5 (by decide) (fun cc => ?_) (fun cc => ?_)
  · replace hf := ifF cc hf
    refine lv_aload_n hx hb dX13_feud_12 rfl (lv_at hl 0 rfl) ?_
    refine lv_iload_n hx hb dX13_feud_13 rfl (lv_at hl 1 rfl) ?_
    refine lv_iload_n hx hb dX13_feud_14 rfl (lv_at hl 2 rfl) ?_
    obtain ⟨r_2, hc, hf⟩ := bd1_of hf
    refine k_V (As := [.int a1, .int a2]) (rest := []) (ws1 := (kModel G q0 v0)) ⟨hx, hb, hml, hown, hts⟩ (c_X13_areFeuding l D G q0 a1 a2 v0 _ hc  _) (cwV 2 hts gX13_feud_X13_areFeuding rfl rfl rfl (by decide +kernel) ⟨Nat.le_of_ble_eq_true rfl, Nat.le_of_ble_eq_true rfl⟩) hl.1 (Nat.le_of_ble_eq_true rfl) dX13_feud_15 ⟨Nat.le_of_ble_eq_true rfl, Nat.le_of_ble_eq_true rfl⟩ rfl kT_bl (fun _ _ _ => trivial) hN hK hP hD hS hA 0 11 rfl rfl rfl [0, 1, 2, 3, 4, 5, 6, 7, 8, 9, 10, 11] [] [0, 1, 2, 3, 4, 5, 6, 7, 8, 9, 10, 11] [0, 1, 2, 3] rfl rfl rfl ⟨by decide, by decide, by decide, by decide⟩ rfl (fun H locs hP hD hS => ?_)
    refine lv_if_eq (tgt := 25) hx hb dX13_feud_18 (by decide) (fun cc => ?_) (fun cc => ?_)
    · replace hf := ifT cc hf
      refine lv_iconst (v := 0) hx hb dX13_feud_25 (by decide) ?_
      obtain rfl := re1 hf
      exact hE hP hD hS dX13_feud_26
    · replace hf := ifF cc hf
      refine lv_iconst (v := 1) hx hb dX13_feud_21 (by decide) ?_
      refine lv_goto (tgt := 26) hx hb dX13_feud_22 (by decide) ?_
      obtain rfl := re1 hf
      exact hE hP hD hS dX13_feud_26
  · replace hf := ifT cc hf
    refine lv_iconst (v := (-1)) hx hb dX13_feud_8 (by decide) ?_
    refine lv_goto (tgt := 26) hx hb dX13_feud_9 (by decide) ?_
    obtain rfl := re1 hf
    exact hE hP hD hS dX13_feud_26
def f_X13_greeted (a1 : Int32) (a2 : Int32) (v0 : SV) : Option Int32 :=
  bd1 (f_X13_areTwo a1 a2) fun r_1 =>
  if r_1 = 0 then
    some (-1)
  else
    bd1 (f_X13_greetings a1 a2 v0) fun r_2 =>
    some r_2
abbrev rm_X13_greeted : Room := { frames := 3, cells := 0, slots := 0, locals := 63 }
set_option maxHeartbeats 4000000 in
set_option maxRecDepth 100000 in
theorem c_X13_greeted (l : Launch) (D : va_G) (G : Nat → ClassId) (q0 : Nat → Nat) (a1 : Int32) (a2 : Int32) (v0 : SV) (r : Int32) (hf : f_X13_greeted a1 a2 v0 = some r) (sz : Nat) : mC l yX13_greeted wsX13_greeted rm_X13_greeted D (tyG G) kT [.ref (q0 0), .int a1, .int a2] (kModel G q0 v0) (kModel G q0 v0) sz (some (.int r)) 0 0 := by
  refine mC_ofI (cc := cX13_greeted) (maxL := 3) (ret := (some .int)) (by decide) rfl rfl (Nat.le_of_ble_eq_true rfl) ?_
  intro p e s m args below meth c Q0 hx hb hml hts hown hN hK A hD hA hE hP hS hJ ls hl
  have hl : lv_has ls 3 [(0, .ref (q0 0)), (1, .int a1), (2, .int a2)] := hl
  unfold f_X13_greeted at hf
  refine lv_iload_n hx hb dX13_greeted_0 rfl (lv_at hl 1 rfl) ?_
  refine lv_iload_n hx hb dX13_greeted_1 rfl (lv_at hl 2 rfl) ?_
  obtain ⟨r_1, hc, hf⟩ := bd1_of hf
  refine k_S (As := [.int a1, .int a2]) (rest := []) (ws1 := (kModel G q0 v0)) ⟨hx, hb, hml, hown, hts⟩ (c_X13_areTwo l D G  a1 a2  _ hc  _) (va_cwS 2 hts gX13_greeted_X13_areTwo rfl rfl rfl (by decide +kernel) ⟨Nat.le_of_ble_eq_true rfl, Nat.le_of_ble_eq_true rfl⟩) hl.1 (Nat.le_of_ble_eq_true rfl) dX13_greeted_2 ⟨Nat.le_of_ble_eq_true rfl, Nat.le_of_ble_eq_true rfl⟩ rfl kT_bl (fun _ _ _ => trivial) hN hK hP hD hS hA [] [0, 1, 2, 3, 4, 5, 6, 7, 8, 9, 10, 11] [0, 1, 2, 3, 4, 5, 6, 7, 8, 9, 10, 11] [0, 1, 2, 3] rfl rfl rfl ⟨by decide, by decide, by decide, by decide⟩ rfl (fun H locs hP hD hS => ?_)
  refine lv_if_eq (tgt := 17) hx hb dX13_greeted_5 (by decide) (fun cc => ?_) (fun cc => ?_)
  · replace hf := ifT cc hf
    refine lv_iconst (v := (-1)) hx hb dX13_greeted_17 (by decide) ?_
    obtain rfl := re1 hf
    exact hE hP hD hS dX13_greeted_18
  · replace hf := ifF cc hf
    refine lv_aload_n hx hb dX13_greeted_8 rfl (lv_at hl 0 rfl) ?_
    refine lv_iload_n hx hb dX13_greeted_9 rfl (lv_at hl 1 rfl) ?_
    refine lv_iload_n hx hb dX13_greeted_10 rfl (lv_at hl 2 rfl) ?_
    obtain ⟨r_2, hc, hf⟩ := bd1_of hf
    refine k_V (As := [.int a1, .int a2]) (rest := []) (ws1 := (kModel G q0 v0)) ⟨hx, hb, hml, hown, hts⟩ (c_X13_greetings l D G q0 a1 a2 v0 _ hc  _) (cwV 2 hts gX13_greeted_X13_greetings rfl rfl rfl (by decide +kernel) ⟨Nat.le_of_ble_eq_true rfl, Nat.le_of_ble_eq_true rfl⟩) hl.1 (Nat.le_of_ble_eq_true rfl) dX13_greeted_11 ⟨Nat.le_of_ble_eq_true rfl, Nat.le_of_ble_eq_true rfl⟩ rfl kT_bl (fun _ _ _ => trivial) hN hK hP hD hS hA 0 11 rfl rfl rfl [0, 1, 2, 3, 4, 5, 6, 7, 8, 9, 10, 11] [] [0, 1, 2, 3, 4, 5, 6, 7, 8, 9, 10, 11] [0, 1, 2, 3] rfl rfl rfl ⟨by decide, by decide, by decide, by decide⟩ rfl (fun H locs hP hD hS => ?_)
    refine lv_goto (tgt := 18) hx hb dX13_greeted_14 (by decide) ?_
    obtain rfl := re1 hf
    exact hE hP hD hS dX13_greeted_18
def f_X13_isStep (a1 : Int32) (a2 : Int32) (v0 : SV) : Option Int32 :=
  bd1 (f_X13_isBeside a1 a2) fun r_1 =>
  if r_1 = 0 then
    some 0
  else
    bd1 (f_X13_areFeuding a1 a2 v0) fun r_2 =>
    if r_2 = 0 then
      some 1
    else
      some 0
abbrev rm_X13_isStep : Room := { frames := 4, cells := 0, slots := 0, locals := 89 }
set_option maxHeartbeats 4000000 in
set_option maxRecDepth 100000 in
theorem c_X13_isStep (l : Launch) (D : va_G) (G : Nat → ClassId) (q0 : Nat → Nat) (a1 : Int32) (a2 : Int32) (v0 : SV) (r : Int32) (hf : f_X13_isStep a1 a2 v0 = some r) (sz : Nat) : mC l yX13_isStep wsX13_isStep rm_X13_isStep D (tyG G) kT [.ref (q0 0), .int a1, .int a2] (kModel G q0 v0) (kModel G q0 v0) sz (some (.int r)) 0 0 := by
  refine mC_ofZ (cc := cX13_isStep) (maxL := 3) (ret := (some .boolean)) (by decide) rfl rfl (Nat.le_of_ble_eq_true rfl) ?_
  intro p e s m args below meth c Q0 hx hb hml hts hown hN hK A hD hA hE hP hS hJ ls hl
  have hl : lv_has ls 3 [(0, .ref (q0 0)), (1, .int a1), (2, .int a2)] := hl
  unfold f_X13_isStep at hf
  refine lv_iload_n hx hb dX13_isStep_0 rfl (lv_at hl 1 rfl) ?_
  refine lv_iload_n hx hb dX13_isStep_1 rfl (lv_at hl 2 rfl) ?_
  obtain ⟨r_1, hc, hf⟩ := bd1_of hf
  refine k_S (As := [.int a1, .int a2]) (rest := []) (ws1 := (kModel G q0 v0)) ⟨hx, hb, hml, hown, hts⟩ (c_X13_isBeside l D G  a1 a2  _ hc  _) (va_cwS 2 hts gX13_isStep_X13_isBeside rfl rfl rfl (by decide +kernel) ⟨Nat.le_of_ble_eq_true rfl, Nat.le_of_ble_eq_true rfl⟩) hl.1 (Nat.le_of_ble_eq_true rfl) dX13_isStep_2 ⟨Nat.le_of_ble_eq_true rfl, Nat.le_of_ble_eq_true rfl⟩ rfl kT_bl (fun _ _ _ => trivial) hN hK hP hD hS hA [] [0, 1, 2, 3, 4, 5, 6, 7, 8, 9, 10, 11] [0, 1, 2, 3, 4, 5, 6, 7, 8, 9, 10, 11] [0, 1, 2, 3] rfl rfl rfl ⟨by decide, by decide, by decide, by decide⟩ rfl (fun H locs hP hD hS => ?_)
  refine lv_if_eq (tgt := 21) hx hb dX13_isStep_5 (by decide) (fun cc => ?_) (fun cc => ?_)
  · replace hf := ifT cc hf
    refine lv_iconst (v := 0) hx hb dX13_isStep_21 (by decide) ?_
    obtain rfl := re1 hf
    exact hE (.inl rfl) hP hD hS dX13_isStep_22
  · replace hf := ifF cc hf
    refine lv_aload_n hx hb dX13_isStep_8 rfl (lv_at hl 0 rfl) ?_
    refine lv_iload_n hx hb dX13_isStep_9 rfl (lv_at hl 1 rfl) ?_
    refine lv_iload_n hx hb dX13_isStep_10 rfl (lv_at hl 2 rfl) ?_
    obtain ⟨r_2, hc, hf⟩ := bd1_of hf
    refine k_V (As := [.int a1, .int a2]) (rest := []) (ws1 := (kModel G q0 v0)) ⟨hx, hb, hml, hown, hts⟩ (c_X13_areFeuding l D G q0 a1 a2 v0 _ hc  _) (cwV 2 hts gX13_isStep_X13_areFeuding rfl rfl rfl (by decide +kernel) ⟨Nat.le_of_ble_eq_true rfl, Nat.le_of_ble_eq_true rfl⟩) hl.1 (Nat.le_of_ble_eq_true rfl) dX13_isStep_11 ⟨Nat.le_of_ble_eq_true rfl, Nat.le_of_ble_eq_true rfl⟩ rfl kT_bl (fun _ _ _ => trivial) hN hK hP hD hS hA 0 11 rfl rfl rfl [0, 1, 2, 3, 4, 5, 6, 7, 8, 9, 10, 11] [] [0, 1, 2, 3, 4, 5, 6, 7, 8, 9, 10, 11] [0, 1, 2, 3] rfl rfl rfl ⟨by decide, by decide, by decide, by decide⟩ rfl (fun H locs hP hD hS => ?_)
    refine lv_if_ne (tgt := 21) hx hb dX13_isStep_14 (by decide) (fun cc => ?_) (fun cc => ?_)
    · replace hf := ifF cc hf
      refine lv_iconst (v := 0) hx hb dX13_isStep_21 (by decide) ?_
      obtain rfl := re1 hf
      exact hE (.inl rfl) hP hD hS dX13_isStep_22
    · replace hf := ifT cc hf
      refine lv_iconst (v := 1) hx hb dX13_isStep_17 (by decide) ?_
      refine lv_goto (tgt := 22) hx hb dX13_isStep_18 (by decide) ?_
      obtain rfl := re1 hf
      exact hE (.inr rfl) hP hD hS dX13_isStep_22
def f_X13_lays_K40 (y_40 : Int32) (y_41 : Int32) (z_42 : SV) : Option SV :=
  some z_42
def f_X13_lays_K48 (selfL_29 : (Int32 → Int32 → SV → Option SV)) (x_26 : Int32) (y_37 : Int32) (y_38 : Int32) (z_39 : SV) : Option SV :=
  selfL_29 (x_26 + 1) y_38 z_39
def f_X13_lays_B48 (selfL_29 : (Int32 → Int32 → SV → Option SV)) (x_26 : Int32) (selfL_33 : (Int32 → Int32 → SV → Option SV)) (x_30 : Int32) (x_31 : Int32) (u_32 : SV) : Option SV :=
  if 12 ≤ x_30 then
    f_X13_lays_K48 selfL_29 x_26 x_30 x_31 u_32
  else
    ckI x_30 12 <|
    if 0 ≤ (u_32.2 5 x_30.toNatClampNeg) then
      selfL_33 (x_30 + 1) x_31 u_32
    else
      ckI x_26 12 <|
      bd1 (f_X13_isStep (u_32.2 6 x_26.toNatClampNeg) x_30 u_32) fun r_34 =>
      if r_34 = 0 then
        selfL_33 (x_30 + 1) x_31 u_32
      else
        ckI x_26 12 <|
        ckI (u_32.2 6 x_26.toNatClampNeg) 12 <|
        ckI x_30 12 <|
        nm (pA u_32 5 x_30 ((u_32.2 5 (u_32.2 6 x_26.toNatClampNeg).toNatClampNeg) + 1)) fun v_35 =>
        ckI x_31 12 <|
        nm (pA v_35 6 x_31 x_30) fun v_36 =>
        selfL_33 (x_30 + 1) (x_31 + 1) v_36
def f_X13_lays_B40 (selfL_29 : (Int32 → Int32 → SV → Option SV)) (x_26 : Int32) (x_27 : Int32) (u_28 : SV) : Option SV :=
  if x_27 ≤ x_26 then
    f_X13_lays_K40 x_26 x_27 u_28
  else
    lz3 (f_X13_lays_B48 selfL_29 x_26) FU 0 x_27 u_28
def f_X13_lays_K2 (a1 : Int32) (y_7 : Int32) (z_8 : SV) : Option SV :=
  ckI a1 12 <|
  nm (pA z_8 5 a1 0) fun v_9 =>
  ckI 0 12 <|
  nm (pA v_9 6 0 a1) fun v_10 =>
  lz3 (f_X13_lays_B40) FU 0 1 v_10
def f_X13_lays_B2 (a1 : Int32) (selfL_5 : (Int32 → SV → Option SV)) (x_3 : Int32) (u_4 : SV) : Option SV :=
  if 12 ≤ x_3 then
    f_X13_lays_K2 a1 x_3 u_4
  else
    ckI x_3 12 <|
    nm (pA u_4 5 x_3 (-4)) fun v_6 =>
    selfL_5 (x_3 + 1) v_6
def f_X13_lays (a1 : Int32) (v0 : SV) : Option SV :=
  lz2 (f_X13_lays_B2 a1) FU 0 v0
abbrev rm_X13_lays : Room := { frames := 5, cells := 0, slots := 0, locals := 111 }
set_option maxHeartbeats 4000000 in
set_option maxRecDepth 100000 in
theorem c_X13_lays (l : Launch) (D : va_G) (G : Nat → ClassId) (q0 : Nat → Nat) (a1 : Int32) (v0 : SV) (v0' : SV) (hf : f_X13_lays a1 v0 = some v0') (sz : Nat) : mC l yX13_lays wsX13_lays rm_X13_lays D (tyG G) kT [.ref (q0 0), .int a1] (kModel G q0 v0) (kModel G q0 v0') sz none 0 0 := by
  refine mC_ofV (cc := cX13_lays) (maxL := 5) (ret := none) (by decide) rfl rfl (Nat.le_of_ble_eq_true rfl) ?_
  intro p e s m args below meth c Q0 hx hb hml hts hown hN hK A hD hA hE hP hS hJ ls hl
  have hl : lv_has ls 5 [(0, .ref (q0 0)), (1, .int a1)] := hl
  unfold f_X13_lays at hf
  have hi11 : ∀ w ∈ u_ws RX13 TX13 27, w ∈ wsX13_lays := by decide +kernel
  have hw1 := hts (.fieldLink RX13 54 "BalconyCensusModel" "far" "[I") (by decide +kernel)
  have hw2 := hts (.fieldLink RX13 57 "BalconyCensusModel" "todo" "[I") (by decide +kernel)
  refine lv_iconst (v := 0) hx hb dX13_lays_0 (by decide) ?_
  refine lv_istore_n (lv' := [(2, .int 0), (0, .ref (q0 0)), (1, .int a1)]) hx hb dX13_lays_1 rfl hl (by decide) rfl (fun ls hl => ?_)
  have exL_5 : ∀ (y_7 : Int32) (z_8 : SV) (H : Heap) (locs : List Loc) (ls : Array Slot), lv_has ls 5 [(2, .int y_7), (0, .ref (q0 0)), (1, .int a1)] → va_P D vwCl (kModel G q0 z_8) H → va_D A (kModel G q0 z_8) → va_S A s.heap H locs → f_X13_lays_K2 a1 y_7 z_8 = some v0' → W p l e rm_X13_lays s m args below meth c H locs 0 0 Q0 (F0 m 22 ls []) := by
    intro y_7 z_8 H locs ls hl hP hD hS hf
    unfold f_X13_lays_K2 at hf
    refine lv_aload_n hx hb dX13_lays_22 rfl (lv_at hl 1 rfl) ?_
    refine va_get (D := D) (ci := 11) (v := .ref (q0 6)) (C := RX13) (T := TX13) (N := 27) hx hb hts hi11 hown hK hP 0 rfl rfl 14 (by decide) hw1 (fun _ h9 => h9) rfl dX13_lays_23 ?_
    refine lv_iload_n hx hb dX13_lays_26 rfl (lv_at hl 2 rfl) ?_
    refine lv_iconst (v := 0) hx hb dX13_lays_27 (by decide) ?_
    obtain ⟨hin, hf⟩ := ckI_of hf
    obtain ⟨v_9, ev_9, hf⟩ := nm_of hf
    refine va_iast (D := D) hx hb hK hP hD hS 6 0 rfl rfl hin dX13_lays_28 (fun H locs hP hD hS => ?_)
    have hP : va_P D vwCl (kModel G q0 v_9) H := by rw [ev_9]; exact hP
    have hD : va_D A (kModel G q0 v_9) := by rw [ev_9]; exact hD
    refine lv_aload_n hx hb dX13_lays_29 rfl (lv_at hl 1 rfl) ?_
    refine va_get (D := D) (ci := 11) (v := .ref (q0 7)) (C := RX13) (T := TX13) (N := 27) hx hb hts hi11 hown hK hP 0 rfl rfl 15 (by decide) hw2 (fun _ h9 => h9) rfl dX13_lays_30 ?_
    refine lv_iconst (v := 0) hx hb dX13_lays_33 (by decide) ?_
    refine lv_iload_n hx hb dX13_lays_34 rfl (lv_at hl 2 rfl) ?_
    obtain ⟨hin, hf⟩ := ckI_of hf
    obtain ⟨v_10, ev_10, hf⟩ := nm_of hf
    refine va_iast (D := D) hx hb hK hP hD hS 7 0 rfl rfl hin dX13_lays_35 (fun H locs hP hD hS => ?_)
    have hP : va_P D vwCl (kModel G q0 v_10) H := by rw [ev_10]; exact hP
    have hD : va_D A (kModel G q0 v_10) := by rw [ev_10]; exact hD
    refine lv_iconst (v := 1) hx hb dX13_lays_36 (by decide) ?_
    refine lv_istore_n (lv' := [(2, .int 1), (0, .ref (q0 0)), (1, .int a1)]) hx hb dX13_lays_37 rfl hl (by decide) rfl (fun ls hl => ?_)
    refine lv_iconst (v := 0) hx hb dX13_lays_38 (by decide) ?_
    refine lv_istore_n (lv' := [(3, .int 0), (2, .int 1), (0, .ref (q0 0)), (1, .int a1)]) hx hb dX13_lays_39 rfl hl (by decide) rfl (fun ls hl => ?_)
    have exL_29 : ∀ (y_40 : Int32) (y_41 : Int32) (z_42 : SV) (H : Heap) (locs : List Loc) (ls : Array Slot), lv_has ls 5 [(3, .int y_40), (2, .int y_41), (0, .ref (q0 0)), (1, .int a1)] → va_P D vwCl (kModel G q0 z_42) H → va_D A (kModel G q0 z_42) → va_S A s.heap H locs → f_X13_lays_K40 y_40 y_41 z_42 = some v0' → W p l e rm_X13_lays s m args below meth c H locs 0 0 Q0 (F0 m 126 ls []) := by
      intro y_40 y_41 z_42 H locs ls hl hP hD hS hf
      unfold f_X13_lays_K40 at hf
      obtain rfl := re1 hf
      exact hE hP hD hS dX13_lays_126
    have loL_29 : ∀ (n : Nat) (x_26 : Int32) (x_27 : Int32) (u_28 : SV) (H : Heap) (locs : List Loc) (ls : Array Slot), lv_has ls 5 [(3, .int x_26), (2, .int x_27), (0, .ref (q0 0)), (1, .int a1)] → va_P D vwCl (kModel G q0 u_28) H → va_D A (kModel G q0 u_28) → va_S A s.heap H locs → lz3 (f_X13_lays_B40) n x_26 x_27 u_28 = some v0' → W p l e rm_X13_lays s m args below meth c H locs 0 0 Q0 (F0 m 40 ls []) := by
      intro n
      induction n with
      | zero => intro x_26 x_27 u_28 H locs ls hl hP hD hS hf; cases hf
      | succ n ihL_29 =>
        intro x_26 x_27 u_28 H locs ls hl hP hD hS hf
        replace hf := lz3_s hf
        generalize lz3 (f_X13_lays_B40) n = selfL_29 at hf ihL_29
        unfold f_X13_lays_B40 at hf
        refine lv_iload_n hx hb dX13_lays_40 rfl (lv_at hl 0 rfl) ?_
        refine lv_iload_n hx hb dX13_lays_41 rfl (lv_at hl 1 rfl) ?_
        refine lv_icmp_ge (tgt := 126) hx hb dX13_lays_42 (by decide) (fun cc => ?_) (fun cc => ?_)
        · replace hf := ifT cc hf
          exact exL_29 x_26 x_27 u_28 _ _ _ (lv_sub hl [0, 1, 2, 3] rfl) hP hD hS hf
        · replace hf := ifF cc hf
          refine lv_iconst (v := 0) hx hb dX13_lays_45 (by decide) ?_
          refine lv_istore (lv' := [(4, .int 0), (3, .int x_26), (2, .int x_27), (0, .ref (q0 0)), (1, .int a1)]) hx hb dX13_lays_46 hl (by decide) rfl (fun ls hl => ?_)
          have exL_33 : ∀ (y_37 : Int32) (y_38 : Int32) (z_39 : SV) (H : Heap) (locs : List Loc) (ls : Array Slot), lv_has ls 5 [(4, .int y_37), (3, .int x_26), (2, .int y_38), (0, .ref (q0 0)), (1, .int a1)] → va_P D vwCl (kModel G q0 z_39) H → va_D A (kModel G q0 z_39) → va_S A s.heap H locs → f_X13_lays_K48 selfL_29 x_26 y_37 y_38 z_39 = some v0' → W p l e rm_X13_lays s m args below meth c H locs 0 0 Q0 (F0 m 120 ls []) := by
            intro y_37 y_38 z_39 H locs ls hl hP hD hS hf
            unfold f_X13_lays_K48 at hf
            refine lv_iinc (v := (x_26 + 1)) (lv' := [(3, .int (x_26 + 1)), (4, .int y_37), (2, .int y_38), (0, .ref (q0 0)), (1, .int a1)]) hx hb dX13_lays_120 hl (k := 1) rfl rfl (by decide) rfl (fun ls hl => ?_)
            refine lv_goto (tgt := 40) hx hb dX13_lays_123 (by decide) ?_
            exact ihL_29 (x_26 + 1) y_38 z_39 _ _ _ (lv_sub hl [0, 2, 3, 4] rfl) hP hD hS hf
          have loL_33 : ∀ (n : Nat) (x_30 : Int32) (x_31 : Int32) (u_32 : SV) (H : Heap) (locs : List Loc) (ls : Array Slot), lv_has ls 5 [(4, .int x_30), (3, .int x_26), (2, .int x_31), (0, .ref (q0 0)), (1, .int a1)] → va_P D vwCl (kModel G q0 u_32) H → va_D A (kModel G q0 u_32) → va_S A s.heap H locs → lz3 (f_X13_lays_B48 selfL_29 x_26) n x_30 x_31 u_32 = some v0' → W p l e rm_X13_lays s m args below meth c H locs 0 0 Q0 (F0 m 48 ls []) := by
            intro n
            induction n with
            | zero => intro x_30 x_31 u_32 H locs ls hl hP hD hS hf; cases hf
            | succ n ihL_33 =>
              intro x_30 x_31 u_32 H locs ls hl hP hD hS hf
              replace hf := lz3_s hf
              unfold f_X13_lays_B48 at hf
              refine lv_iload hx hb dX13_lays_48 (lv_at hl 0 rfl) ?_
              refine lv_bipush (v := 12) hx hb dX13_lays_50 (by decide +kernel) ?_
              refine lv_icmp_ge (tgt := 120) hx hb dX13_lays_52 (by decide) (fun cc => ?_) (fun cc => ?_)
              · replace hf := ifT cc hf
                exact exL_33 x_30 x_31 u_32 _ _ _ (lv_sub hl [0, 1, 2, 3, 4] rfl) hP hD hS hf
              · replace hf := ifF cc hf
                refine lv_aload_n hx hb dX13_lays_55 rfl (lv_at hl 3 rfl) ?_
                refine va_get (D := D) (ci := 11) (v := .ref (q0 6)) (C := RX13) (T := TX13) (N := 27) hx hb hts hi11 hown hK hP 0 rfl rfl 14 (by decide) hw1 (fun _ h9 => h9) rfl dX13_lays_56 ?_
                refine lv_iload hx hb dX13_lays_59 (lv_at hl 0 rfl) ?_
                obtain ⟨hin, hf⟩ := ckI_of hf
                refine va_iald (D := D) hx hb hK hP 6 0 rfl rfl hin dX13_lays_61 ?_
                refine lv_if_ge (tgt := 114) hx hb dX13_lays_62 (by decide) (fun cc => ?_) (fun cc => ?_)
                · replace hf := ifT cc hf
                  refine lv_iinc (v := (x_30 + 1)) (lv' := [(4, .int (x_30 + 1)), (3, .int x_26), (2, .int x_31), (0, .ref (q0 0)), (1, .int a1)]) hx hb dX13_lays_114 hl (k := 0) rfl rfl (by decide) rfl (fun ls hl => ?_)
                  refine lv_goto (tgt := 48) hx hb dX13_lays_117 (by decide) ?_
                  exact ihL_33 (x_30 + 1) x_31 u_32 _ _ _ (lv_sub hl [0, 1, 2, 3, 4] rfl) hP hD hS hf
                · replace hf := ifF cc hf
                  refine lv_aload_n hx hb dX13_lays_65 rfl (lv_at hl 3 rfl) ?_
                  refine lv_aload_n hx hb dX13_lays_66 rfl (lv_at hl 3 rfl) ?_
                  refine va_get (D := D) (ci := 11) (v := .ref (q0 7)) (C := RX13) (T := TX13) (N := 27) hx hb hts hi11 hown hK hP 0 rfl rfl 15 (by decide) hw2 (fun _ h9 => h9) rfl dX13_lays_67 ?_
                  refine lv_iload_n hx hb dX13_lays_70 rfl (lv_at hl 1 rfl) ?_
                  obtain ⟨hin, hf⟩ := ckI_of hf
                  refine va_iald (D := D) hx hb hK hP 7 0 rfl rfl hin dX13_lays_71 ?_
                  refine lv_iload hx hb dX13_lays_72 (lv_at hl 0 rfl) ?_
                  obtain ⟨r_34, hc, hf⟩ := bd1_of hf
                  refine k_V (As := [.int (u_32.2 6 x_26.toNatClampNeg), .int x_30]) (rest := []) (ws1 := (kModel G q0 u_32)) ⟨hx, hb, hml, hown, hts⟩ (c_X13_isStep l D G q0 (u_32.2 6 x_26.toNatClampNeg) x_30 u_32 _ hc  _) (cwV 2 hts gX13_lays_X13_isStep rfl rfl rfl (by decide +kernel) ⟨Nat.le_of_ble_eq_true rfl, Nat.le_of_ble_eq_true rfl⟩) hl.1 (Nat.le_of_ble_eq_true rfl) dX13_lays_74 ⟨Nat.le_of_ble_eq_true rfl, Nat.le_of_ble_eq_true rfl⟩ rfl kT_bl (fun _ _ _ => trivial) hN hK hP hD hS hA 0 11 rfl rfl rfl [0, 1, 2, 3, 4, 5, 6, 7, 8, 9, 10, 11] [] [0, 1, 2, 3, 4, 5, 6, 7, 8, 9, 10, 11] [0, 1, 2, 3] rfl rfl rfl ⟨by decide, by decide, by decide, by decide⟩ rfl (fun H locs hP hD hS => ?_)
                  refine lv_if_ne (tgt := 83) hx hb dX13_lays_77 (by decide) (fun cc => ?_) (fun cc => ?_)
                  · replace hf := ifF cc hf
                    refine lv_aload_n hx hb dX13_lays_83 rfl (lv_at hl 3 rfl) ?_
                    refine va_get (D := D) (ci := 11) (v := .ref (q0 6)) (C := RX13) (T := TX13) (N := 27) hx hb hts hi11 hown hK hP 0 rfl rfl 14 (by decide) hw1 (fun _ h9 => h9) rfl dX13_lays_84 ?_
                    refine lv_iload hx hb dX13_lays_87 (lv_at hl 0 rfl) ?_
                    refine lv_aload_n hx hb dX13_lays_89 rfl (lv_at hl 3 rfl) ?_
                    refine va_get (D := D) (ci := 11) (v := .ref (q0 6)) (C := RX13) (T := TX13) (N := 27) hx hb hts hi11 hown hK hP 0 rfl rfl 14 (by decide) hw1 (fun _ h9 => h9) rfl dX13_lays_90 ?_
                    refine lv_aload_n hx hb dX13_lays_93 rfl (lv_at hl 3 rfl) ?_
                    refine va_get (D := D) (ci := 11) (v := .ref (q0 7)) (C := RX13) (T := TX13) (N := 27) hx hb hts hi11 hown hK hP 0 rfl rfl 15 (by decide) hw2 (fun _ h9 => h9) rfl dX13_lays_94 ?_
                    refine lv_iload_n hx hb dX13_lays_97 rfl (lv_at hl 1 rfl) ?_
                    obtain ⟨hin, hf⟩ := ckI_of hf
                    refine va_iald (D := D) hx hb hK hP 7 0 rfl rfl hin dX13_lays_98 ?_
                    obtain ⟨hin, hf⟩ := ckI_of hf
                    refine va_iald (D := D) hx hb hK hP 6 0 rfl rfl hin dX13_lays_99 ?_
                    refine lv_iconst (v := 1) hx hb dX13_lays_100 (by decide) ?_
                    refine lv_iadd hx hb dX13_lays_101 ?_
                    obtain ⟨hin, hf⟩ := ckI_of hf
                    obtain ⟨v_35, ev_35, hf⟩ := nm_of hf
                    refine va_iast (D := D) hx hb hK hP hD hS 6 0 rfl rfl hin dX13_lays_102 (fun H locs hP hD hS => ?_)
                    have hP : va_P D vwCl (kModel G q0 v_35) H := by rw [ev_35]; exact hP
                    have hD : va_D A (kModel G q0 v_35) := by rw [ev_35]; exact hD
                    refine lv_aload_n hx hb dX13_lays_103 rfl (lv_at hl 3 rfl) ?_
                    refine va_get (D := D) (ci := 11) (v := .ref (q0 7)) (C := RX13) (T := TX13) (N := 27) hx hb hts hi11 hown hK hP 0 rfl rfl 15 (by decide) hw2 (fun _ h9 => h9) rfl dX13_lays_104 ?_
                    refine lv_iload_n hx hb dX13_lays_107 rfl (lv_at hl 2 rfl) ?_
                    refine lv_iload hx hb dX13_lays_108 (lv_at hl 0 rfl) ?_
                    obtain ⟨hin, hf⟩ := ckI_of hf
                    obtain ⟨v_36, ev_36, hf⟩ := nm_of hf
                    refine va_iast (D := D) hx hb hK hP hD hS 7 0 rfl rfl hin dX13_lays_110 (fun H locs hP hD hS => ?_)
                    have hP : va_P D vwCl (kModel G q0 v_36) H := by rw [ev_36]; exact hP
                    have hD : va_D A (kModel G q0 v_36) := by rw [ev_36]; exact hD
                    refine lv_iinc (v := (x_31 + 1)) (lv' := [(2, .int (x_31 + 1)), (4, .int x_30), (3, .int x_26), (0, .ref (q0 0)), (1, .int a1)]) hx hb dX13_lays_111 hl (k := 2) rfl rfl (by decide) rfl (fun ls hl => ?_)
                    refine lv_iinc (v := (x_30 + 1)) (lv' := [(4, .int (x_30 + 1)), (2, .int (x_31 + 1)), (3, .int x_26), (0, .ref (q0 0)), (1, .int a1)]) hx hb dX13_lays_114 hl (k := 1) rfl rfl (by decide) rfl (fun ls hl => ?_)
                    refine lv_goto (tgt := 48) hx hb dX13_lays_117 (by decide) ?_
                    exact ihL_33 (x_30 + 1) (x_31 + 1) v_36 _ _ _ (lv_sub hl [0, 2, 1, 3, 4] rfl) hP hD hS hf
                  · replace hf := ifT cc hf
                    refine lv_goto (tgt := 114) hx hb dX13_lays_80 (by decide) ?_
                    refine lv_iinc (v := (x_30 + 1)) (lv' := [(4, .int (x_30 + 1)), (3, .int x_26), (2, .int x_31), (0, .ref (q0 0)), (1, .int a1)]) hx hb dX13_lays_114 hl (k := 0) rfl rfl (by decide) rfl (fun ls hl => ?_)
                    refine lv_goto (tgt := 48) hx hb dX13_lays_117 (by decide) ?_
                    exact ihL_33 (x_30 + 1) x_31 u_32 _ _ _ (lv_sub hl [0, 1, 2, 3, 4] rfl) hP hD hS hf
          exact loL_33 FU 0 x_27 u_28 _ _ _ hl hP hD hS hf
    exact loL_29 FU 0 1 v_10 _ _ _ hl hP hD hS hf
  have loL_5 : ∀ (n : Nat) (x_3 : Int32) (u_4 : SV) (H : Heap) (locs : List Loc) (ls : Array Slot), lv_has ls 5 [(2, .int x_3), (0, .ref (q0 0)), (1, .int a1)] → va_P D vwCl (kModel G q0 u_4) H → va_D A (kModel G q0 u_4) → va_S A s.heap H locs → lz2 (f_X13_lays_B2 a1) n x_3 u_4 = some v0' → W p l e rm_X13_lays s m args below meth c H locs 0 0 Q0 (F0 m 2 ls []) := by
    intro n
    induction n with
    | zero => intro x_3 u_4 H locs ls hl hP hD hS hf; cases hf
    | succ n ihL_5 =>
      intro x_3 u_4 H locs ls hl hP hD hS hf
      replace hf := lz2_s hf
      unfold f_X13_lays_B2 at hf
      refine lv_iload_n hx hb dX13_lays_2 rfl (lv_at hl 0 rfl) ?_
      refine lv_bipush (v := 12) hx hb dX13_lays_3 (by decide +kernel) ?_
      refine lv_icmp_ge (tgt := 22) hx hb dX13_lays_5 (by decide) (fun cc => ?_) (fun cc => ?_)
      · replace hf := ifT cc hf
        exact exL_5 x_3 u_4 _ _ _ (lv_sub hl [0, 1, 2] rfl) hP hD hS hf
      · replace hf := ifF cc hf
        refine lv_aload_n hx hb dX13_lays_8 rfl (lv_at hl 1 rfl) ?_
        refine va_get (D := D) (ci := 11) (v := .ref (q0 6)) (C := RX13) (T := TX13) (N := 27) hx hb hts hi11 hown hK hP 0 rfl rfl 14 (by decide) hw1 (fun _ h9 => h9) rfl dX13_lays_9 ?_
        refine lv_iload_n hx hb dX13_lays_12 rfl (lv_at hl 0 rfl) ?_
        refine lv_bipush (v := (-4)) hx hb dX13_lays_13 (by decide +kernel) ?_
        obtain ⟨hin, hf⟩ := ckI_of hf
        obtain ⟨v_6, ev_6, hf⟩ := nm_of hf
        refine va_iast (D := D) hx hb hK hP hD hS 6 0 rfl rfl hin dX13_lays_15 (fun H locs hP hD hS => ?_)
        have hP : va_P D vwCl (kModel G q0 v_6) H := by rw [ev_6]; exact hP
        have hD : va_D A (kModel G q0 v_6) := by rw [ev_6]; exact hD
        refine lv_iinc (v := (x_3 + 1)) (lv' := [(2, .int (x_3 + 1)), (0, .ref (q0 0)), (1, .int a1)]) hx hb dX13_lays_16 hl (k := 0) rfl rfl (by decide) rfl (fun ls hl => ?_)
        refine lv_goto (tgt := 2) hx hb dX13_lays_19 (by decide) ?_
        exact ihL_5 (x_3 + 1) v_6 _ _ _ (lv_sub hl [0, 1, 2] rfl) hP hD hS hf
  exact loL_5 FU 0 v0 _ _ _ hl hP hD hS hf
def f_X13_fewest (a1 : Int32) (a2 : Int32) (v0 : SV) : Option (Int32 × SV) :=
  bd1 (f_X13_lays a2 v0) fun w_1 =>
  ckI a1 12 <|
  some ((w_1.2 5 a1.toNatClampNeg), w_1)
abbrev rm_X13_fewest : Room := { frames := 6, cells := 0, slots := 0, locals := 135 }
set_option maxHeartbeats 4000000 in
set_option maxRecDepth 100000 in
theorem c_X13_fewest (l : Launch) (D : va_G) (G : Nat → ClassId) (q0 : Nat → Nat) (a1 : Int32) (a2 : Int32) (v0 : SV) (r : Int32) (v0' : SV) (hf : f_X13_fewest a1 a2 v0 = some (r, v0')) (sz : Nat) : mC l yX13_fewest wsX13_fewest rm_X13_fewest D (tyG G) kT [.ref (q0 0), .int a1, .int a2] (kModel G q0 v0) (kModel G q0 v0') sz (some (.int r)) 0 0 := by
  refine mC_ofI (cc := cX13_fewest) (maxL := 3) (ret := (some .int)) (by decide) rfl rfl (Nat.le_of_ble_eq_true rfl) ?_
  intro p e s m args below meth c Q0 hx hb hml hts hown hN hK A hD hA hE hP hS hJ ls hl
  have hl : lv_has ls 3 [(0, .ref (q0 0)), (1, .int a1), (2, .int a2)] := hl
  unfold f_X13_fewest at hf
  have hi11 : ∀ w ∈ u_ws RX13 TX13 27, w ∈ wsX13_fewest := by decide +kernel
  have hw1 := hts (.fieldLink RX13 54 "BalconyCensusModel" "far" "[I") (by decide +kernel)
  refine lv_aload_n hx hb dX13_fewest_0 rfl (lv_at hl 0 rfl) ?_
  refine lv_iload_n hx hb dX13_fewest_1 rfl (lv_at hl 2 rfl) ?_
  obtain ⟨w_1, hc, hf⟩ := bd1_of hf
  refine k_V (As := [.int a2]) (rest := []) (ws1 := (kModel G q0 w_1)) ⟨hx, hb, hml, hown, hts⟩ (c_X13_lays l D G q0 a2 v0 _ hc  _) (cwV 1 hts gX13_fewest_X13_lays rfl rfl rfl (by decide +kernel) ⟨Nat.le_of_ble_eq_true rfl, Nat.le_of_ble_eq_true rfl⟩) hl.1 (Nat.le_of_ble_eq_true rfl) dX13_fewest_2 ⟨Nat.le_of_ble_eq_true rfl, Nat.le_of_ble_eq_true rfl⟩ rfl kT_bl (fun _ _ _ => trivial) hN hK hP hD hS hA 0 11 rfl rfl rfl [0, 1, 2, 3, 4, 5, 6, 7, 8, 9, 10, 11] [] [0, 1, 2, 3, 4, 5, 6, 7, 8, 9, 10, 11] [0, 1, 2, 3] rfl rfl rfl ⟨by decide, by decide, by decide, by decide⟩ rfl (fun H locs hP hD hS => ?_)
  refine lv_aload_n hx hb dX13_fewest_5 rfl (lv_at hl 0 rfl) ?_
  refine va_get (D := D) (ci := 11) (v := .ref (q0 6)) (C := RX13) (T := TX13) (N := 27) hx hb hts hi11 hown hK hP 0 rfl rfl 14 (by decide) hw1 (fun _ h9 => h9) rfl dX13_fewest_6 ?_
  refine lv_iload_n hx hb dX13_fewest_9 rfl (lv_at hl 1 rfl) ?_
  obtain ⟨hin, hf⟩ := ckI_of hf
  refine va_iald (D := D) hx hb hK hP 6 0 rfl rfl hin dX13_fewest_10 ?_
  obtain ⟨rfl, rfl⟩ := re2 hf
  exact hE hP hD hS dX13_fewest_11
def f_X13_catOf (a1 : Int32) (a2 : Int32) (v0 : SV) : Option (Int32 × SV) :=
  ckI 1 240 <|
  bd1 (f_X13_in a1 0 ((v0.2 0 (1 : Int32).toNatClampNeg) - 1)) fun r_1 =>
  if r_1 = 0 then
    some ((-1), v0)
  else
    bd1 (f_X13_in a2 0 3) fun r_2 =>
    if r_2 = 0 then
      some ((-2), v0)
    else
      if 3 ≤ a2 then
        bd1 (f_X13_catPart a1 0 v0) fun r_3 =>
        bd1 (f_X13_catPart a1 1 v0) fun r_4 =>
        bd2 (f_X13_fewest r_3 r_4 v0) fun r_5 w_6 =>
        some (r_5, w_6)
      else
        bd1 (f_X13_catPart a1 a2 v0) fun r_7 =>
        some (r_7, v0)
abbrev rm_X13_catOf : Room := { frames := 7, cells := 0, slots := 0, locals := 157 }
set_option maxHeartbeats 4000000 in
set_option maxRecDepth 100000 in
theorem c_X13_catOf (l : Launch) (D : va_G) (G : Nat → ClassId) (q0 : Nat → Nat) (a1 : Int32) (a2 : Int32) (v0 : SV) (r : Int32) (v0' : SV) (hf : f_X13_catOf a1 a2 v0 = some (r, v0')) (sz : Nat) : mC l yX13_catOf wsX13_catOf rm_X13_catOf D (tyG G) kT [.ref (q0 0), .int a1, .int a2] (kModel G q0 v0) (kModel G q0 v0') sz (some (.int r)) 0 0 := by
  refine mC_ofI (cc := cX13_catOf) (maxL := 3) (ret := (some .int)) (by decide) rfl rfl (Nat.le_of_ble_eq_true rfl) ?_
  intro p e s m args below meth c Q0 hx hb hml hts hown hN hK A hD hA hE hP hS hJ ls hl
  have hl : lv_has ls 3 [(0, .ref (q0 0)), (1, .int a1), (2, .int a2)] := hl
  unfold f_X13_catOf at hf
  have hi11 : ∀ w ∈ u_ws RX13 TX13 27, w ∈ wsX13_catOf := by decide +kernel
  have hw1 := hts (.fieldLink RX13 7 "BalconyCensusModel" "now" "[I") (by decide +kernel)
  refine lv_iload_n hx hb dX13_catOf_0 rfl (lv_at hl 1 rfl) ?_
  refine lv_iconst (v := 0) hx hb dX13_catOf_1 (by decide) ?_
  refine lv_aload_n hx hb dX13_catOf_2 rfl (lv_at hl 0 rfl) ?_
  refine va_get (D := D) (ci := 11) (v := .ref (q0 1)) (C := RX13) (T := TX13) (N := 27) hx hb hts hi11 hown hK hP 0 rfl rfl 0 (by decide) hw1 (fun _ h9 => h9) rfl dX13_catOf_3 ?_
  refine lv_iconst (v := 1) hx hb dX13_catOf_6 (by decide) ?_
  obtain ⟨hin, hf⟩ := ckI_of hf
  refine va_iald (D := D) hx hb hK hP 1 0 rfl rfl hin dX13_catOf_7 ?_
  refine lv_iconst (v := 1) hx hb dX13_catOf_8 (by decide) ?_
  refine lv_isub hx hb dX13_catOf_9 ?_
  obtain ⟨r_1, hc, hf⟩ := bd1_of hf
  refine k_S (As := [.int a1, .int 0, .int ((v0.2 0 (1 : Int32).toNatClampNeg) - 1)]) (rest := []) (ws1 := (kModel G q0 v0)) ⟨hx, hb, hml, hown, hts⟩ (c_X13_in l D G  a1 0 ((v0.2 0 (1 : Int32).toNatClampNeg) - 1)  _ hc  _) (va_cwS 3 hts gX13_catOf_X13_in rfl rfl rfl (by decide +kernel) ⟨Nat.le_of_ble_eq_true rfl, Nat.le_of_ble_eq_true rfl⟩) hl.1 (Nat.le_of_ble_eq_true rfl) dX13_catOf_10 ⟨Nat.le_of_ble_eq_true rfl, Nat.le_of_ble_eq_true rfl⟩ rfl kT_bl (fun _ _ _ => trivial) hN hK hP hD hS hA [] [0, 1, 2, 3, 4, 5, 6, 7, 8, 9, 10, 11] [0, 1, 2, 3, 4, 5, 6, 7, 8, 9, 10, 11] [0, 1, 2, 3] rfl rfl rfl ⟨by decide, by decide, by decide, by decide⟩ rfl (fun H locs hP hD hS => ?_)
  refine lv_if_ne (tgt := 18) hx hb dX13_catOf_13 (by decide) (fun cc => ?_) (fun cc => ?_)
  · replace hf := ifF cc hf
    refine lv_iload_n hx hb dX13_catOf_18 rfl (lv_at hl 2 rfl) ?_
    refine lv_iconst (v := 0) hx hb dX13_catOf_19 (by decide) ?_
    refine lv_iconst (v := 3) hx hb dX13_catOf_20 (by decide) ?_
    obtain ⟨r_2, hc, hf⟩ := bd1_of hf
    refine k_S (As := [.int a2, .int 0, .int 3]) (rest := []) (ws1 := (kModel G q0 v0)) ⟨hx, hb, hml, hown, hts⟩ (c_X13_in l D G  a2 0 3  _ hc  _) (va_cwS 3 hts gX13_catOf_X13_in rfl rfl rfl (by decide +kernel) ⟨Nat.le_of_ble_eq_true rfl, Nat.le_of_ble_eq_true rfl⟩) hl.1 (Nat.le_of_ble_eq_true rfl) dX13_catOf_21 ⟨Nat.le_of_ble_eq_true rfl, Nat.le_of_ble_eq_true rfl⟩ rfl kT_bl (fun _ _ _ => trivial) hN hK hP hD hS hA [] [0, 1, 2, 3, 4, 5, 6, 7, 8, 9, 10, 11] [0, 1, 2, 3, 4, 5, 6, 7, 8, 9, 10, 11] [0, 1, 2, 3] rfl rfl rfl ⟨by decide, by decide, by decide, by decide⟩ rfl (fun H locs hP hD hS => ?_)
    refine lv_if_ne (tgt := 30) hx hb dX13_catOf_24 (by decide) (fun cc => ?_) (fun cc => ?_)
    · replace hf := ifF cc hf
      refine lv_iload_n hx hb dX13_catOf_30 rfl (lv_at hl 2 rfl) ?_
      refine lv_iconst (v := 3) hx hb dX13_catOf_31 (by decide) ?_
      refine lv_icmp_ge (tgt := 44) hx hb dX13_catOf_32 (by decide) (fun cc => ?_) (fun cc => ?_)
      · replace hf := ifT cc hf
        refine lv_aload_n hx hb dX13_catOf_44 rfl (lv_at hl 0 rfl) ?_
        refine lv_aload_n hx hb dX13_catOf_45 rfl (lv_at hl 0 rfl) ?_
        refine lv_iload_n hx hb dX13_catOf_46 rfl (lv_at hl 1 rfl) ?_
        refine lv_iconst (v := 0) hx hb dX13_catOf_47 (by decide) ?_
        obtain ⟨r_3, hc, hf⟩ := bd1_of hf
        refine k_V (As := [.int a1, .int 0]) (rest := [.ref (q0 0)]) (ws1 := (kModel G q0 v0)) ⟨hx, hb, hml, hown, hts⟩ (c_X13_catPart l D G q0 a1 0 v0 _ hc  _) (cwV 2 hts gX13_catOf_X13_catPart rfl rfl rfl (by decide +kernel) ⟨Nat.le_of_ble_eq_true rfl, Nat.le_of_ble_eq_true rfl⟩) hl.1 (Nat.le_of_ble_eq_true rfl) dX13_catOf_48 ⟨Nat.le_of_ble_eq_true rfl, Nat.le_of_ble_eq_true rfl⟩ rfl kT_bl (fun _ _ _ => trivial) hN hK hP hD hS hA 0 11 rfl rfl rfl [0, 1, 2, 3, 4, 5, 6, 7, 8, 9, 10, 11] [] [0, 1, 2, 3, 4, 5, 6, 7, 8, 9, 10, 11] [0, 1, 2, 3] rfl rfl rfl ⟨by decide, by decide, by decide, by decide⟩ rfl (fun H locs hP hD hS => ?_)
        refine lv_aload_n hx hb dX13_catOf_51 rfl (lv_at hl 0 rfl) ?_
        refine lv_iload_n hx hb dX13_catOf_52 rfl (lv_at hl 1 rfl) ?_
        refine lv_iconst (v := 1) hx hb dX13_catOf_53 (by decide) ?_
        obtain ⟨r_4, hc, hf⟩ := bd1_of hf
        refine k_V (As := [.int a1, .int 1]) (rest := [.int r_3, .ref (q0 0)]) (ws1 := (kModel G q0 v0)) ⟨hx, hb, hml, hown, hts⟩ (c_X13_catPart l D G q0 a1 1 v0 _ hc  _) (cwV 2 hts gX13_catOf_X13_catPart rfl rfl rfl (by decide +kernel) ⟨Nat.le_of_ble_eq_true rfl, Nat.le_of_ble_eq_true rfl⟩) hl.1 (Nat.le_of_ble_eq_true rfl) dX13_catOf_54 ⟨Nat.le_of_ble_eq_true rfl, Nat.le_of_ble_eq_true rfl⟩ rfl kT_bl (fun _ _ _ => trivial) hN hK hP hD hS hA 0 11 rfl rfl rfl [0, 1, 2, 3, 4, 5, 6, 7, 8, 9, 10, 11] [] [0, 1, 2, 3, 4, 5, 6, 7, 8, 9, 10, 11] [0, 1, 2, 3] rfl rfl rfl ⟨by decide, by decide, by decide, by decide⟩ rfl (fun H locs hP hD hS => ?_)
        obtain ⟨r_5, w_6, hc, hf⟩ := bd2_of hf
        refine k_V (As := [.int r_3, .int r_4]) (rest := []) (ws1 := (kModel G q0 w_6)) ⟨hx, hb, hml, hown, hts⟩ (c_X13_fewest l D G q0 r_3 r_4 v0 _ _ hc  _) (cwV 2 hts gX13_catOf_X13_fewest rfl rfl rfl (by decide +kernel) ⟨Nat.le_of_ble_eq_true rfl, Nat.le_of_ble_eq_true rfl⟩) hl.1 (Nat.le_of_ble_eq_true rfl) dX13_catOf_57 ⟨Nat.le_of_ble_eq_true rfl, Nat.le_of_ble_eq_true rfl⟩ rfl kT_bl (fun _ _ _ => trivial) hN hK hP hD hS hA 0 11 rfl rfl rfl [0, 1, 2, 3, 4, 5, 6, 7, 8, 9, 10, 11] [] [0, 1, 2, 3, 4, 5, 6, 7, 8, 9, 10, 11] [0, 1, 2, 3] rfl rfl rfl ⟨by decide, by decide, by decide, by decide⟩ rfl (fun H locs hP hD hS => ?_)
        obtain ⟨rfl, rfl⟩ := re2 hf
        exact hE hP hD hS dX13_catOf_60
      · replace hf := ifF cc hf
        refine lv_aload_n hx hb dX13_catOf_35 rfl (lv_at hl 0 rfl) ?_
        refine lv_iload_n hx hb dX13_catOf_36 rfl (lv_at hl 1 rfl) ?_
        refine lv_iload_n hx hb dX13_catOf_37 rfl (lv_at hl 2 rfl) ?_
        obtain ⟨r_7, hc, hf⟩ := bd1_of hf
        refine k_V (As := [.int a1, .int a2]) (rest := []) (ws1 := (kModel G q0 v0)) ⟨hx, hb, hml, hown, hts⟩ (c_X13_catPart l D G q0 a1 a2 v0 _ hc  _) (cwV 2 hts gX13_catOf_X13_catPart rfl rfl rfl (by decide +kernel) ⟨Nat.le_of_ble_eq_true rfl, Nat.le_of_ble_eq_true rfl⟩) hl.1 (Nat.le_of_ble_eq_true rfl) dX13_catOf_38 ⟨Nat.le_of_ble_eq_true rfl, Nat.le_of_ble_eq_true rfl⟩ rfl kT_bl (fun _ _ _ => trivial) hN hK hP hD hS hA 0 11 rfl rfl rfl [0, 1, 2, 3, 4, 5, 6, 7, 8, 9, 10, 11] [] [0, 1, 2, 3, 4, 5, 6, 7, 8, 9, 10, 11] [0, 1, 2, 3] rfl rfl rfl ⟨by decide, by decide, by decide, by decide⟩ rfl (fun H locs hP hD hS => ?_)
        refine lv_goto (tgt := 60) hx hb dX13_catOf_41 (by decide) ?_
        obtain ⟨rfl, rfl⟩ := re2 hf
        exact hE hP hD hS dX13_catOf_60
    · replace hf := ifT cc hf
      refine lv_bipush (v := (-2)) hx hb dX13_catOf_27 (by decide +kernel) ?_
      obtain ⟨rfl, rfl⟩ := re2 hf
      exact hE hP hD hS dX13_catOf_29
  · replace hf := ifT cc hf
    refine lv_iconst (v := (-1)) hx hb dX13_catOf_16 (by decide) ?_
    obtain ⟨rfl, rfl⟩ := re2 hf
    exact hE hP hD hS dX13_catOf_17
def f_X13_lineOf (a1 : Int32) (a2 : Int32) (v0 : SV) : Option Int32 :=
  ckI 0 240 <|
  bd1 (f_X13_in a1 0 ((v0.2 0 (0 : Int32).toNatClampNeg) - 1)) fun r_1 =>
  if r_1 = 0 then
    some (-1)
  else
    bd1 (f_X13_in a2 0 2) fun r_2 =>
    if r_2 = 0 then
      some (-2)
    else
      bd1 (f_X13_linePart a1 a2 v0) fun r_3 =>
      some r_3
abbrev rm_X13_lineOf : Room := { frames := 1, cells := 0, slots := 0, locals := 22 }
set_option maxHeartbeats 4000000 in
set_option maxRecDepth 100000 in
theorem c_X13_lineOf (l : Launch) (D : va_G) (G : Nat → ClassId) (q0 : Nat → Nat) (a1 : Int32) (a2 : Int32) (v0 : SV) (r : Int32) (hf : f_X13_lineOf a1 a2 v0 = some r) (sz : Nat) : mC l yX13_lineOf wsX13_lineOf rm_X13_lineOf D (tyG G) kT [.ref (q0 0), .int a1, .int a2] (kModel G q0 v0) (kModel G q0 v0) sz (some (.int r)) 0 0 := by
  refine mC_ofI (cc := cX13_lineOf) (maxL := 3) (ret := (some .int)) (by decide) rfl rfl (Nat.le_of_ble_eq_true rfl) ?_
  intro p e s m args below meth c Q0 hx hb hml hts hown hN hK A hD hA hE hP hS hJ ls hl
  have hl : lv_has ls 3 [(0, .ref (q0 0)), (1, .int a1), (2, .int a2)] := hl
  unfold f_X13_lineOf at hf
  have hi11 : ∀ w ∈ u_ws RX13 TX13 27, w ∈ wsX13_lineOf := by decide +kernel
  have hw1 := hts (.fieldLink RX13 7 "BalconyCensusModel" "now" "[I") (by decide +kernel)
  refine lv_iload_n hx hb dX13_lineOf_0 rfl (lv_at hl 1 rfl) ?_
  refine lv_iconst (v := 0) hx hb dX13_lineOf_1 (by decide) ?_
  refine lv_aload_n hx hb dX13_lineOf_2 rfl (lv_at hl 0 rfl) ?_
  refine va_get (D := D) (ci := 11) (v := .ref (q0 1)) (C := RX13) (T := TX13) (N := 27) hx hb hts hi11 hown hK hP 0 rfl rfl 0 (by decide) hw1 (fun _ h9 => h9) rfl dX13_lineOf_3 ?_
  refine lv_iconst (v := 0) hx hb dX13_lineOf_6 (by decide) ?_
  obtain ⟨hin, hf⟩ := ckI_of hf
  refine va_iald (D := D) hx hb hK hP 1 0 rfl rfl hin dX13_lineOf_7 ?_
  refine lv_iconst (v := 1) hx hb dX13_lineOf_8 (by decide) ?_
  refine lv_isub hx hb dX13_lineOf_9 ?_
  obtain ⟨r_1, hc, hf⟩ := bd1_of hf
  refine k_S (As := [.int a1, .int 0, .int ((v0.2 0 (0 : Int32).toNatClampNeg) - 1)]) (rest := []) (ws1 := (kModel G q0 v0)) ⟨hx, hb, hml, hown, hts⟩ (c_X13_in l D G  a1 0 ((v0.2 0 (0 : Int32).toNatClampNeg) - 1)  _ hc  _) (va_cwS 3 hts gX13_lineOf_X13_in rfl rfl rfl (by decide +kernel) ⟨Nat.le_of_ble_eq_true rfl, Nat.le_of_ble_eq_true rfl⟩) hl.1 (Nat.le_of_ble_eq_true rfl) dX13_lineOf_10 ⟨Nat.le_of_ble_eq_true rfl, Nat.le_of_ble_eq_true rfl⟩ rfl kT_bl (fun _ _ _ => trivial) hN hK hP hD hS hA [] [0, 1, 2, 3, 4, 5, 6, 7, 8, 9, 10, 11] [0, 1, 2, 3, 4, 5, 6, 7, 8, 9, 10, 11] [0, 1, 2, 3] rfl rfl rfl ⟨by decide, by decide, by decide, by decide⟩ rfl (fun H locs hP hD hS => ?_)
  refine lv_if_ne (tgt := 18) hx hb dX13_lineOf_13 (by decide) (fun cc => ?_) (fun cc => ?_)
  · replace hf := ifF cc hf
    refine lv_iload_n hx hb dX13_lineOf_18 rfl (lv_at hl 2 rfl) ?_
    refine lv_iconst (v := 0) hx hb dX13_lineOf_19 (by decide) ?_
    refine lv_iconst (v := 2) hx hb dX13_lineOf_20 (by decide) ?_
    obtain ⟨r_2, hc, hf⟩ := bd1_of hf
    refine k_S (As := [.int a2, .int 0, .int 2]) (rest := []) (ws1 := (kModel G q0 v0)) ⟨hx, hb, hml, hown, hts⟩ (c_X13_in l D G  a2 0 2  _ hc  _) (va_cwS 3 hts gX13_lineOf_X13_in rfl rfl rfl (by decide +kernel) ⟨Nat.le_of_ble_eq_true rfl, Nat.le_of_ble_eq_true rfl⟩) hl.1 (Nat.le_of_ble_eq_true rfl) dX13_lineOf_21 ⟨Nat.le_of_ble_eq_true rfl, Nat.le_of_ble_eq_true rfl⟩ rfl kT_bl (fun _ _ _ => trivial) hN hK hP hD hS hA [] [0, 1, 2, 3, 4, 5, 6, 7, 8, 9, 10, 11] [0, 1, 2, 3, 4, 5, 6, 7, 8, 9, 10, 11] [0, 1, 2, 3] rfl rfl rfl ⟨by decide, by decide, by decide, by decide⟩ rfl (fun H locs hP hD hS => ?_)
    refine lv_if_eq (tgt := 36) hx hb dX13_lineOf_24 (by decide) (fun cc => ?_) (fun cc => ?_)
    · replace hf := ifT cc hf
      refine lv_bipush (v := (-2)) hx hb dX13_lineOf_36 (by decide +kernel) ?_
      obtain rfl := re1 hf
      exact hE hP hD hS dX13_lineOf_38
    · replace hf := ifF cc hf
      refine lv_aload_n hx hb dX13_lineOf_27 rfl (lv_at hl 0 rfl) ?_
      refine lv_iload_n hx hb dX13_lineOf_28 rfl (lv_at hl 1 rfl) ?_
      refine lv_iload_n hx hb dX13_lineOf_29 rfl (lv_at hl 2 rfl) ?_
      obtain ⟨r_3, hc, hf⟩ := bd1_of hf
      refine k_V (As := [.int a1, .int a2]) (rest := []) (ws1 := (kModel G q0 v0)) ⟨hx, hb, hml, hown, hts⟩ (c_X13_linePart l D G q0 a1 a2 v0 _ hc  _) (cwV 2 hts gX13_lineOf_X13_linePart rfl rfl rfl (by decide +kernel) ⟨Nat.le_of_ble_eq_true rfl, Nat.le_of_ble_eq_true rfl⟩) hl.1 (Nat.le_of_ble_eq_true rfl) dX13_lineOf_30 ⟨Nat.le_of_ble_eq_true rfl, Nat.le_of_ble_eq_true rfl⟩ rfl kT_bl (fun _ _ _ => trivial) hN hK hP hD hS hA 0 11 rfl rfl rfl [0, 1, 2, 3, 4, 5, 6, 7, 8, 9, 10, 11] [] [0, 1, 2, 3, 4, 5, 6, 7, 8, 9, 10, 11] [0, 1, 2, 3] rfl rfl rfl ⟨by decide, by decide, by decide, by decide⟩ rfl (fun H locs hP hD hS => ?_)
      refine lv_goto (tgt := 38) hx hb dX13_lineOf_33 (by decide) ?_
      obtain rfl := re1 hf
      exact hE hP hD hS dX13_lineOf_38
  · replace hf := ifT cc hf
    refine lv_iconst (v := (-1)) hx hb dX13_lineOf_16 (by decide) ?_
    obtain rfl := re1 hf
    exact hE hP hD hS dX13_lineOf_17
def f_X13_feuds (v0 : SV) : Option Int32 :=
  bd1 (f_X13_allFeuds v0) fun r_1 =>
  some r_1
abbrev rm_X13_feuds : Room := { frames := 6, cells := 0, slots := 0, locals := 134 }
set_option maxHeartbeats 4000000 in
set_option maxRecDepth 100000 in
theorem c_X13_feuds (l : Launch) (D : va_G) (G : Nat → ClassId) (q0 : Nat → Nat) (v0 : SV) (r : Int32) (hf : f_X13_feuds v0 = some r) (sz : Nat) : mC l yX13_feuds wsX13_feuds rm_X13_feuds D (tyG G) kT [.ref (q0 0)] (kModel G q0 v0) (kModel G q0 v0) sz (some (.int r)) 0 0 := by
  refine mC_ofI (cc := cX13_feuds) (maxL := 1) (ret := (some .int)) (by decide) rfl rfl (Nat.le_of_ble_eq_true rfl) ?_
  intro p e s m args below meth c Q0 hx hb hml hts hown hN hK A hD hA hE hP hS hJ ls hl
  have hl : lv_has ls 1 [(0, .ref (q0 0))] := hl
  unfold f_X13_feuds at hf
  refine lv_aload_n hx hb dX13_feuds_0 rfl (lv_at hl 0 rfl) ?_
  obtain ⟨r_1, hc, hf⟩ := bd1_of hf
  refine k_V (As := []) (rest := []) (ws1 := (kModel G q0 v0)) ⟨hx, hb, hml, hown, hts⟩ (c_X13_allFeuds l D G q0  v0 _ hc  _) (cwV 0 hts gX13_feuds_X13_allFeuds rfl rfl rfl (by decide +kernel) ⟨Nat.le_of_ble_eq_true rfl, Nat.le_of_ble_eq_true rfl⟩) hl.1 (Nat.le_of_ble_eq_true rfl) dX13_feuds_1 ⟨Nat.le_of_ble_eq_true rfl, Nat.le_of_ble_eq_true rfl⟩ rfl kT_bl (fun _ _ _ => trivial) hN hK hP hD hS hA 0 11 rfl rfl rfl [0, 1, 2, 3, 4, 5, 6, 7, 8, 9, 10, 11] [] [0, 1, 2, 3, 4, 5, 6, 7, 8, 9, 10, 11] [0, 1, 2, 3] rfl rfl rfl ⟨by decide, by decide, by decide, by decide⟩ rfl (fun H locs hP hD hS => ?_)
  obtain rfl := re1 hf
  exact hE hP hD hS dX13_feuds_4
def f_X13_feudsAgain (v0 : SV) : Option Int32 :=
  bd1 (f_X13_allFeuds v0) fun r_1 =>
  some r_1
abbrev rm_X13_feudsAgain : Room := { frames := 6, cells := 0, slots := 0, locals := 134 }
set_option maxHeartbeats 4000000 in
set_option maxRecDepth 100000 in
theorem c_X13_feudsAgain (l : Launch) (D : va_G) (G : Nat → ClassId) (q0 : Nat → Nat) (v0 : SV) (r : Int32) (hf : f_X13_feudsAgain v0 = some r) (sz : Nat) : mC l yX13_feudsAgain wsX13_feudsAgain rm_X13_feudsAgain D (tyG G) kT [.ref (q0 0)] (kModel G q0 v0) (kModel G q0 v0) sz (some (.int r)) 0 0 := by
  refine mC_ofI (cc := cX13_feudsAgain) (maxL := 1) (ret := (some .int)) (by decide) rfl rfl (Nat.le_of_ble_eq_true rfl) ?_
  intro p e s m args below meth c Q0 hx hb hml hts hown hN hK A hD hA hE hP hS hJ ls hl
  have hl : lv_has ls 1 [(0, .ref (q0 0))] := hl
  unfold f_X13_feudsAgain at hf
  refine lv_aload_n hx hb dX13_feudsAgain_0 rfl (lv_at hl 0 rfl) ?_
  obtain ⟨r_1, hc, hf⟩ := bd1_of hf
  refine k_V (As := []) (rest := []) (ws1 := (kModel G q0 v0)) ⟨hx, hb, hml, hown, hts⟩ (c_X13_allFeuds l D G q0  v0 _ hc  _) (cwV 0 hts gX13_feudsAgain_X13_allFeuds rfl rfl rfl (by decide +kernel) ⟨Nat.le_of_ble_eq_true rfl, Nat.le_of_ble_eq_true rfl⟩) hl.1 (Nat.le_of_ble_eq_true rfl) dX13_feudsAgain_1 ⟨Nat.le_of_ble_eq_true rfl, Nat.le_of_ble_eq_true rfl⟩ rfl kT_bl (fun _ _ _ => trivial) hN hK hP hD hS hA 0 11 rfl rfl rfl [0, 1, 2, 3, 4, 5, 6, 7, 8, 9, 10, 11] [] [0, 1, 2, 3, 4, 5, 6, 7, 8, 9, 10, 11] [0, 1, 2, 3] rfl rfl rfl ⟨by decide, by decide, by decide, by decide⟩ rfl (fun H locs hP hD hS => ?_)
  obtain rfl := re1 hf
  exact hE hP hD hS dX13_feudsAgain_4
