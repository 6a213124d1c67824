/-! Walks, laid by wip/whole/gen.py: for each method f_ (what it does to its world) and c_ (its contract). -/
def f_X13_read_K28 (y_31 : Int32) (z_32 : SV) : Option (Int32 × SV) :=
  bd2 (f_X13_keeps (z_32.1 13) z_32) fun r_33 w_34 =>
  some (r_33, w_34)
def f_X13_read_J76 (v_22 : SV) (x_16 : Int32) (j_24 : Int32) : Option (Int32 × SV) :=
  nm (pF v_22 5 j_24) fun v_25 =>
  nm (pF v_25 6 (v_25.1 2)) fun v_26 =>
  if (v_26.1 15) = 0 then
    nm (pF v_26 3 10) fun v_27 =>
    nm (pF v_27 4 x_16) fun v_28 =>
    some ((-3), v_28)
  else
    nm (pF v_26 3 11) fun v_29 =>
    nm (pF v_29 4 x_16) fun v_30 =>
    some ((-3), v_30)
def f_X13_read_B28 (selfL_18 : (Int32 → SV → Option (Int32 × SV))) (x_16 : Int32) (u_17 : SV) : Option (Int32 × SV) :=
  if (u_17.1 13) ≤ x_16 then
    f_X13_read_K28 x_16 u_17
  else
    bd2 (f_X13_cannot x_16 u_17) fun r_19 w_20 =>
    if r_19 = 0 then
      selfL_18 (x_16 + 1) w_20
    else
      bd1 (f_X13_copies 0 0 240 (w_20.2 1) 240 (w_20.2 0)) fun w_21 =>
      nm (pR w_20 0 w_21) fun v_22 =>
      if (v_22.1 15) = 0 then
        f_X13_read_J76 v_22 x_16 (v_22.1 1)
      else
        f_X13_read_J76 v_22 x_16 0
def f_X13_read (v0 : SV) : Option (Int32 × SV) :=
  bd1 (f_X13_begins v0) fun w_1 =>
  bd1 (f_X13_reads w_1) fun w_2 =>
  if (w_2.1 14) = 0 then
    lz2 (f_X13_read_B28) FU 0 w_2
  else
    nm (pF w_2 7 (w_2.1 12)) fun v_35 =>
    some ((-2), v_35)
abbrev rm_X13_read : Room := { frames := 7, cells := 0, slots := 0, locals := 159 }
set_option maxHeartbeats 4000000 in
set_option maxRecDepth 100000 in
theorem c_X13_read (l : Launch) (D : va_G) (G : Nat → ClassId) (q0 : Nat → Nat) (v0 : SV) (r : Int32) (v0' : SV) (hf : f_X13_read v0 = some (r, v0')) (sz : Nat) : mC l yX13_read wsX13_read rm_X13_read D (tyG G) kT [.ref (q0 0)] (kModel G q0 v0) (kModel G q0 v0') sz (some (.int r)) 0 0 := by
  refine mC_ofI (cc := cX13_read) (maxL := 2) (ret := (some .int)) (by decide) rfl rfl (Nat.le_of_ble_eq_true rfl) ?_
  intro p e s m args below meth c Q0 hx hb hml hts hown hN hK A hD hA hE hP hS hJ ls hl
  have hl : lv_has ls 2 [(0, .ref (q0 0))] := hl
  unfold f_X13_read at hf
  have hi11 : ∀ w ∈ u_ws RX13 TX13 27, w ∈ wsX13_read := by decide +kernel
  have hw1 := hts (.fieldLink RX13 87 "BalconyCensusModel" "isWrong" "Z") (by decide +kernel)
  have hw2 := hts (.fieldLink RX13 84 "BalconyCensusModel" "commands" "I") (by decide +kernel)
  have hw3 := hts (.fieldLink RX13 13 "BalconyCensusModel" "before" "[I") (by decide +kernel)
  have hw4 := hts (.fieldLink RX13 7 "BalconyCensusModel" "now" "[I") (by decide +kernel)
  have hw5 := hts (.fieldLink RX13 90 "BalconyCensusModel" "isElse" "Z") (by decide +kernel)
  have hw6 := hts (.fieldLink RX13 29 "BalconyCensusModel" "why" "I") (by decide +kernel)
  have hw7 := hts (.fieldLink RX13 41 "BalconyCensusModel" "behind" "I") (by decide +kernel)
  have hw8 := hts (.fieldLink RX13 32 "BalconyCensusModel" "number" "I") (by decide +kernel)
  have hw9 := hts (.fieldLink RX13 44 "BalconyCensusModel" "behindNumber" "I") (by decide +kernel)
  have hw10 := hts (.fieldLink RX13 35 "BalconyCensusModel" "reason" "I") (by decide +kernel)
  have hw11 := hts (.fieldLink RX13 38 "BalconyCensusModel" "detail" "I") (by decide +kernel)
  have hw12 := hts (.fieldLink RX13 81 "BalconyCensusModel" "spot" "I") (by decide +kernel)
  have hw13 := hts (.fieldLink RX13 47 "BalconyCensusModel" "wrongAt" "I") (by decide +kernel)
  refine lv_aload_n hx hb dX13_read_0 rfl (lv_at hl 0 rfl) ?_
  obtain ⟨w_1, hc, hf⟩ := bd1_of hf
  refine k_V (As := []) (rest := []) (ws1 := (kModel G q0 w_1)) ⟨hx, hb, hml, hown, hts⟩ (c_X13_begins l D G q0  v0 _ hc  _) (cwV 0 hts gX13_read_X13_begins rfl rfl rfl (by decide +kernel) ⟨Nat.le_of_ble_eq_true rfl, Nat.le_of_ble_eq_true rfl⟩) hl.1 (Nat.le_of_ble_eq_true rfl) dX13_read_1 ⟨Nat.le_of_ble_eq_true rfl, Nat.le_of_ble_eq_true rfl⟩ rfl kT_bl (fun _ _ _ => trivial) hN hK hP hD hS hA 0 11 rfl rfl rfl [0, 1, 2, 3, 4, 5, 6, 7, 8, 9, 10, 11] [] [0, 1, 2, 3, 4, 5, 6, 7, 8, 9, 10, 11] [0, 1, 2, 3] rfl rfl rfl ⟨by decide, by decide, by decide, by decide⟩ rfl (fun H locs hP hD hS => ?_)
  refine lv_aload_n hx hb dX13_read_4 rfl (lv_at hl 0 rfl) ?_
  obtain ⟨w_2, hc, hf⟩ := bd1_of hf
  refine k_V (As := []) (rest := []) (ws1 := (kModel G q0 w_2)) ⟨hx, hb, hml, hown, hts⟩ (c_X13_reads l D G q0  w_1 _ hc  _) (cwV 0 hts gX13_read_X13_reads rfl rfl rfl (by decide +kernel) ⟨Nat.le_of_ble_eq_true rfl, Nat.le_of_ble_eq_true rfl⟩) hl.1 (Nat.le_of_ble_eq_true rfl) dX13_read_5 ⟨Nat.le_of_ble_eq_true rfl, Nat.le_of_ble_eq_true rfl⟩ rfl kT_bl (fun _ _ _ => trivial) hN hK hP hD hS hA 0 11 rfl rfl rfl [0, 1, 2, 3, 4, 5, 6, 7, 8, 9, 10, 11] [] [0, 1, 2, 3, 4, 5, 6, 7, 8, 9, 10, 11] [0, 1, 2, 3] rfl rfl rfl ⟨by decide, by decide, by decide, by decide⟩ rfl (fun H locs hP hD hS => ?_)
  refine lv_aload_n hx hb dX13_read_8 rfl (lv_at hl 0 rfl) ?_
  refine va_get (D := D) (ci := 11) (v := .int (w_2.1 14)) (C := RX13) (T := TX13) (N := 27) hx hb hts hi11 hown hK hP 0 rfl rfl 25 (by decide) hw1 (fun _ h9 => h9) rfl dX13_read_9 ?_
  refine lv_if_eq (tgt := 26) hx hb dX13_read_12 (by decide) (fun cc => ?_) (fun cc => ?_)
  · replace hf := ifT cc hf
    refine lv_iconst (v := 0) hx hb dX13_read_26 (by decide) ?_
    refine lv_istore_n (lv' := [(1, .int 0), (0, .ref (q0 0))]) hx hb dX13_read_27 rfl hl (by decide) rfl (fun ls hl => ?_)
    have exL_18 : ∀ (y_31 : Int32) (z_32 : SV) (H : Heap) (locs : List Loc) (ls : Array Slot), lv_has ls 2 [(1, .int y_31), (0, .ref (q0 0))] → va_P D vwCl (kModel G q0 z_32) H → va_D A (kModel G q0 z_32) → va_S A s.heap H locs → f_X13_read_K28 y_31 z_32 = some (r, v0') → W p l e rm_X13_read s m args below meth c H locs 0 0 Q0 (F0 m 119 ls []) := by
      intro y_31 z_32 H locs ls hl hP hD hS hf
      unfold f_X13_read_K28 at hf
      refine lv_aload_n hx hb dX13_read_119 rfl (lv_at hl 1 rfl) ?_
      refine lv_aload_n hx hb dX13_read_120 rfl (lv_at hl 1 rfl) ?_
      refine va_get (D := D) (ci := 11) (v := .int (z_32.1 13)) (C := RX13) (T := TX13) (N := 27) hx hb hts hi11 hown hK hP 0 rfl rfl 24 (by decide) hw2 (fun _ h9 => h9) rfl dX13_read_121 ?_
      obtain ⟨r_33, w_34, hc, hf⟩ := bd2_of hf
      refine k_V (As := [.int (z_32.1 13)]) (rest := []) (ws1 := (kModel G q0 w_34)) ⟨hx, hb, hml, hown, hts⟩ (c_X13_keeps l D G q0 (z_32.1 13) z_32 _ _ hc  _) (cwV 1 hts gX13_read_X13_keeps rfl rfl rfl (by decide +kernel) ⟨Nat.le_of_ble_eq_true rfl, Nat.le_of_ble_eq_true rfl⟩) hl.1 (Nat.le_of_ble_eq_true rfl) dX13_read_124 ⟨Nat.le_of_ble_eq_true rfl, Nat.le_of_ble_eq_true rfl⟩ rfl kT_bl (fun _ _ _ => trivial) hN hK hP hD hS hA 0 11 rfl rfl rfl [0, 1, 2, 3, 4, 5, 6, 7, 8, 9, 10, 11] [] [0, 1, 2, 3, 4, 5, 6, 7, 8, 9, 10, 11] [0, 1, 2, 3] rfl rfl rfl ⟨by decide, by decide, by decide, by decide⟩ rfl (fun H locs hP hD hS => ?_)
      obtain ⟨rfl, rfl⟩ := re2 hf
      exact hE hP hD hS dX13_read_127
    have loL_18 : ∀ (n : Nat) (x_16 : Int32) (u_17 : SV) (H : Heap) (locs : List Loc) (ls : Array Slot), lv_has ls 2 [(1, .int x_16), (0, .ref (q0 0))] → va_P D vwCl (kModel G q0 u_17) H → va_D A (kModel G q0 u_17) → va_S A s.heap H locs → lz2 (f_X13_read_B28) n x_16 u_17 = some (r, v0') → W p l e rm_X13_read s m args below meth c H locs 0 0 Q0 (F0 m 28 ls []) := by
      intro n
      induction n with
      | zero => intro x_16 u_17 H locs ls hl hP hD hS hf; cases hf
      | succ n ihL_18 =>
        intro x_16 u_17 H locs ls hl hP hD hS hf
        replace hf := lz2_s hf
        unfold f_X13_read_B28 at hf
        refine lv_iload_n hx hb dX13_read_28 rfl (lv_at hl 0 rfl) ?_
        refine lv_aload_n hx hb dX13_read_29 rfl (lv_at hl 1 rfl) ?_
        refine va_get (D := D) (ci := 11) (v := .int (u_17.1 13)) (C := RX13) (T := TX13) (N := 27) hx hb hts hi11 hown hK hP 0 rfl rfl 24 (by decide) hw2 (fun _ h9 => h9) rfl dX13_read_30 ?_
        refine lv_icmp_ge (tgt := 119) hx hb dX13_read_33 (by decide) (fun cc => ?_) (fun cc => ?_)
        · replace hf := ifT cc hf
          exact exL_18 x_16 u_17 _ _ _ (lv_sub hl [0, 1] rfl) hP hD hS hf
        · replace hf := ifF cc hf
          refine lv_aload_n hx hb dX13_read_36 rfl (lv_at hl 1 rfl) ?_
          refine lv_iload_n hx hb dX13_read_37 rfl (lv_at hl 0 rfl) ?_
          obtain ⟨r_19, w_20, hc, hf⟩ := bd2_of hf
          refine k_V (As := [.int x_16]) (rest := []) (ws1 := (kModel G q0 w_20)) ⟨hx, hb, hml, hown, hts⟩ (c_X13_cannot l D G q0 x_16 u_17 _ _ hc  _) (cwV 1 hts gX13_read_X13_cannot rfl rfl rfl (by decide +kernel) ⟨Nat.le_of_ble_eq_true rfl, Nat.le_of_ble_eq_true rfl⟩) hl.1 (Nat.le_of_ble_eq_true rfl) dX13_read_38 ⟨Nat.le_of_ble_eq_true rfl, Nat.le_of_ble_eq_true rfl⟩ rfl kT_bl (fun _ _ _ => trivial) hN hK hP hD hS hA 0 11 rfl rfl rfl [0, 1, 2, 3, 4, 5, 6, 7, 8, 9, 10, 11] [] [0, 1, 2, 3, 4, 5, 6, 7, 8, 9, 10, 11] [0, 1, 2, 3] rfl rfl rfl ⟨by decide, by decide, by decide, by decide⟩ rfl (fun H locs hP hD hS => ?_)
          refine lv_if_ne (tgt := 47) hx hb dX13_read_41 (by decide) (fun cc => ?_) (fun cc => ?_)
          · replace hf := ifF cc hf
            refine lv_aload_n hx hb dX13_read_47 rfl (lv_at hl 1 rfl) ?_
            refine va_get (D := D) (ci := 11) (v := .ref (q0 2)) (C := RX13) (T := TX13) (N := 27) hx hb hts hi11 hown hK hP 0 rfl rfl 1 (by decide) hw3 (fun _ h9 => h9) rfl dX13_read_48 ?_
            refine lv_iconst (v := 0) hx hb dX13_read_51 (by decide) ?_
            refine lv_aload_n hx hb dX13_read_52 rfl (lv_at hl 1 rfl) ?_
            refine va_get (D := D) (ci := 11) (v := .ref (q0 1)) (C := RX13) (T := TX13) (N := 27) hx hb hts hi11 hown hK hP 0 rfl rfl 0 (by decide) hw4 (fun _ h9 => h9) rfl dX13_read_53 ?_
            refine lv_iconst (v := 0) hx hb dX13_read_56 (by decide) ?_
            obtain ⟨w_21, hc, hf⟩ := bd1_of hf
            refine k_S (As := [.ref (q0 2), .int 0, .ref (q0 1), .int 0]) (rest := []) (ws1 := (kModel G q0 (pR w_20 0 w_21))) ⟨hx, hb, hml, hown, hts⟩ (c_X13_copies l D G (q0 2) 240 (q0 1) 240 0 0 (w_20.2 1) (w_20.2 0) _ hc  _) (va_cwS 4 hts gX13_read_X13_copies rfl rfl rfl (by decide +kernel) ⟨Nat.le_of_ble_eq_true rfl, Nat.le_of_ble_eq_true rfl⟩) hl.1 (Nat.le_of_ble_eq_true rfl) dX13_read_57 ⟨Nat.le_of_ble_eq_true rfl, Nat.le_of_ble_eq_true rfl⟩ rfl kT_bl (fun _ _ _ => trivial) hN hK hP hD hS hA [2, 1] [0, 3, 4, 5, 6, 7, 8, 9, 10, 11] [0, 11, 10, 1, 2, 3, 4, 5, 6, 7, 8, 9] [0, 1, 2, 3] rfl rfl rfl ⟨by decide, by decide, by decide, by decide⟩ rfl (fun H locs hP hD hS => ?_)
            obtain ⟨v_22, ev_22, hf⟩ := nm_of hf
            have hP : va_P D vwCl (kModel G q0 v_22) H := by rw [ev_22]; exact hP
            have hD : va_D A (kModel G q0 v_22) := by rw [ev_22]; exact hD
            refine lv_aload_n hx hb dX13_read_60 rfl (lv_at hl 1 rfl) ?_
            refine lv_aload_n hx hb dX13_read_61 rfl (lv_at hl 1 rfl) ?_
            refine va_get (D := D) (ci := 11) (v := .int (v_22.1 15)) (C := RX13) (T := TX13) (N := 27) hx hb hts hi11 hown hK hP 0 rfl rfl 26 (by decide) hw5 (fun _ h9 => h9) rfl dX13_read_62 ?_
            have jnJ_23 : ∀ (j_24 : Int32) (H : Heap) (locs : List Loc) (ls : Array Slot), lv_has ls 2 [(1, .int x_16), (0, .ref (q0 0))] → va_P D vwCl (kModel G q0 v_22) H → va_D A (kModel G q0 v_22) → va_S A s.heap H locs → f_X13_read_J76 v_22 x_16 j_24 = some (r, v0') → W p l e rm_X13_read s m args below meth c H locs 0 0 Q0 (F0 m 76 ls [.int j_24, .ref (q0 0)]) := by
              intro j_24 H locs ls hl hP hD hS hf
              unfold f_X13_read_J76 at hf
              obtain ⟨v_25, ev_25, hf⟩ := nm_of hf
              refine va_put (D := D) (ci := 11) (v := .int j_24) (ty := .int) (C := RX13) (T := TX13) (N := 27) hx hb hts hi11 tyX13 tyX13_ok nmX13 hown hK hP hD hS 0 rfl rfl 10 (by decide) hw7 (fun _ h9 => h9) rfl (by decide +kernel) rfl rfl (Nat.le_of_ble_eq_true rfl) dX13_read_76 (fun H locs hP hD hS => ?_)
              have hP : va_P D vwCl (kModel G q0 v_25) H := by rw [ev_25]; exact hP
              have hD : va_D A (kModel G q0 v_25) := by rw [ev_25]; exact hD
              refine lv_aload_n hx hb dX13_read_79 rfl (lv_at hl 1 rfl) ?_
              refine lv_aload_n hx hb dX13_read_80 rfl (lv_at hl 1 rfl) ?_
              refine va_get (D := D) (ci := 11) (v := .int (v_25.1 2)) (C := RX13) (T := TX13) (N := 27) hx hb hts hi11 hown hK hP 0 rfl rfl 7 (by decide) hw8 (fun _ h9 => h9) rfl dX13_read_81 ?_
              obtain ⟨v_26, ev_26, hf⟩ := nm_of hf
              refine va_put (D := D) (ci := 11) (v := .int (v_25.1 2)) (ty := .int) (C := RX13) (T := TX13) (N := 27) hx hb hts hi11 tyX13 tyX13_ok nmX13 hown hK hP hD hS 0 rfl rfl 11 (by decide) hw9 (fun _ h9 => h9) rfl (by decide +kernel) rfl rfl (Nat.le_of_ble_eq_true rfl) dX13_read_84 (fun H locs hP hD hS => ?_)
              have hP : va_P D vwCl (kModel G q0 v_26) H := by rw [ev_26]; exact hP
              have hD : va_D A (kModel G q0 v_26) := by rw [ev_26]; exact hD
              refine lv_aload_n hx hb dX13_read_87 rfl (lv_at hl 1 rfl) ?_
              refine lv_aload_n hx hb dX13_read_88 rfl (lv_at hl 1 rfl) ?_
              refine va_get (D := D) (ci := 11) (v := .int (v_26.1 15)) (C := RX13) (T := TX13) (N := 27) hx hb hts hi11 hown hK hP 0 rfl rfl 26 (by decide) hw5 (fun _ h9 => h9) rfl dX13_read_89 ?_
              refine lv_if_eq (tgt := 100) hx hb dX13_read_92 (by decide) (fun cc => ?_) (fun cc => ?_)
              · replace hf := ifT cc hf
                refine lv_bipush (v := 10) hx hb dX13_read_100 (by decide +kernel) ?_
                obtain ⟨v_27, ev_27, hf⟩ := nm_of hf
                refine va_put (D := D) (ci := 11) (v := .int 10) (ty := .int) (C := RX13) (T := TX13) (N := 27) hx hb hts hi11 tyX13 tyX13_ok nmX13 hown hK hP hD hS 0 rfl rfl 8 (by decide) hw10 (fun _ h9 => h9) rfl (by decide +kernel) rfl rfl (Nat.le_of_ble_eq_true rfl) dX13_read_102 (fun H locs hP hD hS => ?_)
                have hP : va_P D vwCl (kModel G q0 v_27) H := by rw [ev_27]; exact hP
                have hD : va_D A (kModel G q0 v_27) := by rw [ev_27]; exact hD
                refine lv_aload_n hx hb dX13_read_105 rfl (lv_at hl 1 rfl) ?_
                refine lv_iload_n hx hb dX13_read_106 rfl (lv_at hl 0 rfl) ?_
                obtain ⟨v_28, ev_28, hf⟩ := nm_of hf
                refine va_put (D := D) (ci := 11) (v := .int x_16) (ty := .int) (C := RX13) (T := TX13) (N := 27) hx hb hts hi11 tyX13 tyX13_ok nmX13 hown hK hP hD hS 0 rfl rfl 9 (by decide) hw11 (fun _ h9 => h9) rfl (by decide +kernel) rfl rfl (Nat.le_of_ble_eq_true rfl) dX13_read_107 (fun H locs hP hD hS => ?_)
                have hP : va_P D vwCl (kModel G q0 v_28) H := by rw [ev_28]; exact hP
                have hD : va_D A (kModel G q0 v_28) := by rw [ev_28]; exact hD
                refine lv_bipush (v := (-3)) hx hb dX13_read_110 (by decide +kernel) ?_
                obtain ⟨rfl, rfl⟩ := re2 hf
                exact hE hP hD hS dX13_read_112
              · replace hf := ifF cc hf
                refine lv_bipush (v := 11) hx hb dX13_read_95 (by decide +kernel) ?_
                refine lv_goto (tgt := 102) hx hb dX13_read_97 (by decide) ?_
                obtain ⟨v_29, ev_29, hf⟩ := nm_of hf
                refine va_put (D := D) (ci := 11) (v := .int 11) (ty := .int) (C := RX13) (T := TX13) (N := 27) hx hb hts hi11 tyX13 tyX13_ok nmX13 hown hK hP hD hS 0 rfl rfl 8 (by decide) hw10 (fun _ h9 => h9) rfl (by decide +kernel) rfl rfl (Nat.le_of_ble_eq_true rfl) dX13_read_102 (fun H locs hP hD hS => ?_)
                have hP : va_P D vwCl (kModel G q0 v_29) H := by rw [ev_29]; exact hP
                have hD : va_D A (kModel G q0 v_29) := by rw [ev_29]; exact hD
                refine lv_aload_n hx hb dX13_read_105 rfl (lv_at hl 1 rfl) ?_
                refine lv_iload_n hx hb dX13_read_106 rfl (lv_at hl 0 rfl) ?_
                obtain ⟨v_30, ev_30, hf⟩ := nm_of hf
                refine va_put (D := D) (ci := 11) (v := .int x_16) (ty := .int) (C := RX13) (T := TX13) (N := 27) hx hb hts hi11 tyX13 tyX13_ok nmX13 hown hK hP hD hS 0 rfl rfl 9 (by decide) hw11 (fun _ h9 => h9) rfl (by decide +kernel) rfl rfl (Nat.le_of_ble_eq_true rfl) dX13_read_107 (fun H locs hP hD hS => ?_)
                have hP : va_P D vwCl (kModel G q0 v_30) H := by rw [ev_30]; exact hP
                have hD : va_D A (kModel G q0 v_30) := by rw [ev_30]; exact hD
                refine lv_bipush (v := (-3)) hx hb dX13_read_110 (by decide +kernel) ?_
                obtain ⟨rfl, rfl⟩ := re2 hf
                exact hE hP hD hS dX13_read_112
            refine lv_if_eq (tgt := 72) hx hb dX13_read_65 (by decide) (fun cc => ?_) (fun cc => ?_)
            · replace hf := ifT cc hf
              refine lv_aload_n hx hb dX13_read_72 rfl (lv_at hl 1 rfl) ?_
              refine va_get (D := D) (ci := 11) (v := .int (v_22.1 1)) (C := RX13) (T := TX13) (N := 27) hx hb hts hi11 hown hK hP 0 rfl rfl 6 (by decide) hw6 (fun _ h9 => h9) rfl dX13_read_73 ?_
              exact jnJ_23 (v_22.1 1) _ _ _ (lv_sub hl [0, 1] rfl) hP hD hS hf
            · replace hf := ifF cc hf
              refine lv_iconst (v := 0) hx hb dX13_read_68 (by decide) ?_
              refine lv_goto (tgt := 76) hx hb dX13_read_69 (by decide) ?_
              exact jnJ_23 0 _ _ _ (lv_sub hl [0, 1] rfl) hP hD hS hf
          · replace hf := ifT cc hf
            refine lv_goto (tgt := 113) hx hb dX13_read_44 (by decide) ?_
            refine lv_iinc (v := (x_16 + 1)) (lv' := [(1, .int (x_16 + 1)), (0, .ref (q0 0))]) hx hb dX13_read_113 hl (k := 0) rfl rfl (by decide) rfl (fun ls hl => ?_)
            refine lv_goto (tgt := 28) hx hb dX13_read_116 (by decide) ?_
            exact ihL_18 (x_16 + 1) w_20 _ _ _ (lv_sub hl [0, 1] rfl) hP hD hS hf
    exact loL_18 FU 0 w_2 _ _ _ hl hP hD hS hf
  · replace hf := ifF cc hf
    refine lv_aload_n hx hb dX13_read_15 rfl (lv_at hl 0 rfl) ?_
    refine lv_aload_n hx hb dX13_read_16 rfl (lv_at hl 0 rfl) ?_
    refine va_get (D := D) (ci := 11) (v := .int (w_2.1 12)) (C := RX13) (T := TX13) (N := 27) hx hb hts hi11 hown hK hP 0 rfl rfl 23 (by decide) hw12 (fun _ h9 => h9) rfl dX13_read_17 ?_
    obtain ⟨v_35, ev_35, hf⟩ := nm_of hf
    refine va_put (D := D) (ci := 11) (v := .int (w_2.1 12)) (ty := .int) (C := RX13) (T := TX13) (N := 27) hx hb hts hi11 tyX13 tyX13_ok nmX13 hown hK hP hD hS 0 rfl rfl 12 (by decide) hw13 (fun _ h9 => h9) rfl (by decide +kernel) rfl rfl (Nat.le_of_ble_eq_true rfl) dX13_read_20 (fun H locs hP hD hS => ?_)
    have hP : va_P D vwCl (kModel G q0 v_35) H := by rw [ev_35]; exact hP
    have hD : va_D A (kModel G q0 v_35) := by rw [ev_35]; exact hD
    refine lv_bipush (v := (-2)) hx hb dX13_read_23 (by decide +kernel) ?_
    obtain ⟨rfl, rfl⟩ := re2 hf
    exact hE hP hD hS dX13_read_25
def f_X13_fault (v0 : SV) : Option Int32 :=
  if 0 ≤ (v0.1 7) then
    some (v0.1 7)
  else
    some (-4)
abbrev rm_X13_fault : Room := { frames := 0, cells := 0, slots := 0, locals := 0 }
set_option maxHeartbeats 4000000 in
set_option maxRecDepth 100000 in
theorem c_X13_fault (l : Launch) (D : va_G) (G : Nat → ClassId) (q0 : Nat → Nat) (v0 : SV) (r : Int32) (hf : f_X13_fault v0 = some r) (sz : Nat) : mC l yX13_fault wsX13_fault rm_X13_fault D (tyG G) kT [.ref (q0 0)] (kModel G q0 v0) (kModel G q0 v0) sz (some (.int r)) 0 0 := by
  refine mC_ofI (cc := cX13_fault) (maxL := 1) (ret := (some .int)) (by decide) rfl rfl (Nat.le_of_ble_eq_true rfl) ?_
  intro p e s m args below meth c Q0 hx hb hml hts hown hN hK A hD hA hE hP hS hJ ls hl
  have hl : lv_has ls 1 [(0, .ref (q0 0))] := hl
  unfold f_X13_fault at hf
  have hi11 : ∀ w ∈ u_ws RX13 TX13 27, w ∈ wsX13_fault := by decide +kernel
  have hw1 := hts (.fieldLink RX13 47 "BalconyCensusModel" "wrongAt" "I") (by decide +kernel)
  refine lv_aload_n hx hb dX13_fault_0 rfl (lv_at hl 0 rfl) ?_
  refine va_get (D := D) (ci := 11) (v := .int (v0.1 7)) (C := RX13) (T := TX13) (N := 27) hx hb hts hi11 hown hK hP 0 rfl rfl 12 (by decide) hw1 (fun _ h9 => h9) rfl dX13_fault_1 ?_
  refine lv_if_ge (tgt := 12) hx hb dX13_fault_4 (by decide) (fun cc => ?_) (fun cc => ?_)
  · replace hf := ifT cc hf
    refine lv_aload_n hx hb dX13_fault_12 rfl (lv_at hl 0 rfl) ?_
    refine va_get (D := D) (ci := 11) (v := .int (v0.1 7)) (C := RX13) (T := TX13) (N := 27) hx hb hts hi11 hown hK hP 0 rfl rfl 12 (by decide) hw1 (fun _ h9 => h9) rfl dX13_fault_13 ?_
    obtain rfl := re1 hf
    exact hE hP hD hS dX13_fault_16
  · replace hf := ifF cc hf
    refine lv_bipush (v := (-4)) hx hb dX13_fault_7 (by decide +kernel) ?_
    refine lv_goto (tgt := 16) hx hb dX13_fault_9 (by decide) ?_
    obtain rfl := re1 hf
    exact hE hP hD hS dX13_fault_16
def f_X13_reason_J28 (a2 : Int32) (a1 : Int32) (v0 : SV) (j_3 : Int32) : Option Int32 :=
  if j_3 = 0 then
    some (-4)
  else
    if a2 = 0 then
      some j_3
    else
      if a1 = 1 then
        some (v0.1 6)
      else
        some (v0.1 4)
def f_X13_reason (a1 : Int32) (a2 : Int32) (v0 : SV) : Option Int32 :=
  bd1 (f_X13_in a1 0 1) fun r_1 =>
  if r_1 = 0 then
    some (-2)
  else
    if a1 = 1 then
      f_X13_reason_J28 a2 a1 v0 (v0.1 5)
    else
      f_X13_reason_J28 a2 a1 v0 (v0.1 3)
abbrev rm_X13_reason : Room := { frames := 1, cells := 0, slots := 0, locals := 22 }
set_option maxHeartbeats 4000000 in
set_option maxRecDepth 100000 in
theorem c_X13_reason (l : Launch) (D : va_G) (G : Nat → ClassId) (q0 : Nat → Nat) (a1 : Int32) (a2 : Int32) (v0 : SV) (r : Int32) (hf : f_X13_reason a1 a2 v0 = some r) (sz : Nat) : mC l yX13_reason wsX13_reason rm_X13_reason D (tyG G) kT [.ref (q0 0), .int a1, .int a2] (kModel G q0 v0) (kModel G q0 v0) sz (some (.int r)) 0 0 := by
  refine mC_ofI (cc := cX13_reason) (maxL := 4) (ret := (some .int)) (by decide) rfl rfl (Nat.le_of_ble_eq_true rfl) ?_
  intro p e s m args below meth c Q0 hx hb hml hts hown hN hK A hD hA hE hP hS hJ ls hl
  have hl : lv_has ls 4 [(0, .ref (q0 0)), (1, .int a1), (2, .int a2)] := hl
  unfold f_X13_reason at hf
  have hi11 : ∀ w ∈ u_ws RX13 TX13 27, w ∈ wsX13_reason := by decide +kernel
  have hw1 := hts (.fieldLink RX13 35 "BalconyCensusModel" "reason" "I") (by decide +kernel)
  have hw2 := hts (.fieldLink RX13 41 "BalconyCensusModel" "behind" "I") (by decide +kernel)
  have hw3 := hts (.fieldLink RX13 38 "BalconyCensusModel" "detail" "I") (by decide +kernel)
  have hw4 := hts (.fieldLink RX13 44 "BalconyCensusModel" "behindNumber" "I") (by decide +kernel)
  refine lv_iload_n hx hb dX13_reason_0 rfl (lv_at hl 1 rfl) ?_
  refine lv_iconst (v := 0) hx hb dX13_reason_1 (by decide) ?_
  refine lv_iconst (v := 1) hx hb dX13_reason_2 (by decide) ?_
  obtain ⟨r_1, hc, hf⟩ := bd1_of hf
  refine k_S (As := [.int a1, .int 0, .int 1]) (rest := []) (ws1 := (kModel G q0 v0)) ⟨hx, hb, hml, hown, hts⟩ (c_X13_in l D G  a1 0 1  _ hc  _) (va_cwS 3 hts gX13_reason_X13_in rfl rfl rfl (by decide +kernel) ⟨Nat.le_of_ble_eq_true rfl, Nat.le_of_ble_eq_true rfl⟩) hl.1 (Nat.le_of_ble_eq_true rfl) dX13_reason_3 ⟨Nat.le_of_ble_eq_true rfl, Nat.le_of_ble_eq_true rfl⟩ rfl kT_bl (fun _ _ _ => trivial) hN hK hP hD hS hA [] [0, 1, 2, 3, 4, 5, 6, 7, 8, 9, 10, 11] [0, 1, 2, 3, 4, 5, 6, 7, 8, 9, 10, 11] [0, 1, 2, 3] rfl rfl rfl ⟨by decide, by decide, by decide, by decide⟩ rfl (fun H locs hP hD hS => ?_)
  refine lv_if_ne (tgt := 12) hx hb dX13_reason_6 (by decide) (fun cc => ?_) (fun cc => ?_)
  · replace hf := ifF cc hf
    refine lv_iload_n hx hb dX13_reason_12 rfl (lv_at hl 1 rfl) ?_
    refine lv_iconst (v := 1) hx hb dX13_reason_13 (by decide) ?_
    have jnJ_2 : ∀ (j_3 : Int32) (H : Heap) (locs : List Loc) (ls : Array Slot), lv_has ls 4 [(0, .ref (q0 0)), (1, .int a1), (2, .int a2)] → va_P D vwCl (kModel G q0 v0) H → va_D A (kModel G q0 v0) → va_S A s.heap H locs → f_X13_reason_J28 a2 a1 v0 j_3 = some r → W p l e rm_X13_reason s m args below meth c H locs 0 0 Q0 (F0 m 28 ls [.int j_3]) := by
      intro j_3 H locs ls hl hP hD hS hf
      unfold f_X13_reason_J28 at hf
      refine lv_istore_n (lv' := [(3, .int j_3), (0, .ref (q0 0)), (1, .int a1), (2, .int a2)]) hx hb dX13_reason_28 rfl hl (by decide) rfl (fun ls hl => ?_)
      refine lv_iload_n hx hb dX13_reason_29 rfl (lv_at hl 0 rfl) ?_
      refine lv_if_ne (tgt := 36) hx hb dX13_reason_30 (by decide) (fun cc => ?_) (fun cc => ?_)
      · replace hf := ifF cc hf
        refine lv_iload_n hx hb dX13_reason_36 rfl (lv_at hl 3 rfl) ?_
        refine lv_if_ne (tgt := 44) hx hb dX13_reason_37 (by decide) (fun cc => ?_) (fun cc => ?_)
        · replace hf := ifF cc hf
          refine lv_iload_n hx hb dX13_reason_44 rfl (lv_at hl 2 rfl) ?_
          refine lv_iconst (v := 1) hx hb dX13_reason_45 (by decide) ?_
          refine lv_icmp_ne (tgt := 56) hx hb dX13_reason_46 (by decide) (fun cc => ?_) (fun cc => ?_)
          · replace hf := ifF cc hf
            refine lv_aload_n hx hb dX13_reason_56 rfl (lv_at hl 1 rfl) ?_
            refine va_get (D := D) (ci := 11) (v := .int (v0.1 4)) (C := RX13) (T := TX13) (N := 27) hx hb hts hi11 hown hK hP 0 rfl rfl 9 (by decide) hw3 (fun _ h9 => h9) rfl dX13_reason_57 ?_
            obtain rfl := re1 hf
            exact hE hP hD hS dX13_reason_60
          · replace hf := ifT cc hf
            refine lv_aload_n hx hb dX13_reason_49 rfl (lv_at hl 1 rfl) ?_
            refine va_get (D := D) (ci := 11) (v := .int (v0.1 6)) (C := RX13) (T := TX13) (N := 27) hx hb hts hi11 hown hK hP 0 rfl rfl 11 (by decide) hw4 (fun _ h9 => h9) rfl dX13_reason_50 ?_
            refine lv_goto (tgt := 60) hx hb dX13_reason_53 (by decide) ?_
            obtain rfl := re1 hf
            exact hE hP hD hS dX13_reason_60
        · replace hf := ifT cc hf
          refine lv_iload_n hx hb dX13_reason_40 rfl (lv_at hl 0 rfl) ?_
          refine lv_goto (tgt := 60) hx hb dX13_reason_41 (by decide) ?_
          obtain rfl := re1 hf
          exact hE hP hD hS dX13_reason_60
      · replace hf := ifT cc hf
        refine lv_bipush (v := (-4)) hx hb dX13_reason_33 (by decide +kernel) ?_
        obtain rfl := re1 hf
        exact hE hP hD hS dX13_reason_35
    refine lv_icmp_ne (tgt := 24) hx hb dX13_reason_14 (by decide) (fun cc => ?_) (fun cc => ?_)
    · replace hf := ifF cc hf
      refine lv_aload_n hx hb dX13_reason_24 rfl (lv_at hl 0 rfl) ?_
      refine va_get (D := D) (ci := 11) (v := .int (v0.1 3)) (C := RX13) (T := TX13) (N := 27) hx hb hts hi11 hown hK hP 0 rfl rfl 8 (by decide) hw1 (fun _ h9 => h9) rfl dX13_reason_25 ?_
      exact jnJ_2 (v0.1 3) _ _ _ (lv_sub hl [0, 1, 2] rfl) hP hD hS hf
    · replace hf := ifT cc hf
      refine lv_aload_n hx hb dX13_reason_17 rfl (lv_at hl 0 rfl) ?_
      refine va_get (D := D) (ci := 11) (v := .int (v0.1 5)) (C := RX13) (T := TX13) (N := 27) hx hb hts hi11 hown hK hP 0 rfl rfl 10 (by decide) hw2 (fun _ h9 => h9) rfl dX13_reason_18 ?_
      refine lv_goto (tgt := 28) hx hb dX13_reason_21 (by decide) ?_
      exact jnJ_2 (v0.1 5) _ _ _ (lv_sub hl [0, 1, 2] rfl) hP hD hS hf
  · replace hf := ifT cc hf
    refine lv_bipush (v := (-2)) hx hb dX13_reason_9 (by decide +kernel) ?_
    obtain rfl := re1 hf
    exact hE hP hD hS dX13_reason_11
def f_X13_undo (v0 : SV) : Option (Int32 × SV) :=
  if (v0.1 0) = 0 then
    some ((-4), v0)
  else
    nm (pF v0 0 ((v0.1 0) - 1)) fun v_1 =>
    bd1 (f_X13_copies (240 * (v_1.1 0)) 0 1920 (v_1.2 4) 240 (v_1.2 0)) fun w_2 =>
    nm (pR v_1 0 w_2) fun v_3 =>
    some ((v_3.1 0), v_3)
abbrev rm_X13_undo : Room := { frames := 1, cells := 0, slots := 0, locals := 24 }
set_option maxHeartbeats 4000000 in
set_option maxRecDepth 100000 in
theorem c_X13_undo (l : Launch) (D : va_G) (G : Nat → ClassId) (q0 : Nat → Nat) (v0 : SV) (r : Int32) (v0' : SV) (hf : f_X13_undo v0 = some (r, v0')) (sz : Nat) : mC l yX13_undo wsX13_undo rm_X13_undo D (tyG G) kT [.ref (q0 0)] (kModel G q0 v0) (kModel G q0 v0') sz (some (.int r)) 0 0 := by
  refine mC_ofI (cc := cX13_undo) (maxL := 1) (ret := (some .int)) (by decide) rfl rfl (Nat.le_of_ble_eq_true rfl) ?_
  intro p e s m args below meth c Q0 hx hb hml hts hown hN hK A hD hA hE hP hS hJ ls hl
  have hl : lv_has ls 1 [(0, .ref (q0 0))] := hl
  unfold f_X13_undo at hf
  have hi11 : ∀ w ∈ u_ws RX13 TX13 27, w ∈ wsX13_undo := by decide +kernel
  have hw1 := hts (.fieldLink RX13 25 "BalconyCensusModel" "changed" "I") (by decide +kernel)
  have hw2 := hts (.fieldLink RX13 22 "BalconyCensusModel" "changes" "[I") (by decide +kernel)
  have hw3 := hts (.fieldLink RX13 7 "BalconyCensusModel" "now" "[I") (by decide +kernel)
  refine lv_aload_n hx hb dX13_undo_0 rfl (lv_at hl 0 rfl) ?_
  refine va_get (D := D) (ci := 11) (v := .int (v0.1 0)) (C := RX13) (T := TX13) (N := 27) hx hb hts hi11 hown hK hP 0 rfl rfl 5 (by decide) hw1 (fun _ h9 => h9) rfl dX13_undo_1 ?_
  refine lv_if_ne (tgt := 10) hx hb dX13_undo_4 (by decide) (fun cc => ?_) (fun cc => ?_)
  · replace hf := ifF cc hf
    refine lv_aload_n hx hb dX13_undo_10 rfl (lv_at hl 0 rfl) ?_
    refine lv_dup hx hb dX13_undo_11 rfl ?_
    refine va_get (D := D) (ci := 11) (v := .int (v0.1 0)) (C := RX13) (T := TX13) (N := 27) hx hb hts hi11 hown hK hP 0 rfl rfl 5 (by decide) hw1 (fun _ h9 => h9) rfl dX13_undo_12 ?_
    refine lv_iconst (v := 1) hx hb dX13_undo_15 (by decide) ?_
    refine lv_isub hx hb dX13_undo_16 ?_
    obtain ⟨v_1, ev_1, hf⟩ := nm_of hf
    refine va_put (D := D) (ci := 11) (v := .int ((v0.1 0) - 1)) (ty := .int) (C := RX13) (T := TX13) (N := 27) hx hb hts hi11 tyX13 tyX13_ok nmX13 hown hK hP hD hS 0 rfl rfl 5 (by decide) hw1 (fun _ h9 => h9) rfl (by decide +kernel) rfl rfl (Nat.le_of_ble_eq_true rfl) dX13_undo_17 (fun H locs hP hD hS => ?_)
    have hP : va_P D vwCl (kModel G q0 v_1) H := by rw [ev_1]; exact hP
    have hD : va_D A (kModel G q0 v_1) := by rw [ev_1]; exact hD
    refine lv_aload_n hx hb dX13_undo_20 rfl (lv_at hl 0 rfl) ?_
    refine va_get (D := D) (ci := 11) (v := .ref (q0 5)) (C := RX13) (T := TX13) (N := 27) hx hb hts hi11 hown hK hP 0 rfl rfl 4 (by decide) hw2 (fun _ h9 => h9) rfl dX13_undo_21 ?_
    refine lv_sipush (v := 240) hx hb dX13_undo_24 (by decide +kernel) ?_
    refine lv_aload_n hx hb dX13_undo_27 rfl (lv_at hl 0 rfl) ?_
    refine va_get (D := D) (ci := 11) (v := .int (v_1.1 0)) (C := RX13) (T := TX13) (N := 27) hx hb hts hi11 hown hK hP 0 rfl rfl 5 (by decide) hw1 (fun _ h9 => h9) rfl dX13_undo_28 ?_
    refine lv_imul hx hb dX13_undo_31 ?_
    refine lv_aload_n hx hb dX13_undo_32 rfl (lv_at hl 0 rfl) ?_
    refine va_get (D := D) (ci := 11) (v := .ref (q0 1)) (C := RX13) (T := TX13) (N := 27) hx hb hts hi11 hown hK hP 0 rfl rfl 0 (by decide) hw3 (fun _ h9 => h9) rfl dX13_undo_33 ?_
    refine lv_iconst (v := 0) hx hb dX13_undo_36 (by decide) ?_
    obtain ⟨w_2, hc, hf⟩ := bd1_of hf
    refine k_S (As := [.ref (q0 5), .int (240 * (v_1.1 0)), .ref (q0 1), .int 0]) (rest := []) (ws1 := (kModel G q0 (pR v_1 0 w_2))) ⟨hx, hb, hml, hown, hts⟩ (c_X13_copies l D G (q0 5) 1920 (q0 1) 240 (240 * (v_1.1 0)) 0 (v_1.2 4) (v_1.2 0) _ hc  _) (va_cwS 4 hts gX13_undo_X13_copies rfl rfl rfl (by decide +kernel) ⟨Nat.le_of_ble_eq_true rfl, Nat.le_of_ble_eq_true rfl⟩) hl.1 (Nat.le_of_ble_eq_true rfl) dX13_undo_37 ⟨Nat.le_of_ble_eq_true rfl, Nat.le_of_ble_eq_true rfl⟩ rfl kT_bl (fun _ _ _ => trivial) hN hK hP hD hS hA [5, 1] [0, 2, 3, 4, 6, 7, 8, 9, 10, 11] [0, 11, 1, 2, 3, 10, 4, 5, 6, 7, 8, 9] [0, 1, 2, 3] rfl rfl rfl ⟨by decide, by decide, by decide, by decide⟩ rfl (fun H locs hP hD hS => ?_)
    obtain ⟨v_3, ev_3, hf⟩ := nm_of hf
    have hP : va_P D vwCl (kModel G q0 v_3) H := by rw [ev_3]; exact hP
    have hD : va_D A (kModel G q0 v_3) := by rw [ev_3]; exact hD
    refine lv_aload_n hx hb dX13_undo_40 rfl (lv_at hl 0 rfl) ?_
    refine va_get (D := D) (ci := 11) (v := .int (v_3.1 0)) (C := RX13) (T := TX13) (N := 27) hx hb hts hi11 hown hK hP 0 rfl rfl 5 (by decide) hw1 (fun _ h9 => h9) rfl dX13_undo_41 ?_
    obtain ⟨rfl, rfl⟩ := re2 hf
    exact hE hP hD hS dX13_undo_44
  · replace hf := ifT cc hf
    refine lv_bipush (v := (-4)) hx hb dX13_undo_7 (by decide +kernel) ?_
    obtain ⟨rfl, rfl⟩ := re2 hf
    exact hE hP hD hS dX13_undo_9
def f_X13_save (v0 : SV) : Option (Int32 × SV) :=
  bd1 (f_X13_copies 0 0 240 (v0.2 0) 240 (v0.2 3)) fun w_1 =>
  nm (pR v0 3 w_1) fun v_2 =>
  nm (pF v_2 8 1) fun v_3 =>
  bd1 (f_X13_allPlants v_3) fun r_4 =>
  some (r_4, v_3)
abbrev rm_X13_save : Room := { frames := 2, cells := 0, slots := 0, locals := 43 }
set_option maxHeartbeats 4000000 in
set_option maxRecDepth 100000 in
theorem c_X13_save (l : Launch) (D : va_G) (G : Nat → ClassId) (q0 : Nat → Nat) (v0 : SV) (r : Int32) (v0' : SV) (hf : f_X13_save v0 = some (r, v0')) (sz : Nat) : mC l yX13_save wsX13_save rm_X13_save D (tyG G) kT [.ref (q0 0)] (kModel G q0 v0) (kModel G q0 v0') sz (some (.int r)) 0 0 := by
  refine mC_ofI (cc := cX13_save) (maxL := 1) (ret := (some .int)) (by decide) rfl rfl (Nat.le_of_ble_eq_true rfl) ?_
  intro p e s m args below meth c Q0 hx hb hml hts hown hN hK A hD hA hE hP hS hJ ls hl
  have hl : lv_has ls 1 [(0, .ref (q0 0))] := hl
  unfold f_X13_save at hf
  have hi11 : ∀ w ∈ u_ws RX13 TX13 27, w ∈ wsX13_save := by decide +kernel
  have hw1 := hts (.fieldLink RX13 7 "BalconyCensusModel" "now" "[I") (by decide +kernel)
  have hw2 := hts (.fieldLink RX13 19 "BalconyCensusModel" "saved" "[I") (by decide +kernel)
  have hw3 := hts (.fieldLink RX13 50 "BalconyCensusModel" "isSaved" "Z") (by decide +kernel)
  refine lv_aload_n hx hb dX13_save_0 rfl (lv_at hl 0 rfl) ?_
  refine va_get (D := D) (ci := 11) (v := .ref (q0 1)) (C := RX13) (T := TX13) (N := 27) hx hb hts hi11 hown hK hP 0 rfl rfl 0 (by decide) hw1 (fun _ h9 => h9) rfl dX13_save_1 ?_
  refine lv_iconst (v := 0) hx hb dX13_save_4 (by decide) ?_
  refine lv_aload_n hx hb dX13_save_5 rfl (lv_at hl 0 rfl) ?_
  refine va_get (D := D) (ci := 11) (v := .ref (q0 4)) (C := RX13) (T := TX13) (N := 27) hx hb hts hi11 hown hK hP 0 rfl rfl 3 (by decide) hw2 (fun _ h9 => h9) rfl dX13_save_6 ?_
  refine lv_iconst (v := 0) hx hb dX13_save_9 (by decide) ?_
  obtain ⟨w_1, hc, hf⟩ := bd1_of hf
  refine k_S (As := [.ref (q0 1), .int 0, .ref (q0 4), .int 0]) (rest := []) (ws1 := (kModel G q0 (pR v0 3 w_1))) ⟨hx, hb, hml, hown, hts⟩ (c_X13_copies l D G (q0 1) 240 (q0 4) 240 0 0 (v0.2 0) (v0.2 3) _ hc  _) (va_cwS 4 hts gX13_save_X13_copies rfl rfl rfl (by decide +kernel) ⟨Nat.le_of_ble_eq_true rfl, Nat.le_of_ble_eq_true rfl⟩) hl.1 (Nat.le_of_ble_eq_true rfl) dX13_save_10 ⟨Nat.le_of_ble_eq_true rfl, Nat.le_of_ble_eq_true rfl⟩ rfl kT_bl (fun _ _ _ => trivial) hN hK hP hD hS hA [1, 4] [0, 2, 3, 5, 6, 7, 8, 9, 10, 11] [0, 10, 1, 2, 11, 3, 4, 5, 6, 7, 8, 9] [0, 1, 2, 3] rfl rfl rfl ⟨by decide, by decide, by decide, by decide⟩ rfl (fun H locs hP hD hS => ?_)
  obtain ⟨v_2, ev_2, hf⟩ := nm_of hf
  have hP : va_P D vwCl (kModel G q0 v_2) H := by rw [ev_2]; exact hP
  have hD : va_D A (kModel G q0 v_2) := by rw [ev_2]; exact hD
  refine lv_aload_n hx hb dX13_save_13 rfl (lv_at hl 0 rfl) ?_
  refine lv_iconst (v := 1) hx hb dX13_save_14 (by decide) ?_
  obtain ⟨v_3, ev_3, hf⟩ := nm_of hf
  refine va_put (D := D) (ci := 11) (v := .int 1) (ty := .boolean) (C := RX13) (T := TX13) (N := 27) hx hb hts hi11 tyX13 tyX13_ok nmX13 hown hK hP hD hS 0 rfl rfl 13 (by decide) hw3 (fun _ h9 => h9) rfl (by decide +kernel) (by decide +kernel) (by decide +kernel) (Nat.le_of_ble_eq_true rfl) dX13_save_15 (fun H locs hP hD hS => ?_)
  have hP : va_P D vwCl (kModel G q0 v_3) H := by rw [ev_3]; exact hP
  have hD : va_D A (kModel G q0 v_3) := by rw [ev_3]; exact hD
  refine lv_aload_n hx hb dX13_save_18 rfl (lv_at hl 0 rfl) ?_
  obtain ⟨r_4, hc, hf⟩ := bd1_of hf
  refine k_V (As := []) (rest := []) (ws1 := (kModel G q0 v_3)) ⟨hx, hb, hml, hown, hts⟩ (c_X13_allPlants l D G q0  v_3 _ hc  _) (cwV 0 hts gX13_save_X13_allPlants rfl rfl rfl (by decide +kernel) ⟨Nat.le_of_ble_eq_true rfl, Nat.le_of_ble_eq_true rfl⟩) hl.1 (Nat.le_of_ble_eq_true rfl) dX13_save_19 ⟨Nat.le_of_ble_eq_true rfl, Nat.le_of_ble_eq_true rfl⟩ rfl kT_bl (fun _ _ _ => trivial) hN hK hP hD hS hA 0 11 rfl rfl rfl [0, 1, 2, 3, 4, 5, 6, 7, 8, 9, 10, 11] [] [0, 1, 2, 3, 4, 5, 6, 7, 8, 9, 10, 11] [0, 1, 2, 3] rfl rfl rfl ⟨by decide, by decide, by decide, by decide⟩ rfl (fun H locs hP hD hS => ?_)
  obtain ⟨rfl, rfl⟩ := re2 hf
  exact hE hP hD hS dX13_save_22
def f_X13_restore (v0 : SV) : Option (Int32 × SV) :=
  if (v0.1 8) = 0 then
    some ((-4), v0)
  else
    bd1 (f_X13_copies 0 0 240 (v0.2 3) 240 (v0.2 0)) fun w_1 =>
    nm (pR v0 0 w_1) fun v_2 =>
    nm (pF v_2 0 0) fun v_3 =>
    bd1 (f_X13_allPlants v_3) fun r_4 =>
    some (r_4, v_3)
abbrev rm_X13_restore : Room := { frames := 2, cells := 0, slots := 0, locals := 43 }
set_option maxHeartbeats 4000000 in
set_option maxRecDepth 100000 in
theorem c_X13_restore (l : Launch) (D : va_G) (G : Nat → ClassId) (q0 : Nat → Nat) (v0 : SV) (r : Int32) (v0' : SV) (hf : f_X13_restore v0 = some (r, v0')) (sz : Nat) : mC l yX13_restore wsX13_restore rm_X13_restore D (tyG G) kT [.ref (q0 0)] (kModel G q0 v0) (kModel G q0 v0') sz (some (.int r)) 0 0 := by
  refine mC_ofI (cc := cX13_restore) (maxL := 1) (ret := (some .int)) (by decide) rfl rfl (Nat.le_of_ble_eq_true rfl) ?_
  intro p e s m args below meth c Q0 hx hb hml hts hown hN hK A hD hA hE hP hS hJ ls hl
  have hl : lv_has ls 1 [(0, .ref (q0 0))] := hl
  unfold f_X13_restore at hf
  have hi11 : ∀ w ∈ u_ws RX13 TX13 27, w ∈ wsX13_restore := by decide +kernel
  have hw1 := hts (.fieldLink RX13 50 "BalconyCensusModel" "isSaved" "Z") (by decide +kernel)
  have hw2 := hts (.fieldLink RX13 19 "BalconyCensusModel" "saved" "[I") (by decide +kernel)
  have hw3 := hts (.fieldLink RX13 7 "BalconyCensusModel" "now" "[I") (by decide +kernel)
  have hw4 := hts (.fieldLink RX13 25 "BalconyCensusModel" "changed" "I") (by decide +kernel)
  refine lv_aload_n hx hb dX13_restore_0 rfl (lv_at hl 0 rfl) ?_
  refine va_get (D := D) (ci := 11) (v := .int (v0.1 8)) (C := RX13) (T := TX13) (N := 27) hx hb hts hi11 hown hK hP 0 rfl rfl 13 (by decide) hw1 (fun _ h9 => h9) rfl dX13_restore_1 ?_
  refine lv_if_ne (tgt := 10) hx hb dX13_restore_4 (by decide) (fun cc => ?_) (fun cc => ?_)
  · replace hf := ifF cc hf
    refine lv_aload_n hx hb dX13_restore_10 rfl (lv_at hl 0 rfl) ?_
    refine va_get (D := D) (ci := 11) (v := .ref (q0 4)) (C := RX13) (T := TX13) (N := 27) hx hb hts hi11 hown hK hP 0 rfl rfl 3 (by decide) hw2 (fun _ h9 => h9) rfl dX13_restore_11 ?_
    refine lv_iconst (v := 0) hx hb dX13_restore_14 (by decide) ?_
    refine lv_aload_n hx hb dX13_restore_15 rfl (lv_at hl 0 rfl) ?_
    refine va_get (D := D) (ci := 11) (v := .ref (q0 1)) (C := RX13) (T := TX13) (N := 27) hx hb hts hi11 hown hK hP 0 rfl rfl 0 (by decide) hw3 (fun _ h9 => h9) rfl dX13_restore_16 ?_
    refine lv_iconst (v := 0) hx hb dX13_restore_19 (by decide) ?_
    obtain ⟨w_1, hc, hf⟩ := bd1_of hf
    refine k_S (As := [.ref (q0 4), .int 0, .ref (q0 1), .int 0]) (rest := []) (ws1 := (kModel G q0 (pR v0 0 w_1))) ⟨hx, hb, hml, hown, hts⟩ (c_X13_copies l D G (q0 4) 240 (q0 1) 240 0 0 (v0.2 3) (v0.2 0) _ hc  _) (va_cwS 4 hts gX13_restore_X13_copies rfl rfl rfl (by decide +kernel) ⟨Nat.le_of_ble_eq_true rfl, Nat.le_of_ble_eq_true rfl⟩) hl.1 (Nat.le_of_ble_eq_true rfl) dX13_restore_20 ⟨Nat.le_of_ble_eq_true rfl, Nat.le_of_ble_eq_true rfl⟩ rfl kT_bl (fun _ _ _ => trivial) hN hK hP hD hS hA [4, 1] [0, 2, 3, 5, 6, 7, 8, 9, 10, 11] [0, 11, 1, 2, 10, 3, 4, 5, 6, 7, 8, 9] [0, 1, 2, 3] rfl rfl rfl ⟨by decide, by decide, by decide, by decide⟩ rfl (fun H locs hP hD hS => ?_)
    obtain ⟨v_2, ev_2, hf⟩ := nm_of hf
    have hP : va_P D vwCl (kModel G q0 v_2) H := by rw [ev_2]; exact hP
    have hD : va_D A (kModel G q0 v_2) := by rw [ev_2]; exact hD
    refine lv_aload_n hx hb dX13_restore_23 rfl (lv_at hl 0 rfl) ?_
    refine lv_iconst (v := 0) hx hb dX13_restore_24 (by decide) ?_
    obtain ⟨v_3, ev_3, hf⟩ := nm_of hf
    refine va_put (D := D) (ci := 11) (v := .int 0) (ty := .int) (C := RX13) (T := TX13) (N := 27) hx hb hts hi11 tyX13 tyX13_ok nmX13 hown hK hP hD hS 0 rfl rfl 5 (by decide) hw4 (fun _ h9 => h9) rfl (by decide +kernel) rfl rfl (Nat.le_of_ble_eq_true rfl) dX13_restore_25 (fun H locs hP hD hS => ?_)
    have hP : va_P D vwCl (kModel G q0 v_3) H := by rw [ev_3]; exact hP
    have hD : va_D A (kModel G q0 v_3) := by rw [ev_3]; exact hD
    refine lv_aload_n hx hb dX13_restore_28 rfl (lv_at hl 0 rfl) ?_
    obtain ⟨r_4, hc, hf⟩ := bd1_of hf
    refine k_V (As := []) (rest := []) (ws1 := (kModel G q0 v_3)) ⟨hx, hb, hml, hown, hts⟩ (c_X13_allPlants l D G q0  v_3 _ hc  _) (cwV 0 hts gX13_restore_X13_allPlants rfl rfl rfl (by decide +kernel) ⟨Nat.le_of_ble_eq_true rfl, Nat.le_of_ble_eq_true rfl⟩) hl.1 (Nat.le_of_ble_eq_true rfl) dX13_restore_29 ⟨Nat.le_of_ble_eq_true rfl, Nat.le_of_ble_eq_true rfl⟩ rfl kT_bl (fun _ _ _ => trivial) hN hK hP hD hS hA 0 11 rfl rfl rfl [0, 1, 2, 3, 4, 5, 6, 7, 8, 9, 10, 11] [] [0, 1, 2, 3, 4, 5, 6, 7, 8, 9, 10, 11] [0, 1, 2, 3] rfl rfl rfl ⟨by decide, by decide, by decide, by decide⟩ rfl (fun H locs hP hD hS => ?_)
    obtain ⟨rfl, rfl⟩ := re2 hf
    exact hE hP hD hS dX13_restore_32
  · replace hf := ifT cc hf
    refine lv_bipush (v := (-4)) hx hb dX13_restore_7 (by decide +kernel) ?_
    obtain ⟨rfl, rfl⟩ := re2 hf
    exact hE hP hD hS dX13_restore_9
