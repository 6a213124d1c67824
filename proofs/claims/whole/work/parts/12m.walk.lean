/-! Walks, laid by wip/whole/gen.py: for each method f_ (what it does to its world) and c_ (its contract). -/
def f_X13_command_J81 (r_1 : Int32) (j_6 : Int32) (j_22 : Int32) (j_29 : Int32) (jv_30 : SV) : Option SV :=
  if (jv_30.1 14) = 0 then
    ckI (jv_30.1 13) 32 <|
    nm (pA jv_30 9 (jv_30.1 13) r_1) fun v_31 =>
    ckI (3 * (v_31.1 13)) 96 <|
    nm (pA v_31 10 (3 * (v_31.1 13)) j_6) fun v_32 =>
    ckI ((3 * (v_32.1 13)) + 1) 96 <|
    nm (pA v_32 10 ((3 * (v_32.1 13)) + 1) j_22) fun v_33 =>
    ckI ((3 * (v_33.1 13)) + 2) 96 <|
    nm (pA v_33 10 ((3 * (v_33.1 13)) + 2) j_29) fun v_34 =>
    nm (pF v_34 13 ((v_34.1 13) + 1)) fun v_35 =>
    some v_35
  else
    some jv_30
def f_X13_command_J64 (r_1 : Int32) (j_6 : Int32) (j_22 : Int32) (jv_23 : SV) : Option SV :=
  if r_1 = 2 then
    bd2 (f_X13_behindBlank 1 jv_23) fun r_25 w_26 =>
    f_X13_command_J81 r_1 j_6 j_22 r_25 w_26
  else
    if r_1 = 4 then
      bd2 (f_X13_behindBlank 1 jv_23) fun r_27 w_28 =>
      f_X13_command_J81 r_1 j_6 j_22 r_27 w_28
    else
      f_X13_command_J81 r_1 j_6 j_22 0 jv_23
def f_X13_command_J37 (r_1 : Int32) (j_6 : Int32) (j_11 : Int32) (jv_12 : SV) : Option SV :=
  if r_1 = 2 then
    bd2 (f_X13_behindBlank 2 jv_12) fun r_14 w_15 =>
    f_X13_command_J64 r_1 j_6 r_14 w_15
  else
    if r_1 = 3 then
      bd2 (f_X13_behindBlank 2 jv_12) fun r_16 w_17 =>
      f_X13_command_J64 r_1 j_6 r_16 w_17
    else
      if r_1 = 4 then
        bd2 (f_X13_behindBlank 2 jv_12) fun r_18 w_19 =>
        f_X13_command_J64 r_1 j_6 r_18 w_19
      else
        if r_1 = 6 then
          bd2 (f_X13_behindBlank 2 jv_12) fun r_20 w_21 =>
          f_X13_command_J64 r_1 j_6 r_20 w_21
        else
          f_X13_command_J64 r_1 j_6 j_11 jv_12
def f_X13_command_J20 (r_1 : Int32) (j_6 : Int32) (jv_7 : SV) : Option SV :=
  if 2 ≤ r_1 then
    f_X13_command_J37 r_1 j_6 0 jv_7
  else
    bd2 (f_X13_behindBlank 1 jv_7) fun r_9 w_10 =>
    f_X13_command_J37 r_1 j_6 r_9 w_10
def f_X13_command (v0 : SV) : Option SV :=
  bd2 (f_X13_kindHere v0) fun r_1 w_2 =>
  if 7 ≤ r_1 then
    f_X13_command_J20 r_1 0 w_2
  else
    bd2 (f_X13_behindBlank 2 w_2) fun r_4 w_5 =>
    f_X13_command_J20 r_1 r_4 w_5
abbrev rm_X13_command : Room := { frames := 3, cells := 0, slots := 0, locals := 69 }
set_option maxHeartbeats 4000000 in
set_option maxRecDepth 100000 in
theorem c_X13_command (l : Launch) (D : va_G) (G : Nat → ClassId) (q0 : Nat → Nat) (v0 : SV) (v0' : SV) (hf : f_X13_command v0 = some v0') (sz : Nat) : mC l yX13_command wsX13_command rm_X13_command D (tyG G) kT [.ref (q0 0)] (kModel G q0 v0) (kModel G q0 v0') sz none 0 0 := by
  refine mC_ofV (cc := cX13_command) (maxL := 5) (ret := none) (by decide) rfl rfl (Nat.le_of_ble_eq_true rfl) ?_
  intro p e s m args below meth c Q0 hx hb hml hts hown hN hK A hD hA hE hP hS hJ ls hl
  have hl : lv_has ls 5 [(0, .ref (q0 0))] := hl
  unfold f_X13_command at hf
  have hi11 : ∀ w ∈ u_ws RX13 TX13 27, w ∈ wsX13_command := by decide +kernel
  have hw1 := hts (.fieldLink RX13 87 "BalconyCensusModel" "isWrong" "Z") (by decide +kernel)
  have hw2 := hts (.fieldLink RX13 69 "BalconyCensusModel" "kinds" "[I") (by decide +kernel)
  have hw3 := hts (.fieldLink RX13 84 "BalconyCensusModel" "commands" "I") (by decide +kernel)
  have hw4 := hts (.fieldLink RX13 72 "BalconyCensusModel" "numbers" "[I") (by decide +kernel)
  refine lv_aload_n hx hb dX13_command_0 rfl (lv_at hl 0 rfl) ?_
  obtain ⟨r_1, w_2, hc, hf⟩ := bd2_of hf
  refine k_V (As := []) (rest := []) (ws1 := (kModel G q0 w_2)) ⟨hx, hb, hml, hown, hts⟩ (c_X13_kindHere l D G q0  v0 _ _ hc  _) (cwV 0 hts gX13_command_X13_kindHere rfl rfl rfl (by decide +kernel) ⟨Nat.le_of_ble_eq_true rfl, Nat.le_of_ble_eq_true rfl⟩) hl.1 (Nat.le_of_ble_eq_true rfl) dX13_command_1 ⟨Nat.le_of_ble_eq_true rfl, Nat.le_of_ble_eq_true rfl⟩ rfl kT_bl (fun _ _ _ => trivial) hN hK hP hD hS hA 0 11 rfl rfl rfl [0, 1, 2, 3, 4, 5, 6, 7, 8, 9, 10, 11] [] [0, 1, 2, 3, 4, 5, 6, 7, 8, 9, 10, 11] [0, 1, 2, 3] rfl rfl rfl ⟨by decide, by decide, by decide, by decide⟩ rfl (fun H locs hP hD hS => ?_)
  refine lv_istore_n (lv' := [(1, .int r_1), (0, .ref (q0 0))]) hx hb dX13_command_4 rfl hl (by decide) rfl (fun ls hl => ?_)
  refine lv_iload_n hx hb dX13_command_5 rfl (lv_at hl 0 rfl) ?_
  refine lv_bipush (v := 7) hx hb dX13_command_6 (by decide +kernel) ?_
  have jnJ_3 : ∀ (j_6 : Int32) (jv_7 : SV) (H : Heap) (locs : List Loc) (ls : Array Slot), lv_has ls 5 [(1, .int r_1), (0, .ref (q0 0))] → va_P D vwCl (kModel G q0 jv_7) H → va_D A (kModel G q0 jv_7) → va_S A s.heap H locs → f_X13_command_J20 r_1 j_6 jv_7 = some v0' → W p l e rm_X13_command s m args below meth c H locs 0 0 Q0 (F0 m 20 ls [.int j_6]) := by
    intro j_6 jv_7 H locs ls hl hP hD hS hf
    unfold f_X13_command_J20 at hf
    refine lv_istore_n (lv' := [(2, .int j_6), (1, .int r_1), (0, .ref (q0 0))]) hx hb dX13_command_20 rfl hl (by decide) rfl (fun ls hl => ?_)
    refine lv_iconst (v := 0) hx hb dX13_command_21 (by decide) ?_
    refine lv_istore_n (lv' := [(3, .int 0), (2, .int j_6), (1, .int r_1), (0, .ref (q0 0))]) hx hb dX13_command_22 rfl hl (by decide) rfl (fun ls hl => ?_)
    refine lv_iconst (v := 0) hx hb dX13_command_23 (by decide) ?_
    refine lv_istore (lv' := [(4, .int 0), (3, .int 0), (2, .int j_6), (1, .int r_1), (0, .ref (q0 0))]) hx hb dX13_command_24 hl (by decide) rfl (fun ls hl => ?_)
    refine lv_iload_n hx hb dX13_command_26 rfl (lv_at hl 3 rfl) ?_
    refine lv_iconst (v := 2) hx hb dX13_command_27 (by decide) ?_
    have jnJ_8 : ∀ (j_11 : Int32) (jv_12 : SV) (H : Heap) (locs : List Loc) (ls : Array Slot), lv_has ls 5 [(4, .int 0), (3, .int j_11), (2, .int j_6), (1, .int r_1), (0, .ref (q0 0))] → va_P D vwCl (kModel G q0 jv_12) H → va_D A (kModel G q0 jv_12) → va_S A s.heap H locs → f_X13_command_J37 r_1 j_6 j_11 jv_12 = some v0' → W p l e rm_X13_command s m args below meth c H locs 0 0 Q0 (F0 m 37 ls []) := by
      intro j_11 jv_12 H locs ls hl hP hD hS hf
      unfold f_X13_command_J37 at hf
      refine lv_iload_n hx hb dX13_command_37 rfl (lv_at hl 3 rfl) ?_
      refine lv_iconst (v := 2) hx hb dX13_command_38 (by decide) ?_
      have jnJ_13 : ∀ (j_22 : Int32) (jv_23 : SV) (H : Heap) (locs : List Loc) (ls : Array Slot), lv_has ls 5 [(3, .int j_22), (4, .int 0), (2, .int j_6), (1, .int r_1), (0, .ref (q0 0))] → va_P D vwCl (kModel G q0 jv_23) H → va_D A (kModel G q0 jv_23) → va_S A s.heap H locs → f_X13_command_J64 r_1 j_6 j_22 jv_23 = some v0' → W p l e rm_X13_command s m args below meth c H locs 0 0 Q0 (F0 m 64 ls []) := by
        intro j_22 jv_23 H locs ls hl hP hD hS hf
        unfold f_X13_command_J64 at hf
        refine lv_iload_n hx hb dX13_command_64 rfl (lv_at hl 3 rfl) ?_
        refine lv_iconst (v := 2) hx hb dX13_command_65 (by decide) ?_
        have jnJ_24 : ∀ (j_29 : Int32) (jv_30 : SV) (H : Heap) (locs : List Loc) (ls : Array Slot), lv_has ls 5 [(4, .int j_29), (3, .int j_22), (2, .int j_6), (1, .int r_1), (0, .ref (q0 0))] → va_P D vwCl (kModel G q0 jv_30) H → va_D A (kModel G q0 jv_30) → va_S A s.heap H locs → f_X13_command_J81 r_1 j_6 j_22 j_29 jv_30 = some v0' → W p l e rm_X13_command s m args below meth c H locs 0 0 Q0 (F0 m 81 ls []) := by
          intro j_29 jv_30 H locs ls hl hP hD hS hf
          unfold f_X13_command_J81 at hf
          refine lv_aload_n hx hb dX13_command_81 rfl (lv_at hl 4 rfl) ?_
          refine va_get (D := D) (ci := 11) (v := .int (jv_30.1 14)) (C := RX13) (T := TX13) (N := 27) hx hb hts hi11 hown hK hP 0 rfl rfl 25 (by decide) hw1 (fun _ h9 => h9) rfl dX13_command_82 ?_
          refine lv_if_eq (tgt := 89) hx hb dX13_command_85 (by decide) (fun cc => ?_) (fun cc => ?_)
          · replace hf := ifT cc hf
            refine lv_aload_n hx hb dX13_command_89 rfl (lv_at hl 4 rfl) ?_
            refine va_get (D := D) (ci := 11) (v := .ref (q0 10)) (C := RX13) (T := TX13) (N := 27) hx hb hts hi11 hown hK hP 0 rfl rfl 19 (by decide) hw2 (fun _ h9 => h9) rfl dX13_command_90 ?_
            refine lv_aload_n hx hb dX13_command_93 rfl (lv_at hl 4 rfl) ?_
            refine va_get (D := D) (ci := 11) (v := .int (jv_30.1 13)) (C := RX13) (T := TX13) (N := 27) hx hb hts hi11 hown hK hP 0 rfl rfl 24 (by decide) hw3 (fun _ h9 => h9) rfl dX13_command_94 ?_
            refine lv_iload_n hx hb dX13_command_97 rfl (lv_at hl 3 rfl) ?_
            obtain ⟨hin, hf⟩ := ckI_of hf
            obtain ⟨v_31, ev_31, hf⟩ := nm_of hf
            refine va_iast (D := D) hx hb hK hP hD hS 10 0 rfl rfl hin dX13_command_98 (fun H locs hP hD hS => ?_)
            have hP : va_P D vwCl (kModel G q0 v_31) H := by rw [ev_31]; exact hP
            have hD : va_D A (kModel G q0 v_31) := by rw [ev_31]; exact hD
            refine lv_aload_n hx hb dX13_command_99 rfl (lv_at hl 4 rfl) ?_
            refine va_get (D := D) (ci := 11) (v := .ref (q0 11)) (C := RX13) (T := TX13) (N := 27) hx hb hts hi11 hown hK hP 0 rfl rfl 20 (by decide) hw4 (fun _ h9 => h9) rfl dX13_command_100 ?_
            refine lv_iconst (v := 3) hx hb dX13_command_103 (by decide) ?_
            refine lv_aload_n hx hb dX13_command_104 rfl (lv_at hl 4 rfl) ?_
            refine va_get (D := D) (ci := 11) (v := .int (v_31.1 13)) (C := RX13) (T := TX13) (N := 27) hx hb hts hi11 hown hK hP 0 rfl rfl 24 (by decide) hw3 (fun _ h9 => h9) rfl dX13_command_105 ?_
            refine lv_imul hx hb dX13_command_108 ?_
            refine lv_iload_n hx hb dX13_command_109 rfl (lv_at hl 2 rfl) ?_
            obtain ⟨hin, hf⟩ := ckI_of hf
            obtain ⟨v_32, ev_32, hf⟩ := nm_of hf
            refine va_iast (D := D) hx hb hK hP hD hS 11 0 rfl rfl hin dX13_command_110 (fun H locs hP hD hS => ?_)
            have hP : va_P D vwCl (kModel G q0 v_32) H := by rw [ev_32]; exact hP
            have hD : va_D A (kModel G q0 v_32) := by rw [ev_32]; exact hD
            refine lv_aload_n hx hb dX13_command_111 rfl (lv_at hl 4 rfl) ?_
            refine va_get (D := D) (ci := 11) (v := .ref (q0 11)) (C := RX13) (T := TX13) (N := 27) hx hb hts hi11 hown hK hP 0 rfl rfl 20 (by decide) hw4 (fun _ h9 => h9) rfl dX13_command_112 ?_
            refine lv_iconst (v := 3) hx hb dX13_command_115 (by decide) ?_
            refine lv_aload_n hx hb dX13_command_116 rfl (lv_at hl 4 rfl) ?_
            refine va_get (D := D) (ci := 11) (v := .int (v_32.1 13)) (C := RX13) (T := TX13) (N := 27) hx hb hts hi11 hown hK hP 0 rfl rfl 24 (by decide) hw3 (fun _ h9 => h9) rfl dX13_command_117 ?_
            refine lv_imul hx hb dX13_command_120 ?_
            refine lv_iconst (v := 1) hx hb dX13_command_121 (by decide) ?_
            refine lv_iadd hx hb dX13_command_122 ?_
            refine lv_iload_n hx hb dX13_command_123 rfl (lv_at hl 1 rfl) ?_
            obtain ⟨hin, hf⟩ := ckI_of hf
            obtain ⟨v_33, ev_33, hf⟩ := nm_of hf
            refine va_iast (D := D) hx hb hK hP hD hS 11 0 rfl rfl hin dX13_command_124 (fun H locs hP hD hS => ?_)
            have hP : va_P D vwCl (kModel G q0 v_33) H := by rw [ev_33]; exact hP
            have hD : va_D A (kModel G q0 v_33) := by rw [ev_33]; exact hD
            refine lv_aload_n hx hb dX13_command_125 rfl (lv_at hl 4 rfl) ?_
            refine va_get (D := D) (ci := 11) (v := .ref (q0 11)) (C := RX13) (T := TX13) (N := 27) hx hb hts hi11 hown hK hP 0 rfl rfl 20 (by decide) hw4 (fun _ h9 => h9) rfl dX13_command_126 ?_
            refine lv_iconst (v := 3) hx hb dX13_command_129 (by decide) ?_
            refine lv_aload_n hx hb dX13_command_130 rfl (lv_at hl 4 rfl) ?_
            refine va_get (D := D) (ci := 11) (v := .int (v_33.1 13)) (C := RX13) (T := TX13) (N := 27) hx hb hts hi11 hown hK hP 0 rfl rfl 24 (by decide) hw3 (fun _ h9 => h9) rfl dX13_command_131 ?_
            refine lv_imul hx hb dX13_command_134 ?_
            refine lv_iconst (v := 2) hx hb dX13_command_135 (by decide) ?_
            refine lv_iadd hx hb dX13_command_136 ?_
            refine lv_iload hx hb dX13_command_137 (lv_at hl 0 rfl) ?_
            obtain ⟨hin, hf⟩ := ckI_of hf
            obtain ⟨v_34, ev_34, hf⟩ := nm_of hf
            refine va_iast (D := D) hx hb hK hP hD hS 11 0 rfl rfl hin dX13_command_139 (fun H locs hP hD hS => ?_)
            have hP : va_P D vwCl (kModel G q0 v_34) H := by rw [ev_34]; exact hP
            have hD : va_D A (kModel G q0 v_34) := by rw [ev_34]; exact hD
            refine lv_aload_n hx hb dX13_command_140 rfl (lv_at hl 4 rfl) ?_
            refine lv_dup hx hb dX13_command_141 rfl ?_
            refine va_get (D := D) (ci := 11) (v := .int (v_34.1 13)) (C := RX13) (T := TX13) (N := 27) hx hb hts hi11 hown hK hP 0 rfl rfl 24 (by decide) hw3 (fun _ h9 => h9) rfl dX13_command_142 ?_
            refine lv_iconst (v := 1) hx hb dX13_command_145 (by decide) ?_
            refine lv_iadd hx hb dX13_command_146 ?_
            obtain ⟨v_35, ev_35, hf⟩ := nm_of hf
            refine va_put (D := D) (ci := 11) (v := .int ((v_34.1 13) + 1)) (ty := .int) (C := RX13) (T := TX13) (N := 27) hx hb hts hi11 tyX13 tyX13_ok nmX13 hown hK hP hD hS 0 rfl rfl 24 (by decide) hw3 (fun _ h9 => h9) rfl (by decide +kernel) rfl rfl (Nat.le_of_ble_eq_true rfl) dX13_command_147 (fun H locs hP hD hS => ?_)
            have hP : va_P D vwCl (kModel G q0 v_35) H := by rw [ev_35]; exact hP
            have hD : va_D A (kModel G q0 v_35) := by rw [ev_35]; exact hD
            obtain rfl := re1 hf
            exact hE hP hD hS dX13_command_150
          · replace hf := ifF cc hf
            obtain rfl := re1 hf
            exact hE hP hD hS dX13_command_88
        refine lv_icmp_eq (tgt := 74) hx hb dX13_command_66 (by decide) (fun cc => ?_) (fun cc => ?_)
        · replace hf := ifT cc hf
          refine lv_aload_n hx hb dX13_command_74 rfl (lv_at hl 4 rfl) ?_
          refine lv_iconst (v := 1) hx hb dX13_command_75 (by decide) ?_
          obtain ⟨r_25, w_26, hc, hf⟩ := bd2_of hf
          refine k_V (As := [.int 1]) (rest := []) (ws1 := (kModel G q0 w_26)) ⟨hx, hb, hml, hown, hts⟩ (c_X13_behindBlank l D G q0 1 jv_23 _ _ hc  _) (cwV 1 hts gX13_command_X13_behindBlank rfl rfl rfl (by decide +kernel) ⟨Nat.le_of_ble_eq_true rfl, Nat.le_of_ble_eq_true rfl⟩) hl.1 (Nat.le_of_ble_eq_true rfl) dX13_command_76 ⟨Nat.le_of_ble_eq_true rfl, Nat.le_of_ble_eq_true rfl⟩ rfl kT_bl (fun _ _ _ => trivial) hN hK hP hD hS hA 0 11 rfl rfl rfl [0, 1, 2, 3, 4, 5, 6, 7, 8, 9, 10, 11] [] [0, 1, 2, 3, 4, 5, 6, 7, 8, 9, 10, 11] [0, 1, 2, 3] rfl rfl rfl ⟨by decide, by decide, by decide, by decide⟩ rfl (fun H locs hP hD hS => ?_)
          refine lv_istore (lv' := [(4, .int r_25), (3, .int j_22), (2, .int j_6), (1, .int r_1), (0, .ref (q0 0))]) hx hb dX13_command_79 hl (by decide) rfl (fun ls hl => ?_)
          exact jnJ_24 r_25 w_26 _ _ _ (lv_sub hl [0, 1, 2, 3, 4] rfl) hP hD hS hf
        · replace hf := ifF cc hf
          refine lv_iload_n hx hb dX13_command_69 rfl (lv_at hl 3 rfl) ?_
          refine lv_iconst (v := 4) hx hb dX13_command_70 (by decide) ?_
          refine lv_icmp_ne (tgt := 81) hx hb dX13_command_71 (by decide) (fun cc => ?_) (fun cc => ?_)
          · replace hf := ifF cc hf
            exact jnJ_24 0 jv_23 _ _ _ (lv_sub hl [1, 0, 2, 3, 4] rfl) hP hD hS hf
          · replace hf := ifT cc hf
            refine lv_aload_n hx hb dX13_command_74 rfl (lv_at hl 4 rfl) ?_
            refine lv_iconst (v := 1) hx hb dX13_command_75 (by decide) ?_
            obtain ⟨r_27, w_28, hc, hf⟩ := bd2_of hf
            refine k_V (As := [.int 1]) (rest := []) (ws1 := (kModel G q0 w_28)) ⟨hx, hb, hml, hown, hts⟩ (c_X13_behindBlank l D G q0 1 jv_23 _ _ hc  _) (cwV 1 hts gX13_command_X13_behindBlank rfl rfl rfl (by decide +kernel) ⟨Nat.le_of_ble_eq_true rfl, Nat.le_of_ble_eq_true rfl⟩) hl.1 (Nat.le_of_ble_eq_true rfl) dX13_command_76 ⟨Nat.le_of_ble_eq_true rfl, Nat.le_of_ble_eq_true rfl⟩ rfl kT_bl (fun _ _ _ => trivial) hN hK hP hD hS hA 0 11 rfl rfl rfl [0, 1, 2, 3, 4, 5, 6, 7, 8, 9, 10, 11] [] [0, 1, 2, 3, 4, 5, 6, 7, 8, 9, 10, 11] [0, 1, 2, 3] rfl rfl rfl ⟨by decide, by decide, by decide, by decide⟩ rfl (fun H locs hP hD hS => ?_)
            refine lv_istore (lv' := [(4, .int r_27), (3, .int j_22), (2, .int j_6), (1, .int r_1), (0, .ref (q0 0))]) hx hb dX13_command_79 hl (by decide) rfl (fun ls hl => ?_)
            exact jnJ_24 r_27 w_28 _ _ _ (lv_sub hl [0, 1, 2, 3, 4] rfl) hP hD hS hf
      refine lv_icmp_eq (tgt := 58) hx hb dX13_command_39 (by decide) (fun cc => ?_) (fun cc => ?_)
      · replace hf := ifT cc hf
        refine lv_aload_n hx hb dX13_command_58 rfl (lv_at hl 4 rfl) ?_
        refine lv_iconst (v := 2) hx hb dX13_command_59 (by decide) ?_
        obtain ⟨r_14, w_15, hc, hf⟩ := bd2_of hf
        refine k_V (As := [.int 2]) (rest := []) (ws1 := (kModel G q0 w_15)) ⟨hx, hb, hml, hown, hts⟩ (c_X13_behindBlank l D G q0 2 jv_12 _ _ hc  _) (cwV 1 hts gX13_command_X13_behindBlank rfl rfl rfl (by decide +kernel) ⟨Nat.le_of_ble_eq_true rfl, Nat.le_of_ble_eq_true rfl⟩) hl.1 (Nat.le_of_ble_eq_true rfl) dX13_command_60 ⟨Nat.le_of_ble_eq_true rfl, Nat.le_of_ble_eq_true rfl⟩ rfl kT_bl (fun _ _ _ => trivial) hN hK hP hD hS hA 0 11 rfl rfl rfl [0, 1, 2, 3, 4, 5, 6, 7, 8, 9, 10, 11] [] [0, 1, 2, 3, 4, 5, 6, 7, 8, 9, 10, 11] [0, 1, 2, 3] rfl rfl rfl ⟨by decide, by decide, by decide, by decide⟩ rfl (fun H locs hP hD hS => ?_)
        refine lv_istore_n (lv' := [(3, .int r_14), (4, .int 0), (2, .int j_6), (1, .int r_1), (0, .ref (q0 0))]) hx hb dX13_command_63 rfl hl (by decide) rfl (fun ls hl => ?_)
        exact jnJ_13 r_14 w_15 _ _ _ (lv_sub hl [0, 1, 2, 3, 4] rfl) hP hD hS hf
      · replace hf := ifF cc hf
        refine lv_iload_n hx hb dX13_command_42 rfl (lv_at hl 3 rfl) ?_
        refine lv_iconst (v := 3) hx hb dX13_command_43 (by decide) ?_
        refine lv_icmp_eq (tgt := 58) hx hb dX13_command_44 (by decide) (fun cc => ?_) (fun cc => ?_)
        · replace hf := ifT cc hf
          refine lv_aload_n hx hb dX13_command_58 rfl (lv_at hl 4 rfl) ?_
          refine lv_iconst (v := 2) hx hb dX13_command_59 (by decide) ?_
          obtain ⟨r_16, w_17, hc, hf⟩ := bd2_of hf
          refine k_V (As := [.int 2]) (rest := []) (ws1 := (kModel G q0 w_17)) ⟨hx, hb, hml, hown, hts⟩ (c_X13_behindBlank l D G q0 2 jv_12 _ _ hc  _) (cwV 1 hts gX13_command_X13_behindBlank rfl rfl rfl (by decide +kernel) ⟨Nat.le_of_ble_eq_true rfl, Nat.le_of_ble_eq_true rfl⟩) hl.1 (Nat.le_of_ble_eq_true rfl) dX13_command_60 ⟨Nat.le_of_ble_eq_true rfl, Nat.le_of_ble_eq_true rfl⟩ rfl kT_bl (fun _ _ _ => trivial) hN hK hP hD hS hA 0 11 rfl rfl rfl [0, 1, 2, 3, 4, 5, 6, 7, 8, 9, 10, 11] [] [0, 1, 2, 3, 4, 5, 6, 7, 8, 9, 10, 11] [0, 1, 2, 3] rfl rfl rfl ⟨by decide, by decide, by decide, by decide⟩ rfl (fun H locs hP hD hS => ?_)
          refine lv_istore_n (lv' := [(3, .int r_16), (4, .int 0), (2, .int j_6), (1, .int r_1), (0, .ref (q0 0))]) hx hb dX13_command_63 rfl hl (by decide) rfl (fun ls hl => ?_)
          exact jnJ_13 r_16 w_17 _ _ _ (lv_sub hl [0, 1, 2, 3, 4] rfl) hP hD hS hf
        · replace hf := ifF cc hf
          refine lv_iload_n hx hb dX13_command_47 rfl (lv_at hl 3 rfl) ?_
          refine lv_iconst (v := 4) hx hb dX13_command_48 (by decide) ?_
          refine lv_icmp_eq (tgt := 58) hx hb dX13_command_49 (by decide) (fun cc => ?_) (fun cc => ?_)
          · replace hf := ifT cc hf
            refine lv_aload_n hx hb dX13_command_58 rfl (lv_at hl 4 rfl) ?_
            refine lv_iconst (v := 2) hx hb dX13_command_59 (by decide) ?_
            obtain ⟨r_18, w_19, hc, hf⟩ := bd2_of hf
            refine k_V (As := [.int 2]) (rest := []) (ws1 := (kModel G q0 w_19)) ⟨hx, hb, hml, hown, hts⟩ (c_X13_behindBlank l D G q0 2 jv_12 _ _ hc  _) (cwV 1 hts gX13_command_X13_behindBlank rfl rfl rfl (by decide +kernel) ⟨Nat.le_of_ble_eq_true rfl, Nat.le_of_ble_eq_true rfl⟩) hl.1 (Nat.le_of_ble_eq_true rfl) dX13_command_60 ⟨Nat.le_of_ble_eq_true rfl, Nat.le_of_ble_eq_true rfl⟩ rfl kT_bl (fun _ _ _ => trivial) hN hK hP hD hS hA 0 11 rfl rfl rfl [0, 1, 2, 3, 4, 5, 6, 7, 8, 9, 10, 11] [] [0, 1, 2, 3, 4, 5, 6, 7, 8, 9, 10, 11] [0, 1, 2, 3] rfl rfl rfl ⟨by decide, by decide, by decide, by decide⟩ rfl (fun H locs hP hD hS => ?_)
            refine lv_istore_n (lv' := [(3, .int r_18), (4, .int 0), (2, .int j_6), (1, .int r_1), (0, .ref (q0 0))]) hx hb dX13_command_63 rfl hl (by decide) rfl (fun ls hl => ?_)
            exact jnJ_13 r_18 w_19 _ _ _ (lv_sub hl [0, 1, 2, 3, 4] rfl) hP hD hS hf
          · replace hf := ifF cc hf
            refine lv_iload_n hx hb dX13_command_52 rfl (lv_at hl 3 rfl) ?_
            refine lv_bipush (v := 6) hx hb dX13_command_53 (by decide +kernel) ?_
            refine lv_icmp_ne (tgt := 64) hx hb dX13_command_55 (by decide) (fun cc => ?_) (fun cc => ?_)
            · replace hf := ifF cc hf
              exact jnJ_13 j_11 jv_12 _ _ _ (lv_sub hl [1, 0, 2, 3, 4] rfl) hP hD hS hf
            · replace hf := ifT cc hf
              refine lv_aload_n hx hb dX13_command_58 rfl (lv_at hl 4 rfl) ?_
              refine lv_iconst (v := 2) hx hb dX13_command_59 (by decide) ?_
              obtain ⟨r_20, w_21, hc, hf⟩ := bd2_of hf
              refine k_V (As := [.int 2]) (rest := []) (ws1 := (kModel G q0 w_21)) ⟨hx, hb, hml, hown, hts⟩ (c_X13_behindBlank l D G q0 2 jv_12 _ _ hc  _) (cwV 1 hts gX13_command_X13_behindBlank rfl rfl rfl (by decide +kernel) ⟨Nat.le_of_ble_eq_true rfl, Nat.le_of_ble_eq_true rfl⟩) hl.1 (Nat.le_of_ble_eq_true rfl) dX13_command_60 ⟨Nat.le_of_ble_eq_true rfl, Nat.le_of_ble_eq_true rfl⟩ rfl kT_bl (fun _ _ _ => trivial) hN hK hP hD hS hA 0 11 rfl rfl rfl [0, 1, 2, 3, 4, 5, 6, 7, 8, 9, 10, 11] [] [0, 1, 2, 3, 4, 5, 6, 7, 8, 9, 10, 11] [0, 1, 2, 3] rfl rfl rfl ⟨by decide, by decide, by decide, by decide⟩ rfl (fun H locs hP hD hS => ?_)
              refine lv_istore_n (lv' := [(3, .int r_20), (4, .int 0), (2, .int j_6), (1, .int r_1), (0, .ref (q0 0))]) hx hb dX13_command_63 rfl hl (by decide) rfl (fun ls hl => ?_)
              exact jnJ_13 r_20 w_21 _ _ _ (lv_sub hl [0, 1, 2, 3, 4] rfl) hP hD hS hf
    refine lv_icmp_ge (tgt := 37) hx hb dX13_command_28 (by decide) (fun cc => ?_) (fun cc => ?_)
    · replace hf := ifT cc hf
      exact jnJ_8 0 jv_7 _ _ _ (lv_sub hl [0, 1, 2, 3, 4] rfl) hP hD hS hf
    · replace hf := ifF cc hf
      refine lv_aload_n hx hb dX13_command_31 rfl (lv_at hl 4 rfl) ?_
      refine lv_iconst (v := 1) hx hb dX13_command_32 (by decide) ?_
      obtain ⟨r_9, w_10, hc, hf⟩ := bd2_of hf
      refine k_V (As := [.int 1]) (rest := []) (ws1 := (kModel G q0 w_10)) ⟨hx, hb, hml, hown, hts⟩ (c_X13_behindBlank l D G q0 1 jv_7 _ _ hc  _) (cwV 1 hts gX13_command_X13_behindBlank rfl rfl rfl (by decide +kernel) ⟨Nat.le_of_ble_eq_true rfl, Nat.le_of_ble_eq_true rfl⟩) hl.1 (Nat.le_of_ble_eq_true rfl) dX13_command_33 ⟨Nat.le_of_ble_eq_true rfl, Nat.le_of_ble_eq_true rfl⟩ rfl kT_bl (fun _ _ _ => trivial) hN hK hP hD hS hA 0 11 rfl rfl rfl [0, 1, 2, 3, 4, 5, 6, 7, 8, 9, 10, 11] [] [0, 1, 2, 3, 4, 5, 6, 7, 8, 9, 10, 11] [0, 1, 2, 3] rfl rfl rfl ⟨by decide, by decide, by decide, by decide⟩ rfl (fun H locs hP hD hS => ?_)
      refine lv_istore_n (lv' := [(3, .int r_9), (4, .int 0), (2, .int j_6), (1, .int r_1), (0, .ref (q0 0))]) hx hb dX13_command_36 rfl hl (by decide) rfl (fun ls hl => ?_)
      exact jnJ_8 r_9 w_10 _ _ _ (lv_sub hl [1, 0, 2, 3, 4] rfl) hP hD hS hf
  refine lv_icmp_ge (tgt := 19) hx hb dX13_command_8 (by decide) (fun cc => ?_) (fun cc => ?_)
  · replace hf := ifT cc hf
    refine lv_iconst (v := 0) hx hb dX13_command_19 (by decide) ?_
    exact jnJ_3 0 w_2 _ _ _ (lv_sub hl [0, 1] rfl) hP hD hS hf
  · replace hf := ifF cc hf
    refine lv_aload_n hx hb dX13_command_11 rfl (lv_at hl 1 rfl) ?_
    refine lv_iconst (v := 2) hx hb dX13_command_12 (by decide) ?_
    obtain ⟨r_4, w_5, hc, hf⟩ := bd2_of hf
    refine k_V (As := [.int 2]) (rest := []) (ws1 := (kModel G q0 w_5)) ⟨hx, hb, hml, hown, hts⟩ (c_X13_behindBlank l D G q0 2 w_2 _ _ hc  _) (cwV 1 hts gX13_command_X13_behindBlank rfl rfl rfl (by decide +kernel) ⟨Nat.le_of_ble_eq_true rfl, Nat.le_of_ble_eq_true rfl⟩) hl.1 (Nat.le_of_ble_eq_true rfl) dX13_command_13 ⟨Nat.le_of_ble_eq_true rfl, Nat.le_of_ble_eq_true rfl⟩ rfl kT_bl (fun _ _ _ => trivial) hN hK hP hD hS hA 0 11 rfl rfl rfl [0, 1, 2, 3, 4, 5, 6, 7, 8, 9, 10, 11] [] [0, 1, 2, 3, 4, 5, 6, 7, 8, 9, 10, 11] [0, 1, 2, 3] rfl rfl rfl ⟨by decide, by decide, by decide, by decide⟩ rfl (fun H locs hP hD hS => ?_)
    refine lv_goto (tgt := 20) hx hb dX13_command_16 (by decide) ?_
    exact jnJ_3 r_4 w_5 _ _ _ (lv_sub hl [0, 1] rfl) hP hD hS hf
def f_X13_reads_K32 (z_16 : SV) : Option SV :=
  if (z_16.1 11) ≤ (z_16.1 12) then
    ckB ((z_16.1 14) ||| 0) <|
    nm (pF z_16 14 ((z_16.1 14) ||| 0)) fun v_17 =>
    some v_17
  else
    ckB ((z_16.1 14) ||| 1) <|
    nm (pF z_16 14 ((z_16.1 14) ||| 1)) fun v_18 =>
    some v_18
def f_X13_reads_B32 (selfL_12 : (SV → Option SV)) (u_11 : SV) : Option SV :=
  bd1 (f_X13_mark u_11) fun r_13 =>
  if r_13 = 59 then
    nm (pF u_11 12 ((u_11.1 12) + 1)) fun v_14 =>
    bd1 (f_X13_command v_14) fun w_15 =>
    selfL_12 w_15
  else
    f_X13_reads_K32 u_11
def f_X13_reads (v0 : SV) : Option SV :=
  nm (pF v0 11 (v0.1 10)) fun v_1 =>
  nm (pF v_1 10 0) fun v_2 =>
  nm (pF v_2 12 0) fun v_3 =>
  nm (pF v_3 13 0) fun v_4 =>
  nm (pF v_4 14 0) fun v_5 =>
  bd1 (f_X13_command v_5) fun w_6 =>
  lz1 (f_X13_reads_B32) FU w_6
abbrev rm_X13_reads : Room := { frames := 4, cells := 0, slots := 0, locals := 93 }
set_option maxHeartbeats 4000000 in
set_option maxRecDepth 100000 in
theorem c_X13_reads (l : Launch) (D : va_G) (G : Nat → ClassId) (q0 : Nat → Nat) (v0 : SV) (v0' : SV) (hf : f_X13_reads v0 = some v0') (sz : Nat) : mC l yX13_reads wsX13_reads rm_X13_reads D (tyG G) kT [.ref (q0 0)] (kModel G q0 v0) (kModel G q0 v0') sz none 0 0 := by
  refine mC_ofV (cc := cX13_reads) (maxL := 1) (ret := none) (by decide) rfl rfl (Nat.le_of_ble_eq_true rfl) ?_
  intro p e s m args below meth c Q0 hx hb hml hts hown hN hK A hD hA hE hP hS hJ ls hl
  have hl : lv_has ls 1 [(0, .ref (q0 0))] := hl
  unfold f_X13_reads at hf
  have hi11 : ∀ w ∈ u_ws RX13 TX13 27, w ∈ wsX13_reads := by decide +kernel
  have hw1 := hts (.fieldLink RX13 75 "BalconyCensusModel" "fed" "I") (by decide +kernel)
  have hw2 := hts (.fieldLink RX13 78 "BalconyCensusModel" "inputLong" "I") (by decide +kernel)
  have hw3 := hts (.fieldLink RX13 81 "BalconyCensusModel" "spot" "I") (by decide +kernel)
  have hw4 := hts (.fieldLink RX13 84 "BalconyCensusModel" "commands" "I") (by decide +kernel)
  have hw5 := hts (.fieldLink RX13 87 "BalconyCensusModel" "isWrong" "Z") (by decide +kernel)
  refine lv_aload_n hx hb dX13_reads_0 rfl (lv_at hl 0 rfl) ?_
  refine lv_aload_n hx hb dX13_reads_1 rfl (lv_at hl 0 rfl) ?_
  refine va_get (D := D) (ci := 11) (v := .int (v0.1 10)) (C := RX13) (T := TX13) (N := 27) hx hb hts hi11 hown hK hP 0 rfl rfl 21 (by decide) hw1 (fun _ h9 => h9) rfl dX13_reads_2 ?_
  obtain ⟨v_1, ev_1, hf⟩ := nm_of hf
  refine va_put (D := D) (ci := 11) (v := .int (v0.1 10)) (ty := .int) (C := RX13) (T := TX13) (N := 27) hx hb hts hi11 tyX13 tyX13_ok nmX13 hown hK hP hD hS 0 rfl rfl 22 (by decide) hw2 (fun _ h9 => h9) rfl (by decide +kernel) rfl rfl (Nat.le_of_ble_eq_true rfl) dX13_reads_5 (fun H locs hP hD hS => ?_)
  have hP : va_P D vwCl (kModel G q0 v_1) H := by rw [ev_1]; exact hP
  have hD : va_D A (kModel G q0 v_1) := by rw [ev_1]; exact hD
  refine lv_aload_n hx hb dX13_reads_8 rfl (lv_at hl 0 rfl) ?_
  refine lv_iconst (v := 0) hx hb dX13_reads_9 (by decide) ?_
  obtain ⟨v_2, ev_2, hf⟩ := nm_of hf
  refine va_put (D := D) (ci := 11) (v := .int 0) (ty := .int) (C := RX13) (T := TX13) (N := 27) hx hb hts hi11 tyX13 tyX13_ok nmX13 hown hK hP hD hS 0 rfl rfl 21 (by decide) hw1 (fun _ h9 => h9) rfl (by decide +kernel) rfl rfl (Nat.le_of_ble_eq_true rfl) dX13_reads_10 (fun H locs hP hD hS => ?_)
  have hP : va_P D vwCl (kModel G q0 v_2) H := by rw [ev_2]; exact hP
  have hD : va_D A (kModel G q0 v_2) := by rw [ev_2]; exact hD
  refine lv_aload_n hx hb dX13_reads_13 rfl (lv_at hl 0 rfl) ?_
  refine lv_iconst (v := 0) hx hb dX13_reads_14 (by decide) ?_
  obtain ⟨v_3, ev_3, hf⟩ := nm_of hf
  refine va_put (D := D) (ci := 11) (v := .int 0) (ty := .int) (C := RX13) (T := TX13) (N := 27) hx hb hts hi11 tyX13 tyX13_ok nmX13 hown hK hP hD hS 0 rfl rfl 23 (by decide) hw3 (fun _ h9 => h9) rfl (by decide +kernel) rfl rfl (Nat.le_of_ble_eq_true rfl) dX13_reads_15 (fun H locs hP hD hS => ?_)
  have hP : va_P D vwCl (kModel G q0 v_3) H := by rw [ev_3]; exact hP
  have hD : va_D A (kModel G q0 v_3) := by rw [ev_3]; exact hD
  refine lv_aload_n hx hb dX13_reads_18 rfl (lv_at hl 0 rfl) ?_
  refine lv_iconst (v := 0) hx hb dX13_reads_19 (by decide) ?_
  obtain ⟨v_4, ev_4, hf⟩ := nm_of hf
  refine va_put (D := D) (ci := 11) (v := .int 0) (ty := .int) (C := RX13) (T := TX13) (N := 27) hx hb hts hi11 tyX13 tyX13_ok nmX13 hown hK hP hD hS 0 rfl rfl 24 (by decide) hw4 (fun _ h9 => h9) rfl (by decide +kernel) rfl rfl (Nat.le_of_ble_eq_true rfl) dX13_reads_20 (fun H locs hP hD hS => ?_)
  have hP : va_P D vwCl (kModel G q0 v_4) H := by rw [ev_4]; exact hP
  have hD : va_D A (kModel G q0 v_4) := by rw [ev_4]; exact hD
  refine lv_aload_n hx hb dX13_reads_23 rfl (lv_at hl 0 rfl) ?_
  refine lv_iconst (v := 0) hx hb dX13_reads_24 (by decide) ?_
  obtain ⟨v_5, ev_5, hf⟩ := nm_of hf
  refine va_put (D := D) (ci := 11) (v := .int 0) (ty := .boolean) (C := RX13) (T := TX13) (N := 27) hx hb hts hi11 tyX13 tyX13_ok nmX13 hown hK hP hD hS 0 rfl rfl 25 (by decide) hw5 (fun _ h9 => h9) rfl (by decide +kernel) (by decide +kernel) (by decide +kernel) (Nat.le_of_ble_eq_true rfl) dX13_reads_25 (fun H locs hP hD hS => ?_)
  have hP : va_P D vwCl (kModel G q0 v_5) H := by rw [ev_5]; exact hP
  have hD : va_D A (kModel G q0 v_5) := by rw [ev_5]; exact hD
  refine lv_aload_n hx hb dX13_reads_28 rfl (lv_at hl 0 rfl) ?_
  obtain ⟨w_6, hc, hf⟩ := bd1_of hf
  refine k_V (As := []) (rest := []) (ws1 := (kModel G q0 w_6)) ⟨hx, hb, hml, hown, hts⟩ (c_X13_command l D G q0  v_5 _ hc  _) (cwV 0 hts gX13_reads_X13_command rfl rfl rfl (by decide +kernel) ⟨Nat.le_of_ble_eq_true rfl, Nat.le_of_ble_eq_true rfl⟩) hl.1 (Nat.le_of_ble_eq_true rfl) dX13_reads_29 ⟨Nat.le_of_ble_eq_true rfl, Nat.le_of_ble_eq_true rfl⟩ rfl kT_bl (fun _ _ _ => trivial) hN hK hP hD hS hA 0 11 rfl rfl rfl [0, 1, 2, 3, 4, 5, 6, 7, 8, 9, 10, 11] [] [0, 1, 2, 3, 4, 5, 6, 7, 8, 9, 10, 11] [0, 1, 2, 3] rfl rfl rfl ⟨by decide, by decide, by decide, by decide⟩ rfl (fun H locs hP hD hS => ?_)
  have exL_12 : ∀ (z_16 : SV) (H : Heap) (locs : List Loc) (ls : Array Slot), lv_has ls 1 [(0, .ref (q0 0))] → va_P D vwCl (kModel G q0 z_16) H → va_D A (kModel G q0 z_16) → va_S A s.heap H locs → f_X13_reads_K32 z_16 = some v0' → W p l e rm_X13_reads s m args below meth c H locs 0 0 Q0 (F0 m 58 ls []) := by
    intro z_16 H locs ls hl hP hD hS hf
    unfold f_X13_reads_K32 at hf
    refine lv_aload_n hx hb dX13_reads_58 rfl (lv_at hl 0 rfl) ?_
    refine lv_dup hx hb dX13_reads_59 rfl ?_
    refine va_get (D := D) (ci := 11) (v := .int (z_16.1 14)) (C := RX13) (T := TX13) (N := 27) hx hb hts hi11 hown hK hP 0 rfl rfl 25 (by decide) hw5 (fun _ h9 => h9) rfl dX13_reads_60 ?_
    refine lv_aload_n hx hb dX13_reads_63 rfl (lv_at hl 0 rfl) ?_
    refine va_get (D := D) (ci := 11) (v := .int (z_16.1 12)) (C := RX13) (T := TX13) (N := 27) hx hb hts hi11 hown hK hP 0 rfl rfl 23 (by decide) hw3 (fun _ h9 => h9) rfl dX13_reads_64 ?_
    refine lv_aload_n hx hb dX13_reads_67 rfl (lv_at hl 0 rfl) ?_
    refine va_get (D := D) (ci := 11) (v := .int (z_16.1 11)) (C := RX13) (T := TX13) (N := 27) hx hb hts hi11 hown hK hP 0 rfl rfl 22 (by decide) hw2 (fun _ h9 => h9) rfl dX13_reads_68 ?_
    refine lv_icmp_ge (tgt := 78) hx hb dX13_reads_71 (by decide) (fun cc => ?_) (fun cc => ?_)
    · replace hf := ifT cc hf
      refine lv_iconst (v := 0) hx hb dX13_reads_78 (by decide) ?_
      refine lv_ior hx hb dX13_reads_79 ?_
      obtain ⟨h01, hf⟩ := ckB_of hf
      obtain ⟨v_17, ev_17, hf⟩ := nm_of hf
      refine va_put (D := D) (ci := 11) (v := .int ((z_16.1 14) ||| 0)) (ty := .boolean) (C := RX13) (T := TX13) (N := 27) hx hb hts hi11 tyX13 tyX13_ok nmX13 hown hK hP hD hS 0 rfl rfl 25 (by decide) hw5 (fun _ h9 => h9) rfl (by decide +kernel) (narB h01) (fitB h01) (Nat.le_of_ble_eq_true rfl) dX13_reads_80 (fun H locs hP hD hS => ?_)
      have hP : va_P D vwCl (kModel G q0 v_17) H := by rw [ev_17]; exact hP
      have hD : va_D A (kModel G q0 v_17) := by rw [ev_17]; exact hD
      obtain rfl := re1 hf
      exact hE hP hD hS dX13_reads_83
    · replace hf := ifF cc hf
      refine lv_iconst (v := 1) hx hb dX13_reads_74 (by decide) ?_
      refine lv_goto (tgt := 79) hx hb dX13_reads_75 (by decide) ?_
      refine lv_ior hx hb dX13_reads_79 ?_
      obtain ⟨h01, hf⟩ := ckB_of hf
      obtain ⟨v_18, ev_18, hf⟩ := nm_of hf
      refine va_put (D := D) (ci := 11) (v := .int ((z_16.1 14) ||| 1)) (ty := .boolean) (C := RX13) (T := TX13) (N := 27) hx hb hts hi11 tyX13 tyX13_ok nmX13 hown hK hP hD hS 0 rfl rfl 25 (by decide) hw5 (fun _ h9 => h9) rfl (by decide +kernel) (narB h01) (fitB h01) (Nat.le_of_ble_eq_true rfl) dX13_reads_80 (fun H locs hP hD hS => ?_)
      have hP : va_P D vwCl (kModel G q0 v_18) H := by rw [ev_18]; exact hP
      have hD : va_D A (kModel G q0 v_18) := by rw [ev_18]; exact hD
      obtain rfl := re1 hf
      exact hE hP hD hS dX13_reads_83
  have loL_12 : ∀ (n : Nat) (u_11 : SV) (H : Heap) (locs : List Loc) (ls : Array Slot), lv_has ls 1 [(0, .ref (q0 0))] → va_P D vwCl (kModel G q0 u_11) H → va_D A (kModel G q0 u_11) → va_S A s.heap H locs → lz1 (f_X13_reads_B32) n u_11 = some v0' → W p l e rm_X13_reads s m args below meth c H locs 0 0 Q0 (F0 m 32 ls []) := by
    intro n
    induction n with
    | zero => intro u_11 H locs ls hl hP hD hS hf; cases hf
    | succ n ihL_12 =>
      intro u_11 H locs ls hl hP hD hS hf
      replace hf := lz1_s hf
      unfold f_X13_reads_B32 at hf
      refine lv_aload_n hx hb dX13_reads_32 rfl (lv_at hl 0 rfl) ?_
      obtain ⟨r_13, hc, hf⟩ := bd1_of hf
      refine k_V (As := []) (rest := []) (ws1 := (kModel G q0 u_11)) ⟨hx, hb, hml, hown, hts⟩ (c_X13_mark l D G q0  u_11 _ hc  _) (cwV 0 hts gX13_reads_X13_mark rfl rfl rfl (by decide +kernel) ⟨Nat.le_of_ble_eq_true rfl, Nat.le_of_ble_eq_true rfl⟩) hl.1 (Nat.le_of_ble_eq_true rfl) dX13_reads_33 ⟨Nat.le_of_ble_eq_true rfl, Nat.le_of_ble_eq_true rfl⟩ rfl kT_bl (fun _ _ _ => trivial) hN hK hP hD hS hA 0 11 rfl rfl rfl [0, 1, 2, 3, 4, 5, 6, 7, 8, 9, 10, 11] [] [0, 1, 2, 3, 4, 5, 6, 7, 8, 9, 10, 11] [0, 1, 2, 3] rfl rfl rfl ⟨by decide, by decide, by decide, by decide⟩ rfl (fun H locs hP hD hS => ?_)
      refine lv_bipush (v := 59) hx hb dX13_reads_36 (by decide +kernel) ?_
      refine lv_icmp_ne (tgt := 58) hx hb dX13_reads_38 (by decide) (fun cc => ?_) (fun cc => ?_)
      · replace hf := ifF cc hf
        exact exL_12 u_11 _ _ _ (lv_sub hl [0] rfl) hP hD hS hf
      · replace hf := ifT cc hf
        refine lv_aload_n hx hb dX13_reads_41 rfl (lv_at hl 0 rfl) ?_
        refine lv_dup hx hb dX13_reads_42 rfl ?_
        refine va_get (D := D) (ci := 11) (v := .int (u_11.1 12)) (C := RX13) (T := TX13) (N := 27) hx hb hts hi11 hown hK hP 0 rfl rfl 23 (by decide) hw3 (fun _ h9 => h9) rfl dX13_reads_43 ?_
        refine lv_iconst (v := 1) hx hb dX13_reads_46 (by decide) ?_
        refine lv_iadd hx hb dX13_reads_47 ?_
        obtain ⟨v_14, ev_14, hf⟩ := nm_of hf
        refine va_put (D := D) (ci := 11) (v := .int ((u_11.1 12) + 1)) (ty := .int) (C := RX13) (T := TX13) (N := 27) hx hb hts hi11 tyX13 tyX13_ok nmX13 hown hK hP hD hS 0 rfl rfl 23 (by decide) hw3 (fun _ h9 => h9) rfl (by decide +kernel) rfl rfl (Nat.le_of_ble_eq_true rfl) dX13_reads_48 (fun H locs hP hD hS => ?_)
        have hP : va_P D vwCl (kModel G q0 v_14) H := by rw [ev_14]; exact hP
        have hD : va_D A (kModel G q0 v_14) := by rw [ev_14]; exact hD
        refine lv_aload_n hx hb dX13_reads_51 rfl (lv_at hl 0 rfl) ?_
        obtain ⟨w_15, hc, hf⟩ := bd1_of hf
        refine k_V (As := []) (rest := []) (ws1 := (kModel G q0 w_15)) ⟨hx, hb, hml, hown, hts⟩ (c_X13_command l D G q0  v_14 _ hc  _) (cwV 0 hts gX13_reads_X13_command rfl rfl rfl (by decide +kernel) ⟨Nat.le_of_ble_eq_true rfl, Nat.le_of_ble_eq_true rfl⟩) hl.1 (Nat.le_of_ble_eq_true rfl) dX13_reads_52 ⟨Nat.le_of_ble_eq_true rfl, Nat.le_of_ble_eq_true rfl⟩ rfl kT_bl (fun _ _ _ => trivial) hN hK hP hD hS hA 0 11 rfl rfl rfl [0, 1, 2, 3, 4, 5, 6, 7, 8, 9, 10, 11] [] [0, 1, 2, 3, 4, 5, 6, 7, 8, 9, 10, 11] [0, 1, 2, 3] rfl rfl rfl ⟨by decide, by decide, by decide, by decide⟩ rfl (fun H locs hP hD hS => ?_)
        refine lv_goto (tgt := 32) hx hb dX13_reads_55 (by decide) ?_
        exact ihL_12 w_15 _ _ _ (lv_sub hl [0] rfl) hP hD hS hf
  exact loL_12 FU w_6 _ _ _ hl hP hD hS hf
def f_X13_isNot (a1 : Int32) (v0 : SV) : Option (Int32 × SV) :=
  if a1 = 0 then
    nm (pF v0 15 1) fun v_2 =>
    ckB (v_2.1 15) <|
    some ((v_2.1 15), v_2)
  else
    nm (pF v0 15 0) fun v_1 =>
    ckB (v_1.1 15) <|
    some ((v_1.1 15), v_1)
abbrev rm_X13_isNot : Room := { frames := 0, cells := 0, slots := 0, locals := 0 }
set_option maxHeartbeats 4000000 in
set_option maxRecDepth 100000 in
theorem c_X13_isNot (l : Launch) (D : va_G) (G : Nat → ClassId) (q0 : Nat → Nat) (a1 : Int32) (v0 : SV) (r : Int32) (v0' : SV) (hf : f_X13_isNot a1 v0 = some (r, v0')) (sz : Nat) : mC l yX13_isNot wsX13_isNot rm_X13_isNot D (tyG G) kT [.ref (q0 0), .int a1] (kModel G q0 v0) (kModel G q0 v0') sz (some (.int r)) 0 0 := by
  refine mC_ofZ (cc := cX13_isNot) (maxL := 2) (ret := (some .boolean)) (by decide) rfl rfl (Nat.le_of_ble_eq_true rfl) ?_
  intro p e s m args below meth c Q0 hx hb hml hts hown hN hK A hD hA hE hP hS hJ ls hl
  have hl : lv_has ls 2 [(0, .ref (q0 0)), (1, .int a1)] := hl
  unfold f_X13_isNot at hf
  have hi11 : ∀ w ∈ u_ws RX13 TX13 27, w ∈ wsX13_isNot := by decide +kernel
  have hw1 := hts (.fieldLink RX13 90 "BalconyCensusModel" "isElse" "Z") (by decide +kernel)
  refine lv_aload_n hx hb dX13_isNot_0 rfl (lv_at hl 0 rfl) ?_
  refine lv_iload_n hx hb dX13_isNot_1 rfl (lv_at hl 1 rfl) ?_
  refine lv_if_ne (tgt := 9) hx hb dX13_isNot_2 (by decide) (fun cc => ?_) (fun cc => ?_)
  · replace hf := ifF cc hf
    refine lv_iconst (v := 0) hx hb dX13_isNot_9 (by decide) ?_
    obtain ⟨v_1, ev_1, hf⟩ := nm_of hf
    refine va_put (D := D) (ci := 11) (v := .int 0) (ty := .boolean) (C := RX13) (T := TX13) (N := 27) hx hb hts hi11 tyX13 tyX13_ok nmX13 hown hK hP hD hS 0 rfl rfl 26 (by decide) hw1 (fun _ h9 => h9) rfl (by decide +kernel) (by decide +kernel) (by decide +kernel) (Nat.le_of_ble_eq_true rfl) dX13_isNot_10 (fun H locs hP hD hS => ?_)
    have hP : va_P D vwCl (kModel G q0 v_1) H := by rw [ev_1]; exact hP
    have hD : va_D A (kModel G q0 v_1) := by rw [ev_1]; exact hD
    refine lv_aload_n hx hb dX13_isNot_13 rfl (lv_at hl 0 rfl) ?_
    refine va_get (D := D) (ci := 11) (v := .int (v_1.1 15)) (C := RX13) (T := TX13) (N := 27) hx hb hts hi11 hown hK hP 0 rfl rfl 26 (by decide) hw1 (fun _ h9 => h9) rfl dX13_isNot_14 ?_
    obtain ⟨h01, hf⟩ := ckB_of hf
    obtain ⟨rfl, rfl⟩ := re2 hf
    exact hE h01 hP hD hS dX13_isNot_17
  · replace hf := ifT cc hf
    refine lv_iconst (v := 1) hx hb dX13_isNot_5 (by decide) ?_
    refine lv_goto (tgt := 10) hx hb dX13_isNot_6 (by decide) ?_
    obtain ⟨v_2, ev_2, hf⟩ := nm_of hf
    refine va_put (D := D) (ci := 11) (v := .int 1) (ty := .boolean) (C := RX13) (T := TX13) (N := 27) hx hb hts hi11 tyX13 tyX13_ok nmX13 hown hK hP hD hS 0 rfl rfl 26 (by decide) hw1 (fun _ h9 => h9) rfl (by decide +kernel) (by decide +kernel) (by decide +kernel) (Nat.le_of_ble_eq_true rfl) dX13_isNot_10 (fun H locs hP hD hS => ?_)
    have hP : va_P D vwCl (kModel G q0 v_2) H := by rw [ev_2]; exact hP
    have hD : va_D A (kModel G q0 v_2) := by rw [ev_2]; exact hD
    refine lv_aload_n hx hb dX13_isNot_13 rfl (lv_at hl 0 rfl) ?_
    refine va_get (D := D) (ci := 11) (v := .int (v_2.1 15)) (C := RX13) (T := TX13) (N := 27) hx hb hts hi11 hown hK hP 0 rfl rfl 26 (by decide) hw1 (fun _ h9 => h9) rfl dX13_isNot_14 ?_
    obtain ⟨h01, hf⟩ := ckB_of hf
    obtain ⟨rfl, rfl⟩ := re2 hf
    exact hE h01 hP hD hS dX13_isNot_17
def f_X13_cannot_J109 (v_4 : SV) (t_1 : Int32) (t_2 : Int32) (j_8 : Int32) : Option (Int32 × SV) :=
  bd2 (f_X13_isNot j_8 v_4) fun r_9 w_10 =>
  if r_9 = 0 then
    bd2 (f_X13_isRefusedPlant t_1 t_2 w_10) fun r_11 w_12 =>
    if r_11 = 0 then
      bd2 (f_X13_puts t_1 t_2 w_12) fun r_13 w_14 =>
      some (0, w_14)
    else
      some (1, w_12)
  else
    some (1, w_10)
def f_X13_cannot_J158 (v_4 : SV) (t_1 : Int32) (t_2 : Int32) (j_18 : Int32) : Option (Int32 × SV) :=
  bd2 (f_X13_isNot j_18 v_4) fun r_19 w_20 =>
  if r_19 = 0 then
    bd2 (f_X13_isRefusedBear t_1 t_2 w_20) fun r_21 w_22 =>
    if r_21 = 0 then
      bd2 (f_X13_tells t_1 t_2 w_22) fun r_23 w_24 =>
      some (0, w_24)
    else
      some (1, w_22)
  else
    some (1, w_20)
def f_X13_cannot_J209 (v_4 : SV) (t_1 : Int32) (t_2 : Int32) (t_3 : Int32) (j_28 : Int32) : Option (Int32 × SV) :=
  bd2 (f_X13_isNot j_28 v_4) fun r_29 w_30 =>
  if r_29 = 0 then
    bd2 (f_X13_isRefusedHang t_1 t_2 w_30) fun r_31 w_32 =>
    if r_31 = 0 then
      bd2 (f_X13_hangs t_1 t_2 t_3 w_32) fun r_33 w_34 =>
      some (0, w_34)
    else
      some (1, w_32)
  else
    some (1, w_30)
def f_X13_cannot_J297 (v_4 : SV) (t_1 : Int32) (t_2 : Int32) (t_3 : Int32) (j_45 : Int32) : Option (Int32 × SV) :=
  bd2 (f_X13_isNot j_45 v_4) fun r_46 w_47 =>
  if r_46 = 0 then
    bd2 (f_X13_isRefusedGive t_1 t_2 t_3 w_47) fun r_48 w_49 =>
    if r_48 = 0 then
      bd2 (f_X13_gives t_1 t_2 t_3 w_49) fun r_50 w_51 =>
      some (0, w_51)
    else
      some (1, w_49)
  else
    some (1, w_47)
def f_X13_cannot (a1 : Int32) (v0 : SV) : Option (Int32 × SV) :=
  ckI (3 * a1) 96 <|
  nm (v0.2 10 (3 * a1).toNatClampNeg) fun t_1 =>
  ckI ((3 * a1) + 1) 96 <|
  nm (v0.2 10 ((3 * a1) + 1).toNatClampNeg) fun t_2 =>
  ckI ((3 * a1) + 2) 96 <|
  nm (v0.2 10 ((3 * a1) + 2).toNatClampNeg) fun t_3 =>
  nm (pF v0 15 0) fun v_4 =>
  ckI a1 32 <|
  if (v_4.2 9 a1.toNatClampNeg) = 0 then
    bd1 (f_X13_isBalcony t_1) fun r_5 =>
    if r_5 = 0 then
      f_X13_cannot_J109 v_4 t_1 t_2 0
    else
      bd1 (f_X13_areMany t_2) fun r_7 =>
      if r_7 = 0 then
        f_X13_cannot_J109 v_4 t_1 t_2 0
      else
        f_X13_cannot_J109 v_4 t_1 t_2 1
  else
  if (v_4.2 9 a1.toNatClampNeg) = 1 then
    bd1 (f_X13_isBalcony t_1) fun r_15 =>
    if r_15 = 0 then
      f_X13_cannot_J158 v_4 t_1 t_2 0
    else
      bd1 (f_X13_isTolerance t_2) fun r_17 =>
      if r_17 = 0 then
        f_X13_cannot_J158 v_4 t_1 t_2 0
      else
        f_X13_cannot_J158 v_4 t_1 t_2 1
  else
  if (v_4.2 9 a1.toNatClampNeg) = 2 then
    bd1 (f_X13_areTwo t_1 t_2) fun r_25 =>
    if r_25 = 0 then
      f_X13_cannot_J209 v_4 t_1 t_2 t_3 0
    else
      bd1 (f_X13_areMany t_3) fun r_27 =>
      if r_27 = 0 then
        f_X13_cannot_J209 v_4 t_1 t_2 t_3 0
      else
        f_X13_cannot_J209 v_4 t_1 t_2 t_3 1
  else
  if (v_4.2 9 a1.toNatClampNeg) = 3 then
    bd1 (f_X13_areTwo t_1 t_2) fun r_35 =>
    bd2 (f_X13_isNot r_35 v_4) fun r_36 w_37 =>
    if r_36 = 0 then
      bd2 (f_X13_isRefusedGreet t_1 t_2 w_37) fun r_38 w_39 =>
      if r_38 = 0 then
        bd2 (f_X13_greets t_1 t_2 w_39) fun r_40 w_41 =>
        some (0, w_41)
      else
        some (1, w_39)
    else
      some (1, w_37)
  else
  if (v_4.2 9 a1.toNatClampNeg) = 4 then
    bd1 (f_X13_areTwo t_1 t_2) fun r_42 =>
    if r_42 = 0 then
      f_X13_cannot_J297 v_4 t_1 t_2 t_3 0
    else
      bd1 (f_X13_areMany t_3) fun r_44 =>
      if r_44 = 0 then
        f_X13_cannot_J297 v_4 t_1 t_2 t_3 0
      else
        f_X13_cannot_J297 v_4 t_1 t_2 t_3 1
  else
  if (v_4.2 9 a1.toNatClampNeg) = 5 then
    bd1 (f_X13_isBalcony t_1) fun r_52 =>
    bd2 (f_X13_isNot r_52 v_4) fun r_53 w_54 =>
    if r_53 = 0 then
      bd2 (f_X13_isRefusedCat t_1 w_54) fun r_55 w_56 =>
      if r_55 = 0 then
        bd2 (f_X13_comes t_1 w_56) fun r_57 w_58 =>
        some (0, w_58)
      else
        some (1, w_56)
    else
      some (1, w_54)
  else
  if (v_4.2 9 a1.toNatClampNeg) = 6 then
    bd1 (f_X13_areTwo t_1 t_2) fun r_59 =>
    bd2 (f_X13_isNot r_59 v_4) fun r_60 w_61 =>
    if r_60 = 0 then
      bd2 (f_X13_isRefusedSwap t_1 t_2 w_61) fun r_62 w_63 =>
      if r_62 = 0 then
        bd2 (f_X13_swaps t_1 t_2 w_63) fun r_64 w_65 =>
        some (0, w_65)
      else
        some (1, w_63)
    else
      some (1, w_61)
  else
  bd2 (f_X13_ends v_4) fun r_66 w_67 =>
  some (0, w_67)
abbrev rm_X13_cannot : Room := { frames := 6, cells := 0, slots := 0, locals := 134 }
set_option maxHeartbeats 4000000 in
set_option maxRecDepth 100000 in
theorem c_X13_cannot (l : Launch) (D : va_G) (G : Nat → ClassId) (q0 : Nat → Nat) (a1 : Int32) (v0 : SV) (r : Int32) (v0' : SV) (hf : f_X13_cannot a1 v0 = some (r, v0')) (sz : Nat) : mC l yX13_cannot wsX13_cannot rm_X13_cannot D (tyG G) kT [.ref (q0 0), .int a1] (kModel G q0 v0) (kModel G q0 v0') sz (some (.int r)) 0 0 := by
  refine mC_ofZ (cc := cX13_cannot) (maxL := 6) (ret := (some .boolean)) (by decide) rfl rfl (Nat.le_of_ble_eq_true rfl) ?_
  intro p e s m args below meth c Q0 hx hb hml hts hown hN hK A hD hA hE hP hS hJ ls hl
  have hl : lv_has ls 6 [(0, .ref (q0 0)), (1, .int a1)] := hl
  unfold f_X13_cannot at hf
  have hi11 : ∀ w ∈ u_ws RX13 TX13 27, w ∈ wsX13_cannot := by decide +kernel
  have hw1 := hts (.fieldLink RX13 72 "BalconyCensusModel" "numbers" "[I") (by decide +kernel)
  have hw2 := hts (.fieldLink RX13 90 "BalconyCensusModel" "isElse" "Z") (by decide +kernel)
  have hw3 := hts (.fieldLink RX13 69 "BalconyCensusModel" "kinds" "[I") (by decide +kernel)
  refine lv_iconst (v := 0) hx hb dX13_cannot_0 (by decide) ?_
  refine lv_istore_n (lv' := [(2, .int 0), (0, .ref (q0 0)), (1, .int a1)]) hx hb dX13_cannot_1 rfl hl (by decide) rfl (fun ls hl => ?_)
  refine lv_aload_n hx hb dX13_cannot_2 rfl (lv_at hl 1 rfl) ?_
  refine va_get (D := D) (ci := 11) (v := .ref (q0 11)) (C := RX13) (T := TX13) (N := 27) hx hb hts hi11 hown hK hP 0 rfl rfl 20 (by decide) hw1 (fun _ h9 => h9) rfl dX13_cannot_3 ?_
  refine lv_iconst (v := 3) hx hb dX13_cannot_6 (by decide) ?_
  refine lv_iload_n hx hb dX13_cannot_7 rfl (lv_at hl 2 rfl) ?_
  refine lv_imul hx hb dX13_cannot_8 ?_
  obtain ⟨hin, hf⟩ := ckI_of hf
  refine va_iald (D := D) hx hb hK hP 11 0 rfl rfl hin dX13_cannot_9 ?_
  obtain ⟨t_1, et_1, hf⟩ := nm_of hf
  rw [← et_1]
  refine lv_istore_n (lv' := [(3, .int t_1), (2, .int 0), (0, .ref (q0 0)), (1, .int a1)]) hx hb dX13_cannot_10 rfl hl (by decide) rfl (fun ls hl => ?_)
  refine lv_aload_n hx hb dX13_cannot_11 rfl (lv_at hl 2 rfl) ?_
  refine va_get (D := D) (ci := 11) (v := .ref (q0 11)) (C := RX13) (T := TX13) (N := 27) hx hb hts hi11 hown hK hP 0 rfl rfl 20 (by decide) hw1 (fun _ h9 => h9) rfl dX13_cannot_12 ?_
  refine lv_iconst (v := 3) hx hb dX13_cannot_15 (by decide) ?_
  refine lv_iload_n hx hb dX13_cannot_16 rfl (lv_at hl 3 rfl) ?_
  refine lv_imul hx hb dX13_cannot_17 ?_
  refine lv_iconst (v := 1) hx hb dX13_cannot_18 (by decide) ?_
  refine lv_iadd hx hb dX13_cannot_19 ?_
  obtain ⟨hin, hf⟩ := ckI_of hf
  refine va_iald (D := D) hx hb hK hP 11 0 rfl rfl hin dX13_cannot_20 ?_
  obtain ⟨t_2, et_2, hf⟩ := nm_of hf
  rw [← et_2]
  refine lv_istore (lv' := [(4, .int t_2), (3, .int t_1), (2, .int 0), (0, .ref (q0 0)), (1, .int a1)]) hx hb dX13_cannot_21 hl (by decide) rfl (fun ls hl => ?_)
  refine lv_aload_n hx hb dX13_cannot_23 rfl (lv_at hl 3 rfl) ?_
  refine va_get (D := D) (ci := 11) (v := .ref (q0 11)) (C := RX13) (T := TX13) (N := 27) hx hb hts hi11 hown hK hP 0 rfl rfl 20 (by decide) hw1 (fun _ h9 => h9) rfl dX13_cannot_24 ?_
  refine lv_iconst (v := 3) hx hb dX13_cannot_27 (by decide) ?_
  refine lv_iload_n hx hb dX13_cannot_28 rfl (lv_at hl 4 rfl) ?_
  refine lv_imul hx hb dX13_cannot_29 ?_
  refine lv_iconst (v := 2) hx hb dX13_cannot_30 (by decide) ?_
  refine lv_iadd hx hb dX13_cannot_31 ?_
  obtain ⟨hin, hf⟩ := ckI_of hf
  refine va_iald (D := D) hx hb hK hP 11 0 rfl rfl hin dX13_cannot_32 ?_
  obtain ⟨t_3, et_3, hf⟩ := nm_of hf
  rw [← et_3]
  refine lv_istore (lv' := [(5, .int t_3), (4, .int t_2), (3, .int t_1), (2, .int 0), (0, .ref (q0 0)), (1, .int a1)]) hx hb dX13_cannot_33 hl (by decide) rfl (fun ls hl => ?_)
  refine lv_aload_n hx hb dX13_cannot_35 rfl (lv_at hl 4 rfl) ?_
  refine lv_iconst (v := 0) hx hb dX13_cannot_36 (by decide) ?_
  obtain ⟨v_4, ev_4, hf⟩ := nm_of hf
  refine va_put (D := D) (ci := 11) (v := .int 0) (ty := .boolean) (C := RX13) (T := TX13) (N := 27) hx hb hts hi11 tyX13 tyX13_ok nmX13 hown hK hP hD hS 0 rfl rfl 26 (by decide) hw2 (fun _ h9 => h9) rfl (by decide +kernel) (by decide +kernel) (by decide +kernel) (Nat.le_of_ble_eq_true rfl) dX13_cannot_37 (fun H locs hP hD hS => ?_)
  have hP : va_P D vwCl (kModel G q0 v_4) H := by rw [ev_4]; exact hP
  have hD : va_D A (kModel G q0 v_4) := by rw [ev_4]; exact hD
  refine lv_aload_n hx hb dX13_cannot_40 rfl (lv_at hl 4 rfl) ?_
  refine va_get (D := D) (ci := 11) (v := .ref (q0 10)) (C := RX13) (T := TX13) (N := 27) hx hb hts hi11 hown hK hP 0 rfl rfl 19 (by decide) hw3 (fun _ h9 => h9) rfl dX13_cannot_41 ?_
  refine lv_iload_n hx hb dX13_cannot_44 rfl (lv_at hl 5 rfl) ?_
  obtain ⟨hin, hf⟩ := ckI_of hf
  refine va_iald (D := D) hx hb hK hP 10 0 rfl rfl hin dX13_cannot_45 ?_
  by_cases c0 : (v_4.2 9 a1.toNatClampNeg) = 0
  · replace hf := ifT c0 hf
    refine lv_tableIn (off := 42) (tgt := 88) hx hb dX13_cannot_46 (by rw [c0]; decide) (by rw [c0]; decide) (by rw [c0]; rfl) (by decide) ?_
    refine lv_aload_n hx hb dX13_cannot_88 rfl (lv_at hl 4 rfl) ?_
    refine lv_iload_n hx hb dX13_cannot_89 rfl (lv_at hl 2 rfl) ?_
    obtain ⟨r_5, hc, hf⟩ := bd1_of hf
    refine k_S (As := [.int t_1]) (rest := [.ref (q0 0)]) (ws1 := (kModel G q0 v_4)) ⟨hx, hb, hml, hown, hts⟩ (c_X13_isBalcony l D G  t_1  _ hc  _) (va_cwS 1 hts gX13_cannot_X13_isBalcony rfl rfl rfl (by decide +kernel) ⟨Nat.le_of_ble_eq_true rfl, Nat.le_of_ble_eq_true rfl⟩) hl.1 (Nat.le_of_ble_eq_true rfl) dX13_cannot_90 ⟨Nat.le_of_ble_eq_true rfl, Nat.le_of_ble_eq_true rfl⟩ rfl kT_bl (fun _ _ _ => trivial) hN hK hP hD hS hA [] [0, 1, 2, 3, 4, 5, 6, 7, 8, 9, 10, 11] [0, 1, 2, 3, 4, 5, 6, 7, 8, 9, 10, 11] [0, 1, 2, 3] rfl rfl rfl ⟨by decide, by decide, by decide, by decide⟩ rfl (fun H locs hP hD hS => ?_)
    have jnJ_6 : ∀ (j_8 : Int32) (H : Heap) (locs : List Loc) (ls : Array Slot), lv_has ls 6 [(5, .int t_3), (4, .int t_2), (3, .int t_1), (2, .int 0), (0, .ref (q0 0)), (1, .int a1)] → va_P D vwCl (kModel G q0 v_4) H → va_D A (kModel G q0 v_4) → va_S A s.heap H locs → f_X13_cannot_J109 v_4 t_1 t_2 j_8 = some (r, v0') → W p l e rm_X13_cannot s m args below meth c H locs 0 0 Q0 (F0 m 109 ls [.int j_8, .ref (q0 0)]) := by
      intro j_8 H locs ls hl hP hD hS hf
      unfold f_X13_cannot_J109 at hf
      obtain ⟨r_9, w_10, hc, hf⟩ := bd2_of hf
      refine k_V (As := [.int j_8]) (rest := []) (ws1 := (kModel G q0 w_10)) ⟨hx, hb, hml, hown, hts⟩ (c_X13_isNot l D G q0 j_8 v_4 _ _ hc  _) (cwV 1 hts gX13_cannot_X13_isNot rfl rfl rfl (by decide +kernel) ⟨Nat.le_of_ble_eq_true rfl, Nat.le_of_ble_eq_true rfl⟩) hl.1 (Nat.le_of_ble_eq_true rfl) dX13_cannot_109 ⟨Nat.le_of_ble_eq_true rfl, Nat.le_of_ble_eq_true rfl⟩ rfl kT_bl (fun _ _ _ => trivial) hN hK hP hD hS hA 0 11 rfl rfl rfl [0, 1, 2, 3, 4, 5, 6, 7, 8, 9, 10, 11] [] [0, 1, 2, 3, 4, 5, 6, 7, 8, 9, 10, 11] [0, 1, 2, 3] rfl rfl rfl ⟨by decide, by decide, by decide, by decide⟩ rfl (fun H locs hP hD hS => ?_)
      refine lv_if_ne (tgt := 125) hx hb dX13_cannot_112 (by decide) (fun cc => ?_) (fun cc => ?_)
      · replace hf := ifF cc hf
        refine lv_iconst (v := 1) hx hb dX13_cannot_125 (by decide) ?_
        obtain ⟨rfl, rfl⟩ := re2 hf
        exact hE (.inr rfl) hP hD hS dX13_cannot_126
      · replace hf := ifT cc hf
        refine lv_aload_n hx hb dX13_cannot_115 rfl (lv_at hl 4 rfl) ?_
        refine lv_iload_n hx hb dX13_cannot_116 rfl (lv_at hl 2 rfl) ?_
        refine lv_iload hx hb dX13_cannot_117 (lv_at hl 1 rfl) ?_
        obtain ⟨r_11, w_12, hc, hf⟩ := bd2_of hf
        refine k_V (As := [.int t_1, .int t_2]) (rest := []) (ws1 := (kModel G q0 w_12)) ⟨hx, hb, hml, hown, hts⟩ (c_X13_isRefusedPlant l D G q0 t_1 t_2 w_10 _ _ hc  _) (cwV 2 hts gX13_cannot_X13_isRefusedPlant rfl rfl rfl (by decide +kernel) ⟨Nat.le_of_ble_eq_true rfl, Nat.le_of_ble_eq_true rfl⟩) hl.1 (Nat.le_of_ble_eq_true rfl) dX13_cannot_119 ⟨Nat.le_of_ble_eq_true rfl, Nat.le_of_ble_eq_true rfl⟩ rfl kT_bl (fun _ _ _ => trivial) hN hK hP hD hS hA 0 11 rfl rfl rfl [0, 1, 2, 3, 4, 5, 6, 7, 8, 9, 10, 11] [] [0, 1, 2, 3, 4, 5, 6, 7, 8, 9, 10, 11] [0, 1, 2, 3] rfl rfl rfl ⟨by decide, by decide, by decide, by decide⟩ rfl (fun H locs hP hD hS => ?_)
        refine lv_if_eq (tgt := 127) hx hb dX13_cannot_122 (by decide) (fun cc => ?_) (fun cc => ?_)
        · replace hf := ifT cc hf
          refine lv_aload_n hx hb dX13_cannot_127 rfl (lv_at hl 4 rfl) ?_
          refine lv_iload_n hx hb dX13_cannot_128 rfl (lv_at hl 2 rfl) ?_
          refine lv_iload hx hb dX13_cannot_129 (lv_at hl 1 rfl) ?_
          obtain ⟨r_13, w_14, hc, hf⟩ := bd2_of hf
          refine k_V (As := [.int t_1, .int t_2]) (rest := []) (ws1 := (kModel G q0 w_14)) ⟨hx, hb, hml, hown, hts⟩ (c_X13_puts l D G q0 t_1 t_2 w_12 _ _ hc  _) (cwV 2 hts gX13_cannot_X13_puts rfl rfl rfl (by decide +kernel) ⟨Nat.le_of_ble_eq_true rfl, Nat.le_of_ble_eq_true rfl⟩) hl.1 (Nat.le_of_ble_eq_true rfl) dX13_cannot_131 ⟨Nat.le_of_ble_eq_true rfl, Nat.le_of_ble_eq_true rfl⟩ rfl kT_bl (fun _ _ _ => trivial) hN hK hP hD hS hA 0 11 rfl rfl rfl [0, 1, 2, 3, 4, 5, 6, 7, 8, 9, 10, 11] [] [0, 1, 2, 3, 4, 5, 6, 7, 8, 9, 10, 11] [0, 1, 2, 3] rfl rfl rfl ⟨by decide, by decide, by decide, by decide⟩ rfl (fun H locs hP hD hS => ?_)
          refine lv_istore_n (lv' := [(2, .int r_13), (5, .int t_3), (4, .int t_2), (3, .int t_1), (0, .ref (q0 0)), (1, .int a1)]) hx hb dX13_cannot_134 rfl hl (by decide) rfl (fun ls hl => ?_)
          refine lv_iconst (v := 0) hx hb dX13_cannot_135 (by decide) ?_
          obtain ⟨rfl, rfl⟩ := re2 hf
          exact hE (.inl rfl) hP hD hS dX13_cannot_136
        · replace hf := ifF cc hf
          refine lv_iconst (v := 1) hx hb dX13_cannot_125 (by decide) ?_
          obtain ⟨rfl, rfl⟩ := re2 hf
          exact hE (.inr rfl) hP hD hS dX13_cannot_126
    refine lv_if_eq (tgt := 108) hx hb dX13_cannot_93 (by decide) (fun cc => ?_) (fun cc => ?_)
    · replace hf := ifT cc hf
      refine lv_iconst (v := 0) hx hb dX13_cannot_108 (by decide) ?_
      exact jnJ_6 0 _ _ _ (lv_sub hl [0, 1, 2, 3, 4, 5] rfl) hP hD hS hf
    · replace hf := ifF cc hf
      refine lv_iload hx hb dX13_cannot_96 (lv_at hl 1 rfl) ?_
      obtain ⟨r_7, hc, hf⟩ := bd1_of hf
      refine k_S (As := [.int t_2]) (rest := [.ref (q0 0)]) (ws1 := (kModel G q0 v_4)) ⟨hx, hb, hml, hown, hts⟩ (c_X13_areMany l D G  t_2  _ hc  _) (va_cwS 1 hts gX13_cannot_X13_areMany rfl rfl rfl (by decide +kernel) ⟨Nat.le_of_ble_eq_true rfl, Nat.le_of_ble_eq_true rfl⟩) hl.1 (Nat.le_of_ble_eq_true rfl) dX13_cannot_98 ⟨Nat.le_of_ble_eq_true rfl, Nat.le_of_ble_eq_true rfl⟩ rfl kT_bl (fun _ _ _ => trivial) hN hK hP hD hS hA [] [0, 1, 2, 3, 4, 5, 6, 7, 8, 9, 10, 11] [0, 1, 2, 3, 4, 5, 6, 7, 8, 9, 10, 11] [0, 1, 2, 3] rfl rfl rfl ⟨by decide, by decide, by decide, by decide⟩ rfl (fun H locs hP hD hS => ?_)
      refine lv_if_eq (tgt := 108) hx hb dX13_cannot_101 (by decide) (fun cc => ?_) (fun cc => ?_)
      · replace hf := ifT cc hf
        refine lv_iconst (v := 0) hx hb dX13_cannot_108 (by decide) ?_
        exact jnJ_6 0 _ _ _ (lv_sub hl [0, 1, 2, 3, 4, 5] rfl) hP hD hS hf
      · replace hf := ifF cc hf
        refine lv_iconst (v := 1) hx hb dX13_cannot_104 (by decide) ?_
        refine lv_goto (tgt := 109) hx hb dX13_cannot_105 (by decide) ?_
        exact jnJ_6 1 _ _ _ (lv_sub hl [0, 1, 2, 3, 4, 5] rfl) hP hD hS hf
  replace hf := ifF c0 hf
  by_cases c1 : (v_4.2 9 a1.toNatClampNeg) = 1
  · replace hf := ifT c1 hf
    refine lv_tableIn (off := 91) (tgt := 137) hx hb dX13_cannot_46 (by rw [c1]; decide) (by rw [c1]; decide) (by rw [c1]; rfl) (by decide) ?_
    refine lv_aload_n hx hb dX13_cannot_137 rfl (lv_at hl 4 rfl) ?_
    refine lv_iload_n hx hb dX13_cannot_138 rfl (lv_at hl 2 rfl) ?_
    obtain ⟨r_15, hc, hf⟩ := bd1_of hf
    refine k_S (As := [.int t_1]) (rest := [.ref (q0 0)]) (ws1 := (kModel G q0 v_4)) ⟨hx, hb, hml, hown, hts⟩ (c_X13_isBalcony l D G  t_1  _ hc  _) (va_cwS 1 hts gX13_cannot_X13_isBalcony rfl rfl rfl (by decide +kernel) ⟨Nat.le_of_ble_eq_true rfl, Nat.le_of_ble_eq_true rfl⟩) hl.1 (Nat.le_of_ble_eq_true rfl) dX13_cannot_139 ⟨Nat.le_of_ble_eq_true rfl, Nat.le_of_ble_eq_true rfl⟩ rfl kT_bl (fun _ _ _ => trivial) hN hK hP hD hS hA [] [0, 1, 2, 3, 4, 5, 6, 7, 8, 9, 10, 11] [0, 1, 2, 3, 4, 5, 6, 7, 8, 9, 10, 11] [0, 1, 2, 3] rfl rfl rfl ⟨by decide, by decide, by decide, by decide⟩ rfl (fun H locs hP hD hS => ?_)
    have jnJ_16 : ∀ (j_18 : Int32) (H : Heap) (locs : List Loc) (ls : Array Slot), lv_has ls 6 [(5, .int t_3), (4, .int t_2), (3, .int t_1), (2, .int 0), (0, .ref (q0 0)), (1, .int a1)] → va_P D vwCl (kModel G q0 v_4) H → va_D A (kModel G q0 v_4) → va_S A s.heap H locs → f_X13_cannot_J158 v_4 t_1 t_2 j_18 = some (r, v0') → W p l e rm_X13_cannot s m args below meth c H locs 0 0 Q0 (F0 m 158 ls [.int j_18, .ref (q0 0)]) := by
      intro j_18 H locs ls hl hP hD hS hf
      unfold f_X13_cannot_J158 at hf
      obtain ⟨r_19, w_20, hc, hf⟩ := bd2_of hf
      refine k_V (As := [.int j_18]) (rest := []) (ws1 := (kModel G q0 w_20)) ⟨hx, hb, hml, hown, hts⟩ (c_X13_isNot l D G q0 j_18 v_4 _ _ hc  _) (cwV 1 hts gX13_cannot_X13_isNot rfl rfl rfl (by decide +kernel) ⟨Nat.le_of_ble_eq_true rfl, Nat.le_of_ble_eq_true rfl⟩) hl.1 (Nat.le_of_ble_eq_true rfl) dX13_cannot_158 ⟨Nat.le_of_ble_eq_true rfl, Nat.le_of_ble_eq_true rfl⟩ rfl kT_bl (fun _ _ _ => trivial) hN hK hP hD hS hA 0 11 rfl rfl rfl [0, 1, 2, 3, 4, 5, 6, 7, 8, 9, 10, 11] [] [0, 1, 2, 3, 4, 5, 6, 7, 8, 9, 10, 11] [0, 1, 2, 3] rfl rfl rfl ⟨by decide, by decide, by decide, by decide⟩ rfl (fun H locs hP hD hS => ?_)
      refine lv_if_ne (tgt := 174) hx hb dX13_cannot_161 (by decide) (fun cc => ?_) (fun cc => ?_)
      · replace hf := ifF cc hf
        refine lv_iconst (v := 1) hx hb dX13_cannot_174 (by decide) ?_
        obtain ⟨rfl, rfl⟩ := re2 hf
        exact hE (.inr rfl) hP hD hS dX13_cannot_175
      · replace hf := ifT cc hf
        refine lv_aload_n hx hb dX13_cannot_164 rfl (lv_at hl 4 rfl) ?_
        refine lv_iload_n hx hb dX13_cannot_165 rfl (lv_at hl 2 rfl) ?_
        refine lv_iload hx hb dX13_cannot_166 (lv_at hl 1 rfl) ?_
        obtain ⟨r_21, w_22, hc, hf⟩ := bd2_of hf
        refine k_V (As := [.int t_1, .int t_2]) (rest := []) (ws1 := (kModel G q0 w_22)) ⟨hx, hb, hml, hown, hts⟩ (c_X13_isRefusedBear l D G q0 t_1 t_2 w_20 _ _ hc  _) (cwV 2 hts gX13_cannot_X13_isRefusedBear rfl rfl rfl (by decide +kernel) ⟨Nat.le_of_ble_eq_true rfl, Nat.le_of_ble_eq_true rfl⟩) hl.1 (Nat.le_of_ble_eq_true rfl) dX13_cannot_168 ⟨Nat.le_of_ble_eq_true rfl, Nat.le_of_ble_eq_true rfl⟩ rfl kT_bl (fun _ _ _ => trivial) hN hK hP hD hS hA 0 11 rfl rfl rfl [0, 1, 2, 3, 4, 5, 6, 7, 8, 9, 10, 11] [] [0, 1, 2, 3, 4, 5, 6, 7, 8, 9, 10, 11] [0, 1, 2, 3] rfl rfl rfl ⟨by decide, by decide, by decide, by decide⟩ rfl (fun H locs hP hD hS => ?_)
        refine lv_if_eq (tgt := 176) hx hb dX13_cannot_171 (by decide) (fun cc => ?_) (fun cc => ?_)
        · replace hf := ifT cc hf
          refine lv_aload_n hx hb dX13_cannot_176 rfl (lv_at hl 4 rfl) ?_
          refine lv_iload_n hx hb dX13_cannot_177 rfl (lv_at hl 2 rfl) ?_
          refine lv_iload hx hb dX13_cannot_178 (lv_at hl 1 rfl) ?_
          obtain ⟨r_23, w_24, hc, hf⟩ := bd2_of hf
          refine k_V (As := [.int t_1, .int t_2]) (rest := []) (ws1 := (kModel G q0 w_24)) ⟨hx, hb, hml, hown, hts⟩ (c_X13_tells l D G q0 t_1 t_2 w_22 _ _ hc  _) (cwV 2 hts gX13_cannot_X13_tells rfl rfl rfl (by decide +kernel) ⟨Nat.le_of_ble_eq_true rfl, Nat.le_of_ble_eq_true rfl⟩) hl.1 (Nat.le_of_ble_eq_true rfl) dX13_cannot_180 ⟨Nat.le_of_ble_eq_true rfl, Nat.le_of_ble_eq_true rfl⟩ rfl kT_bl (fun _ _ _ => trivial) hN hK hP hD hS hA 0 11 rfl rfl rfl [0, 1, 2, 3, 4, 5, 6, 7, 8, 9, 10, 11] [] [0, 1, 2, 3, 4, 5, 6, 7, 8, 9, 10, 11] [0, 1, 2, 3] rfl rfl rfl ⟨by decide, by decide, by decide, by decide⟩ rfl (fun H locs hP hD hS => ?_)
          refine lv_istore_n (lv' := [(2, .int r_23), (5, .int t_3), (4, .int t_2), (3, .int t_1), (0, .ref (q0 0)), (1, .int a1)]) hx hb dX13_cannot_183 rfl hl (by decide) rfl (fun ls hl => ?_)
          refine lv_iconst (v := 0) hx hb dX13_cannot_184 (by decide) ?_
          obtain ⟨rfl, rfl⟩ := re2 hf
          exact hE (.inl rfl) hP hD hS dX13_cannot_185
        · replace hf := ifF cc hf
          refine lv_iconst (v := 1) hx hb dX13_cannot_174 (by decide) ?_
          obtain ⟨rfl, rfl⟩ := re2 hf
          exact hE (.inr rfl) hP hD hS dX13_cannot_175
    refine lv_if_eq (tgt := 157) hx hb dX13_cannot_142 (by decide) (fun cc => ?_) (fun cc => ?_)
    · replace hf := ifT cc hf
      refine lv_iconst (v := 0) hx hb dX13_cannot_157 (by decide) ?_
      exact jnJ_16 0 _ _ _ (lv_sub hl [0, 1, 2, 3, 4, 5] rfl) hP hD hS hf
    · replace hf := ifF cc hf
      refine lv_iload hx hb dX13_cannot_145 (lv_at hl 1 rfl) ?_
      obtain ⟨r_17, hc, hf⟩ := bd1_of hf
      refine k_S (As := [.int t_2]) (rest := [.ref (q0 0)]) (ws1 := (kModel G q0 v_4)) ⟨hx, hb, hml, hown, hts⟩ (c_X13_isTolerance l D G  t_2  _ hc  _) (va_cwS 1 hts gX13_cannot_X13_isTolerance rfl rfl rfl (by decide +kernel) ⟨Nat.le_of_ble_eq_true rfl, Nat.le_of_ble_eq_true rfl⟩) hl.1 (Nat.le_of_ble_eq_true rfl) dX13_cannot_147 ⟨Nat.le_of_ble_eq_true rfl, Nat.le_of_ble_eq_true rfl⟩ rfl kT_bl (fun _ _ _ => trivial) hN hK hP hD hS hA [] [0, 1, 2, 3, 4, 5, 6, 7, 8, 9, 10, 11] [0, 1, 2, 3, 4, 5, 6, 7, 8, 9, 10, 11] [0, 1, 2, 3] rfl rfl rfl ⟨by decide, by decide, by decide, by decide⟩ rfl (fun H locs hP hD hS => ?_)
      refine lv_if_eq (tgt := 157) hx hb dX13_cannot_150 (by decide) (fun cc => ?_) (fun cc => ?_)
      · replace hf := ifT cc hf
        refine lv_iconst (v := 0) hx hb dX13_cannot_157 (by decide) ?_
        exact jnJ_16 0 _ _ _ (lv_sub hl [0, 1, 2, 3, 4, 5] rfl) hP hD hS hf
      · replace hf := ifF cc hf
        refine lv_iconst (v := 1) hx hb dX13_cannot_153 (by decide) ?_
        refine lv_goto (tgt := 158) hx hb dX13_cannot_154 (by decide) ?_
        exact jnJ_16 1 _ _ _ (lv_sub hl [0, 1, 2, 3, 4, 5] rfl) hP hD hS hf
  replace hf := ifF c1 hf
  by_cases c2 : (v_4.2 9 a1.toNatClampNeg) = 2
  · replace hf := ifT c2 hf
    refine lv_tableIn (off := 140) (tgt := 186) hx hb dX13_cannot_46 (by rw [c2]; decide) (by rw [c2]; decide) (by rw [c2]; rfl) (by decide) ?_
    refine lv_aload_n hx hb dX13_cannot_186 rfl (lv_at hl 4 rfl) ?_
    refine lv_iload_n hx hb dX13_cannot_187 rfl (lv_at hl 2 rfl) ?_
    refine lv_iload hx hb dX13_cannot_188 (lv_at hl 1 rfl) ?_
    obtain ⟨r_25, hc, hf⟩ := bd1_of hf
    refine k_S (As := [.int t_1, .int t_2]) (rest := [.ref (q0 0)]) (ws1 := (kModel G q0 v_4)) ⟨hx, hb, hml, hown, hts⟩ (c_X13_areTwo l D G  t_1 t_2  _ hc  _) (va_cwS 2 hts gX13_cannot_X13_areTwo rfl rfl rfl (by decide +kernel) ⟨Nat.le_of_ble_eq_true rfl, Nat.le_of_ble_eq_true rfl⟩) hl.1 (Nat.le_of_ble_eq_true rfl) dX13_cannot_190 ⟨Nat.le_of_ble_eq_true rfl, Nat.le_of_ble_eq_true rfl⟩ rfl kT_bl (fun _ _ _ => trivial) hN hK hP hD hS hA [] [0, 1, 2, 3, 4, 5, 6, 7, 8, 9, 10, 11] [0, 1, 2, 3, 4, 5, 6, 7, 8, 9, 10, 11] [0, 1, 2, 3] rfl rfl rfl ⟨by decide, by decide, by decide, by decide⟩ rfl (fun H locs hP hD hS => ?_)
    have jnJ_26 : ∀ (j_28 : Int32) (H : Heap) (locs : List Loc) (ls : Array Slot), lv_has ls 6 [(5, .int t_3), (4, .int t_2), (3, .int t_1), (2, .int 0), (0, .ref (q0 0)), (1, .int a1)] → va_P D vwCl (kModel G q0 v_4) H → va_D A (kModel G q0 v_4) → va_S A s.heap H locs → f_X13_cannot_J209 v_4 t_1 t_2 t_3 j_28 = some (r, v0') → W p l e rm_X13_cannot s m args below meth c H locs 0 0 Q0 (F0 m 209 ls [.int j_28, .ref (q0 0)]) := by
      intro j_28 H locs ls hl hP hD hS hf
      unfold f_X13_cannot_J209 at hf
      obtain ⟨r_29, w_30, hc, hf⟩ := bd2_of hf
      refine k_V (As := [.int j_28]) (rest := []) (ws1 := (kModel G q0 w_30)) ⟨hx, hb, hml, hown, hts⟩ (c_X13_isNot l D G q0 j_28 v_4 _ _ hc  _) (cwV 1 hts gX13_cannot_X13_isNot rfl rfl rfl (by decide +kernel) ⟨Nat.le_of_ble_eq_true rfl, Nat.le_of_ble_eq_true rfl⟩) hl.1 (Nat.le_of_ble_eq_true rfl) dX13_cannot_209 ⟨Nat.le_of_ble_eq_true rfl, Nat.le_of_ble_eq_true rfl⟩ rfl kT_bl (fun _ _ _ => trivial) hN hK hP hD hS hA 0 11 rfl rfl rfl [0, 1, 2, 3, 4, 5, 6, 7, 8, 9, 10, 11] [] [0, 1, 2, 3, 4, 5, 6, 7, 8, 9, 10, 11] [0, 1, 2, 3] rfl rfl rfl ⟨by decide, by decide, by decide, by decide⟩ rfl (fun H locs hP hD hS => ?_)
      refine lv_if_ne (tgt := 225) hx hb dX13_cannot_212 (by decide) (fun cc => ?_) (fun cc => ?_)
      · replace hf := ifF cc hf
        refine lv_iconst (v := 1) hx hb dX13_cannot_225 (by decide) ?_
        obtain ⟨rfl, rfl⟩ := re2 hf
        exact hE (.inr rfl) hP hD hS dX13_cannot_226
      · replace hf := ifT cc hf
        refine lv_aload_n hx hb dX13_cannot_215 rfl (lv_at hl 4 rfl) ?_
        refine lv_iload_n hx hb dX13_cannot_216 rfl (lv_at hl 2 rfl) ?_
        refine lv_iload hx hb dX13_cannot_217 (lv_at hl 1 rfl) ?_
        obtain ⟨r_31, w_32, hc, hf⟩ := bd2_of hf
        refine k_V (As := [.int t_1, .int t_2]) (rest := []) (ws1 := (kModel G q0 w_32)) ⟨hx, hb, hml, hown, hts⟩ (c_X13_isRefusedHang l D G q0 t_1 t_2 w_30 _ _ hc  _) (cwV 2 hts gX13_cannot_X13_isRefusedHang rfl rfl rfl (by decide +kernel) ⟨Nat.le_of_ble_eq_true rfl, Nat.le_of_ble_eq_true rfl⟩) hl.1 (Nat.le_of_ble_eq_true rfl) dX13_cannot_219 ⟨Nat.le_of_ble_eq_true rfl, Nat.le_of_ble_eq_true rfl⟩ rfl kT_bl (fun _ _ _ => trivial) hN hK hP hD hS hA 0 11 rfl rfl rfl [0, 1, 2, 3, 4, 5, 6, 7, 8, 9, 10, 11] [] [0, 1, 2, 3, 4, 5, 6, 7, 8, 9, 10, 11] [0, 1, 2, 3] rfl rfl rfl ⟨by decide, by decide, by decide, by decide⟩ rfl (fun H locs hP hD hS => ?_)
        refine lv_if_eq (tgt := 227) hx hb dX13_cannot_222 (by decide) (fun cc => ?_) (fun cc => ?_)
        · replace hf := ifT cc hf
          refine lv_aload_n hx hb dX13_cannot_227 rfl (lv_at hl 4 rfl) ?_
          refine lv_iload_n hx hb dX13_cannot_228 rfl (lv_at hl 2 rfl) ?_
          refine lv_iload hx hb dX13_cannot_229 (lv_at hl 1 rfl) ?_
          refine lv_iload hx hb dX13_cannot_231 (lv_at hl 0 rfl) ?_
          obtain ⟨r_33, w_34, hc, hf⟩ := bd2_of hf
          refine k_V (As := [.int t_1, .int t_2, .int t_3]) (rest := []) (ws1 := (kModel G q0 w_34)) ⟨hx, hb, hml, hown, hts⟩ (c_X13_hangs l D G q0 t_1 t_2 t_3 w_32 _ _ hc  _) (cwV 3 hts gX13_cannot_X13_hangs rfl rfl rfl (by decide +kernel) ⟨Nat.le_of_ble_eq_true rfl, Nat.le_of_ble_eq_true rfl⟩) hl.1 (Nat.le_of_ble_eq_true rfl) dX13_cannot_233 ⟨Nat.le_of_ble_eq_true rfl, Nat.le_of_ble_eq_true rfl⟩ rfl kT_bl (fun _ _ _ => trivial) hN hK hP hD hS hA 0 11 rfl rfl rfl [0, 1, 2, 3, 4, 5, 6, 7, 8, 9, 10, 11] [] [0, 1, 2, 3, 4, 5, 6, 7, 8, 9, 10, 11] [0, 1, 2, 3] rfl rfl rfl ⟨by decide, by decide, by decide, by decide⟩ rfl (fun H locs hP hD hS => ?_)
          refine lv_istore_n (lv' := [(2, .int r_33), (5, .int t_3), (4, .int t_2), (3, .int t_1), (0, .ref (q0 0)), (1, .int a1)]) hx hb dX13_cannot_236 rfl hl (by decide) rfl (fun ls hl => ?_)
          refine lv_iconst (v := 0) hx hb dX13_cannot_237 (by decide) ?_
          obtain ⟨rfl, rfl⟩ := re2 hf
          exact hE (.inl rfl) hP hD hS dX13_cannot_238
        · replace hf := ifF cc hf
          refine lv_iconst (v := 1) hx hb dX13_cannot_225 (by decide) ?_
          obtain ⟨rfl, rfl⟩ := re2 hf
          exact hE (.inr rfl) hP hD hS dX13_cannot_226
    refine lv_if_eq (tgt := 208) hx hb dX13_cannot_193 (by decide) (fun cc => ?_) (fun cc => ?_)
    · replace hf := ifT cc hf
      refine lv_iconst (v := 0) hx hb dX13_cannot_208 (by decide) ?_
      exact jnJ_26 0 _ _ _ (lv_sub hl [0, 1, 2, 3, 4, 5] rfl) hP hD hS hf
    · replace hf := ifF cc hf
      refine lv_iload hx hb dX13_cannot_196 (lv_at hl 0 rfl) ?_
      obtain ⟨r_27, hc, hf⟩ := bd1_of hf
      refine k_S (As := [.int t_3]) (rest := [.ref (q0 0)]) (ws1 := (kModel G q0 v_4)) ⟨hx, hb, hml, hown, hts⟩ (c_X13_areMany l D G  t_3  _ hc  _) (va_cwS 1 hts gX13_cannot_X13_areMany rfl rfl rfl (by decide +kernel) ⟨Nat.le_of_ble_eq_true rfl, Nat.le_of_ble_eq_true rfl⟩) hl.1 (Nat.le_of_ble_eq_true rfl) dX13_cannot_198 ⟨Nat.le_of_ble_eq_true rfl, Nat.le_of_ble_eq_true rfl⟩ rfl kT_bl (fun _ _ _ => trivial) hN hK hP hD hS hA [] [0, 1, 2, 3, 4, 5, 6, 7, 8, 9, 10, 11] [0, 1, 2, 3, 4, 5, 6, 7, 8, 9, 10, 11] [0, 1, 2, 3] rfl rfl rfl ⟨by decide, by decide, by decide, by decide⟩ rfl (fun H locs hP hD hS => ?_)
      refine lv_if_eq (tgt := 208) hx hb dX13_cannot_201 (by decide) (fun cc => ?_) (fun cc => ?_)
      · replace hf := ifT cc hf
        refine lv_iconst (v := 0) hx hb dX13_cannot_208 (by decide) ?_
        exact jnJ_26 0 _ _ _ (lv_sub hl [0, 1, 2, 3, 4, 5] rfl) hP hD hS hf
      · replace hf := ifF cc hf
        refine lv_iconst (v := 1) hx hb dX13_cannot_204 (by decide) ?_
        refine lv_goto (tgt := 209) hx hb dX13_cannot_205 (by decide) ?_
        exact jnJ_26 1 _ _ _ (lv_sub hl [0, 1, 2, 3, 4, 5] rfl) hP hD hS hf
  replace hf := ifF c2 hf
  by_cases c3 : (v_4.2 9 a1.toNatClampNeg) = 3
  · replace hf := ifT c3 hf
    refine lv_tableIn (off := 193) (tgt := 239) hx hb dX13_cannot_46 (by rw [c3]; decide) (by rw [c3]; decide) (by rw [c3]; rfl) (by decide) ?_
    refine lv_aload_n hx hb dX13_cannot_239 rfl (lv_at hl 4 rfl) ?_
    refine lv_iload_n hx hb dX13_cannot_240 rfl (lv_at hl 2 rfl) ?_
    refine lv_iload hx hb dX13_cannot_241 (lv_at hl 1 rfl) ?_
    obtain ⟨r_35, hc, hf⟩ := bd1_of hf
    refine k_S (As := [.int t_1, .int t_2]) (rest := [.ref (q0 0)]) (ws1 := (kModel G q0 v_4)) ⟨hx, hb, hml, hown, hts⟩ (c_X13_areTwo l D G  t_1 t_2  _ hc  _) (va_cwS 2 hts gX13_cannot_X13_areTwo rfl rfl rfl (by decide +kernel) ⟨Nat.le_of_ble_eq_true rfl, Nat.le_of_ble_eq_true rfl⟩) hl.1 (Nat.le_of_ble_eq_true rfl) dX13_cannot_243 ⟨Nat.le_of_ble_eq_true rfl, Nat.le_of_ble_eq_true rfl⟩ rfl kT_bl (fun _ _ _ => trivial) hN hK hP hD hS hA [] [0, 1, 2, 3, 4, 5, 6, 7, 8, 9, 10, 11] [0, 1, 2, 3, 4, 5, 6, 7, 8, 9, 10, 11] [0, 1, 2, 3] rfl rfl rfl ⟨by decide, by decide, by decide, by decide⟩ rfl (fun H locs hP hD hS => ?_)
    obtain ⟨r_36, w_37, hc, hf⟩ := bd2_of hf
    refine k_V (As := [.int r_35]) (rest := []) (ws1 := (kModel G q0 w_37)) ⟨hx, hb, hml, hown, hts⟩ (c_X13_isNot l D G q0 r_35 v_4 _ _ hc  _) (cwV 1 hts gX13_cannot_X13_isNot rfl rfl rfl (by decide +kernel) ⟨Nat.le_of_ble_eq_true rfl, Nat.le_of_ble_eq_true rfl⟩) hl.1 (Nat.le_of_ble_eq_true rfl) dX13_cannot_246 ⟨Nat.le_of_ble_eq_true rfl, Nat.le_of_ble_eq_true rfl⟩ rfl kT_bl (fun _ _ _ => trivial) hN hK hP hD hS hA 0 11 rfl rfl rfl [0, 1, 2, 3, 4, 5, 6, 7, 8, 9, 10, 11] [] [0, 1, 2, 3, 4, 5, 6, 7, 8, 9, 10, 11] [0, 1, 2, 3] rfl rfl rfl ⟨by decide, by decide, by decide, by decide⟩ rfl (fun H locs hP hD hS => ?_)
    refine lv_if_ne (tgt := 262) hx hb dX13_cannot_249 (by decide) (fun cc => ?_) (fun cc => ?_)
    · replace hf := ifF cc hf
      refine lv_iconst (v := 1) hx hb dX13_cannot_262 (by decide) ?_
      obtain ⟨rfl, rfl⟩ := re2 hf
      exact hE (.inr rfl) hP hD hS dX13_cannot_263
    · replace hf := ifT cc hf
      refine lv_aload_n hx hb dX13_cannot_252 rfl (lv_at hl 4 rfl) ?_
      refine lv_iload_n hx hb dX13_cannot_253 rfl (lv_at hl 2 rfl) ?_
      refine lv_iload hx hb dX13_cannot_254 (lv_at hl 1 rfl) ?_
      obtain ⟨r_38, w_39, hc, hf⟩ := bd2_of hf
      refine k_V (As := [.int t_1, .int t_2]) (rest := []) (ws1 := (kModel G q0 w_39)) ⟨hx, hb, hml, hown, hts⟩ (c_X13_isRefusedGreet l D G q0 t_1 t_2 w_37 _ _ hc  _) (cwV 2 hts gX13_cannot_X13_isRefusedGreet rfl rfl rfl (by decide +kernel) ⟨Nat.le_of_ble_eq_true rfl, Nat.le_of_ble_eq_true rfl⟩) hl.1 (Nat.le_of_ble_eq_true rfl) dX13_cannot_256 ⟨Nat.le_of_ble_eq_true rfl, Nat.le_of_ble_eq_true rfl⟩ rfl kT_bl (fun _ _ _ => trivial) hN hK hP hD hS hA 0 11 rfl rfl rfl [0, 1, 2, 3, 4, 5, 6, 7, 8, 9, 10, 11] [] [0, 1, 2, 3, 4, 5, 6, 7, 8, 9, 10, 11] [0, 1, 2, 3] rfl rfl rfl ⟨by decide, by decide, by decide, by decide⟩ rfl (fun H locs hP hD hS => ?_)
      refine lv_if_eq (tgt := 264) hx hb dX13_cannot_259 (by decide) (fun cc => ?_) (fun cc => ?_)
      · replace hf := ifT cc hf
        refine lv_aload_n hx hb dX13_cannot_264 rfl (lv_at hl 4 rfl) ?_
        refine lv_iload_n hx hb dX13_cannot_265 rfl (lv_at hl 2 rfl) ?_
        refine lv_iload hx hb dX13_cannot_266 (lv_at hl 1 rfl) ?_
        obtain ⟨r_40, w_41, hc, hf⟩ := bd2_of hf
        refine k_V (As := [.int t_1, .int t_2]) (rest := []) (ws1 := (kModel G q0 w_41)) ⟨hx, hb, hml, hown, hts⟩ (c_X13_greets l D G q0 t_1 t_2 w_39 _ _ hc  _) (cwV 2 hts gX13_cannot_X13_greets rfl rfl rfl (by decide +kernel) ⟨Nat.le_of_ble_eq_true rfl, Nat.le_of_ble_eq_true rfl⟩) hl.1 (Nat.le_of_ble_eq_true rfl) dX13_cannot_268 ⟨Nat.le_of_ble_eq_true rfl, Nat.le_of_ble_eq_true rfl⟩ rfl kT_bl (fun _ _ _ => trivial) hN hK hP hD hS hA 0 11 rfl rfl rfl [0, 1, 2, 3, 4, 5, 6, 7, 8, 9, 10, 11] [] [0, 1, 2, 3, 4, 5, 6, 7, 8, 9, 10, 11] [0, 1, 2, 3] rfl rfl rfl ⟨by decide, by decide, by decide, by decide⟩ rfl (fun H locs hP hD hS => ?_)
        refine lv_istore_n (lv' := [(2, .int r_40), (5, .int t_3), (4, .int t_2), (3, .int t_1), (0, .ref (q0 0)), (1, .int a1)]) hx hb dX13_cannot_271 rfl hl (by decide) rfl (fun ls hl => ?_)
        refine lv_iconst (v := 0) hx hb dX13_cannot_272 (by decide) ?_
        obtain ⟨rfl, rfl⟩ := re2 hf
        exact hE (.inl rfl) hP hD hS dX13_cannot_273
      · replace hf := ifF cc hf
        refine lv_iconst (v := 1) hx hb dX13_cannot_262 (by decide) ?_
        obtain ⟨rfl, rfl⟩ := re2 hf
        exact hE (.inr rfl) hP hD hS dX13_cannot_263
  replace hf := ifF c3 hf
  by_cases c4 : (v_4.2 9 a1.toNatClampNeg) = 4
  · replace hf := ifT c4 hf
    refine lv_tableIn (off := 228) (tgt := 274) hx hb dX13_cannot_46 (by rw [c4]; decide) (by rw [c4]; decide) (by rw [c4]; rfl) (by decide) ?_
    refine lv_aload_n hx hb dX13_cannot_274 rfl (lv_at hl 4 rfl) ?_
    refine lv_iload_n hx hb dX13_cannot_275 rfl (lv_at hl 2 rfl) ?_
    refine lv_iload hx hb dX13_cannot_276 (lv_at hl 1 rfl) ?_
    obtain ⟨r_42, hc, hf⟩ := bd1_of hf
    refine k_S (As := [.int t_1, .int t_2]) (rest := [.ref (q0 0)]) (ws1 := (kModel G q0 v_4)) ⟨hx, hb, hml, hown, hts⟩ (c_X13_areTwo l D G  t_1 t_2  _ hc  _) (va_cwS 2 hts gX13_cannot_X13_areTwo rfl rfl rfl (by decide +kernel) ⟨Nat.le_of_ble_eq_true rfl, Nat.le_of_ble_eq_true rfl⟩) hl.1 (Nat.le_of_ble_eq_true rfl) dX13_cannot_278 ⟨Nat.le_of_ble_eq_true rfl, Nat.le_of_ble_eq_true rfl⟩ rfl kT_bl (fun _ _ _ => trivial) hN hK hP hD hS hA [] [0, 1, 2, 3, 4, 5, 6, 7, 8, 9, 10, 11] [0, 1, 2, 3, 4, 5, 6, 7, 8, 9, 10, 11] [0, 1, 2, 3] rfl rfl rfl ⟨by decide, by decide, by decide, by decide⟩ rfl (fun H locs hP hD hS => ?_)
    have jnJ_43 : ∀ (j_45 : Int32) (H : Heap) (locs : List Loc) (ls : Array Slot), lv_has ls 6 [(5, .int t_3), (4, .int t_2), (3, .int t_1), (2, .int 0), (0, .ref (q0 0)), (1, .int a1)] → va_P D vwCl (kModel G q0 v_4) H → va_D A (kModel G q0 v_4) → va_S A s.heap H locs → f_X13_cannot_J297 v_4 t_1 t_2 t_3 j_45 = some (r, v0') → W p l e rm_X13_cannot s m args below meth c H locs 0 0 Q0 (F0 m 297 ls [.int j_45, .ref (q0 0)]) := by
      intro j_45 H locs ls hl hP hD hS hf
      unfold f_X13_cannot_J297 at hf
      obtain ⟨r_46, w_47, hc, hf⟩ := bd2_of hf
      refine k_V (As := [.int j_45]) (rest := []) (ws1 := (kModel G q0 w_47)) ⟨hx, hb, hml, hown, hts⟩ (c_X13_isNot l D G q0 j_45 v_4 _ _ hc  _) (cwV 1 hts gX13_cannot_X13_isNot rfl rfl rfl (by decide +kernel) ⟨Nat.le_of_ble_eq_true rfl, Nat.le_of_ble_eq_true rfl⟩) hl.1 (Nat.le_of_ble_eq_true rfl) dX13_cannot_297 ⟨Nat.le_of_ble_eq_true rfl, Nat.le_of_ble_eq_true rfl⟩ rfl kT_bl (fun _ _ _ => trivial) hN hK hP hD hS hA 0 11 rfl rfl rfl [0, 1, 2, 3, 4, 5, 6, 7, 8, 9, 10, 11] [] [0, 1, 2, 3, 4, 5, 6, 7, 8, 9, 10, 11] [0, 1, 2, 3] rfl rfl rfl ⟨by decide, by decide, by decide, by decide⟩ rfl (fun H locs hP hD hS => ?_)
      refine lv_if_ne (tgt := 315) hx hb dX13_cannot_300 (by decide) (fun cc => ?_) (fun cc => ?_)
      · replace hf := ifF cc hf
        refine lv_iconst (v := 1) hx hb dX13_cannot_315 (by decide) ?_
        obtain ⟨rfl, rfl⟩ := re2 hf
        exact hE (.inr rfl) hP hD hS dX13_cannot_316
      · replace hf := ifT cc hf
        refine lv_aload_n hx hb dX13_cannot_303 rfl (lv_at hl 4 rfl) ?_
        refine lv_iload_n hx hb dX13_cannot_304 rfl (lv_at hl 2 rfl) ?_
        refine lv_iload hx hb dX13_cannot_305 (lv_at hl 1 rfl) ?_
        refine lv_iload hx hb dX13_cannot_307 (lv_at hl 0 rfl) ?_
        obtain ⟨r_48, w_49, hc, hf⟩ := bd2_of hf
        refine k_V (As := [.int t_1, .int t_2, .int t_3]) (rest := []) (ws1 := (kModel G q0 w_49)) ⟨hx, hb, hml, hown, hts⟩ (c_X13_isRefusedGive l D G q0 t_1 t_2 t_3 w_47 _ _ hc  _) (cwV 3 hts gX13_cannot_X13_isRefusedGive rfl rfl rfl (by decide +kernel) ⟨Nat.le_of_ble_eq_true rfl, Nat.le_of_ble_eq_true rfl⟩) hl.1 (Nat.le_of_ble_eq_true rfl) dX13_cannot_309 ⟨Nat.le_of_ble_eq_true rfl, Nat.le_of_ble_eq_true rfl⟩ rfl kT_bl (fun _ _ _ => trivial) hN hK hP hD hS hA 0 11 rfl rfl rfl [0, 1, 2, 3, 4, 5, 6, 7, 8, 9, 10, 11] [] [0, 1, 2, 3, 4, 5, 6, 7, 8, 9, 10, 11] [0, 1, 2, 3] rfl rfl rfl ⟨by decide, by decide, by decide, by decide⟩ rfl (fun H locs hP hD hS => ?_)
        refine lv_if_eq (tgt := 317) hx hb dX13_cannot_312 (by decide) (fun cc => ?_) (fun cc => ?_)
        · replace hf := ifT cc hf
          refine lv_aload_n hx hb dX13_cannot_317 rfl (lv_at hl 4 rfl) ?_
          refine lv_iload_n hx hb dX13_cannot_318 rfl (lv_at hl 2 rfl) ?_
          refine lv_iload hx hb dX13_cannot_319 (lv_at hl 1 rfl) ?_
          refine lv_iload hx hb dX13_cannot_321 (lv_at hl 0 rfl) ?_
          obtain ⟨r_50, w_51, hc, hf⟩ := bd2_of hf
          refine k_V (As := [.int t_1, .int t_2, .int t_3]) (rest := []) (ws1 := (kModel G q0 w_51)) ⟨hx, hb, hml, hown, hts⟩ (c_X13_gives l D G q0 t_1 t_2 t_3 w_49 _ _ hc  _) (cwV 3 hts gX13_cannot_X13_gives rfl rfl rfl (by decide +kernel) ⟨Nat.le_of_ble_eq_true rfl, Nat.le_of_ble_eq_true rfl⟩) hl.1 (Nat.le_of_ble_eq_true rfl) dX13_cannot_323 ⟨Nat.le_of_ble_eq_true rfl, Nat.le_of_ble_eq_true rfl⟩ rfl kT_bl (fun _ _ _ => trivial) hN hK hP hD hS hA 0 11 rfl rfl rfl [0, 1, 2, 3, 4, 5, 6, 7, 8, 9, 10, 11] [] [0, 1, 2, 3, 4, 5, 6, 7, 8, 9, 10, 11] [0, 1, 2, 3] rfl rfl rfl ⟨by decide, by decide, by decide, by decide⟩ rfl (fun H locs hP hD hS => ?_)
          refine lv_istore_n (lv' := [(2, .int r_50), (5, .int t_3), (4, .int t_2), (3, .int t_1), (0, .ref (q0 0)), (1, .int a1)]) hx hb dX13_cannot_326 rfl hl (by decide) rfl (fun ls hl => ?_)
          refine lv_iconst (v := 0) hx hb dX13_cannot_327 (by decide) ?_
          obtain ⟨rfl, rfl⟩ := re2 hf
          exact hE (.inl rfl) hP hD hS dX13_cannot_328
        · replace hf := ifF cc hf
          refine lv_iconst (v := 1) hx hb dX13_cannot_315 (by decide) ?_
          obtain ⟨rfl, rfl⟩ := re2 hf
          exact hE (.inr rfl) hP hD hS dX13_cannot_316
    refine lv_if_eq (tgt := 296) hx hb dX13_cannot_281 (by decide) (fun cc => ?_) (fun cc => ?_)
    · replace hf := ifT cc hf
      refine lv_iconst (v := 0) hx hb dX13_cannot_296 (by decide) ?_
      exact jnJ_43 0 _ _ _ (lv_sub hl [0, 1, 2, 3, 4, 5] rfl) hP hD hS hf
    · replace hf := ifF cc hf
      refine lv_iload hx hb dX13_cannot_284 (lv_at hl 0 rfl) ?_
      obtain ⟨r_44, hc, hf⟩ := bd1_of hf
      refine k_S (As := [.int t_3]) (rest := [.ref (q0 0)]) (ws1 := (kModel G q0 v_4)) ⟨hx, hb, hml, hown, hts⟩ (c_X13_areMany l D G  t_3  _ hc  _) (va_cwS 1 hts gX13_cannot_X13_areMany rfl rfl rfl (by decide +kernel) ⟨Nat.le_of_ble_eq_true rfl, Nat.le_of_ble_eq_true rfl⟩) hl.1 (Nat.le_of_ble_eq_true rfl) dX13_cannot_286 ⟨Nat.le_of_ble_eq_true rfl, Nat.le_of_ble_eq_true rfl⟩ rfl kT_bl (fun _ _ _ => trivial) hN hK hP hD hS hA [] [0, 1, 2, 3, 4, 5, 6, 7, 8, 9, 10, 11] [0, 1, 2, 3, 4, 5, 6, 7, 8, 9, 10, 11] [0, 1, 2, 3] rfl rfl rfl ⟨by decide, by decide, by decide, by decide⟩ rfl (fun H locs hP hD hS => ?_)
      refine lv_if_eq (tgt := 296) hx hb dX13_cannot_289 (by decide) (fun cc => ?_) (fun cc => ?_)
      · replace hf := ifT cc hf
        refine lv_iconst (v := 0) hx hb dX13_cannot_296 (by decide) ?_
        exact jnJ_43 0 _ _ _ (lv_sub hl [0, 1, 2, 3, 4, 5] rfl) hP hD hS hf
      · replace hf := ifF cc hf
        refine lv_iconst (v := 1) hx hb dX13_cannot_292 (by decide) ?_
        refine lv_goto (tgt := 297) hx hb dX13_cannot_293 (by decide) ?_
        exact jnJ_43 1 _ _ _ (lv_sub hl [0, 1, 2, 3, 4, 5] rfl) hP hD hS hf
  replace hf := ifF c4 hf
  by_cases c5 : (v_4.2 9 a1.toNatClampNeg) = 5
  · replace hf := ifT c5 hf
    refine lv_tableIn (off := 283) (tgt := 329) hx hb dX13_cannot_46 (by rw [c5]; decide) (by rw [c5]; decide) (by rw [c5]; rfl) (by decide) ?_
    refine lv_aload_n hx hb dX13_cannot_329 rfl (lv_at hl 4 rfl) ?_
    refine lv_iload_n hx hb dX13_cannot_330 rfl (lv_at hl 2 rfl) ?_
    obtain ⟨r_52, hc, hf⟩ := bd1_of hf
    refine k_S (As := [.int t_1]) (rest := [.ref (q0 0)]) (ws1 := (kModel G q0 v_4)) ⟨hx, hb, hml, hown, hts⟩ (c_X13_isBalcony l D G  t_1  _ hc  _) (va_cwS 1 hts gX13_cannot_X13_isBalcony rfl rfl rfl (by decide +kernel) ⟨Nat.le_of_ble_eq_true rfl, Nat.le_of_ble_eq_true rfl⟩) hl.1 (Nat.le_of_ble_eq_true rfl) dX13_cannot_331 ⟨Nat.le_of_ble_eq_true rfl, Nat.le_of_ble_eq_true rfl⟩ rfl kT_bl (fun _ _ _ => trivial) hN hK hP hD hS hA [] [0, 1, 2, 3, 4, 5, 6, 7, 8, 9, 10, 11] [0, 1, 2, 3, 4, 5, 6, 7, 8, 9, 10, 11] [0, 1, 2, 3] rfl rfl rfl ⟨by decide, by decide, by decide, by decide⟩ rfl (fun H locs hP hD hS => ?_)
    obtain ⟨r_53, w_54, hc, hf⟩ := bd2_of hf
    refine k_V (As := [.int r_52]) (rest := []) (ws1 := (kModel G q0 w_54)) ⟨hx, hb, hml, hown, hts⟩ (c_X13_isNot l D G q0 r_52 v_4 _ _ hc  _) (cwV 1 hts gX13_cannot_X13_isNot rfl rfl rfl (by decide +kernel) ⟨Nat.le_of_ble_eq_true rfl, Nat.le_of_ble_eq_true rfl⟩) hl.1 (Nat.le_of_ble_eq_true rfl) dX13_cannot_334 ⟨Nat.le_of_ble_eq_true rfl, Nat.le_of_ble_eq_true rfl⟩ rfl kT_bl (fun _ _ _ => trivial) hN hK hP hD hS hA 0 11 rfl rfl rfl [0, 1, 2, 3, 4, 5, 6, 7, 8, 9, 10, 11] [] [0, 1, 2, 3, 4, 5, 6, 7, 8, 9, 10, 11] [0, 1, 2, 3] rfl rfl rfl ⟨by decide, by decide, by decide, by decide⟩ rfl (fun H locs hP hD hS => ?_)
    refine lv_if_ne (tgt := 348) hx hb dX13_cannot_337 (by decide) (fun cc => ?_) (fun cc => ?_)
    · replace hf := ifF cc hf
      refine lv_iconst (v := 1) hx hb dX13_cannot_348 (by decide) ?_
      obtain ⟨rfl, rfl⟩ := re2 hf
      exact hE (.inr rfl) hP hD hS dX13_cannot_349
    · replace hf := ifT cc hf
      refine lv_aload_n hx hb dX13_cannot_340 rfl (lv_at hl 4 rfl) ?_
      refine lv_iload_n hx hb dX13_cannot_341 rfl (lv_at hl 2 rfl) ?_
      obtain ⟨r_55, w_56, hc, hf⟩ := bd2_of hf
      refine k_V (As := [.int t_1]) (rest := []) (ws1 := (kModel G q0 w_56)) ⟨hx, hb, hml, hown, hts⟩ (c_X13_isRefusedCat l D G q0 t_1 w_54 _ _ hc  _) (cwV 1 hts gX13_cannot_X13_isRefusedCat rfl rfl rfl (by decide +kernel) ⟨Nat.le_of_ble_eq_true rfl, Nat.le_of_ble_eq_true rfl⟩) hl.1 (Nat.le_of_ble_eq_true rfl) dX13_cannot_342 ⟨Nat.le_of_ble_eq_true rfl, Nat.le_of_ble_eq_true rfl⟩ rfl kT_bl (fun _ _ _ => trivial) hN hK hP hD hS hA 0 11 rfl rfl rfl [0, 1, 2, 3, 4, 5, 6, 7, 8, 9, 10, 11] [] [0, 1, 2, 3, 4, 5, 6, 7, 8, 9, 10, 11] [0, 1, 2, 3] rfl rfl rfl ⟨by decide, by decide, by decide, by decide⟩ rfl (fun H locs hP hD hS => ?_)
      refine lv_if_eq (tgt := 350) hx hb dX13_cannot_345 (by decide) (fun cc => ?_) (fun cc => ?_)
      · replace hf := ifT cc hf
        refine lv_aload_n hx hb dX13_cannot_350 rfl (lv_at hl 4 rfl) ?_
        refine lv_iload_n hx hb dX13_cannot_351 rfl (lv_at hl 2 rfl) ?_
        obtain ⟨r_57, w_58, hc, hf⟩ := bd2_of hf
        refine k_V (As := [.int t_1]) (rest := []) (ws1 := (kModel G q0 w_58)) ⟨hx, hb, hml, hown, hts⟩ (c_X13_comes l D G q0 t_1 w_56 _ _ hc  _) (cwV 1 hts gX13_cannot_X13_comes rfl rfl rfl (by decide +kernel) ⟨Nat.le_of_ble_eq_true rfl, Nat.le_of_ble_eq_true rfl⟩) hl.1 (Nat.le_of_ble_eq_true rfl) dX13_cannot_352 ⟨Nat.le_of_ble_eq_true rfl, Nat.le_of_ble_eq_true rfl⟩ rfl kT_bl (fun _ _ _ => trivial) hN hK hP hD hS hA 0 11 rfl rfl rfl [0, 1, 2, 3, 4, 5, 6, 7, 8, 9, 10, 11] [] [0, 1, 2, 3, 4, 5, 6, 7, 8, 9, 10, 11] [0, 1, 2, 3] rfl rfl rfl ⟨by decide, by decide, by decide, by decide⟩ rfl (fun H locs hP hD hS => ?_)
        refine lv_istore_n (lv' := [(2, .int r_57), (5, .int t_3), (4, .int t_2), (3, .int t_1), (0, .ref (q0 0)), (1, .int a1)]) hx hb dX13_cannot_355 rfl hl (by decide) rfl (fun ls hl => ?_)
        refine lv_iconst (v := 0) hx hb dX13_cannot_356 (by decide) ?_
        obtain ⟨rfl, rfl⟩ := re2 hf
        exact hE (.inl rfl) hP hD hS dX13_cannot_357
      · replace hf := ifF cc hf
        refine lv_iconst (v := 1) hx hb dX13_cannot_348 (by decide) ?_
        obtain ⟨rfl, rfl⟩ := re2 hf
        exact hE (.inr rfl) hP hD hS dX13_cannot_349
  replace hf := ifF c5 hf
  by_cases c6 : (v_4.2 9 a1.toNatClampNeg) = 6
  · replace hf := ifT c6 hf
    refine lv_tableIn (off := 312) (tgt := 358) hx hb dX13_cannot_46 (by rw [c6]; decide) (by rw [c6]; decide) (by rw [c6]; rfl) (by decide) ?_
    refine lv_aload_n hx hb dX13_cannot_358 rfl (lv_at hl 4 rfl) ?_
    refine lv_iload_n hx hb dX13_cannot_359 rfl (lv_at hl 2 rfl) ?_
    refine lv_iload hx hb dX13_cannot_360 (lv_at hl 1 rfl) ?_
    obtain ⟨r_59, hc, hf⟩ := bd1_of hf
    refine k_S (As := [.int t_1, .int t_2]) (rest := [.ref (q0 0)]) (ws1 := (kModel G q0 v_4)) ⟨hx, hb, hml, hown, hts⟩ (c_X13_areTwo l D G  t_1 t_2  _ hc  _) (va_cwS 2 hts gX13_cannot_X13_areTwo rfl rfl rfl (by decide +kernel) ⟨Nat.le_of_ble_eq_true rfl, Nat.le_of_ble_eq_true rfl⟩) hl.1 (Nat.le_of_ble_eq_true rfl) dX13_cannot_362 ⟨Nat.le_of_ble_eq_true rfl, Nat.le_of_ble_eq_true rfl⟩ rfl kT_bl (fun _ _ _ => trivial) hN hK hP hD hS hA [] [0, 1, 2, 3, 4, 5, 6, 7, 8, 9, 10, 11] [0, 1, 2, 3, 4, 5, 6, 7, 8, 9, 10, 11] [0, 1, 2, 3] rfl rfl rfl ⟨by decide, by decide, by decide, by decide⟩ rfl (fun H locs hP hD hS => ?_)
    obtain ⟨r_60, w_61, hc, hf⟩ := bd2_of hf
    refine k_V (As := [.int r_59]) (rest := []) (ws1 := (kModel G q0 w_61)) ⟨hx, hb, hml, hown, hts⟩ (c_X13_isNot l D G q0 r_59 v_4 _ _ hc  _) (cwV 1 hts gX13_cannot_X13_isNot rfl rfl rfl (by decide +kernel) ⟨Nat.le_of_ble_eq_true rfl, Nat.le_of_ble_eq_true rfl⟩) hl.1 (Nat.le_of_ble_eq_true rfl) dX13_cannot_365 ⟨Nat.le_of_ble_eq_true rfl, Nat.le_of_ble_eq_true rfl⟩ rfl kT_bl (fun _ _ _ => trivial) hN hK hP hD hS hA 0 11 rfl rfl rfl [0, 1, 2, 3, 4, 5, 6, 7, 8, 9, 10, 11] [] [0, 1, 2, 3, 4, 5, 6, 7, 8, 9, 10, 11] [0, 1, 2, 3] rfl rfl rfl ⟨by decide, by decide, by decide, by decide⟩ rfl (fun H locs hP hD hS => ?_)
    refine lv_if_ne (tgt := 381) hx hb dX13_cannot_368 (by decide) (fun cc => ?_) (fun cc => ?_)
    · replace hf := ifF cc hf
      refine lv_iconst (v := 1) hx hb dX13_cannot_381 (by decide) ?_
      obtain ⟨rfl, rfl⟩ := re2 hf
      exact hE (.inr rfl) hP hD hS dX13_cannot_382
    · replace hf := ifT cc hf
      refine lv_aload_n hx hb dX13_cannot_371 rfl (lv_at hl 4 rfl) ?_
      refine lv_iload_n hx hb dX13_cannot_372 rfl (lv_at hl 2 rfl) ?_
      refine lv_iload hx hb dX13_cannot_373 (lv_at hl 1 rfl) ?_
      obtain ⟨r_62, w_63, hc, hf⟩ := bd2_of hf
      refine k_V (As := [.int t_1, .int t_2]) (rest := []) (ws1 := (kModel G q0 w_63)) ⟨hx, hb, hml, hown, hts⟩ (c_X13_isRefusedSwap l D G q0 t_1 t_2 w_61 _ _ hc  _) (cwV 2 hts gX13_cannot_X13_isRefusedSwap rfl rfl rfl (by decide +kernel) ⟨Nat.le_of_ble_eq_true rfl, Nat.le_of_ble_eq_true rfl⟩) hl.1 (Nat.le_of_ble_eq_true rfl) dX13_cannot_375 ⟨Nat.le_of_ble_eq_true rfl, Nat.le_of_ble_eq_true rfl⟩ rfl kT_bl (fun _ _ _ => trivial) hN hK hP hD hS hA 0 11 rfl rfl rfl [0, 1, 2, 3, 4, 5, 6, 7, 8, 9, 10, 11] [] [0, 1, 2, 3, 4, 5, 6, 7, 8, 9, 10, 11] [0, 1, 2, 3] rfl rfl rfl ⟨by decide, by decide, by decide, by decide⟩ rfl (fun H locs hP hD hS => ?_)
      refine lv_if_eq (tgt := 383) hx hb dX13_cannot_378 (by decide) (fun cc => ?_) (fun cc => ?_)
      · replace hf := ifT cc hf
        refine lv_aload_n hx hb dX13_cannot_383 rfl (lv_at hl 4 rfl) ?_
        refine lv_iload_n hx hb dX13_cannot_384 rfl (lv_at hl 2 rfl) ?_
        refine lv_iload hx hb dX13_cannot_385 (lv_at hl 1 rfl) ?_
        obtain ⟨r_64, w_65, hc, hf⟩ := bd2_of hf
        refine k_V (As := [.int t_1, .int t_2]) (rest := []) (ws1 := (kModel G q0 w_65)) ⟨hx, hb, hml, hown, hts⟩ (c_X13_swaps l D G q0 t_1 t_2 w_63 _ _ hc  _) (cwV 2 hts gX13_cannot_X13_swaps rfl rfl rfl (by decide +kernel) ⟨Nat.le_of_ble_eq_true rfl, Nat.le_of_ble_eq_true rfl⟩) hl.1 (Nat.le_of_ble_eq_true rfl) dX13_cannot_387 ⟨Nat.le_of_ble_eq_true rfl, Nat.le_of_ble_eq_true rfl⟩ rfl kT_bl (fun _ _ _ => trivial) hN hK hP hD hS hA 0 11 rfl rfl rfl [0, 1, 2, 3, 4, 5, 6, 7, 8, 9, 10, 11] [] [0, 1, 2, 3, 4, 5, 6, 7, 8, 9, 10, 11] [0, 1, 2, 3] rfl rfl rfl ⟨by decide, by decide, by decide, by decide⟩ rfl (fun H locs hP hD hS => ?_)
        refine lv_istore_n (lv' := [(2, .int r_64), (5, .int t_3), (4, .int t_2), (3, .int t_1), (0, .ref (q0 0)), (1, .int a1)]) hx hb dX13_cannot_390 rfl hl (by decide) rfl (fun ls hl => ?_)
        refine lv_iconst (v := 0) hx hb dX13_cannot_391 (by decide) ?_
        obtain ⟨rfl, rfl⟩ := re2 hf
        exact hE (.inl rfl) hP hD hS dX13_cannot_392
      · replace hf := ifF cc hf
        refine lv_iconst (v := 1) hx hb dX13_cannot_381 (by decide) ?_
        obtain ⟨rfl, rfl⟩ := re2 hf
        exact hE (.inr rfl) hP hD hS dX13_cannot_382
  replace hf := ifF c6 hf
  refine lv_tableOut (tgt := 393) hx hb dX13_cannot_46 (by have e0 := sw_ne (z := 0) c0 (by decide); have e1 := sw_ne (z := 1) c1 (by decide); have e2 := sw_ne (z := 2) c2 (by decide); have e3 := sw_ne (z := 3) c3 (by decide); have e4 := sw_ne (z := 4) c4 (by decide); have e5 := sw_ne (z := 5) c5 (by decide); have e6 := sw_ne (z := 6) c6 (by decide); omega) (by decide) ?_
  refine lv_aload_n hx hb dX13_cannot_393 rfl (lv_at hl 4 rfl) ?_
  obtain ⟨r_66, w_67, hc, hf⟩ := bd2_of hf
  refine k_V (As := []) (rest := []) (ws1 := (kModel G q0 w_67)) ⟨hx, hb, hml, hown, hts⟩ (c_X13_ends l D G q0  v_4 _ _ hc  _) (cwV 0 hts gX13_cannot_X13_ends rfl rfl rfl (by decide +kernel) ⟨Nat.le_of_ble_eq_true rfl, Nat.le_of_ble_eq_true rfl⟩) hl.1 (Nat.le_of_ble_eq_true rfl) dX13_cannot_394 ⟨Nat.le_of_ble_eq_true rfl, Nat.le_of_ble_eq_true rfl⟩ rfl kT_bl (fun _ _ _ => trivial) hN hK hP hD hS hA 0 11 rfl rfl rfl [0, 1, 2, 3, 4, 5, 6, 7, 8, 9, 10, 11] [] [0, 1, 2, 3, 4, 5, 6, 7, 8, 9, 10, 11] [0, 1, 2, 3] rfl rfl rfl ⟨by decide, by decide, by decide, by decide⟩ rfl (fun H locs hP hD hS => ?_)
  refine lv_istore_n (lv' := [(2, .int r_66), (5, .int t_3), (4, .int t_2), (3, .int t_1), (0, .ref (q0 0)), (1, .int a1)]) hx hb dX13_cannot_397 rfl hl (by decide) rfl (fun ls hl => ?_)
  refine lv_iconst (v := 0) hx hb dX13_cannot_398 (by decide) ?_
  obtain ⟨rfl, rfl⟩ := re2 hf
  exact hE (.inl rfl) hP hD hS dX13_cannot_399
