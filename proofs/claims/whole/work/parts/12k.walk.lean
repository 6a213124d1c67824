/-! Walks, laid by wip/whole/gen.py: for each method f_ (what it does to its world) and c_ (its contract). -/
def f_X13_writes (a1 : Int32) (v0 : SV) : Option SV :=
  ckI (v0.1 9) 80 <|
  nm (pA v0 7 (v0.1 9) a1) fun v_1 =>
  nm (pF v_1 9 ((v_1.1 9) + 1)) fun v_2 =>
  some v_2
abbrev rm_X13_writes : Room := { frames := 0, cells := 0, slots := 0, locals := 0 }
set_option maxHeartbeats 4000000 in
set_option maxRecDepth 100000 in
theorem c_X13_writes (l : Launch) (D : va_G) (G : Nat → ClassId) (q0 : Nat → Nat) (a1 : Int32) (v0 : SV) (v0' : SV) (hf : f_X13_writes a1 v0 = some v0') (sz : Nat) : mC l yX13_writes wsX13_writes rm_X13_writes D (tyG G) kT [.ref (q0 0), .int a1] (kModel G q0 v0) (kModel G q0 v0') sz none 0 0 := by
  refine mC_ofV (cc := cX13_writes) (maxL := 2) (ret := none) (by decide) rfl rfl (Nat.le_of_ble_eq_true rfl) ?_
  intro p e s m args below meth c Q0 hx hb hml hts hown hN hK A hD hA hE hP hS hJ ls hl
  have hl : lv_has ls 2 [(0, .ref (q0 0)), (1, .int a1)] := hl
  unfold f_X13_writes at hf
  have hi11 : ∀ w ∈ u_ws RX13 TX13 27, w ∈ wsX13_writes := by decide +kernel
  have hw1 := hts (.fieldLink RX13 60 "BalconyCensusModel" "line" "[I") (by decide +kernel)
  have hw2 := hts (.fieldLink RX13 63 "BalconyCensusModel" "lineLong" "I") (by decide +kernel)
  refine lv_aload_n hx hb dX13_writes_0 rfl (lv_at hl 0 rfl) ?_
  refine va_get (D := D) (ci := 11) (v := .ref (q0 8)) (C := RX13) (T := TX13) (N := 27) hx hb hts hi11 hown hK hP 0 rfl rfl 16 (by decide) hw1 (fun _ h9 => h9) rfl dX13_writes_1 ?_
  refine lv_aload_n hx hb dX13_writes_4 rfl (lv_at hl 0 rfl) ?_
  refine va_get (D := D) (ci := 11) (v := .int (v0.1 9)) (C := RX13) (T := TX13) (N := 27) hx hb hts hi11 hown hK hP 0 rfl rfl 17 (by decide) hw2 (fun _ h9 => h9) rfl dX13_writes_5 ?_
  refine lv_iload_n hx hb dX13_writes_8 rfl (lv_at hl 1 rfl) ?_
  obtain ⟨hin, hf⟩ := ckI_of hf
  obtain ⟨v_1, ev_1, hf⟩ := nm_of hf
  refine va_iast (D := D) hx hb hK hP hD hS 8 0 rfl rfl hin dX13_writes_9 (fun H locs hP hD hS => ?_)
  have hP : va_P D vwCl (kModel G q0 v_1) H := by rw [ev_1]; exact hP
  have hD : va_D A (kModel G q0 v_1) := by rw [ev_1]; exact hD
  refine lv_aload_n hx hb dX13_writes_10 rfl (lv_at hl 0 rfl) ?_
  refine lv_dup hx hb dX13_writes_11 rfl ?_
  refine va_get (D := D) (ci := 11) (v := .int (v_1.1 9)) (C := RX13) (T := TX13) (N := 27) hx hb hts hi11 hown hK hP 0 rfl rfl 17 (by decide) hw2 (fun _ h9 => h9) rfl dX13_writes_12 ?_
  refine lv_iconst (v := 1) hx hb dX13_writes_15 (by decide) ?_
  refine lv_iadd hx hb dX13_writes_16 ?_
  obtain ⟨v_2, ev_2, hf⟩ := nm_of hf
  refine va_put (D := D) (ci := 11) (v := .int ((v_1.1 9) + 1)) (ty := .int) (C := RX13) (T := TX13) (N := 27) hx hb hts hi11 tyX13 tyX13_ok nmX13 hown hK hP hD hS 0 rfl rfl 17 (by decide) hw2 (fun _ h9 => h9) rfl (by decide +kernel) rfl rfl (Nat.le_of_ble_eq_true rfl) dX13_writes_17 (fun H locs hP hD hS => ?_)
  have hP : va_P D vwCl (kModel G q0 v_2) H := by rw [ev_2]; exact hP
  have hD : va_D A (kModel G q0 v_2) := by rw [ev_2]; exact hD
  obtain rfl := re1 hf
  exact hE hP hD hS dX13_writes_20
def f_X13_writesNumber_J17 (a1 : Int32) (jv_3 : SV) : Option SV :=
  bd1 (f_X13_writes (48 + (a1 - a1 / 10 * 10)) jv_3) fun w_4 =>
  some w_4
def f_X13_writesNumber (a1 : Int32) (v0 : SV) : Option SV :=
  if a1 ≤ 9 then
    f_X13_writesNumber_J17 a1 v0
  else
    bd1 (f_X13_writes (48 + (a1 / 10)) v0) fun w_2 =>
    f_X13_writesNumber_J17 a1 w_2
abbrev rm_X13_writesNumber : Room := { frames := 1, cells := 0, slots := 0, locals := 21 }
set_option maxHeartbeats 4000000 in
set_option maxRecDepth 100000 in
theorem c_X13_writesNumber (l : Launch) (D : va_G) (G : Nat → ClassId) (q0 : Nat → Nat) (a1 : Int32) (v0 : SV) (v0' : SV) (hf : f_X13_writesNumber a1 v0 = some v0') (sz : Nat) : mC l yX13_writesNumber wsX13_writesNumber rm_X13_writesNumber D (tyG G) kT [.ref (q0 0), .int a1] (kModel G q0 v0) (kModel G q0 v0') sz none 0 0 := by
  refine mC_ofV (cc := cX13_writesNumber) (maxL := 2) (ret := none) (by decide) rfl rfl (Nat.le_of_ble_eq_true rfl) ?_
  intro p e s m args below meth c Q0 hx hb hml hts hown hN hK A hD hA hE hP hS hJ ls hl
  have hl : lv_has ls 2 [(0, .ref (q0 0)), (1, .int a1)] := hl
  unfold f_X13_writesNumber at hf
  refine lv_iload_n hx hb dX13_writesNumber_0 rfl (lv_at hl 1 rfl) ?_
  refine lv_bipush (v := 9) hx hb dX13_writesNumber_1 (by decide +kernel) ?_
  have jnJ_1 : ∀ (jv_3 : SV) (H : Heap) (locs : List Loc) (ls : Array Slot), lv_has ls 2 [(0, .ref (q0 0)), (1, .int a1)] → va_P D vwCl (kModel G q0 jv_3) H → va_D A (kModel G q0 jv_3) → va_S A s.heap H locs → f_X13_writesNumber_J17 a1 jv_3 = some v0' → W p l e rm_X13_writesNumber s m args below meth c H locs 0 0 Q0 (F0 m 17 ls []) := by
    intro jv_3 H locs ls hl hP hD hS hf
    unfold f_X13_writesNumber_J17 at hf
    refine lv_aload_n hx hb dX13_writesNumber_17 rfl (lv_at hl 0 rfl) ?_
    refine lv_bipush (v := 48) hx hb dX13_writesNumber_18 (by decide +kernel) ?_
    refine lv_iload_n hx hb dX13_writesNumber_20 rfl (lv_at hl 1 rfl) ?_
    refine lv_bipush (v := 10) hx hb dX13_writesNumber_21 (by decide +kernel) ?_
    refine lv_irem hx hb dX13_writesNumber_23 (by decide) ?_
    refine lv_iadd hx hb dX13_writesNumber_24 ?_
    obtain ⟨w_4, hc, hf⟩ := bd1_of hf
    refine k_V (As := [.int (48 + (a1 - a1 / 10 * 10))]) (rest := []) (ws1 := (kModel G q0 w_4)) ⟨hx, hb, hml, hown, hts⟩ (c_X13_writes l D G q0 (48 + (a1 - a1 / 10 * 10)) jv_3 _ hc  _) (cwV 1 hts gX13_writesNumber_X13_writes rfl rfl rfl (by decide +kernel) ⟨Nat.le_of_ble_eq_true rfl, Nat.le_of_ble_eq_true rfl⟩) hl.1 (Nat.le_of_ble_eq_true rfl) dX13_writesNumber_25 ⟨Nat.le_of_ble_eq_true rfl, Nat.le_of_ble_eq_true rfl⟩ rfl kT_bl (fun _ _ _ => trivial) hN hK hP hD hS hA 0 11 rfl rfl rfl [0, 1, 2, 3, 4, 5, 6, 7, 8, 9, 10, 11] [] [0, 1, 2, 3, 4, 5, 6, 7, 8, 9, 10, 11] [0, 1, 2, 3] rfl rfl rfl ⟨by decide, by decide, by decide, by decide⟩ rfl (fun H locs hP hD hS => ?_)
    obtain rfl := re1 hf
    exact hE hP hD hS dX13_writesNumber_28
  refine lv_icmp_le (tgt := 17) hx hb dX13_writesNumber_3 (by decide) (fun cc => ?_) (fun cc => ?_)
  · replace hf := ifT cc hf
    exact jnJ_1 v0 _ _ _ (lv_sub hl [0, 1] rfl) hP hD hS hf
  · replace hf := ifF cc hf
    refine lv_aload_n hx hb dX13_writesNumber_6 rfl (lv_at hl 0 rfl) ?_
    refine lv_bipush (v := 48) hx hb dX13_writesNumber_7 (by decide +kernel) ?_
    refine lv_iload_n hx hb dX13_writesNumber_9 rfl (lv_at hl 1 rfl) ?_
    refine lv_bipush (v := 10) hx hb dX13_writesNumber_10 (by decide +kernel) ?_
    refine lv_idiv hx hb dX13_writesNumber_12 (by decide) ?_
    refine lv_iadd hx hb dX13_writesNumber_13 ?_
    obtain ⟨w_2, hc, hf⟩ := bd1_of hf
    refine k_V (As := [.int (48 + (a1 / 10))]) (rest := []) (ws1 := (kModel G q0 w_2)) ⟨hx, hb, hml, hown, hts⟩ (c_X13_writes l D G q0 (48 + (a1 / 10)) v0 _ hc  _) (cwV 1 hts gX13_writesNumber_X13_writes rfl rfl rfl (by decide +kernel) ⟨Nat.le_of_ble_eq_true rfl, Nat.le_of_ble_eq_true rfl⟩) hl.1 (Nat.le_of_ble_eq_true rfl) dX13_writesNumber_14 ⟨Nat.le_of_ble_eq_true rfl, Nat.le_of_ble_eq_true rfl⟩ rfl kT_bl (fun _ _ _ => trivial) hN hK hP hD hS hA 0 11 rfl rfl rfl [0, 1, 2, 3, 4, 5, 6, 7, 8, 9, 10, 11] [] [0, 1, 2, 3, 4, 5, 6, 7, 8, 9, 10, 11] [0, 1, 2, 3] rfl rfl rfl ⟨by decide, by decide, by decide, by decide⟩ rfl (fun H locs hP hD hS => ?_)
    exact jnJ_1 w_2 _ _ _ (lv_sub hl [0, 1] rfl) hP hD hS hf
def f_X13_write_K20 (y_31 : Int32) (z_32 : SV) : Option (Int32 × SV) :=
  some ((z_32.1 9), z_32)
def f_X13_write_J71 (x_16 : Int32) (selfL_18 : (Int32 → SV → Option (Int32 × SV))) (jv_28 : SV) : Option (Int32 × SV) :=
  bd1 (f_X13_feudsOf x_16 jv_28) fun r_29 =>
  if r_29 ≤ 0 then
    selfL_18 (x_16 + 1) jv_28
  else
    bd1 (f_X13_writes 33 jv_28) fun w_30 =>
    selfL_18 (x_16 + 1) w_30
def f_X13_write_J42 (x_16 : Int32) (selfL_18 : (Int32 → SV → Option (Int32 × SV))) (jv_21 : SV) : Option (Int32 × SV) :=
  bd1 (f_X13_plants x_16 jv_21) fun r_22 =>
  bd1 (f_X13_writesNumber r_22 jv_21) fun w_23 =>
  bd1 (f_X13_catOn x_16 w_23) fun r_24 =>
  if r_24 < 0 then
    f_X13_write_J71 x_16 selfL_18 w_23
  else
    bd1 (f_X13_catOn x_16 w_23) fun r_26 =>
    bd1 (f_X13_writes (97 + r_26) w_23) fun w_27 =>
    f_X13_write_J71 x_16 selfL_18 w_27
def f_X13_write_B20 (a1 : Int32) (selfL_18 : (Int32 → SV → Option (Int32 × SV))) (x_16 : Int32) (u_17 : SV) : Option (Int32 × SV) :=
  if ((4 * a1) + 4) ≤ x_16 then
    f_X13_write_K20 x_16 u_17
  else
    if (u_17.1 9) ≤ 0 then
      f_X13_write_J42 x_16 selfL_18 u_17
    else
      bd1 (f_X13_writes 32 u_17) fun w_20 =>
      f_X13_write_J42 x_16 selfL_18 w_20
def f_X13_write (a1 : Int32) (v0 : SV) : Option (Int32 × SV) :=
  bd1 (f_X13_in a1 0 2) fun r_1 =>
  if r_1 = 0 then
    some ((-1), v0)
  else
    nm (pF v0 9 0) fun v_2 =>
    lz2 (f_X13_write_B20 a1) FU (4 * a1) v_2
abbrev rm_X13_write : Room := { frames := 5, cells := 0, slots := 0, locals := 112 }
set_option maxHeartbeats 4000000 in
set_option maxRecDepth 100000 in
theorem c_X13_write (l : Launch) (D : va_G) (G : Nat → ClassId) (q0 : Nat → Nat) (a1 : Int32) (v0 : SV) (r : Int32) (v0' : SV) (hf : f_X13_write a1 v0 = some (r, v0')) (sz : Nat) : mC l yX13_write wsX13_write rm_X13_write D (tyG G) kT [.ref (q0 0), .int a1] (kModel G q0 v0) (kModel G q0 v0') sz (some (.int r)) 0 0 := by
  refine mC_ofI (cc := cX13_write) (maxL := 3) (ret := (some .int)) (by decide) rfl rfl (Nat.le_of_ble_eq_true rfl) ?_
  intro p e s m args below meth c Q0 hx hb hml hts hown hN hK A hD hA hE hP hS hJ ls hl
  have hl : lv_has ls 3 [(0, .ref (q0 0)), (1, .int a1)] := hl
  unfold f_X13_write at hf
  have hi11 : ∀ w ∈ u_ws RX13 TX13 27, w ∈ wsX13_write := by decide +kernel
  have hw1 := hts (.fieldLink RX13 63 "BalconyCensusModel" "lineLong" "I") (by decide +kernel)
  refine lv_iload_n hx hb dX13_write_0 rfl (lv_at hl 1 rfl) ?_
  refine lv_iconst (v := 0) hx hb dX13_write_1 (by decide) ?_
  refine lv_iconst (v := 2) hx hb dX13_write_2 (by decide) ?_
  obtain ⟨r_1, hc, hf⟩ := bd1_of hf
  refine k_S (As := [.int a1, .int 0, .int 2]) (rest := []) (ws1 := (kModel G q0 v0)) ⟨hx, hb, hml, hown, hts⟩ (c_X13_in l D G  a1 0 2  _ hc  _) (va_cwS 3 hts gX13_write_X13_in rfl rfl rfl (by decide +kernel) ⟨Nat.le_of_ble_eq_true rfl, Nat.le_of_ble_eq_true rfl⟩) hl.1 (Nat.le_of_ble_eq_true rfl) dX13_write_3 ⟨Nat.le_of_ble_eq_true rfl, Nat.le_of_ble_eq_true rfl⟩ rfl kT_bl (fun _ _ _ => trivial) hN hK hP hD hS hA [] [0, 1, 2, 3, 4, 5, 6, 7, 8, 9, 10, 11] [0, 1, 2, 3, 4, 5, 6, 7, 8, 9, 10, 11] [0, 1, 2, 3] rfl rfl rfl ⟨by decide, by decide, by decide, by decide⟩ rfl (fun H locs hP hD hS => ?_)
  refine lv_if_ne (tgt := 11) hx hb dX13_write_6 (by decide) (fun cc => ?_) (fun cc => ?_)
  · replace hf := ifF cc hf
    refine lv_aload_n hx hb dX13_write_11 rfl (lv_at hl 0 rfl) ?_
    refine lv_iconst (v := 0) hx hb dX13_write_12 (by decide) ?_
    obtain ⟨v_2, ev_2, hf⟩ := nm_of hf
    refine va_put (D := D) (ci := 11) (v := .int 0) (ty := .int) (C := RX13) (T := TX13) (N := 27) hx hb hts hi11 tyX13 tyX13_ok nmX13 hown hK hP hD hS 0 rfl rfl 17 (by decide) hw1 (fun _ h9 => h9) rfl (by decide +kernel) rfl rfl (Nat.le_of_ble_eq_true rfl) dX13_write_13 (fun H locs hP hD hS => ?_)
    have hP : va_P D vwCl (kModel G q0 v_2) H := by rw [ev_2]; exact hP
    have hD : va_D A (kModel G q0 v_2) := by rw [ev_2]; exact hD
    refine lv_iconst (v := 4) hx hb dX13_write_16 (by decide) ?_
    refine lv_iload_n hx hb dX13_write_17 rfl (lv_at hl 1 rfl) ?_
    refine lv_imul hx hb dX13_write_18 ?_
    refine lv_istore_n (lv' := [(2, .int (4 * a1)), (0, .ref (q0 0)), (1, .int a1)]) hx hb dX13_write_19 rfl hl (by decide) rfl (fun ls hl => ?_)
    have exL_18 : ∀ (y_31 : Int32) (z_32 : SV) (H : Heap) (locs : List Loc) (ls : Array Slot), lv_has ls 3 [(2, .int y_31), (0, .ref (q0 0)), (1, .int a1)] → va_P D vwCl (kModel G q0 z_32) H → va_D A (kModel G q0 z_32) → va_S A s.heap H locs → f_X13_write_K20 y_31 z_32 = some (r, v0') → W p l e rm_X13_write s m args below meth c H locs 0 0 Q0 (F0 m 91 ls []) := by
      intro y_31 z_32 H locs ls hl hP hD hS hf
      unfold f_X13_write_K20 at hf
      refine lv_aload_n hx hb dX13_write_91 rfl (lv_at hl 1 rfl) ?_
      refine va_get (D := D) (ci := 11) (v := .int (z_32.1 9)) (C := RX13) (T := TX13) (N := 27) hx hb hts hi11 hown hK hP 0 rfl rfl 17 (by decide) hw1 (fun _ h9 => h9) rfl dX13_write_92 ?_
      obtain ⟨rfl, rfl⟩ := re2 hf
      exact hE hP hD hS dX13_write_95
    have loL_18 : ∀ (n : Nat) (x_16 : Int32) (u_17 : SV) (H : Heap) (locs : List Loc) (ls : Array Slot), lv_has ls 3 [(2, .int x_16), (0, .ref (q0 0)), (1, .int a1)] → va_P D vwCl (kModel G q0 u_17) H → va_D A (kModel G q0 u_17) → va_S A s.heap H locs → lz2 (f_X13_write_B20 a1) n x_16 u_17 = some (r, v0') → W p l e rm_X13_write s m args below meth c H locs 0 0 Q0 (F0 m 20 ls []) := by
      intro n
      induction n with
      | zero => intro x_16 u_17 H locs ls hl hP hD hS hf; cases hf
      | succ n ihL_18 =>
        intro x_16 u_17 H locs ls hl hP hD hS hf
        replace hf := lz2_s hf
        generalize lz2 (f_X13_write_B20 a1) n = selfL_18 at hf ihL_18
        unfold f_X13_write_B20 at hf
        refine lv_iload_n hx hb dX13_write_20 rfl (lv_at hl 0 rfl) ?_
        refine lv_iconst (v := 4) hx hb dX13_write_21 (by decide) ?_
        refine lv_iload_n hx hb dX13_write_22 rfl (lv_at hl 2 rfl) ?_
        refine lv_imul hx hb dX13_write_23 ?_
        refine lv_iconst (v := 4) hx hb dX13_write_24 (by decide) ?_
        refine lv_iadd hx hb dX13_write_25 ?_
        refine lv_icmp_ge (tgt := 91) hx hb dX13_write_26 (by decide) (fun cc => ?_) (fun cc => ?_)
        · replace hf := ifT cc hf
          exact exL_18 x_16 u_17 _ _ _ (lv_sub hl [0, 1, 2] rfl) hP hD hS hf
        · replace hf := ifF cc hf
          refine lv_aload_n hx hb dX13_write_29 rfl (lv_at hl 1 rfl) ?_
          refine va_get (D := D) (ci := 11) (v := .int (u_17.1 9)) (C := RX13) (T := TX13) (N := 27) hx hb hts hi11 hown hK hP 0 rfl rfl 17 (by decide) hw1 (fun _ h9 => h9) rfl dX13_write_30 ?_
          have jnJ_19 : ∀ (jv_21 : SV) (H : Heap) (locs : List Loc) (ls : Array Slot), lv_has ls 3 [(2, .int x_16), (0, .ref (q0 0)), (1, .int a1)] → va_P D vwCl (kModel G q0 jv_21) H → va_D A (kModel G q0 jv_21) → va_S A s.heap H locs → f_X13_write_J42 x_16 selfL_18 jv_21 = some (r, v0') → W p l e rm_X13_write s m args below meth c H locs 0 0 Q0 (F0 m 42 ls []) := by
            intro jv_21 H locs ls hl hP hD hS hf
            unfold f_X13_write_J42 at hf
            refine lv_aload_n hx hb dX13_write_42 rfl (lv_at hl 1 rfl) ?_
            refine lv_aload_n hx hb dX13_write_43 rfl (lv_at hl 1 rfl) ?_
            refine lv_iload_n hx hb dX13_write_44 rfl (lv_at hl 0 rfl) ?_
            obtain ⟨r_22, hc, hf⟩ := bd1_of hf
            refine k_V (As := [.int x_16]) (rest := [.ref (q0 0)]) (ws1 := (kModel G q0 jv_21)) ⟨hx, hb, hml, hown, hts⟩ (c_X13_plants l D G q0 x_16 jv_21 _ hc  _) (cwV 1 hts gX13_write_X13_plants rfl rfl rfl (by decide +kernel) ⟨Nat.le_of_ble_eq_true rfl, Nat.le_of_ble_eq_true rfl⟩) hl.1 (Nat.le_of_ble_eq_true rfl) dX13_write_45 ⟨Nat.le_of_ble_eq_true rfl, Nat.le_of_ble_eq_true rfl⟩ rfl kT_bl (fun _ _ _ => trivial) hN hK hP hD hS hA 0 11 rfl rfl rfl [0, 1, 2, 3, 4, 5, 6, 7, 8, 9, 10, 11] [] [0, 1, 2, 3, 4, 5, 6, 7, 8, 9, 10, 11] [0, 1, 2, 3] rfl rfl rfl ⟨by decide, by decide, by decide, by decide⟩ rfl (fun H locs hP hD hS => ?_)
            obtain ⟨w_23, hc, hf⟩ := bd1_of hf
            refine k_V (As := [.int r_22]) (rest := []) (ws1 := (kModel G q0 w_23)) ⟨hx, hb, hml, hown, hts⟩ (c_X13_writesNumber l D G q0 r_22 jv_21 _ hc  _) (cwV 1 hts gX13_write_X13_writesNumber rfl rfl rfl (by decide +kernel) ⟨Nat.le_of_ble_eq_true rfl, Nat.le_of_ble_eq_true rfl⟩) hl.1 (Nat.le_of_ble_eq_true rfl) dX13_write_48 ⟨Nat.le_of_ble_eq_true rfl, Nat.le_of_ble_eq_true rfl⟩ rfl kT_bl (fun _ _ _ => trivial) hN hK hP hD hS hA 0 11 rfl rfl rfl [0, 1, 2, 3, 4, 5, 6, 7, 8, 9, 10, 11] [] [0, 1, 2, 3, 4, 5, 6, 7, 8, 9, 10, 11] [0, 1, 2, 3] rfl rfl rfl ⟨by decide, by decide, by decide, by decide⟩ rfl (fun H locs hP hD hS => ?_)
            refine lv_aload_n hx hb dX13_write_51 rfl (lv_at hl 1 rfl) ?_
            refine lv_iload_n hx hb dX13_write_52 rfl (lv_at hl 0 rfl) ?_
            obtain ⟨r_24, hc, hf⟩ := bd1_of hf
            refine k_V (As := [.int x_16]) (rest := []) (ws1 := (kModel G q0 w_23)) ⟨hx, hb, hml, hown, hts⟩ (c_X13_catOn l D G q0 x_16 w_23 _ hc  _) (cwV 1 hts gX13_write_X13_catOn rfl rfl rfl (by decide +kernel) ⟨Nat.le_of_ble_eq_true rfl, Nat.le_of_ble_eq_true rfl⟩) hl.1 (Nat.le_of_ble_eq_true rfl) dX13_write_53 ⟨Nat.le_of_ble_eq_true rfl, Nat.le_of_ble_eq_true rfl⟩ rfl kT_bl (fun _ _ _ => trivial) hN hK hP hD hS hA 0 11 rfl rfl rfl [0, 1, 2, 3, 4, 5, 6, 7, 8, 9, 10, 11] [] [0, 1, 2, 3, 4, 5, 6, 7, 8, 9, 10, 11] [0, 1, 2, 3] rfl rfl rfl ⟨by decide, by decide, by decide, by decide⟩ rfl (fun H locs hP hD hS => ?_)
            have jnJ_25 : ∀ (jv_28 : SV) (H : Heap) (locs : List Loc) (ls : Array Slot), lv_has ls 3 [(2, .int x_16), (0, .ref (q0 0)), (1, .int a1)] → va_P D vwCl (kModel G q0 jv_28) H → va_D A (kModel G q0 jv_28) → va_S A s.heap H locs → f_X13_write_J71 x_16 selfL_18 jv_28 = some (r, v0') → W p l e rm_X13_write s m args below meth c H locs 0 0 Q0 (F0 m 71 ls []) := by
              intro jv_28 H locs ls hl hP hD hS hf
              unfold f_X13_write_J71 at hf
              refine lv_aload_n hx hb dX13_write_71 rfl (lv_at hl 1 rfl) ?_
              refine lv_iload_n hx hb dX13_write_72 rfl (lv_at hl 0 rfl) ?_
              obtain ⟨r_29, hc, hf⟩ := bd1_of hf
              refine k_V (As := [.int x_16]) (rest := []) (ws1 := (kModel G q0 jv_28)) ⟨hx, hb, hml, hown, hts⟩ (c_X13_feudsOf l D G q0 x_16 jv_28 _ hc  _) (cwV 1 hts gX13_write_X13_feudsOf rfl rfl rfl (by decide +kernel) ⟨Nat.le_of_ble_eq_true rfl, Nat.le_of_ble_eq_true rfl⟩) hl.1 (Nat.le_of_ble_eq_true rfl) dX13_write_73 ⟨Nat.le_of_ble_eq_true rfl, Nat.le_of_ble_eq_true rfl⟩ rfl kT_bl (fun _ _ _ => trivial) hN hK hP hD hS hA 0 11 rfl rfl rfl [0, 1, 2, 3, 4, 5, 6, 7, 8, 9, 10, 11] [] [0, 1, 2, 3, 4, 5, 6, 7, 8, 9, 10, 11] [0, 1, 2, 3] rfl rfl rfl ⟨by decide, by decide, by decide, by decide⟩ rfl (fun H locs hP hD hS => ?_)
              refine lv_if_le (tgt := 85) hx hb dX13_write_76 (by decide) (fun cc => ?_) (fun cc => ?_)
              · replace hf := ifT cc hf
                refine lv_iinc (v := (x_16 + 1)) (lv' := [(2, .int (x_16 + 1)), (0, .ref (q0 0)), (1, .int a1)]) hx hb dX13_write_85 hl (k := 0) rfl rfl (by decide) rfl (fun ls hl => ?_)
                refine lv_goto (tgt := 20) hx hb dX13_write_88 (by decide) ?_
                exact ihL_18 (x_16 + 1) jv_28 _ _ _ (lv_sub hl [0, 1, 2] rfl) hP hD hS hf
              · replace hf := ifF cc hf
                refine lv_aload_n hx hb dX13_write_79 rfl (lv_at hl 1 rfl) ?_
                refine lv_bipush (v := 33) hx hb dX13_write_80 (by decide +kernel) ?_
                obtain ⟨w_30, hc, hf⟩ := bd1_of hf
                refine k_V (As := [.int 33]) (rest := []) (ws1 := (kModel G q0 w_30)) ⟨hx, hb, hml, hown, hts⟩ (c_X13_writes l D G q0 33 jv_28 _ hc  _) (cwV 1 hts gX13_write_X13_writes rfl rfl rfl (by decide +kernel) ⟨Nat.le_of_ble_eq_true rfl, Nat.le_of_ble_eq_true rfl⟩) hl.1 (Nat.le_of_ble_eq_true rfl) dX13_write_82 ⟨Nat.le_of_ble_eq_true rfl, Nat.le_of_ble_eq_true rfl⟩ rfl kT_bl (fun _ _ _ => trivial) hN hK hP hD hS hA 0 11 rfl rfl rfl [0, 1, 2, 3, 4, 5, 6, 7, 8, 9, 10, 11] [] [0, 1, 2, 3, 4, 5, 6, 7, 8, 9, 10, 11] [0, 1, 2, 3] rfl rfl rfl ⟨by decide, by decide, by decide, by decide⟩ rfl (fun H locs hP hD hS => ?_)
                refine lv_iinc (v := (x_16 + 1)) (lv' := [(2, .int (x_16 + 1)), (0, .ref (q0 0)), (1, .int a1)]) hx hb dX13_write_85 hl (k := 0) rfl rfl (by decide) rfl (fun ls hl => ?_)
                refine lv_goto (tgt := 20) hx hb dX13_write_88 (by decide) ?_
                exact ihL_18 (x_16 + 1) w_30 _ _ _ (lv_sub hl [0, 1, 2] rfl) hP hD hS hf
            refine lv_if_lt (tgt := 71) hx hb dX13_write_56 (by decide) (fun cc => ?_) (fun cc => ?_)
            · replace hf := ifT cc hf
              exact jnJ_25 w_23 _ _ _ (lv_sub hl [0, 1, 2] rfl) hP hD hS hf
            · replace hf := ifF cc hf
              refine lv_aload_n hx hb dX13_write_59 rfl (lv_at hl 1 rfl) ?_
              refine lv_bipush (v := 97) hx hb dX13_write_60 (by decide +kernel) ?_
              refine lv_aload_n hx hb dX13_write_62 rfl (lv_at hl 1 rfl) ?_
              refine lv_iload_n hx hb dX13_write_63 rfl (lv_at hl 0 rfl) ?_
              obtain ⟨r_26, hc, hf⟩ := bd1_of hf
              refine k_V (As := [.int x_16]) (rest := [.int 97, .ref (q0 0)]) (ws1 := (kModel G q0 w_23)) ⟨hx, hb, hml, hown, hts⟩ (c_X13_catOn l D G q0 x_16 w_23 _ hc  _) (cwV 1 hts gX13_write_X13_catOn rfl rfl rfl (by decide +kernel) ⟨Nat.le_of_ble_eq_true rfl, Nat.le_of_ble_eq_true rfl⟩) hl.1 (Nat.le_of_ble_eq_true rfl) dX13_write_64 ⟨Nat.le_of_ble_eq_true rfl, Nat.le_of_ble_eq_true rfl⟩ rfl kT_bl (fun _ _ _ => trivial) hN hK hP hD hS hA 0 11 rfl rfl rfl [0, 1, 2, 3, 4, 5, 6, 7, 8, 9, 10, 11] [] [0, 1, 2, 3, 4, 5, 6, 7, 8, 9, 10, 11] [0, 1, 2, 3] rfl rfl rfl ⟨by decide, by decide, by decide, by decide⟩ rfl (fun H locs hP hD hS => ?_)
              refine lv_iadd hx hb dX13_write_67 ?_
              obtain ⟨w_27, hc, hf⟩ := bd1_of hf
              refine k_V (As := [.int (97 + r_26)]) (rest := []) (ws1 := (kModel G q0 w_27)) ⟨hx, hb, hml, hown, hts⟩ (c_X13_writes l D G q0 (97 + r_26) w_23 _ hc  _) (cwV 1 hts gX13_write_X13_writes rfl rfl rfl (by decide +kernel) ⟨Nat.le_of_ble_eq_true rfl, Nat.le_of_ble_eq_true rfl⟩) hl.1 (Nat.le_of_ble_eq_true rfl) dX13_write_68 ⟨Nat.le_of_ble_eq_true rfl, Nat.le_of_ble_eq_true rfl⟩ rfl kT_bl (fun _ _ _ => trivial) hN hK hP hD hS hA 0 11 rfl rfl rfl [0, 1, 2, 3, 4, 5, 6, 7, 8, 9, 10, 11] [] [0, 1, 2, 3, 4, 5, 6, 7, 8, 9, 10, 11] [0, 1, 2, 3] rfl rfl rfl ⟨by decide, by decide, by decide, by decide⟩ rfl (fun H locs hP hD hS => ?_)
              exact jnJ_25 w_27 _ _ _ (lv_sub hl [0, 1, 2] rfl) hP hD hS hf
          refine lv_if_le (tgt := 42) hx hb dX13_write_33 (by decide) (fun cc => ?_) (fun cc => ?_)
          · replace hf := ifT cc hf
            exact jnJ_19 u_17 _ _ _ (lv_sub hl [0, 1, 2] rfl) hP hD hS hf
          · replace hf := ifF cc hf
            refine lv_aload_n hx hb dX13_write_36 rfl (lv_at hl 1 rfl) ?_
            refine lv_bipush (v := 32) hx hb dX13_write_37 (by decide +kernel) ?_
            obtain ⟨w_20, hc, hf⟩ := bd1_of hf
            refine k_V (As := [.int 32]) (rest := []) (ws1 := (kModel G q0 w_20)) ⟨hx, hb, hml, hown, hts⟩ (c_X13_writes l D G q0 32 u_17 _ hc  _) (cwV 1 hts gX13_write_X13_writes rfl rfl rfl (by decide +kernel) ⟨Nat.le_of_ble_eq_true rfl, Nat.le_of_ble_eq_true rfl⟩) hl.1 (Nat.le_of_ble_eq_true rfl) dX13_write_39 ⟨Nat.le_of_ble_eq_true rfl, Nat.le_of_ble_eq_true rfl⟩ rfl kT_bl (fun _ _ _ => trivial) hN hK hP hD hS hA 0 11 rfl rfl rfl [0, 1, 2, 3, 4, 5, 6, 7, 8, 9, 10, 11] [] [0, 1, 2, 3, 4, 5, 6, 7, 8, 9, 10, 11] [0, 1, 2, 3] rfl rfl rfl ⟨by decide, by decide, by decide, by decide⟩ rfl (fun H locs hP hD hS => ?_)
            exact jnJ_19 w_20 _ _ _ (lv_sub hl [0, 1, 2] rfl) hP hD hS hf
    exact loL_18 FU (4 * a1) v_2 _ _ _ hl hP hD hS hf
  · replace hf := ifT cc hf
    refine lv_iconst (v := (-1)) hx hb dX13_write_9 (by decide) ?_
    obtain ⟨rfl, rfl⟩ := re2 hf
    exact hE hP hD hS dX13_write_10
def f_X13_writeLines_K7 (y_28 : Int32) (z_29 : SV) : Option (Int32 × SV) :=
  some ((z_29.1 9), z_29)
def f_X13_writeLines_J30 (x_14 : Int32) (selfL_16 : (Int32 → SV → Option (Int32 × SV))) (jv_19 : SV) : Option (Int32 × SV) :=
  bd1 (f_X13_linePart x_14 0 jv_19) fun r_20 =>
  bd1 (f_X13_writesNumber r_20 jv_19) fun w_21 =>
  bd1 (f_X13_writes 45 w_21) fun w_22 =>
  bd1 (f_X13_linePart x_14 1 w_22) fun r_23 =>
  bd1 (f_X13_writesNumber r_23 w_22) fun w_24 =>
  bd1 (f_X13_writes 58 w_24) fun w_25 =>
  bd1 (f_X13_linePart x_14 2 w_25) fun r_26 =>
  bd1 (f_X13_writesNumber r_26 w_25) fun w_27 =>
  selfL_16 (x_14 + 1) w_27
def f_X13_writeLines_B7 (selfL_16 : (Int32 → SV → Option (Int32 × SV))) (x_14 : Int32) (u_15 : SV) : Option (Int32 × SV) :=
  ckI 0 240 <|
  if (u_15.2 0 (0 : Int32).toNatClampNeg) ≤ x_14 then
    f_X13_writeLines_K7 x_14 u_15
  else
    if (u_15.1 9) ≤ 0 then
      f_X13_writeLines_J30 x_14 selfL_16 u_15
    else
      bd1 (f_X13_writes 32 u_15) fun w_18 =>
      f_X13_writeLines_J30 x_14 selfL_16 w_18
def f_X13_writeLines (v0 : SV) : Option (Int32 × SV) :=
  nm (pF v0 9 0) fun v_1 =>
  lz2 (f_X13_writeLines_B7) FU 0 v_1
abbrev rm_X13_writeLines : Room := { frames := 2, cells := 0, slots := 0, locals := 42 }
set_option maxHeartbeats 4000000 in
set_option maxRecDepth 100000 in
theorem c_X13_writeLines (l : Launch) (D : va_G) (G : Nat → ClassId) (q0 : Nat → Nat) (v0 : SV) (r : Int32) (v0' : SV) (hf : f_X13_writeLines v0 = some (r, v0')) (sz : Nat) : mC l yX13_writeLines wsX13_writeLines rm_X13_writeLines D (tyG G) kT [.ref (q0 0)] (kModel G q0 v0) (kModel G q0 v0') sz (some (.int r)) 0 0 := by
  refine mC_ofI (cc := cX13_writeLines) (maxL := 2) (ret := (some .int)) (by decide) rfl rfl (Nat.le_of_ble_eq_true rfl) ?_
  intro p e s m args below meth c Q0 hx hb hml hts hown hN hK A hD hA hE hP hS hJ ls hl
  have hl : lv_has ls 2 [(0, .ref (q0 0))] := hl
  unfold f_X13_writeLines at hf
  have hi11 : ∀ w ∈ u_ws RX13 TX13 27, w ∈ wsX13_writeLines := by decide +kernel
  have hw1 := hts (.fieldLink RX13 63 "BalconyCensusModel" "lineLong" "I") (by decide +kernel)
  have hw2 := hts (.fieldLink RX13 7 "BalconyCensusModel" "now" "[I") (by decide +kernel)
  refine lv_aload_n hx hb dX13_writeLines_0 rfl (lv_at hl 0 rfl) ?_
  refine lv_iconst (v := 0) hx hb dX13_writeLines_1 (by decide) ?_
  obtain ⟨v_1, ev_1, hf⟩ := nm_of hf
  refine va_put (D := D) (ci := 11) (v := .int 0) (ty := .int) (C := RX13) (T := TX13) (N := 27) hx hb hts hi11 tyX13 tyX13_ok nmX13 hown hK hP hD hS 0 rfl rfl 17 (by decide) hw1 (fun _ h9 => h9) rfl (by decide +kernel) rfl rfl (Nat.le_of_ble_eq_true rfl) dX13_writeLines_2 (fun H locs hP hD hS => ?_)
  have hP : va_P D vwCl (kModel G q0 v_1) H := by rw [ev_1]; exact hP
  have hD : va_D A (kModel G q0 v_1) := by rw [ev_1]; exact hD
  refine lv_iconst (v := 0) hx hb dX13_writeLines_5 (by decide) ?_
  refine lv_istore_n (lv' := [(1, .int 0), (0, .ref (q0 0))]) hx hb dX13_writeLines_6 rfl hl (by decide) rfl (fun ls hl => ?_)
  have exL_16 : ∀ (y_28 : Int32) (z_29 : SV) (H : Heap) (locs : List Loc) (ls : Array Slot), lv_has ls 2 [(1, .int y_28), (0, .ref (q0 0))] → va_P D vwCl (kModel G q0 z_29) H → va_D A (kModel G q0 z_29) → va_S A s.heap H locs → f_X13_writeLines_K7 y_28 z_29 = some (r, v0') → W p l e rm_X13_writeLines s m args below meth c H locs 0 0 Q0 (F0 m 78 ls []) := by
    intro y_28 z_29 H locs ls hl hP hD hS hf
    unfold f_X13_writeLines_K7 at hf
    refine lv_aload_n hx hb dX13_writeLines_78 rfl (lv_at hl 1 rfl) ?_
    refine va_get (D := D) (ci := 11) (v := .int (z_29.1 9)) (C := RX13) (T := TX13) (N := 27) hx hb hts hi11 hown hK hP 0 rfl rfl 17 (by decide) hw1 (fun _ h9 => h9) rfl dX13_writeLines_79 ?_
    obtain ⟨rfl, rfl⟩ := re2 hf
    exact hE hP hD hS dX13_writeLines_82
  have loL_16 : ∀ (n : Nat) (x_14 : Int32) (u_15 : SV) (H : Heap) (locs : List Loc) (ls : Array Slot), lv_has ls 2 [(1, .int x_14), (0, .ref (q0 0))] → va_P D vwCl (kModel G q0 u_15) H → va_D A (kModel G q0 u_15) → va_S A s.heap H locs → lz2 (f_X13_writeLines_B7) n x_14 u_15 = some (r, v0') → W p l e rm_X13_writeLines s m args below meth c H locs 0 0 Q0 (F0 m 7 ls []) := by
    intro n
    induction n with
    | zero => intro x_14 u_15 H locs ls hl hP hD hS hf; cases hf
    | succ n ihL_16 =>
      intro x_14 u_15 H locs ls hl hP hD hS hf
      replace hf := lz2_s hf
      generalize lz2 (f_X13_writeLines_B7) n = selfL_16 at hf ihL_16
      unfold f_X13_writeLines_B7 at hf
      refine lv_iload_n hx hb dX13_writeLines_7 rfl (lv_at hl 0 rfl) ?_
      refine lv_aload_n hx hb dX13_writeLines_8 rfl (lv_at hl 1 rfl) ?_
      refine va_get (D := D) (ci := 11) (v := .ref (q0 1)) (C := RX13) (T := TX13) (N := 27) hx hb hts hi11 hown hK hP 0 rfl rfl 0 (by decide) hw2 (fun _ h9 => h9) rfl dX13_writeLines_9 ?_
      refine lv_iconst (v := 0) hx hb dX13_writeLines_12 (by decide) ?_
      obtain ⟨hin, hf⟩ := ckI_of hf
      refine va_iald (D := D) hx hb hK hP 1 0 rfl rfl hin dX13_writeLines_13 ?_
      refine lv_icmp_ge (tgt := 78) hx hb dX13_writeLines_14 (by decide) (fun cc => ?_) (fun cc => ?_)
      · replace hf := ifT cc hf
        exact exL_16 x_14 u_15 _ _ _ (lv_sub hl [0, 1] rfl) hP hD hS hf
      · replace hf := ifF cc hf
        refine lv_aload_n hx hb dX13_writeLines_17 rfl (lv_at hl 1 rfl) ?_
        refine va_get (D := D) (ci := 11) (v := .int (u_15.1 9)) (C := RX13) (T := TX13) (N := 27) hx hb hts hi11 hown hK hP 0 rfl rfl 17 (by decide) hw1 (fun _ h9 => h9) rfl dX13_writeLines_18 ?_
        have jnJ_17 : ∀ (jv_19 : SV) (H : Heap) (locs : List Loc) (ls : Array Slot), lv_has ls 2 [(1, .int x_14), (0, .ref (q0 0))] → va_P D vwCl (kModel G q0 jv_19) H → va_D A (kModel G q0 jv_19) → va_S A s.heap H locs → f_X13_writeLines_J30 x_14 selfL_16 jv_19 = some (r, v0') → W p l e rm_X13_writeLines s m args below meth c H locs 0 0 Q0 (F0 m 30 ls []) := by
          intro jv_19 H locs ls hl hP hD hS hf
          unfold f_X13_writeLines_J30 at hf
          refine lv_aload_n hx hb dX13_writeLines_30 rfl (lv_at hl 1 rfl) ?_
          refine lv_aload_n hx hb dX13_writeLines_31 rfl (lv_at hl 1 rfl) ?_
          refine lv_iload_n hx hb dX13_writeLines_32 rfl (lv_at hl 0 rfl) ?_
          refine lv_iconst (v := 0) hx hb dX13_writeLines_33 (by decide) ?_
          obtain ⟨r_20, hc, hf⟩ := bd1_of hf
          refine k_V (As := [.int x_14, .int 0]) (rest := [.ref (q0 0)]) (ws1 := (kModel G q0 jv_19)) ⟨hx, hb, hml, hown, hts⟩ (c_X13_linePart l D G q0 x_14 0 jv_19 _ hc  _) (cwV 2 hts gX13_writeLines_X13_linePart rfl rfl rfl (by decide +kernel) ⟨Nat.le_of_ble_eq_true rfl, Nat.le_of_ble_eq_true rfl⟩) hl.1 (Nat.le_of_ble_eq_true rfl) dX13_writeLines_34 ⟨Nat.le_of_ble_eq_true rfl, Nat.le_of_ble_eq_true rfl⟩ rfl kT_bl (fun _ _ _ => trivial) hN hK hP hD hS hA 0 11 rfl rfl rfl [0, 1, 2, 3, 4, 5, 6, 7, 8, 9, 10, 11] [] [0, 1, 2, 3, 4, 5, 6, 7, 8, 9, 10, 11] [0, 1, 2, 3] rfl rfl rfl ⟨by decide, by decide, by decide, by decide⟩ rfl (fun H locs hP hD hS => ?_)
          obtain ⟨w_21, hc, hf⟩ := bd1_of hf
          refine k_V (As := [.int r_20]) (rest := []) (ws1 := (kModel G q0 w_21)) ⟨hx, hb, hml, hown, hts⟩ (c_X13_writesNumber l D G q0 r_20 jv_19 _ hc  _) (cwV 1 hts gX13_writeLines_X13_writesNumber rfl rfl rfl (by decide +kernel) ⟨Nat.le_of_ble_eq_true rfl, Nat.le_of_ble_eq_true rfl⟩) hl.1 (Nat.le_of_ble_eq_true rfl) dX13_writeLines_37 ⟨Nat.le_of_ble_eq_true rfl, Nat.le_of_ble_eq_true rfl⟩ rfl kT_bl (fun _ _ _ => trivial) hN hK hP hD hS hA 0 11 rfl rfl rfl [0, 1, 2, 3, 4, 5, 6, 7, 8, 9, 10, 11] [] [0, 1, 2, 3, 4, 5, 6, 7, 8, 9, 10, 11] [0, 1, 2, 3] rfl rfl rfl ⟨by decide, by decide, by decide, by decide⟩ rfl (fun H locs hP hD hS => ?_)
          refine lv_aload_n hx hb dX13_writeLines_40 rfl (lv_at hl 1 rfl) ?_
          refine lv_bipush (v := 45) hx hb dX13_writeLines_41 (by decide +kernel) ?_
          obtain ⟨w_22, hc, hf⟩ := bd1_of hf
          refine k_V (As := [.int 45]) (rest := []) (ws1 := (kModel G q0 w_22)) ⟨hx, hb, hml, hown, hts⟩ (c_X13_writes l D G q0 45 w_21 _ hc  _) (cwV 1 hts gX13_writeLines_X13_writes rfl rfl rfl (by decide +kernel) ⟨Nat.le_of_ble_eq_true rfl, Nat.le_of_ble_eq_true rfl⟩) hl.1 (Nat.le_of_ble_eq_true rfl) dX13_writeLines_43 ⟨Nat.le_of_ble_eq_true rfl, Nat.le_of_ble_eq_true rfl⟩ rfl kT_bl (fun _ _ _ => trivial) hN hK hP hD hS hA 0 11 rfl rfl rfl [0, 1, 2, 3, 4, 5, 6, 7, 8, 9, 10, 11] [] [0, 1, 2, 3, 4, 5, 6, 7, 8, 9, 10, 11] [0, 1, 2, 3] rfl rfl rfl ⟨by decide, by decide, by decide, by decide⟩ rfl (fun H locs hP hD hS => ?_)
          refine lv_aload_n hx hb dX13_writeLines_46 rfl (lv_at hl 1 rfl) ?_
          refine lv_aload_n hx hb dX13_writeLines_47 rfl (lv_at hl 1 rfl) ?_
          refine lv_iload_n hx hb dX13_writeLines_48 rfl (lv_at hl 0 rfl) ?_
          refine lv_iconst (v := 1) hx hb dX13_writeLines_49 (by decide) ?_
          obtain ⟨r_23, hc, hf⟩ := bd1_of hf
          refine k_V (As := [.int x_14, .int 1]) (rest := [.ref (q0 0)]) (ws1 := (kModel G q0 w_22)) ⟨hx, hb, hml, hown, hts⟩ (c_X13_linePart l D G q0 x_14 1 w_22 _ hc  _) (cwV 2 hts gX13_writeLines_X13_linePart rfl rfl rfl (by decide +kernel) ⟨Nat.le_of_ble_eq_true rfl, Nat.le_of_ble_eq_true rfl⟩) hl.1 (Nat.le_of_ble_eq_true rfl) dX13_writeLines_50 ⟨Nat.le_of_ble_eq_true rfl, Nat.le_of_ble_eq_true rfl⟩ rfl kT_bl (fun _ _ _ => trivial) hN hK hP hD hS hA 0 11 rfl rfl rfl [0, 1, 2, 3, 4, 5, 6, 7, 8, 9, 10, 11] [] [0, 1, 2, 3, 4, 5, 6, 7, 8, 9, 10, 11] [0, 1, 2, 3] rfl rfl rfl ⟨by decide, by decide, by decide, by decide⟩ rfl (fun H locs hP hD hS => ?_)
          obtain ⟨w_24, hc, hf⟩ := bd1_of hf
          refine k_V (As := [.int r_23]) (rest := []) (ws1 := (kModel G q0 w_24)) ⟨hx, hb, hml, hown, hts⟩ (c_X13_writesNumber l D G q0 r_23 w_22 _ hc  _) (cwV 1 hts gX13_writeLines_X13_writesNumber rfl rfl rfl (by decide +kernel) ⟨Nat.le_of_ble_eq_true rfl, Nat.le_of_ble_eq_true rfl⟩) hl.1 (Nat.le_of_ble_eq_true rfl) dX13_writeLines_53 ⟨Nat.le_of_ble_eq_true rfl, Nat.le_of_ble_eq_true rfl⟩ rfl kT_bl (fun _ _ _ => trivial) hN hK hP hD hS hA 0 11 rfl rfl rfl [0, 1, 2, 3, 4, 5, 6, 7, 8, 9, 10, 11] [] [0, 1, 2, 3, 4, 5, 6, 7, 8, 9, 10, 11] [0, 1, 2, 3] rfl rfl rfl ⟨by decide, by decide, by decide, by decide⟩ rfl (fun H locs hP hD hS => ?_)
          refine lv_aload_n hx hb dX13_writeLines_56 rfl (lv_at hl 1 rfl) ?_
          refine lv_bipush (v := 58) hx hb dX13_writeLines_57 (by decide +kernel) ?_
          obtain ⟨w_25, hc, hf⟩ := bd1_of hf
          refine k_V (As := [.int 58]) (rest := []) (ws1 := (kModel G q0 w_25)) ⟨hx, hb, hml, hown, hts⟩ (c_X13_writes l D G q0 58 w_24 _ hc  _) (cwV 1 hts gX13_writeLines_X13_writes rfl rfl rfl (by decide +kernel) ⟨Nat.le_of_ble_eq_true rfl, Nat.le_of_ble_eq_true rfl⟩) hl.1 (Nat.le_of_ble_eq_true rfl) dX13_writeLines_59 ⟨Nat.le_of_ble_eq_true rfl, Nat.le_of_ble_eq_true rfl⟩ rfl kT_bl (fun _ _ _ => trivial) hN hK hP hD hS hA 0 11 rfl rfl rfl [0, 1, 2, 3, 4, 5, 6, 7, 8, 9, 10, 11] [] [0, 1, 2, 3, 4, 5, 6, 7, 8, 9, 10, 11] [0, 1, 2, 3] rfl rfl rfl ⟨by decide, by decide, by decide, by decide⟩ rfl (fun H locs hP hD hS => ?_)
          refine lv_aload_n hx hb dX13_writeLines_62 rfl (lv_at hl 1 rfl) ?_
          refine lv_aload_n hx hb dX13_writeLines_63 rfl (lv_at hl 1 rfl) ?_
          refine lv_iload_n hx hb dX13_writeLines_64 rfl (lv_at hl 0 rfl) ?_
          refine lv_iconst (v := 2) hx hb dX13_writeLines_65 (by decide) ?_
          obtain ⟨r_26, hc, hf⟩ := bd1_of hf
          refine k_V (As := [.int x_14, .int 2]) (rest := [.ref (q0 0)]) (ws1 := (kModel G q0 w_25)) ⟨hx, hb, hml, hown, hts⟩ (c_X13_linePart l D G q0 x_14 2 w_25 _ hc  _) (cwV 2 hts gX13_writeLines_X13_linePart rfl rfl rfl (by decide +kernel) ⟨Nat.le_of_ble_eq_true rfl, Nat.le_of_ble_eq_true rfl⟩) hl.1 (Nat.le_of_ble_eq_true rfl) dX13_writeLines_66 ⟨Nat.le_of_ble_eq_true rfl, Nat.le_of_ble_eq_true rfl⟩ rfl kT_bl (fun _ _ _ => trivial) hN hK hP hD hS hA 0 11 rfl rfl rfl [0, 1, 2, 3, 4, 5, 6, 7, 8, 9, 10, 11] [] [0, 1, 2, 3, 4, 5, 6, 7, 8, 9, 10, 11] [0, 1, 2, 3] rfl rfl rfl ⟨by decide, by decide, by decide, by decide⟩ rfl (fun H locs hP hD hS => ?_)
          obtain ⟨w_27, hc, hf⟩ := bd1_of hf
          refine k_V (As := [.int r_26]) (rest := []) (ws1 := (kModel G q0 w_27)) ⟨hx, hb, hml, hown, hts⟩ (c_X13_writesNumber l D G q0 r_26 w_25 _ hc  _) (cwV 1 hts gX13_writeLines_X13_writesNumber rfl rfl rfl (by decide +kernel) ⟨Nat.le_of_ble_eq_true rfl, Nat.le_of_ble_eq_true rfl⟩) hl.1 (Nat.le_of_ble_eq_true rfl) dX13_writeLines_69 ⟨Nat.le_of_ble_eq_true rfl, Nat.le_of_ble_eq_true rfl⟩ rfl kT_bl (fun _ _ _ => trivial) hN hK hP hD hS hA 0 11 rfl rfl rfl [0, 1, 2, 3, 4, 5, 6, 7, 8, 9, 10, 11] [] [0, 1, 2, 3, 4, 5, 6, 7, 8, 9, 10, 11] [0, 1, 2, 3] rfl rfl rfl ⟨by decide, by decide, by decide, by decide⟩ rfl (fun H locs hP hD hS => ?_)
          refine lv_iinc (v := (x_14 + 1)) (lv' := [(1, .int (x_14 + 1)), (0, .ref (q0 0))]) hx hb dX13_writeLines_72 hl (k := 0) rfl rfl (by decide) rfl (fun ls hl => ?_)
          refine lv_goto (tgt := 7) hx hb dX13_writeLines_75 (by decide) ?_
          exact ihL_16 (x_14 + 1) w_27 _ _ _ (lv_sub hl [0, 1] rfl) hP hD hS hf
        refine lv_if_le (tgt := 30) hx hb dX13_writeLines_21 (by decide) (fun cc => ?_) (fun cc => ?_)
        · replace hf := ifT cc hf
          exact jnJ_17 u_15 _ _ _ (lv_sub hl [0, 1] rfl) hP hD hS hf
        · replace hf := ifF cc hf
          refine lv_aload_n hx hb dX13_writeLines_24 rfl (lv_at hl 1 rfl) ?_
          refine lv_bipush (v := 32) hx hb dX13_writeLines_25 (by decide +kernel) ?_
          obtain ⟨w_18, hc, hf⟩ := bd1_of hf
          refine k_V (As := [.int 32]) (rest := []) (ws1 := (kModel G q0 w_18)) ⟨hx, hb, hml, hown, hts⟩ (c_X13_writes l D G q0 32 u_15 _ hc  _) (cwV 1 hts gX13_writeLines_X13_writes rfl rfl rfl (by decide +kernel) ⟨Nat.le_of_ble_eq_true rfl, Nat.le_of_ble_eq_true rfl⟩) hl.1 (Nat.le_of_ble_eq_true rfl) dX13_writeLines_27 ⟨Nat.le_of_ble_eq_true rfl, Nat.le_of_ble_eq_true rfl⟩ rfl kT_bl (fun _ _ _ => trivial) hN hK hP hD hS hA 0 11 rfl rfl rfl [0, 1, 2, 3, 4, 5, 6, 7, 8, 9, 10, 11] [] [0, 1, 2, 3, 4, 5, 6, 7, 8, 9, 10, 11] [0, 1, 2, 3] rfl rfl rfl ⟨by decide, by decide, by decide, by decide⟩ rfl (fun H locs hP hD hS => ?_)
          exact jnJ_17 w_18 _ _ _ (lv_sub hl [0, 1] rfl) hP hD hS hf
  exact loL_16 FU 0 v_1 _ _ _ hl hP hD hS hf
def f_X13_written (a1 : Int32) (v0 : SV) : Option Int32 :=
  bd1 (f_X13_in a1 0 ((v0.1 9) - 1)) fun r_1 =>
  if r_1 = 0 then
    some (-1)
  else
    ckI a1 80 <|
    some (v0.2 7 a1.toNatClampNeg)
abbrev rm_X13_written : Room := { frames := 1, cells := 0, slots := 0, locals := 22 }
set_option maxHeartbeats 4000000 in
set_option maxRecDepth 100000 in
theorem c_X13_written (l : Launch) (D : va_G) (G : Nat → ClassId) (q0 : Nat → Nat) (a1 : Int32) (v0 : SV) (r : Int32) (hf : f_X13_written a1 v0 = some r) (sz : Nat) : mC l yX13_written wsX13_written rm_X13_written D (tyG G) kT [.ref (q0 0), .int a1] (kModel G q0 v0) (kModel G q0 v0) sz (some (.int r)) 0 0 := by
  refine mC_ofI (cc := cX13_written) (maxL := 2) (ret := (some .int)) (by decide) rfl rfl (Nat.le_of_ble_eq_true rfl) ?_
  intro p e s m args below meth c Q0 hx hb hml hts hown hN hK A hD hA hE hP hS hJ ls hl
  have hl : lv_has ls 2 [(0, .ref (q0 0)), (1, .int a1)] := hl
  unfold f_X13_written at hf
  have hi11 : ∀ w ∈ u_ws RX13 TX13 27, w ∈ wsX13_written := by decide +kernel
  have hw1 := hts (.fieldLink RX13 63 "BalconyCensusModel" "lineLong" "I") (by decide +kernel)
  have hw2 := hts (.fieldLink RX13 60 "BalconyCensusModel" "line" "[I") (by decide +kernel)
  refine lv_iload_n hx hb dX13_written_0 rfl (lv_at hl 1 rfl) ?_
  refine lv_iconst (v := 0) hx hb dX13_written_1 (by decide) ?_
  refine lv_aload_n hx hb dX13_written_2 rfl (lv_at hl 0 rfl) ?_
  refine va_get (D := D) (ci := 11) (v := .int (v0.1 9)) (C := RX13) (T := TX13) (N := 27) hx hb hts hi11 hown hK hP 0 rfl rfl 17 (by decide) hw1 (fun _ h9 => h9) rfl dX13_written_3 ?_
  refine lv_iconst (v := 1) hx hb dX13_written_6 (by decide) ?_
  refine lv_isub hx hb dX13_written_7 ?_
  obtain ⟨r_1, hc, hf⟩ := bd1_of hf
  refine k_S (As := [.int a1, .int 0, .int ((v0.1 9) - 1)]) (rest := []) (ws1 := (kModel G q0 v0)) ⟨hx, hb, hml, hown, hts⟩ (c_X13_in l D G  a1 0 ((v0.1 9) - 1)  _ hc  _) (va_cwS 3 hts gX13_written_X13_in rfl rfl rfl (by decide +kernel) ⟨Nat.le_of_ble_eq_true rfl, Nat.le_of_ble_eq_true rfl⟩) hl.1 (Nat.le_of_ble_eq_true rfl) dX13_written_8 ⟨Nat.le_of_ble_eq_true rfl, Nat.le_of_ble_eq_true rfl⟩ rfl kT_bl (fun _ _ _ => trivial) hN hK hP hD hS hA [] [0, 1, 2, 3, 4, 5, 6, 7, 8, 9, 10, 11] [0, 1, 2, 3, 4, 5, 6, 7, 8, 9, 10, 11] [0, 1, 2, 3] rfl rfl rfl ⟨by decide, by decide, by decide, by decide⟩ rfl (fun H locs hP hD hS => ?_)
  refine lv_if_eq (tgt := 23) hx hb dX13_written_11 (by decide) (fun cc => ?_) (fun cc => ?_)
  · replace hf := ifT cc hf
    refine lv_iconst (v := (-1)) hx hb dX13_written_23 (by decide) ?_
    obtain rfl := re1 hf
    exact hE hP hD hS dX13_written_24
  · replace hf := ifF cc hf
    refine lv_aload_n hx hb dX13_written_14 rfl (lv_at hl 0 rfl) ?_
    refine va_get (D := D) (ci := 11) (v := .ref (q0 8)) (C := RX13) (T := TX13) (N := 27) hx hb hts hi11 hown hK hP 0 rfl rfl 16 (by decide) hw2 (fun _ h9 => h9) rfl dX13_written_15 ?_
    refine lv_iload_n hx hb dX13_written_18 rfl (lv_at hl 1 rfl) ?_
    obtain ⟨hin, hf⟩ := ckI_of hf
    refine va_iald (D := D) hx hb hK hP 8 0 rfl rfl hin dX13_written_19 ?_
    refine lv_goto (tgt := 24) hx hb dX13_written_20 (by decide) ?_
    obtain rfl := re1 hf
    exact hE hP hD hS dX13_written_24
def f_X13_isWell (v0 : SV) : Option Int32 :=
  some 1
abbrev rm_X13_isWell : Room := { frames := 0, cells := 0, slots := 0, locals := 0 }
set_option maxHeartbeats 4000000 in
set_option maxRecDepth 100000 in
theorem c_X13_isWell (l : Launch) (D : va_G) (G : Nat → ClassId) (q0 : Nat → Nat) (v0 : SV) (r : Int32) (hf : f_X13_isWell v0 = some r) (sz : Nat) : mC l yX13_isWell wsX13_isWell rm_X13_isWell D (tyG G) kT [.ref (q0 0)] (kModel G q0 v0) (kModel G q0 v0) sz (some (.int r)) 0 0 := by
  refine mC_ofI (cc := cX13_isWell) (maxL := 1) (ret := (some .int)) (by decide) rfl rfl (Nat.le_of_ble_eq_true rfl) ?_
  intro p e s m args below meth c Q0 hx hb hml hts hown hN hK A hD hA hE hP hS hJ ls hl
  have hl : lv_has ls 1 [(0, .ref (q0 0))] := hl
  unfold f_X13_isWell at hf
  refine lv_iconst (v := 1) hx hb dX13_isWell_0 (by decide) ?_
  obtain rfl := re1 hf
  exact hE hP hD hS dX13_isWell_1
def f_X13_account (a1 : Int32) (v0 : SV) : Option Int32 :=
  if a1 = 0 then
    bd1 (f_X13_allPlants v0) fun r_1 =>
    some r_1
  else
  if a1 = 1 then
    bd1 (f_X13_allFeuds v0) fun r_2 =>
    some r_2
  else
  if a1 = 2 then
    ckI 0 240 <|
    some (v0.2 0 (0 : Int32).toNatClampNeg)
  else
  if a1 = 3 then
    ckI 1 240 <|
    some (v0.2 0 (1 : Int32).toNatClampNeg)
  else
  if a1 = 4 then
    bd1 (f_X13_atHome v0) fun r_3 =>
    some r_3
  else
  if a1 = 5 then
    ckI 2 240 <|
    some (v0.2 0 (2 : Int32).toNatClampNeg)
  else
  if a1 = 6 then
    bd1 (f_X13_allGreetings v0) fun r_4 =>
    some r_4
  else
  if a1 = 7 then
    ckI 3 240 <|
    some (v0.2 0 (3 : Int32).toNatClampNeg)
  else
  if a1 = 8 then
    ckI 4 240 <|
    some (v0.2 0 (4 : Int32).toNatClampNeg)
  else
  if a1 = 9 then
    ckI 5 240 <|
    some (v0.2 0 (5 : Int32).toNatClampNeg)
  else
  if a1 = 10 then
    ckI 6 240 <|
    some (v0.2 0 (6 : Int32).toNatClampNeg)
  else
  if a1 = 11 then
    ckI 7 240 <|
    some (v0.2 0 (7 : Int32).toNatClampNeg)
  else
  if a1 = 12 then
    some (v0.1 10)
  else
  if a1 = 13 then
    some (v0.1 0)
  else
  some (-2)
abbrev rm_X13_account : Room := { frames := 6, cells := 0, slots := 0, locals := 134 }
set_option maxHeartbeats 4000000 in
set_option maxRecDepth 100000 in
theorem c_X13_account (l : Launch) (D : va_G) (G : Nat → ClassId) (q0 : Nat → Nat) (a1 : Int32) (v0 : SV) (r : Int32) (hf : f_X13_account a1 v0 = some r) (sz : Nat) : mC l yX13_account wsX13_account rm_X13_account D (tyG G) kT [.ref (q0 0), .int a1] (kModel G q0 v0) (kModel G q0 v0) sz (some (.int r)) 0 0 := by
  refine mC_ofI (cc := cX13_account) (maxL := 2) (ret := (some .int)) (by decide) rfl rfl (Nat.le_of_ble_eq_true rfl) ?_
  intro p e s m args below meth c Q0 hx hb hml hts hown hN hK A hD hA hE hP hS hJ ls hl
  have hl : lv_has ls 2 [(0, .ref (q0 0)), (1, .int a1)] := hl
  unfold f_X13_account at hf
  have hi11 : ∀ w ∈ u_ws RX13 TX13 27, w ∈ wsX13_account := by decide +kernel
  have hw1 := hts (.fieldLink RX13 7 "BalconyCensusModel" "now" "[I") (by decide +kernel)
  have hw2 := hts (.fieldLink RX13 75 "BalconyCensusModel" "fed" "I") (by decide +kernel)
  have hw3 := hts (.fieldLink RX13 25 "BalconyCensusModel" "changed" "I") (by decide +kernel)
  refine lv_iload_n hx hb dX13_account_0 rfl (lv_at hl 1 rfl) ?_
  by_cases c0 : a1 = 0
  · replace hf := ifT c0 hf
    refine lv_tableIn (off := 71) (tgt := 72) hx hb dX13_account_1 (by rw [c0]; decide) (by rw [c0]; decide) (by rw [c0]; rfl) (by decide) ?_
    refine lv_aload_n hx hb dX13_account_72 rfl (lv_at hl 0 rfl) ?_
    obtain ⟨r_1, hc, hf⟩ := bd1_of hf
    refine k_V (As := []) (rest := []) (ws1 := (kModel G q0 v0)) ⟨hx, hb, hml, hown, hts⟩ (c_X13_allPlants l D G q0  v0 _ hc  _) (cwV 0 hts gX13_account_X13_allPlants rfl rfl rfl (by decide +kernel) ⟨Nat.le_of_ble_eq_true rfl, Nat.le_of_ble_eq_true rfl⟩) hl.1 (Nat.le_of_ble_eq_true rfl) dX13_account_73 ⟨Nat.le_of_ble_eq_true rfl, Nat.le_of_ble_eq_true rfl⟩ rfl kT_bl (fun _ _ _ => trivial) hN hK hP hD hS hA 0 11 rfl rfl rfl [0, 1, 2, 3, 4, 5, 6, 7, 8, 9, 10, 11] [] [0, 1, 2, 3, 4, 5, 6, 7, 8, 9, 10, 11] [0, 1, 2, 3] rfl rfl rfl ⟨by decide, by decide, by decide, by decide⟩ rfl (fun H locs hP hD hS => ?_)
    obtain rfl := re1 hf
    exact hE hP hD hS dX13_account_76
  replace hf := ifF c0 hf
  by_cases c1 : a1 = 1
  · replace hf := ifT c1 hf
    refine lv_tableIn (off := 76) (tgt := 77) hx hb dX13_account_1 (by rw [c1]; decide) (by rw [c1]; decide) (by rw [c1]; rfl) (by decide) ?_
    refine lv_aload_n hx hb dX13_account_77 rfl (lv_at hl 0 rfl) ?_
    obtain ⟨r_2, hc, hf⟩ := bd1_of hf
    refine k_V (As := []) (rest := []) (ws1 := (kModel G q0 v0)) ⟨hx, hb, hml, hown, hts⟩ (c_X13_allFeuds l D G q0  v0 _ hc  _) (cwV 0 hts gX13_account_X13_allFeuds rfl rfl rfl (by decide +kernel) ⟨Nat.le_of_ble_eq_true rfl, Nat.le_of_ble_eq_true rfl⟩) hl.1 (Nat.le_of_ble_eq_true rfl) dX13_account_78 ⟨Nat.le_of_ble_eq_true rfl, Nat.le_of_ble_eq_true rfl⟩ rfl kT_bl (fun _ _ _ => trivial) hN hK hP hD hS hA 0 11 rfl rfl rfl [0, 1, 2, 3, 4, 5, 6, 7, 8, 9, 10, 11] [] [0, 1, 2, 3, 4, 5, 6, 7, 8, 9, 10, 11] [0, 1, 2, 3] rfl rfl rfl ⟨by decide, by decide, by decide, by decide⟩ rfl (fun H locs hP hD hS => ?_)
    obtain rfl := re1 hf
    exact hE hP hD hS dX13_account_81
  replace hf := ifF c1 hf
  by_cases c2 : a1 = 2
  · replace hf := ifT c2 hf
    refine lv_tableIn (off := 81) (tgt := 82) hx hb dX13_account_1 (by rw [c2]; decide) (by rw [c2]; decide) (by rw [c2]; rfl) (by decide) ?_
    refine lv_aload_n hx hb dX13_account_82 rfl (lv_at hl 0 rfl) ?_
    refine va_get (D := D) (ci := 11) (v := .ref (q0 1)) (C := RX13) (T := TX13) (N := 27) hx hb hts hi11 hown hK hP 0 rfl rfl 0 (by decide) hw1 (fun _ h9 => h9) rfl dX13_account_83 ?_
    refine lv_iconst (v := 0) hx hb dX13_account_86 (by decide) ?_
    obtain ⟨hin, hf⟩ := ckI_of hf
    refine va_iald (D := D) hx hb hK hP 1 0 rfl rfl hin dX13_account_87 ?_
    obtain rfl := re1 hf
    exact hE hP hD hS dX13_account_88
  replace hf := ifF c2 hf
  by_cases c3 : a1 = 3
  · replace hf := ifT c3 hf
    refine lv_tableIn (off := 88) (tgt := 89) hx hb dX13_account_1 (by rw [c3]; decide) (by rw [c3]; decide) (by rw [c3]; rfl) (by decide) ?_
    refine lv_aload_n hx hb dX13_account_89 rfl (lv_at hl 0 rfl) ?_
    refine va_get (D := D) (ci := 11) (v := .ref (q0 1)) (C := RX13) (T := TX13) (N := 27) hx hb hts hi11 hown hK hP 0 rfl rfl 0 (by decide) hw1 (fun _ h9 => h9) rfl dX13_account_90 ?_
    refine lv_iconst (v := 1) hx hb dX13_account_93 (by decide) ?_
    obtain ⟨hin, hf⟩ := ckI_of hf
    refine va_iald (D := D) hx hb hK hP 1 0 rfl rfl hin dX13_account_94 ?_
    obtain rfl := re1 hf
    exact hE hP hD hS dX13_account_95
  replace hf := ifF c3 hf
  by_cases c4 : a1 = 4
  · replace hf := ifT c4 hf
    refine lv_tableIn (off := 95) (tgt := 96) hx hb dX13_account_1 (by rw [c4]; decide) (by rw [c4]; decide) (by rw [c4]; rfl) (by decide) ?_
    refine lv_aload_n hx hb dX13_account_96 rfl (lv_at hl 0 rfl) ?_
    obtain ⟨r_3, hc, hf⟩ := bd1_of hf
    refine k_V (As := []) (rest := []) (ws1 := (kModel G q0 v0)) ⟨hx, hb, hml, hown, hts⟩ (c_X13_atHome l D G q0  v0 _ hc  _) (cwV 0 hts gX13_account_X13_atHome rfl rfl rfl (by decide +kernel) ⟨Nat.le_of_ble_eq_true rfl, Nat.le_of_ble_eq_true rfl⟩) hl.1 (Nat.le_of_ble_eq_true rfl) dX13_account_97 ⟨Nat.le_of_ble_eq_true rfl, Nat.le_of_ble_eq_true rfl⟩ rfl kT_bl (fun _ _ _ => trivial) hN hK hP hD hS hA 0 11 rfl rfl rfl [0, 1, 2, 3, 4, 5, 6, 7, 8, 9, 10, 11] [] [0, 1, 2, 3, 4, 5, 6, 7, 8, 9, 10, 11] [0, 1, 2, 3] rfl rfl rfl ⟨by decide, by decide, by decide, by decide⟩ rfl (fun H locs hP hD hS => ?_)
    obtain rfl := re1 hf
    exact hE hP hD hS dX13_account_100
  replace hf := ifF c4 hf
  by_cases c5 : a1 = 5
  · replace hf := ifT c5 hf
    refine lv_tableIn (off := 100) (tgt := 101) hx hb dX13_account_1 (by rw [c5]; decide) (by rw [c5]; decide) (by rw [c5]; rfl) (by decide) ?_
    refine lv_aload_n hx hb dX13_account_101 rfl (lv_at hl 0 rfl) ?_
    refine va_get (D := D) (ci := 11) (v := .ref (q0 1)) (C := RX13) (T := TX13) (N := 27) hx hb hts hi11 hown hK hP 0 rfl rfl 0 (by decide) hw1 (fun _ h9 => h9) rfl dX13_account_102 ?_
    refine lv_iconst (v := 2) hx hb dX13_account_105 (by decide) ?_
    obtain ⟨hin, hf⟩ := ckI_of hf
    refine va_iald (D := D) hx hb hK hP 1 0 rfl rfl hin dX13_account_106 ?_
    obtain rfl := re1 hf
    exact hE hP hD hS dX13_account_107
  replace hf := ifF c5 hf
  by_cases c6 : a1 = 6
  · replace hf := ifT c6 hf
    refine lv_tableIn (off := 107) (tgt := 108) hx hb dX13_account_1 (by rw [c6]; decide) (by rw [c6]; decide) (by rw [c6]; rfl) (by decide) ?_
    refine lv_aload_n hx hb dX13_account_108 rfl (lv_at hl 0 rfl) ?_
    obtain ⟨r_4, hc, hf⟩ := bd1_of hf
    refine k_V (As := []) (rest := []) (ws1 := (kModel G q0 v0)) ⟨hx, hb, hml, hown, hts⟩ (c_X13_allGreetings l D G q0  v0 _ hc  _) (cwV 0 hts gX13_account_X13_allGreetings rfl rfl rfl (by decide +kernel) ⟨Nat.le_of_ble_eq_true rfl, Nat.le_of_ble_eq_true rfl⟩) hl.1 (Nat.le_of_ble_eq_true rfl) dX13_account_109 ⟨Nat.le_of_ble_eq_true rfl, Nat.le_of_ble_eq_true rfl⟩ rfl kT_bl (fun _ _ _ => trivial) hN hK hP hD hS hA 0 11 rfl rfl rfl [0, 1, 2, 3, 4, 5, 6, 7, 8, 9, 10, 11] [] [0, 1, 2, 3, 4, 5, 6, 7, 8, 9, 10, 11] [0, 1, 2, 3] rfl rfl rfl ⟨by decide, by decide, by decide, by decide⟩ rfl (fun H locs hP hD hS => ?_)
    obtain rfl := re1 hf
    exact hE hP hD hS dX13_account_112
  replace hf := ifF c6 hf
  by_cases c7 : a1 = 7
  · replace hf := ifT c7 hf
    refine lv_tableIn (off := 112) (tgt := 113) hx hb dX13_account_1 (by rw [c7]; decide) (by rw [c7]; decide) (by rw [c7]; rfl) (by decide) ?_
    refine lv_aload_n hx hb dX13_account_113 rfl (lv_at hl 0 rfl) ?_
    refine va_get (D := D) (ci := 11) (v := .ref (q0 1)) (C := RX13) (T := TX13) (N := 27) hx hb hts hi11 hown hK hP 0 rfl rfl 0 (by decide) hw1 (fun _ h9 => h9) rfl dX13_account_114 ?_
    refine lv_iconst (v := 3) hx hb dX13_account_117 (by decide) ?_
    obtain ⟨hin, hf⟩ := ckI_of hf
    refine va_iald (D := D) hx hb hK hP 1 0 rfl rfl hin dX13_account_118 ?_
    obtain rfl := re1 hf
    exact hE hP hD hS dX13_account_119
  replace hf := ifF c7 hf
  by_cases c8 : a1 = 8
  · replace hf := ifT c8 hf
    refine lv_tableIn (off := 119) (tgt := 120) hx hb dX13_account_1 (by rw [c8]; decide) (by rw [c8]; decide) (by rw [c8]; rfl) (by decide) ?_
    refine lv_aload_n hx hb dX13_account_120 rfl (lv_at hl 0 rfl) ?_
    refine va_get (D := D) (ci := 11) (v := .ref (q0 1)) (C := RX13) (T := TX13) (N := 27) hx hb hts hi11 hown hK hP 0 rfl rfl 0 (by decide) hw1 (fun _ h9 => h9) rfl dX13_account_121 ?_
    refine lv_iconst (v := 4) hx hb dX13_account_124 (by decide) ?_
    obtain ⟨hin, hf⟩ := ckI_of hf
    refine va_iald (D := D) hx hb hK hP 1 0 rfl rfl hin dX13_account_125 ?_
    obtain rfl := re1 hf
    exact hE hP hD hS dX13_account_126
  replace hf := ifF c8 hf
  by_cases c9 : a1 = 9
  · replace hf := ifT c9 hf
    refine lv_tableIn (off := 126) (tgt := 127) hx hb dX13_account_1 (by rw [c9]; decide) (by rw [c9]; decide) (by rw [c9]; rfl) (by decide) ?_
    refine lv_aload_n hx hb dX13_account_127 rfl (lv_at hl 0 rfl) ?_
    refine va_get (D := D) (ci := 11) (v := .ref (q0 1)) (C := RX13) (T := TX13) (N := 27) hx hb hts hi11 hown hK hP 0 rfl rfl 0 (by decide) hw1 (fun _ h9 => h9) rfl dX13_account_128 ?_
    refine lv_iconst (v := 5) hx hb dX13_account_131 (by decide) ?_
    obtain ⟨hin, hf⟩ := ckI_of hf
    refine va_iald (D := D) hx hb hK hP 1 0 rfl rfl hin dX13_account_132 ?_
    obtain rfl := re1 hf
    exact hE hP hD hS dX13_account_133
  replace hf := ifF c9 hf
  by_cases c10 : a1 = 10
  · replace hf := ifT c10 hf
    refine lv_tableIn (off := 133) (tgt := 134) hx hb dX13_account_1 (by rw [c10]; decide) (by rw [c10]; decide) (by rw [c10]; rfl) (by decide) ?_
    refine lv_aload_n hx hb dX13_account_134 rfl (lv_at hl 0 rfl) ?_
    refine va_get (D := D) (ci := 11) (v := .ref (q0 1)) (C := RX13) (T := TX13) (N := 27) hx hb hts hi11 hown hK hP 0 rfl rfl 0 (by decide) hw1 (fun _ h9 => h9) rfl dX13_account_135 ?_
    refine lv_bipush (v := 6) hx hb dX13_account_138 (by decide +kernel) ?_
    obtain ⟨hin, hf⟩ := ckI_of hf
    refine va_iald (D := D) hx hb hK hP 1 0 rfl rfl hin dX13_account_140 ?_
    obtain rfl := re1 hf
    exact hE hP hD hS dX13_account_141
  replace hf := ifF c10 hf
  by_cases c11 : a1 = 11
  · replace hf := ifT c11 hf
    refine lv_tableIn (off := 141) (tgt := 142) hx hb dX13_account_1 (by rw [c11]; decide) (by rw [c11]; decide) (by rw [c11]; rfl) (by decide) ?_
    refine lv_aload_n hx hb dX13_account_142 rfl (lv_at hl 0 rfl) ?_
    refine va_get (D := D) (ci := 11) (v := .ref (q0 1)) (C := RX13) (T := TX13) (N := 27) hx hb hts hi11 hown hK hP 0 rfl rfl 0 (by decide) hw1 (fun _ h9 => h9) rfl dX13_account_143 ?_
    refine lv_bipush (v := 7) hx hb dX13_account_146 (by decide +kernel) ?_
    obtain ⟨hin, hf⟩ := ckI_of hf
    refine va_iald (D := D) hx hb hK hP 1 0 rfl rfl hin dX13_account_148 ?_
    obtain rfl := re1 hf
    exact hE hP hD hS dX13_account_149
  replace hf := ifF c11 hf
  by_cases c12 : a1 = 12
  · replace hf := ifT c12 hf
    refine lv_tableIn (off := 149) (tgt := 150) hx hb dX13_account_1 (by rw [c12]; decide) (by rw [c12]; decide) (by rw [c12]; rfl) (by decide) ?_
    refine lv_aload_n hx hb dX13_account_150 rfl (lv_at hl 0 rfl) ?_
    refine va_get (D := D) (ci := 11) (v := .int (v0.1 10)) (C := RX13) (T := TX13) (N := 27) hx hb hts hi11 hown hK hP 0 rfl rfl 21 (by decide) hw2 (fun _ h9 => h9) rfl dX13_account_151 ?_
    obtain rfl := re1 hf
    exact hE hP hD hS dX13_account_154
  replace hf := ifF c12 hf
  by_cases c13 : a1 = 13
  · replace hf := ifT c13 hf
    refine lv_tableIn (off := 154) (tgt := 155) hx hb dX13_account_1 (by rw [c13]; decide) (by rw [c13]; decide) (by rw [c13]; rfl) (by decide) ?_
    refine lv_aload_n hx hb dX13_account_155 rfl (lv_at hl 0 rfl) ?_
    refine va_get (D := D) (ci := 11) (v := .int (v0.1 0)) (C := RX13) (T := TX13) (N := 27) hx hb hts hi11 hown hK hP 0 rfl rfl 5 (by decide) hw3 (fun _ h9 => h9) rfl dX13_account_156 ?_
    obtain rfl := re1 hf
    exact hE hP hD hS dX13_account_159
  replace hf := ifF c13 hf
  refine lv_tableOut (tgt := 160) hx hb dX13_account_1 (by have e0 := sw_ne (z := 0) c0 (by decide); have e1 := sw_ne (z := 1) c1 (by decide); have e2 := sw_ne (z := 2) c2 (by decide); have e3 := sw_ne (z := 3) c3 (by decide); have e4 := sw_ne (z := 4) c4 (by decide); have e5 := sw_ne (z := 5) c5 (by decide); have e6 := sw_ne (z := 6) c6 (by decide); have e7 := sw_ne (z := 7) c7 (by decide); have e8 := sw_ne (z := 8) c8 (by decide); have e9 := sw_ne (z := 9) c9 (by decide); have e10 := sw_ne (z := 10) c10 (by decide); have e11 := sw_ne (z := 11) c11 (by decide); have e12 := sw_ne (z := 12) c12 (by decide); have e13 := sw_ne (z := 13) c13 (by decide); omega) (by decide) ?_
  refine lv_bipush (v := (-2)) hx hb dX13_account_160 (by decide +kernel) ?_
  obtain rfl := re1 hf
  exact hE hP hD hS dX13_account_162
