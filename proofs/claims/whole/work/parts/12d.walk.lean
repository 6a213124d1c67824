/-! Walks, laid by wip/whole/gen.py: for each method f_ (what it does to its world) and c_ (its contract). -/
def f_X13_give (a1 : Int32) (a2 : Int32) (a3 : Int32) (v0 : SV) : Option (Int32 × SV) :=
  bd1 (f_X13_begins v0) fun w_1 =>
  bd1 (f_X13_areTwo a1 a2) fun r_2 =>
  if r_2 = 0 then
    some ((-1), w_1)
  else
    bd1 (f_X13_areMany a3) fun r_3 =>
    if r_3 = 0 then
      some ((-2), w_1)
    else
      bd2 (f_X13_isRefusedGive a1 a2 a3 w_1) fun r_4 w_5 =>
      if r_4 = 0 then
        bd2 (f_X13_gives a1 a2 a3 w_5) fun r_6 w_7 =>
        bd2 (f_X13_keeps r_6 w_7) fun r_8 w_9 =>
        some (r_8, w_9)
      else
        bd2 (f_X13_refused w_5) fun r_10 w_11 =>
        some (r_10, w_11)
abbrev rm_X13_give : Room := { frames := 6, cells := 0, slots := 0, locals := 134 }
set_option maxHeartbeats 4000000 in
set_option maxRecDepth 100000 in
theorem c_X13_give (l : Launch) (D : va_G) (G : Nat → ClassId) (q0 : Nat → Nat) (a1 : Int32) (a2 : Int32) (a3 : Int32) (v0 : SV) (r : Int32) (v0' : SV) (hf : f_X13_give a1 a2 a3 v0 = some (r, v0')) (sz : Nat) : mC l yX13_give wsX13_give rm_X13_give D (tyG G) kT [.ref (q0 0), .int a1, .int a2, .int a3] (kModel G q0 v0) (kModel G q0 v0') sz (some (.int r)) 0 0 := by
  refine mC_ofI (cc := cX13_give) (maxL := 4) (ret := (some .int)) (by decide) rfl rfl (Nat.le_of_ble_eq_true rfl) ?_
  intro p e s m args below meth c Q0 hx hb hml hts hown hN hK A hD hA hE hP hS hJ ls hl
  have hl : lv_has ls 4 [(0, .ref (q0 0)), (1, .int a1), (2, .int a2), (3, .int a3)] := hl
  unfold f_X13_give at hf
  refine lv_aload_n hx hb dX13_give_0 rfl (lv_at hl 0 rfl) ?_
  obtain ⟨w_1, hc, hf⟩ := bd1_of hf
  refine k_V (As := []) (rest := []) (ws1 := (kModel G q0 w_1)) ⟨hx, hb, hml, hown, hts⟩ (c_X13_begins l D G q0  v0 _ hc  _) (cwV 0 hts gX13_give_X13_begins rfl rfl rfl (by decide +kernel) ⟨Nat.le_of_ble_eq_true rfl, Nat.le_of_ble_eq_true rfl⟩) hl.1 (Nat.le_of_ble_eq_true rfl) dX13_give_1 ⟨Nat.le_of_ble_eq_true rfl, Nat.le_of_ble_eq_true rfl⟩ rfl kT_bl (fun _ _ _ => trivial) hN hK hP hD hS hA 0 11 rfl rfl rfl [0, 1, 2, 3, 4, 5, 6, 7, 8, 9, 10, 11] [] [0, 1, 2, 3, 4, 5, 6, 7, 8, 9, 10, 11] [0, 1, 2, 3] rfl rfl rfl ⟨by decide, by decide, by decide, by decide⟩ rfl (fun H locs hP hD hS => ?_)
  refine lv_iload_n hx hb dX13_give_4 rfl (lv_at hl 1 rfl) ?_
  refine lv_iload_n hx hb dX13_give_5 rfl (lv_at hl 2 rfl) ?_
  obtain ⟨r_2, hc, hf⟩ := bd1_of hf
  refine k_S (As := [.int a1, .int a2]) (rest := []) (ws1 := (kModel G q0 w_1)) ⟨hx, hb, hml, hown, hts⟩ (c_X13_areTwo l D G  a1 a2  _ hc  _) (va_cwS 2 hts gX13_give_X13_areTwo rfl rfl rfl (by decide +kernel) ⟨Nat.le_of_ble_eq_true rfl, Nat.le_of_ble_eq_true rfl⟩) hl.1 (Nat.le_of_ble_eq_true rfl) dX13_give_6 ⟨Nat.le_of_ble_eq_true rfl, Nat.le_of_ble_eq_true rfl⟩ rfl kT_bl (fun _ _ _ => trivial) hN hK hP hD hS hA [] [0, 1, 2, 3, 4, 5, 6, 7, 8, 9, 10, 11] [0, 1, 2, 3, 4, 5, 6, 7, 8, 9, 10, 11] [0, 1, 2, 3] rfl rfl rfl ⟨by decide, by decide, by decide, by decide⟩ rfl (fun H locs hP hD hS => ?_)
  refine lv_if_ne (tgt := 14) hx hb dX13_give_9 (by decide) (fun cc => ?_) (fun cc => ?_)
  · replace hf := ifF cc hf
    refine lv_iload_n hx hb dX13_give_14 rfl (lv_at hl 3 rfl) ?_
    obtain ⟨r_3, hc, hf⟩ := bd1_of hf
    refine k_S (As := [.int a3]) (rest := []) (ws1 := (kModel G q0 w_1)) ⟨hx, hb, hml, hown, hts⟩ (c_X13_areMany l D G  a3  _ hc  _) (va_cwS 1 hts gX13_give_X13_areMany rfl rfl rfl (by decide +kernel) ⟨Nat.le_of_ble_eq_true rfl, Nat.le_of_ble_eq_true rfl⟩) hl.1 (Nat.le_of_ble_eq_true rfl) dX13_give_15 ⟨Nat.le_of_ble_eq_true rfl, Nat.le_of_ble_eq_true rfl⟩ rfl kT_bl (fun _ _ _ => trivial) hN hK hP hD hS hA [] [0, 1, 2, 3, 4, 5, 6, 7, 8, 9, 10, 11] [0, 1, 2, 3, 4, 5, 6, 7, 8, 9, 10, 11] [0, 1, 2, 3] rfl rfl rfl ⟨by decide, by decide, by decide, by decide⟩ rfl (fun H locs hP hD hS => ?_)
    refine lv_if_ne (tgt := 24) hx hb dX13_give_18 (by decide) (fun cc => ?_) (fun cc => ?_)
    · replace hf := ifF cc hf
      refine lv_aload_n hx hb dX13_give_24 rfl (lv_at hl 0 rfl) ?_
      refine lv_iload_n hx hb dX13_give_25 rfl (lv_at hl 1 rfl) ?_
      refine lv_iload_n hx hb dX13_give_26 rfl (lv_at hl 2 rfl) ?_
      refine lv_iload_n hx hb dX13_give_27 rfl (lv_at hl 3 rfl) ?_
      obtain ⟨r_4, w_5, hc, hf⟩ := bd2_of hf
      refine k_V (As := [.int a1, .int a2, .int a3]) (rest := []) (ws1 := (kModel G q0 w_5)) ⟨hx, hb, hml, hown, hts⟩ (c_X13_isRefusedGive l D G q0 a1 a2 a3 w_1 _ _ hc  _) (cwV 3 hts gX13_give_X13_isRefusedGive rfl rfl rfl (by decide +kernel) ⟨Nat.le_of_ble_eq_true rfl, Nat.le_of_ble_eq_true rfl⟩) hl.1 (Nat.le_of_ble_eq_true rfl) dX13_give_28 ⟨Nat.le_of_ble_eq_true rfl, Nat.le_of_ble_eq_true rfl⟩ rfl kT_bl (fun _ _ _ => trivial) hN hK hP hD hS hA 0 11 rfl rfl rfl [0, 1, 2, 3, 4, 5, 6, 7, 8, 9, 10, 11] [] [0, 1, 2, 3, 4, 5, 6, 7, 8, 9, 10, 11] [0, 1, 2, 3] rfl rfl rfl ⟨by decide, by decide, by decide, by decide⟩ rfl (fun H locs hP hD hS => ?_)
      refine lv_if_eq (tgt := 41) hx hb dX13_give_31 (by decide) (fun cc => ?_) (fun cc => ?_)
      · replace hf := ifT cc hf
        refine lv_aload_n hx hb dX13_give_41 rfl (lv_at hl 0 rfl) ?_
        refine lv_aload_n hx hb dX13_give_42 rfl (lv_at hl 0 rfl) ?_
        refine lv_iload_n hx hb dX13_give_43 rfl (lv_at hl 1 rfl) ?_
        refine lv_iload_n hx hb dX13_give_44 rfl (lv_at hl 2 rfl) ?_
        refine lv_iload_n hx hb dX13_give_45 rfl (lv_at hl 3 rfl) ?_
        obtain ⟨r_6, w_7, hc, hf⟩ := bd2_of hf
        refine k_V (As := [.int a1, .int a2, .int a3]) (rest := [.ref (q0 0)]) (ws1 := (kModel G q0 w_7)) ⟨hx, hb, hml, hown, hts⟩ (c_X13_gives l D G q0 a1 a2 a3 w_5 _ _ hc  _) (cwV 3 hts gX13_give_X13_gives rfl rfl rfl (by decide +kernel) ⟨Nat.le_of_ble_eq_true rfl, Nat.le_of_ble_eq_true rfl⟩) hl.1 (Nat.le_of_ble_eq_true rfl) dX13_give_46 ⟨Nat.le_of_ble_eq_true rfl, Nat.le_of_ble_eq_true rfl⟩ rfl kT_bl (fun _ _ _ => trivial) hN hK hP hD hS hA 0 11 rfl rfl rfl [0, 1, 2, 3, 4, 5, 6, 7, 8, 9, 10, 11] [] [0, 1, 2, 3, 4, 5, 6, 7, 8, 9, 10, 11] [0, 1, 2, 3] rfl rfl rfl ⟨by decide, by decide, by decide, by decide⟩ rfl (fun H locs hP hD hS => ?_)
        obtain ⟨r_8, w_9, hc, hf⟩ := bd2_of hf
        refine k_V (As := [.int r_6]) (rest := []) (ws1 := (kModel G q0 w_9)) ⟨hx, hb, hml, hown, hts⟩ (c_X13_keeps l D G q0 r_6 w_7 _ _ hc  _) (cwV 1 hts gX13_give_X13_keeps rfl rfl rfl (by decide +kernel) ⟨Nat.le_of_ble_eq_true rfl, Nat.le_of_ble_eq_true rfl⟩) hl.1 (Nat.le_of_ble_eq_true rfl) dX13_give_49 ⟨Nat.le_of_ble_eq_true rfl, Nat.le_of_ble_eq_true rfl⟩ rfl kT_bl (fun _ _ _ => trivial) hN hK hP hD hS hA 0 11 rfl rfl rfl [0, 1, 2, 3, 4, 5, 6, 7, 8, 9, 10, 11] [] [0, 1, 2, 3, 4, 5, 6, 7, 8, 9, 10, 11] [0, 1, 2, 3] rfl rfl rfl ⟨by decide, by decide, by decide, by decide⟩ rfl (fun H locs hP hD hS => ?_)
        obtain ⟨rfl, rfl⟩ := re2 hf
        exact hE hP hD hS dX13_give_52
      · replace hf := ifF cc hf
        refine lv_aload_n hx hb dX13_give_34 rfl (lv_at hl 0 rfl) ?_
        obtain ⟨r_10, w_11, hc, hf⟩ := bd2_of hf
        refine k_V (As := []) (rest := []) (ws1 := (kModel G q0 w_11)) ⟨hx, hb, hml, hown, hts⟩ (c_X13_refused l D G q0  w_5 _ _ hc  _) (cwV 0 hts gX13_give_X13_refused rfl rfl rfl (by decide +kernel) ⟨Nat.le_of_ble_eq_true rfl, Nat.le_of_ble_eq_true rfl⟩) hl.1 (Nat.le_of_ble_eq_true rfl) dX13_give_35 ⟨Nat.le_of_ble_eq_true rfl, Nat.le_of_ble_eq_true rfl⟩ rfl kT_bl (fun _ _ _ => trivial) hN hK hP hD hS hA 0 11 rfl rfl rfl [0, 1, 2, 3, 4, 5, 6, 7, 8, 9, 10, 11] [] [0, 1, 2, 3, 4, 5, 6, 7, 8, 9, 10, 11] [0, 1, 2, 3] rfl rfl rfl ⟨by decide, by decide, by decide, by decide⟩ rfl (fun H locs hP hD hS => ?_)
        refine lv_goto (tgt := 52) hx hb dX13_give_38 (by decide) ?_
        obtain ⟨rfl, rfl⟩ := re2 hf
        exact hE hP hD hS dX13_give_52
    · replace hf := ifT cc hf
      refine lv_bipush (v := (-2)) hx hb dX13_give_21 (by decide +kernel) ?_
      obtain ⟨rfl, rfl⟩ := re2 hf
      exact hE hP hD hS dX13_give_23
  · replace hf := ifT cc hf
    refine lv_iconst (v := (-1)) hx hb dX13_give_12 (by decide) ?_
    obtain ⟨rfl, rfl⟩ := re2 hf
    exact hE hP hD hS dX13_give_13
def f_X13_given_K4 (y_7 : Int32) (y_8 : Int32) : Option Int32 :=
  some y_8
def f_X13_given_B4 (a1 : Int32) (v0 : SV) (selfL_5 : (Int32 → Int32 → Option Int32)) (x_3 : Int32) (x_4 : Int32) : Option Int32 :=
  if 12 ≤ x_3 then
    f_X13_given_K4 x_3 x_4
  else
    bd1 (f_X13_greetings a1 x_3 v0) fun r_6 =>
    selfL_5 (x_3 + 1) (x_4 + r_6)
def f_X13_given (a1 : Int32) (v0 : SV) : Option Int32 :=
  lz2 (f_X13_given_B4 a1 v0) FU 0 0
abbrev rm_X13_given : Room := { frames := 1, cells := 0, slots := 0, locals := 22 }
set_option maxHeartbeats 4000000 in
set_option maxRecDepth 100000 in
theorem c_X13_given (l : Launch) (D : va_G) (G : Nat → ClassId) (q0 : Nat → Nat) (a1 : Int32) (v0 : SV) (r : Int32) (hf : f_X13_given a1 v0 = some r) (sz : Nat) : mC l yX13_given wsX13_given rm_X13_given D (tyG G) kT [.ref (q0 0), .int a1] (kModel G q0 v0) (kModel G q0 v0) sz (some (.int r)) 0 0 := by
  refine mC_ofI (cc := cX13_given) (maxL := 4) (ret := (some .int)) (by decide) rfl rfl (Nat.le_of_ble_eq_true rfl) ?_
  intro p e s m args below meth c Q0 hx hb hml hts hown hN hK A hD hA hE hP hS hJ ls hl
  have hl : lv_has ls 4 [(0, .ref (q0 0)), (1, .int a1)] := hl
  unfold f_X13_given at hf
  refine lv_iconst (v := 0) hx hb dX13_given_0 (by decide) ?_
  refine lv_istore_n (lv' := [(2, .int 0), (0, .ref (q0 0)), (1, .int a1)]) hx hb dX13_given_1 rfl hl (by decide) rfl (fun ls hl => ?_)
  refine lv_iconst (v := 0) hx hb dX13_given_2 (by decide) ?_
  refine lv_istore_n (lv' := [(3, .int 0), (2, .int 0), (0, .ref (q0 0)), (1, .int a1)]) hx hb dX13_given_3 rfl hl (by decide) rfl (fun ls hl => ?_)
  have exL_5 : ∀ (y_7 : Int32) (y_8 : Int32) (H : Heap) (locs : List Loc) (ls : Array Slot), lv_has ls 4 [(3, .int y_7), (2, .int y_8), (0, .ref (q0 0)), (1, .int a1)] → va_P D vwCl (kModel G q0 v0) H → va_D A (kModel G q0 v0) → va_S A s.heap H locs → f_X13_given_K4 y_7 y_8 = some r → W p l e rm_X13_given s m args below meth c H locs 0 0 Q0 (F0 m 25 ls []) := by
    intro y_7 y_8 H locs ls hl hP hD hS hf
    unfold f_X13_given_K4 at hf
    refine lv_iload_n hx hb dX13_given_25 rfl (lv_at hl 1 rfl) ?_
    obtain rfl := re1 hf
    exact hE hP hD hS dX13_given_26
  have loL_5 : ∀ (n : Nat) (x_3 : Int32) (x_4 : Int32) (H : Heap) (locs : List Loc) (ls : Array Slot), lv_has ls 4 [(3, .int x_3), (2, .int x_4), (0, .ref (q0 0)), (1, .int a1)] → va_P D vwCl (kModel G q0 v0) H → va_D A (kModel G q0 v0) → va_S A s.heap H locs → lz2 (f_X13_given_B4 a1 v0) n x_3 x_4 = some r → W p l e rm_X13_given s m args below meth c H locs 0 0 Q0 (F0 m 4 ls []) := by
    intro n
    induction n with
    | zero => intro x_3 x_4 H locs ls hl hP hD hS hf; cases hf
    | succ n ihL_5 =>
      intro x_3 x_4 H locs ls hl hP hD hS hf
      replace hf := lz2_s hf
      unfold f_X13_given_B4 at hf
      refine lv_iload_n hx hb dX13_given_4 rfl (lv_at hl 0 rfl) ?_
      refine lv_bipush (v := 12) hx hb dX13_given_5 (by decide +kernel) ?_
      refine lv_icmp_ge (tgt := 25) hx hb dX13_given_7 (by decide) (fun cc => ?_) (fun cc => ?_)
      · replace hf := ifT cc hf
        exact exL_5 x_3 x_4 _ _ _ (lv_sub hl [0, 1, 2, 3] rfl) hP hD hS hf
      · replace hf := ifF cc hf
        refine lv_iload_n hx hb dX13_given_10 rfl (lv_at hl 1 rfl) ?_
        refine lv_aload_n hx hb dX13_given_11 rfl (lv_at hl 2 rfl) ?_
        refine lv_iload_n hx hb dX13_given_12 rfl (lv_at hl 3 rfl) ?_
        refine lv_iload_n hx hb dX13_given_13 rfl (lv_at hl 0 rfl) ?_
        obtain ⟨r_6, hc, hf⟩ := bd1_of hf
        refine k_V (As := [.int a1, .int x_3]) (rest := [.int x_4]) (ws1 := (kModel G q0 v0)) ⟨hx, hb, hml, hown, hts⟩ (c_X13_greetings l D G q0 a1 x_3 v0 _ hc  _) (cwV 2 hts gX13_given_X13_greetings rfl rfl rfl (by decide +kernel) ⟨Nat.le_of_ble_eq_true rfl, Nat.le_of_ble_eq_true rfl⟩) hl.1 (Nat.le_of_ble_eq_true rfl) dX13_given_14 ⟨Nat.le_of_ble_eq_true rfl, Nat.le_of_ble_eq_true rfl⟩ rfl kT_bl (fun _ _ _ => trivial) hN hK hP hD hS hA 0 11 rfl rfl rfl [0, 1, 2, 3, 4, 5, 6, 7, 8, 9, 10, 11] [] [0, 1, 2, 3, 4, 5, 6, 7, 8, 9, 10, 11] [0, 1, 2, 3] rfl rfl rfl ⟨by decide, by decide, by decide, by decide⟩ rfl (fun H locs hP hD hS => ?_)
        refine lv_iadd hx hb dX13_given_17 ?_
        refine lv_istore_n (lv' := [(2, .int (x_4 + r_6)), (3, .int x_3), (0, .ref (q0 0)), (1, .int a1)]) hx hb dX13_given_18 rfl hl (by decide) rfl (fun ls hl => ?_)
        refine lv_iinc (v := (x_3 + 1)) (lv' := [(3, .int (x_3 + 1)), (2, .int (x_4 + r_6)), (0, .ref (q0 0)), (1, .int a1)]) hx hb dX13_given_19 hl (k := 1) rfl rfl (by decide) rfl (fun ls hl => ?_)
        refine lv_goto (tgt := 4) hx hb dX13_given_22 (by decide) ?_
        exact ihL_5 (x_3 + 1) (x_4 + r_6) _ _ _ (lv_sub hl [0, 1, 2, 3] rfl) hP hD hS hf
  exact loL_5 FU 0 0 _ _ _ hl hP hD hS hf
def f_X13_got_K4 (y_7 : Int32) (y_8 : Int32) : Option Int32 :=
  some y_8
def f_X13_got_B4 (a1 : Int32) (v0 : SV) (selfL_5 : (Int32 → Int32 → Option Int32)) (x_3 : Int32) (x_4 : Int32) : Option Int32 :=
  if 12 ≤ x_3 then
    f_X13_got_K4 x_3 x_4
  else
    bd1 (f_X13_greetings x_3 a1 v0) fun r_6 =>
    selfL_5 (x_3 + 1) (x_4 + r_6)
def f_X13_got (a1 : Int32) (v0 : SV) : Option Int32 :=
  lz2 (f_X13_got_B4 a1 v0) FU 0 0
abbrev rm_X13_got : Room := { frames := 1, cells := 0, slots := 0, locals := 22 }
set_option maxHeartbeats 4000000 in
set_option maxRecDepth 100000 in
theorem c_X13_got (l : Launch) (D : va_G) (G : Nat → ClassId) (q0 : Nat → Nat) (a1 : Int32) (v0 : SV) (r : Int32) (hf : f_X13_got a1 v0 = some r) (sz : Nat) : mC l yX13_got wsX13_got rm_X13_got D (tyG G) kT [.ref (q0 0), .int a1] (kModel G q0 v0) (kModel G q0 v0) sz (some (.int r)) 0 0 := by
  refine mC_ofI (cc := cX13_got) (maxL := 4) (ret := (some .int)) (by decide) rfl rfl (Nat.le_of_ble_eq_true rfl) ?_
  intro p e s m args below meth c Q0 hx hb hml hts hown hN hK A hD hA hE hP hS hJ ls hl
  have hl : lv_has ls 4 [(0, .ref (q0 0)), (1, .int a1)] := hl
  unfold f_X13_got at hf
  refine lv_iconst (v := 0) hx hb dX13_got_0 (by decide) ?_
  refine lv_istore_n (lv' := [(2, .int 0), (0, .ref (q0 0)), (1, .int a1)]) hx hb dX13_got_1 rfl hl (by decide) rfl (fun ls hl => ?_)
  refine lv_iconst (v := 0) hx hb dX13_got_2 (by decide) ?_
  refine lv_istore_n (lv' := [(3, .int 0), (2, .int 0), (0, .ref (q0 0)), (1, .int a1)]) hx hb dX13_got_3 rfl hl (by decide) rfl (fun ls hl => ?_)
  have exL_5 : ∀ (y_7 : Int32) (y_8 : Int32) (H : Heap) (locs : List Loc) (ls : Array Slot), lv_has ls 4 [(3, .int y_7), (2, .int y_8), (0, .ref (q0 0)), (1, .int a1)] → va_P D vwCl (kModel G q0 v0) H → va_D A (kModel G q0 v0) → va_S A s.heap H locs → f_X13_got_K4 y_7 y_8 = some r → W p l e rm_X13_got s m args below meth c H locs 0 0 Q0 (F0 m 25 ls []) := by
    intro y_7 y_8 H locs ls hl hP hD hS hf
    unfold f_X13_got_K4 at hf
    refine lv_iload_n hx hb dX13_got_25 rfl (lv_at hl 1 rfl) ?_
    obtain rfl := re1 hf
    exact hE hP hD hS dX13_got_26
  have loL_5 : ∀ (n : Nat) (x_3 : Int32) (x_4 : Int32) (H : Heap) (locs : List Loc) (ls : Array Slot), lv_has ls 4 [(3, .int x_3), (2, .int x_4), (0, .ref (q0 0)), (1, .int a1)] → va_P D vwCl (kModel G q0 v0) H → va_D A (kModel G q0 v0) → va_S A s.heap H locs → lz2 (f_X13_got_B4 a1 v0) n x_3 x_4 = some r → W p l e rm_X13_got s m args below meth c H locs 0 0 Q0 (F0 m 4 ls []) := by
    intro n
    induction n with
    | zero => intro x_3 x_4 H locs ls hl hP hD hS hf; cases hf
    | succ n ihL_5 =>
      intro x_3 x_4 H locs ls hl hP hD hS hf
      replace hf := lz2_s hf
      unfold f_X13_got_B4 at hf
      refine lv_iload_n hx hb dX13_got_4 rfl (lv_at hl 0 rfl) ?_
      refine lv_bipush (v := 12) hx hb dX13_got_5 (by decide +kernel) ?_
      refine lv_icmp_ge (tgt := 25) hx hb dX13_got_7 (by decide) (fun cc => ?_) (fun cc => ?_)
      · replace hf := ifT cc hf
        exact exL_5 x_3 x_4 _ _ _ (lv_sub hl [0, 1, 2, 3] rfl) hP hD hS hf
      · replace hf := ifF cc hf
        refine lv_iload_n hx hb dX13_got_10 rfl (lv_at hl 1 rfl) ?_
        refine lv_aload_n hx hb dX13_got_11 rfl (lv_at hl 2 rfl) ?_
        refine lv_iload_n hx hb dX13_got_12 rfl (lv_at hl 0 rfl) ?_
        refine lv_iload_n hx hb dX13_got_13 rfl (lv_at hl 3 rfl) ?_
        obtain ⟨r_6, hc, hf⟩ := bd1_of hf
        refine k_V (As := [.int x_3, .int a1]) (rest := [.int x_4]) (ws1 := (kModel G q0 v0)) ⟨hx, hb, hml, hown, hts⟩ (c_X13_greetings l D G q0 x_3 a1 v0 _ hc  _) (cwV 2 hts gX13_got_X13_greetings rfl rfl rfl (by decide +kernel) ⟨Nat.le_of_ble_eq_true rfl, Nat.le_of_ble_eq_true rfl⟩) hl.1 (Nat.le_of_ble_eq_true rfl) dX13_got_14 ⟨Nat.le_of_ble_eq_true rfl, Nat.le_of_ble_eq_true rfl⟩ rfl kT_bl (fun _ _ _ => trivial) hN hK hP hD hS hA 0 11 rfl rfl rfl [0, 1, 2, 3, 4, 5, 6, 7, 8, 9, 10, 11] [] [0, 1, 2, 3, 4, 5, 6, 7, 8, 9, 10, 11] [0, 1, 2, 3] rfl rfl rfl ⟨by decide, by decide, by decide, by decide⟩ rfl (fun H locs hP hD hS => ?_)
        refine lv_iadd hx hb dX13_got_17 ?_
        refine lv_istore_n (lv' := [(2, .int (x_4 + r_6)), (3, .int x_3), (0, .ref (q0 0)), (1, .int a1)]) hx hb dX13_got_18 rfl hl (by decide) rfl (fun ls hl => ?_)
        refine lv_iinc (v := (x_3 + 1)) (lv' := [(3, .int (x_3 + 1)), (2, .int (x_4 + r_6)), (0, .ref (q0 0)), (1, .int a1)]) hx hb dX13_got_19 hl (k := 1) rfl rfl (by decide) rfl (fun ls hl => ?_)
        refine lv_goto (tgt := 4) hx hb dX13_got_22 (by decide) ?_
        exact ihL_5 (x_3 + 1) (x_4 + r_6) _ _ _ (lv_sub hl [0, 1, 2, 3] rfl) hP hD hS hf
  exact loL_5 FU 0 0 _ _ _ hl hP hD hS hf
def f_X13_allGreetings_K4 (y_7 : Int32) (y_8 : Int32) : Option Int32 :=
  some y_8
def f_X13_allGreetings_B4 (v0 : SV) (selfL_5 : (Int32 → Int32 → Option Int32)) (x_3 : Int32) (x_4 : Int32) : Option Int32 :=
  if 12 ≤ x_3 then
    f_X13_allGreetings_K4 x_3 x_4
  else
    bd1 (f_X13_given x_3 v0) fun r_6 =>
    selfL_5 (x_3 + 1) (x_4 + r_6)
def f_X13_allGreetings (v0 : SV) : Option Int32 :=
  lz2 (f_X13_allGreetings_B4 v0) FU 0 0
abbrev rm_X13_allGreetings : Room := { frames := 2, cells := 0, slots := 0, locals := 45 }
set_option maxHeartbeats 4000000 in
set_option maxRecDepth 100000 in
theorem c_X13_allGreetings (l : Launch) (D : va_G) (G : Nat → ClassId) (q0 : Nat → Nat) (v0 : SV) (r : Int32) (hf : f_X13_allGreetings v0 = some r) (sz : Nat) : mC l yX13_allGreetings wsX13_allGreetings rm_X13_allGreetings D (tyG G) kT [.ref (q0 0)] (kModel G q0 v0) (kModel G q0 v0) sz (some (.int r)) 0 0 := by
  refine mC_ofI (cc := cX13_allGreetings) (maxL := 3) (ret := (some .int)) (by decide) rfl rfl (Nat.le_of_ble_eq_true rfl) ?_
  intro p e s m args below meth c Q0 hx hb hml hts hown hN hK A hD hA hE hP hS hJ ls hl
  have hl : lv_has ls 3 [(0, .ref (q0 0))] := hl
  unfold f_X13_allGreetings at hf
  refine lv_iconst (v := 0) hx hb dX13_allGreetings_0 (by decide) ?_
  refine lv_istore_n (lv' := [(1, .int 0), (0, .ref (q0 0))]) hx hb dX13_allGreetings_1 rfl hl (by decide) rfl (fun ls hl => ?_)
  refine lv_iconst (v := 0) hx hb dX13_allGreetings_2 (by decide) ?_
  refine lv_istore_n (lv' := [(2, .int 0), (1, .int 0), (0, .ref (q0 0))]) hx hb dX13_allGreetings_3 rfl hl (by decide) rfl (fun ls hl => ?_)
  have exL_5 : ∀ (y_7 : Int32) (y_8 : Int32) (H : Heap) (locs : List Loc) (ls : Array Slot), lv_has ls 3 [(2, .int y_7), (1, .int y_8), (0, .ref (q0 0))] → va_P D vwCl (kModel G q0 v0) H → va_D A (kModel G q0 v0) → va_S A s.heap H locs → f_X13_allGreetings_K4 y_7 y_8 = some r → W p l e rm_X13_allGreetings s m args below meth c H locs 0 0 Q0 (F0 m 24 ls []) := by
    intro y_7 y_8 H locs ls hl hP hD hS hf
    unfold f_X13_allGreetings_K4 at hf
    refine lv_iload_n hx hb dX13_allGreetings_24 rfl (lv_at hl 1 rfl) ?_
    obtain rfl := re1 hf
    exact hE hP hD hS dX13_allGreetings_25
  have loL_5 : ∀ (n : Nat) (x_3 : Int32) (x_4 : Int32) (H : Heap) (locs : List Loc) (ls : Array Slot), lv_has ls 3 [(2, .int x_3), (1, .int x_4), (0, .ref (q0 0))] → va_P D vwCl (kModel G q0 v0) H → va_D A (kModel G q0 v0) → va_S A s.heap H locs → lz2 (f_X13_allGreetings_B4 v0) n x_3 x_4 = some r → W p l e rm_X13_allGreetings s m args below meth c H locs 0 0 Q0 (F0 m 4 ls []) := by
    intro n
    induction n with
    | zero => intro x_3 x_4 H locs ls hl hP hD hS hf; cases hf
    | succ n ihL_5 =>
      intro x_3 x_4 H locs ls hl hP hD hS hf
      replace hf := lz2_s hf
      unfold f_X13_allGreetings_B4 at hf
      refine lv_iload_n hx hb dX13_allGreetings_4 rfl (lv_at hl 0 rfl) ?_
      refine lv_bipush (v := 12) hx hb dX13_allGreetings_5 (by decide +kernel) ?_
      refine lv_icmp_ge (tgt := 24) hx hb dX13_allGreetings_7 (by decide) (fun cc => ?_) (fun cc => ?_)
      · replace hf := ifT cc hf
        exact exL_5 x_3 x_4 _ _ _ (lv_sub hl [0, 1, 2] rfl) hP hD hS hf
      · replace hf := ifF cc hf
        refine lv_iload_n hx hb dX13_allGreetings_10 rfl (lv_at hl 1 rfl) ?_
        refine lv_aload_n hx hb dX13_allGreetings_11 rfl (lv_at hl 2 rfl) ?_
        refine lv_iload_n hx hb dX13_allGreetings_12 rfl (lv_at hl 0 rfl) ?_
        obtain ⟨r_6, hc, hf⟩ := bd1_of hf
        refine k_V (As := [.int x_3]) (rest := [.int x_4]) (ws1 := (kModel G q0 v0)) ⟨hx, hb, hml, hown, hts⟩ (c_X13_given l D G q0 x_3 v0 _ hc  _) (cwV 1 hts gX13_allGreetings_X13_given rfl rfl rfl (by decide +kernel) ⟨Nat.le_of_ble_eq_true rfl, Nat.le_of_ble_eq_true rfl⟩) hl.1 (Nat.le_of_ble_eq_true rfl) dX13_allGreetings_13 ⟨Nat.le_of_ble_eq_true rfl, Nat.le_of_ble_eq_true rfl⟩ rfl kT_bl (fun _ _ _ => trivial) hN hK hP hD hS hA 0 11 rfl rfl rfl [0, 1, 2, 3, 4, 5, 6, 7, 8, 9, 10, 11] [] [0, 1, 2, 3, 4, 5, 6, 7, 8, 9, 10, 11] [0, 1, 2, 3] rfl rfl rfl ⟨by decide, by decide, by decide, by decide⟩ rfl (fun H locs hP hD hS => ?_)
        refine lv_iadd hx hb dX13_allGreetings_16 ?_
        refine lv_istore_n (lv' := [(1, .int (x_4 + r_6)), (2, .int x_3), (0, .ref (q0 0))]) hx hb dX13_allGreetings_17 rfl hl (by decide) rfl (fun ls hl => ?_)
        refine lv_iinc (v := (x_3 + 1)) (lv' := [(2, .int (x_3 + 1)), (1, .int (x_4 + r_6)), (0, .ref (q0 0))]) hx hb dX13_allGreetings_18 hl (k := 1) rfl rfl (by decide) rfl (fun ls hl => ?_)
        refine lv_goto (tgt := 4) hx hb dX13_allGreetings_21 (by decide) ?_
        exact ihL_5 (x_3 + 1) (x_4 + r_6) _ _ _ (lv_sub hl [0, 1, 2] rfl) hP hD hS hf
  exact loL_5 FU 0 0 _ _ _ hl hP hD hS hf
def f_X13_friends_K4 (y_9 : Int32) (y_10 : Int32) : Option Int32 :=
  some y_10
def f_X13_friends_B4 (a1 : Int32) (v0 : SV) (selfL_6 : (Int32 → Int32 → Option Int32)) (x_4 : Int32) (x_5 : Int32) : Option Int32 :=
  if 12 ≤ x_4 then
    f_X13_friends_K4 x_4 x_5
  else
    bd1 (f_X13_greetings a1 x_4 v0) fun r_7 =>
    if r_7 ≤ 0 then
      selfL_6 (x_4 + 1) (x_5 ||| 0)
    else
      bd1 (f_X13_greetings x_4 a1 v0) fun r_8 =>
      if r_8 ≤ 0 then
        selfL_6 (x_4 + 1) (x_5 ||| 0)
      else
        selfL_6 (x_4 + 1) (x_5 ||| (1 <<< (x_4 &&& 31)))
def f_X13_friends (a1 : Int32) (v0 : SV) : Option Int32 :=
  lz2 (f_X13_friends_B4 a1 v0) FU 0 0
abbrev rm_X13_friends : Room := { frames := 1, cells := 0, slots := 0, locals := 22 }
set_option maxHeartbeats 4000000 in
set_option maxRecDepth 100000 in
theorem c_X13_friends (l : Launch) (D : va_G) (G : Nat → ClassId) (q0 : Nat → Nat) (a1 : Int32) (v0 : SV) (r : Int32) (hf : f_X13_friends a1 v0 = some r) (sz : Nat) : mC l yX13_friends wsX13_friends rm_X13_friends D (tyG G) kT [.ref (q0 0), .int a1] (kModel G q0 v0) (kModel G q0 v0) sz (some (.int r)) 0 0 := by
  refine mC_ofI (cc := cX13_friends) (maxL := 4) (ret := (some .int)) (by decide) rfl rfl (Nat.le_of_ble_eq_true rfl) ?_
  intro p e s m args below meth c Q0 hx hb hml hts hown hN hK A hD hA hE hP hS hJ ls hl
  have hl : lv_has ls 4 [(0, .ref (q0 0)), (1, .int a1)] := hl
  unfold f_X13_friends at hf
  refine lv_iconst (v := 0) hx hb dX13_friends_0 (by decide) ?_
  refine lv_istore_n (lv' := [(2, .int 0), (0, .ref (q0 0)), (1, .int a1)]) hx hb dX13_friends_1 rfl hl (by decide) rfl (fun ls hl => ?_)
  refine lv_iconst (v := 0) hx hb dX13_friends_2 (by decide) ?_
  refine lv_istore_n (lv' := [(3, .int 0), (2, .int 0), (0, .ref (q0 0)), (1, .int a1)]) hx hb dX13_friends_3 rfl hl (by decide) rfl (fun ls hl => ?_)
  have exL_6 : ∀ (y_9 : Int32) (y_10 : Int32) (H : Heap) (locs : List Loc) (ls : Array Slot), lv_has ls 4 [(3, .int y_9), (2, .int y_10), (0, .ref (q0 0)), (1, .int a1)] → va_P D vwCl (kModel G q0 v0) H → va_D A (kModel G q0 v0) → va_S A s.heap H locs → f_X13_friends_K4 y_9 y_10 = some r → W p l e rm_X13_friends s m args below meth c H locs 0 0 Q0 (F0 m 44 ls []) := by
    intro y_9 y_10 H locs ls hl hP hD hS hf
    unfold f_X13_friends_K4 at hf
    refine lv_iload_n hx hb dX13_friends_44 rfl (lv_at hl 1 rfl) ?_
    obtain rfl := re1 hf
    exact hE hP hD hS dX13_friends_45
  have loL_6 : ∀ (n : Nat) (x_4 : Int32) (x_5 : Int32) (H : Heap) (locs : List Loc) (ls : Array Slot), lv_has ls 4 [(3, .int x_4), (2, .int x_5), (0, .ref (q0 0)), (1, .int a1)] → va_P D vwCl (kModel G q0 v0) H → va_D A (kModel G q0 v0) → va_S A s.heap H locs → lz2 (f_X13_friends_B4 a1 v0) n x_4 x_5 = some r → W p l e rm_X13_friends s m args below meth c H locs 0 0 Q0 (F0 m 4 ls []) := by
    intro n
    induction n with
    | zero => intro x_4 x_5 H locs ls hl hP hD hS hf; cases hf
    | succ n ihL_6 =>
      intro x_4 x_5 H locs ls hl hP hD hS hf
      replace hf := lz2_s hf
      unfold f_X13_friends_B4 at hf
      refine lv_iload_n hx hb dX13_friends_4 rfl (lv_at hl 0 rfl) ?_
      refine lv_bipush (v := 12) hx hb dX13_friends_5 (by decide +kernel) ?_
      refine lv_icmp_ge (tgt := 44) hx hb dX13_friends_7 (by decide) (fun cc => ?_) (fun cc => ?_)
      · replace hf := ifT cc hf
        exact exL_6 x_4 x_5 _ _ _ (lv_sub hl [0, 1, 2, 3] rfl) hP hD hS hf
      · replace hf := ifF cc hf
        refine lv_iload_n hx hb dX13_friends_10 rfl (lv_at hl 1 rfl) ?_
        refine lv_aload_n hx hb dX13_friends_11 rfl (lv_at hl 2 rfl) ?_
        refine lv_iload_n hx hb dX13_friends_12 rfl (lv_at hl 3 rfl) ?_
        refine lv_iload_n hx hb dX13_friends_13 rfl (lv_at hl 0 rfl) ?_
        obtain ⟨r_7, hc, hf⟩ := bd1_of hf
        refine k_V (As := [.int a1, .int x_4]) (rest := [.int x_5]) (ws1 := (kModel G q0 v0)) ⟨hx, hb, hml, hown, hts⟩ (c_X13_greetings l D G q0 a1 x_4 v0 _ hc  _) (cwV 2 hts gX13_friends_X13_greetings rfl rfl rfl (by decide +kernel) ⟨Nat.le_of_ble_eq_true rfl, Nat.le_of_ble_eq_true rfl⟩) hl.1 (Nat.le_of_ble_eq_true rfl) dX13_friends_14 ⟨Nat.le_of_ble_eq_true rfl, Nat.le_of_ble_eq_true rfl⟩ rfl kT_bl (fun _ _ _ => trivial) hN hK hP hD hS hA 0 11 rfl rfl rfl [0, 1, 2, 3, 4, 5, 6, 7, 8, 9, 10, 11] [] [0, 1, 2, 3, 4, 5, 6, 7, 8, 9, 10, 11] [0, 1, 2, 3] rfl rfl rfl ⟨by decide, by decide, by decide, by decide⟩ rfl (fun H locs hP hD hS => ?_)
        refine lv_if_le (tgt := 35) hx hb dX13_friends_17 (by decide) (fun cc => ?_) (fun cc => ?_)
        · replace hf := ifT cc hf
          refine lv_iconst (v := 0) hx hb dX13_friends_35 (by decide) ?_
          refine lv_ior hx hb dX13_friends_36 ?_
          refine lv_istore_n (lv' := [(2, .int (x_5 ||| 0)), (3, .int x_4), (0, .ref (q0 0)), (1, .int a1)]) hx hb dX13_friends_37 rfl hl (by decide) rfl (fun ls hl => ?_)
          refine lv_iinc (v := (x_4 + 1)) (lv' := [(3, .int (x_4 + 1)), (2, .int (x_5 ||| 0)), (0, .ref (q0 0)), (1, .int a1)]) hx hb dX13_friends_38 hl (k := 1) rfl rfl (by decide) rfl (fun ls hl => ?_)
          refine lv_goto (tgt := 4) hx hb dX13_friends_41 (by decide) ?_
          exact ihL_6 (x_4 + 1) (x_5 ||| 0) _ _ _ (lv_sub hl [0, 1, 2, 3] rfl) hP hD hS hf
        · replace hf := ifF cc hf
          refine lv_aload_n hx hb dX13_friends_20 rfl (lv_at hl 2 rfl) ?_
          refine lv_iload_n hx hb dX13_friends_21 rfl (lv_at hl 0 rfl) ?_
          refine lv_iload_n hx hb dX13_friends_22 rfl (lv_at hl 3 rfl) ?_
          obtain ⟨r_8, hc, hf⟩ := bd1_of hf
          refine k_V (As := [.int x_4, .int a1]) (rest := [.int x_5]) (ws1 := (kModel G q0 v0)) ⟨hx, hb, hml, hown, hts⟩ (c_X13_greetings l D G q0 x_4 a1 v0 _ hc  _) (cwV 2 hts gX13_friends_X13_greetings rfl rfl rfl (by decide +kernel) ⟨Nat.le_of_ble_eq_true rfl, Nat.le_of_ble_eq_true rfl⟩) hl.1 (Nat.le_of_ble_eq_true rfl) dX13_friends_23 ⟨Nat.le_of_ble_eq_true rfl, Nat.le_of_ble_eq_true rfl⟩ rfl kT_bl (fun _ _ _ => trivial) hN hK hP hD hS hA 0 11 rfl rfl rfl [0, 1, 2, 3, 4, 5, 6, 7, 8, 9, 10, 11] [] [0, 1, 2, 3, 4, 5, 6, 7, 8, 9, 10, 11] [0, 1, 2, 3] rfl rfl rfl ⟨by decide, by decide, by decide, by decide⟩ rfl (fun H locs hP hD hS => ?_)
          refine lv_if_le (tgt := 35) hx hb dX13_friends_26 (by decide) (fun cc => ?_) (fun cc => ?_)
          · replace hf := ifT cc hf
            refine lv_iconst (v := 0) hx hb dX13_friends_35 (by decide) ?_
            refine lv_ior hx hb dX13_friends_36 ?_
            refine lv_istore_n (lv' := [(2, .int (x_5 ||| 0)), (3, .int x_4), (0, .ref (q0 0)), (1, .int a1)]) hx hb dX13_friends_37 rfl hl (by decide) rfl (fun ls hl => ?_)
            refine lv_iinc (v := (x_4 + 1)) (lv' := [(3, .int (x_4 + 1)), (2, .int (x_5 ||| 0)), (0, .ref (q0 0)), (1, .int a1)]) hx hb dX13_friends_38 hl (k := 1) rfl rfl (by decide) rfl (fun ls hl => ?_)
            refine lv_goto (tgt := 4) hx hb dX13_friends_41 (by decide) ?_
            exact ihL_6 (x_4 + 1) (x_5 ||| 0) _ _ _ (lv_sub hl [0, 1, 2, 3] rfl) hP hD hS hf
          · replace hf := ifF cc hf
            refine lv_iconst (v := 1) hx hb dX13_friends_29 (by decide) ?_
            refine lv_iload_n hx hb dX13_friends_30 rfl (lv_at hl 0 rfl) ?_
            refine lv_ishl hx hb dX13_friends_31 ?_
            refine lv_goto (tgt := 36) hx hb dX13_friends_32 (by decide) ?_
            refine lv_ior hx hb dX13_friends_36 ?_
            refine lv_istore_n (lv' := [(2, .int (x_5 ||| (1 <<< (x_4 &&& 31)))), (3, .int x_4), (0, .ref (q0 0)), (1, .int a1)]) hx hb dX13_friends_37 rfl hl (by decide) rfl (fun ls hl => ?_)
            refine lv_iinc (v := (x_4 + 1)) (lv' := [(3, .int (x_4 + 1)), (2, .int (x_5 ||| (1 <<< (x_4 &&& 31)))), (0, .ref (q0 0)), (1, .int a1)]) hx hb dX13_friends_38 hl (k := 1) rfl rfl (by decide) rfl (fun ls hl => ?_)
            refine lv_goto (tgt := 4) hx hb dX13_friends_41 (by decide) ?_
            exact ihL_6 (x_4 + 1) (x_5 ||| (1 <<< (x_4 &&& 31))) _ _ _ (lv_sub hl [0, 1, 2, 3] rfl) hP hD hS hf
  exact loL_6 FU 0 0 _ _ _ hl hP hD hS hf
def f_X13_catPart (a1 : Int32) (a2 : Int32) (v0 : SV) : Option Int32 :=
  ckI ((208 + (3 * a1)) + a2) 240 <|
  some (v0.2 0 ((208 + (3 * a1)) + a2).toNatClampNeg)
abbrev rm_X13_catPart : Room := { frames := 0, cells := 0, slots := 0, locals := 0 }
set_option maxHeartbeats 4000000 in
set_option maxRecDepth 100000 in
theorem c_X13_catPart (l : Launch) (D : va_G) (G : Nat → ClassId) (q0 : Nat → Nat) (a1 : Int32) (a2 : Int32) (v0 : SV) (r : Int32) (hf : f_X13_catPart a1 a2 v0 = some r) (sz : Nat) : mC l yX13_catPart wsX13_catPart rm_X13_catPart D (tyG G) kT [.ref (q0 0), .int a1, .int a2] (kModel G q0 v0) (kModel G q0 v0) sz (some (.int r)) 0 0 := by
  refine mC_ofI (cc := cX13_catPart) (maxL := 3) (ret := (some .int)) (by decide) rfl rfl (Nat.le_of_ble_eq_true rfl) ?_
  intro p e s m args below meth c Q0 hx hb hml hts hown hN hK A hD hA hE hP hS hJ ls hl
  have hl : lv_has ls 3 [(0, .ref (q0 0)), (1, .int a1), (2, .int a2)] := hl
  unfold f_X13_catPart at hf
  have hi11 : ∀ w ∈ u_ws RX13 TX13 27, w ∈ wsX13_catPart := by decide +kernel
  have hw1 := hts (.fieldLink RX13 7 "BalconyCensusModel" "now" "[I") (by decide +kernel)
  refine lv_aload_n hx hb dX13_catPart_0 rfl (lv_at hl 0 rfl) ?_
  refine va_get (D := D) (ci := 11) (v := .ref (q0 1)) (C := RX13) (T := TX13) (N := 27) hx hb hts hi11 hown hK hP 0 rfl rfl 0 (by decide) hw1 (fun _ h9 => h9) rfl dX13_catPart_1 ?_
  refine lv_sipush (v := 208) hx hb dX13_catPart_4 (by decide +kernel) ?_
  refine lv_iconst (v := 3) hx hb dX13_catPart_7 (by decide) ?_
  refine lv_iload_n hx hb dX13_catPart_8 rfl (lv_at hl 1 rfl) ?_
  refine lv_imul hx hb dX13_catPart_9 ?_
  refine lv_iadd hx hb dX13_catPart_10 ?_
  refine lv_iload_n hx hb dX13_catPart_11 rfl (lv_at hl 2 rfl) ?_
  refine lv_iadd hx hb dX13_catPart_12 ?_
  obtain ⟨hin, hf⟩ := ckI_of hf
  refine va_iald (D := D) hx hb hK hP 1 0 rfl rfl hin dX13_catPart_13 ?_
  obtain rfl := re1 hf
  exact hE hP hD hS dX13_catPart_14
def f_X13_catOn_K2 (y_6 : Int32) : Option Int32 :=
  some (-4)
def f_X13_catOn_B2 (v0 : SV) (a1 : Int32) (selfL_4 : (Int32 → Option Int32)) (x_3 : Int32) : Option Int32 :=
  ckI 1 240 <|
  if (v0.2 0 (1 : Int32).toNatClampNeg) ≤ x_3 then
    f_X13_catOn_K2 x_3
  else
    bd1 (f_X13_catPart x_3 0 v0) fun r_5 =>
    if r_5 = a1 then
      some x_3
    else
      selfL_4 (x_3 + 1)
def f_X13_catOn (a1 : Int32) (v0 : SV) : Option Int32 :=
  lz1 (f_X13_catOn_B2 v0 a1) FU 0
abbrev rm_X13_catOn : Room := { frames := 1, cells := 0, slots := 0, locals := 22 }
set_option maxHeartbeats 4000000 in
set_option maxRecDepth 100000 in
theorem c_X13_catOn (l : Launch) (D : va_G) (G : Nat → ClassId) (q0 : Nat → Nat) (a1 : Int32) (v0 : SV) (r : Int32) (hf : f_X13_catOn a1 v0 = some r) (sz : Nat) : mC l yX13_catOn wsX13_catOn rm_X13_catOn D (tyG G) kT [.ref (q0 0), .int a1] (kModel G q0 v0) (kModel G q0 v0) sz (some (.int r)) 0 0 := by
  refine mC_ofI (cc := cX13_catOn) (maxL := 3) (ret := (some .int)) (by decide) rfl rfl (Nat.le_of_ble_eq_true rfl) ?_
  intro p e s m args below meth c Q0 hx hb hml hts hown hN hK A hD hA hE hP hS hJ ls hl
  have hl : lv_has ls 3 [(0, .ref (q0 0)), (1, .int a1)] := hl
  unfold f_X13_catOn at hf
  have hi11 : ∀ w ∈ u_ws RX13 TX13 27, w ∈ wsX13_catOn := by decide +kernel
  have hw1 := hts (.fieldLink RX13 7 "BalconyCensusModel" "now" "[I") (by decide +kernel)
  refine lv_iconst (v := 0) hx hb dX13_catOn_0 (by decide) ?_
  refine lv_istore_n (lv' := [(2, .int 0), (0, .ref (q0 0)), (1, .int a1)]) hx hb dX13_catOn_1 rfl hl (by decide) rfl (fun ls hl => ?_)
  have exL_4 : ∀ (y_6 : Int32) (H : Heap) (locs : List Loc) (ls : Array Slot), lv_has ls 3 [(2, .int y_6), (0, .ref (q0 0)), (1, .int a1)] → va_P D vwCl (kModel G q0 v0) H → va_D A (kModel G q0 v0) → va_S A s.heap H locs → f_X13_catOn_K2 y_6 = some r → W p l e rm_X13_catOn s m args below meth c H locs 0 0 Q0 (F0 m 30 ls []) := by
    intro y_6 H locs ls hl hP hD hS hf
    unfold f_X13_catOn_K2 at hf
    refine lv_bipush (v := (-4)) hx hb dX13_catOn_30 (by decide +kernel) ?_
    obtain rfl := re1 hf
    exact hE hP hD hS dX13_catOn_32
  have loL_4 : ∀ (n : Nat) (x_3 : Int32) (H : Heap) (locs : List Loc) (ls : Array Slot), lv_has ls 3 [(2, .int x_3), (0, .ref (q0 0)), (1, .int a1)] → va_P D vwCl (kModel G q0 v0) H → va_D A (kModel G q0 v0) → va_S A s.heap H locs → lz1 (f_X13_catOn_B2 v0 a1) n x_3 = some r → W p l e rm_X13_catOn s m args below meth c H locs 0 0 Q0 (F0 m 2 ls []) := by
    intro n
    induction n with
    | zero => intro x_3 H locs ls hl hP hD hS hf; cases hf
    | succ n ihL_4 =>
      intro x_3 H locs ls hl hP hD hS hf
      replace hf := lz1_s hf
      unfold f_X13_catOn_B2 at hf
      refine lv_iload_n hx hb dX13_catOn_2 rfl (lv_at hl 0 rfl) ?_
      refine lv_aload_n hx hb dX13_catOn_3 rfl (lv_at hl 1 rfl) ?_
      refine va_get (D := D) (ci := 11) (v := .ref (q0 1)) (C := RX13) (T := TX13) (N := 27) hx hb hts hi11 hown hK hP 0 rfl rfl 0 (by decide) hw1 (fun _ h9 => h9) rfl dX13_catOn_4 ?_
      refine lv_iconst (v := 1) hx hb dX13_catOn_7 (by decide) ?_
      obtain ⟨hin, hf⟩ := ckI_of hf
      refine va_iald (D := D) hx hb hK hP 1 0 rfl rfl hin dX13_catOn_8 ?_
      refine lv_icmp_ge (tgt := 30) hx hb dX13_catOn_9 (by decide) (fun cc => ?_) (fun cc => ?_)
      · replace hf := ifT cc hf
        exact exL_4 x_3 _ _ _ (lv_sub hl [0, 1, 2] rfl) hP hD hS hf
      · replace hf := ifF cc hf
        refine lv_aload_n hx hb dX13_catOn_12 rfl (lv_at hl 1 rfl) ?_
        refine lv_iload_n hx hb dX13_catOn_13 rfl (lv_at hl 0 rfl) ?_
        refine lv_iconst (v := 0) hx hb dX13_catOn_14 (by decide) ?_
        obtain ⟨r_5, hc, hf⟩ := bd1_of hf
        refine k_V (As := [.int x_3, .int 0]) (rest := []) (ws1 := (kModel G q0 v0)) ⟨hx, hb, hml, hown, hts⟩ (c_X13_catPart l D G q0 x_3 0 v0 _ hc  _) (cwV 2 hts gX13_catOn_X13_catPart rfl rfl rfl (by decide +kernel) ⟨Nat.le_of_ble_eq_true rfl, Nat.le_of_ble_eq_true rfl⟩) hl.1 (Nat.le_of_ble_eq_true rfl) dX13_catOn_15 ⟨Nat.le_of_ble_eq_true rfl, Nat.le_of_ble_eq_true rfl⟩ rfl kT_bl (fun _ _ _ => trivial) hN hK hP hD hS hA 0 11 rfl rfl rfl [0, 1, 2, 3, 4, 5, 6, 7, 8, 9, 10, 11] [] [0, 1, 2, 3, 4, 5, 6, 7, 8, 9, 10, 11] [0, 1, 2, 3] rfl rfl rfl ⟨by decide, by decide, by decide, by decide⟩ rfl (fun H locs hP hD hS => ?_)
        refine lv_iload_n hx hb dX13_catOn_18 rfl (lv_at hl 2 rfl) ?_
        refine lv_icmp_ne (tgt := 24) hx hb dX13_catOn_19 (by decide) (fun cc => ?_) (fun cc => ?_)
        · replace hf := ifF cc hf
          refine lv_iinc (v := (x_3 + 1)) (lv' := [(2, .int (x_3 + 1)), (0, .ref (q0 0)), (1, .int a1)]) hx hb dX13_catOn_24 hl (k := 0) rfl rfl (by decide) rfl (fun ls hl => ?_)
          refine lv_goto (tgt := 2) hx hb dX13_catOn_27 (by decide) ?_
          exact ihL_4 (x_3 + 1) _ _ _ (lv_sub hl [0, 1, 2] rfl) hP hD hS hf
        · replace hf := ifT cc hf
          refine lv_iload_n hx hb dX13_catOn_22 rfl (lv_at hl 0 rfl) ?_
          obtain rfl := re1 hf
          exact hE hP hD hS dX13_catOn_23
  exact loL_4 FU 0 _ _ _ hl hP hD hS hf
def f_X13_isRefusedCat (a1 : Int32) (v0 : SV) : Option (Int32 × SV) :=
  bd1 (f_X13_catOn a1 v0) fun r_1 =>
  if r_1 < 0 then
    ckI 1 240 <|
    if (v0.2 0 (1 : Int32).toNatClampNeg) = 6 then
      bd2 (f_X13_isBad 1 6 v0) fun r_2 w_3 =>
      if r_2 = 0 then
        some (0, w_3)
      else
        some (1, w_3)
    else
      some (0, v0)
  else
    bd1 (f_X13_catOn a1 v0) fun r_4 =>
    bd2 (f_X13_isBad 8 r_4 v0) fun r_5 w_6 =>
    ckB r_5 <|
    some (r_5, w_6)
abbrev rm_X13_isRefusedCat : Room := { frames := 2, cells := 0, slots := 0, locals := 44 }
set_option maxHeartbeats 4000000 in
set_option maxRecDepth 100000 in
theorem c_X13_isRefusedCat (l : Launch) (D : va_G) (G : Nat → ClassId) (q0 : Nat → Nat) (a1 : Int32) (v0 : SV) (r : Int32) (v0' : SV) (hf : f_X13_isRefusedCat a1 v0 = some (r, v0')) (sz : Nat) : mC l yX13_isRefusedCat wsX13_isRefusedCat rm_X13_isRefusedCat D (tyG G) kT [.ref (q0 0), .int a1] (kModel G q0 v0) (kModel G q0 v0') sz (some (.int r)) 0 0 := by
  refine mC_ofZ (cc := cX13_isRefusedCat) (maxL := 2) (ret := (some .boolean)) (by decide) rfl rfl (Nat.le_of_ble_eq_true rfl) ?_
  intro p e s m args below meth c Q0 hx hb hml hts hown hN hK A hD hA hE hP hS hJ ls hl
  have hl : lv_has ls 2 [(0, .ref (q0 0)), (1, .int a1)] := hl
  unfold f_X13_isRefusedCat at hf
  have hi11 : ∀ w ∈ u_ws RX13 TX13 27, w ∈ wsX13_isRefusedCat := by decide +kernel
  have hw1 := hts (.fieldLink RX13 7 "BalconyCensusModel" "now" "[I") (by decide +kernel)
  refine lv_aload_n hx hb dX13_isRefusedCat_0 rfl (lv_at hl 0 rfl) ?_
  refine lv_iload_n hx hb dX13_isRefusedCat_1 rfl (lv_at hl 1 rfl) ?_
  obtain ⟨r_1, hc, hf⟩ := bd1_of hf
  refine k_V (As := [.int a1]) (rest := []) (ws1 := (kModel G q0 v0)) ⟨hx, hb, hml, hown, hts⟩ (c_X13_catOn l D G q0 a1 v0 _ hc  _) (cwV 1 hts gX13_isRefusedCat_X13_catOn rfl rfl rfl (by decide +kernel) ⟨Nat.le_of_ble_eq_true rfl, Nat.le_of_ble_eq_true rfl⟩) hl.1 (Nat.le_of_ble_eq_true rfl) dX13_isRefusedCat_2 ⟨Nat.le_of_ble_eq_true rfl, Nat.le_of_ble_eq_true rfl⟩ rfl kT_bl (fun _ _ _ => trivial) hN hK hP hD hS hA 0 11 rfl rfl rfl [0, 1, 2, 3, 4, 5, 6, 7, 8, 9, 10, 11] [] [0, 1, 2, 3, 4, 5, 6, 7, 8, 9, 10, 11] [0, 1, 2, 3] rfl rfl rfl ⟨by decide, by decide, by decide, by decide⟩ rfl (fun H locs hP hD hS => ?_)
  refine lv_if_lt (tgt := 20) hx hb dX13_isRefusedCat_5 (by decide) (fun cc => ?_) (fun cc => ?_)
  · replace hf := ifT cc hf
    refine lv_aload_n hx hb dX13_isRefusedCat_20 rfl (lv_at hl 0 rfl) ?_
    refine va_get (D := D) (ci := 11) (v := .ref (q0 1)) (C := RX13) (T := TX13) (N := 27) hx hb hts hi11 hown hK hP 0 rfl rfl 0 (by decide) hw1 (fun _ h9 => h9) rfl dX13_isRefusedCat_21 ?_
    refine lv_iconst (v := 1) hx hb dX13_isRefusedCat_24 (by decide) ?_
    obtain ⟨hin, hf⟩ := ckI_of hf
    refine va_iald (D := D) hx hb hK hP 1 0 rfl rfl hin dX13_isRefusedCat_25 ?_
    refine lv_bipush (v := 6) hx hb dX13_isRefusedCat_26 (by decide +kernel) ?_
    refine lv_icmp_ne (tgt := 45) hx hb dX13_isRefusedCat_28 (by decide) (fun cc => ?_) (fun cc => ?_)
    · replace hf := ifF cc hf
      refine lv_iconst (v := 0) hx hb dX13_isRefusedCat_45 (by decide) ?_
      obtain ⟨rfl, rfl⟩ := re2 hf
      exact hE (.inl rfl) hP hD hS dX13_isRefusedCat_46
    · replace hf := ifT cc hf
      refine lv_aload_n hx hb dX13_isRefusedCat_31 rfl (lv_at hl 0 rfl) ?_
      refine lv_iconst (v := 1) hx hb dX13_isRefusedCat_32 (by decide) ?_
      refine lv_bipush (v := 6) hx hb dX13_isRefusedCat_33 (by decide +kernel) ?_
      obtain ⟨r_2, w_3, hc, hf⟩ := bd2_of hf
      refine k_V (As := [.int 1, .int 6]) (rest := []) (ws1 := (kModel G q0 w_3)) ⟨hx, hb, hml, hown, hts⟩ (c_X13_isBad l D G q0 1 6 v0 _ _ hc  _) (cwV 2 hts gX13_isRefusedCat_X13_isBad rfl rfl rfl (by decide +kernel) ⟨Nat.le_of_ble_eq_true rfl, Nat.le_of_ble_eq_true rfl⟩) hl.1 (Nat.le_of_ble_eq_true rfl) dX13_isRefusedCat_35 ⟨Nat.le_of_ble_eq_true rfl, Nat.le_of_ble_eq_true rfl⟩ rfl kT_bl (fun _ _ _ => trivial) hN hK hP hD hS hA 0 11 rfl rfl rfl [0, 1, 2, 3, 4, 5, 6, 7, 8, 9, 10, 11] [] [0, 1, 2, 3, 4, 5, 6, 7, 8, 9, 10, 11] [0, 1, 2, 3] rfl rfl rfl ⟨by decide, by decide, by decide, by decide⟩ rfl (fun H locs hP hD hS => ?_)
      refine lv_if_eq (tgt := 45) hx hb dX13_isRefusedCat_38 (by decide) (fun cc => ?_) (fun cc => ?_)
      · replace hf := ifT cc hf
        refine lv_iconst (v := 0) hx hb dX13_isRefusedCat_45 (by decide) ?_
        obtain ⟨rfl, rfl⟩ := re2 hf
        exact hE (.inl rfl) hP hD hS dX13_isRefusedCat_46
      · replace hf := ifF cc hf
        refine lv_iconst (v := 1) hx hb dX13_isRefusedCat_41 (by decide) ?_
        refine lv_goto (tgt := 46) hx hb dX13_isRefusedCat_42 (by decide) ?_
        obtain ⟨rfl, rfl⟩ := re2 hf
        exact hE (.inr rfl) hP hD hS dX13_isRefusedCat_46
  · replace hf := ifF cc hf
    refine lv_aload_n hx hb dX13_isRefusedCat_8 rfl (lv_at hl 0 rfl) ?_
    refine lv_bipush (v := 8) hx hb dX13_isRefusedCat_9 (by decide +kernel) ?_
    refine lv_aload_n hx hb dX13_isRefusedCat_11 rfl (lv_at hl 0 rfl) ?_
    refine lv_iload_n hx hb dX13_isRefusedCat_12 rfl (lv_at hl 1 rfl) ?_
    obtain ⟨r_4, hc, hf⟩ := bd1_of hf
    refine k_V (As := [.int a1]) (rest := [.int 8, .ref (q0 0)]) (ws1 := (kModel G q0 v0)) ⟨hx, hb, hml, hown, hts⟩ (c_X13_catOn l D G q0 a1 v0 _ hc  _) (cwV 1 hts gX13_isRefusedCat_X13_catOn rfl rfl rfl (by decide +kernel) ⟨Nat.le_of_ble_eq_true rfl, Nat.le_of_ble_eq_true rfl⟩) hl.1 (Nat.le_of_ble_eq_true rfl) dX13_isRefusedCat_13 ⟨Nat.le_of_ble_eq_true rfl, Nat.le_of_ble_eq_true rfl⟩ rfl kT_bl (fun _ _ _ => trivial) hN hK hP hD hS hA 0 11 rfl rfl rfl [0, 1, 2, 3, 4, 5, 6, 7, 8, 9, 10, 11] [] [0, 1, 2, 3, 4, 5, 6, 7, 8, 9, 10, 11] [0, 1, 2, 3] rfl rfl rfl ⟨by decide, by decide, by decide, by decide⟩ rfl (fun H locs hP hD hS => ?_)
    obtain ⟨r_5, w_6, hc, hf⟩ := bd2_of hf
    refine k_V (As := [.int 8, .int r_4]) (rest := []) (ws1 := (kModel G q0 w_6)) ⟨hx, hb, hml, hown, hts⟩ (c_X13_isBad l D G q0 8 r_4 v0 _ _ hc  _) (cwV 2 hts gX13_isRefusedCat_X13_isBad rfl rfl rfl (by decide +kernel) ⟨Nat.le_of_ble_eq_true rfl, Nat.le_of_ble_eq_true rfl⟩) hl.1 (Nat.le_of_ble_eq_true rfl) dX13_isRefusedCat_16 ⟨Nat.le_of_ble_eq_true rfl, Nat.le_of_ble_eq_true rfl⟩ rfl kT_bl (fun _ _ _ => trivial) hN hK hP hD hS hA 0 11 rfl rfl rfl [0, 1, 2, 3, 4, 5, 6, 7, 8, 9, 10, 11] [] [0, 1, 2, 3, 4, 5, 6, 7, 8, 9, 10, 11] [0, 1, 2, 3] rfl rfl rfl ⟨by decide, by decide, by decide, by decide⟩ rfl (fun H locs hP hD hS => ?_)
    obtain ⟨h01, hf⟩ := ckB_of hf
    obtain ⟨rfl, rfl⟩ := re2 hf
    exact hE h01 hP hD hS dX13_isRefusedCat_19
def f_X13_comes (a1 : Int32) (v0 : SV) : Option (Int32 × SV) :=
  ckI 1 240 <|
  nm (v0.2 0 (1 : Int32).toNatClampNeg) fun t_1 =>
  ckI (208 + (3 * t_1)) 240 <|
  nm (pA v0 0 (208 + (3 * t_1)) a1) fun v_2 =>
  ckI ((208 + (3 * t_1)) + 1) 240 <|
  nm (pA v_2 0 ((208 + (3 * t_1)) + 1) a1) fun v_3 =>
  ckI ((208 + (3 * t_1)) + 2) 240 <|
  nm (pA v_3 0 ((208 + (3 * t_1)) + 2) 0) fun v_4 =>
  ckI 1 240 <|
  ckI 1 240 <|
  nm (pA v_4 0 1 ((v_4.2 0 (1 : Int32).toNatClampNeg) + 1)) fun v_5 =>
  some (t_1, v_5)
abbrev rm_X13_comes : Room := { frames := 0, cells := 0, slots := 0, locals := 0 }
set_option maxHeartbeats 4000000 in
set_option maxRecDepth 100000 in
theorem c_X13_comes (l : Launch) (D : va_G) (G : Nat → ClassId) (q0 : Nat → Nat) (a1 : Int32) (v0 : SV) (r : Int32) (v0' : SV) (hf : f_X13_comes a1 v0 = some (r, v0')) (sz : Nat) : mC l yX13_comes wsX13_comes rm_X13_comes D (tyG G) kT [.ref (q0 0), .int a1] (kModel G q0 v0) (kModel G q0 v0') sz (some (.int r)) 0 0 := by
  refine mC_ofI (cc := cX13_comes) (maxL := 3) (ret := (some .int)) (by decide) rfl rfl (Nat.le_of_ble_eq_true rfl) ?_
  intro p e s m args below meth c Q0 hx hb hml hts hown hN hK A hD hA hE hP hS hJ ls hl
  have hl : lv_has ls 3 [(0, .ref (q0 0)), (1, .int a1)] := hl
  unfold f_X13_comes at hf
  have hi11 : ∀ w ∈ u_ws RX13 TX13 27, w ∈ wsX13_comes := by decide +kernel
  have hw1 := hts (.fieldLink RX13 7 "BalconyCensusModel" "now" "[I") (by decide +kernel)
  refine lv_aload_n hx hb dX13_comes_0 rfl (lv_at hl 0 rfl) ?_
  refine va_get (D := D) (ci := 11) (v := .ref (q0 1)) (C := RX13) (T := TX13) (N := 27) hx hb hts hi11 hown hK hP 0 rfl rfl 0 (by decide) hw1 (fun _ h9 => h9) rfl dX13_comes_1 ?_
  refine lv_iconst (v := 1) hx hb dX13_comes_4 (by decide) ?_
  obtain ⟨hin, hf⟩ := ckI_of hf
  refine va_iald (D := D) hx hb hK hP 1 0 rfl rfl hin dX13_comes_5 ?_
  obtain ⟨t_1, et_1, hf⟩ := nm_of hf
  rw [← et_1]
  refine lv_istore_n (lv' := [(2, .int t_1), (0, .ref (q0 0)), (1, .int a1)]) hx hb dX13_comes_6 rfl hl (by decide) rfl (fun ls hl => ?_)
  refine lv_aload_n hx hb dX13_comes_7 rfl (lv_at hl 1 rfl) ?_
  refine va_get (D := D) (ci := 11) (v := .ref (q0 1)) (C := RX13) (T := TX13) (N := 27) hx hb hts hi11 hown hK hP 0 rfl rfl 0 (by decide) hw1 (fun _ h9 => h9) rfl dX13_comes_8 ?_
  refine lv_sipush (v := 208) hx hb dX13_comes_11 (by decide +kernel) ?_
  refine lv_iconst (v := 3) hx hb dX13_comes_14 (by decide) ?_
  refine lv_iload_n hx hb dX13_comes_15 rfl (lv_at hl 0 rfl) ?_
  refine lv_imul hx hb dX13_comes_16 ?_
  refine lv_iadd hx hb dX13_comes_17 ?_
  refine lv_iload_n hx hb dX13_comes_18 rfl (lv_at hl 2 rfl) ?_
  obtain ⟨hin, hf⟩ := ckI_of hf
  obtain ⟨v_2, ev_2, hf⟩ := nm_of hf
  refine va_iast (D := D) hx hb hK hP hD hS 1 0 rfl rfl hin dX13_comes_19 (fun H locs hP hD hS => ?_)
  have hP : va_P D vwCl (kModel G q0 v_2) H := by rw [ev_2]; exact hP
  have hD : va_D A (kModel G q0 v_2) := by rw [ev_2]; exact hD
  refine lv_aload_n hx hb dX13_comes_20 rfl (lv_at hl 1 rfl) ?_
  refine va_get (D := D) (ci := 11) (v := .ref (q0 1)) (C := RX13) (T := TX13) (N := 27) hx hb hts hi11 hown hK hP 0 rfl rfl 0 (by decide) hw1 (fun _ h9 => h9) rfl dX13_comes_21 ?_
  refine lv_sipush (v := 208) hx hb dX13_comes_24 (by decide +kernel) ?_
  refine lv_iconst (v := 3) hx hb dX13_comes_27 (by decide) ?_
  refine lv_iload_n hx hb dX13_comes_28 rfl (lv_at hl 0 rfl) ?_
  refine lv_imul hx hb dX13_comes_29 ?_
  refine lv_iadd hx hb dX13_comes_30 ?_
  refine lv_iconst (v := 1) hx hb dX13_comes_31 (by decide) ?_
  refine lv_iadd hx hb dX13_comes_32 ?_
  refine lv_iload_n hx hb dX13_comes_33 rfl (lv_at hl 2 rfl) ?_
  obtain ⟨hin, hf⟩ := ckI_of hf
  obtain ⟨v_3, ev_3, hf⟩ := nm_of hf
  refine va_iast (D := D) hx hb hK hP hD hS 1 0 rfl rfl hin dX13_comes_34 (fun H locs hP hD hS => ?_)
  have hP : va_P D vwCl (kModel G q0 v_3) H := by rw [ev_3]; exact hP
  have hD : va_D A (kModel G q0 v_3) := by rw [ev_3]; exact hD
  refine lv_aload_n hx hb dX13_comes_35 rfl (lv_at hl 1 rfl) ?_
  refine va_get (D := D) (ci := 11) (v := .ref (q0 1)) (C := RX13) (T := TX13) (N := 27) hx hb hts hi11 hown hK hP 0 rfl rfl 0 (by decide) hw1 (fun _ h9 => h9) rfl dX13_comes_36 ?_
  refine lv_sipush (v := 208) hx hb dX13_comes_39 (by decide +kernel) ?_
  refine lv_iconst (v := 3) hx hb dX13_comes_42 (by decide) ?_
  refine lv_iload_n hx hb dX13_comes_43 rfl (lv_at hl 0 rfl) ?_
  refine lv_imul hx hb dX13_comes_44 ?_
  refine lv_iadd hx hb dX13_comes_45 ?_
  refine lv_iconst (v := 2) hx hb dX13_comes_46 (by decide) ?_
  refine lv_iadd hx hb dX13_comes_47 ?_
  refine lv_iconst (v := 0) hx hb dX13_comes_48 (by decide) ?_
  obtain ⟨hin, hf⟩ := ckI_of hf
  obtain ⟨v_4, ev_4, hf⟩ := nm_of hf
  refine va_iast (D := D) hx hb hK hP hD hS 1 0 rfl rfl hin dX13_comes_49 (fun H locs hP hD hS => ?_)
  have hP : va_P D vwCl (kModel G q0 v_4) H := by rw [ev_4]; exact hP
  have hD : va_D A (kModel G q0 v_4) := by rw [ev_4]; exact hD
  refine lv_aload_n hx hb dX13_comes_50 rfl (lv_at hl 1 rfl) ?_
  refine va_get (D := D) (ci := 11) (v := .ref (q0 1)) (C := RX13) (T := TX13) (N := 27) hx hb hts hi11 hown hK hP 0 rfl rfl 0 (by decide) hw1 (fun _ h9 => h9) rfl dX13_comes_51 ?_
  refine lv_iconst (v := 1) hx hb dX13_comes_54 (by decide) ?_
  refine lv_dup2_11 hx hb dX13_comes_55 rfl rfl ?_
  obtain ⟨hin, hf⟩ := ckI_of hf
  refine va_iald (D := D) hx hb hK hP 1 0 rfl rfl hin dX13_comes_56 ?_
  refine lv_iconst (v := 1) hx hb dX13_comes_57 (by decide) ?_
  refine lv_iadd hx hb dX13_comes_58 ?_
  obtain ⟨hin, hf⟩ := ckI_of hf
  obtain ⟨v_5, ev_5, hf⟩ := nm_of hf
  refine va_iast (D := D) hx hb hK hP hD hS 1 0 rfl rfl hin dX13_comes_59 (fun H locs hP hD hS => ?_)
  have hP : va_P D vwCl (kModel G q0 v_5) H := by rw [ev_5]; exact hP
  have hD : va_D A (kModel G q0 v_5) := by rw [ev_5]; exact hD
  refine lv_iload_n hx hb dX13_comes_60 rfl (lv_at hl 0 rfl) ?_
  obtain ⟨rfl, rfl⟩ := re2 hf
  exact hE hP hD hS dX13_comes_61
