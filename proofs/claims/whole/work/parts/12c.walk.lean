/-! Walks, laid by wip/whole/gen.py: for each method f_ (what it does to its world) and c_ (its contract). -/
def f_X13_hang (a1 : Int32) (a2 : Int32) (a3 : Int32) (v0 : SV) : Option (Int32 × SV) :=
  bd1 (f_X13_begins v0) fun w_1 =>
  bd1 (f_X13_areTwo a1 a2) fun r_2 =>
  if r_2 = 0 then
    some ((-1), w_1)
  else
    bd1 (f_X13_areMany a3) fun r_3 =>
    if r_3 = 0 then
      some ((-2), w_1)
    else
      bd2 (f_X13_isRefusedHang a1 a2 w_1) fun r_4 w_5 =>
      if r_4 = 0 then
        bd2 (f_X13_hangs a1 a2 a3 w_5) fun r_6 w_7 =>
        bd2 (f_X13_keeps r_6 w_7) fun r_8 w_9 =>
        some (r_8, w_9)
      else
        bd2 (f_X13_refused w_5) fun r_10 w_11 =>
        some (r_10, w_11)
abbrev rm_X13_hang : Room := { frames := 3, cells := 0, slots := 0, locals := 67 }
set_option maxHeartbeats 4000000 in
set_option maxRecDepth 100000 in
theorem c_X13_hang (l : Launch) (D : va_G) (G : Nat → ClassId) (q0 : Nat → Nat) (a1 : Int32) (a2 : Int32) (a3 : Int32) (v0 : SV) (r : Int32) (v0' : SV) (hf : f_X13_hang a1 a2 a3 v0 = some (r, v0')) (sz : Nat) : mC l yX13_hang wsX13_hang rm_X13_hang D (tyG G) kT [.ref (q0 0), .int a1, .int a2, .int a3] (kModel G q0 v0) (kModel G q0 v0') sz (some (.int r)) 0 0 := by
  refine mC_ofI (cc := cX13_hang) (maxL := 4) (ret := (some .int)) (by decide) rfl rfl (Nat.le_of_ble_eq_true rfl) ?_
  intro p e s m args below meth c Q0 hx hb hml hts hown hN hK A hD hA hE hP hS hJ ls hl
  have hl : lv_has ls 4 [(0, .ref (q0 0)), (1, .int a1), (2, .int a2), (3, .int a3)] := hl
  unfold f_X13_hang at hf
  refine lv_aload_n hx hb dX13_hang_0 rfl (lv_at hl 0 rfl) ?_
  obtain ⟨w_1, hc, hf⟩ := bd1_of hf
  refine k_V (As := []) (rest := []) (ws1 := (kModel G q0 w_1)) ⟨hx, hb, hml, hown, hts⟩ (c_X13_begins l D G q0  v0 _ hc  _) (cwV 0 hts gX13_hang_X13_begins rfl rfl rfl (by decide +kernel) ⟨Nat.le_of_ble_eq_true rfl, Nat.le_of_ble_eq_true rfl⟩) hl.1 (Nat.le_of_ble_eq_true rfl) dX13_hang_1 ⟨Nat.le_of_ble_eq_true rfl, Nat.le_of_ble_eq_true rfl⟩ rfl kT_bl (fun _ _ _ => trivial) hN hK hP hD hS hA 0 11 rfl rfl rfl [0, 1, 2, 3, 4, 5, 6, 7, 8, 9, 10, 11] [] [0, 1, 2, 3, 4, 5, 6, 7, 8, 9, 10, 11] [0, 1, 2, 3] rfl rfl rfl ⟨by decide, by decide, by decide, by decide⟩ rfl (fun H locs hP hD hS => ?_)
  refine lv_iload_n hx hb dX13_hang_4 rfl (lv_at hl 1 rfl) ?_
  refine lv_iload_n hx hb dX13_hang_5 rfl (lv_at hl 2 rfl) ?_
  obtain ⟨r_2, hc, hf⟩ := bd1_of hf
  refine k_S (As := [.int a1, .int a2]) (rest := []) (ws1 := (kModel G q0 w_1)) ⟨hx, hb, hml, hown, hts⟩ (c_X13_areTwo l D G  a1 a2  _ hc  _) (va_cwS 2 hts gX13_hang_X13_areTwo rfl rfl rfl (by decide +kernel) ⟨Nat.le_of_ble_eq_true rfl, Nat.le_of_ble_eq_true rfl⟩) hl.1 (Nat.le_of_ble_eq_true rfl) dX13_hang_6 ⟨Nat.le_of_ble_eq_true rfl, Nat.le_of_ble_eq_true rfl⟩ rfl kT_bl (fun _ _ _ => trivial) hN hK hP hD hS hA [] [0, 1, 2, 3, 4, 5, 6, 7, 8, 9, 10, 11] [0, 1, 2, 3, 4, 5, 6, 7, 8, 9, 10, 11] [0, 1, 2, 3] rfl rfl rfl ⟨by decide, by decide, by decide, by decide⟩ rfl (fun H locs hP hD hS => ?_)
  refine lv_if_ne (tgt := 14) hx hb dX13_hang_9 (by decide) (fun cc => ?_) (fun cc => ?_)
  · replace hf := ifF cc hf
    refine lv_iload_n hx hb dX13_hang_14 rfl (lv_at hl 3 rfl) ?_
    obtain ⟨r_3, hc, hf⟩ := bd1_of hf
    refine k_S (As := [.int a3]) (rest := []) (ws1 := (kModel G q0 w_1)) ⟨hx, hb, hml, hown, hts⟩ (c_X13_areMany l D G  a3  _ hc  _) (va_cwS 1 hts gX13_hang_X13_areMany rfl rfl rfl (by decide +kernel) ⟨Nat.le_of_ble_eq_true rfl, Nat.le_of_ble_eq_true rfl⟩) hl.1 (Nat.le_of_ble_eq_true rfl) dX13_hang_15 ⟨Nat.le_of_ble_eq_true rfl, Nat.le_of_ble_eq_true rfl⟩ rfl kT_bl (fun _ _ _ => trivial) hN hK hP hD hS hA [] [0, 1, 2, 3, 4, 5, 6, 7, 8, 9, 10, 11] [0, 1, 2, 3, 4, 5, 6, 7, 8, 9, 10, 11] [0, 1, 2, 3] rfl rfl rfl ⟨by decide, by decide, by decide, by decide⟩ rfl (fun H locs hP hD hS => ?_)
    refine lv_if_ne (tgt := 24) hx hb dX13_hang_18 (by decide) (fun cc => ?_) (fun cc => ?_)
    · replace hf := ifF cc hf
      refine lv_aload_n hx hb dX13_hang_24 rfl (lv_at hl 0 rfl) ?_
      refine lv_iload_n hx hb dX13_hang_25 rfl (lv_at hl 1 rfl) ?_
      refine lv_iload_n hx hb dX13_hang_26 rfl (lv_at hl 2 rfl) ?_
      obtain ⟨r_4, w_5, hc, hf⟩ := bd2_of hf
      refine k_V (As := [.int a1, .int a2]) (rest := []) (ws1 := (kModel G q0 w_5)) ⟨hx, hb, hml, hown, hts⟩ (c_X13_isRefusedHang l D G q0 a1 a2 w_1 _ _ hc  _) (cwV 2 hts gX13_hang_X13_isRefusedHang rfl rfl rfl (by decide +kernel) ⟨Nat.le_of_ble_eq_true rfl, Nat.le_of_ble_eq_true rfl⟩) hl.1 (Nat.le_of_ble_eq_true rfl) dX13_hang_27 ⟨Nat.le_of_ble_eq_true rfl, Nat.le_of_ble_eq_true rfl⟩ rfl kT_bl (fun _ _ _ => trivial) hN hK hP hD hS hA 0 11 rfl rfl rfl [0, 1, 2, 3, 4, 5, 6, 7, 8, 9, 10, 11] [] [0, 1, 2, 3, 4, 5, 6, 7, 8, 9, 10, 11] [0, 1, 2, 3] rfl rfl rfl ⟨by decide, by decide, by decide, by decide⟩ rfl (fun H locs hP hD hS => ?_)
      refine lv_if_eq (tgt := 40) hx hb dX13_hang_30 (by decide) (fun cc => ?_) (fun cc => ?_)
      · replace hf := ifT cc hf
        refine lv_aload_n hx hb dX13_hang_40 rfl (lv_at hl 0 rfl) ?_
        refine lv_aload_n hx hb dX13_hang_41 rfl (lv_at hl 0 rfl) ?_
        refine lv_iload_n hx hb dX13_hang_42 rfl (lv_at hl 1 rfl) ?_
        refine lv_iload_n hx hb dX13_hang_43 rfl (lv_at hl 2 rfl) ?_
        refine lv_iload_n hx hb dX13_hang_44 rfl (lv_at hl 3 rfl) ?_
        obtain ⟨r_6, w_7, hc, hf⟩ := bd2_of hf
        refine k_V (As := [.int a1, .int a2, .int a3]) (rest := [.ref (q0 0)]) (ws1 := (kModel G q0 w_7)) ⟨hx, hb, hml, hown, hts⟩ (c_X13_hangs l D G q0 a1 a2 a3 w_5 _ _ hc  _) (cwV 3 hts gX13_hang_X13_hangs rfl rfl rfl (by decide +kernel) ⟨Nat.le_of_ble_eq_true rfl, Nat.le_of_ble_eq_true rfl⟩) hl.1 (Nat.le_of_ble_eq_true rfl) dX13_hang_45 ⟨Nat.le_of_ble_eq_true rfl, Nat.le_of_ble_eq_true rfl⟩ rfl kT_bl (fun _ _ _ => trivial) hN hK hP hD hS hA 0 11 rfl rfl rfl [0, 1, 2, 3, 4, 5, 6, 7, 8, 9, 10, 11] [] [0, 1, 2, 3, 4, 5, 6, 7, 8, 9, 10, 11] [0, 1, 2, 3] rfl rfl rfl ⟨by decide, by decide, by decide, by decide⟩ rfl (fun H locs hP hD hS => ?_)
        obtain ⟨r_8, w_9, hc, hf⟩ := bd2_of hf
        refine k_V (As := [.int r_6]) (rest := []) (ws1 := (kModel G q0 w_9)) ⟨hx, hb, hml, hown, hts⟩ (c_X13_keeps l D G q0 r_6 w_7 _ _ hc  _) (cwV 1 hts gX13_hang_X13_keeps rfl rfl rfl (by decide +kernel) ⟨Nat.le_of_ble_eq_true rfl, Nat.le_of_ble_eq_true rfl⟩) hl.1 (Nat.le_of_ble_eq_true rfl) dX13_hang_48 ⟨Nat.le_of_ble_eq_true rfl, Nat.le_of_ble_eq_true rfl⟩ rfl kT_bl (fun _ _ _ => trivial) hN hK hP hD hS hA 0 11 rfl rfl rfl [0, 1, 2, 3, 4, 5, 6, 7, 8, 9, 10, 11] [] [0, 1, 2, 3, 4, 5, 6, 7, 8, 9, 10, 11] [0, 1, 2, 3] rfl rfl rfl ⟨by decide, by decide, by decide, by decide⟩ rfl (fun H locs hP hD hS => ?_)
        obtain ⟨rfl, rfl⟩ := re2 hf
        exact hE hP hD hS dX13_hang_51
      · replace hf := ifF cc hf
        refine lv_aload_n hx hb dX13_hang_33 rfl (lv_at hl 0 rfl) ?_
        obtain ⟨r_10, w_11, hc, hf⟩ := bd2_of hf
        refine k_V (As := []) (rest := []) (ws1 := (kModel G q0 w_11)) ⟨hx, hb, hml, hown, hts⟩ (c_X13_refused l D G q0  w_5 _ _ hc  _) (cwV 0 hts gX13_hang_X13_refused rfl rfl rfl (by decide +kernel) ⟨Nat.le_of_ble_eq_true rfl, Nat.le_of_ble_eq_true rfl⟩) hl.1 (Nat.le_of_ble_eq_true rfl) dX13_hang_34 ⟨Nat.le_of_ble_eq_true rfl, Nat.le_of_ble_eq_true rfl⟩ rfl kT_bl (fun _ _ _ => trivial) hN hK hP hD hS hA 0 11 rfl rfl rfl [0, 1, 2, 3, 4, 5, 6, 7, 8, 9, 10, 11] [] [0, 1, 2, 3, 4, 5, 6, 7, 8, 9, 10, 11] [0, 1, 2, 3] rfl rfl rfl ⟨by decide, by decide, by decide, by decide⟩ rfl (fun H locs hP hD hS => ?_)
        refine lv_goto (tgt := 51) hx hb dX13_hang_37 (by decide) ?_
        obtain ⟨rfl, rfl⟩ := re2 hf
        exact hE hP hD hS dX13_hang_51
    · replace hf := ifT cc hf
      refine lv_bipush (v := (-2)) hx hb dX13_hang_21 (by decide +kernel) ?_
      obtain ⟨rfl, rfl⟩ := re2 hf
      exact hE hP hD hS dX13_hang_23
  · replace hf := ifT cc hf
    refine lv_iconst (v := (-1)) hx hb dX13_hang_12 (by decide) ?_
    obtain ⟨rfl, rfl⟩ := re2 hf
    exact hE hP hD hS dX13_hang_13
def f_X13_isQuarrel_J30 (w_2 : SV) (j_5 : Int32) : Option (Int32 × SV) :=
  bd2 (f_X13_isBad 5 j_5 w_2) fun r_6 w_7 =>
  if r_6 = 0 then
    some (0, w_7)
  else
    some (1, w_7)
def f_X13_isQuarrel (a1 : Int32) (a2 : Int32) (v0 : SV) : Option (Int32 × SV) :=
  bd2 (f_X13_isOne a1 a2 v0) fun r_1 w_2 =>
  if r_1 = 0 then
    bd1 (f_X13_areFeuding a1 a2 w_2) fun r_3 =>
    if r_3 = 0 then
      some (0, w_2)
    else
      if a1 ≤ a2 then
        f_X13_isQuarrel_J30 w_2 a2
      else
        f_X13_isQuarrel_J30 w_2 a1
  else
    some (1, w_2)
abbrev rm_X13_isQuarrel : Room := { frames := 4, cells := 0, slots := 0, locals := 89 }
set_option maxHeartbeats 4000000 in
set_option maxRecDepth 100000 in
theorem c_X13_isQuarrel (l : Launch) (D : va_G) (G : Nat → ClassId) (q0 : Nat → Nat) (a1 : Int32) (a2 : Int32) (v0 : SV) (r : Int32) (v0' : SV) (hf : f_X13_isQuarrel a1 a2 v0 = some (r, v0')) (sz : Nat) : mC l yX13_isQuarrel wsX13_isQuarrel rm_X13_isQuarrel D (tyG G) kT [.ref (q0 0), .int a1, .int a2] (kModel G q0 v0) (kModel G q0 v0') sz (some (.int r)) 0 0 := by
  refine mC_ofZ (cc := cX13_isQuarrel) (maxL := 3) (ret := (some .boolean)) (by decide) rfl rfl (Nat.le_of_ble_eq_true rfl) ?_
  intro p e s m args below meth c Q0 hx hb hml hts hown hN hK A hD hA hE hP hS hJ ls hl
  have hl : lv_has ls 3 [(0, .ref (q0 0)), (1, .int a1), (2, .int a2)] := hl
  unfold f_X13_isQuarrel at hf
  refine lv_aload_n hx hb dX13_isQuarrel_0 rfl (lv_at hl 0 rfl) ?_
  refine lv_iload_n hx hb dX13_isQuarrel_1 rfl (lv_at hl 1 rfl) ?_
  refine lv_iload_n hx hb dX13_isQuarrel_2 rfl (lv_at hl 2 rfl) ?_
  obtain ⟨r_1, w_2, hc, hf⟩ := bd2_of hf
  refine k_V (As := [.int a1, .int a2]) (rest := []) (ws1 := (kModel G q0 w_2)) ⟨hx, hb, hml, hown, hts⟩ (c_X13_isOne l D G q0 a1 a2 v0 _ _ hc  _) (cwV 2 hts gX13_isQuarrel_X13_isOne rfl rfl rfl (by decide +kernel) ⟨Nat.le_of_ble_eq_true rfl, Nat.le_of_ble_eq_true rfl⟩) hl.1 (Nat.le_of_ble_eq_true rfl) dX13_isQuarrel_3 ⟨Nat.le_of_ble_eq_true rfl, Nat.le_of_ble_eq_true rfl⟩ rfl kT_bl (fun _ _ _ => trivial) hN hK hP hD hS hA 0 11 rfl rfl rfl [0, 1, 2, 3, 4, 5, 6, 7, 8, 9, 10, 11] [] [0, 1, 2, 3, 4, 5, 6, 7, 8, 9, 10, 11] [0, 1, 2, 3] rfl rfl rfl ⟨by decide, by decide, by decide, by decide⟩ rfl (fun H locs hP hD hS => ?_)
  refine lv_if_ne (tgt := 36) hx hb dX13_isQuarrel_6 (by decide) (fun cc => ?_) (fun cc => ?_)
  · replace hf := ifF cc hf
    refine lv_iconst (v := 1) hx hb dX13_isQuarrel_36 (by decide) ?_
    refine lv_goto (tgt := 41) hx hb dX13_isQuarrel_37 (by decide) ?_
    obtain ⟨rfl, rfl⟩ := re2 hf
    exact hE (.inr rfl) hP hD hS dX13_isQuarrel_41
  · replace hf := ifT cc hf
    refine lv_aload_n hx hb dX13_isQuarrel_9 rfl (lv_at hl 0 rfl) ?_
    refine lv_iload_n hx hb dX13_isQuarrel_10 rfl (lv_at hl 1 rfl) ?_
    refine lv_iload_n hx hb dX13_isQuarrel_11 rfl (lv_at hl 2 rfl) ?_
    obtain ⟨r_3, hc, hf⟩ := bd1_of hf
    refine k_V (As := [.int a1, .int a2]) (rest := []) (ws1 := (kModel G q0 w_2)) ⟨hx, hb, hml, hown, hts⟩ (c_X13_areFeuding l D G q0 a1 a2 w_2 _ hc  _) (cwV 2 hts gX13_isQuarrel_X13_areFeuding rfl rfl rfl (by decide +kernel) ⟨Nat.le_of_ble_eq_true rfl, Nat.le_of_ble_eq_true rfl⟩) hl.1 (Nat.le_of_ble_eq_true rfl) dX13_isQuarrel_12 ⟨Nat.le_of_ble_eq_true rfl, Nat.le_of_ble_eq_true rfl⟩ rfl kT_bl (fun _ _ _ => trivial) hN hK hP hD hS hA 0 11 rfl rfl rfl [0, 1, 2, 3, 4, 5, 6, 7, 8, 9, 10, 11] [] [0, 1, 2, 3, 4, 5, 6, 7, 8, 9, 10, 11] [0, 1, 2, 3] rfl rfl rfl ⟨by decide, by decide, by decide, by decide⟩ rfl (fun H locs hP hD hS => ?_)
    refine lv_if_eq (tgt := 40) hx hb dX13_isQuarrel_15 (by decide) (fun cc => ?_) (fun cc => ?_)
    · replace hf := ifT cc hf
      refine lv_iconst (v := 0) hx hb dX13_isQuarrel_40 (by decide) ?_
      obtain ⟨rfl, rfl⟩ := re2 hf
      exact hE (.inl rfl) hP hD hS dX13_isQuarrel_41
    · replace hf := ifF cc hf
      refine lv_aload_n hx hb dX13_isQuarrel_18 rfl (lv_at hl 0 rfl) ?_
      refine lv_iconst (v := 5) hx hb dX13_isQuarrel_19 (by decide) ?_
      refine lv_iload_n hx hb dX13_isQuarrel_20 rfl (lv_at hl 1 rfl) ?_
      refine lv_iload_n hx hb dX13_isQuarrel_21 rfl (lv_at hl 2 rfl) ?_
      have jnJ_4 : ∀ (j_5 : Int32) (H : Heap) (locs : List Loc) (ls : Array Slot), lv_has ls 3 [(0, .ref (q0 0)), (1, .int a1), (2, .int a2)] → va_P D vwCl (kModel G q0 w_2) H → va_D A (kModel G q0 w_2) → va_S A s.heap H locs → f_X13_isQuarrel_J30 w_2 j_5 = some (r, v0') → W p l e rm_X13_isQuarrel s m args below meth c H locs 0 0 Q0 (F0 m 30 ls [.int j_5, .int 5, .ref (q0 0)]) := by
        intro j_5 H locs ls hl hP hD hS hf
        unfold f_X13_isQuarrel_J30 at hf
        obtain ⟨r_6, w_7, hc, hf⟩ := bd2_of hf
        refine k_V (As := [.int 5, .int j_5]) (rest := []) (ws1 := (kModel G q0 w_7)) ⟨hx, hb, hml, hown, hts⟩ (c_X13_isBad l D G q0 5 j_5 w_2 _ _ hc  _) (cwV 2 hts gX13_isQuarrel_X13_isBad rfl rfl rfl (by decide +kernel) ⟨Nat.le_of_ble_eq_true rfl, Nat.le_of_ble_eq_true rfl⟩) hl.1 (Nat.le_of_ble_eq_true rfl) dX13_isQuarrel_30 ⟨Nat.le_of_ble_eq_true rfl, Nat.le_of_ble_eq_true rfl⟩ rfl kT_bl (fun _ _ _ => trivial) hN hK hP hD hS hA 0 11 rfl rfl rfl [0, 1, 2, 3, 4, 5, 6, 7, 8, 9, 10, 11] [] [0, 1, 2, 3, 4, 5, 6, 7, 8, 9, 10, 11] [0, 1, 2, 3] rfl rfl rfl ⟨by decide, by decide, by decide, by decide⟩ rfl (fun H locs hP hD hS => ?_)
        refine lv_if_eq (tgt := 40) hx hb dX13_isQuarrel_33 (by decide) (fun cc => ?_) (fun cc => ?_)
        · replace hf := ifT cc hf
          refine lv_iconst (v := 0) hx hb dX13_isQuarrel_40 (by decide) ?_
          obtain ⟨rfl, rfl⟩ := re2 hf
          exact hE (.inl rfl) hP hD hS dX13_isQuarrel_41
        · replace hf := ifF cc hf
          refine lv_iconst (v := 1) hx hb dX13_isQuarrel_36 (by decide) ?_
          refine lv_goto (tgt := 41) hx hb dX13_isQuarrel_37 (by decide) ?_
          obtain ⟨rfl, rfl⟩ := re2 hf
          exact hE (.inr rfl) hP hD hS dX13_isQuarrel_41
      refine lv_icmp_le (tgt := 29) hx hb dX13_isQuarrel_22 (by decide) (fun cc => ?_) (fun cc => ?_)
      · replace hf := ifT cc hf
        refine lv_iload_n hx hb dX13_isQuarrel_29 rfl (lv_at hl 2 rfl) ?_
        exact jnJ_4 a2 _ _ _ (lv_sub hl [0, 1, 2] rfl) hP hD hS hf
      · replace hf := ifF cc hf
        refine lv_iload_n hx hb dX13_isQuarrel_25 rfl (lv_at hl 1 rfl) ?_
        refine lv_goto (tgt := 30) hx hb dX13_isQuarrel_26 (by decide) ?_
        exact jnJ_4 a1 _ _ _ (lv_sub hl [0, 1, 2] rfl) hP hD hS hf
def f_X13_greetings (a1 : Int32) (a2 : Int32) (v0 : SV) : Option Int32 :=
  ckI ((46 + (12 * a1)) + a2) 240 <|
  some (v0.2 0 ((46 + (12 * a1)) + a2).toNatClampNeg)
abbrev rm_X13_greetings : Room := { frames := 0, cells := 0, slots := 0, locals := 0 }
set_option maxHeartbeats 4000000 in
set_option maxRecDepth 100000 in
theorem c_X13_greetings (l : Launch) (D : va_G) (G : Nat → ClassId) (q0 : Nat → Nat) (a1 : Int32) (a2 : Int32) (v0 : SV) (r : Int32) (hf : f_X13_greetings a1 a2 v0 = some r) (sz : Nat) : mC l yX13_greetings wsX13_greetings rm_X13_greetings D (tyG G) kT [.ref (q0 0), .int a1, .int a2] (kModel G q0 v0) (kModel G q0 v0) sz (some (.int r)) 0 0 := by
  refine mC_ofI (cc := cX13_greetings) (maxL := 3) (ret := (some .int)) (by decide) rfl rfl (Nat.le_of_ble_eq_true rfl) ?_
  intro p e s m args below meth c Q0 hx hb hml hts hown hN hK A hD hA hE hP hS hJ ls hl
  have hl : lv_has ls 3 [(0, .ref (q0 0)), (1, .int a1), (2, .int a2)] := hl
  unfold f_X13_greetings at hf
  have hi11 : ∀ w ∈ u_ws RX13 TX13 27, w ∈ wsX13_greetings := by decide +kernel
  have hw1 := hts (.fieldLink RX13 7 "BalconyCensusModel" "now" "[I") (by decide +kernel)
  refine lv_aload_n hx hb dX13_greetings_0 rfl (lv_at hl 0 rfl) ?_
  refine va_get (D := D) (ci := 11) (v := .ref (q0 1)) (C := RX13) (T := TX13) (N := 27) hx hb hts hi11 hown hK hP 0 rfl rfl 0 (by decide) hw1 (fun _ h9 => h9) rfl dX13_greetings_1 ?_
  refine lv_bipush (v := 46) hx hb dX13_greetings_4 (by decide +kernel) ?_
  refine lv_bipush (v := 12) hx hb dX13_greetings_6 (by decide +kernel) ?_
  refine lv_iload_n hx hb dX13_greetings_8 rfl (lv_at hl 1 rfl) ?_
  refine lv_imul hx hb dX13_greetings_9 ?_
  refine lv_iadd hx hb dX13_greetings_10 ?_
  refine lv_iload_n hx hb dX13_greetings_11 rfl (lv_at hl 2 rfl) ?_
  refine lv_iadd hx hb dX13_greetings_12 ?_
  obtain ⟨hin, hf⟩ := ckI_of hf
  refine va_iald (D := D) hx hb hK hP 1 0 rfl rfl hin dX13_greetings_13 ?_
  obtain rfl := re1 hf
  exact hE hP hD hS dX13_greetings_14
def f_X13_isRefusedGreet (a1 : Int32) (a2 : Int32) (v0 : SV) : Option (Int32 × SV) :=
  bd2 (f_X13_isQuarrel a1 a2 v0) fun r_1 w_2 =>
  if r_1 = 0 then
    ckI (34 + a1) 240 <|
    if (((w_2.2 0 (34 + a1).toNatClampNeg) >>> (a2 &&& 31)) &&& 1) = 1 then
      bd1 (f_X13_greetings a1 a2 w_2) fun r_3 =>
      bd2 (f_X13_isBad 7 r_3 w_2) fun r_4 w_5 =>
      if r_4 = 0 then
        some (0, w_5)
      else
        some (1, w_5)
    else
      some (0, w_2)
  else
    some (1, w_2)
abbrev rm_X13_isRefusedGreet : Room := { frames := 5, cells := 0, slots := 0, locals := 111 }
set_option maxHeartbeats 4000000 in
set_option maxRecDepth 100000 in
theorem c_X13_isRefusedGreet (l : Launch) (D : va_G) (G : Nat → ClassId) (q0 : Nat → Nat) (a1 : Int32) (a2 : Int32) (v0 : SV) (r : Int32) (v0' : SV) (hf : f_X13_isRefusedGreet a1 a2 v0 = some (r, v0')) (sz : Nat) : mC l yX13_isRefusedGreet wsX13_isRefusedGreet rm_X13_isRefusedGreet D (tyG G) kT [.ref (q0 0), .int a1, .int a2] (kModel G q0 v0) (kModel G q0 v0') sz (some (.int r)) 0 0 := by
  refine mC_ofZ (cc := cX13_isRefusedGreet) (maxL := 3) (ret := (some .boolean)) (by decide) rfl rfl (Nat.le_of_ble_eq_true rfl) ?_
  intro p e s m args below meth c Q0 hx hb hml hts hown hN hK A hD hA hE hP hS hJ ls hl
  have hl : lv_has ls 3 [(0, .ref (q0 0)), (1, .int a1), (2, .int a2)] := hl
  unfold f_X13_isRefusedGreet at hf
  have hi11 : ∀ w ∈ u_ws RX13 TX13 27, w ∈ wsX13_isRefusedGreet := by decide +kernel
  have hw1 := hts (.fieldLink RX13 7 "BalconyCensusModel" "now" "[I") (by decide +kernel)
  refine lv_aload_n hx hb dX13_isRefusedGreet_0 rfl (lv_at hl 0 rfl) ?_
  refine lv_iload_n hx hb dX13_isRefusedGreet_1 rfl (lv_at hl 1 rfl) ?_
  refine lv_iload_n hx hb dX13_isRefusedGreet_2 rfl (lv_at hl 2 rfl) ?_
  obtain ⟨r_1, w_2, hc, hf⟩ := bd2_of hf
  refine k_V (As := [.int a1, .int a2]) (rest := []) (ws1 := (kModel G q0 w_2)) ⟨hx, hb, hml, hown, hts⟩ (c_X13_isQuarrel l D G q0 a1 a2 v0 _ _ hc  _) (cwV 2 hts gX13_isRefusedGreet_X13_isQuarrel rfl rfl rfl (by decide +kernel) ⟨Nat.le_of_ble_eq_true rfl, Nat.le_of_ble_eq_true rfl⟩) hl.1 (Nat.le_of_ble_eq_true rfl) dX13_isRefusedGreet_3 ⟨Nat.le_of_ble_eq_true rfl, Nat.le_of_ble_eq_true rfl⟩ rfl kT_bl (fun _ _ _ => trivial) hN hK hP hD hS hA 0 11 rfl rfl rfl [0, 1, 2, 3, 4, 5, 6, 7, 8, 9, 10, 11] [] [0, 1, 2, 3, 4, 5, 6, 7, 8, 9, 10, 11] [0, 1, 2, 3] rfl rfl rfl ⟨by decide, by decide, by decide, by decide⟩ rfl (fun H locs hP hD hS => ?_)
  refine lv_if_ne (tgt := 41) hx hb dX13_isRefusedGreet_6 (by decide) (fun cc => ?_) (fun cc => ?_)
  · replace hf := ifF cc hf
    refine lv_iconst (v := 1) hx hb dX13_isRefusedGreet_41 (by decide) ?_
    refine lv_goto (tgt := 46) hx hb dX13_isRefusedGreet_42 (by decide) ?_
    obtain ⟨rfl, rfl⟩ := re2 hf
    exact hE (.inr rfl) hP hD hS dX13_isRefusedGreet_46
  · replace hf := ifT cc hf
    refine lv_aload_n hx hb dX13_isRefusedGreet_9 rfl (lv_at hl 0 rfl) ?_
    refine va_get (D := D) (ci := 11) (v := .ref (q0 1)) (C := RX13) (T := TX13) (N := 27) hx hb hts hi11 hown hK hP 0 rfl rfl 0 (by decide) hw1 (fun _ h9 => h9) rfl dX13_isRefusedGreet_10 ?_
    refine lv_bipush (v := 34) hx hb dX13_isRefusedGreet_13 (by decide +kernel) ?_
    refine lv_iload_n hx hb dX13_isRefusedGreet_15 rfl (lv_at hl 1 rfl) ?_
    refine lv_iadd hx hb dX13_isRefusedGreet_16 ?_
    obtain ⟨hin, hf⟩ := ckI_of hf
    refine va_iald (D := D) hx hb hK hP 1 0 rfl rfl hin dX13_isRefusedGreet_17 ?_
    refine lv_iload_n hx hb dX13_isRefusedGreet_18 rfl (lv_at hl 2 rfl) ?_
    refine lv_ishr hx hb dX13_isRefusedGreet_19 ?_
    refine lv_iconst (v := 1) hx hb dX13_isRefusedGreet_20 (by decide) ?_
    refine lv_iand hx hb dX13_isRefusedGreet_21 ?_
    refine lv_iconst (v := 1) hx hb dX13_isRefusedGreet_22 (by decide) ?_
    refine lv_icmp_ne (tgt := 45) hx hb dX13_isRefusedGreet_23 (by decide) (fun cc => ?_) (fun cc => ?_)
    · replace hf := ifF cc hf
      refine lv_iconst (v := 0) hx hb dX13_isRefusedGreet_45 (by decide) ?_
      obtain ⟨rfl, rfl⟩ := re2 hf
      exact hE (.inl rfl) hP hD hS dX13_isRefusedGreet_46
    · replace hf := ifT cc hf
      refine lv_aload_n hx hb dX13_isRefusedGreet_26 rfl (lv_at hl 0 rfl) ?_
      refine lv_bipush (v := 7) hx hb dX13_isRefusedGreet_27 (by decide +kernel) ?_
      refine lv_aload_n hx hb dX13_isRefusedGreet_29 rfl (lv_at hl 0 rfl) ?_
      refine lv_iload_n hx hb dX13_isRefusedGreet_30 rfl (lv_at hl 1 rfl) ?_
      refine lv_iload_n hx hb dX13_isRefusedGreet_31 rfl (lv_at hl 2 rfl) ?_
      obtain ⟨r_3, hc, hf⟩ := bd1_of hf
      refine k_V (As := [.int a1, .int a2]) (rest := [.int 7, .ref (q0 0)]) (ws1 := (kModel G q0 w_2)) ⟨hx, hb, hml, hown, hts⟩ (c_X13_greetings l D G q0 a1 a2 w_2 _ hc  _) (cwV 2 hts gX13_isRefusedGreet_X13_greetings rfl rfl rfl (by decide +kernel) ⟨Nat.le_of_ble_eq_true rfl, Nat.le_of_ble_eq_true rfl⟩) hl.1 (Nat.le_of_ble_eq_true rfl) dX13_isRefusedGreet_32 ⟨Nat.le_of_ble_eq_true rfl, Nat.le_of_ble_eq_true rfl⟩ rfl kT_bl (fun _ _ _ => trivial) hN hK hP hD hS hA 0 11 rfl rfl rfl [0, 1, 2, 3, 4, 5, 6, 7, 8, 9, 10, 11] [] [0, 1, 2, 3, 4, 5, 6, 7, 8, 9, 10, 11] [0, 1, 2, 3] rfl rfl rfl ⟨by decide, by decide, by decide, by decide⟩ rfl (fun H locs hP hD hS => ?_)
      obtain ⟨r_4, w_5, hc, hf⟩ := bd2_of hf
      refine k_V (As := [.int 7, .int r_3]) (rest := []) (ws1 := (kModel G q0 w_5)) ⟨hx, hb, hml, hown, hts⟩ (c_X13_isBad l D G q0 7 r_3 w_2 _ _ hc  _) (cwV 2 hts gX13_isRefusedGreet_X13_isBad rfl rfl rfl (by decide +kernel) ⟨Nat.le_of_ble_eq_true rfl, Nat.le_of_ble_eq_true rfl⟩) hl.1 (Nat.le_of_ble_eq_true rfl) dX13_isRefusedGreet_35 ⟨Nat.le_of_ble_eq_true rfl, Nat.le_of_ble_eq_true rfl⟩ rfl kT_bl (fun _ _ _ => trivial) hN hK hP hD hS hA 0 11 rfl rfl rfl [0, 1, 2, 3, 4, 5, 6, 7, 8, 9, 10, 11] [] [0, 1, 2, 3, 4, 5, 6, 7, 8, 9, 10, 11] [0, 1, 2, 3] rfl rfl rfl ⟨by decide, by decide, by decide, by decide⟩ rfl (fun H locs hP hD hS => ?_)
      refine lv_if_eq (tgt := 45) hx hb dX13_isRefusedGreet_38 (by decide) (fun cc => ?_) (fun cc => ?_)
      · replace hf := ifT cc hf
        refine lv_iconst (v := 0) hx hb dX13_isRefusedGreet_45 (by decide) ?_
        obtain ⟨rfl, rfl⟩ := re2 hf
        exact hE (.inl rfl) hP hD hS dX13_isRefusedGreet_46
      · replace hf := ifF cc hf
        refine lv_iconst (v := 1) hx hb dX13_isRefusedGreet_41 (by decide) ?_
        refine lv_goto (tgt := 46) hx hb dX13_isRefusedGreet_42 (by decide) ?_
        obtain ⟨rfl, rfl⟩ := re2 hf
        exact hE (.inr rfl) hP hD hS dX13_isRefusedGreet_46
def f_X13_greets (a1 : Int32) (a2 : Int32) (v0 : SV) : Option (Int32 × SV) :=
  ckI ((46 + (12 * a1)) + a2) 240 <|
  ckI ((46 + (12 * a1)) + a2) 240 <|
  nm (pA v0 0 ((46 + (12 * a1)) + a2) ((v0.2 0 ((46 + (12 * a1)) + a2).toNatClampNeg) + 1)) fun v_1 =>
  ckI (34 + a1) 240 <|
  ckI (34 + a1) 240 <|
  nm (pA v_1 0 (34 + a1) ((v_1.2 0 (34 + a1).toNatClampNeg) ||| (1 <<< (a2 &&& 31)))) fun v_2 =>
  bd1 (f_X13_greetings a1 a2 v_2) fun r_3 =>
  some (r_3, v_2)
abbrev rm_X13_greets : Room := { frames := 1, cells := 0, slots := 0, locals := 22 }
set_option maxHeartbeats 4000000 in
set_option maxRecDepth 100000 in
theorem c_X13_greets (l : Launch) (D : va_G) (G : Nat → ClassId) (q0 : Nat → Nat) (a1 : Int32) (a2 : Int32) (v0 : SV) (r : Int32) (v0' : SV) (hf : f_X13_greets a1 a2 v0 = some (r, v0')) (sz : Nat) : mC l yX13_greets wsX13_greets rm_X13_greets D (tyG G) kT [.ref (q0 0), .int a1, .int a2] (kModel G q0 v0) (kModel G q0 v0') sz (some (.int r)) 0 0 := by
  refine mC_ofI (cc := cX13_greets) (maxL := 3) (ret := (some .int)) (by decide) rfl rfl (Nat.le_of_ble_eq_true rfl) ?_
  intro p e s m args below meth c Q0 hx hb hml hts hown hN hK A hD hA hE hP hS hJ ls hl
  have hl : lv_has ls 3 [(0, .ref (q0 0)), (1, .int a1), (2, .int a2)] := hl
  unfold f_X13_greets at hf
  have hi11 : ∀ w ∈ u_ws RX13 TX13 27, w ∈ wsX13_greets := by decide +kernel
  have hw1 := hts (.fieldLink RX13 7 "BalconyCensusModel" "now" "[I") (by decide +kernel)
  refine lv_aload_n hx hb dX13_greets_0 rfl (lv_at hl 0 rfl) ?_
  refine va_get (D := D) (ci := 11) (v := .ref (q0 1)) (C := RX13) (T := TX13) (N := 27) hx hb hts hi11 hown hK hP 0 rfl rfl 0 (by decide) hw1 (fun _ h9 => h9) rfl dX13_greets_1 ?_
  refine lv_bipush (v := 46) hx hb dX13_greets_4 (by decide +kernel) ?_
  refine lv_bipush (v := 12) hx hb dX13_greets_6 (by decide +kernel) ?_
  refine lv_iload_n hx hb dX13_greets_8 rfl (lv_at hl 1 rfl) ?_
  refine lv_imul hx hb dX13_greets_9 ?_
  refine lv_iadd hx hb dX13_greets_10 ?_
  refine lv_iload_n hx hb dX13_greets_11 rfl (lv_at hl 2 rfl) ?_
  refine lv_iadd hx hb dX13_greets_12 ?_
  refine lv_dup2_11 hx hb dX13_greets_13 rfl rfl ?_
  obtain ⟨hin, hf⟩ := ckI_of hf
  refine va_iald (D := D) hx hb hK hP 1 0 rfl rfl hin dX13_greets_14 ?_
  refine lv_iconst (v := 1) hx hb dX13_greets_15 (by decide) ?_
  refine lv_iadd hx hb dX13_greets_16 ?_
  obtain ⟨hin, hf⟩ := ckI_of hf
  obtain ⟨v_1, ev_1, hf⟩ := nm_of hf
  refine va_iast (D := D) hx hb hK hP hD hS 1 0 rfl rfl hin dX13_greets_17 (fun H locs hP hD hS => ?_)
  have hP : va_P D vwCl (kModel G q0 v_1) H := by rw [ev_1]; exact hP
  have hD : va_D A (kModel G q0 v_1) := by rw [ev_1]; exact hD
  refine lv_aload_n hx hb dX13_greets_18 rfl (lv_at hl 0 rfl) ?_
  refine va_get (D := D) (ci := 11) (v := .ref (q0 1)) (C := RX13) (T := TX13) (N := 27) hx hb hts hi11 hown hK hP 0 rfl rfl 0 (by decide) hw1 (fun _ h9 => h9) rfl dX13_greets_19 ?_
  refine lv_bipush (v := 34) hx hb dX13_greets_22 (by decide +kernel) ?_
  refine lv_iload_n hx hb dX13_greets_24 rfl (lv_at hl 1 rfl) ?_
  refine lv_iadd hx hb dX13_greets_25 ?_
  refine lv_dup2_11 hx hb dX13_greets_26 rfl rfl ?_
  obtain ⟨hin, hf⟩ := ckI_of hf
  refine va_iald (D := D) hx hb hK hP 1 0 rfl rfl hin dX13_greets_27 ?_
  refine lv_iconst (v := 1) hx hb dX13_greets_28 (by decide) ?_
  refine lv_iload_n hx hb dX13_greets_29 rfl (lv_at hl 2 rfl) ?_
  refine lv_ishl hx hb dX13_greets_30 ?_
  refine lv_ior hx hb dX13_greets_31 ?_
  obtain ⟨hin, hf⟩ := ckI_of hf
  obtain ⟨v_2, ev_2, hf⟩ := nm_of hf
  refine va_iast (D := D) hx hb hK hP hD hS 1 0 rfl rfl hin dX13_greets_32 (fun H locs hP hD hS => ?_)
  have hP : va_P D vwCl (kModel G q0 v_2) H := by rw [ev_2]; exact hP
  have hD : va_D A (kModel G q0 v_2) := by rw [ev_2]; exact hD
  refine lv_aload_n hx hb dX13_greets_33 rfl (lv_at hl 0 rfl) ?_
  refine lv_iload_n hx hb dX13_greets_34 rfl (lv_at hl 1 rfl) ?_
  refine lv_iload_n hx hb dX13_greets_35 rfl (lv_at hl 2 rfl) ?_
  obtain ⟨r_3, hc, hf⟩ := bd1_of hf
  refine k_V (As := [.int a1, .int a2]) (rest := []) (ws1 := (kModel G q0 v_2)) ⟨hx, hb, hml, hown, hts⟩ (c_X13_greetings l D G q0 a1 a2 v_2 _ hc  _) (cwV 2 hts gX13_greets_X13_greetings rfl rfl rfl (by decide +kernel) ⟨Nat.le_of_ble_eq_true rfl, Nat.le_of_ble_eq_true rfl⟩) hl.1 (Nat.le_of_ble_eq_true rfl) dX13_greets_36 ⟨Nat.le_of_ble_eq_true rfl, Nat.le_of_ble_eq_true rfl⟩ rfl kT_bl (fun _ _ _ => trivial) hN hK hP hD hS hA 0 11 rfl rfl rfl [0, 1, 2, 3, 4, 5, 6, 7, 8, 9, 10, 11] [] [0, 1, 2, 3, 4, 5, 6, 7, 8, 9, 10, 11] [0, 1, 2, 3] rfl rfl rfl ⟨by decide, by decide, by decide, by decide⟩ rfl (fun H locs hP hD hS => ?_)
  obtain ⟨rfl, rfl⟩ := re2 hf
  exact hE hP hD hS dX13_greets_39
def f_X13_greet (a1 : Int32) (a2 : Int32) (v0 : SV) : Option (Int32 × SV) :=
  bd1 (f_X13_begins v0) fun w_1 =>
  bd1 (f_X13_areTwo a1 a2) fun r_2 =>
  if r_2 = 0 then
    some ((-1), w_1)
  else
    bd2 (f_X13_isRefusedGreet a1 a2 w_1) fun r_3 w_4 =>
    if r_3 = 0 then
      bd2 (f_X13_greets a1 a2 w_4) fun r_5 w_6 =>
      bd2 (f_X13_keeps r_5 w_6) fun r_7 w_8 =>
      some (r_7, w_8)
    else
      bd2 (f_X13_refused w_4) fun r_9 w_10 =>
      some (r_9, w_10)
abbrev rm_X13_greet : Room := { frames := 6, cells := 0, slots := 0, locals := 133 }
set_option maxHeartbeats 4000000 in
set_option maxRecDepth 100000 in
theorem c_X13_greet (l : Launch) (D : va_G) (G : Nat → ClassId) (q0 : Nat → Nat) (a1 : Int32) (a2 : Int32) (v0 : SV) (r : Int32) (v0' : SV) (hf : f_X13_greet a1 a2 v0 = some (r, v0')) (sz : Nat) : mC l yX13_greet wsX13_greet rm_X13_greet D (tyG G) kT [.ref (q0 0), .int a1, .int a2] (kModel G q0 v0) (kModel G q0 v0') sz (some (.int r)) 0 0 := by
  refine mC_ofI (cc := cX13_greet) (maxL := 3) (ret := (some .int)) (by decide) rfl rfl (Nat.le_of_ble_eq_true rfl) ?_
  intro p e s m args below meth c Q0 hx hb hml hts hown hN hK A hD hA hE hP hS hJ ls hl
  have hl : lv_has ls 3 [(0, .ref (q0 0)), (1, .int a1), (2, .int a2)] := hl
  unfold f_X13_greet at hf
  refine lv_aload_n hx hb dX13_greet_0 rfl (lv_at hl 0 rfl) ?_
  obtain ⟨w_1, hc, hf⟩ := bd1_of hf
  refine k_V (As := []) (rest := []) (ws1 := (kModel G q0 w_1)) ⟨hx, hb, hml, hown, hts⟩ (c_X13_begins l D G q0  v0 _ hc  _) (cwV 0 hts gX13_greet_X13_begins rfl rfl rfl (by decide +kernel) ⟨Nat.le_of_ble_eq_true rfl, Nat.le_of_ble_eq_true rfl⟩) hl.1 (Nat.le_of_ble_eq_true rfl) dX13_greet_1 ⟨Nat.le_of_ble_eq_true rfl, Nat.le_of_ble_eq_true rfl⟩ rfl kT_bl (fun _ _ _ => trivial) hN hK hP hD hS hA 0 11 rfl rfl rfl [0, 1, 2, 3, 4, 5, 6, 7, 8, 9, 10, 11] [] [0, 1, 2, 3, 4, 5, 6, 7, 8, 9, 10, 11] [0, 1, 2, 3] rfl rfl rfl ⟨by decide, by decide, by decide, by decide⟩ rfl (fun H locs hP hD hS => ?_)
  refine lv_iload_n hx hb dX13_greet_4 rfl (lv_at hl 1 rfl) ?_
  refine lv_iload_n hx hb dX13_greet_5 rfl (lv_at hl 2 rfl) ?_
  obtain ⟨r_2, hc, hf⟩ := bd1_of hf
  refine k_S (As := [.int a1, .int a2]) (rest := []) (ws1 := (kModel G q0 w_1)) ⟨hx, hb, hml, hown, hts⟩ (c_X13_areTwo l D G  a1 a2  _ hc  _) (va_cwS 2 hts gX13_greet_X13_areTwo rfl rfl rfl (by decide +kernel) ⟨Nat.le_of_ble_eq_true rfl, Nat.le_of_ble_eq_true rfl⟩) hl.1 (Nat.le_of_ble_eq_true rfl) dX13_greet_6 ⟨Nat.le_of_ble_eq_true rfl, Nat.le_of_ble_eq_true rfl⟩ rfl kT_bl (fun _ _ _ => trivial) hN hK hP hD hS hA [] [0, 1, 2, 3, 4, 5, 6, 7, 8, 9, 10, 11] [0, 1, 2, 3, 4, 5, 6, 7, 8, 9, 10, 11] [0, 1, 2, 3] rfl rfl rfl ⟨by decide, by decide, by decide, by decide⟩ rfl (fun H locs hP hD hS => ?_)
  refine lv_if_ne (tgt := 14) hx hb dX13_greet_9 (by decide) (fun cc => ?_) (fun cc => ?_)
  · replace hf := ifF cc hf
    refine lv_aload_n hx hb dX13_greet_14 rfl (lv_at hl 0 rfl) ?_
    refine lv_iload_n hx hb dX13_greet_15 rfl (lv_at hl 1 rfl) ?_
    refine lv_iload_n hx hb dX13_greet_16 rfl (lv_at hl 2 rfl) ?_
    obtain ⟨r_3, w_4, hc, hf⟩ := bd2_of hf
    refine k_V (As := [.int a1, .int a2]) (rest := []) (ws1 := (kModel G q0 w_4)) ⟨hx, hb, hml, hown, hts⟩ (c_X13_isRefusedGreet l D G q0 a1 a2 w_1 _ _ hc  _) (cwV 2 hts gX13_greet_X13_isRefusedGreet rfl rfl rfl (by decide +kernel) ⟨Nat.le_of_ble_eq_true rfl, Nat.le_of_ble_eq_true rfl⟩) hl.1 (Nat.le_of_ble_eq_true rfl) dX13_greet_17 ⟨Nat.le_of_ble_eq_true rfl, Nat.le_of_ble_eq_true rfl⟩ rfl kT_bl (fun _ _ _ => trivial) hN hK hP hD hS hA 0 11 rfl rfl rfl [0, 1, 2, 3, 4, 5, 6, 7, 8, 9, 10, 11] [] [0, 1, 2, 3, 4, 5, 6, 7, 8, 9, 10, 11] [0, 1, 2, 3] rfl rfl rfl ⟨by decide, by decide, by decide, by decide⟩ rfl (fun H locs hP hD hS => ?_)
    refine lv_if_eq (tgt := 30) hx hb dX13_greet_20 (by decide) (fun cc => ?_) (fun cc => ?_)
    · replace hf := ifT cc hf
      refine lv_aload_n hx hb dX13_greet_30 rfl (lv_at hl 0 rfl) ?_
      refine lv_aload_n hx hb dX13_greet_31 rfl (lv_at hl 0 rfl) ?_
      refine lv_iload_n hx hb dX13_greet_32 rfl (lv_at hl 1 rfl) ?_
      refine lv_iload_n hx hb dX13_greet_33 rfl (lv_at hl 2 rfl) ?_
      obtain ⟨r_5, w_6, hc, hf⟩ := bd2_of hf
      refine k_V (As := [.int a1, .int a2]) (rest := [.ref (q0 0)]) (ws1 := (kModel G q0 w_6)) ⟨hx, hb, hml, hown, hts⟩ (c_X13_greets l D G q0 a1 a2 w_4 _ _ hc  _) (cwV 2 hts gX13_greet_X13_greets rfl rfl rfl (by decide +kernel) ⟨Nat.le_of_ble_eq_true rfl, Nat.le_of_ble_eq_true rfl⟩) hl.1 (Nat.le_of_ble_eq_true rfl) dX13_greet_34 ⟨Nat.le_of_ble_eq_true rfl, Nat.le_of_ble_eq_true rfl⟩ rfl kT_bl (fun _ _ _ => trivial) hN hK hP hD hS hA 0 11 rfl rfl rfl [0, 1, 2, 3, 4, 5, 6, 7, 8, 9, 10, 11] [] [0, 1, 2, 3, 4, 5, 6, 7, 8, 9, 10, 11] [0, 1, 2, 3] rfl rfl rfl ⟨by decide, by decide, by decide, by decide⟩ rfl (fun H locs hP hD hS => ?_)
      obtain ⟨r_7, w_8, hc, hf⟩ := bd2_of hf
      refine k_V (As := [.int r_5]) (rest := []) (ws1 := (kModel G q0 w_8)) ⟨hx, hb, hml, hown, hts⟩ (c_X13_keeps l D G q0 r_5 w_6 _ _ hc  _) (cwV 1 hts gX13_greet_X13_keeps rfl rfl rfl (by decide +kernel) ⟨Nat.le_of_ble_eq_true rfl, Nat.le_of_ble_eq_true rfl⟩) hl.1 (Nat.le_of_ble_eq_true rfl) dX13_greet_37 ⟨Nat.le_of_ble_eq_true rfl, Nat.le_of_ble_eq_true rfl⟩ rfl kT_bl (fun _ _ _ => trivial) hN hK hP hD hS hA 0 11 rfl rfl rfl [0, 1, 2, 3, 4, 5, 6, 7, 8, 9, 10, 11] [] [0, 1, 2, 3, 4, 5, 6, 7, 8, 9, 10, 11] [0, 1, 2, 3] rfl rfl rfl ⟨by decide, by decide, by decide, by decide⟩ rfl (fun H locs hP hD hS => ?_)
      obtain ⟨rfl, rfl⟩ := re2 hf
      exact hE hP hD hS dX13_greet_40
    · replace hf := ifF cc hf
      refine lv_aload_n hx hb dX13_greet_23 rfl (lv_at hl 0 rfl) ?_
      obtain ⟨r_9, w_10, hc, hf⟩ := bd2_of hf
      refine k_V (As := []) (rest := []) (ws1 := (kModel G q0 w_10)) ⟨hx, hb, hml, hown, hts⟩ (c_X13_refused l D G q0  w_4 _ _ hc  _) (cwV 0 hts gX13_greet_X13_refused rfl rfl rfl (by decide +kernel) ⟨Nat.le_of_ble_eq_true rfl, Nat.le_of_ble_eq_true rfl⟩) hl.1 (Nat.le_of_ble_eq_true rfl) dX13_greet_24 ⟨Nat.le_of_ble_eq_true rfl, Nat.le_of_ble_eq_true rfl⟩ rfl kT_bl (fun _ _ _ => trivial) hN hK hP hD hS hA 0 11 rfl rfl rfl [0, 1, 2, 3, 4, 5, 6, 7, 8, 9, 10, 11] [] [0, 1, 2, 3, 4, 5, 6, 7, 8, 9, 10, 11] [0, 1, 2, 3] rfl rfl rfl ⟨by decide, by decide, by decide, by decide⟩ rfl (fun H locs hP hD hS => ?_)
      refine lv_goto (tgt := 40) hx hb dX13_greet_27 (by decide) ?_
      obtain ⟨rfl, rfl⟩ := re2 hf
      exact hE hP hD hS dX13_greet_40
  · replace hf := ifT cc hf
    refine lv_iconst (v := (-1)) hx hb dX13_greet_12 (by decide) ?_
    obtain ⟨rfl, rfl⟩ := re2 hf
    exact hE hP hD hS dX13_greet_13
def f_X13_isRefusedGive (a1 : Int32) (a2 : Int32) (a3 : Int32) (v0 : SV) : Option (Int32 × SV) :=
  bd2 (f_X13_isQuarrel a1 a2 v0) fun r_1 w_2 =>
  if r_1 = 0 then
    bd1 (f_X13_plants a1 w_2) fun r_3 =>
    if a3 ≤ r_3 then
      bd1 (f_X13_plants a2 w_2) fun r_4 =>
      if (r_4 + a3) ≤ 9 then
        some (0, w_2)
      else
        bd1 (f_X13_plants a2 w_2) fun r_5 =>
        bd2 (f_X13_isBad 4 r_5 w_2) fun r_6 w_7 =>
        if r_6 = 0 then
          some (0, w_7)
        else
          some (1, w_7)
    else
      bd1 (f_X13_plants a1 w_2) fun r_8 =>
      bd2 (f_X13_isBad 6 r_8 w_2) fun r_9 w_10 =>
      ckB r_9 <|
      some (r_9, w_10)
  else
    some (1, w_2)
abbrev rm_X13_isRefusedGive : Room := { frames := 5, cells := 0, slots := 0, locals := 111 }
set_option maxHeartbeats 4000000 in
set_option maxRecDepth 100000 in
theorem c_X13_isRefusedGive (l : Launch) (D : va_G) (G : Nat → ClassId) (q0 : Nat → Nat) (a1 : Int32) (a2 : Int32) (a3 : Int32) (v0 : SV) (r : Int32) (v0' : SV) (hf : f_X13_isRefusedGive a1 a2 a3 v0 = some (r, v0')) (sz : Nat) : mC l yX13_isRefusedGive wsX13_isRefusedGive rm_X13_isRefusedGive D (tyG G) kT [.ref (q0 0), .int a1, .int a2, .int a3] (kModel G q0 v0) (kModel G q0 v0') sz (some (.int r)) 0 0 := by
  refine mC_ofZ (cc := cX13_isRefusedGive) (maxL := 4) (ret := (some .boolean)) (by decide) rfl rfl (Nat.le_of_ble_eq_true rfl) ?_
  intro p e s m args below meth c Q0 hx hb hml hts hown hN hK A hD hA hE hP hS hJ ls hl
  have hl : lv_has ls 4 [(0, .ref (q0 0)), (1, .int a1), (2, .int a2), (3, .int a3)] := hl
  unfold f_X13_isRefusedGive at hf
  refine lv_aload_n hx hb dX13_isRefusedGive_0 rfl (lv_at hl 0 rfl) ?_
  refine lv_iload_n hx hb dX13_isRefusedGive_1 rfl (lv_at hl 1 rfl) ?_
  refine lv_iload_n hx hb dX13_isRefusedGive_2 rfl (lv_at hl 2 rfl) ?_
  obtain ⟨r_1, w_2, hc, hf⟩ := bd2_of hf
  refine k_V (As := [.int a1, .int a2]) (rest := []) (ws1 := (kModel G q0 w_2)) ⟨hx, hb, hml, hown, hts⟩ (c_X13_isQuarrel l D G q0 a1 a2 v0 _ _ hc  _) (cwV 2 hts gX13_isRefusedGive_X13_isQuarrel rfl rfl rfl (by decide +kernel) ⟨Nat.le_of_ble_eq_true rfl, Nat.le_of_ble_eq_true rfl⟩) hl.1 (Nat.le_of_ble_eq_true rfl) dX13_isRefusedGive_3 ⟨Nat.le_of_ble_eq_true rfl, Nat.le_of_ble_eq_true rfl⟩ rfl kT_bl (fun _ _ _ => trivial) hN hK hP hD hS hA 0 11 rfl rfl rfl [0, 1, 2, 3, 4, 5, 6, 7, 8, 9, 10, 11] [] [0, 1, 2, 3, 4, 5, 6, 7, 8, 9, 10, 11] [0, 1, 2, 3] rfl rfl rfl ⟨by decide, by decide, by decide, by decide⟩ rfl (fun H locs hP hD hS => ?_)
  refine lv_if_eq (tgt := 11) hx hb dX13_isRefusedGive_6 (by decide) (fun cc => ?_) (fun cc => ?_)
  · replace hf := ifT cc hf
    refine lv_aload_n hx hb dX13_isRefusedGive_11 rfl (lv_at hl 0 rfl) ?_
    refine lv_iload_n hx hb dX13_isRefusedGive_12 rfl (lv_at hl 1 rfl) ?_
    obtain ⟨r_3, hc, hf⟩ := bd1_of hf
    refine k_V (As := [.int a1]) (rest := []) (ws1 := (kModel G q0 w_2)) ⟨hx, hb, hml, hown, hts⟩ (c_X13_plants l D G q0 a1 w_2 _ hc  _) (cwV 1 hts gX13_isRefusedGive_X13_plants rfl rfl rfl (by decide +kernel) ⟨Nat.le_of_ble_eq_true rfl, Nat.le_of_ble_eq_true rfl⟩) hl.1 (Nat.le_of_ble_eq_true rfl) dX13_isRefusedGive_13 ⟨Nat.le_of_ble_eq_true rfl, Nat.le_of_ble_eq_true rfl⟩ rfl kT_bl (fun _ _ _ => trivial) hN hK hP hD hS hA 0 11 rfl rfl rfl [0, 1, 2, 3, 4, 5, 6, 7, 8, 9, 10, 11] [] [0, 1, 2, 3, 4, 5, 6, 7, 8, 9, 10, 11] [0, 1, 2, 3] rfl rfl rfl ⟨by decide, by decide, by decide, by decide⟩ rfl (fun H locs hP hD hS => ?_)
    refine lv_iload_n hx hb dX13_isRefusedGive_16 rfl (lv_at hl 3 rfl) ?_
    refine lv_icmp_ge (tgt := 32) hx hb dX13_isRefusedGive_17 (by decide) (fun cc => ?_) (fun cc => ?_)
    · replace hf := ifT cc hf
      refine lv_aload_n hx hb dX13_isRefusedGive_32 rfl (lv_at hl 0 rfl) ?_
      refine lv_iload_n hx hb dX13_isRefusedGive_33 rfl (lv_at hl 2 rfl) ?_
      obtain ⟨r_4, hc, hf⟩ := bd1_of hf
      refine k_V (As := [.int a2]) (rest := []) (ws1 := (kModel G q0 w_2)) ⟨hx, hb, hml, hown, hts⟩ (c_X13_plants l D G q0 a2 w_2 _ hc  _) (cwV 1 hts gX13_isRefusedGive_X13_plants rfl rfl rfl (by decide +kernel) ⟨Nat.le_of_ble_eq_true rfl, Nat.le_of_ble_eq_true rfl⟩) hl.1 (Nat.le_of_ble_eq_true rfl) dX13_isRefusedGive_34 ⟨Nat.le_of_ble_eq_true rfl, Nat.le_of_ble_eq_true rfl⟩ rfl kT_bl (fun _ _ _ => trivial) hN hK hP hD hS hA 0 11 rfl rfl rfl [0, 1, 2, 3, 4, 5, 6, 7, 8, 9, 10, 11] [] [0, 1, 2, 3, 4, 5, 6, 7, 8, 9, 10, 11] [0, 1, 2, 3] rfl rfl rfl ⟨by decide, by decide, by decide, by decide⟩ rfl (fun H locs hP hD hS => ?_)
      refine lv_iload_n hx hb dX13_isRefusedGive_37 rfl (lv_at hl 3 rfl) ?_
      refine lv_iadd hx hb dX13_isRefusedGive_38 ?_
      refine lv_bipush (v := 9) hx hb dX13_isRefusedGive_39 (by decide +kernel) ?_
      refine lv_icmp_le (tgt := 61) hx hb dX13_isRefusedGive_41 (by decide) (fun cc => ?_) (fun cc => ?_)
      · replace hf := ifT cc hf
        refine lv_iconst (v := 0) hx hb dX13_isRefusedGive_61 (by decide) ?_
        obtain ⟨rfl, rfl⟩ := re2 hf
        exact hE (.inl rfl) hP hD hS dX13_isRefusedGive_62
      · replace hf := ifF cc hf
        refine lv_aload_n hx hb dX13_isRefusedGive_44 rfl (lv_at hl 0 rfl) ?_
        refine lv_iconst (v := 4) hx hb dX13_isRefusedGive_45 (by decide) ?_
        refine lv_aload_n hx hb dX13_isRefusedGive_46 rfl (lv_at hl 0 rfl) ?_
        refine lv_iload_n hx hb dX13_isRefusedGive_47 rfl (lv_at hl 2 rfl) ?_
        obtain ⟨r_5, hc, hf⟩ := bd1_of hf
        refine k_V (As := [.int a2]) (rest := [.int 4, .ref (q0 0)]) (ws1 := (kModel G q0 w_2)) ⟨hx, hb, hml, hown, hts⟩ (c_X13_plants l D G q0 a2 w_2 _ hc  _) (cwV 1 hts gX13_isRefusedGive_X13_plants rfl rfl rfl (by decide +kernel) ⟨Nat.le_of_ble_eq_true rfl, Nat.le_of_ble_eq_true rfl⟩) hl.1 (Nat.le_of_ble_eq_true rfl) dX13_isRefusedGive_48 ⟨Nat.le_of_ble_eq_true rfl, Nat.le_of_ble_eq_true rfl⟩ rfl kT_bl (fun _ _ _ => trivial) hN hK hP hD hS hA 0 11 rfl rfl rfl [0, 1, 2, 3, 4, 5, 6, 7, 8, 9, 10, 11] [] [0, 1, 2, 3, 4, 5, 6, 7, 8, 9, 10, 11] [0, 1, 2, 3] rfl rfl rfl ⟨by decide, by decide, by decide, by decide⟩ rfl (fun H locs hP hD hS => ?_)
        obtain ⟨r_6, w_7, hc, hf⟩ := bd2_of hf
        refine k_V (As := [.int 4, .int r_5]) (rest := []) (ws1 := (kModel G q0 w_7)) ⟨hx, hb, hml, hown, hts⟩ (c_X13_isBad l D G q0 4 r_5 w_2 _ _ hc  _) (cwV 2 hts gX13_isRefusedGive_X13_isBad rfl rfl rfl (by decide +kernel) ⟨Nat.le_of_ble_eq_true rfl, Nat.le_of_ble_eq_true rfl⟩) hl.1 (Nat.le_of_ble_eq_true rfl) dX13_isRefusedGive_51 ⟨Nat.le_of_ble_eq_true rfl, Nat.le_of_ble_eq_true rfl⟩ rfl kT_bl (fun _ _ _ => trivial) hN hK hP hD hS hA 0 11 rfl rfl rfl [0, 1, 2, 3, 4, 5, 6, 7, 8, 9, 10, 11] [] [0, 1, 2, 3, 4, 5, 6, 7, 8, 9, 10, 11] [0, 1, 2, 3] rfl rfl rfl ⟨by decide, by decide, by decide, by decide⟩ rfl (fun H locs hP hD hS => ?_)
        refine lv_if_eq (tgt := 61) hx hb dX13_isRefusedGive_54 (by decide) (fun cc => ?_) (fun cc => ?_)
        · replace hf := ifT cc hf
          refine lv_iconst (v := 0) hx hb dX13_isRefusedGive_61 (by decide) ?_
          obtain ⟨rfl, rfl⟩ := re2 hf
          exact hE (.inl rfl) hP hD hS dX13_isRefusedGive_62
        · replace hf := ifF cc hf
          refine lv_iconst (v := 1) hx hb dX13_isRefusedGive_57 (by decide) ?_
          refine lv_goto (tgt := 62) hx hb dX13_isRefusedGive_58 (by decide) ?_
          obtain ⟨rfl, rfl⟩ := re2 hf
          exact hE (.inr rfl) hP hD hS dX13_isRefusedGive_62
    · replace hf := ifF cc hf
      refine lv_aload_n hx hb dX13_isRefusedGive_20 rfl (lv_at hl 0 rfl) ?_
      refine lv_bipush (v := 6) hx hb dX13_isRefusedGive_21 (by decide +kernel) ?_
      refine lv_aload_n hx hb dX13_isRefusedGive_23 rfl (lv_at hl 0 rfl) ?_
      refine lv_iload_n hx hb dX13_isRefusedGive_24 rfl (lv_at hl 1 rfl) ?_
      obtain ⟨r_8, hc, hf⟩ := bd1_of hf
      refine k_V (As := [.int a1]) (rest := [.int 6, .ref (q0 0)]) (ws1 := (kModel G q0 w_2)) ⟨hx, hb, hml, hown, hts⟩ (c_X13_plants l D G q0 a1 w_2 _ hc  _) (cwV 1 hts gX13_isRefusedGive_X13_plants rfl rfl rfl (by decide +kernel) ⟨Nat.le_of_ble_eq_true rfl, Nat.le_of_ble_eq_true rfl⟩) hl.1 (Nat.le_of_ble_eq_true rfl) dX13_isRefusedGive_25 ⟨Nat.le_of_ble_eq_true rfl, Nat.le_of_ble_eq_true rfl⟩ rfl kT_bl (fun _ _ _ => trivial) hN hK hP hD hS hA 0 11 rfl rfl rfl [0, 1, 2, 3, 4, 5, 6, 7, 8, 9, 10, 11] [] [0, 1, 2, 3, 4, 5, 6, 7, 8, 9, 10, 11] [0, 1, 2, 3] rfl rfl rfl ⟨by decide, by decide, by decide, by decide⟩ rfl (fun H locs hP hD hS => ?_)
      obtain ⟨r_9, w_10, hc, hf⟩ := bd2_of hf
      refine k_V (As := [.int 6, .int r_8]) (rest := []) (ws1 := (kModel G q0 w_10)) ⟨hx, hb, hml, hown, hts⟩ (c_X13_isBad l D G q0 6 r_8 w_2 _ _ hc  _) (cwV 2 hts gX13_isRefusedGive_X13_isBad rfl rfl rfl (by decide +kernel) ⟨Nat.le_of_ble_eq_true rfl, Nat.le_of_ble_eq_true rfl⟩) hl.1 (Nat.le_of_ble_eq_true rfl) dX13_isRefusedGive_28 ⟨Nat.le_of_ble_eq_true rfl, Nat.le_of_ble_eq_true rfl⟩ rfl kT_bl (fun _ _ _ => trivial) hN hK hP hD hS hA 0 11 rfl rfl rfl [0, 1, 2, 3, 4, 5, 6, 7, 8, 9, 10, 11] [] [0, 1, 2, 3, 4, 5, 6, 7, 8, 9, 10, 11] [0, 1, 2, 3] rfl rfl rfl ⟨by decide, by decide, by decide, by decide⟩ rfl (fun H locs hP hD hS => ?_)
      obtain ⟨h01, hf⟩ := ckB_of hf
      obtain ⟨rfl, rfl⟩ := re2 hf
      exact hE h01 hP hD hS dX13_isRefusedGive_31
  · replace hf := ifF cc hf
    refine lv_iconst (v := 1) hx hb dX13_isRefusedGive_9 (by decide) ?_
    obtain ⟨rfl, rfl⟩ := re2 hf
    exact hE (.inr rfl) hP hD hS dX13_isRefusedGive_10
def f_X13_gives (a1 : Int32) (a2 : Int32) (a3 : Int32) (v0 : SV) : Option (Int32 × SV) :=
  ckI (10 + a1) 240 <|
  ckI (10 + a1) 240 <|
  nm (pA v0 0 (10 + a1) ((v0.2 0 (10 + a1).toNatClampNeg) - a3)) fun v_1 =>
  ckI (10 + a2) 240 <|
  ckI (10 + a2) 240 <|
  nm (pA v_1 0 (10 + a2) ((v_1.2 0 (10 + a2).toNatClampNeg) + a3)) fun v_2 =>
  ckI 3 240 <|
  ckI 3 240 <|
  nm (pA v_2 0 3 ((v_2.2 0 (3 : Int32).toNatClampNeg) + a3)) fun v_3 =>
  bd1 (f_X13_plants a2 v_3) fun r_4 =>
  some (r_4, v_3)
abbrev rm_X13_gives : Room := { frames := 1, cells := 0, slots := 0, locals := 21 }
set_option maxHeartbeats 4000000 in
set_option maxRecDepth 100000 in
theorem c_X13_gives (l : Launch) (D : va_G) (G : Nat → ClassId) (q0 : Nat → Nat) (a1 : Int32) (a2 : Int32) (a3 : Int32) (v0 : SV) (r : Int32) (v0' : SV) (hf : f_X13_gives a1 a2 a3 v0 = some (r, v0')) (sz : Nat) : mC l yX13_gives wsX13_gives rm_X13_gives D (tyG G) kT [.ref (q0 0), .int a1, .int a2, .int a3] (kModel G q0 v0) (kModel G q0 v0') sz (some (.int r)) 0 0 := by
  refine mC_ofI (cc := cX13_gives) (maxL := 4) (ret := (some .int)) (by decide) rfl rfl (Nat.le_of_ble_eq_true rfl) ?_
  intro p e s m args below meth c Q0 hx hb hml hts hown hN hK A hD hA hE hP hS hJ ls hl
  have hl : lv_has ls 4 [(0, .ref (q0 0)), (1, .int a1), (2, .int a2), (3, .int a3)] := hl
  unfold f_X13_gives at hf
  have hi11 : ∀ w ∈ u_ws RX13 TX13 27, w ∈ wsX13_gives := by decide +kernel
  have hw1 := hts (.fieldLink RX13 7 "BalconyCensusModel" "now" "[I") (by decide +kernel)
  refine lv_aload_n hx hb dX13_gives_0 rfl (lv_at hl 0 rfl) ?_
  refine va_get (D := D) (ci := 11) (v := .ref (q0 1)) (C := RX13) (T := TX13) (N := 27) hx hb hts hi11 hown hK hP 0 rfl rfl 0 (by decide) hw1 (fun _ h9 => h9) rfl dX13_gives_1 ?_
  refine lv_bipush (v := 10) hx hb dX13_gives_4 (by decide +kernel) ?_
  refine lv_iload_n hx hb dX13_gives_6 rfl (lv_at hl 1 rfl) ?_
  refine lv_iadd hx hb dX13_gives_7 ?_
  refine lv_dup2_11 hx hb dX13_gives_8 rfl rfl ?_
  obtain ⟨hin, hf⟩ := ckI_of hf
  refine va_iald (D := D) hx hb hK hP 1 0 rfl rfl hin dX13_gives_9 ?_
  refine lv_iload_n hx hb dX13_gives_10 rfl (lv_at hl 3 rfl) ?_
  refine lv_isub hx hb dX13_gives_11 ?_
  obtain ⟨hin, hf⟩ := ckI_of hf
  obtain ⟨v_1, ev_1, hf⟩ := nm_of hf
  refine va_iast (D := D) hx hb hK hP hD hS 1 0 rfl rfl hin dX13_gives_12 (fun H locs hP hD hS => ?_)
  have hP : va_P D vwCl (kModel G q0 v_1) H := by rw [ev_1]; exact hP
  have hD : va_D A (kModel G q0 v_1) := by rw [ev_1]; exact hD
  refine lv_aload_n hx hb dX13_gives_13 rfl (lv_at hl 0 rfl) ?_
  refine va_get (D := D) (ci := 11) (v := .ref (q0 1)) (C := RX13) (T := TX13) (N := 27) hx hb hts hi11 hown hK hP 0 rfl rfl 0 (by decide) hw1 (fun _ h9 => h9) rfl dX13_gives_14 ?_
  refine lv_bipush (v := 10) hx hb dX13_gives_17 (by decide +kernel) ?_
  refine lv_iload_n hx hb dX13_gives_19 rfl (lv_at hl 2 rfl) ?_
  refine lv_iadd hx hb dX13_gives_20 ?_
  refine lv_dup2_11 hx hb dX13_gives_21 rfl rfl ?_
  obtain ⟨hin, hf⟩ := ckI_of hf
  refine va_iald (D := D) hx hb hK hP 1 0 rfl rfl hin dX13_gives_22 ?_
  refine lv_iload_n hx hb dX13_gives_23 rfl (lv_at hl 3 rfl) ?_
  refine lv_iadd hx hb dX13_gives_24 ?_
  obtain ⟨hin, hf⟩ := ckI_of hf
  obtain ⟨v_2, ev_2, hf⟩ := nm_of hf
  refine va_iast (D := D) hx hb hK hP hD hS 1 0 rfl rfl hin dX13_gives_25 (fun H locs hP hD hS => ?_)
  have hP : va_P D vwCl (kModel G q0 v_2) H := by rw [ev_2]; exact hP
  have hD : va_D A (kModel G q0 v_2) := by rw [ev_2]; exact hD
  refine lv_aload_n hx hb dX13_gives_26 rfl (lv_at hl 0 rfl) ?_
  refine va_get (D := D) (ci := 11) (v := .ref (q0 1)) (C := RX13) (T := TX13) (N := 27) hx hb hts hi11 hown hK hP 0 rfl rfl 0 (by decide) hw1 (fun _ h9 => h9) rfl dX13_gives_27 ?_
  refine lv_iconst (v := 3) hx hb dX13_gives_30 (by decide) ?_
  refine lv_dup2_11 hx hb dX13_gives_31 rfl rfl ?_
  obtain ⟨hin, hf⟩ := ckI_of hf
  refine va_iald (D := D) hx hb hK hP 1 0 rfl rfl hin dX13_gives_32 ?_
  refine lv_iload_n hx hb dX13_gives_33 rfl (lv_at hl 3 rfl) ?_
  refine lv_iadd hx hb dX13_gives_34 ?_
  obtain ⟨hin, hf⟩ := ckI_of hf
  obtain ⟨v_3, ev_3, hf⟩ := nm_of hf
  refine va_iast (D := D) hx hb hK hP hD hS 1 0 rfl rfl hin dX13_gives_35 (fun H locs hP hD hS => ?_)
  have hP : va_P D vwCl (kModel G q0 v_3) H := by rw [ev_3]; exact hP
  have hD : va_D A (kModel G q0 v_3) := by rw [ev_3]; exact hD
  refine lv_aload_n hx hb dX13_gives_36 rfl (lv_at hl 0 rfl) ?_
  refine lv_iload_n hx hb dX13_gives_37 rfl (lv_at hl 2 rfl) ?_
  obtain ⟨r_4, hc, hf⟩ := bd1_of hf
  refine k_V (As := [.int a2]) (rest := []) (ws1 := (kModel G q0 v_3)) ⟨hx, hb, hml, hown, hts⟩ (c_X13_plants l D G q0 a2 v_3 _ hc  _) (cwV 1 hts gX13_gives_X13_plants rfl rfl rfl (by decide +kernel) ⟨Nat.le_of_ble_eq_true rfl, Nat.le_of_ble_eq_true rfl⟩) hl.1 (Nat.le_of_ble_eq_true rfl) dX13_gives_38 ⟨Nat.le_of_ble_eq_true rfl, Nat.le_of_ble_eq_true rfl⟩ rfl kT_bl (fun _ _ _ => trivial) hN hK hP hD hS hA 0 11 rfl rfl rfl [0, 1, 2, 3, 4, 5, 6, 7, 8, 9, 10, 11] [] [0, 1, 2, 3, 4, 5, 6, 7, 8, 9, 10, 11] [0, 1, 2, 3] rfl rfl rfl ⟨by decide, by decide, by decide, by decide⟩ rfl (fun H locs hP hD hS => ?_)
  obtain ⟨rfl, rfl⟩ := re2 hf
  exact hE hP hD hS dX13_gives_41
