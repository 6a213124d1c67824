/-! Walks, laid by wip/whole/gen.py: for each method f_ (what it does to its world) and c_ (its contract). -/
def f_X12_isWell (vmn : SV) (vho : SV) (vdr : SV) (vpa : SV) : Option (Int32 × SV × SV) :=
  bd1 (f_X12_feuds vmn vho) fun r_1 =>
  bd1 (f_X12_feudsAgain vmn vho) fun r_2 =>
  if r_1 = r_2 then
    bd1 (f_X12_excess vmn vho) fun r_3 =>
    bd2 (f_X12_excessAgain vmn vho vdr) fun r_4 w_5 =>
    if r_3 = r_4 then
      bd1 (f_X12_census vmn vho) fun r_6 =>
      bd1 (f_X12_censusAgain vmn vho) fun r_7 =>
      if r_6 = r_7 then
        bd2 (f_X12_areStepsAlike vmn vho vpa) fun r_8 w_9 =>
        if r_8 = 0 then
          some (0, w_5, w_9)
        else
          bd1 (f_X1_isAnyTogether vho) fun r_10 =>
          if r_10 = 0 then
            some (1, w_5, w_9)
          else
            some (0, w_5, w_9)
      else
        some (0, w_5, vpa)
    else
      some (0, w_5, vpa)
  else
    some (0, vdr, vpa)
abbrev rm_X12_isWell : Room := { frames := 6, cells := 0, slots := 0, locals := 143 }
set_option maxHeartbeats 4000000 in
set_option maxRecDepth 100000 in
theorem c_X12_isWell (l : Launch) (D : va_G) (G : Nat → ClassId) (Q : Nat → Nat → Nat) (vmn : SV) (vho : SV) (vdr : SV) (vpa : SV) (r : Int32) (vdr' : SV) (vpa' : SV) (hf : f_X12_isWell vmn vho vdr vpa = some (r, vdr', vpa')) (sz : Nat) : mC l yX12_isWell wsX12_isWell rm_X12_isWell D (tyG G) kT [.ref ((Q 0) 0)] (kMain Q vmn ++ kHouse G (Q 1) vho ++ kHouse G (Q 2) vdr ++ kPaths G (Q 7) vpa) (kMain Q vmn ++ kHouse G (Q 1) vho ++ kHouse G (Q 2) vdr' ++ kPaths G (Q 7) vpa') sz (some (.int r)) 0 0 := by
  refine mC_ofI (cc := cX12_isWell) (maxL := 2) (ret := (some .int)) (by decide) rfl rfl (Nat.le_of_ble_eq_true rfl) ?_
  intro p e s m args below meth c Q0 hx hb hml hts hown hN hK A hD hA hE hP hS hJ ls hl
  have hl : lv_has ls 2 [(0, .ref ((Q 0) 0))] := hl
  unfold f_X12_isWell at hf
  have hi10 : ∀ w ∈ u_ws RX12 TX12 11, w ∈ wsX12_isWell := by decide +kernel
  have hi4 : ∀ w ∈ u_ws RX6 TX6 10, w ∈ wsX12_isWell := by decide +kernel
  have hw1 := hts (.fieldLink RX12 12 "BalconyCensus" "house" "LBalconyCensus$House;") (by decide +kernel)
  have hw2 := hts (.fieldLink RX12 157 "BalconyCensus$House" "cats" "LBalconyCensus$Cats;") (by decide +kernel)
  refine lv_aload_n hx hb dX12_isWell_0 rfl (lv_at hl 0 rfl) ?_
  obtain ⟨r_1, hc, hf⟩ := bd1_of hf
  refine k_V (As := []) (rest := []) (ws1 := (kMain Q vmn ++ kHouse G (Q 1) vho ++ kHouse G (Q 2) vdr ++ kPaths G (Q 7) vpa)) ⟨hx, hb, hml, hown, hts⟩ (c_X12_feuds l D G Q  vmn vho _ hc  _) (cwV 0 hts gX12_isWell_X12_feuds rfl rfl rfl (by decide +kernel) ⟨Nat.le_of_ble_eq_true rfl, Nat.le_of_ble_eq_true rfl⟩) hl.1 (Nat.le_of_ble_eq_true rfl) dX12_isWell_1 ⟨Nat.le_of_ble_eq_true rfl, Nat.le_of_ble_eq_true rfl⟩ rfl kT_bl (fun _ _ _ => trivial) hN hK hP hD hS hA 0 10 rfl rfl rfl [0, 1, 2, 3, 4, 5, 6, 7, 8, 9, 10, 11, 12, 13, 14, 15] [16, 17, 18, 19, 20, 21, 22, 23, 24, 25, 26, 27, 28, 29, 30, 31, 32, 33] [18, 19, 20, 21, 22, 23, 24, 25, 26, 27, 28, 29, 30, 31, 32, 33, 0, 1, 2, 3, 4, 5, 6, 7, 8, 9, 10, 11, 12, 13, 14, 15, 16, 17] [0, 1, 2, 3] rfl rfl rfl ⟨by decide, by decide, by decide, by decide⟩ rfl (fun H locs hP hD hS => ?_)
  refine lv_aload_n hx hb dX12_isWell_4 rfl (lv_at hl 0 rfl) ?_
  obtain ⟨r_2, hc, hf⟩ := bd1_of hf
  refine k_V (As := []) (rest := [.int r_1]) (ws1 := (kMain Q vmn ++ kHouse G (Q 1) vho ++ kHouse G (Q 2) vdr ++ kPaths G (Q 7) vpa)) ⟨hx, hb, hml, hown, hts⟩ (c_X12_feudsAgain l D G Q  vmn vho _ hc  _) (cwV 0 hts gX12_isWell_X12_feudsAgain rfl rfl rfl (by decide +kernel) ⟨Nat.le_of_ble_eq_true rfl, Nat.le_of_ble_eq_true rfl⟩) hl.1 (Nat.le_of_ble_eq_true rfl) dX12_isWell_5 ⟨Nat.le_of_ble_eq_true rfl, Nat.le_of_ble_eq_true rfl⟩ rfl kT_bl (fun _ _ _ => trivial) hN hK hP hD hS hA 0 10 rfl rfl rfl [0, 1, 2, 3, 4, 5, 6, 7, 8, 9, 10, 11, 12, 13, 14, 15] [16, 17, 18, 19, 20, 21, 22, 23, 24, 25, 26, 27, 28, 29, 30, 31, 32, 33] [18, 19, 20, 21, 22, 23, 24, 25, 26, 27, 28, 29, 30, 31, 32, 33, 0, 1, 2, 3, 4, 5, 6, 7, 8, 9, 10, 11, 12, 13, 14, 15, 16, 17] [0, 1, 2, 3] rfl rfl rfl ⟨by decide, by decide, by decide, by decide⟩ rfl (fun H locs hP hD hS => ?_)
  refine lv_icmp_ne (tgt := 57) hx hb dX12_isWell_8 (by decide) (fun cc => ?_) (fun cc => ?_)
  · replace hf := ifF cc hf
    refine lv_iconst (v := 0) hx hb dX12_isWell_57 (by decide) ?_
    refine lv_istore_n (lv' := [(1, .int 0), (0, .ref ((Q 0) 0))]) hx hb dX12_isWell_58 rfl hl (by decide) rfl (fun ls hl => ?_)
    refine lv_iload_n hx hb dX12_isWell_59 rfl (lv_at hl 0 rfl) ?_
    refine lv_if_eq (tgt := 67) hx hb dX12_isWell_60 (by decide) (fun _ => ?_) (fun cc => absurd cc (by decide))
    refine lv_iconst (v := 0) hx hb dX12_isWell_67 (by decide) ?_
    obtain ⟨rfl, rfl, rfl⟩ := re3 hf
    exact hE hP hD hS dX12_isWell_68
  · replace hf := ifT cc hf
    refine lv_aload_n hx hb dX12_isWell_11 rfl (lv_at hl 0 rfl) ?_
    obtain ⟨r_3, hc, hf⟩ := bd1_of hf
    refine k_V (As := []) (rest := []) (ws1 := (kMain Q vmn ++ kHouse G (Q 1) vho ++ kHouse G (Q 2) vdr ++ kPaths G (Q 7) vpa)) ⟨hx, hb, hml, hown, hts⟩ (c_X12_excess l D G Q  vmn vho _ hc  _) (cwV 0 hts gX12_isWell_X12_excess rfl rfl rfl (by decide +kernel) ⟨Nat.le_of_ble_eq_true rfl, Nat.le_of_ble_eq_true rfl⟩) hl.1 (Nat.le_of_ble_eq_true rfl) dX12_isWell_12 ⟨Nat.le_of_ble_eq_true rfl, Nat.le_of_ble_eq_true rfl⟩ rfl kT_bl (fun _ _ _ => trivial) hN hK hP hD hS hA 0 10 rfl rfl rfl [0, 1, 2, 3, 4, 5, 6, 7, 8, 9, 10, 11, 12, 13, 14, 15] [16, 17, 18, 19, 20, 21, 22, 23, 24, 25, 26, 27, 28, 29, 30, 31, 32, 33] [18, 19, 20, 21, 22, 23, 24, 25, 26, 27, 28, 29, 30, 31, 32, 33, 0, 1, 2, 3, 4, 5, 6, 7, 8, 9, 10, 11, 12, 13, 14, 15, 16, 17] [0, 1, 2, 3] rfl rfl rfl ⟨by decide, by decide, by decide, by decide⟩ rfl (fun H locs hP hD hS => ?_)
    refine lv_aload_n hx hb dX12_isWell_15 rfl (lv_at hl 0 rfl) ?_
    obtain ⟨r_4, w_5, hc, hf⟩ := bd2_of hf
    refine k_V (As := []) (rest := [.int r_3]) (ws1 := (kMain Q vmn ++ kHouse G (Q 1) vho ++ kHouse G (Q 2) w_5 ++ kPaths G (Q 7) vpa)) ⟨hx, hb, hml, hown, hts⟩ (c_X12_excessAgain l D G Q  vmn vho vdr _ _ hc  _) (cwV 0 hts gX12_isWell_X12_excessAgain rfl rfl rfl (by decide +kernel) ⟨Nat.le_of_ble_eq_true rfl, Nat.le_of_ble_eq_true rfl⟩) hl.1 (Nat.le_of_ble_eq_true rfl) dX12_isWell_16 ⟨Nat.le_of_ble_eq_true rfl, Nat.le_of_ble_eq_true rfl⟩ rfl kT_bl (fun _ _ _ => trivial) hN hK hP hD hS hA 0 10 rfl rfl rfl [0, 1, 2, 3, 4, 5, 6, 7, 8, 9, 10, 11, 12, 13, 14, 15, 16, 17, 18, 19, 20, 21, 22, 23, 24, 25, 26, 27, 28, 29, 30] [31, 32, 33] [3, 4, 5, 6, 7, 8, 9, 10, 11, 12, 13, 14, 15, 16, 17, 18, 19, 20, 21, 22, 23, 24, 25, 26, 27, 28, 29, 30, 31, 32, 33, 0, 1, 2] [0, 1, 2, 3] rfl rfl rfl ⟨by decide, by decide, by decide, by decide⟩ rfl (fun H locs hP hD hS => ?_)
    refine lv_icmp_ne (tgt := 57) hx hb dX12_isWell_19 (by decide) (fun cc => ?_) (fun cc => ?_)
    · replace hf := ifF cc hf
      refine lv_iconst (v := 0) hx hb dX12_isWell_57 (by decide) ?_
      refine lv_istore_n (lv' := [(1, .int 0), (0, .ref ((Q 0) 0))]) hx hb dX12_isWell_58 rfl hl (by decide) rfl (fun ls hl => ?_)
      refine lv_iload_n hx hb dX12_isWell_59 rfl (lv_at hl 0 rfl) ?_
      refine lv_if_eq (tgt := 67) hx hb dX12_isWell_60 (by decide) (fun _ => ?_) (fun cc => absurd cc (by decide))
      refine lv_iconst (v := 0) hx hb dX12_isWell_67 (by decide) ?_
      obtain ⟨rfl, rfl, rfl⟩ := re3 hf
      exact hE hP hD hS dX12_isWell_68
    · replace hf := ifT cc hf
      refine lv_aload_n hx hb dX12_isWell_22 rfl (lv_at hl 0 rfl) ?_
      obtain ⟨r_6, hc, hf⟩ := bd1_of hf
      refine k_V (As := []) (rest := []) (ws1 := (kMain Q vmn ++ kHouse G (Q 1) vho ++ kHouse G (Q 2) w_5 ++ kPaths G (Q 7) vpa)) ⟨hx, hb, hml, hown, hts⟩ (c_X12_census l D G Q  vmn vho _ hc  _) (cwV 0 hts gX12_isWell_X12_census rfl rfl rfl (by decide +kernel) ⟨Nat.le_of_ble_eq_true rfl, Nat.le_of_ble_eq_true rfl⟩) hl.1 (Nat.le_of_ble_eq_true rfl) dX12_isWell_23 ⟨Nat.le_of_ble_eq_true rfl, Nat.le_of_ble_eq_true rfl⟩ rfl kT_bl (fun _ _ _ => trivial) hN hK hP hD hS hA 0 10 rfl rfl rfl [0, 1, 2, 3, 4, 5, 6, 7, 8, 9, 10, 11, 12, 13, 14, 15] [16, 17, 18, 19, 20, 21, 22, 23, 24, 25, 26, 27, 28, 29, 30, 31, 32, 33] [18, 19, 20, 21, 22, 23, 24, 25, 26, 27, 28, 29, 30, 31, 32, 33, 0, 1, 2, 3, 4, 5, 6, 7, 8, 9, 10, 11, 12, 13, 14, 15, 16, 17] [0, 1, 2, 3] rfl rfl rfl ⟨by decide, by decide, by decide, by decide⟩ rfl (fun H locs hP hD hS => ?_)
      refine lv_aload_n hx hb dX12_isWell_26 rfl (lv_at hl 0 rfl) ?_
      obtain ⟨r_7, hc, hf⟩ := bd1_of hf
      refine k_V (As := []) (rest := [.int r_6]) (ws1 := (kMain Q vmn ++ kHouse G (Q 1) vho ++ kHouse G (Q 2) w_5 ++ kPaths G (Q 7) vpa)) ⟨hx, hb, hml, hown, hts⟩ (c_X12_censusAgain l D G Q  vmn vho _ hc  _) (cwV 0 hts gX12_isWell_X12_censusAgain rfl rfl rfl (by decide +kernel) ⟨Nat.le_of_ble_eq_true rfl, Nat.le_of_ble_eq_true rfl⟩) hl.1 (Nat.le_of_ble_eq_true rfl) dX12_isWell_27 ⟨Nat.le_of_ble_eq_true rfl, Nat.le_of_ble_eq_true rfl⟩ rfl kT_bl (fun _ _ _ => trivial) hN hK hP hD hS hA 0 10 rfl rfl rfl [0, 1, 2, 3, 4, 5, 6, 7, 8, 9, 10, 11, 12, 13, 14, 15] [16, 17, 18, 19, 20, 21, 22, 23, 24, 25, 26, 27, 28, 29, 30, 31, 32, 33] [18, 19, 20, 21, 22, 23, 24, 25, 26, 27, 28, 29, 30, 31, 32, 33, 0, 1, 2, 3, 4, 5, 6, 7, 8, 9, 10, 11, 12, 13, 14, 15, 16, 17] [0, 1, 2, 3] rfl rfl rfl ⟨by decide, by decide, by decide, by decide⟩ rfl (fun H locs hP hD hS => ?_)
      refine lv_icmp_ne (tgt := 57) hx hb dX12_isWell_30 (by decide) (fun cc => ?_) (fun cc => ?_)
      · replace hf := ifF cc hf
        refine lv_iconst (v := 0) hx hb dX12_isWell_57 (by decide) ?_
        refine lv_istore_n (lv' := [(1, .int 0), (0, .ref ((Q 0) 0))]) hx hb dX12_isWell_58 rfl hl (by decide) rfl (fun ls hl => ?_)
        refine lv_iload_n hx hb dX12_isWell_59 rfl (lv_at hl 0 rfl) ?_
        refine lv_if_eq (tgt := 67) hx hb dX12_isWell_60 (by decide) (fun _ => ?_) (fun cc => absurd cc (by decide))
        refine lv_iconst (v := 0) hx hb dX12_isWell_67 (by decide) ?_
        obtain ⟨rfl, rfl, rfl⟩ := re3 hf
        exact hE hP hD hS dX12_isWell_68
      · replace hf := ifT cc hf
        refine lv_aload_n hx hb dX12_isWell_33 rfl (lv_at hl 0 rfl) ?_
        obtain ⟨r_8, w_9, hc, hf⟩ := bd2_of hf
        refine k_V (As := []) (rest := []) (ws1 := (kMain Q vmn ++ kHouse G (Q 1) vho ++ kHouse G (Q 2) w_5 ++ kPaths G (Q 7) w_9)) ⟨hx, hb, hml, hown, hts⟩ (c_X12_areStepsAlike l D G Q  vmn vho vpa _ _ hc  _) (cwV 0 hts gX12_isWell_X12_areStepsAlike rfl rfl rfl (by decide +kernel) ⟨Nat.le_of_ble_eq_true rfl, Nat.le_of_ble_eq_true rfl⟩) hl.1 (Nat.le_of_ble_eq_true rfl) dX12_isWell_34 ⟨Nat.le_of_ble_eq_true rfl, Nat.le_of_ble_eq_true rfl⟩ rfl kT_bl (fun _ _ _ => trivial) hN hK hP hD hS hA 0 10 rfl rfl rfl [0, 1, 2, 3, 4, 5, 6, 7, 8, 9, 10, 11, 12, 13, 14, 15, 31, 32, 33] [16, 17, 18, 19, 20, 21, 22, 23, 24, 25, 26, 27, 28, 29, 30] [15, 16, 17, 18, 19, 20, 21, 22, 23, 24, 25, 26, 27, 28, 29, 30, 0, 1, 2, 3, 4, 5, 6, 7, 8, 9, 10, 11, 12, 13, 14, 31, 32, 33] [0, 1, 2, 3] rfl rfl rfl ⟨by decide, by decide, by decide, by decide⟩ rfl (fun H locs hP hD hS => ?_)
        refine lv_if_eq (tgt := 57) hx hb dX12_isWell_37 (by decide) (fun cc => ?_) (fun cc => ?_)
        · replace hf := ifT cc hf
          refine lv_iconst (v := 0) hx hb dX12_isWell_57 (by decide) ?_
          refine lv_istore_n (lv' := [(1, .int 0), (0, .ref ((Q 0) 0))]) hx hb dX12_isWell_58 rfl hl (by decide) rfl (fun ls hl => ?_)
          refine lv_iload_n hx hb dX12_isWell_59 rfl (lv_at hl 0 rfl) ?_
          refine lv_if_eq (tgt := 67) hx hb dX12_isWell_60 (by decide) (fun _ => ?_) (fun cc => absurd cc (by decide))
          refine lv_iconst (v := 0) hx hb dX12_isWell_67 (by decide) ?_
          obtain ⟨rfl, rfl, rfl⟩ := re3 hf
          exact hE hP hD hS dX12_isWell_68
        · replace hf := ifF cc hf
          refine lv_aload_n hx hb dX12_isWell_40 rfl (lv_at hl 0 rfl) ?_
          refine va_get (D := D) (ci := 10) (v := .ref (Q 1 0)) (C := RX12) (T := TX12) (N := 11) hx hb hts hi10 hown hK hP 0 rfl rfl 0 (by decide) hw1 (fun _ h9 => h9) rfl dX12_isWell_41 ?_
          refine va_get (D := D) (ci := 4) (v := .ref ((Q 1) 10)) (C := RX6) (T := TX6) (N := 10) hx hb hts hi4 hown hK hP 1 rfl rfl 4 (by decide) hw2 (fun _ h9 => h9) rfl dX12_isWell_44 ?_
          obtain ⟨r_10, hc, hf⟩ := bd1_of hf
          refine k_V (As := []) (rest := []) (ws1 := (kMain Q vmn ++ kHouse G (Q 1) vho ++ kHouse G (Q 2) w_5 ++ kPaths G (Q 7) w_9)) ⟨hx, hb, hml, hown, hts⟩ (c_X1_isAnyTogether l D G (Q 1)  vho _ hc  _) (cwV 0 hts gX12_isWell_X1_isAnyTogether rfl rfl rfl (by decide +kernel) ⟨Nat.le_of_ble_eq_true rfl, Nat.le_of_ble_eq_true rfl⟩) hl.1 (Nat.le_of_ble_eq_true rfl) dX12_isWell_47 ⟨Nat.le_of_ble_eq_true rfl, Nat.le_of_ble_eq_true rfl⟩ rfl kT_bl (fun _ _ _ => trivial) hN hK hP hD hS hA 11 1 rfl rfl rfl [11, 12, 13, 14] [0, 1, 2, 3, 4, 5, 6, 7, 8, 9, 10, 15, 16, 17, 18, 19, 20, 21, 22, 23, 24, 25, 26, 27, 28, 29, 30, 31, 32, 33] [0, 1, 2, 3, 4, 5, 6, 7, 8, 9, 10, 30, 31, 32, 33, 11, 12, 13, 14, 15, 16, 17, 18, 19, 20, 21, 22, 23, 24, 25, 26, 27, 28, 29] [0, 1, 2, 3] rfl rfl rfl ⟨by decide, by decide, by decide, by decide⟩ rfl (fun H locs hP hD hS => ?_)
          refine lv_if_ne (tgt := 57) hx hb dX12_isWell_50 (by decide) (fun cc => ?_) (fun cc => ?_)
          · replace hf := ifF cc hf
            refine lv_iconst (v := 0) hx hb dX12_isWell_57 (by decide) ?_
            refine lv_istore_n (lv' := [(1, .int 0), (0, .ref ((Q 0) 0))]) hx hb dX12_isWell_58 rfl hl (by decide) rfl (fun ls hl => ?_)
            refine lv_iload_n hx hb dX12_isWell_59 rfl (lv_at hl 0 rfl) ?_
            refine lv_if_eq (tgt := 67) hx hb dX12_isWell_60 (by decide) (fun _ => ?_) (fun cc => absurd cc (by decide))
            refine lv_iconst (v := 0) hx hb dX12_isWell_67 (by decide) ?_
            obtain ⟨rfl, rfl, rfl⟩ := re3 hf
            exact hE hP hD hS dX12_isWell_68
          · replace hf := ifT cc hf
            refine lv_iconst (v := 1) hx hb dX12_isWell_53 (by decide) ?_
            refine lv_goto (tgt := 58) hx hb dX12_isWell_54 (by decide) ?_
            refine lv_istore_n (lv' := [(1, .int 1), (0, .ref ((Q 0) 0))]) hx hb dX12_isWell_58 rfl hl (by decide) rfl (fun ls hl => ?_)
            refine lv_iload_n hx hb dX12_isWell_59 rfl (lv_at hl 0 rfl) ?_
            refine lv_if_eq (tgt := 67) hx hb dX12_isWell_60 (by decide) (fun cc => absurd cc (by decide)) (fun _ => ?_)
            refine lv_iconst (v := 1) hx hb dX12_isWell_63 (by decide) ?_
            refine lv_goto (tgt := 68) hx hb dX12_isWell_64 (by decide) ?_
            obtain ⟨rfl, rfl, rfl⟩ := re3 hf
            exact hE hP hD hS dX12_isWell_68
def f_X12_account (a1 : Int32) (vmn : SV) (vho : SV) (vhi : SV) (vre : SV) : Option Int32 :=
  if a1 = 0 then
    bd1 (f_X6_plantSum vho) fun r_1 =>
    some r_1
  else
  if a1 = 1 then
    bd1 (f_X3_byPairs vho) fun r_2 =>
    some r_2
  else
  if a1 = 2 then
    some (vho.1 4)
  else
  if a1 = 3 then
    some (vho.1 6)
  else
  if a1 = 4 then
    bd1 (f_X1_countAtHome vho) fun r_3 =>
    some r_3
  else
  if a1 = 5 then
    some (vho.1 0)
  else
  if a1 = 6 then
    bd1 (f_X4_sumGiven vho) fun r_4 =>
    some r_4
  else
  if a1 = 7 then
    some (vho.1 1)
  else
  if a1 = 8 then
    some (vho.1 2)
  else
  if a1 = 9 then
    some (vho.1 3)
  else
  if a1 = 10 then
    bd1 (f_X1_swapSum vho) fun r_5 =>
    some r_5
  else
  if a1 = 11 then
    some (vho.1 5)
  else
  if a1 = 12 then
    some (vre.1 0)
  else
  if a1 = 13 then
    some (vhi.1 1)
  else
  some (-2)
abbrev rm_X12_account : Room := { frames := 3, cells := 0, slots := 0, locals := 72 }
set_option maxHeartbeats 4000000 in
set_option maxRecDepth 100000 in
theorem c_X12_account (l : Launch) (D : va_G) (G : Nat → ClassId) (Q : Nat → Nat → Nat) (a1 : Int32) (vmn : SV) (vho : SV) (vhi : SV) (vre : SV) (r : Int32) (hf : f_X12_account a1 vmn vho vhi vre = some r) (sz : Nat) : mC l yX12_account wsX12_account rm_X12_account D (tyG G) kT [.ref ((Q 0) 0), .int a1] (kMain Q vmn ++ kHouse G (Q 1) vho ++ kHist Q vhi ++ kReader G (Q 5) vre) (kMain Q vmn ++ kHouse G (Q 1) vho ++ kHist Q vhi ++ kReader G (Q 5) vre) sz (some (.int r)) 0 0 := by
  refine mC_ofI (cc := cX12_account) (maxL := 2) (ret := (some .int)) (by decide) rfl rfl (Nat.le_of_ble_eq_true rfl) ?_
  intro p e s m args below meth c Q0 hx hb hml hts hown hN hK A hD hA hE hP hS hJ ls hl
  have hl : lv_has ls 2 [(0, .ref ((Q 0) 0)), (1, .int a1)] := hl
  unfold f_X12_account at hf
  have hi10 : ∀ w ∈ u_ws RX12 TX12 11, w ∈ wsX12_account := by decide +kernel
  have hi4 : ∀ w ∈ u_ws RX6 TX6 10, w ∈ wsX12_account := by decide +kernel
  have hi5 : ∀ w ∈ u_ws RX7 TX7 5, w ∈ wsX12_account := by decide +kernel
  have hi1 : ∀ w ∈ u_ws RX1 TX1 4, w ∈ wsX12_account := by decide +kernel
  have hi8 : ∀ w ∈ u_ws RX10 TX10 8, w ∈ wsX12_account := by decide +kernel
  have hi3 : ∀ w ∈ u_ws RX5 TX5 3, w ∈ wsX12_account := by decide +kernel
  have hw1 := hts (.fieldLink RX12 12 "BalconyCensus" "house" "LBalconyCensus$House;") (by decide +kernel)
  have hw2 := hts (.fieldLink RX12 184 "BalconyCensus$House" "lines" "LBalconyCensus$Lines;") (by decide +kernel)
  have hw3 := hts (.fieldLink RX12 226 "BalconyCensus$Lines" "count" "I") (by decide +kernel)
  have hw4 := hts (.fieldLink RX12 157 "BalconyCensus$House" "cats" "LBalconyCensus$Cats;") (by decide +kernel)
  have hw5 := hts (.fieldLink RX12 207 "BalconyCensus$Cats" "count" "I") (by decide +kernel)
  have hw6 := hts (.fieldLink RX12 325 "BalconyCensus$House" "days" "I") (by decide +kernel)
  have hw7 := hts (.fieldLink RX12 172 "BalconyCensus$House" "greetings" "LBalconyCensus$Greetings;") (by decide +kernel)
  have hw8 := hts (.fieldLink RX12 328 "BalconyCensus$House" "plantsGiven" "I") (by decide +kernel)
  have hw9 := hts (.fieldLink RX12 331 "BalconyCensus$House" "plantsPut" "I") (by decide +kernel)
  have hw10 := hts (.fieldLink RX12 334 "BalconyCensus$House" "plantsGrown" "I") (by decide +kernel)
  have hw11 := hts (.fieldLink RX12 340 "BalconyCensus$Lines" "hungSoFar" "I") (by decide +kernel)
  have hw12 := hts (.fieldLink RX12 36 "BalconyCensus" "reader" "LBalconyCensus$Reader;") (by decide +kernel)
  have hw13 := hts (.fieldLink RX12 343 "BalconyCensus$Reader" "length" "I") (by decide +kernel)
  have hw14 := hts (.fieldLink RX12 29 "BalconyCensus" "history" "LBalconyCensus$History;") (by decide +kernel)
  have hw15 := hts (.fieldLink RX12 345 "BalconyCensus$History" "count" "I") (by decide +kernel)
  refine lv_iload_n hx hb dX12_account_0 rfl (lv_at hl 1 rfl) ?_
  by_cases c0 : a1 = 0
  · replace hf := ifT c0 hf
    refine lv_tableIn (off := 71) (tgt := 72) hx hb dX12_account_1 (by rw [c0]; decide) (by rw [c0]; decide) (by rw [c0]; rfl) (by decide) ?_
    refine lv_aload_n hx hb dX12_account_72 rfl (lv_at hl 0 rfl) ?_
    refine va_get (D := D) (ci := 10) (v := .ref (Q 1 0)) (C := RX12) (T := TX12) (N := 11) hx hb hts hi10 hown hK hP 0 rfl rfl 0 (by decide) hw1 (fun _ h9 => h9) rfl dX12_account_73 ?_
    obtain ⟨r_1, hc, hf⟩ := bd1_of hf
    refine k_V (As := []) (rest := []) (ws1 := (kMain Q vmn ++ kHouse G (Q 1) vho ++ kHist Q vhi ++ kReader G (Q 5) vre)) ⟨hx, hb, hml, hown, hts⟩ (c_X6_plantSum l D G (Q 1)  vho _ hc  _) (cwV 0 hts gX12_account_X6_plantSum rfl rfl rfl (by decide +kernel) ⟨Nat.le_of_ble_eq_true rfl, Nat.le_of_ble_eq_true rfl⟩) hl.1 (Nat.le_of_ble_eq_true rfl) dX12_account_76 ⟨Nat.le_of_ble_eq_true rfl, Nat.le_of_ble_eq_true rfl⟩ rfl kT_bl (fun _ _ _ => trivial) hN hK hP hD hS hA 1 4 rfl rfl rfl [1, 2, 3, 4, 5, 6, 7, 8, 9, 10, 11, 12, 13, 14, 15] [0, 16, 17, 18, 19, 20, 21, 22] [0, 8, 9, 10, 11, 12, 13, 14, 15, 16, 17, 18, 19, 20, 21, 22, 1, 2, 3, 4, 5, 6, 7] [0, 1, 2, 3] rfl rfl rfl ⟨by decide, by decide, by decide, by decide⟩ rfl (fun H locs hP hD hS => ?_)
    obtain rfl := re1 hf
    exact hE hP hD hS dX12_account_79
  replace hf := ifF c0 hf
  by_cases c1 : a1 = 1
  · replace hf := ifT c1 hf
    refine lv_tableIn (off := 79) (tgt := 80) hx hb dX12_account_1 (by rw [c1]; decide) (by rw [c1]; decide) (by rw [c1]; rfl) (by decide) ?_
    refine lv_aload_n hx hb dX12_account_80 rfl (lv_at hl 0 rfl) ?_
    refine va_get (D := D) (ci := 10) (v := .ref (Q 1 0)) (C := RX12) (T := TX12) (N := 11) hx hb hts hi10 hown hK hP 0 rfl rfl 0 (by decide) hw1 (fun _ h9 => h9) rfl dX12_account_81 ?_
    obtain ⟨r_2, hc, hf⟩ := bd1_of hf
    refine k_S (As := [.ref ((Q 1) 0)]) (rest := []) (ws1 := (kMain Q vmn ++ kHouse G (Q 1) vho ++ kHist Q vhi ++ kReader G (Q 5) vre)) ⟨hx, hb, hml, hown, hts⟩ (c_X3_byPairs l D G (Q 1)  vho _ hc  _) (va_cwS 1 hts gX12_account_X3_byPairs rfl rfl rfl (by decide +kernel) ⟨Nat.le_of_ble_eq_true rfl, Nat.le_of_ble_eq_true rfl⟩) hl.1 (Nat.le_of_ble_eq_true rfl) dX12_account_84 ⟨Nat.le_of_ble_eq_true rfl, Nat.le_of_ble_eq_true rfl⟩ rfl kT_bl (fun _ _ _ => trivial) hN hK hP hD hS hA [1, 2, 3, 4, 5, 6, 7, 8, 9, 10, 11, 12, 13, 14, 15] [0, 16, 17, 18, 19, 20, 21, 22] [0, 8, 9, 10, 11, 12, 13, 14, 15, 16, 17, 18, 19, 20, 21, 22, 1, 2, 3, 4, 5, 6, 7] [0, 1, 2, 3] rfl rfl rfl ⟨by decide, by decide, by decide, by decide⟩ rfl (fun H locs hP hD hS => ?_)
    obtain rfl := re1 hf
    exact hE hP hD hS dX12_account_87
  replace hf := ifF c1 hf
  by_cases c2 : a1 = 2
  · replace hf := ifT c2 hf
    refine lv_tableIn (off := 87) (tgt := 88) hx hb dX12_account_1 (by rw [c2]; decide) (by rw [c2]; decide) (by rw [c2]; rfl) (by decide) ?_
    refine lv_aload_n hx hb dX12_account_88 rfl (lv_at hl 0 rfl) ?_
    refine va_get (D := D) (ci := 10) (v := .ref (Q 1 0)) (C := RX12) (T := TX12) (N := 11) hx hb hts hi10 hown hK hP 0 rfl rfl 0 (by decide) hw1 (fun _ h9 => h9) rfl dX12_account_89 ?_
    refine va_get (D := D) (ci := 4) (v := .ref ((Q 1) 3)) (C := RX6) (T := TX6) (N := 10) hx hb hts hi4 hown hK hP 1 rfl rfl 2 (by decide) hw2 (fun _ h9 => h9) rfl dX12_account_92 ?_
    refine va_get (D := D) (ci := 5) (v := .int (vho.1 4)) (C := RX7) (T := TX7) (N := 5) hx hb hts hi5 hown hK hP 4 rfl rfl 3 (by decide) hw3 (fun _ h9 => h9) rfl dX12_account_95 ?_
    obtain rfl := re1 hf
    exact hE hP hD hS dX12_account_98
  replace hf := ifF c2 hf
  by_cases c3 : a1 = 3
  · replace hf := ifT c3 hf
    refine lv_tableIn (off := 98) (tgt := 99) hx hb dX12_account_1 (by rw [c3]; decide) (by rw [c3]; decide) (by rw [c3]; rfl) (by decide) ?_
    refine lv_aload_n hx hb dX12_account_99 rfl (lv_at hl 0 rfl) ?_
    refine va_get (D := D) (ci := 10) (v := .ref (Q 1 0)) (C := RX12) (T := TX12) (N := 11) hx hb hts hi10 hown hK hP 0 rfl rfl 0 (by decide) hw1 (fun _ h9 => h9) rfl dX12_account_100 ?_
    refine va_get (D := D) (ci := 4) (v := .ref ((Q 1) 10)) (C := RX6) (T := TX6) (N := 10) hx hb hts hi4 hown hK hP 1 rfl rfl 4 (by decide) hw4 (fun _ h9 => h9) rfl dX12_account_103 ?_
    refine va_get (D := D) (ci := 1) (v := .int (vho.1 6)) (C := RX1) (T := TX1) (N := 4) hx hb hts hi1 hown hK hP 11 rfl rfl 3 (by decide) hw5 (fun _ h9 => h9) rfl dX12_account_106 ?_
    obtain rfl := re1 hf
    exact hE hP hD hS dX12_account_109
  replace hf := ifF c3 hf
  by_cases c4 : a1 = 4
  · replace hf := ifT c4 hf
    refine lv_tableIn (off := 109) (tgt := 110) hx hb dX12_account_1 (by rw [c4]; decide) (by rw [c4]; decide) (by rw [c4]; rfl) (by decide) ?_
    refine lv_aload_n hx hb dX12_account_110 rfl (lv_at hl 0 rfl) ?_
    refine va_get (D := D) (ci := 10) (v := .ref (Q 1 0)) (C := RX12) (T := TX12) (N := 11) hx hb hts hi10 hown hK hP 0 rfl rfl 0 (by decide) hw1 (fun _ h9 => h9) rfl dX12_account_111 ?_
    refine va_get (D := D) (ci := 4) (v := .ref ((Q 1) 10)) (C := RX6) (T := TX6) (N := 10) hx hb hts hi4 hown hK hP 1 rfl rfl 4 (by decide) hw4 (fun _ h9 => h9) rfl dX12_account_114 ?_
    obtain ⟨r_3, hc, hf⟩ := bd1_of hf
    refine k_V (As := []) (rest := []) (ws1 := (kMain Q vmn ++ kHouse G (Q 1) vho ++ kHist Q vhi ++ kReader G (Q 5) vre)) ⟨hx, hb, hml, hown, hts⟩ (c_X1_countAtHome l D G (Q 1)  vho _ hc  _) (cwV 0 hts gX12_account_X1_countAtHome rfl rfl rfl (by decide +kernel) ⟨Nat.le_of_ble_eq_true rfl, Nat.le_of_ble_eq_true rfl⟩) hl.1 (Nat.le_of_ble_eq_true rfl) dX12_account_117 ⟨Nat.le_of_ble_eq_true rfl, Nat.le_of_ble_eq_true rfl⟩ rfl kT_bl (fun _ _ _ => trivial) hN hK hP hD hS hA 11 1 rfl rfl rfl [11, 12, 13, 14] [0, 1, 2, 3, 4, 5, 6, 7, 8, 9, 10, 15, 16, 17, 18, 19, 20, 21, 22] [0, 1, 2, 3, 4, 5, 6, 7, 8, 9, 10, 19, 20, 21, 22, 11, 12, 13, 14, 15, 16, 17, 18] [0, 1, 2, 3] rfl rfl rfl ⟨by decide, by decide, by decide, by decide⟩ rfl (fun H locs hP hD hS => ?_)
    obtain rfl := re1 hf
    exact hE hP hD hS dX12_account_120
  replace hf := ifF c4 hf
  by_cases c5 : a1 = 5
  · replace hf := ifT c5 hf
    refine lv_tableIn (off := 120) (tgt := 121) hx hb dX12_account_1 (by rw [c5]; decide) (by rw [c5]; decide) (by rw [c5]; rfl) (by decide) ?_
    refine lv_aload_n hx hb dX12_account_121 rfl (lv_at hl 0 rfl) ?_
    refine va_get (D := D) (ci := 10) (v := .ref (Q 1 0)) (C := RX12) (T := TX12) (N := 11) hx hb hts hi10 hown hK hP 0 rfl rfl 0 (by decide) hw1 (fun _ h9 => h9) rfl dX12_account_122 ?_
    refine va_get (D := D) (ci := 4) (v := .int (vho.1 0)) (C := RX6) (T := TX6) (N := 10) hx hb hts hi4 hown hK hP 1 rfl rfl 6 (by decide) hw6 (fun _ h9 => h9) rfl dX12_account_125 ?_
    obtain rfl := re1 hf
    exact hE hP hD hS dX12_account_128
  replace hf := ifF c5 hf
  by_cases c6 : a1 = 6
  · replace hf := ifT c6 hf
    refine lv_tableIn (off := 128) (tgt := 129) hx hb dX12_account_1 (by rw [c6]; decide) (by rw [c6]; decide) (by rw [c6]; rfl) (by decide) ?_
    refine lv_aload_n hx hb dX12_account_129 rfl (lv_at hl 0 rfl) ?_
    refine va_get (D := D) (ci := 10) (v := .ref (Q 1 0)) (C := RX12) (T := TX12) (N := 11) hx hb hts hi10 hown hK hP 0 rfl rfl 0 (by decide) hw1 (fun _ h9 => h9) rfl dX12_account_130 ?_
    refine va_get (D := D) (ci := 4) (v := .ref ((Q 1) 7)) (C := RX6) (T := TX6) (N := 10) hx hb hts hi4 hown hK hP 1 rfl rfl 3 (by decide) hw7 (fun _ h9 => h9) rfl dX12_account_133 ?_
    obtain ⟨r_4, hc, hf⟩ := bd1_of hf
    refine k_V (As := []) (rest := []) (ws1 := (kMain Q vmn ++ kHouse G (Q 1) vho ++ kHist Q vhi ++ kReader G (Q 5) vre)) ⟨hx, hb, hml, hown, hts⟩ (c_X4_sumGiven l D G (Q 1)  vho _ hc  _) (cwV 0 hts gX12_account_X4_sumGiven rfl rfl rfl (by decide +kernel) ⟨Nat.le_of_ble_eq_true rfl, Nat.le_of_ble_eq_true rfl⟩) hl.1 (Nat.le_of_ble_eq_true rfl) dX12_account_136 ⟨Nat.le_of_ble_eq_true rfl, Nat.le_of_ble_eq_true rfl⟩ rfl kT_bl (fun _ _ _ => trivial) hN hK hP hD hS hA 8 2 rfl rfl rfl [8, 9, 10] [0, 1, 2, 3, 4, 5, 6, 7, 11, 12, 13, 14, 15, 16, 17, 18, 19, 20, 21, 22] [0, 1, 2, 3, 4, 5, 6, 7, 20, 21, 22, 8, 9, 10, 11, 12, 13, 14, 15, 16, 17, 18, 19] [0, 1, 2, 3] rfl rfl rfl ⟨by decide, by decide, by decide, by decide⟩ rfl (fun H locs hP hD hS => ?_)
    obtain rfl := re1 hf
    exact hE hP hD hS dX12_account_139
  replace hf := ifF c6 hf
  by_cases c7 : a1 = 7
  · replace hf := ifT c7 hf
    refine lv_tableIn (off := 139) (tgt := 140) hx hb dX12_account_1 (by rw [c7]; decide) (by rw [c7]; decide) (by rw [c7]; rfl) (by decide) ?_
    refine lv_aload_n hx hb dX12_account_140 rfl (lv_at hl 0 rfl) ?_
    refine va_get (D := D) (ci := 10) (v := .ref (Q 1 0)) (C := RX12) (T := TX12) (N := 11) hx hb hts hi10 hown hK hP 0 rfl rfl 0 (by decide) hw1 (fun _ h9 => h9) rfl dX12_account_141 ?_
    refine va_get (D := D) (ci := 4) (v := .int (vho.1 1)) (C := RX6) (T := TX6) (N := 10) hx hb hts hi4 hown hK hP 1 rfl rfl 7 (by decide) hw8 (fun _ h9 => h9) rfl dX12_account_144 ?_
    obtain rfl := re1 hf
    exact hE hP hD hS dX12_account_147
  replace hf := ifF c7 hf
  by_cases c8 : a1 = 8
  · replace hf := ifT c8 hf
    refine lv_tableIn (off := 147) (tgt := 148) hx hb dX12_account_1 (by rw [c8]; decide) (by rw [c8]; decide) (by rw [c8]; rfl) (by decide) ?_
    refine lv_aload_n hx hb dX12_account_148 rfl (lv_at hl 0 rfl) ?_
    refine va_get (D := D) (ci := 10) (v := .ref (Q 1 0)) (C := RX12) (T := TX12) (N := 11) hx hb hts hi10 hown hK hP 0 rfl rfl 0 (by decide) hw1 (fun _ h9 => h9) rfl dX12_account_149 ?_
    refine va_get (D := D) (ci := 4) (v := .int (vho.1 2)) (C := RX6) (T := TX6) (N := 10) hx hb hts hi4 hown hK hP 1 rfl rfl 8 (by decide) hw9 (fun _ h9 => h9) rfl dX12_account_152 ?_
    obtain rfl := re1 hf
    exact hE hP hD hS dX12_account_155
  replace hf := ifF c8 hf
  by_cases c9 : a1 = 9
  · replace hf := ifT c9 hf
    refine lv_tableIn (off := 155) (tgt := 156) hx hb dX12_account_1 (by rw [c9]; decide) (by rw [c9]; decide) (by rw [c9]; rfl) (by decide) ?_
    refine lv_aload_n hx hb dX12_account_156 rfl (lv_at hl 0 rfl) ?_
    refine va_get (D := D) (ci := 10) (v := .ref (Q 1 0)) (C := RX12) (T := TX12) (N := 11) hx hb hts hi10 hown hK hP 0 rfl rfl 0 (by decide) hw1 (fun _ h9 => h9) rfl dX12_account_157 ?_
    refine va_get (D := D) (ci := 4) (v := .int (vho.1 3)) (C := RX6) (T := TX6) (N := 10) hx hb hts hi4 hown hK hP 1 rfl rfl 9 (by decide) hw10 (fun _ h9 => h9) rfl dX12_account_160 ?_
    obtain rfl := re1 hf
    exact hE hP hD hS dX12_account_163
  replace hf := ifF c9 hf
  by_cases c10 : a1 = 10
  · replace hf := ifT c10 hf
    refine lv_tableIn (off := 163) (tgt := 164) hx hb dX12_account_1 (by rw [c10]; decide) (by rw [c10]; decide) (by rw [c10]; rfl) (by decide) ?_
    refine lv_aload_n hx hb dX12_account_164 rfl (lv_at hl 0 rfl) ?_
    refine va_get (D := D) (ci := 10) (v := .ref (Q 1 0)) (C := RX12) (T := TX12) (N := 11) hx hb hts hi10 hown hK hP 0 rfl rfl 0 (by decide) hw1 (fun _ h9 => h9) rfl dX12_account_165 ?_
    refine va_get (D := D) (ci := 4) (v := .ref ((Q 1) 10)) (C := RX6) (T := TX6) (N := 10) hx hb hts hi4 hown hK hP 1 rfl rfl 4 (by decide) hw4 (fun _ h9 => h9) rfl dX12_account_168 ?_
    obtain ⟨r_5, hc, hf⟩ := bd1_of hf
    refine k_V (As := []) (rest := []) (ws1 := (kMain Q vmn ++ kHouse G (Q 1) vho ++ kHist Q vhi ++ kReader G (Q 5) vre)) ⟨hx, hb, hml, hown, hts⟩ (c_X1_swapSum l D G (Q 1)  vho _ hc  _) (cwV 0 hts gX12_account_X1_swapSum rfl rfl rfl (by decide +kernel) ⟨Nat.le_of_ble_eq_true rfl, Nat.le_of_ble_eq_true rfl⟩) hl.1 (Nat.le_of_ble_eq_true rfl) dX12_account_171 ⟨Nat.le_of_ble_eq_true rfl, Nat.le_of_ble_eq_true rfl⟩ rfl kT_bl (fun _ _ _ => trivial) hN hK hP hD hS hA 11 1 rfl rfl rfl [11, 12, 13, 14] [0, 1, 2, 3, 4, 5, 6, 7, 8, 9, 10, 15, 16, 17, 18, 19, 20, 21, 22] [0, 1, 2, 3, 4, 5, 6, 7, 8, 9, 10, 19, 20, 21, 22, 11, 12, 13, 14, 15, 16, 17, 18] [0, 1, 2, 3] rfl rfl rfl ⟨by decide, by decide, by decide, by decide⟩ rfl (fun H locs hP hD hS => ?_)
    obtain rfl := re1 hf
    exact hE hP hD hS dX12_account_174
  replace hf := ifF c10 hf
  by_cases c11 : a1 = 11
  · replace hf := ifT c11 hf
    refine lv_tableIn (off := 174) (tgt := 175) hx hb dX12_account_1 (by rw [c11]; decide) (by rw [c11]; decide) (by rw [c11]; rfl) (by decide) ?_
    refine lv_aload_n hx hb dX12_account_175 rfl (lv_at hl 0 rfl) ?_
    refine va_get (D := D) (ci := 10) (v := .ref (Q 1 0)) (C := RX12) (T := TX12) (N := 11) hx hb hts hi10 hown hK hP 0 rfl rfl 0 (by decide) hw1 (fun _ h9 => h9) rfl dX12_account_176 ?_
    refine va_get (D := D) (ci := 4) (v := .ref ((Q 1) 3)) (C := RX6) (T := TX6) (N := 10) hx hb hts hi4 hown hK hP 1 rfl rfl 2 (by decide) hw2 (fun _ h9 => h9) rfl dX12_account_179 ?_
    refine va_get (D := D) (ci := 5) (v := .int (vho.1 5)) (C := RX7) (T := TX7) (N := 5) hx hb hts hi5 hown hK hP 4 rfl rfl 4 (by decide) hw11 (fun _ h9 => h9) rfl dX12_account_182 ?_
    obtain rfl := re1 hf
    exact hE hP hD hS dX12_account_185
  replace hf := ifF c11 hf
  by_cases c12 : a1 = 12
  · replace hf := ifT c12 hf
    refine lv_tableIn (off := 185) (tgt := 186) hx hb dX12_account_1 (by rw [c12]; decide) (by rw [c12]; decide) (by rw [c12]; rfl) (by decide) ?_
    refine lv_aload_n hx hb dX12_account_186 rfl (lv_at hl 0 rfl) ?_
    refine va_get (D := D) (ci := 10) (v := .ref (Q 5 0)) (C := RX12) (T := TX12) (N := 11) hx hb hts hi10 hown hK hP 0 rfl rfl 5 (by decide) hw12 (fun _ h9 => h9) rfl dX12_account_187 ?_
    refine va_get (D := D) (ci := 8) (v := .int (vre.1 0)) (C := RX10) (T := TX10) (N := 8) hx hb hts hi8 hown hK hP 17 rfl rfl 1 (by decide) hw13 (fun _ h9 => h9) rfl dX12_account_190 ?_
    obtain rfl := re1 hf
    exact hE hP hD hS dX12_account_193
  replace hf := ifF c12 hf
  by_cases c13 : a1 = 13
  · replace hf := ifT c13 hf
    refine lv_tableIn (off := 193) (tgt := 194) hx hb dX12_account_1 (by rw [c13]; decide) (by rw [c13]; decide) (by rw [c13]; rfl) (by decide) ?_
    refine lv_aload_n hx hb dX12_account_194 rfl (lv_at hl 0 rfl) ?_
    refine va_get (D := D) (ci := 10) (v := .ref (Q 4 0)) (C := RX12) (T := TX12) (N := 11) hx hb hts hi10 hown hK hP 0 rfl rfl 4 (by decide) hw14 (fun _ h9 => h9) rfl dX12_account_195 ?_
    refine va_get (D := D) (ci := 3) (v := .int (vhi.1 1)) (C := RX5) (T := TX5) (N := 3) hx hb hts hi3 hown hK hP 16 rfl rfl 2 (by decide) hw15 (fun _ h9 => h9) rfl dX12_account_198 ?_
    obtain rfl := re1 hf
    exact hE hP hD hS dX12_account_201
  replace hf := ifF c13 hf
  refine lv_tableOut (tgt := 202) hx hb dX12_account_1 (by have e0 := sw_ne (z := 0) c0 (by decide); have e1 := sw_ne (z := 1) c1 (by decide); have e2 := sw_ne (z := 2) c2 (by decide); have e3 := sw_ne (z := 3) c3 (by decide); have e4 := sw_ne (z := 4) c4 (by decide); have e5 := sw_ne (z := 5) c5 (by decide); have e6 := sw_ne (z := 6) c6 (by decide); have e7 := sw_ne (z := 7) c7 (by decide); have e8 := sw_ne (z := 8) c8 (by decide); have e9 := sw_ne (z := 9) c9 (by decide); have e10 := sw_ne (z := 10) c10 (by decide); have e11 := sw_ne (z := 11) c11 (by decide); have e12 := sw_ne (z := 12) c12 (by decide); have e13 := sw_ne (z := 13) c13 (by decide); omega) (by decide) ?_
  refine lv_bipush (v := (-2)) hx hb dX12_account_202 (by decide +kernel) ?_
  obtain rfl := re1 hf
  exact hE hP hD hS dX12_account_204
def f_X12_undo (vmn : SV) (vho : SV) (vhi : SV) (vhh : (Nat → SV)) : Option (Int32 × SV × SV) :=
  if (vhi.1 1) = 0 then
    some ((-4), vho, vhi)
  else
    bd2 (f_X5_takeBack vhi vhh vho) fun w_1 w_2 =>
    some ((w_1.1 1), w_2, w_1)
abbrev rm_X12_undo : Room := { frames := 4, cells := 0, slots := 0, locals := 81 }
set_option maxHeartbeats 4000000 in
set_option maxRecDepth 100000 in
theorem c_X12_undo (l : Launch) (D : va_G) (G : Nat → ClassId) (Q : Nat → Nat → Nat) (vmn : SV) (vho : SV) (vhi : SV) (vhh : (Nat → SV)) (r : Int32) (vho' : SV) (vhi' : SV) (hf : f_X12_undo vmn vho vhi vhh = some (r, vho', vhi')) (sz : Nat) : mC l yX12_undo wsX12_undo rm_X12_undo D (tyG G) kT [.ref ((Q 0) 0)] (kMain Q vmn ++ kHouse G (Q 1) vho ++ kHist Q vhi ++ kHH G Q vhh) (kMain Q vmn ++ kHouse G (Q 1) vho' ++ kHist Q vhi' ++ kHH G Q vhh) sz (some (.int r)) 0 0 := by
  refine mC_ofI (cc := cX12_undo) (maxL := 1) (ret := (some .int)) (by decide) rfl rfl (Nat.le_of_ble_eq_true rfl) ?_
  intro p e s m args below meth c Q0 hx hb hml hts hown hN hK A hD hA hE hP hS hJ ls hl
  have hl : lv_has ls 1 [(0, .ref ((Q 0) 0))] := hl
  unfold f_X12_undo at hf
  have hi10 : ∀ w ∈ u_ws RX12 TX12 11, w ∈ wsX12_undo := by decide +kernel
  have hi3 : ∀ w ∈ u_ws RX5 TX5 3, w ∈ wsX12_undo := by decide +kernel
  have hw1 := hts (.fieldLink RX12 29 "BalconyCensus" "history" "LBalconyCensus$History;") (by decide +kernel)
  have hw2 := hts (.fieldLink RX12 345 "BalconyCensus$History" "count" "I") (by decide +kernel)
  have hw3 := hts (.fieldLink RX12 12 "BalconyCensus" "house" "LBalconyCensus$House;") (by decide +kernel)
  refine lv_aload_n hx hb dX12_undo_0 rfl (lv_at hl 0 rfl) ?_
  refine va_get (D := D) (ci := 10) (v := .ref (Q 4 0)) (C := RX12) (T := TX12) (N := 11) hx hb hts hi10 hown hK hP 0 rfl rfl 4 (by decide) hw1 (fun _ h9 => h9) rfl dX12_undo_1 ?_
  refine va_get (D := D) (ci := 3) (v := .int (vhi.1 1)) (C := RX5) (T := TX5) (N := 3) hx hb hts hi3 hown hK hP 16 rfl rfl 2 (by decide) hw2 (fun _ h9 => h9) rfl dX12_undo_4 ?_
  refine lv_if_ne (tgt := 13) hx hb dX12_undo_7 (by decide) (fun cc => ?_) (fun cc => ?_)
  · replace hf := ifF cc hf
    refine lv_aload_n hx hb dX12_undo_13 rfl (lv_at hl 0 rfl) ?_
    refine va_get (D := D) (ci := 10) (v := .ref (Q 4 0)) (C := RX12) (T := TX12) (N := 11) hx hb hts hi10 hown hK hP 0 rfl rfl 4 (by decide) hw1 (fun _ h9 => h9) rfl dX12_undo_14 ?_
    refine lv_aload_n hx hb dX12_undo_17 rfl (lv_at hl 0 rfl) ?_
    refine va_get (D := D) (ci := 10) (v := .ref (Q 1 0)) (C := RX12) (T := TX12) (N := 11) hx hb hts hi10 hown hK hP 0 rfl rfl 0 (by decide) hw3 (fun _ h9 => h9) rfl dX12_undo_18 ?_
    obtain ⟨w_1, w_2, hc, hf⟩ := bd2_of hf
    have hPb : va_P D vwCl ((kMain Q vmn) ++ (kHist Q vhi ++ kHH G Q vhh ++ kHouse G (Q 1) vho)) s.heap := by simp only [pP_app] at hP ⊢; simp only [hP, and_self]
    have hDb : va_D A ((kMain Q vmn) ++ (kHist Q vhi ++ kHH G Q vhh ++ kHouse G (Q 1) vho)) := by simp only [pD_app, Dj_l, Dj_r] at hD ⊢; simp only [hD, and_self]
    refine k_VB (As := [.ref ((Q 1) 0)]) (rest := []) ⟨hx, hb, hml, hown, hts⟩ (c_X5_takeBack l D G Q (Q 1)  vhi vhh vho _ _ hc  _) (cwV 1 hts gX12_undo_X5_takeBack rfl rfl rfl (by decide +kernel) ⟨Nat.le_of_ble_eq_true rfl, Nat.le_of_ble_eq_true rfl⟩) hl.1 (Nat.le_of_ble_eq_true rfl) dX12_undo_21 ⟨Nat.le_of_ble_eq_true rfl, Nat.le_of_ble_eq_true rfl⟩ rfl kT_bl (fun _ _ _ => trivial) hN hK hPb hDb hS hA 0 3 rfl rfl rfl [0, 1, 2, 3] rfl (fun H locs hP hD hS => ?_)
    have hP : va_P D vwCl (kMain Q vmn ++ kHouse G (Q 1) w_2 ++ kHist Q w_1 ++ kHH G Q vhh) H := by simp only [pP_app] at hP ⊢; simp only [hP, and_self]
    have hD : va_D A (kMain Q vmn ++ kHouse G (Q 1) w_2 ++ kHist Q w_1 ++ kHH G Q vhh) := by simp only [pD_app, Dj_l, Dj_r] at hD ⊢; simp only [hD, and_self]
    refine lv_aload_n hx hb dX12_undo_24 rfl (lv_at hl 0 rfl) ?_
    refine va_get (D := D) (ci := 10) (v := .ref (Q 4 0)) (C := RX12) (T := TX12) (N := 11) hx hb hts hi10 hown hK hP 0 rfl rfl 4 (by decide) hw1 (fun _ h9 => h9) rfl dX12_undo_25 ?_
    refine va_get (D := D) (ci := 3) (v := .int (w_1.1 1)) (C := RX5) (T := TX5) (N := 3) hx hb hts hi3 hown hK hP 16 rfl rfl 2 (by decide) hw2 (fun _ h9 => h9) rfl dX12_undo_28 ?_
    obtain ⟨rfl, rfl, rfl⟩ := re3 hf
    exact hE hP hD hS dX12_undo_31
  · replace hf := ifT cc hf
    refine lv_bipush (v := (-4)) hx hb dX12_undo_10 (by decide +kernel) ?_
    obtain ⟨rfl, rfl, rfl⟩ := re3 hf
    exact hE hP hD hS dX12_undo_12
def f_X12_save (vmn : SV) (vho : SV) (vsa : SV) : Option (Int32 × SV × SV) :=
  bd1 (f_X6_take vsa vho) fun w_1 =>
  nm (pF vmn 0 1) fun v_2 =>
  bd1 (f_X6_plantSum vho) fun r_3 =>
  some (r_3, v_2, w_1)
abbrev rm_X12_save : Room := { frames := 3, cells := 0, slots := 0, locals := 60 }
set_option maxHeartbeats 4000000 in
set_option maxRecDepth 100000 in
theorem c_X12_save (l : Launch) (D : va_G) (G : Nat → ClassId) (Q : Nat → Nat → Nat) (vmn : SV) (vho : SV) (vsa : SV) (r : Int32) (vmn' : SV) (vsa' : SV) (hf : f_X12_save vmn vho vsa = some (r, vmn', vsa')) (sz : Nat) : mC l yX12_save wsX12_save rm_X12_save D (tyG G) kT [.ref ((Q 0) 0)] (kMain Q vmn ++ kHouse G (Q 1) vho ++ kHouse G (Q 3) vsa) (kMain Q vmn' ++ kHouse G (Q 1) vho ++ kHouse G (Q 3) vsa') sz (some (.int r)) 0 0 := by
  refine mC_ofI (cc := cX12_save) (maxL := 1) (ret := (some .int)) (by decide) rfl rfl (Nat.le_of_ble_eq_true rfl) ?_
  intro p e s m args below meth c Q0 hx hb hml hts hown hN hK A hD hA hE hP hS hJ ls hl
  have hl : lv_has ls 1 [(0, .ref ((Q 0) 0))] := hl
  unfold f_X12_save at hf
  have hi10 : ∀ w ∈ u_ws RX12 TX12 11, w ∈ wsX12_save := by decide +kernel
  have hw1 := hts (.fieldLink RX12 19 "BalconyCensus" "saved" "LBalconyCensus$House;") (by decide +kernel)
  have hw2 := hts (.fieldLink RX12 12 "BalconyCensus" "house" "LBalconyCensus$House;") (by decide +kernel)
  have hw3 := hts (.fieldLink RX12 22 "BalconyCensus" "isSaved" "Z") (by decide +kernel)
  refine lv_aload_n hx hb dX12_save_0 rfl (lv_at hl 0 rfl) ?_
  refine va_get (D := D) (ci := 10) (v := .ref (Q 3 0)) (C := RX12) (T := TX12) (N := 11) hx hb hts hi10 hown hK hP 0 rfl rfl 2 (by decide) hw1 (fun _ h9 => h9) rfl dX12_save_1 ?_
  refine lv_aload_n hx hb dX12_save_4 rfl (lv_at hl 0 rfl) ?_
  refine va_get (D := D) (ci := 10) (v := .ref (Q 1 0)) (C := RX12) (T := TX12) (N := 11) hx hb hts hi10 hown hK hP 0 rfl rfl 0 (by decide) hw2 (fun _ h9 => h9) rfl dX12_save_5 ?_
  obtain ⟨w_1, hc, hf⟩ := bd1_of hf
  refine k_V (As := [.ref ((Q 1) 0)]) (rest := []) (ws1 := (kMain Q vmn ++ kHouse G (Q 1) vho ++ kHouse G (Q 3) w_1)) ⟨hx, hb, hml, hown, hts⟩ (c_X6_take l D G (Q 3) (Q 1)  vsa vho _ hc  _) (cwV 1 hts gX12_save_X6_take rfl rfl rfl (by decide +kernel) ⟨Nat.le_of_ble_eq_true rfl, Nat.le_of_ble_eq_true rfl⟩) hl.1 (Nat.le_of_ble_eq_true rfl) dX12_save_8 ⟨Nat.le_of_ble_eq_true rfl, Nat.le_of_ble_eq_true rfl⟩ rfl kT_bl (fun _ _ _ => trivial) hN hK hP hD hS hA 16 4 rfl rfl rfl [16, 17, 18, 19, 20, 21, 22, 23, 24, 25, 26, 27, 28, 29, 30, 1, 2, 3, 4, 5, 6, 7, 8, 9, 10, 11, 12, 13, 14, 15] [0] [0, 16, 17, 18, 19, 20, 21, 22, 23, 24, 25, 26, 27, 28, 29, 30, 1, 2, 3, 4, 5, 6, 7, 8, 9, 10, 11, 12, 13, 14, 15] [0, 1, 2, 3] rfl rfl rfl ⟨by decide, by decide, by decide, by decide⟩ rfl (fun H locs hP hD hS => ?_)
  refine lv_aload_n hx hb dX12_save_11 rfl (lv_at hl 0 rfl) ?_
  refine lv_iconst (v := 1) hx hb dX12_save_12 (by decide) ?_
  obtain ⟨v_2, ev_2, hf⟩ := nm_of hf
  refine va_put (D := D) (ci := 10) (v := .int 1) (ty := .boolean) (C := RX12) (T := TX12) (N := 11) hx hb hts hi10 tyX12 tyX12_ok nmX12 hown hK hP hD hS 0 rfl rfl 3 (by decide) hw3 (fun _ h9 => h9) rfl (by decide +kernel) (by decide +kernel) (by decide +kernel) (Nat.le_of_ble_eq_true rfl) dX12_save_13 (fun H locs hP hD hS => ?_)
  have hP : va_P D vwCl (kMain Q v_2 ++ kHouse G (Q 1) vho ++ kHouse G (Q 3) w_1) H := by rw [ev_2]; exact hP
  have hD : va_D A (kMain Q v_2 ++ kHouse G (Q 1) vho ++ kHouse G (Q 3) w_1) := by rw [ev_2]; exact hD
  refine lv_aload_n hx hb dX12_save_16 rfl (lv_at hl 0 rfl) ?_
  refine va_get (D := D) (ci := 10) (v := .ref (Q 1 0)) (C := RX12) (T := TX12) (N := 11) hx hb hts hi10 hown hK hP 0 rfl rfl 0 (by decide) hw2 (fun _ h9 => h9) rfl dX12_save_17 ?_
  obtain ⟨r_3, hc, hf⟩ := bd1_of hf
  refine k_V (As := []) (rest := []) (ws1 := (kMain Q v_2 ++ kHouse G (Q 1) vho ++ kHouse G (Q 3) w_1)) ⟨hx, hb, hml, hown, hts⟩ (c_X6_plantSum l D G (Q 1)  vho _ hc  _) (cwV 0 hts gX12_save_X6_plantSum rfl rfl rfl (by decide +kernel) ⟨Nat.le_of_ble_eq_true rfl, Nat.le_of_ble_eq_true rfl⟩) hl.1 (Nat.le_of_ble_eq_true rfl) dX12_save_20 ⟨Nat.le_of_ble_eq_true rfl, Nat.le_of_ble_eq_true rfl⟩ rfl kT_bl (fun _ _ _ => trivial) hN hK hP hD hS hA 1 4 rfl rfl rfl [1, 2, 3, 4, 5, 6, 7, 8, 9, 10, 11, 12, 13, 14, 15] [0, 16, 17, 18, 19, 20, 21, 22, 23, 24, 25, 26, 27, 28, 29, 30] [0, 16, 17, 18, 19, 20, 21, 22, 23, 24, 25, 26, 27, 28, 29, 30, 1, 2, 3, 4, 5, 6, 7, 8, 9, 10, 11, 12, 13, 14, 15] [0, 1, 2, 3] rfl rfl rfl ⟨by decide, by decide, by decide, by decide⟩ rfl (fun H locs hP hD hS => ?_)
  obtain ⟨rfl, rfl, rfl⟩ := re3 hf
  exact hE hP hD hS dX12_save_23
def f_X12_restore (vmn : SV) (vho : SV) (vsa : SV) (vhi : SV) : Option (Int32 × SV × SV) :=
  if (vmn.1 0) = 0 then
    some ((-4), vho, vhi)
  else
    bd1 (f_X6_take vho vsa) fun w_1 =>
    bd1 (f_X5_forget vhi) fun w_2 =>
    bd1 (f_X6_plantSum w_1) fun r_3 =>
    some (r_3, w_1, w_2)
abbrev rm_X12_restore : Room := { frames := 3, cells := 0, slots := 0, locals := 60 }
set_option maxHeartbeats 4000000 in
set_option maxRecDepth 100000 in
theorem c_X12_restore (l : Launch) (D : va_G) (G : Nat → ClassId) (Q : Nat → Nat → Nat) (vmn : SV) (vho : SV) (vsa : SV) (vhi : SV) (r : Int32) (vho' : SV) (vhi' : SV) (hf : f_X12_restore vmn vho vsa vhi = some (r, vho', vhi')) (sz : Nat) : mC l yX12_restore wsX12_restore rm_X12_restore D (tyG G) kT [.ref ((Q 0) 0)] (kMain Q vmn ++ kHouse G (Q 1) vho ++ kHouse G (Q 3) vsa ++ kHist Q vhi) (kMain Q vmn ++ kHouse G (Q 1) vho' ++ kHouse G (Q 3) vsa ++ kHist Q vhi') sz (some (.int r)) 0 0 := by
  refine mC_ofI (cc := cX12_restore) (maxL := 1) (ret := (some .int)) (by decide) rfl rfl (Nat.le_of_ble_eq_true rfl) ?_
  intro p e s m args below meth c Q0 hx hb hml hts hown hN hK A hD hA hE hP hS hJ ls hl
  have hl : lv_has ls 1 [(0, .ref ((Q 0) 0))] := hl
  unfold f_X12_restore at hf
  have hi10 : ∀ w ∈ u_ws RX12 TX12 11, w ∈ wsX12_restore := by decide +kernel
  have hw1 := hts (.fieldLink RX12 22 "BalconyCensus" "isSaved" "Z") (by decide +kernel)
  have hw2 := hts (.fieldLink RX12 12 "BalconyCensus" "house" "LBalconyCensus$House;") (by decide +kernel)
  have hw3 := hts (.fieldLink RX12 19 "BalconyCensus" "saved" "LBalconyCensus$House;") (by decide +kernel)
  have hw4 := hts (.fieldLink RX12 29 "BalconyCensus" "history" "LBalconyCensus$History;") (by decide +kernel)
  refine lv_aload_n hx hb dX12_restore_0 rfl (lv_at hl 0 rfl) ?_
  refine va_get (D := D) (ci := 10) (v := .int (vmn.1 0)) (C := RX12) (T := TX12) (N := 11) hx hb hts hi10 hown hK hP 0 rfl rfl 3 (by decide) hw1 (fun _ h9 => h9) rfl dX12_restore_1 ?_
  refine lv_if_ne (tgt := 10) hx hb dX12_restore_4 (by decide) (fun cc => ?_) (fun cc => ?_)
  · replace hf := ifF cc hf
    refine lv_aload_n hx hb dX12_restore_10 rfl (lv_at hl 0 rfl) ?_
    refine va_get (D := D) (ci := 10) (v := .ref (Q 1 0)) (C := RX12) (T := TX12) (N := 11) hx hb hts hi10 hown hK hP 0 rfl rfl 0 (by decide) hw2 (fun _ h9 => h9) rfl dX12_restore_11 ?_
    refine lv_aload_n hx hb dX12_restore_14 rfl (lv_at hl 0 rfl) ?_
    refine va_get (D := D) (ci := 10) (v := .ref (Q 3 0)) (C := RX12) (T := TX12) (N := 11) hx hb hts hi10 hown hK hP 0 rfl rfl 2 (by decide) hw3 (fun _ h9 => h9) rfl dX12_restore_15 ?_
    obtain ⟨w_1, hc, hf⟩ := bd1_of hf
    refine k_V (As := [.ref ((Q 3) 0)]) (rest := []) (ws1 := (kMain Q vmn ++ kHouse G (Q 1) w_1 ++ kHouse G (Q 3) vsa ++ kHist Q vhi)) ⟨hx, hb, hml, hown, hts⟩ (c_X6_take l D G (Q 1) (Q 3)  vho vsa _ hc  _) (cwV 1 hts gX12_restore_X6_take rfl rfl rfl (by decide +kernel) ⟨Nat.le_of_ble_eq_true rfl, Nat.le_of_ble_eq_true rfl⟩) hl.1 (Nat.le_of_ble_eq_true rfl) dX12_restore_18 ⟨Nat.le_of_ble_eq_true rfl, Nat.le_of_ble_eq_true rfl⟩ rfl kT_bl (fun _ _ _ => trivial) hN hK hP hD hS hA 1 4 rfl rfl rfl [1, 2, 3, 4, 5, 6, 7, 8, 9, 10, 11, 12, 13, 14, 15, 16, 17, 18, 19, 20, 21, 22, 23, 24, 25, 26, 27, 28, 29, 30] [0, 31] [0, 2, 3, 4, 5, 6, 7, 8, 9, 10, 11, 12, 13, 14, 15, 16, 17, 18, 19, 20, 21, 22, 23, 24, 25, 26, 27, 28, 29, 30, 31, 1] [0, 1, 2, 3] rfl rfl rfl ⟨by decide, by decide, by decide, by decide⟩ rfl (fun H locs hP hD hS => ?_)
    refine lv_aload_n hx hb dX12_restore_21 rfl (lv_at hl 0 rfl) ?_
    refine va_get (D := D) (ci := 10) (v := .ref (Q 4 0)) (C := RX12) (T := TX12) (N := 11) hx hb hts hi10 hown hK hP 0 rfl rfl 4 (by decide) hw4 (fun _ h9 => h9) rfl dX12_restore_22 ?_
    obtain ⟨w_2, hc, hf⟩ := bd1_of hf
    refine k_V (As := []) (rest := []) (ws1 := (kMain Q vmn ++ kHouse G (Q 1) w_1 ++ kHouse G (Q 3) vsa ++ kHist Q w_2)) ⟨hx, hb, hml, hown, hts⟩ (c_X5_forget l D G Q  vhi _ hc  _) (cwV 0 hts gX12_restore_X5_forget rfl rfl rfl (by decide +kernel) ⟨Nat.le_of_ble_eq_true rfl, Nat.le_of_ble_eq_true rfl⟩) hl.1 (Nat.le_of_ble_eq_true rfl) dX12_restore_25 ⟨Nat.le_of_ble_eq_true rfl, Nat.le_of_ble_eq_true rfl⟩ rfl kT_bl (fun _ _ _ => trivial) hN hK hP hD hS hA 31 3 rfl rfl rfl [31] [0, 1, 2, 3, 4, 5, 6, 7, 8, 9, 10, 11, 12, 13, 14, 15, 16, 17, 18, 19, 20, 21, 22, 23, 24, 25, 26, 27, 28, 29, 30] [0, 1, 2, 3, 4, 5, 6, 7, 8, 9, 10, 11, 12, 13, 14, 15, 16, 17, 18, 19, 20, 21, 22, 23, 24, 25, 26, 27, 28, 29, 30, 31] [0, 1, 2, 3] rfl rfl rfl ⟨by decide, by decide, by decide, by decide⟩ rfl (fun H locs hP hD hS => ?_)
    refine lv_aload_n hx hb dX12_restore_28 rfl (lv_at hl 0 rfl) ?_
    refine va_get (D := D) (ci := 10) (v := .ref (Q 1 0)) (C := RX12) (T := TX12) (N := 11) hx hb hts hi10 hown hK hP 0 rfl rfl 0 (by decide) hw2 (fun _ h9 => h9) rfl dX12_restore_29 ?_
    obtain ⟨r_3, hc, hf⟩ := bd1_of hf
    refine k_V (As := []) (rest := []) (ws1 := (kMain Q vmn ++ kHouse G (Q 1) w_1 ++ kHouse G (Q 3) vsa ++ kHist Q w_2)) ⟨hx, hb, hml, hown, hts⟩ (c_X6_plantSum l D G (Q 1)  w_1 _ hc  _) (cwV 0 hts gX12_restore_X6_plantSum rfl rfl rfl (by decide +kernel) ⟨Nat.le_of_ble_eq_true rfl, Nat.le_of_ble_eq_true rfl⟩) hl.1 (Nat.le_of_ble_eq_true rfl) dX12_restore_32 ⟨Nat.le_of_ble_eq_true rfl, Nat.le_of_ble_eq_true rfl⟩ rfl kT_bl (fun _ _ _ => trivial) hN hK hP hD hS hA 1 4 rfl rfl rfl [1, 2, 3, 4, 5, 6, 7, 8, 9, 10, 11, 12, 13, 14, 15] [0, 16, 17, 18, 19, 20, 21, 22, 23, 24, 25, 26, 27, 28, 29, 30, 31] [0, 17, 18, 19, 20, 21, 22, 23, 24, 25, 26, 27, 28, 29, 30, 31, 1, 2, 3, 4, 5, 6, 7, 8, 9, 10, 11, 12, 13, 14, 15, 16] [0, 1, 2, 3] rfl rfl rfl ⟨by decide, by decide, by decide, by decide⟩ rfl (fun H locs hP hD hS => ?_)
    obtain ⟨rfl, rfl, rfl⟩ := re3 hf
    exact hE hP hD hS dX12_restore_35
  · replace hf := ifT cc hf
    refine lv_bipush (v := (-4)) hx hb dX12_restore_7 (by decide +kernel) ?_
    obtain ⟨rfl, rfl, rfl⟩ := re3 hf
    exact hE hP hD hS dX12_restore_9
