/-! Walks, laid by wip/whole/gen.py: for each method f_ (what it does to its world) and c_ (its contract). -/
def f_X1_swapSum_K4 (y_6 : Int32) (y_7 : Int32) : Option Int32 :=
  some y_7
def f_X1_swapSum_B4 (v0 : SV) (selfL_4 : (Int32 → Int32 → Option Int32)) (x_2 : Int32) (x_3 : Int32) : Option Int32 :=
  if (v0.1 6) ≤ x_2 then
    f_X1_swapSum_K4 x_2 x_3
  else
    ckI x_2 6 <|
    nm (x_3 + (v0.2 9 x_2.toNatClampNeg)) fun t_5 =>
    selfL_4 (x_2 + 1) t_5
def f_X1_swapSum (v0 : SV) : Option Int32 :=
  lz2 (f_X1_swapSum_B4 v0) FU 0 0
abbrev rm_X1_swapSum : Room := { frames := 0, cells := 0, slots := 0, locals := 0 }
set_option maxHeartbeats 4000000 in
set_option maxRecDepth 100000 in
theorem c_X1_swapSum (l : Launch) (D : va_G) (G : Nat → ClassId) (q0 : Nat → Nat) (v0 : SV) (r : Int32) (hf : f_X1_swapSum v0 = some r) (sz : Nat) : mC l yX1_swapSum wsX1_swapSum rm_X1_swapSum D (tyG G) kT [.ref (q0 10)] (kCats G q0 v0) (kCats G q0 v0) sz (some (.int r)) 0 0 := by
  refine mC_ofI (cc := cX1_swapSum) (maxL := 3) (ret := (some .int)) (by decide) rfl rfl (Nat.le_of_ble_eq_true rfl) ?_
  intro p e s m args below meth c Q0 hx hb hml hts hown hN hK A hD hA hE hP hS hJ ls hl
  have hl : lv_has ls 3 [(0, .ref (q0 10))] := hl
  unfold f_X1_swapSum at hf
  have hi1 : ∀ w ∈ u_ws RX1 TX1 4, w ∈ wsX1_swapSum := by decide +kernel
  have hw1 := hts (.fieldLink RX1 21 "BalconyCensus$Cats" "count" "I") (by decide +kernel)
  have hw2 := hts (.fieldLink RX1 18 "BalconyCensus$Cats" "swaps" "[I") (by decide +kernel)
  refine lv_iconst (v := 0) hx hb dX1_swapSum_0 (by decide) ?_
  refine lv_istore_n (lv' := [(1, .int 0), (0, .ref (q0 10))]) hx hb dX1_swapSum_1 rfl hl (by decide) rfl (fun ls hl => ?_)
  refine lv_iconst (v := 0) hx hb dX1_swapSum_2 (by decide) ?_
  refine lv_istore_n (lv' := [(2, .int 0), (1, .int 0), (0, .ref (q0 10))]) hx hb dX1_swapSum_3 rfl hl (by decide) rfl (fun ls hl => ?_)
  have exL_4 : ∀ (y_6 : Int32) (y_7 : Int32) (H : Heap) (locs : List Loc) (ls : Array Slot), lv_has ls 3 [(2, .int y_6), (1, .int y_7), (0, .ref (q0 10))] → va_P D vwCl (kCats G q0 v0) H → va_D A (kCats G q0 v0) → va_S A s.heap H locs → f_X1_swapSum_K4 y_6 y_7 = some r → W p l e rm_X1_swapSum s m args below meth c H locs 0 0 Q0 (F0 m 27 ls []) := by
    intro y_6 y_7 H locs ls hl hP hD hS hf
    unfold f_X1_swapSum_K4 at hf
    refine lv_iload_n hx hb dX1_swapSum_27 rfl (lv_at hl 1 rfl) ?_
    obtain rfl := re1 hf
    exact hE hP hD hS dX1_swapSum_28
  have loL_4 : ∀ (n : Nat) (x_2 : Int32) (x_3 : Int32) (H : Heap) (locs : List Loc) (ls : Array Slot), lv_has ls 3 [(2, .int x_2), (1, .int x_3), (0, .ref (q0 10))] → va_P D vwCl (kCats G q0 v0) H → va_D A (kCats G q0 v0) → va_S A s.heap H locs → lz2 (f_X1_swapSum_B4 v0) n x_2 x_3 = some r → W p l e rm_X1_swapSum s m args below meth c H locs 0 0 Q0 (F0 m 4 ls []) := by
    intro n
    induction n with
    | zero => intro x_2 x_3 H locs ls hl hP hD hS hf; cases hf
    | succ n ihL_4 =>
      intro x_2 x_3 H locs ls hl hP hD hS hf
      replace hf := lz2_s hf
      unfold f_X1_swapSum_B4 at hf
      refine lv_iload_n hx hb dX1_swapSum_4 rfl (lv_at hl 0 rfl) ?_
      refine lv_aload_n hx hb dX1_swapSum_5 rfl (lv_at hl 2 rfl) ?_
      refine va_get (D := D) (ci := 1) (v := .int (v0.1 6)) (C := RX1) (T := TX1) (N := 4) hx hb hts hi1 hown hK hP 0 rfl rfl 3 (by decide) hw1 (fun _ h9 => h9) rfl dX1_swapSum_6 ?_
      refine lv_icmp_ge (tgt := 27) hx hb dX1_swapSum_9 (by decide) (fun cc => ?_) (fun cc => ?_)
      · replace hf := ifT cc hf
        exact exL_4 x_2 x_3 _ _ _ (lv_sub hl [0, 1, 2] rfl) hP hD hS hf
      · replace hf := ifF cc hf
        refine lv_iload_n hx hb dX1_swapSum_12 rfl (lv_at hl 1 rfl) ?_
        refine lv_aload_n hx hb dX1_swapSum_13 rfl (lv_at hl 2 rfl) ?_
        refine va_get (D := D) (ci := 1) (v := .ref (q0 13)) (C := RX1) (T := TX1) (N := 4) hx hb hts hi1 hown hK hP 0 rfl rfl 2 (by decide) hw2 (fun _ h9 => h9) rfl dX1_swapSum_14 ?_
        refine lv_iload_n hx hb dX1_swapSum_17 rfl (lv_at hl 0 rfl) ?_
        obtain ⟨hin, hf⟩ := ckI_of hf
        refine va_iald (D := D) hx hb hK hP 3 0 rfl rfl hin dX1_swapSum_18 ?_
        refine lv_iadd hx hb dX1_swapSum_19 ?_
        obtain ⟨t_5, et_5, hf⟩ := nm_of hf
        rw [← et_5]
        refine lv_istore_n (lv' := [(1, .int t_5), (2, .int x_2), (0, .ref (q0 10))]) hx hb dX1_swapSum_20 rfl hl (by decide) rfl (fun ls hl => ?_)
        refine lv_iinc (v := (x_2 + 1)) (lv' := [(2, .int (x_2 + 1)), (1, .int t_5), (0, .ref (q0 10))]) hx hb dX1_swapSum_21 hl (k := 1) rfl rfl (by decide) rfl (fun ls hl => ?_)
        refine lv_goto (tgt := 4) hx hb dX1_swapSum_24 (by decide) ?_
        exact ihL_4 (x_2 + 1) t_5 _ _ _ (lv_sub hl [0, 1, 2] rfl) hP hD hS hf
  exact loL_4 FU 0 0 _ _ _ hl hP hD hS hf
