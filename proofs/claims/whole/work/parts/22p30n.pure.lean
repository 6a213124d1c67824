/-! PURE: cats together, shares. -/
theorem x_isAnyTogether {h : SV} {a : AS} (R : RC h a) (W : WF a) : f_X1_isAnyTogether h = some 0 := by
  have hl := wf_cn W
  have hget : ∀ k, k < (aC a).length → ∃ x, (aC a)[k]? = some x := fun k hk => ⟨_, List.getElem?_eq_getElem hk⟩
  unfold f_X1_isAnyTogether
  refine lz1_inv0 (N := (aC a).length) (fun _ => True) (fun x => x = some 0) ?_ ?_ (by omega) trivial
  · intro self i hi _ kk
    obtain ⟨x, hx⟩ := hget i hi
    obtain ⟨e1, _, _⟩ := rc_c R hx
    simp (disch := omega) only [f_X1_isAnyTogether_B2, rc_cn R, nI_1, nI_add, nI_mul, nI_leI, nI_ltI, nI_eq, ckI_n, nI_cl, qL2, qL3, qL4, qL5, qL6, qL7, qL8, qL9, qL10, qL11, qL12, nm, bd1_s, bd2_s, bd3_s, bd4_s]
    rw [if_neg (by omega)]
    refine lz1_inv (N := (aC a).length) (fun k => i < k) (fun x => x = some 0) ?_ ?_ ((aC a).length - (i + 1)) FU (i + 1) (by omega) (by unfold FU; omega) (by omega)
    · intro self2 j hj hij0 kk2
      have hij : ¬ j = i := by omega
      obtain ⟨y, hy⟩ := hget j hj
      obtain ⟨e2, _, _⟩ := rc_c R hy
      have hw := wf_c W hx
      have hw2 := wf_c W hy
      have hne : ¬ x.1 = y.1 := by
        intro e
        have h1 : ((aC a).map (fun x => x.1))[i]? = some x.1 := by rw [List.getElem?_map, hx]; rfl
        have h2 : ((aC a).map (fun x => x.1))[j]? = some x.1 := by rw [List.getElem?_map, hy, e]; rfl
        exact hij ((List.getElem?_inj (by rw [List.length_map]; exact hj) W.2.2.2.2.2.2.2).mp (h2.trans h1.symm))
      simp (disch := omega) only [f_X1_isAnyTogether_B14, rc_cn R, nI_1, nI_add, nI_mul, nI_leI, nI_ltI, nI_eq, ckI_n, nI_cl, qL2, qL3, qL4, qL5, qL6, qL7, qL8, qL9, qL10, qL11, qL12, nm, bd1_s, bd2_s, bd3_s, bd4_s, e1, e2]
      rw [if_neg (by omega), if_neg hne]
      exact kk2 (by omega)
    · intro self2 _
      simp (disch := omega) only [f_X1_isAnyTogether_B14, f_X1_isAnyTogether_K14, rc_cn R, nI_1, nI_add, nI_mul, nI_leI, nI_ltI, nI_eq, ckI_n, nI_cl, qL2, qL3, qL4, qL5, qL6, qL7, qL8, qL9, qL10, qL11, qL12, nm, bd1_s, bd2_s, bd3_s, bd4_s]
      simp only [Nat.lt_irrefl, Nat.le_refl, if_true, if_false, ite_true, ite_false, not_true_eq_false, not_false_eq_true, reduceIte]
      exact kk trivial
  · intro self _
    simp (disch := omega) only [f_X1_isAnyTogether_B2, f_X1_isAnyTogether_K2, rc_cn R, nI_1, nI_add, nI_mul, nI_leI, nI_ltI, nI_eq, ckI_n, nI_cl, qL2, qL3, qL4, qL5, qL6, qL7, qL8, qL9, qL10, qL11, qL12, nm, bd1_s, bd2_s, bd3_s, bd4_s]
    simp only [Nat.lt_irrefl, Nat.le_refl, if_true, if_false, ite_true, ite_false, not_true_eq_false, not_false_eq_true, reduceIte]
theorem q_mean {n : Nat} (h : n ≤ 108) : (FP.ddiv (FP.i2d (nI n)) 4622945017495814144 &&& 0x7fffffffffffffff ≤ 0x7ff0000000000000) ∧ Op.cmpValue (FP.dcmp (FP.ddiv (FP.i2d (nI n)) 4622945017495814144) (FP.ddiv (FP.i2d (nI n)) 4622945017495814144)) .l = 0 := by
  have : ∀ n : Nat, n < 109 → (FP.ddiv (FP.i2d (nI n)) 4622945017495814144 &&& 0x7fffffffffffffff ≤ 0x7ff0000000000000) ∧ Op.cmpValue (FP.dcmp (FP.ddiv (FP.i2d (nI n)) 4622945017495814144) (FP.ddiv (FP.i2d (nI n)) 4622945017495814144)) .l = 0 := by decide +kernel
  exact this n (by omega)
theorem q_share {n c : Nat} (h : n ≤ c) (hc : c ≤ 6) (h0 : 0 < c) : (FP.fdiv (FP.i2f (nI n)) (FP.i2f (nI c)) &&& 0x7fffffff ≤ 0x7f800000) ∧ vf_n64 (FP.f2d (FP.fdiv (FP.i2f (nI n)) (FP.i2f (nI c)))) ∧ Op.cmpValue (FP.dcmp (FP.f2d (FP.fdiv (FP.i2f (nI n)) (FP.i2f (nI c)))) (FP.f2d (FP.fdiv (FP.i2f (nI n)) (FP.i2f (nI c))))) .l = 0 := by
  have : ∀ c : Nat, c < 7 → 0 < c → ∀ n : Nat, n < 7 → n ≤ c → (FP.fdiv (FP.i2f (nI n)) (FP.i2f (nI c)) &&& 0x7fffffff ≤ 0x7f800000) ∧ vf_n64 (FP.f2d (FP.fdiv (FP.i2f (nI n)) (FP.i2f (nI c)))) ∧ Op.cmpValue (FP.dcmp (FP.f2d (FP.fdiv (FP.i2f (nI n)) (FP.i2f (nI c)))) (FP.f2d (FP.fdiv (FP.i2f (nI n)) (FP.i2f (nI c))))) .l = 0 := by
    unfold vf_n64
    decide +kernel
  exact this c (by omega) h0 n (by omega) h
theorem q_share0 : vf_n64 (FP.f2d FP.fconst0) ∧ Op.cmpValue (FP.dcmp (FP.f2d FP.fconst0) (FP.f2d FP.fconst0)) .l = 0 := by
  unfold vf_n64
  decide +kernel
theorem lsum_le {α : Type} {f : α → Nat} {l : List α} (h : ∀ x ∈ l, f x ≤ 1) : lsum f l ≤ l.length := by
  induction l with
  | nil => exact Nat.le_refl _
  | cons x l ih =>
    have h1 := h x List.mem_cons_self
    have h2 := ih (fun y hy => h y (List.mem_cons_of_mem _ hy))
    show f x + lsum f l ≤ l.length + 1
    omega
theorem q_hm (a : AS) : ∃ n, n ≤ (aC a).length ∧ hmN a = nI n := by
  refine ⟨lsum (fun x => if x.1 = x.2.1 then 1 else 0) (aC a), lsum_le (fun x _ => by split <;> omega), ?_⟩
  have e := foldl_lsum (fun x : Nat × Nat × Int32 => x.1 = x.2.1) (aC a) 0
  rw [Nat.zero_add] at e
  rw [← e, nI_0]; rfl
