/-! PURE: the changes one by one. -/
theorem upd_ne {m : Nat → Int32} {k j : Nat} {x : Int32} (h : j ≠ k) : upd m k x j = m j := if_neg h
theorem upd_eq {m : Nat → Int32} {k : Nat} {x : Int32} : upd m k x k = x := if_pos rfl
theorem upd_if {m : Nat → Int32} {k j : Nat} {x : Int32} : upd m k x j = if j = k then x else m j := rfl
def setG (a : AS) (i j : Nat) (x : Int32) : AS := (a.1, a.2.1, fun i' j' => if i' = i ∧ j' = j then x else aG a i' j', a.2.2.2)
def setD (a : AS) (i : Nat) (x : Int32) : AS := (a.1, a.2.1, a.2.2.1, fun i' => if i' = i then x else aD a i', a.2.2.2.2)
def setL (a : AS) (l : List (Nat × Nat × Nat)) : AS := (a.1, a.2.1, a.2.2.1, a.2.2.2.1, l, a.2.2.2.2.2)
def setC (a : AS) (l : List (Nat × Nat × Int32)) : AS := (a.1, a.2.1, a.2.2.1, a.2.2.2.1, a.2.2.2.2.1, l, a.2.2.2.2.2.2)
theorem wf_setN {a : AS} (W : WF a) {k : Nat} {x : Int32} : WF (setN a k x) := W
theorem gb_setN {n : Nat} {a : AS} (G : GB n a) {k : Nat} {x : Int32} : GB n (setN a k x) := G
theorem gb_setP {n : Nat} {a : AS} (G : GB n a) {k x : Nat} : GB n (setP a k x) := G
theorem gb_setT {n : Nat} {a : AS} (G : GB n a) {k x : Nat} : GB n (setT a k x) := G
theorem rmU_p {m : Nat → Int32} {a : AS} (M : RM m a) (W : WF a) {u p : Nat} (hu : u < 12) : RM (upd m (10 + u) (nI p)) (setP a u p) := by
  obtain ⟨r1, r2, r3, r4, r5, r6, r7, r8, r9, r10, r11, r12, r13, r14⟩ := M
  have hl := wf_ln W
  have hc := wf_cn W
  exact ⟨(fun i hi => by
    show upd m (10 + u) (nI p) (10 + i) = nI (if i = u then p else aP a i)
    rw [upd_if]
    by_cases c : i = u
    · rw [if_pos (by omega), if_pos c]
    · rw [if_neg (by omega), if_neg c]; exact r1 i hi), (fun i hi => (upd_ne (by omega)).trans (r2 i hi)), (fun i j hi hj => (upd_ne (by omega)).trans (r3 i j hi hj)), (fun i hi => (upd_ne (by omega)).trans (r4 i hi)), ((upd_ne (by omega)).trans r5), (fun k x hx => by
    have hk : k < (aL a).length := ix_lt hx
    obtain ⟨q1, q2, q3⟩ := r6 k x hx
    exact ⟨(upd_ne (by omega)).trans q1, (upd_ne (by omega)).trans q2, (upd_ne (by omega)).trans q3⟩), ((upd_ne (by omega)).trans r7), (fun k x hx => by
    have hk : k < (aC a).length := ix_lt hx
    obtain ⟨q1, q2, q3⟩ := r8 k x hx
    exact ⟨(upd_ne (by omega)).trans q1, (upd_ne (by omega)).trans q2, (upd_ne (by omega)).trans q3⟩), ((upd_ne (by omega)).trans r9), ((upd_ne (by omega)).trans r10), ((upd_ne (by omega)).trans r11), ((upd_ne (by omega)).trans r12), ((upd_ne (by omega)).trans r13), ((upd_ne (by omega)).trans r14)⟩
theorem rmU_t {m : Nat → Int32} {a : AS} (M : RM m a) (W : WF a) {u p : Nat} (hu : u < 12) : RM (upd m (22 + u) (nI p)) (setT a u p) := by
  obtain ⟨r1, r2, r3, r4, r5, r6, r7, r8, r9, r10, r11, r12, r13, r14⟩ := M
  have hl := wf_ln W
  have hc := wf_cn W
  exact ⟨(fun i hi => (upd_ne (by omega)).trans (r1 i hi)), (fun i hi => by
    show upd m (22 + u) (nI p) (22 + i) = nI (if i = u then p else aT a i)
    rw [upd_if]
    by_cases c : i = u
    · rw [if_pos (by omega), if_pos c]
    · rw [if_neg (by omega), if_neg c]; exact r2 i hi), (fun i j hi hj => (upd_ne (by omega)).trans (r3 i j hi hj)), (fun i hi => (upd_ne (by omega)).trans (r4 i hi)), ((upd_ne (by omega)).trans r5), (fun k x hx => by
    have hk : k < (aL a).length := ix_lt hx
    obtain ⟨q1, q2, q3⟩ := r6 k x hx
    exact ⟨(upd_ne (by omega)).trans q1, (upd_ne (by omega)).trans q2, (upd_ne (by omega)).trans q3⟩), ((upd_ne (by omega)).trans r7), (fun k x hx => by
    have hk : k < (aC a).length := ix_lt hx
    obtain ⟨q1, q2, q3⟩ := r8 k x hx
    exact ⟨(upd_ne (by omega)).trans q1, (upd_ne (by omega)).trans q2, (upd_ne (by omega)).trans q3⟩), ((upd_ne (by omega)).trans r9), ((upd_ne (by omega)).trans r10), ((upd_ne (by omega)).trans r11), ((upd_ne (by omega)).trans r12), ((upd_ne (by omega)).trans r13), ((upd_ne (by omega)).trans r14)⟩
theorem rmU_n0 {m : Nat → Int32} {a : AS} (M : RM m a) (W : WF a) {x : Int32} : RM (upd m 2 x) (setN a 0 x) := by
  obtain ⟨r1, r2, r3, r4, r5, r6, r7, r8, r9, r10, r11, r12, r13, r14⟩ := M
  have hl := wf_ln W
  have hc := wf_cn W
  exact ⟨(fun i hi => (upd_ne (by omega)).trans (r1 i hi)), (fun i hi => (upd_ne (by omega)).trans (r2 i hi)), (fun i j hi hj => (upd_ne (by omega)).trans (r3 i j hi hj)), (fun i hi => (upd_ne (by omega)).trans (r4 i hi)), ((upd_ne (by omega)).trans r5), (fun k x hx => by
    have hk : k < (aL a).length := ix_lt hx
    obtain ⟨q1, q2, q3⟩ := r6 k x hx
    exact ⟨(upd_ne (by omega)).trans q1, (upd_ne (by omega)).trans q2, (upd_ne (by omega)).trans q3⟩), ((upd_ne (by omega)).trans r7), (fun k x hx => by
    have hk : k < (aC a).length := ix_lt hx
    obtain ⟨q1, q2, q3⟩ := r8 k x hx
    exact ⟨(upd_ne (by omega)).trans q1, (upd_ne (by omega)).trans q2, (upd_ne (by omega)).trans q3⟩), (upd_eq), ((upd_ne (by omega)).trans r10), ((upd_ne (by omega)).trans r11), ((upd_ne (by omega)).trans r12), ((upd_ne (by omega)).trans r13), ((upd_ne (by omega)).trans r14)⟩
theorem rmU_n1 {m : Nat → Int32} {a : AS} (M : RM m a) (W : WF a) {x : Int32} : RM (upd m 3 x) (setN a 1 x) := by
  obtain ⟨r1, r2, r3, r4, r5, r6, r7, r8, r9, r10, r11, r12, r13, r14⟩ := M
  have hl := wf_ln W
  have hc := wf_cn W
  exact ⟨(fun i hi => (upd_ne (by omega)).trans (r1 i hi)), (fun i hi => (upd_ne (by omega)).trans (r2 i hi)), (fun i j hi hj => (upd_ne (by omega)).trans (r3 i j hi hj)), (fun i hi => (upd_ne (by omega)).trans (r4 i hi)), ((upd_ne (by omega)).trans r5), (fun k x hx => by
    have hk : k < (aL a).length := ix_lt hx
    obtain ⟨q1, q2, q3⟩ := r6 k x hx
    exact ⟨(upd_ne (by omega)).trans q1, (upd_ne (by omega)).trans q2, (upd_ne (by omega)).trans q3⟩), ((upd_ne (by omega)).trans r7), (fun k x hx => by
    have hk : k < (aC a).length := ix_lt hx
    obtain ⟨q1, q2, q3⟩ := r8 k x hx
    exact ⟨(upd_ne (by omega)).trans q1, (upd_ne (by omega)).trans q2, (upd_ne (by omega)).trans q3⟩), ((upd_ne (by omega)).trans r9), (upd_eq), ((upd_ne (by omega)).trans r11), ((upd_ne (by omega)).trans r12), ((upd_ne (by omega)).trans r13), ((upd_ne (by omega)).trans r14)⟩
theorem rmU_n2 {m : Nat → Int32} {a : AS} (M : RM m a) (W : WF a) {x : Int32} : RM (upd m 4 x) (setN a 2 x) := by
  obtain ⟨r1, r2, r3, r4, r5, r6, r7, r8, r9, r10, r11, r12, r13, r14⟩ := M
  have hl := wf_ln W
  have hc := wf_cn W
  exact ⟨(fun i hi => (upd_ne (by omega)).trans (r1 i hi)), (fun i hi => (upd_ne (by omega)).trans (r2 i hi)), (fun i j hi hj => (upd_ne (by omega)).trans (r3 i j hi hj)), (fun i hi => (upd_ne (by omega)).trans (r4 i hi)), ((upd_ne (by omega)).trans r5), (fun k x hx => by
    have hk : k < (aL a).length := ix_lt hx
    obtain ⟨q1, q2, q3⟩ := r6 k x hx
    exact ⟨(upd_ne (by omega)).trans q1, (upd_ne (by omega)).trans q2, (upd_ne (by omega)).trans q3⟩), ((upd_ne (by omega)).trans r7), (fun k x hx => by
    have hk : k < (aC a).length := ix_lt hx
    obtain ⟨q1, q2, q3⟩ := r8 k x hx
    exact ⟨(upd_ne (by omega)).trans q1, (upd_ne (by omega)).trans q2, (upd_ne (by omega)).trans q3⟩), ((upd_ne (by omega)).trans r9), ((upd_ne (by omega)).trans r10), (upd_eq), ((upd_ne (by omega)).trans r12), ((upd_ne (by omega)).trans r13), ((upd_ne (by omega)).trans r14)⟩
theorem rmU_n3 {m : Nat → Int32} {a : AS} (M : RM m a) (W : WF a) {x : Int32} : RM (upd m 5 x) (setN a 3 x) := by
  obtain ⟨r1, r2, r3, r4, r5, r6, r7, r8, r9, r10, r11, r12, r13, r14⟩ := M
  have hl := wf_ln W
  have hc := wf_cn W
  exact ⟨(fun i hi => (upd_ne (by omega)).trans (r1 i hi)), (fun i hi => (upd_ne (by omega)).trans (r2 i hi)), (fun i j hi hj => (upd_ne (by omega)).trans (r3 i j hi hj)), (fun i hi => (upd_ne (by omega)).trans (r4 i hi)), ((upd_ne (by omega)).trans r5), (fun k x hx => by
    have hk : k < (aL a).length := ix_lt hx
    obtain ⟨q1, q2, q3⟩ := r6 k x hx
    exact ⟨(upd_ne (by omega)).trans q1, (upd_ne (by omega)).trans q2, (upd_ne (by omega)).trans q3⟩), ((upd_ne (by omega)).trans r7), (fun k x hx => by
    have hk : k < (aC a).length := ix_lt hx
    obtain ⟨q1, q2, q3⟩ := r8 k x hx
    exact ⟨(upd_ne (by omega)).trans q1, (upd_ne (by omega)).trans q2, (upd_ne (by omega)).trans q3⟩), ((upd_ne (by omega)).trans r9), ((upd_ne (by omega)).trans r10), ((upd_ne (by omega)).trans r11), (upd_eq), ((upd_ne (by omega)).trans r13), ((upd_ne (by omega)).trans r14)⟩
theorem rmU_n4 {m : Nat → Int32} {a : AS} (M : RM m a) (W : WF a) {x : Int32} : RM (upd m 7 x) (setN a 4 x) := by
  obtain ⟨r1, r2, r3, r4, r5, r6, r7, r8, r9, r10, r11, r12, r13, r14⟩ := M
  have hl := wf_ln W
  have hc := wf_cn W
  exact ⟨(fun i hi => (upd_ne (by omega)).trans (r1 i hi)), (fun i hi => (upd_ne (by omega)).trans (r2 i hi)), (fun i j hi hj => (upd_ne (by omega)).trans (r3 i j hi hj)), (fun i hi => (upd_ne (by omega)).trans (r4 i hi)), ((upd_ne (by omega)).trans r5), (fun k x hx => by
    have hk : k < (aL a).length := ix_lt hx
    obtain ⟨q1, q2, q3⟩ := r6 k x hx
    exact ⟨(upd_ne (by omega)).trans q1, (upd_ne (by omega)).trans q2, (upd_ne (by omega)).trans q3⟩), ((upd_ne (by omega)).trans r7), (fun k x hx => by
    have hk : k < (aC a).length := ix_lt hx
    obtain ⟨q1, q2, q3⟩ := r8 k x hx
    exact ⟨(upd_ne (by omega)).trans q1, (upd_ne (by omega)).trans q2, (upd_ne (by omega)).trans q3⟩), ((upd_ne (by omega)).trans r9), ((upd_ne (by omega)).trans r10), ((upd_ne (by omega)).trans r11), ((upd_ne (by omega)).trans r12), (upd_eq), ((upd_ne (by omega)).trans r14)⟩
theorem rmU_g {m : Nat → Int32} {a : AS} (M : RM m a) (W : WF a) {u w : Nat} {x : Int32} (hu : u < 12) (hw : w < 12) : RM (upd m (46 + 12 * u + w) x) (setG a u w x) := by
  obtain ⟨r1, r2, r3, r4, r5, r6, r7, r8, r9, r10, r11, r12, r13, r14⟩ := M
  have hl := wf_ln W
  have hc := wf_cn W
  exact ⟨(fun i hi => (upd_ne (by omega)).trans (r1 i hi)), (fun i hi => (upd_ne (by omega)).trans (r2 i hi)), (fun i j hi hj => by
    show upd m (46 + 12 * u + w) x (46 + 12 * i + j) = if i = u ∧ j = w then x else aG a i j
    rw [upd_if]
    by_cases c : i = u ∧ j = w
    · rw [if_pos (by omega), if_pos c]
    · rw [if_neg (by omega), if_neg c]; exact r3 i j hi hj), (fun i hi => (upd_ne (by omega)).trans (r4 i hi)), ((upd_ne (by omega)).trans r5), (fun k x hx => by
    have hk : k < (aL a).length := ix_lt hx
    obtain ⟨q1, q2, q3⟩ := r6 k x hx
    exact ⟨(upd_ne (by omega)).trans q1, (upd_ne (by omega)).trans q2, (upd_ne (by omega)).trans q3⟩), ((upd_ne (by omega)).trans r7), (fun k x hx => by
    have hk : k < (aC a).length := ix_lt hx
    obtain ⟨q1, q2, q3⟩ := r8 k x hx
    exact ⟨(upd_ne (by omega)).trans q1, (upd_ne (by omega)).trans q2, (upd_ne (by omega)).trans q3⟩), ((upd_ne (by omega)).trans r9), ((upd_ne (by omega)).trans r10), ((upd_ne (by omega)).trans r11), ((upd_ne (by omega)).trans r12), ((upd_ne (by omega)).trans r13), ((upd_ne (by omega)).trans r14)⟩
theorem rmU_d {m : Nat → Int32} {a : AS} (M : RM m a) (W : WF a) {u : Nat} {x : Int32} (hu : u < 12) : RM (upd m (34 + u) x) (setD a u x) := by
  obtain ⟨r1, r2, r3, r4, r5, r6, r7, r8, r9, r10, r11, r12, r13, r14⟩ := M
  have hl := wf_ln W
  have hc := wf_cn W
  exact ⟨(fun i hi => (upd_ne (by omega)).trans (r1 i hi)), (fun i hi => (upd_ne (by omega)).trans (r2 i hi)), (fun i j hi hj => (upd_ne (by omega)).trans (r3 i j hi hj)), (fun i hi => by
    show upd m (34 + u) x (34 + i) = if i = u then x else aD a i
    rw [upd_if]
    by_cases c : i = u
    · rw [if_pos (by omega), if_pos c]
    · rw [if_neg (by omega), if_neg c]; exact r4 i hi), ((upd_ne (by omega)).trans r5), (fun k x hx => by
    have hk : k < (aL a).length := ix_lt hx
    obtain ⟨q1, q2, q3⟩ := r6 k x hx
    exact ⟨(upd_ne (by omega)).trans q1, (upd_ne (by omega)).trans q2, (upd_ne (by omega)).trans q3⟩), ((upd_ne (by omega)).trans r7), (fun k x hx => by
    have hk : k < (aC a).length := ix_lt hx
    obtain ⟨q1, q2, q3⟩ := r8 k x hx
    exact ⟨(upd_ne (by omega)).trans q1, (upd_ne (by omega)).trans q2, (upd_ne (by omega)).trans q3⟩), ((upd_ne (by omega)).trans r9), ((upd_ne (by omega)).trans r10), ((upd_ne (by omega)).trans r11), ((upd_ne (by omega)).trans r12), ((upd_ne (by omega)).trans r13), ((upd_ne (by omega)).trans r14)⟩
theorem rmU_l {m : Nat → Int32} {a : AS} (M : RM m a) (W : WF a) {lo hi d : Nat} (h5 : (aL a).length < 6) : RM (upd (upd (upd (upd m (190 + 3 * (aL a).length) (nI lo)) (190 + 3 * (aL a).length + 1) (nI hi)) (190 + 3 * (aL a).length + 2) (nI d)) 0 (nI ((aL a).length + 1))) (setL a ((aL a) ++ [(lo, hi, d)])) := by
  obtain ⟨r1, r2, r3, r4, r5, r6, r7, r8, r9, r10, r11, r12, r13, r14⟩ := M
  have hl := wf_ln W
  have hc := wf_cn W
  exact ⟨(fun i hi => (upd_ne (by omega)).trans ((upd_ne (by omega)).trans ((upd_ne (by omega)).trans ((upd_ne (by omega)).trans (r1 i hi))))), (fun i hi => (upd_ne (by omega)).trans ((upd_ne (by omega)).trans ((upd_ne (by omega)).trans ((upd_ne (by omega)).trans (r2 i hi))))), (fun i j hi hj => (upd_ne (by omega)).trans ((upd_ne (by omega)).trans ((upd_ne (by omega)).trans ((upd_ne (by omega)).trans (r3 i j hi hj))))), (fun i hi => (upd_ne (by omega)).trans ((upd_ne (by omega)).trans ((upd_ne (by omega)).trans ((upd_ne (by omega)).trans (r4 i hi))))), (by
    show upd _ 0 (nI ((aL a).length + 1)) 0 = nI ((aL a) ++ [(lo, hi, d)]).length
    rw [upd_eq, List.length_append]; rfl), (fun k x hx => by
    have hk : k < ((aL a) ++ [(lo, hi, d)]).length := ix_lt hx
    rw [List.length_append, List.length_singleton] at hk
    by_cases c : k < (aL a).length
    · have hx : ((aL a) ++ [(lo, hi, d)])[k]? = some x := hx
      rw [List.getElem?_append_left c] at hx
      obtain ⟨q1, q2, q3⟩ := r6 k x hx
      exact ⟨(upd_ne (by omega)).trans ((upd_ne (by omega)).trans ((upd_ne (by omega)).trans ((upd_ne (by omega)).trans (q1)))), (upd_ne (by omega)).trans ((upd_ne (by omega)).trans ((upd_ne (by omega)).trans ((upd_ne (by omega)).trans (q2)))), (upd_ne (by omega)).trans ((upd_ne (by omega)).trans ((upd_ne (by omega)).trans ((upd_ne (by omega)).trans (q3))))⟩
    · have hx : ((aL a) ++ [(lo, hi, d)])[k]? = some x := hx
      have hk2 : k = (aL a).length := by omega
      subst hk2
      rw [List.getElem?_append_right (Nat.le_refl _), Nat.sub_self] at hx
      have hx : (lo, hi, d) = x := Option.some.inj hx
      subst hx
      refine ⟨?_, ?_, ?_⟩
      · exact (upd_ne (by omega)).trans ((upd_ne (by omega)).trans ((upd_ne (by omega)).trans upd_eq))
      · exact (upd_ne (by omega)).trans ((upd_ne (by omega)).trans upd_eq)
      · exact (upd_ne (by omega)).trans upd_eq), ((upd_ne (by omega)).trans ((upd_ne (by omega)).trans ((upd_ne (by omega)).trans ((upd_ne (by omega)).trans (r7))))), (fun k x hx => by
    have hk : k < (aC a).length := ix_lt hx
    obtain ⟨q1, q2, q3⟩ := r8 k x hx
    exact ⟨(upd_ne (by omega)).trans ((upd_ne (by omega)).trans ((upd_ne (by omega)).trans ((upd_ne (by omega)).trans (q1)))), (upd_ne (by omega)).trans ((upd_ne (by omega)).trans ((upd_ne (by omega)).trans ((upd_ne (by omega)).trans (q2)))), (upd_ne (by omega)).trans ((upd_ne (by omega)).trans ((upd_ne (by omega)).trans ((upd_ne (by omega)).trans (q3))))⟩), ((upd_ne (by omega)).trans ((upd_ne (by omega)).trans ((upd_ne (by omega)).trans ((upd_ne (by omega)).trans (r9))))), ((upd_ne (by omega)).trans ((upd_ne (by omega)).trans ((upd_ne (by omega)).trans ((upd_ne (by omega)).trans (r10))))), ((upd_ne (by omega)).trans ((upd_ne (by omega)).trans ((upd_ne (by omega)).trans ((upd_ne (by omega)).trans (r11))))), ((upd_ne (by omega)).trans ((upd_ne (by omega)).trans ((upd_ne (by omega)).trans ((upd_ne (by omega)).trans (r12))))), ((upd_ne (by omega)).trans ((upd_ne (by omega)).trans ((upd_ne (by omega)).trans ((upd_ne (by omega)).trans (r13))))), ((upd_ne (by omega)).trans ((upd_ne (by omega)).trans ((upd_ne (by omega)).trans ((upd_ne (by omega)).trans (r14)))))⟩
theorem rmU_c {m : Nat → Int32} {a : AS} (M : RM m a) (W : WF a) {b : Nat} (h5 : (aC a).length < 6) : RM (upd (upd (upd (upd m (208 + 3 * (aC a).length) (nI b)) (208 + 3 * (aC a).length + 1) (nI b)) (208 + 3 * (aC a).length + 2) 0) 1 (nI ((aC a).length + 1))) (setC a ((aC a) ++ [(b, b, 0)])) := by
  obtain ⟨r1, r2, r3, r4, r5, r6, r7, r8, r9, r10, r11, r12, r13, r14⟩ := M
  have hl := wf_ln W
  have hc := wf_cn W
  exact ⟨(fun i hi => (upd_ne (by omega)).trans ((upd_ne (by omega)).trans ((upd_ne (by omega)).trans ((upd_ne (by omega)).trans (r1 i hi))))), (fun i hi => (upd_ne (by omega)).trans ((upd_ne (by omega)).trans ((upd_ne (by omega)).trans ((upd_ne (by omega)).trans (r2 i hi))))), (fun i j hi hj => (upd_ne (by omega)).trans ((upd_ne (by omega)).trans ((upd_ne (by omega)).trans ((upd_ne (by omega)).trans (r3 i j hi hj))))), (fun i hi => (upd_ne (by omega)).trans ((upd_ne (by omega)).trans ((upd_ne (by omega)).trans ((upd_ne (by omega)).trans (r4 i hi))))), ((upd_ne (by omega)).trans ((upd_ne (by omega)).trans ((upd_ne (by omega)).trans ((upd_ne (by omega)).trans (r5))))), (fun k x hx => by
    have hk : k < (aL a).length := ix_lt hx
    obtain ⟨q1, q2, q3⟩ := r6 k x hx
    exact ⟨(upd_ne (by omega)).trans ((upd_ne (by omega)).trans ((upd_ne (by omega)).trans ((upd_ne (by omega)).trans (q1)))), (upd_ne (by omega)).trans ((upd_ne (by omega)).trans ((upd_ne (by omega)).trans ((upd_ne (by omega)).trans (q2)))), (upd_ne (by omega)).trans ((upd_ne (by omega)).trans ((upd_ne (by omega)).trans ((upd_ne (by omega)).trans (q3))))⟩), (by
    show upd _ 1 (nI ((aC a).length + 1)) 1 = nI ((aC a) ++ [(b, b, 0)]).length
    rw [upd_eq, List.length_append]; rfl), (fun k x hx => by
    have hk : k < ((aC a) ++ [(b, b, (0 : Int32))]).length := ix_lt hx
    rw [List.length_append, List.length_singleton] at hk
    by_cases c : k < (aC a).length
    · have hx : ((aC a) ++ [(b, b, (0 : Int32))])[k]? = some x := hx
      rw [List.getElem?_append_left c] at hx
      obtain ⟨q1, q2, q3⟩ := r8 k x hx
      exact ⟨(upd_ne (by omega)).trans ((upd_ne (by omega)).trans ((upd_ne (by omega)).trans ((upd_ne (by omega)).trans (q1)))), (upd_ne (by omega)).trans ((upd_ne (by omega)).trans ((upd_ne (by omega)).trans ((upd_ne (by omega)).trans (q2)))), (upd_ne (by omega)).trans ((upd_ne (by omega)).trans ((upd_ne (by omega)).trans ((upd_ne (by omega)).trans (q3))))⟩
    · have hx : ((aC a) ++ [(b, b, (0 : Int32))])[k]? = some x := hx
      have hk2 : k = (aC a).length := by omega
      subst hk2
      rw [List.getElem?_append_right (Nat.le_refl _), Nat.sub_self] at hx
      have hx : (b, b, (0 : Int32)) = x := Option.some.inj hx
      subst hx
      refine ⟨?_, ?_, ?_⟩
      · exact (upd_ne (by omega)).trans ((upd_ne (by omega)).trans ((upd_ne (by omega)).trans upd_eq))
      · exact (upd_ne (by omega)).trans ((upd_ne (by omega)).trans upd_eq)
      · exact (upd_ne (by omega)).trans upd_eq), ((upd_ne (by omega)).trans ((upd_ne (by omega)).trans ((upd_ne (by omega)).trans ((upd_ne (by omega)).trans (r9))))), ((upd_ne (by omega)).trans ((upd_ne (by omega)).trans ((upd_ne (by omega)).trans ((upd_ne (by omega)).trans (r10))))), ((upd_ne (by omega)).trans ((upd_ne (by omega)).trans ((upd_ne (by omega)).trans ((upd_ne (by omega)).trans (r11))))), ((upd_ne (by omega)).trans ((upd_ne (by omega)).trans ((upd_ne (by omega)).trans ((upd_ne (by omega)).trans (r12))))), ((upd_ne (by omega)).trans ((upd_ne (by omega)).trans ((upd_ne (by omega)).trans ((upd_ne (by omega)).trans (r13))))), (by
    have e : swS ((aC a) ++ [(b, b, (0 : Int32))]) = swS (aC a) := by unfold swS; rw [List.foldl_append]; exact Int32.add_zero _
    show upd _ 1 _ 6 = swS ((aC a) ++ [(b, b, (0 : Int32))])
    rw [e]
    exact (upd_ne (by omega)).trans ((upd_ne (by omega)).trans ((upd_ne (by omega)).trans ((upd_ne (by omega)).trans (r14)))))⟩
theorem swS_go (l : List (Nat × Nat × Int32)) : ∀ s : Int32, l.foldl (fun s x => s + x.2.2) s = s + swS l := by
  unfold swS
  induction l with
  | nil => intro s; exact (Int32.add_zero s).symm
  | cons x l ih => intro s; show l.foldl _ (s + x.2.2) = s + l.foldl _ (0 + x.2.2); rw [ih, ih (0 + x.2.2), Int32.zero_add, Int32.add_assoc]
theorem swS_cons (x : Nat × Nat × Int32) (l : List (Nat × Nat × Int32)) : swS (x :: l) = x.2.2 + swS l := by
  show l.foldl _ (0 + x.2.2) = _
  rw [swS_go, Int32.zero_add]
theorem swS_set {l : List (Nat × Nat × Int32)} : ∀ {k : Nat} {x : Nat × Nat × Int32} {b h : Nat}, l[k]? = some x → swS (l.set k (b, h, x.2.2 + 1)) = swS l + 1 := by
  induction l with
  | nil => intro k x b h hx; cases hx
  | cons y l ih =>
    intro k x b h hx
    cases k with
    | zero =>
      have hx : y = x := Option.some.inj hx
      subst hx
      show swS ((b, h, y.2.2 + 1) :: l) = _
      rw [swS_cons, swS_cons]
      show y.2.2 + 1 + swS l = _
      rw [Int32.add_assoc, Int32.add_comm 1, ← Int32.add_assoc]
    | succ k =>
      show swS (y :: l.set k (b, h, x.2.2 + 1)) = _
      rw [swS_cons, swS_cons, ih hx, Int32.add_assoc]
theorem rmU_m {m : Nat → Int32} {a : AS} (M : RM m a) (W : WF a) {k b : Nat} {x : Nat × Nat × Int32} (hk : k < (aC a).length) (hx : (aC a)[k]? = some x) : RM (upd (upd (upd m (208 + 3 * k) (nI b)) (208 + 3 * k + 2) (x.2.2 + 1)) 6 (swS (aC a) + 1)) (setC a ((aC a).set k (b, x.2.1, x.2.2 + 1))) := by
  obtain ⟨r1, r2, r3, r4, r5, r6, r7, r8, r9, r10, r11, r12, r13, r14⟩ := M
  have hl := wf_ln W
  have hc := wf_cn W
  exact ⟨(fun i hi => (upd_ne (by omega)).trans ((upd_ne (by omega)).trans ((upd_ne (by omega)).trans (r1 i hi)))), (fun i hi => (upd_ne (by omega)).trans ((upd_ne (by omega)).trans ((upd_ne (by omega)).trans (r2 i hi)))), (fun i j hi hj => (upd_ne (by omega)).trans ((upd_ne (by omega)).trans ((upd_ne (by omega)).trans (r3 i j hi hj)))), (fun i hi => (upd_ne (by omega)).trans ((upd_ne (by omega)).trans ((upd_ne (by omega)).trans (r4 i hi)))), ((upd_ne (by omega)).trans ((upd_ne (by omega)).trans ((upd_ne (by omega)).trans (r5)))), (fun k' x hx => by
    have hk : k' < (aL a).length := ix_lt hx
    obtain ⟨q1, q2, q3⟩ := r6 k' x hx
    exact ⟨(upd_ne (by omega)).trans ((upd_ne (by omega)).trans ((upd_ne (by omega)).trans (q1))), (upd_ne (by omega)).trans ((upd_ne (by omega)).trans ((upd_ne (by omega)).trans (q2))), (upd_ne (by omega)).trans ((upd_ne (by omega)).trans ((upd_ne (by omega)).trans (q3)))⟩), (by
    show upd _ 6 _ 1 = nI ((aC a).set k (b, x.2.1, x.2.2 + 1)).length
    rw [List.length_set]
    exact (upd_ne (by omega)).trans ((upd_ne (by omega)).trans ((upd_ne (by omega)).trans (r7)))), (fun j y hy => by
    have hy : ((aC a).set k (b, x.2.1, x.2.2 + 1))[j]? = some y := hy
    have hj := ix_lt hy
    rw [List.length_set] at hj
    by_cases c : k = j
    · subst c
      rw [List.getElem?_set_self hk] at hy
      have hy : (b, x.2.1, x.2.2 + 1) = y := Option.some.inj hy
      subst hy
      obtain ⟨q1, q2, q3⟩ := r8 k x hx
      refine ⟨?_, ?_, ?_⟩
      · exact (upd_ne (by omega)).trans ((upd_ne (by omega)).trans upd_eq)
      · exact (upd_ne (by omega)).trans ((upd_ne (by omega)).trans ((upd_ne (by omega)).trans q2))
      · exact (upd_ne (by omega)).trans upd_eq
    · rw [List.getElem?_set_ne c] at hy
      obtain ⟨q1, q2, q3⟩ := r8 j y hy
      exact ⟨(upd_ne (by omega)).trans ((upd_ne (by omega)).trans ((upd_ne (by omega)).trans (q1))), (upd_ne (by omega)).trans ((upd_ne (by omega)).trans ((upd_ne (by omega)).trans (q2))), (upd_ne (by omega)).trans ((upd_ne (by omega)).trans ((upd_ne (by omega)).trans (q3)))⟩), ((upd_ne (by omega)).trans ((upd_ne (by omega)).trans ((upd_ne (by omega)).trans (r9)))), ((upd_ne (by omega)).trans ((upd_ne (by omega)).trans ((upd_ne (by omega)).trans (r10)))), ((upd_ne (by omega)).trans ((upd_ne (by omega)).trans ((upd_ne (by omega)).trans (r11)))), ((upd_ne (by omega)).trans ((upd_ne (by omega)).trans ((upd_ne (by omega)).trans (r12)))), ((upd_ne (by omega)).trans ((upd_ne (by omega)).trans ((upd_ne (by omega)).trans (r13)))), (by
    show upd _ 6 _ 6 = swS ((aC a).set k (b, x.2.1, x.2.2 + 1))
    rw [upd_eq, swS_set hx])⟩
theorem rmU_mL {m : Nat → Int32} {a : AS} (M : RM m a) (hl : (aL a).length ≤ 6) (hc : (aC a).length ≤ 6) {k b : Nat} {x : Nat × Nat × Int32} (hk : k < (aC a).length) (hx : (aC a)[k]? = some x) : RM (upd (upd (upd m (208 + 3 * k) (nI b)) (208 + 3 * k + 2) (x.2.2 + 1)) 6 (swS (aC a) + 1)) (setC a ((aC a).set k (b, x.2.1, x.2.2 + 1))) := by
  obtain ⟨r1, r2, r3, r4, r5, r6, r7, r8, r9, r10, r11, r12, r13, r14⟩ := M
  exact ⟨(fun i hi => (upd_ne (by omega)).trans ((upd_ne (by omega)).trans ((upd_ne (by omega)).trans (r1 i hi)))), (fun i hi => (upd_ne (by omega)).trans ((upd_ne (by omega)).trans ((upd_ne (by omega)).trans (r2 i hi)))), (fun i j hi hj => (upd_ne (by omega)).trans ((upd_ne (by omega)).trans ((upd_ne (by omega)).trans (r3 i j hi hj)))), (fun i hi => (upd_ne (by omega)).trans ((upd_ne (by omega)).trans ((upd_ne (by omega)).trans (r4 i hi)))), ((upd_ne (by omega)).trans ((upd_ne (by omega)).trans ((upd_ne (by omega)).trans (r5)))), (fun k' x hx => by
    have hk : k' < (aL a).length := ix_lt hx
    obtain ⟨q1, q2, q3⟩ := r6 k' x hx
    exact ⟨(upd_ne (by omega)).trans ((upd_ne (by omega)).trans ((upd_ne (by omega)).trans (q1))), (upd_ne (by omega)).trans ((upd_ne (by omega)).trans ((upd_ne (by omega)).trans (q2))), (upd_ne (by omega)).trans ((upd_ne (by omega)).trans ((upd_ne (by omega)).trans (q3)))⟩), (by
    show upd _ 6 _ 1 = nI ((aC a).set k (b, x.2.1, x.2.2 + 1)).length
    rw [List.length_set]
    exact (upd_ne (by omega)).trans ((upd_ne (by omega)).trans ((upd_ne (by omega)).trans (r7)))), (fun j y hy => by
    have hy : ((aC a).set k (b, x.2.1, x.2.2 + 1))[j]? = some y := hy
    have hj := ix_lt hy
    rw [List.length_set] at hj
    by_cases c : k = j
    · subst c
      rw [List.getElem?_set_self hk] at hy
      have hy : (b, x.2.1, x.2.2 + 1) = y := Option.some.inj hy
      subst hy
      obtain ⟨q1, q2, q3⟩ := r8 k x hx
      refine ⟨?_, ?_, ?_⟩
      · exact (upd_ne (by omega)).trans ((upd_ne (by omega)).trans upd_eq)
      · exact (upd_ne (by omega)).trans ((upd_ne (by omega)).trans ((upd_ne (by omega)).trans q2))
      · exact (upd_ne (by omega)).trans upd_eq
    · rw [List.getElem?_set_ne c] at hy
      obtain ⟨q1, q2, q3⟩ := r8 j y hy
      exact ⟨(upd_ne (by omega)).trans ((upd_ne (by omega)).trans ((upd_ne (by omega)).trans (q1))), (upd_ne (by omega)).trans ((upd_ne (by omega)).trans ((upd_ne (by omega)).trans (q2))), (upd_ne (by omega)).trans ((upd_ne (by omega)).trans ((upd_ne (by omega)).trans (q3)))⟩), ((upd_ne (by omega)).trans ((upd_ne (by omega)).trans ((upd_ne (by omega)).trans (r9)))), ((upd_ne (by omega)).trans ((upd_ne (by omega)).trans ((upd_ne (by omega)).trans (r10)))), ((upd_ne (by omega)).trans ((upd_ne (by omega)).trans ((upd_ne (by omega)).trans (r11)))), ((upd_ne (by omega)).trans ((upd_ne (by omega)).trans ((upd_ne (by omega)).trans (r12)))), ((upd_ne (by omega)).trans ((upd_ne (by omega)).trans ((upd_ne (by omega)).trans (r13)))), (by
    show upd _ 6 _ 6 = swS ((aC a).set k (b, x.2.1, x.2.2 + 1))
    rw [upd_eq, swS_set hx])⟩
