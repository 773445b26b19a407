/-! The class's constructor, stage by stage (printed by a program of ours) -/
def xmn (a b : Int32) : Int32 := if b < a then b else a
def xmx (a b : Int32) : Int32 := if a < b then b else a
theorem E_min {X : Nat × (Nat → Int32)} {h : xa_H} (a b : Int32) : Ev X 0 1 0 [.int a, .int b] [] h (xI (xmn a b), h) := by
  unfold xmn
  by_cases c : b < a
  · rw [if_pos c]
    refine Ev.t (c := b < a) (p1 := 9) (L1 := [.int a, .int b]) (s1 := []) (h1 := h) (p2 := 5) (L2 := [.int a, .int b]) (s2 := []) (h2 := h) 3 (fun n => rfl) c ?_
    exact Ev.r 2 (fun n => rfl)
  · rw [if_neg c]
    refine Ev.f (c := b < a) (p1 := 9) (L1 := [.int a, .int b]) (s1 := []) (h1 := h) (p2 := 5) (L2 := [.int a, .int b]) (s2 := []) (h2 := h) 3 (fun n => rfl) c ?_
    exact Ev.r 3 (fun n => rfl)
theorem E_max {X : Nat × (Nat → Int32)} {h : xa_H} (a b : Int32) : Ev X 0 2 0 [.int a, .int b] [] h (xI (xmx a b), h) := by
  unfold xmx
  by_cases c : a < b
  · rw [if_pos c]
    refine Ev.t (c := a < b) (p1 := 9) (L1 := [.int a, .int b]) (s1 := []) (h1 := h) (p2 := 5) (L2 := [.int a, .int b]) (s2 := []) (h2 := h) 3 (fun n => rfl) c ?_
    exact Ev.r 2 (fun n => rfl)
  · rw [if_neg c]
    refine Ev.f (c := a < b) (p1 := 9) (L1 := [.int a, .int b]) (s1 := []) (h1 := h) (p2 := 5) (L2 := [.int a, .int b]) (s2 := []) (h2 := h) 3 (fun n => rfl) c ?_
    exact Ev.r 3 (fun n => rfl)
/-- the first i places of an array filled -/
def xfl (h : xa_H) (a i : Nat) (v : Int32) : xa_H := (h.1, h.2.1, va_up h.2.2.1 a (fun j => if j < i then v else h.2.2.1 a j), h.2.2.2)
theorem xfl_0 (h : xa_H) (a : Nat) (v : Int32) : xfl h a 0 v = h := by
  unfold xfl
  have e : va_up h.2.2.1 a (fun j => if j < 0 then v else h.2.2.1 a j) = h.2.2.1 := by
    funext b j
    unfold va_up
    by_cases hb : b = a
    · rw [if_pos hb, if_neg (by omega), hb]
    · rw [if_neg hb]
  rw [e]
theorem xfl_s (h : xa_H) (a i : Nat) (v : Int32) : xa_I (xfl h a i v) a i v = xfl h a (i + 1) v := by
  have e0 : ∀ b j, (xfl h a i v).2.2.1 b j = (if b = a then (fun j => if j < i then v else h.2.2.1 a j) else h.2.2.1 b) j := fun b j => rfl
  have e : xa_u (xfl h a i v).2.2.1 a i v = va_up h.2.2.1 a (fun j => if j < i + 1 then v else h.2.2.1 a j) := by
    funext b j
    show (if b = a then va_up ((xfl h a i v).2.2.1 a) i v else (xfl h a i v).2.2.1 b) j = (if b = a then (fun j => if j < i + 1 then v else h.2.2.1 a j) else h.2.2.1 b) j
    by_cases hb : b = a
    · rw [if_pos hb, if_pos hb]
      show (if j = i then v else (xfl h a i v).2.2.1 a j) = (if j < i + 1 then v else h.2.2.1 a j)
      rw [e0, if_pos rfl]
      show (if j = i then v else (if j < i then v else h.2.2.1 a j)) = (if j < i + 1 then v else h.2.2.1 a j)
      by_cases hj : j = i
      · rw [if_pos hj, if_pos (by omega)]
      · rw [if_neg hj]
        by_cases h2 : j < i
        · rw [if_pos h2, if_pos (by omega)]
        · rw [if_neg h2, if_neg (by omega)]
    · rw [if_neg hb, if_neg hb, e0, if_neg hb]
  show (h.1, h.2.1, xa_u (xfl h a i v).2.2.1 a i v, h.2.2.2) = _
  rw [e]
  rfl
theorem E_fill {X : Nat × (Nat → Int32)} {h : xa_H} {v : Int32} (a N : Nat) (hk : xa_k h a = (0, N)) (ha : a < 1000) (hN : N < 1000) : Ev X 0 5 0 [.ref a, .int v, .retAddr 0, .retAddr 0] [] h (none, xfl h a N v) := by
  have loop : ∀ (m i : Nat), i + m = N → Ev X 0 5 5 [.ref a, .int v, .int (nI i), .int (nI N)] [] (xfl h a i v) (none, xfl h a N v) := by
    intro m
    induction m with
    | zero =>
      intro i hi
      have hi : i = N := by omega
      subst hi
      refine Ev.t (c := nI i ≤ nI i) (p1 := 20) (L1 := [.ref a, .int v, .int (nI i), .int (nI i)]) (s1 := []) (h1 := xfl h a i v) (p2 := 10) (L2 := [.ref a, .int v, .int (nI i), .int (nI i)]) (s2 := []) (h2 := xfl h a i v) 3 (fun n => rfl) (nI_le (Nat.le_refl _) (by omega)) ?_
      exact Ev.r 1 (fun n => rfl)
    | succ m ih =>
      intro i hi
      have hk2 : xa_k (xfl h a i v) a = (0, N) := hk
      refine Ev.f (c := nI N ≤ nI i) (p1 := 20) (L1 := [.ref a, .int v, .int (nI i), .int (nI N)]) (s1 := []) (h1 := xfl h a i v) (p2 := 10) (L2 := [.ref a, .int v, .int (nI i), .int (nI N)]) (s2 := []) (h2 := xfl h a i v) 3 (fun n => rfl) (nI_ge (by omega) (by omega)) ?_
      refine Ev.g (c := (xa_k (xfl h a i v) a).1 = 0 ∧ xa_in (nI i) (xa_k (xfl h a i v) a).2) (p1 := 14) (L1 := [.ref a, .int v, .int (nI i), .int (nI N)]) (s1 := []) (h1 := xa_I (xfl h a i v) a (nI i).toNatClampNeg v) 4 (fun n => rfl) ⟨by rw [hk2], by rw [hk2]; exact nI_in (by omega) (by omega)⟩ ?_
      rw [nI_clamp (by omega), xfl_s]
      refine Ev.b (pc' := 5) (L' := [.ref a, .int v, .int (nI i + 1), .int (nI N)]) (st' := []) (h' := xfl h a (i + 1) v) 2 (fun n => rfl) ?_
      rw [← nI_succ]
      exact ih (i + 1) (by omega)
  refine Ev.gl (c := (xa_k h a).1 < 2) (a := a) (p1 := 4) (L1 := [.ref a, .int v, .int 0, .retAddr 0]) (s1 := [.int (Int32.ofNat (xa_k h a).2)]) (h1 := h) 4 (fun n => rfl) ha (by rw [hk]; show 0 < 2; omega) ?_
  rw [hk]
  refine Ev.b (pc' := 5) (L' := [.ref a, .int v, .int (nI 0), .int (nI N)]) (st' := []) (h' := h) 1 (fun n => rfl) ?_
  have := loop N 0 (by omega)
  rw [xfl_0] at this
  exact this
def cI_0 (_ : Int32) : Nat → Nat → Int32 := fun _ _ => 0
def cR_0 : Nat → Nat → Option Nat := fun _ _ => none
def cS_0 : List (Nat × Nat) := []
def cH_0 (v : Int32) : xa_H := (cS_0, 0, cI_0 v, cR_0)
def cI_1 (v : Int32) : Nat → Nat → Int32 := va_up (cI_0 v) 0 (fun _ => 0)
def cR_1 : Nat → Nat → Option Nat := va_up cR_0 0 (fun _ => none)
def cS_1 : List (Nat × Nat) := [(17, 7)]
def cH_1 (v : Int32) : xa_H := (cS_1, 7, cI_1 v, cR_1)
def cI_2 (v : Int32) : Nat → Nat → Int32 := xa_u (cI_1 v) 0 0 (xmx 16 (xmn 200 v))
def cH_2 (v : Int32) : xa_H := (cS_1, 7, cI_2 v, cR_1)
def cI_3 (v : Int32) : Nat → Nat → Int32 := va_up (cI_2 v) 1 (fun _ => 0)
def cR_2 : Nat → Nat → Option Nat := va_up cR_1 1 (fun _ => none)
def cS_2 : List (Nat × Nat) := [(17, 7), (14, 6)]
def cH_3 (v : Int32) : xa_H := (cS_2, 13, cI_3 v, cR_2)
def cI_4 (v : Int32) : Nat → Nat → Int32 := va_up (cI_3 v) 2 (fun _ => 0)
def cR_3 : Nat → Nat → Option Nat := va_up cR_2 2 (fun _ => none)
def cS_3 : List (Nat × Nat) := [(17, 7), (14, 6), (13, 7)]
def cH_4 (v : Int32) : xa_H := (cS_3, 20, cI_4 v, cR_3)
def cI_5 (v : Int32) : Nat → Nat → Int32 := va_up (cI_4 v) 3 (fun _ => 0)
def cR_4 : Nat → Nat → Option Nat := va_up cR_3 3 (fun _ => none)
def cS_4 : List (Nat × Nat) := [(17, 7), (14, 6), (13, 7), (0, 192)]
def cH_5 (v : Int32) : xa_H := (cS_4, 212, cI_5 v, cR_4)
def cR_5 : Nat → Nat → Option Nat := xa_u cR_4 2 0 (some 3)
def cH_6 (v : Int32) : xa_H := (cS_4, 212, cI_5 v, cR_5)
def cI_6 (v : Int32) : Nat → Nat → Int32 := va_up (cI_5 v) 4 (fun _ => 0)
def cR_6 : Nat → Nat → Option Nat := va_up cR_5 4 (fun _ => none)
def cS_5 : List (Nat × Nat) := [(17, 7), (14, 6), (13, 7), (0, 192), (0, 192)]
def cH_7 (v : Int32) : xa_H := (cS_5, 404, cI_6 v, cR_6)
def cR_7 : Nat → Nat → Option Nat := xa_u cR_6 2 1 (some 4)
def cH_8 (v : Int32) : xa_H := (cS_5, 404, cI_6 v, cR_7)
def cI_7 (v : Int32) : Nat → Nat → Int32 := va_up (cI_6 v) 5 (fun _ => 0)
def cR_8 : Nat → Nat → Option Nat := va_up cR_7 5 (fun _ => none)
def cS_6 : List (Nat × Nat) := [(17, 7), (14, 6), (13, 7), (0, 192), (0, 192), (0, 192)]
def cH_9 (v : Int32) : xa_H := (cS_6, 596, cI_7 v, cR_8)
def cR_9 : Nat → Nat → Option Nat := xa_u cR_8 2 2 (some 5)
def cH_10 (v : Int32) : xa_H := (cS_6, 596, cI_7 v, cR_9)
def cI_8 (v : Int32) : Nat → Nat → Int32 := va_up (cI_7 v) 6 (fun _ => 0)
def cR_10 : Nat → Nat → Option Nat := va_up cR_9 6 (fun _ => none)
def cS_7 : List (Nat × Nat) := [(17, 7), (14, 6), (13, 7), (0, 192), (0, 192), (0, 192), (12, 10)]
def cH_11 (v : Int32) : xa_H := (cS_7, 606, cI_8 v, cR_10)
def cR_11 : Nat → Nat → Option Nat := xa_u cR_10 2 4 (some 6)
def cH_12 (v : Int32) : xa_H := (cS_7, 606, cI_8 v, cR_11)
def cI_9 (v : Int32) : Nat → Nat → Int32 := xa_u (cI_8 v) 2 5 (-1)
def cH_13 (v : Int32) : xa_H := (cS_7, 606, cI_9 v, cR_11)
def cI_10 (v : Int32) : Nat → Nat → Int32 := xa_u (cI_9 v) 2 6 (-1)
def cH_14 (v : Int32) : xa_H := (cS_7, 606, cI_10 v, cR_11)
def cI_11 (v : Int32) : Nat → Nat → Int32 := va_up (cI_10 v) 3 (fun j => if j < 192 then 15 else cI_10 v 3 j)
def cH_15 (v : Int32) : xa_H := (cS_7, 606, cI_11 v, cR_11)
def cI_12 (v : Int32) : Nat → Nat → Int32 := va_up (cI_11 v) 4 (fun j => if j < 192 then 4 else cI_11 v 4 j)
def cH_16 (v : Int32) : xa_H := (cS_7, 606, cI_12 v, cR_11)
def cR_12 : Nat → Nat → Option Nat := xa_u cR_11 1 0 (some 2)
def cH_17 (v : Int32) : xa_H := (cS_7, 606, cI_12 v, cR_12)
def cI_13 (v : Int32) : Nat → Nat → Int32 := va_up (cI_12 v) 7 (fun _ => 0)
def cR_13 : Nat → Nat → Option Nat := va_up cR_12 7 (fun _ => none)
def cS_8 : List (Nat × Nat) := [(17, 7), (14, 6), (13, 7), (0, 192), (0, 192), (0, 192), (12, 10), (2, 4)]
def cH_18 (v : Int32) : xa_H := (cS_8, 610, cI_13 v, cR_13)
def cR_14 : Nat → Nat → Option Nat := xa_u cR_13 1 1 (some 7)
def cH_19 (v : Int32) : xa_H := (cS_8, 610, cI_13 v, cR_14)
def cI_14 (v : Int32) : Nat → Nat → Int32 := va_up (cI_13 v) 8 (fun _ => 0)
def cR_15 : Nat → Nat → Option Nat := va_up cR_14 8 (fun _ => none)
def cS_9 : List (Nat × Nat) := [(17, 7), (14, 6), (13, 7), (0, 192), (0, 192), (0, 192), (12, 10), (2, 4), (3, 4)]
def cH_20 (v : Int32) : xa_H := (cS_9, 614, cI_14 v, cR_15)
def cR_16 : Nat → Nat → Option Nat := xa_u cR_15 1 2 (some 8)
def cH_21 (v : Int32) : xa_H := (cS_9, 614, cI_14 v, cR_16)
def cI_15 (v : Int32) : Nat → Nat → Int32 := va_up (cI_14 v) 9 (fun _ => 0)
def cR_17 : Nat → Nat → Option Nat := va_up cR_16 9 (fun _ => none)
def cS_10 : List (Nat × Nat) := [(17, 7), (14, 6), (13, 7), (0, 192), (0, 192), (0, 192), (12, 10), (2, 4), (3, 4), (0, 16)]
def cH_22 (v : Int32) : xa_H := (cS_10, 630, cI_15 v, cR_17)
def cR_18 : Nat → Nat → Option Nat := xa_u cR_17 1 3 (some 9)
def cH_23 (v : Int32) : xa_H := (cS_10, 630, cI_15 v, cR_18)
def cI_16 (v : Int32) : Nat → Nat → Int32 := va_up (cI_15 v) 10 (fun _ => 0)
def cR_19 : Nat → Nat → Option Nat := va_up cR_18 10 (fun _ => none)
def cS_11 : List (Nat × Nat) := [(17, 7), (14, 6), (13, 7), (0, 192), (0, 192), (0, 192), (12, 10), (2, 4), (3, 4), (0, 16), (1, 16)]
def cH_24 (v : Int32) : xa_H := (cS_11, 646, cI_16 v, cR_19)
def cR_20 : Nat → Nat → Option Nat := xa_u cR_19 1 4 (some 10)
def cH_25 (v : Int32) : xa_H := (cS_11, 646, cI_16 v, cR_20)
def cI_17 (v : Int32) : Nat → Nat → Int32 := va_up (cI_16 v) 11 (fun _ => 0)
def cR_21 : Nat → Nat → Option Nat := va_up cR_20 11 (fun _ => none)
def cS_12 : List (Nat × Nat) := [(17, 7), (14, 6), (13, 7), (0, 192), (0, 192), (0, 192), (12, 10), (2, 4), (3, 4), (0, 16), (1, 16), (10, 13)]
def cH_26 (v : Int32) : xa_H := (cS_12, 659, cI_17 v, cR_21)
def cI_18 (v : Int32) : Nat → Nat → Int32 := xa_u (cI_17 v) 11 2 1
def cH_27 (v : Int32) : xa_H := (cS_12, 659, cI_18 v, cR_21)
def cI_19 (v : Int32) : Nat → Nat → Int32 := xa_u (cI_18 v) 11 3 1
def cH_28 (v : Int32) : xa_H := (cS_12, 659, cI_19 v, cR_21)
def cR_22 : Nat → Nat → Option Nat := xa_u cR_21 7 0 (some 11)
def cH_29 (v : Int32) : xa_H := (cS_12, 659, cI_19 v, cR_22)
def cI_20 (v : Int32) : Nat → Nat → Int32 := va_up (cI_19 v) 12 (fun _ => 0)
def cR_23 : Nat → Nat → Option Nat := va_up cR_22 12 (fun _ => none)
def cS_13 : List (Nat × Nat) := [(17, 7), (14, 6), (13, 7), (0, 192), (0, 192), (0, 192), (12, 10), (2, 4), (3, 4), (0, 16), (1, 16), (10, 13), (10, 13)]
def cH_30 (v : Int32) : xa_H := (cS_13, 672, cI_20 v, cR_23)
def cI_21 (v : Int32) : Nat → Nat → Int32 := xa_u (cI_20 v) 12 2 1
def cH_31 (v : Int32) : xa_H := (cS_13, 672, cI_21 v, cR_23)
def cI_22 (v : Int32) : Nat → Nat → Int32 := xa_u (cI_21 v) 12 3 1
def cH_32 (v : Int32) : xa_H := (cS_13, 672, cI_22 v, cR_23)
def cR_24 : Nat → Nat → Option Nat := xa_u cR_23 7 1 (some 12)
def cH_33 (v : Int32) : xa_H := (cS_13, 672, cI_22 v, cR_24)
def cI_23 (v : Int32) : Nat → Nat → Int32 := va_up (cI_22 v) 13 (fun _ => 0)
def cR_25 : Nat → Nat → Option Nat := va_up cR_24 13 (fun _ => none)
def cS_14 : List (Nat × Nat) := [(17, 7), (14, 6), (13, 7), (0, 192), (0, 192), (0, 192), (12, 10), (2, 4), (3, 4), (0, 16), (1, 16), (10, 13), (10, 13), (10, 13)]
def cH_34 (v : Int32) : xa_H := (cS_14, 685, cI_23 v, cR_25)
def cI_24 (v : Int32) : Nat → Nat → Int32 := xa_u (cI_23 v) 13 2 1
def cH_35 (v : Int32) : xa_H := (cS_14, 685, cI_24 v, cR_25)
def cI_25 (v : Int32) : Nat → Nat → Int32 := xa_u (cI_24 v) 13 3 1
def cH_36 (v : Int32) : xa_H := (cS_14, 685, cI_25 v, cR_25)
def cR_26 : Nat → Nat → Option Nat := xa_u cR_25 7 2 (some 13)
def cH_37 (v : Int32) : xa_H := (cS_14, 685, cI_25 v, cR_26)
def cI_26 (v : Int32) : Nat → Nat → Int32 := va_up (cI_25 v) 14 (fun _ => 0)
def cR_27 : Nat → Nat → Option Nat := va_up cR_26 14 (fun _ => none)
def cS_15 : List (Nat × Nat) := [(17, 7), (14, 6), (13, 7), (0, 192), (0, 192), (0, 192), (12, 10), (2, 4), (3, 4), (0, 16), (1, 16), (10, 13), (10, 13), (10, 13), (10, 13)]
def cH_38 (v : Int32) : xa_H := (cS_15, 698, cI_26 v, cR_27)
def cI_27 (v : Int32) : Nat → Nat → Int32 := xa_u (cI_26 v) 14 2 1
def cH_39 (v : Int32) : xa_H := (cS_15, 698, cI_27 v, cR_27)
def cI_28 (v : Int32) : Nat → Nat → Int32 := xa_u (cI_27 v) 14 3 1
def cH_40 (v : Int32) : xa_H := (cS_15, 698, cI_28 v, cR_27)
def cR_28 : Nat → Nat → Option Nat := xa_u cR_27 7 3 (some 14)
def cH_41 (v : Int32) : xa_H := (cS_15, 698, cI_28 v, cR_28)
def cI_29 (v : Int32) : Nat → Nat → Int32 := va_up (cI_28 v) 15 (fun _ => 0)
def cR_29 : Nat → Nat → Option Nat := va_up cR_28 15 (fun _ => none)
def cS_16 : List (Nat × Nat) := [(17, 7), (14, 6), (13, 7), (0, 192), (0, 192), (0, 192), (12, 10), (2, 4), (3, 4), (0, 16), (1, 16), (10, 13), (10, 13), (10, 13), (10, 13), (11, 3)]
def cH_42 (v : Int32) : xa_H := (cS_16, 701, cI_29 v, cR_29)
def cI_30 (v : Int32) : Nat → Nat → Int32 := va_up (cI_29 v) 16 (fun _ => 0)
def cR_30 : Nat → Nat → Option Nat := va_up cR_29 16 (fun _ => none)
def cS_17 : List (Nat × Nat) := [(17, 7), (14, 6), (13, 7), (0, 192), (0, 192), (0, 192), (12, 10), (2, 4), (3, 4), (0, 16), (1, 16), (10, 13), (10, 13), (10, 13), (10, 13), (11, 3), (0, 64)]
def cH_43 (v : Int32) : xa_H := (cS_17, 765, cI_30 v, cR_30)
def cR_31 : Nat → Nat → Option Nat := xa_u cR_30 15 0 (some 16)
def cH_44 (v : Int32) : xa_H := (cS_17, 765, cI_30 v, cR_31)
def cR_32 : Nat → Nat → Option Nat := xa_u cR_31 8 0 (some 15)
def cH_45 (v : Int32) : xa_H := (cS_17, 765, cI_30 v, cR_32)
def cI_31 (v : Int32) : Nat → Nat → Int32 := va_up (cI_30 v) 17 (fun _ => 0)
def cR_33 : Nat → Nat → Option Nat := va_up cR_32 17 (fun _ => none)
def cS_18 : List (Nat × Nat) := [(17, 7), (14, 6), (13, 7), (0, 192), (0, 192), (0, 192), (12, 10), (2, 4), (3, 4), (0, 16), (1, 16), (10, 13), (10, 13), (10, 13), (10, 13), (11, 3), (0, 64), (11, 3)]
def cH_46 (v : Int32) : xa_H := (cS_18, 768, cI_31 v, cR_33)
def cI_32 (v : Int32) : Nat → Nat → Int32 := va_up (cI_31 v) 18 (fun _ => 0)
def cR_34 : Nat → Nat → Option Nat := va_up cR_33 18 (fun _ => none)
def cS_19 : List (Nat × Nat) := [(17, 7), (14, 6), (13, 7), (0, 192), (0, 192), (0, 192), (12, 10), (2, 4), (3, 4), (0, 16), (1, 16), (10, 13), (10, 13), (10, 13), (10, 13), (11, 3), (0, 64), (11, 3), (0, 64)]
def cH_47 (v : Int32) : xa_H := (cS_19, 832, cI_32 v, cR_34)
def cR_35 : Nat → Nat → Option Nat := xa_u cR_34 17 0 (some 18)
def cH_48 (v : Int32) : xa_H := (cS_19, 832, cI_32 v, cR_35)
def cR_36 : Nat → Nat → Option Nat := xa_u cR_35 8 1 (some 17)
def cH_49 (v : Int32) : xa_H := (cS_19, 832, cI_32 v, cR_36)
def cI_33 (v : Int32) : Nat → Nat → Int32 := va_up (cI_32 v) 19 (fun _ => 0)
def cR_37 : Nat → Nat → Option Nat := va_up cR_36 19 (fun _ => none)
def cS_20 : List (Nat × Nat) := [(17, 7), (14, 6), (13, 7), (0, 192), (0, 192), (0, 192), (12, 10), (2, 4), (3, 4), (0, 16), (1, 16), (10, 13), (10, 13), (10, 13), (10, 13), (11, 3), (0, 64), (11, 3), (0, 64), (11, 3)]
def cH_50 (v : Int32) : xa_H := (cS_20, 835, cI_33 v, cR_37)
def cI_34 (v : Int32) : Nat → Nat → Int32 := va_up (cI_33 v) 20 (fun _ => 0)
def cR_38 : Nat → Nat → Option Nat := va_up cR_37 20 (fun _ => none)
def cS_21 : List (Nat × Nat) := [(17, 7), (14, 6), (13, 7), (0, 192), (0, 192), (0, 192), (12, 10), (2, 4), (3, 4), (0, 16), (1, 16), (10, 13), (10, 13), (10, 13), (10, 13), (11, 3), (0, 64), (11, 3), (0, 64), (11, 3), (0, 64)]
def cH_51 (v : Int32) : xa_H := (cS_21, 899, cI_34 v, cR_38)
def cR_39 : Nat → Nat → Option Nat := xa_u cR_38 19 0 (some 20)
def cH_52 (v : Int32) : xa_H := (cS_21, 899, cI_34 v, cR_39)
def cR_40 : Nat → Nat → Option Nat := xa_u cR_39 8 2 (some 19)
def cH_53 (v : Int32) : xa_H := (cS_21, 899, cI_34 v, cR_40)
def cI_35 (v : Int32) : Nat → Nat → Int32 := va_up (cI_34 v) 21 (fun _ => 0)
def cR_41 : Nat → Nat → Option Nat := va_up cR_40 21 (fun _ => none)
def cS_22 : List (Nat × Nat) := [(17, 7), (14, 6), (13, 7), (0, 192), (0, 192), (0, 192), (12, 10), (2, 4), (3, 4), (0, 16), (1, 16), (10, 13), (10, 13), (10, 13), (10, 13), (11, 3), (0, 64), (11, 3), (0, 64), (11, 3), (0, 64), (11, 3)]
def cH_54 (v : Int32) : xa_H := (cS_22, 902, cI_35 v, cR_41)
def cI_36 (v : Int32) : Nat → Nat → Int32 := va_up (cI_35 v) 22 (fun _ => 0)
def cR_42 : Nat → Nat → Option Nat := va_up cR_41 22 (fun _ => none)
def cS_23 : List (Nat × Nat) := [(17, 7), (14, 6), (13, 7), (0, 192), (0, 192), (0, 192), (12, 10), (2, 4), (3, 4), (0, 16), (1, 16), (10, 13), (10, 13), (10, 13), (10, 13), (11, 3), (0, 64), (11, 3), (0, 64), (11, 3), (0, 64), (11, 3), (0, 64)]
def cH_55 (v : Int32) : xa_H := (cS_23, 966, cI_36 v, cR_42)
def cR_43 : Nat → Nat → Option Nat := xa_u cR_42 21 0 (some 22)
def cH_56 (v : Int32) : xa_H := (cS_23, 966, cI_36 v, cR_43)
def cR_44 : Nat → Nat → Option Nat := xa_u cR_43 8 3 (some 21)
def cH_57 (v : Int32) : xa_H := (cS_23, 966, cI_36 v, cR_44)
def cR_45 : Nat → Nat → Option Nat := xa_u cR_44 0 1 (some 1)
def cH_58 (v : Int32) : xa_H := (cS_23, 966, cI_36 v, cR_45)
def cI_37 (v : Int32) : Nat → Nat → Int32 := va_up (cI_36 v) 23 (fun _ => 0)
def cR_46 : Nat → Nat → Option Nat := va_up cR_45 23 (fun _ => none)
def cS_24 : List (Nat × Nat) := [(17, 7), (14, 6), (13, 7), (0, 192), (0, 192), (0, 192), (12, 10), (2, 4), (3, 4), (0, 16), (1, 16), (10, 13), (10, 13), (10, 13), (10, 13), (11, 3), (0, 64), (11, 3), (0, 64), (11, 3), (0, 64), (11, 3), (0, 64), (16, 7)]
def cH_59 (v : Int32) : xa_H := (cS_24, 973, cI_37 v, cR_46)
def cI_38 (v : Int32) : Nat → Nat → Int32 := va_up (cI_37 v) 24 (fun _ => 0)
def cR_47 : Nat → Nat → Option Nat := va_up cR_46 24 (fun _ => none)
def cS_25 : List (Nat × Nat) := [(17, 7), (14, 6), (13, 7), (0, 192), (0, 192), (0, 192), (12, 10), (2, 4), (3, 4), (0, 16), (1, 16), (10, 13), (10, 13), (10, 13), (10, 13), (11, 3), (0, 64), (11, 3), (0, 64), (11, 3), (0, 64), (11, 3), (0, 64), (16, 7), (3, 4)]
def cH_60 (v : Int32) : xa_H := (cS_25, 977, cI_38 v, cR_47)
def cR_48 : Nat → Nat → Option Nat := xa_u cR_47 23 0 (some 24)
def cH_61 (v : Int32) : xa_H := (cS_25, 977, cI_38 v, cR_48)
def cI_39 (v : Int32) : Nat → Nat → Int32 := va_up (cI_38 v) 25 (fun _ => 0)
def cR_49 : Nat → Nat → Option Nat := va_up cR_48 25 (fun _ => none)
def cS_26 : List (Nat × Nat) := [(17, 7), (14, 6), (13, 7), (0, 192), (0, 192), (0, 192), (12, 10), (2, 4), (3, 4), (0, 16), (1, 16), (10, 13), (10, 13), (10, 13), (10, 13), (11, 3), (0, 64), (11, 3), (0, 64), (11, 3), (0, 64), (11, 3), (0, 64), (16, 7), (3, 4), (0, 4)]
def cH_62 (v : Int32) : xa_H := (cS_26, 981, cI_39 v, cR_49)
def cR_50 : Nat → Nat → Option Nat := xa_u cR_49 23 1 (some 25)
def cH_63 (v : Int32) : xa_H := (cS_26, 981, cI_39 v, cR_50)
def cR_51 : Nat → Nat → Option Nat := xa_u cR_50 0 2 (some 23)
def cH_64 (v : Int32) : xa_H := (cS_26, 981, cI_39 v, cR_51)
def cI_40 (v : Int32) : Nat → Nat → Int32 := va_up (cI_39 v) 26 (fun _ => 0)
def cR_52 : Nat → Nat → Option Nat := va_up cR_51 26 (fun _ => none)
def cS_27 : List (Nat × Nat) := [(17, 7), (14, 6), (13, 7), (0, 192), (0, 192), (0, 192), (12, 10), (2, 4), (3, 4), (0, 16), (1, 16), (10, 13), (10, 13), (10, 13), (10, 13), (11, 3), (0, 64), (11, 3), (0, 64), (11, 3), (0, 64), (11, 3), (0, 64), (16, 7), (3, 4), (0, 4), (12, 10)]
def cH_65 (v : Int32) : xa_H := (cS_27, 991, cI_40 v, cR_52)
def cR_53 : Nat → Nat → Option Nat := xa_u cR_52 0 3 (some 26)
def cH_66 (v : Int32) : xa_H := (cS_27, 991, cI_40 v, cR_53)
def cI_41 (v : Int32) : Nat → Nat → Int32 := va_up (cI_40 v) 27 (fun _ => 0)
def cR_54 : Nat → Nat → Option Nat := va_up cR_53 27 (fun _ => none)
def cS_28 : List (Nat × Nat) := [(17, 7), (14, 6), (13, 7), (0, 192), (0, 192), (0, 192), (12, 10), (2, 4), (3, 4), (0, 16), (1, 16), (10, 13), (10, 13), (10, 13), (10, 13), (11, 3), (0, 64), (11, 3), (0, 64), (11, 3), (0, 64), (11, 3), (0, 64), (16, 7), (3, 4), (0, 4), (12, 10), (15, 3)]
def cH_67 (v : Int32) : xa_H := (cS_28, 994, cI_41 v, cR_54)
def cI_42 (v : Int32) : Nat → Nat → Int32 := va_up (cI_41 v) 28 (fun _ => 0)
def cR_55 : Nat → Nat → Option Nat := va_up cR_54 28 (fun _ => none)
def cS_29 : List (Nat × Nat) := [(17, 7), (14, 6), (13, 7), (0, 192), (0, 192), (0, 192), (12, 10), (2, 4), (3, 4), (0, 16), (1, 16), (10, 13), (10, 13), (10, 13), (10, 13), (11, 3), (0, 64), (11, 3), (0, 64), (11, 3), (0, 64), (11, 3), (0, 64), (16, 7), (3, 4), (0, 4), (12, 10), (15, 3), (1, 65)]
def cH_68 (v : Int32) : xa_H := (cS_29, 1059, cI_42 v, cR_55)
def cR_56 : Nat → Nat → Option Nat := xa_u cR_55 27 0 (some 28)
def cH_69 (v : Int32) : xa_H := (cS_29, 1059, cI_42 v, cR_56)
def cR_57 : Nat → Nat → Option Nat := xa_u cR_56 0 4 (some 27)
def cH_70 (v : Int32) : xa_H := (cS_29, 1059, cI_42 v, cR_57)
set_option maxRecDepth 100000 in
theorem K_1 {X : Nat × (Nat → Int32)} (v : Int32) : Ev X 1 26 0 [.ref 6] [] (cH_11 v) (none, cH_11 v) := by
  refine Ev.b (pc' := 4) (L' := [.ref 6]) (st' := []) (h' := cH_11 v) 2 (fun n => rfl) ?_
  exact Ev.r 1 (fun n => rfl)
set_option maxRecDepth 100000 in
theorem K_2 {X : Nat × (Nat → Int32)} (v : Int32) : Ev X 2 37 0 [.ref 2] [] (cH_4 v) (none, cH_16 v) := by
  refine Ev.b (pc' := 4) (L' := [.ref 2]) (st' := []) (h' := cH_4 v) 2 (fun n => rfl) ?_
  refine Ev.g (c := 3 < 1000 ∧ ¬ (192 : Int32) < 0 ∧ (192 : Int32).toNatClampNeg ≤ 1000) (p1 := 10) (L1 := [.ref 2]) (s1 := [.ref 3, .ref 2]) (h1 := cH_5 v) 3 (fun n => rfl) (by decide) ?_
  refine Ev.b (pc' := 13) (L' := [.ref 2]) (st' := []) (h' := cH_6 v) 1 (fun n => rfl) ?_
  refine Ev.g (c := 4 < 1000 ∧ ¬ (192 : Int32) < 0 ∧ (192 : Int32).toNatClampNeg ≤ 1000) (p1 := 19) (L1 := [.ref 2]) (s1 := [.ref 4, .ref 2]) (h1 := cH_7 v) 3 (fun n => rfl) (by decide) ?_
  refine Ev.b (pc' := 22) (L' := [.ref 2]) (st' := []) (h' := cH_8 v) 1 (fun n => rfl) ?_
  refine Ev.g (c := 5 < 1000 ∧ ¬ (192 : Int32) < 0 ∧ (192 : Int32).toNatClampNeg ≤ 1000) (p1 := 28) (L1 := [.ref 2]) (s1 := [.ref 5, .ref 2]) (h1 := cH_9 v) 3 (fun n => rfl) (by decide) ?_
  refine Ev.b (pc' := 31) (L' := [.ref 2]) (st' := []) (h' := cH_10 v) 1 (fun n => rfl) ?_
  refine Ev.b (pc' := 35) (L' := [.ref 2]) (st' := [.ref 6, .ref 2]) (h' := cH_11 v) 2 (fun n => rfl) ?_
  refine Ev.c (a := 26) (A := [.ref 6]) (h1 := cH_11 v) (pc' := 39) (L' := [.ref 2]) (rest := [.ref 6, .ref 2]) (r1 := none) (h2 := cH_11 v) 2 (fun n => rfl) (Ev.up (by decide) (K_1 v)) ?_
  refine Ev.b (pc' := 42) (L' := [.ref 2]) (st' := []) (h' := cH_12 v) 1 (fun n => rfl) ?_
  refine Ev.b (pc' := 47) (L' := [.ref 2]) (st' := []) (h' := cH_13 v) 3 (fun n => rfl) ?_
  refine Ev.b (pc' := 52) (L' := [.ref 2]) (st' := []) (h' := cH_14 v) 3 (fun n => rfl) ?_
  refine Ev.c (a := 5) (A := [.ref 3, .int 15, .retAddr 0, .retAddr 0]) (h1 := cH_14 v) (pc' := 61) (L' := [.ref 2]) (rest := []) (r1 := none) (h2 := cH_15 v) 4 (fun n => rfl) (Ev.up (by decide) (E_fill 3 192 rfl (by decide) (by decide))) ?_
  refine Ev.c (a := 5) (A := [.ref 4, .int 4, .retAddr 0, .retAddr 0]) (h1 := cH_15 v) (pc' := 69) (L' := [.ref 2]) (rest := []) (r1 := none) (h2 := cH_16 v) 4 (fun n => rfl) (Ev.up (by decide) (E_fill 4 192 rfl (by decide) (by decide))) ?_
  exact Ev.r 1 (fun n => rfl)
set_option maxRecDepth 100000 in
theorem K_3 {X : Nat × (Nat → Int32)} (v : Int32) : Ev X 1 11 0 [.ref 11] [] (cH_26 v) (none, cH_28 v) := by
  refine Ev.b (pc' := 4) (L' := [.ref 11]) (st' := []) (h' := cH_26 v) 2 (fun n => rfl) ?_
  refine Ev.b (pc' := 9) (L' := [.ref 11]) (st' := []) (h' := cH_27 v) 3 (fun n => rfl) ?_
  refine Ev.b (pc' := 14) (L' := [.ref 11]) (st' := []) (h' := cH_28 v) 3 (fun n => rfl) ?_
  exact Ev.r 1 (fun n => rfl)
set_option maxRecDepth 100000 in
theorem K_4 {X : Nat × (Nat → Int32)} (v : Int32) : Ev X 1 11 0 [.ref 12] [] (cH_30 v) (none, cH_32 v) := by
  refine Ev.b (pc' := 4) (L' := [.ref 12]) (st' := []) (h' := cH_30 v) 2 (fun n => rfl) ?_
  refine Ev.b (pc' := 9) (L' := [.ref 12]) (st' := []) (h' := cH_31 v) 3 (fun n => rfl) ?_
  refine Ev.b (pc' := 14) (L' := [.ref 12]) (st' := []) (h' := cH_32 v) 3 (fun n => rfl) ?_
  exact Ev.r 1 (fun n => rfl)
set_option maxRecDepth 100000 in
theorem K_5 {X : Nat × (Nat → Int32)} (v : Int32) : Ev X 1 11 0 [.ref 13] [] (cH_34 v) (none, cH_36 v) := by
  refine Ev.b (pc' := 4) (L' := [.ref 13]) (st' := []) (h' := cH_34 v) 2 (fun n => rfl) ?_
  refine Ev.b (pc' := 9) (L' := [.ref 13]) (st' := []) (h' := cH_35 v) 3 (fun n => rfl) ?_
  refine Ev.b (pc' := 14) (L' := [.ref 13]) (st' := []) (h' := cH_36 v) 3 (fun n => rfl) ?_
  exact Ev.r 1 (fun n => rfl)
set_option maxRecDepth 100000 in
theorem K_6 {X : Nat × (Nat → Int32)} (v : Int32) : Ev X 1 11 0 [.ref 14] [] (cH_38 v) (none, cH_40 v) := by
  refine Ev.b (pc' := 4) (L' := [.ref 14]) (st' := []) (h' := cH_38 v) 2 (fun n => rfl) ?_
  refine Ev.b (pc' := 9) (L' := [.ref 14]) (st' := []) (h' := cH_39 v) 3 (fun n => rfl) ?_
  refine Ev.b (pc' := 14) (L' := [.ref 14]) (st' := []) (h' := cH_40 v) 3 (fun n => rfl) ?_
  exact Ev.r 1 (fun n => rfl)
set_option maxRecDepth 100000 in
theorem K_7 {X : Nat × (Nat → Int32)} (v : Int32) : Ev X 1 23 0 [.ref 15] [] (cH_42 v) (none, cH_44 v) := by
  refine Ev.b (pc' := 4) (L' := [.ref 15]) (st' := []) (h' := cH_42 v) 2 (fun n => rfl) ?_
  refine Ev.g (c := 16 < 1000 ∧ ¬ (64 : Int32) < 0 ∧ (64 : Int32).toNatClampNeg ≤ 1000) (p1 := 9) (L1 := [.ref 15]) (s1 := [.ref 16, .ref 15]) (h1 := cH_43 v) 3 (fun n => rfl) (by decide) ?_
  refine Ev.b (pc' := 12) (L' := [.ref 15]) (st' := []) (h' := cH_44 v) 1 (fun n => rfl) ?_
  exact Ev.r 1 (fun n => rfl)
set_option maxRecDepth 100000 in
theorem K_8 {X : Nat × (Nat → Int32)} (v : Int32) : Ev X 1 23 0 [.ref 17] [] (cH_46 v) (none, cH_48 v) := by
  refine Ev.b (pc' := 4) (L' := [.ref 17]) (st' := []) (h' := cH_46 v) 2 (fun n => rfl) ?_
  refine Ev.g (c := 18 < 1000 ∧ ¬ (64 : Int32) < 0 ∧ (64 : Int32).toNatClampNeg ≤ 1000) (p1 := 9) (L1 := [.ref 17]) (s1 := [.ref 18, .ref 17]) (h1 := cH_47 v) 3 (fun n => rfl) (by decide) ?_
  refine Ev.b (pc' := 12) (L' := [.ref 17]) (st' := []) (h' := cH_48 v) 1 (fun n => rfl) ?_
  exact Ev.r 1 (fun n => rfl)
set_option maxRecDepth 100000 in
theorem K_9 {X : Nat × (Nat → Int32)} (v : Int32) : Ev X 1 23 0 [.ref 19] [] (cH_50 v) (none, cH_52 v) := by
  refine Ev.b (pc' := 4) (L' := [.ref 19]) (st' := []) (h' := cH_50 v) 2 (fun n => rfl) ?_
  refine Ev.g (c := 20 < 1000 ∧ ¬ (64 : Int32) < 0 ∧ (64 : Int32).toNatClampNeg ≤ 1000) (p1 := 9) (L1 := [.ref 19]) (s1 := [.ref 20, .ref 19]) (h1 := cH_51 v) 3 (fun n => rfl) (by decide) ?_
  refine Ev.b (pc' := 12) (L' := [.ref 19]) (st' := []) (h' := cH_52 v) 1 (fun n => rfl) ?_
  exact Ev.r 1 (fun n => rfl)
set_option maxRecDepth 100000 in
theorem K_10 {X : Nat × (Nat → Int32)} (v : Int32) : Ev X 1 23 0 [.ref 21] [] (cH_54 v) (none, cH_56 v) := by
  refine Ev.b (pc' := 4) (L' := [.ref 21]) (st' := []) (h' := cH_54 v) 2 (fun n => rfl) ?_
  refine Ev.g (c := 22 < 1000 ∧ ¬ (64 : Int32) < 0 ∧ (64 : Int32).toNatClampNeg ≤ 1000) (p1 := 9) (L1 := [.ref 21]) (s1 := [.ref 22, .ref 21]) (h1 := cH_55 v) 3 (fun n => rfl) (by decide) ?_
  refine Ev.b (pc' := 12) (L' := [.ref 21]) (st' := []) (h' := cH_56 v) 1 (fun n => rfl) ?_
  exact Ev.r 1 (fun n => rfl)
set_option maxRecDepth 100000 in
theorem K_11 {X : Nat × (Nat → Int32)} (v : Int32) : Ev X 3 49 0 [.ref 1, .retAddr 0] [] (cH_3 v) (none, cH_57 v) := by
  refine Ev.b (pc' := 4) (L' := [.ref 1, .retAddr 0]) (st' := []) (h' := cH_3 v) 2 (fun n => rfl) ?_
  refine Ev.b (pc' := 8) (L' := [.ref 1, .retAddr 0]) (st' := [.ref 2, .ref 1]) (h' := cH_4 v) 2 (fun n => rfl) ?_
  refine Ev.c (a := 37) (A := [.ref 2]) (h1 := cH_4 v) (pc' := 12) (L' := [.ref 1, .retAddr 0]) (rest := [.ref 2, .ref 1]) (r1 := none) (h2 := cH_16 v) 2 (fun n => rfl) (Ev.up (by decide) (K_2 v)) ?_
  refine Ev.b (pc' := 15) (L' := [.ref 1, .retAddr 0]) (st' := []) (h' := cH_17 v) 1 (fun n => rfl) ?_
  refine Ev.g (c := 7 < 1000 ∧ ¬ (4 : Int32) < 0 ∧ (4 : Int32).toNatClampNeg ≤ 1000) (p1 := 20) (L1 := [.ref 1, .retAddr 0]) (s1 := [.ref 7, .ref 1]) (h1 := cH_18 v) 3 (fun n => rfl) (by decide) ?_
  refine Ev.b (pc' := 23) (L' := [.ref 1, .retAddr 0]) (st' := []) (h' := cH_19 v) 1 (fun n => rfl) ?_
  refine Ev.g (c := 8 < 1000 ∧ ¬ (4 : Int32) < 0 ∧ (4 : Int32).toNatClampNeg ≤ 1000) (p1 := 28) (L1 := [.ref 1, .retAddr 0]) (s1 := [.ref 8, .ref 1]) (h1 := cH_20 v) 3 (fun n => rfl) (by decide) ?_
  refine Ev.b (pc' := 31) (L' := [.ref 1, .retAddr 0]) (st' := []) (h' := cH_21 v) 1 (fun n => rfl) ?_
  refine Ev.g (c := 9 < 1000 ∧ ¬ (16 : Int32) < 0 ∧ (16 : Int32).toNatClampNeg ≤ 1000) (p1 := 36) (L1 := [.ref 1, .retAddr 0]) (s1 := [.ref 9, .ref 1]) (h1 := cH_22 v) 3 (fun n => rfl) (by decide) ?_
  refine Ev.b (pc' := 39) (L' := [.ref 1, .retAddr 0]) (st' := []) (h' := cH_23 v) 1 (fun n => rfl) ?_
  refine Ev.g (c := 10 < 1000 ∧ ¬ (16 : Int32) < 0 ∧ (16 : Int32).toNatClampNeg ≤ 1000) (p1 := 44) (L1 := [.ref 1, .retAddr 0]) (s1 := [.ref 10, .ref 1]) (h1 := cH_24 v) 3 (fun n => rfl) (by decide) ?_
  refine Ev.b (pc' := 47) (L' := [.ref 1, .retAddr 0]) (st' := []) (h' := cH_25 v) 1 (fun n => rfl) ?_
  refine Ev.f (c := (4 : Int32) ≤ (0 : Int32)) (p1 := 73) (L1 := [.ref 1, .int 0]) (s1 := []) (h1 := cH_25 v) (p2 := 54) (L2 := [.ref 1, .int 0]) (s2 := []) (h2 := cH_25 v) 5 (fun n => rfl) (by decide) ?_
  refine Ev.b (pc' := 62) (L' := [.ref 1, .int 0]) (st' := [.ref 11, .int 0, .ref 7]) (h' := cH_26 v) 4 (fun n => rfl) ?_
  refine Ev.c (a := 11) (A := [.ref 11]) (h1 := cH_26 v) (pc' := 66) (L' := [.ref 1, .int 0]) (rest := [.ref 11, .int 0, .ref 7]) (r1 := none) (h2 := cH_28 v) 2 (fun n => rfl) (Ev.up (by decide) (K_3 v)) ?_
  refine Ev.g (c := (2 ≤ 2 ∧ 2 < xo_n) ∧ xa_in (0 : Int32) 4 ∧ 10 = 10 + xo_c 2) (p1 := 67) (L1 := [.ref 1, .int 0]) (s1 := []) (h1 := cH_29 v) 1 (fun n => rfl) (by decide) ?_
  refine Ev.b (pc' := 70) (L' := [.ref 1, .int 1]) (st' := []) (h' := cH_29 v) 1 (fun n => rfl) ?_
  refine Ev.f (c := (4 : Int32) ≤ (1 : Int32)) (p1 := 73) (L1 := [.ref 1, .int 1]) (s1 := []) (h1 := cH_29 v) (p2 := 54) (L2 := [.ref 1, .int 1]) (s2 := []) (h2 := cH_29 v) 4 (fun n => rfl) (by decide) ?_
  refine Ev.b (pc' := 62) (L' := [.ref 1, .int 1]) (st' := [.ref 12, .int 1, .ref 7]) (h' := cH_30 v) 4 (fun n => rfl) ?_
  refine Ev.c (a := 11) (A := [.ref 12]) (h1 := cH_30 v) (pc' := 66) (L' := [.ref 1, .int 1]) (rest := [.ref 12, .int 1, .ref 7]) (r1 := none) (h2 := cH_32 v) 2 (fun n => rfl) (Ev.up (by decide) (K_4 v)) ?_
  refine Ev.g (c := (2 ≤ 2 ∧ 2 < xo_n) ∧ xa_in (1 : Int32) 4 ∧ 10 = 10 + xo_c 2) (p1 := 67) (L1 := [.ref 1, .int 1]) (s1 := []) (h1 := cH_33 v) 1 (fun n => rfl) (by decide) ?_
  refine Ev.b (pc' := 70) (L' := [.ref 1, .int 2]) (st' := []) (h' := cH_33 v) 1 (fun n => rfl) ?_
  refine Ev.f (c := (4 : Int32) ≤ (2 : Int32)) (p1 := 73) (L1 := [.ref 1, .int 2]) (s1 := []) (h1 := cH_33 v) (p2 := 54) (L2 := [.ref 1, .int 2]) (s2 := []) (h2 := cH_33 v) 4 (fun n => rfl) (by decide) ?_
  refine Ev.b (pc' := 62) (L' := [.ref 1, .int 2]) (st' := [.ref 13, .int 2, .ref 7]) (h' := cH_34 v) 4 (fun n => rfl) ?_
  refine Ev.c (a := 11) (A := [.ref 13]) (h1 := cH_34 v) (pc' := 66) (L' := [.ref 1, .int 2]) (rest := [.ref 13, .int 2, .ref 7]) (r1 := none) (h2 := cH_36 v) 2 (fun n => rfl) (Ev.up (by decide) (K_5 v)) ?_
  refine Ev.g (c := (2 ≤ 2 ∧ 2 < xo_n) ∧ xa_in (2 : Int32) 4 ∧ 10 = 10 + xo_c 2) (p1 := 67) (L1 := [.ref 1, .int 2]) (s1 := []) (h1 := cH_37 v) 1 (fun n => rfl) (by decide) ?_
  refine Ev.b (pc' := 70) (L' := [.ref 1, .int 3]) (st' := []) (h' := cH_37 v) 1 (fun n => rfl) ?_
  refine Ev.f (c := (4 : Int32) ≤ (3 : Int32)) (p1 := 73) (L1 := [.ref 1, .int 3]) (s1 := []) (h1 := cH_37 v) (p2 := 54) (L2 := [.ref 1, .int 3]) (s2 := []) (h2 := cH_37 v) 4 (fun n => rfl) (by decide) ?_
  refine Ev.b (pc' := 62) (L' := [.ref 1, .int 3]) (st' := [.ref 14, .int 3, .ref 7]) (h' := cH_38 v) 4 (fun n => rfl) ?_
  refine Ev.c (a := 11) (A := [.ref 14]) (h1 := cH_38 v) (pc' := 66) (L' := [.ref 1, .int 3]) (rest := [.ref 14, .int 3, .ref 7]) (r1 := none) (h2 := cH_40 v) 2 (fun n => rfl) (Ev.up (by decide) (K_6 v)) ?_
  refine Ev.g (c := (2 ≤ 2 ∧ 2 < xo_n) ∧ xa_in (3 : Int32) 4 ∧ 10 = 10 + xo_c 2) (p1 := 67) (L1 := [.ref 1, .int 3]) (s1 := []) (h1 := cH_41 v) 1 (fun n => rfl) (by decide) ?_
  refine Ev.b (pc' := 70) (L' := [.ref 1, .int 4]) (st' := []) (h' := cH_41 v) 1 (fun n => rfl) ?_
  refine Ev.t (c := (4 : Int32) ≤ (4 : Int32)) (p1 := 73) (L1 := [.ref 1, .int 4]) (s1 := []) (h1 := cH_41 v) (p2 := 54) (L2 := [.ref 1, .int 4]) (s2 := []) (h2 := cH_41 v) 4 (fun n => rfl) (by decide) ?_
  refine Ev.f (c := (4 : Int32) ≤ (0 : Int32)) (p1 := 99) (L1 := [.ref 1, .int 0]) (s1 := []) (h1 := cH_41 v) (p2 := 80) (L2 := [.ref 1, .int 0]) (s2 := []) (h2 := cH_41 v) 5 (fun n => rfl) (by decide) ?_
  refine Ev.b (pc' := 88) (L' := [.ref 1, .int 0]) (st' := [.ref 15, .int 0, .ref 8]) (h' := cH_42 v) 4 (fun n => rfl) ?_
  refine Ev.c (a := 23) (A := [.ref 15]) (h1 := cH_42 v) (pc' := 92) (L' := [.ref 1, .int 0]) (rest := [.ref 15, .int 0, .ref 8]) (r1 := none) (h2 := cH_44 v) 2 (fun n => rfl) (Ev.up (by decide) (K_7 v)) ?_
  refine Ev.g (c := (2 ≤ 3 ∧ 3 < xo_n) ∧ xa_in (0 : Int32) 4 ∧ 11 = 10 + xo_c 3) (p1 := 93) (L1 := [.ref 1, .int 0]) (s1 := []) (h1 := cH_45 v) 1 (fun n => rfl) (by decide) ?_
  refine Ev.b (pc' := 96) (L' := [.ref 1, .int 1]) (st' := []) (h' := cH_45 v) 1 (fun n => rfl) ?_
  refine Ev.f (c := (4 : Int32) ≤ (1 : Int32)) (p1 := 99) (L1 := [.ref 1, .int 1]) (s1 := []) (h1 := cH_45 v) (p2 := 80) (L2 := [.ref 1, .int 1]) (s2 := []) (h2 := cH_45 v) 4 (fun n => rfl) (by decide) ?_
  refine Ev.b (pc' := 88) (L' := [.ref 1, .int 1]) (st' := [.ref 17, .int 1, .ref 8]) (h' := cH_46 v) 4 (fun n => rfl) ?_
  refine Ev.c (a := 23) (A := [.ref 17]) (h1 := cH_46 v) (pc' := 92) (L' := [.ref 1, .int 1]) (rest := [.ref 17, .int 1, .ref 8]) (r1 := none) (h2 := cH_48 v) 2 (fun n => rfl) (Ev.up (by decide) (K_8 v)) ?_
  refine Ev.g (c := (2 ≤ 3 ∧ 3 < xo_n) ∧ xa_in (1 : Int32) 4 ∧ 11 = 10 + xo_c 3) (p1 := 93) (L1 := [.ref 1, .int 1]) (s1 := []) (h1 := cH_49 v) 1 (fun n => rfl) (by decide) ?_
  refine Ev.b (pc' := 96) (L' := [.ref 1, .int 2]) (st' := []) (h' := cH_49 v) 1 (fun n => rfl) ?_
  refine Ev.f (c := (4 : Int32) ≤ (2 : Int32)) (p1 := 99) (L1 := [.ref 1, .int 2]) (s1 := []) (h1 := cH_49 v) (p2 := 80) (L2 := [.ref 1, .int 2]) (s2 := []) (h2 := cH_49 v) 4 (fun n => rfl) (by decide) ?_
  refine Ev.b (pc' := 88) (L' := [.ref 1, .int 2]) (st' := [.ref 19, .int 2, .ref 8]) (h' := cH_50 v) 4 (fun n => rfl) ?_
  refine Ev.c (a := 23) (A := [.ref 19]) (h1 := cH_50 v) (pc' := 92) (L' := [.ref 1, .int 2]) (rest := [.ref 19, .int 2, .ref 8]) (r1 := none) (h2 := cH_52 v) 2 (fun n => rfl) (Ev.up (by decide) (K_9 v)) ?_
  refine Ev.g (c := (2 ≤ 3 ∧ 3 < xo_n) ∧ xa_in (2 : Int32) 4 ∧ 11 = 10 + xo_c 3) (p1 := 93) (L1 := [.ref 1, .int 2]) (s1 := []) (h1 := cH_53 v) 1 (fun n => rfl) (by decide) ?_
  refine Ev.b (pc' := 96) (L' := [.ref 1, .int 3]) (st' := []) (h' := cH_53 v) 1 (fun n => rfl) ?_
  refine Ev.f (c := (4 : Int32) ≤ (3 : Int32)) (p1 := 99) (L1 := [.ref 1, .int 3]) (s1 := []) (h1 := cH_53 v) (p2 := 80) (L2 := [.ref 1, .int 3]) (s2 := []) (h2 := cH_53 v) 4 (fun n => rfl) (by decide) ?_
  refine Ev.b (pc' := 88) (L' := [.ref 1, .int 3]) (st' := [.ref 21, .int 3, .ref 8]) (h' := cH_54 v) 4 (fun n => rfl) ?_
  refine Ev.c (a := 23) (A := [.ref 21]) (h1 := cH_54 v) (pc' := 92) (L' := [.ref 1, .int 3]) (rest := [.ref 21, .int 3, .ref 8]) (r1 := none) (h2 := cH_56 v) 2 (fun n => rfl) (Ev.up (by decide) (K_10 v)) ?_
  refine Ev.g (c := (2 ≤ 3 ∧ 3 < xo_n) ∧ xa_in (3 : Int32) 4 ∧ 11 = 10 + xo_c 3) (p1 := 93) (L1 := [.ref 1, .int 3]) (s1 := []) (h1 := cH_57 v) 1 (fun n => rfl) (by decide) ?_
  refine Ev.b (pc' := 96) (L' := [.ref 1, .int 4]) (st' := []) (h' := cH_57 v) 1 (fun n => rfl) ?_
  refine Ev.t (c := (4 : Int32) ≤ (4 : Int32)) (p1 := 99) (L1 := [.ref 1, .int 4]) (s1 := []) (h1 := cH_57 v) (p2 := 80) (L2 := [.ref 1, .int 4]) (s2 := []) (h2 := cH_57 v) 4 (fun n => rfl) (by decide) ?_
  exact Ev.r 1 (fun n => rfl)
set_option maxRecDepth 100000 in
theorem K_12 {X : Nat × (Nat → Int32)} (v : Int32) : Ev X 1 70 0 [.ref 23] [] (cH_59 v) (none, cH_63 v) := by
  refine Ev.b (pc' := 4) (L' := [.ref 23]) (st' := []) (h' := cH_59 v) 2 (fun n => rfl) ?_
  refine Ev.g (c := 24 < 1000 ∧ ¬ (4 : Int32) < 0 ∧ (4 : Int32).toNatClampNeg ≤ 1000) (p1 := 9) (L1 := [.ref 23]) (s1 := [.ref 24, .ref 23]) (h1 := cH_60 v) 3 (fun n => rfl) (by decide) ?_
  refine Ev.b (pc' := 12) (L' := [.ref 23]) (st' := []) (h' := cH_61 v) 1 (fun n => rfl) ?_
  refine Ev.g (c := 25 < 1000 ∧ ¬ (4 : Int32) < 0 ∧ (4 : Int32).toNatClampNeg ≤ 1000) (p1 := 16) (L1 := [.ref 23]) (s1 := [.ref 25, .ref 23]) (h1 := cH_62 v) 3 (fun n => rfl) (by decide) ?_
  refine Ev.b (pc' := 19) (L' := [.ref 23]) (st' := []) (h' := cH_63 v) 1 (fun n => rfl) ?_
  exact Ev.r 1 (fun n => rfl)
set_option maxRecDepth 100000 in
theorem K_13 {X : Nat × (Nat → Int32)} (v : Int32) : Ev X 1 26 0 [.ref 26] [] (cH_65 v) (none, cH_65 v) := by
  refine Ev.b (pc' := 4) (L' := [.ref 26]) (st' := []) (h' := cH_65 v) 2 (fun n => rfl) ?_
  exact Ev.r 1 (fun n => rfl)
set_option maxRecDepth 100000 in
theorem K_14 {X : Nat × (Nat → Int32)} (v : Int32) : Ev X 1 57 0 [.ref 27] [] (cH_67 v) (none, cH_69 v) := by
  refine Ev.b (pc' := 4) (L' := [.ref 27]) (st' := []) (h' := cH_67 v) 2 (fun n => rfl) ?_
  refine Ev.g (c := 28 < 1000 ∧ ¬ (65 : Int32) < 0 ∧ (65 : Int32).toNatClampNeg ≤ 1000) (p1 := 9) (L1 := [.ref 27]) (s1 := [.ref 28, .ref 27]) (h1 := cH_68 v) 3 (fun n => rfl) (by decide) ?_
  refine Ev.b (pc' := 12) (L' := [.ref 27]) (st' := []) (h' := cH_69 v) 1 (fun n => rfl) ?_
  exact Ev.r 1 (fun n => rfl)
set_option maxRecDepth 100000 in
theorem K_15 {X : Nat × (Nat → Int32)} (v : Int32) : Ev X 4 97 0 [.ref 0, .int v] [] (cH_1 v) (none, cH_70 v) := by
  refine Ev.b (pc' := 4) (L' := [.ref 0, .int v]) (st' := []) (h' := cH_1 v) 2 (fun n => rfl) ?_
  refine Ev.c (a := 1) (A := [.int 200, .int v]) (h1 := cH_1 v) (pc' := 14) (L' := [.ref 0, .int v]) (rest := [.int 16, .ref 0]) (r1 := xI (xmn 200 v)) (h2 := cH_1 v) 5 (fun n => rfl) (Ev.up (by decide) (E_min _ _)) ?_
  show Ev X _ 97 14 [.ref 0, .int v] [.int (xmn 200 v), .int 16, .ref 0] (cH_1 v) _
  refine Ev.c (a := 2) (A := [.int 16, .int (xmn 200 v)]) (h1 := cH_1 v) (pc' := 17) (L' := [.ref 0, .int v]) (rest := [.ref 0]) (r1 := xI (xmx 16 (xmn 200 v))) (h2 := cH_1 v) 1 (fun n => rfl) (Ev.up (by decide) (E_max _ _)) ?_
  show Ev X _ 97 17 [.ref 0, .int v] [.int (xmx 16 (xmn 200 v)), .ref 0] (cH_1 v) _
  refine Ev.b (pc' := 20) (L' := [.ref 0, .int v]) (st' := []) (h' := cH_2 v) 1 (fun n => rfl) ?_
  refine Ev.b (pc' := 24) (L' := [.ref 0, .int v]) (st' := [.ref 1, .ref 0]) (h' := cH_3 v) 2 (fun n => rfl) ?_
  refine Ev.c (a := 49) (A := [.ref 1, .retAddr 0]) (h1 := cH_3 v) (pc' := 28) (L' := [.ref 0, .int v]) (rest := [.ref 1, .ref 0]) (r1 := none) (h2 := cH_57 v) 2 (fun n => rfl) (Ev.up (by decide) (K_11 v)) ?_
  refine Ev.b (pc' := 31) (L' := [.ref 0, .int v]) (st' := []) (h' := cH_58 v) 1 (fun n => rfl) ?_
  refine Ev.b (pc' := 35) (L' := [.ref 0, .int v]) (st' := [.ref 23, .ref 0]) (h' := cH_59 v) 2 (fun n => rfl) ?_
  refine Ev.c (a := 70) (A := [.ref 23]) (h1 := cH_59 v) (pc' := 39) (L' := [.ref 0, .int v]) (rest := [.ref 23, .ref 0]) (r1 := none) (h2 := cH_63 v) 2 (fun n => rfl) (Ev.up (by decide) (K_12 v)) ?_
  refine Ev.b (pc' := 42) (L' := [.ref 0, .int v]) (st' := []) (h' := cH_64 v) 1 (fun n => rfl) ?_
  refine Ev.b (pc' := 46) (L' := [.ref 0, .int v]) (st' := [.ref 26, .ref 0]) (h' := cH_65 v) 2 (fun n => rfl) ?_
  refine Ev.c (a := 26) (A := [.ref 26]) (h1 := cH_65 v) (pc' := 50) (L' := [.ref 0, .int v]) (rest := [.ref 26, .ref 0]) (r1 := none) (h2 := cH_65 v) 2 (fun n => rfl) (Ev.up (by decide) (K_13 v)) ?_
  refine Ev.b (pc' := 53) (L' := [.ref 0, .int v]) (st' := []) (h' := cH_66 v) 1 (fun n => rfl) ?_
  refine Ev.b (pc' := 57) (L' := [.ref 0, .int v]) (st' := [.ref 27, .ref 0]) (h' := cH_67 v) 2 (fun n => rfl) ?_
  refine Ev.c (a := 57) (A := [.ref 27]) (h1 := cH_67 v) (pc' := 61) (L' := [.ref 0, .int v]) (rest := [.ref 27, .ref 0]) (r1 := none) (h2 := cH_69 v) 2 (fun n => rfl) (Ev.up (by decide) (K_14 v)) ?_
  refine Ev.b (pc' := 64) (L' := [.ref 0, .int v]) (st' := []) (h' := cH_70 v) 1 (fun n => rfl) ?_
  exact Ev.r 1 (fun n => rfl)
