/-- 113: SceneCycleModel.blank()V -/
def GL_113_0 : Nat → St → Int32 → Option (Unit × St)
  | 0, _, _ => none
  | n + 1, S, y1 =>
    (if 192 ≤ y1 then
      some ((), (xa_u (xa_u S.1 29 13 (-1)) 29 14 (-1), S.2.1, S.2.2))
    else
      (if xa_in y1 192 then
        GL_113_0 n (xa_u (xa_u S.1 30 ((y1).toNatClampNeg) 15) 31 ((y1).toNatClampNeg) 4, S.2.1, S.2.2) (y1 + 1)
      else none)
    )
theorem B_113_1 {X : Nat × (Nat → Int32)} {d : Nat} (n : Nat) (y1 : Int32) (S : St) : ex X d 113 2 [.ref 29, .int y1] [] (hh S) (n + 3) = if 192 ≤ y1 then ex X d 113 30 [.ref 29, .int y1] [] (hh S) n else ex X d 113 9 [.ref 29, .int y1] [] (hh S) n := rfl
theorem B_113_2 {X : Nat × (Nat → Int32)} {d : Nat} (n : Nat) (y1 : Int32) (S : St) : ex X d 113 30 [.ref 29, .int y1] [] (hh S) (n + 3) = if (kd 29).1 = 10 + 8 ∧ (xf_k 8 13 = 0 ∨ (xf_k 8 13 = 1 ∧ (((-1) : Int32) = 0 ∨ ((-1) : Int32) = 1))) then ex X d 113 35 [.ref 29, .int y1] [] (hh (xa_u S.1 29 13 (-1), S.2.1, S.2.2)) n else none := rfl
theorem B_113_3 {X : Nat × (Nat → Int32)} {d : Nat} (n : Nat) (y1 : Int32) (S : St) : ex X d 113 35 [.ref 29, .int y1] [] (hh (xa_u S.1 29 13 (-1), S.2.1, S.2.2)) (n + 3) = if (kd 29).1 = 10 + 8 ∧ (xf_k 8 14 = 0 ∨ (xf_k 8 14 = 1 ∧ (((-1) : Int32) = 0 ∨ ((-1) : Int32) = 1))) then ex X d 113 40 [.ref 29, .int y1] [] (hh (xa_u (xa_u S.1 29 13 (-1)) 29 14 (-1), S.2.1, S.2.2)) n else none := rfl
theorem B_113_4 {X : Nat × (Nat → Int32)} {d : Nat} (n : Nat) (y1 : Int32) (S : St) : ex X d 113 2 [.ref 29, .int y1] [] (hh S) (n + 3) = if 192 ≤ y1 then ex X d 113 30 [.ref 29, .int y1] [] (hh S) n else ex X d 113 9 [.ref 29, .int y1] [] (hh S) n := rfl
theorem B_113_5 {X : Nat × (Nat → Int32)} {d : Nat} (n : Nat) (y1 : Int32) (S : St) : ex X d 113 9 [.ref 29, .int y1] [] (hh S) (n + 5) = if (kd 30).1 = 0 ∧ xa_in y1 (kd 30).2 then ex X d 113 17 [.ref 29, .int y1] [] (hh (xa_u S.1 30 ((y1).toNatClampNeg) 15, S.2.1, S.2.2)) n else none := rfl
theorem B_113_6 {X : Nat × (Nat → Int32)} {d : Nat} (n : Nat) (y1 : Int32) (S : St) : ex X d 113 17 [.ref 29, .int y1] [] (hh (xa_u S.1 30 ((y1).toNatClampNeg) 15, S.2.1, S.2.2)) (n + 5) = if (kd 31).1 = 0 ∧ xa_in y1 (kd 31).2 then ex X d 113 24 [.ref 29, .int y1] [] (hh (xa_u (xa_u S.1 30 ((y1).toNatClampNeg) 15) 31 ((y1).toNatClampNeg) 4, S.2.1, S.2.2)) n else none := rfl
theorem B_113_7 {X : Nat × (Nat → Int32)} {d : Nat} (n : Nat) (y1 : Int32) (S : St) : ex X d 113 24 [.ref 29, .int y1] [] (hh (xa_u (xa_u S.1 30 ((y1).toNatClampNeg) 15) 31 ((y1).toNatClampNeg) 4, S.2.1, S.2.2)) (n + 2) = ex X d 113 2 [.ref 29, .int (y1 + 1)] [] (hh (xa_u (xa_u S.1 30 ((y1).toNatClampNeg) 15) 31 ((y1).toNatClampNeg) 4, S.2.1, S.2.2)) n := rfl
set_option maxRecDepth 200000 in
theorem TL_113_0 {X : Nat × (Nat → Int32)} : ∀ (n : Nat) (S : St) (y1 : Int32) (r : Unit) (S' : St), GL_113_0 n S y1 = some (r, S') → Ev X 0 113 2 [.ref 29, .int y1] [] (hh S) (xV r, hh S') := by
  intro n
  induction n with
  | zero => intro S y1 r S' hG; simp [GL_113_0] at hG
  | succ n ih =>
    intro S y1 r S' hG
    rw [GL_113_0] at hG
    by_cases c1 : 192 ≤ y1
    · rw [if_pos c1] at hG
      refine Ev.t (c := 192 ≤ y1) (p1 := 30) (L1 := [.ref 29, .int y1]) (s1 := []) (h1 := hh S) (p2 := 9) (L2 := [.ref 29, .int y1]) (s2 := []) (h2 := hh S) 3 (fun n => B_113_1 n y1 S) c1 ?_
      refine Ev.g (c := (kd 29).1 = 10 + 8 ∧ (xf_k 8 13 = 0 ∨ (xf_k 8 13 = 1 ∧ (((-1) : Int32) = 0 ∨ ((-1) : Int32) = 1)))) (p1 := 35) (L1 := [.ref 29, .int y1]) (s1 := []) (h1 := hh (xa_u S.1 29 13 (-1), S.2.1, S.2.2)) 3 (fun n => B_113_2 n y1 S) (⟨rfl, Or.inl rfl⟩) ?_
      refine Ev.g (c := (kd 29).1 = 10 + 8 ∧ (xf_k 8 14 = 0 ∨ (xf_k 8 14 = 1 ∧ (((-1) : Int32) = 0 ∨ ((-1) : Int32) = 1)))) (p1 := 40) (L1 := [.ref 29, .int y1]) (s1 := []) (h1 := hh (xa_u (xa_u S.1 29 13 (-1)) 29 14 (-1), S.2.1, S.2.2)) 3 (fun n => B_113_3 n y1 S) (⟨rfl, Or.inl rfl⟩) ?_
      obtain ⟨e1, e2⟩ := Prod.mk.inj (Option.some.inj hG)
      subst e1
      subst e2
      exact Ev.r 1 (fun n => rfl)
    · rw [if_neg c1] at hG
      refine Ev.f (c := 192 ≤ y1) (p1 := 30) (L1 := [.ref 29, .int y1]) (s1 := []) (h1 := hh S) (p2 := 9) (L2 := [.ref 29, .int y1]) (s2 := []) (h2 := hh S) 3 (fun n => B_113_4 n y1 S) c1 ?_
      by_cases g2 : xa_in y1 192
      rotate_left
      · rw [if_neg g2] at hG; cases hG
      rw [if_pos g2] at hG
      refine Ev.g (c := (kd 30).1 = 0 ∧ xa_in y1 (kd 30).2) (p1 := 17) (L1 := [.ref 29, .int y1]) (s1 := []) (h1 := hh (xa_u S.1 30 ((y1).toNatClampNeg) 15, S.2.1, S.2.2)) 5 (fun n => B_113_5 n y1 S) (⟨rfl, g2⟩) ?_
      refine Ev.g (c := (kd 31).1 = 0 ∧ xa_in y1 (kd 31).2) (p1 := 24) (L1 := [.ref 29, .int y1]) (s1 := []) (h1 := hh (xa_u (xa_u S.1 30 ((y1).toNatClampNeg) 15) 31 ((y1).toNatClampNeg) 4, S.2.1, S.2.2)) 5 (fun n => B_113_6 n y1 S) (⟨rfl, g2⟩) ?_
      exact Ev.b (pc' := 2) (L' := [.ref 29, .int (y1 + 1)]) (st' := []) (h' := hh (xa_u (xa_u S.1 30 ((y1).toNatClampNeg) 15) 31 ((y1).toNatClampNeg) 4, S.2.1, S.2.2)) 2 (fun n => B_113_7 n y1 S) (ih (xa_u (xa_u S.1 30 ((y1).toNatClampNeg) 15) 31 ((y1).toNatClampNeg) 4, S.2.1, S.2.2) (y1 + 1) _ _ hG )
def G_113 (S : St)  : Option (Unit × St) :=
  GL_113_0 xFu S (0 : Int32)
theorem B_113_8 {X : Nat × (Nat → Int32)} {d : Nat} (n : Nat) (S : St) : ex X d 113 0 [.ref 29, .retAddr 0] [] (hh S) (n + 2) = ex X d 113 2 [.ref 29, .int 0] [] (hh S) n := rfl
set_option maxRecDepth 200000 in
theorem T_113 {X : Nat × (Nat → Int32)} (S : St)  (r : Unit) (S' : St) (hG : G_113 S  = some (r, S')) : Ev X 0 113 0 [.ref 29, .retAddr 0] [] (hh S) (xV r, hh S') := by
  unfold G_113 at hG
  exact Ev.b (pc' := 2) (L' := [.ref 29, .int 0]) (st' := []) (h' := hh S) 2 (fun n => B_113_8 n S) (TL_113_0 xFu S (0 : Int32) _ _ hG )
/-- 115: SceneCycleModel.outside(III)Z -/
def G_115 (S : St) (x0 : Int32) (x1 : Int32) (x2 : Int32) : Option (Int32 × St) :=
  (if x0 < x1 then
    some (1, S)
  else
    (if x0 ≤ x2 then
      some (0, S)
    else
      some (1, S)
    )
  )
theorem B_115_1 {X : Nat × (Nat → Int32)} {d : Nat} (n : Nat) (x0 : Int32) (x1 : Int32) (x2 : Int32) (S : St) : ex X d 115 0 [.int x0, .int x1, .int x2] [] (hh S) (n + 3) = if x0 < x1 then ex X d 115 10 [.int x0, .int x1, .int x2] [] (hh S) n else ex X d 115 5 [.int x0, .int x1, .int x2] [] (hh S) n := rfl
theorem B_115_2 {X : Nat × (Nat → Int32)} {d : Nat} (n : Nat) (x0 : Int32) (x1 : Int32) (x2 : Int32) (S : St) : ex X d 115 0 [.int x0, .int x1, .int x2] [] (hh S) (n + 3) = if x0 < x1 then ex X d 115 10 [.int x0, .int x1, .int x2] [] (hh S) n else ex X d 115 5 [.int x0, .int x1, .int x2] [] (hh S) n := rfl
theorem B_115_3 {X : Nat × (Nat → Int32)} {d : Nat} (n : Nat) (x0 : Int32) (x1 : Int32) (x2 : Int32) (S : St) : ex X d 115 5 [.int x0, .int x1, .int x2] [] (hh S) (n + 3) = if x0 ≤ x2 then ex X d 115 14 [.int x0, .int x1, .int x2] [] (hh S) n else ex X d 115 10 [.int x0, .int x1, .int x2] [] (hh S) n := rfl
theorem B_115_4 {X : Nat × (Nat → Int32)} {d : Nat} (n : Nat) (x0 : Int32) (x1 : Int32) (x2 : Int32) (S : St) : ex X d 115 5 [.int x0, .int x1, .int x2] [] (hh S) (n + 3) = if x0 ≤ x2 then ex X d 115 14 [.int x0, .int x1, .int x2] [] (hh S) n else ex X d 115 10 [.int x0, .int x1, .int x2] [] (hh S) n := rfl
set_option maxRecDepth 200000 in
theorem T_115 {X : Nat × (Nat → Int32)} (S : St) (x0 : Int32) (x1 : Int32) (x2 : Int32) (r : Int32) (S' : St) (hG : G_115 S x0 x1 x2 = some (r, S')) : Ev X 0 115 0 [.int x0, .int x1, .int x2] [] (hh S) (xI r, hh S') := by
  unfold G_115 at hG
  by_cases c1 : x0 < x1
  · rw [if_pos c1] at hG
    refine Ev.t (c := x0 < x1) (p1 := 10) (L1 := [.int x0, .int x1, .int x2]) (s1 := []) (h1 := hh S) (p2 := 5) (L2 := [.int x0, .int x1, .int x2]) (s2 := []) (h2 := hh S) 3 (fun n => B_115_1 n x0 x1 x2 S) c1 ?_
    obtain ⟨e1, e2⟩ := Prod.mk.inj (Option.some.inj hG)
    subst e1
    subst e2
    exact Ev.rg (c := (xm_z 115 = 0 ∨ (xm_z 115 = 1 ∧ ((1 : Int32) = 0 ∨ (1 : Int32) = 1)) ∨ (xm_z 115 = 2 ∧ ((1 : Int32)).toInt8.toInt32 = (1 : Int32)) ∨ (xm_z 115 = 3 ∧ ((1 : Int32)).toUInt32.toUInt16.toUInt32.toInt32 = (1 : Int32)))) 3 (fun n => rfl) (Or.inr (Or.inl ⟨rfl, by decide⟩))
  · rw [if_neg c1] at hG
    refine Ev.f (c := x0 < x1) (p1 := 10) (L1 := [.int x0, .int x1, .int x2]) (s1 := []) (h1 := hh S) (p2 := 5) (L2 := [.int x0, .int x1, .int x2]) (s2 := []) (h2 := hh S) 3 (fun n => B_115_2 n x0 x1 x2 S) c1 ?_
    by_cases c2 : x0 ≤ x2
    · rw [if_pos c2] at hG
      refine Ev.t (c := x0 ≤ x2) (p1 := 14) (L1 := [.int x0, .int x1, .int x2]) (s1 := []) (h1 := hh S) (p2 := 10) (L2 := [.int x0, .int x1, .int x2]) (s2 := []) (h2 := hh S) 3 (fun n => B_115_3 n x0 x1 x2 S) c2 ?_
      obtain ⟨e1, e2⟩ := Prod.mk.inj (Option.some.inj hG)
      subst e1
      subst e2
      exact Ev.rg (c := (xm_z 115 = 0 ∨ (xm_z 115 = 1 ∧ ((0 : Int32) = 0 ∨ (0 : Int32) = 1)) ∨ (xm_z 115 = 2 ∧ ((0 : Int32)).toInt8.toInt32 = (0 : Int32)) ∨ (xm_z 115 = 3 ∧ ((0 : Int32)).toUInt32.toUInt16.toUInt32.toInt32 = (0 : Int32)))) 2 (fun n => rfl) (Or.inr (Or.inl ⟨rfl, by decide⟩))
    · rw [if_neg c2] at hG
      refine Ev.f (c := x0 ≤ x2) (p1 := 14) (L1 := [.int x0, .int x1, .int x2]) (s1 := []) (h1 := hh S) (p2 := 10) (L2 := [.int x0, .int x1, .int x2]) (s2 := []) (h2 := hh S) 3 (fun n => B_115_4 n x0 x1 x2 S) c2 ?_
      obtain ⟨e1, e2⟩ := Prod.mk.inj (Option.some.inj hG)
      subst e1
      subst e2
      exact Ev.rg (c := (xm_z 115 = 0 ∨ (xm_z 115 = 1 ∧ ((1 : Int32) = 0 ∨ (1 : Int32) = 1)) ∨ (xm_z 115 = 2 ∧ ((1 : Int32)).toInt8.toInt32 = (1 : Int32)) ∨ (xm_z 115 = 3 ∧ ((1 : Int32)).toUInt32.toUInt16.toUInt32.toInt32 = (1 : Int32)))) 3 (fun n => rfl) (Or.inr (Or.inl ⟨rfl, by decide⟩))
/-- 114: SceneCycleModel.put(III)I -/
def GL_114_0 : Nat → St → Int32 → Int32 → Int32 → Option (Int32 × St)
  | 0, _, _, _, _ => none
  | n + 1, S, y1, y2, y4 =>
    (if y4 < 0 then
      (if xa_in y1 4 then
        some ((S.1 34 (y1).toNatClampNeg), S)
      else none)
    else
      (if xa_in y1 4 then
        (if xa_in ((64 * y1) + (S.1 34 (y1).toNatClampNeg)) 256 then
          GL_114_0 n (xa_u (xa_u S.1 33 ((((64 * y1) + (S.1 34 (y1).toNatClampNeg))).toNatClampNeg) ((y2 >>> ((8 * y4) &&& 31)) &&& 255)) 34 ((y1).toNatClampNeg) (((xa_u S.1 33 ((((64 * y1) + (S.1 34 (y1).toNatClampNeg))).toNatClampNeg) ((y2 >>> ((8 * y4) &&& 31)) &&& 255)) 34 (y1).toNatClampNeg) + 1), S.2.1, S.2.2) y1 y2 (y4 + (-1))
        else none)
      else none)
    )
theorem B_114_1 {X : Nat × (Nat → Int32)} {d : Nat} (n : Nat) (y1 : Int32) (y2 : Int32) (w3 : Value) (y4 : Int32) (S : St) : ex X d 114 47 [.ref 29, .int y1, .int y2, w3, .int y4] [] (hh S) (n + 2) = if y4 < 0 then ex X d 114 95 [.ref 29, .int y1, .int y2, w3, .int y4] [] (hh S) n else ex X d 114 52 [.ref 29, .int y1, .int y2, w3, .int y4] [] (hh S) n := rfl
theorem B_114_2 {X : Nat × (Nat → Int32)} {d : Nat} (n : Nat) (y1 : Int32) (y2 : Int32) (w3 : Value) (y4 : Int32) (S : St) : ex X d 114 95 [.ref 29, .int y1, .int y2, w3, .int y4] [] (hh S) (n + 4) = if (kd 34).1 = 0 ∧ xa_in y1 (kd 34).2 then ex X d 114 101 [.ref 29, .int y1, .int y2, w3, .int y4] [.int (S.1 34 (y1).toNatClampNeg)] (hh S) n else none := rfl
theorem B_114_3 {X : Nat × (Nat → Int32)} {d : Nat} (n : Nat) (y1 : Int32) (y2 : Int32) (w3 : Value) (y4 : Int32) (S : St) : ex X d 114 47 [.ref 29, .int y1, .int y2, w3, .int y4] [] (hh S) (n + 2) = if y4 < 0 then ex X d 114 95 [.ref 29, .int y1, .int y2, w3, .int y4] [] (hh S) n else ex X d 114 52 [.ref 29, .int y1, .int y2, w3, .int y4] [] (hh S) n := rfl
theorem B_114_4 {X : Nat × (Nat → Int32)} {d : Nat} (n : Nat) (y1 : Int32) (y2 : Int32) (w3 : Value) (y4 : Int32) (S : St) : ex X d 114 52 [.ref 29, .int y1, .int y2, w3, .int y4] [] (hh S) (n + 9) = if (kd 34).1 = 0 ∧ xa_in y1 (kd 34).2 then ex X d 114 66 [.ref 29, .int y1, .int y2, w3, .int y4] [.int (S.1 34 (y1).toNatClampNeg), .int (64 * y1), .ref 33] (hh S) n else none := rfl
theorem B_114_5 {X : Nat × (Nat → Int32)} {d : Nat} (n : Nat) (y1 : Int32) (y2 : Int32) (w3 : Value) (y4 : Int32) (S : St) : ex X d 114 66 [.ref 29, .int y1, .int y2, w3, .int y4] [.int (S.1 34 (y1).toNatClampNeg), .int (64 * y1), .ref 33] (hh S) (n + 9) = if (kd 33).1 = 0 ∧ xa_in ((64 * y1) + (S.1 34 (y1).toNatClampNeg)) (kd 33).2 then ex X d 114 79 [.ref 29, .int y1, .int y2, w3, .int y4] [] (hh (xa_u S.1 33 ((((64 * y1) + (S.1 34 (y1).toNatClampNeg))).toNatClampNeg) ((y2 >>> ((8 * y4) &&& 31)) &&& 255), S.2.1, S.2.2)) n else none := rfl
theorem B_114_6 {X : Nat × (Nat → Int32)} {d : Nat} (n : Nat) (y1 : Int32) (y2 : Int32) (w3 : Value) (y4 : Int32) (S : St) : ex X d 114 79 [.ref 29, .int y1, .int y2, w3, .int y4] [] (hh (xa_u S.1 33 ((((64 * y1) + (S.1 34 (y1).toNatClampNeg))).toNatClampNeg) ((y2 >>> ((8 * y4) &&& 31)) &&& 255), S.2.1, S.2.2)) (n + 5) = if (kd 34).1 = 0 ∧ xa_in y1 (kd 34).2 then ex X d 114 86 [.ref 29, .int y1, .int y2, w3, .int y4] [.int ((xa_u S.1 33 ((((64 * y1) + (S.1 34 (y1).toNatClampNeg))).toNatClampNeg) ((y2 >>> ((8 * y4) &&& 31)) &&& 255)) 34 (y1).toNatClampNeg), .int y1, .ref 34] (hh (xa_u S.1 33 ((((64 * y1) + (S.1 34 (y1).toNatClampNeg))).toNatClampNeg) ((y2 >>> ((8 * y4) &&& 31)) &&& 255), S.2.1, S.2.2)) n else none := rfl
theorem B_114_7 {X : Nat × (Nat → Int32)} {d : Nat} (n : Nat) (y1 : Int32) (y2 : Int32) (w3 : Value) (y4 : Int32) (S : St) : ex X d 114 86 [.ref 29, .int y1, .int y2, w3, .int y4] [.int ((xa_u S.1 33 ((((64 * y1) + (S.1 34 (y1).toNatClampNeg))).toNatClampNeg) ((y2 >>> ((8 * y4) &&& 31)) &&& 255)) 34 (y1).toNatClampNeg), .int y1, .ref 34] (hh (xa_u S.1 33 ((((64 * y1) + (S.1 34 (y1).toNatClampNeg))).toNatClampNeg) ((y2 >>> ((8 * y4) &&& 31)) &&& 255), S.2.1, S.2.2)) (n + 3) = if (kd 34).1 = 0 ∧ xa_in y1 (kd 34).2 then ex X d 114 89 [.ref 29, .int y1, .int y2, w3, .int y4] [] (hh (xa_u (xa_u S.1 33 ((((64 * y1) + (S.1 34 (y1).toNatClampNeg))).toNatClampNeg) ((y2 >>> ((8 * y4) &&& 31)) &&& 255)) 34 ((y1).toNatClampNeg) (((xa_u S.1 33 ((((64 * y1) + (S.1 34 (y1).toNatClampNeg))).toNatClampNeg) ((y2 >>> ((8 * y4) &&& 31)) &&& 255)) 34 (y1).toNatClampNeg) + 1), S.2.1, S.2.2)) n else none := rfl
theorem B_114_8 {X : Nat × (Nat → Int32)} {d : Nat} (n : Nat) (y1 : Int32) (y2 : Int32) (w3 : Value) (y4 : Int32) (S : St) : ex X d 114 89 [.ref 29, .int y1, .int y2, w3, .int y4] [] (hh (xa_u (xa_u S.1 33 ((((64 * y1) + (S.1 34 (y1).toNatClampNeg))).toNatClampNeg) ((y2 >>> ((8 * y4) &&& 31)) &&& 255)) 34 ((y1).toNatClampNeg) (((xa_u S.1 33 ((((64 * y1) + (S.1 34 (y1).toNatClampNeg))).toNatClampNeg) ((y2 >>> ((8 * y4) &&& 31)) &&& 255)) 34 (y1).toNatClampNeg) + 1), S.2.1, S.2.2)) (n + 2) = ex X d 114 47 [.ref 29, .int y1, .int y2, w3, .int (y4 + (-1))] [] (hh (xa_u (xa_u S.1 33 ((((64 * y1) + (S.1 34 (y1).toNatClampNeg))).toNatClampNeg) ((y2 >>> ((8 * y4) &&& 31)) &&& 255)) 34 ((y1).toNatClampNeg) (((xa_u S.1 33 ((((64 * y1) + (S.1 34 (y1).toNatClampNeg))).toNatClampNeg) ((y2 >>> ((8 * y4) &&& 31)) &&& 255)) 34 (y1).toNatClampNeg) + 1), S.2.1, S.2.2)) n := rfl
set_option maxRecDepth 200000 in
theorem TL_114_0 {X : Nat × (Nat → Int32)} : ∀ (n : Nat) (S : St) (y1 : Int32) (y2 : Int32) (y4 : Int32) (r : Int32) (S' : St), GL_114_0 n S y1 y2 y4 = some (r, S') → ∀ (w3 : Value), Ev X 1 114 47 [.ref 29, .int y1, .int y2, w3, .int y4] [] (hh S) (xI r, hh S') := by
  intro n
  induction n with
  | zero => intro S y1 y2 y4 r S' hG; simp [GL_114_0] at hG
  | succ n ih =>
    intro S y1 y2 y4 r S' hG w3
    rw [GL_114_0] at hG
    by_cases c1 : y4 < 0
    · rw [if_pos c1] at hG
      refine Ev.t (c := y4 < 0) (p1 := 95) (L1 := [.ref 29, .int y1, .int y2, w3, .int y4]) (s1 := []) (h1 := hh S) (p2 := 52) (L2 := [.ref 29, .int y1, .int y2, w3, .int y4]) (s2 := []) (h2 := hh S) 2 (fun n => B_114_1 n y1 y2 w3 y4 S) c1 ?_
      by_cases g2 : xa_in y1 4
      rotate_left
      · rw [if_neg g2] at hG; cases hG
      rw [if_pos g2] at hG
      refine Ev.g (c := (kd 34).1 = 0 ∧ xa_in y1 (kd 34).2) (p1 := 101) (L1 := [.ref 29, .int y1, .int y2, w3, .int y4]) (s1 := [.int (S.1 34 (y1).toNatClampNeg)]) (h1 := hh S) 4 (fun n => B_114_2 n y1 y2 w3 y4 S) (⟨rfl, g2⟩) ?_
      obtain ⟨e1, e2⟩ := Prod.mk.inj (Option.some.inj hG)
      subst e1
      subst e2
      exact Ev.r 1 (fun n => rfl)
    · rw [if_neg c1] at hG
      refine Ev.f (c := y4 < 0) (p1 := 95) (L1 := [.ref 29, .int y1, .int y2, w3, .int y4]) (s1 := []) (h1 := hh S) (p2 := 52) (L2 := [.ref 29, .int y1, .int y2, w3, .int y4]) (s2 := []) (h2 := hh S) 2 (fun n => B_114_3 n y1 y2 w3 y4 S) c1 ?_
      by_cases g3 : xa_in y1 4
      rotate_left
      · rw [if_neg g3] at hG; cases hG
      rw [if_pos g3] at hG
      refine Ev.g (c := (kd 34).1 = 0 ∧ xa_in y1 (kd 34).2) (p1 := 66) (L1 := [.ref 29, .int y1, .int y2, w3, .int y4]) (s1 := [.int (S.1 34 (y1).toNatClampNeg), .int (64 * y1), .ref 33]) (h1 := hh S) 9 (fun n => B_114_4 n y1 y2 w3 y4 S) (⟨rfl, g3⟩) ?_
      by_cases g4 : xa_in ((64 * y1) + (S.1 34 (y1).toNatClampNeg)) 256
      rotate_left
      · rw [if_neg g4] at hG; cases hG
      rw [if_pos g4] at hG
      refine Ev.g (c := (kd 33).1 = 0 ∧ xa_in ((64 * y1) + (S.1 34 (y1).toNatClampNeg)) (kd 33).2) (p1 := 79) (L1 := [.ref 29, .int y1, .int y2, w3, .int y4]) (s1 := []) (h1 := hh (xa_u S.1 33 ((((64 * y1) + (S.1 34 (y1).toNatClampNeg))).toNatClampNeg) ((y2 >>> ((8 * y4) &&& 31)) &&& 255), S.2.1, S.2.2)) 9 (fun n => B_114_5 n y1 y2 w3 y4 S) (⟨rfl, g4⟩) ?_
      refine Ev.g (c := (kd 34).1 = 0 ∧ xa_in y1 (kd 34).2) (p1 := 86) (L1 := [.ref 29, .int y1, .int y2, w3, .int y4]) (s1 := [.int ((xa_u S.1 33 ((((64 * y1) + (S.1 34 (y1).toNatClampNeg))).toNatClampNeg) ((y2 >>> ((8 * y4) &&& 31)) &&& 255)) 34 (y1).toNatClampNeg), .int y1, .ref 34]) (h1 := hh (xa_u S.1 33 ((((64 * y1) + (S.1 34 (y1).toNatClampNeg))).toNatClampNeg) ((y2 >>> ((8 * y4) &&& 31)) &&& 255), S.2.1, S.2.2)) 5 (fun n => B_114_6 n y1 y2 w3 y4 S) (⟨rfl, g3⟩) ?_
      refine Ev.g (c := (kd 34).1 = 0 ∧ xa_in y1 (kd 34).2) (p1 := 89) (L1 := [.ref 29, .int y1, .int y2, w3, .int y4]) (s1 := []) (h1 := hh (xa_u (xa_u S.1 33 ((((64 * y1) + (S.1 34 (y1).toNatClampNeg))).toNatClampNeg) ((y2 >>> ((8 * y4) &&& 31)) &&& 255)) 34 ((y1).toNatClampNeg) (((xa_u S.1 33 ((((64 * y1) + (S.1 34 (y1).toNatClampNeg))).toNatClampNeg) ((y2 >>> ((8 * y4) &&& 31)) &&& 255)) 34 (y1).toNatClampNeg) + 1), S.2.1, S.2.2)) 3 (fun n => B_114_7 n y1 y2 w3 y4 S) (⟨rfl, g3⟩) ?_
      exact Ev.b (pc' := 47) (L' := [.ref 29, .int y1, .int y2, w3, .int (y4 + (-1))]) (st' := []) (h' := hh (xa_u (xa_u S.1 33 ((((64 * y1) + (S.1 34 (y1).toNatClampNeg))).toNatClampNeg) ((y2 >>> ((8 * y4) &&& 31)) &&& 255)) 34 ((y1).toNatClampNeg) (((xa_u S.1 33 ((((64 * y1) + (S.1 34 (y1).toNatClampNeg))).toNatClampNeg) ((y2 >>> ((8 * y4) &&& 31)) &&& 255)) 34 (y1).toNatClampNeg) + 1), S.2.1, S.2.2)) 2 (fun n => B_114_8 n y1 y2 w3 y4 S) (ih (xa_u (xa_u S.1 33 ((((64 * y1) + (S.1 34 (y1).toNatClampNeg))).toNatClampNeg) ((y2 >>> ((8 * y4) &&& 31)) &&& 255)) 34 ((y1).toNatClampNeg) (((xa_u S.1 33 ((((64 * y1) + (S.1 34 (y1).toNatClampNeg))).toNatClampNeg) ((y2 >>> ((8 * y4) &&& 31)) &&& 255)) 34 (y1).toNatClampNeg) + 1), S.2.1, S.2.2) y1 y2 (y4 + (-1)) _ _ hG w3)
def G_114 (S : St) (x1 : Int32) (x2 : Int32) (x3 : Int32) : Option (Int32 × St) :=
  (match G_115 S x1 (0 : Int32) (3 : Int32) with
  | none => none
  | some (v5, S5) =>
    (if v5 = 0 then
      (if xa_in x1 4 then
        (if (S5.1 35 (x1).toNatClampNeg) = 0 then
          (match G_115 S5 x3 (1 : Int32) (4 : Int32) with
          | none => none
          | some (v9, S9) =>
            (if v9 = 0 then
              (if ((S9.1 34 (x1).toNatClampNeg) + x3) ≤ 64 then
                GL_114_0 xFu S9 x1 x2 (x3 - 1)
              else
                some ((-1), S9)
              )
            else
              some ((-1), S9)
            )
          )
        else
          some ((-1), S5)
        )
      else none)
    else
      some ((-1), S5)
    )
  )
theorem B_114_9 {X : Nat × (Nat → Int32)} {d : Nat} (n : Nat) (x1 : Int32) (x2 : Int32) (x3 : Int32) (S : St) : ex X (d + 1) 114 0 [.ref 29, .int x1, .int x2, .int x3, .retAddr 0] [] (hh S) (n + 4) = (match ex X d 115 0 [.int x1, .int 0, .int 3] [] (hh S) n with | some (v, h') => ex X (d + 1) 114 6 [.ref 29, .int x1, .int x2, .int x3, .retAddr 0] (v.toList ++ []) h' n | none => none) := rfl
theorem B_114_10 {X : Nat × (Nat → Int32)} {d : Nat} (n : Nat) (x1 : Int32) (x2 : Int32) (x3 : Int32) (v5 : Int32) (S5 : St) : ex X d 114 6 [.ref 29, .int x1, .int x2, .int x3, .retAddr 0] [.int v5] (hh S5) (n + 1) = if v5 = 0 then ex X d 114 9 [.ref 29, .int x1, .int x2, .int x3, .retAddr 0] [] (hh S5) n else ex X d 114 40 [.ref 29, .int x1, .int x2, .int x3, .retAddr 0] [] (hh S5) n := rfl
theorem B_114_11 {X : Nat × (Nat → Int32)} {d : Nat} (n : Nat) (x1 : Int32) (x2 : Int32) (x3 : Int32) (S5 : St) : ex X d 114 9 [.ref 29, .int x1, .int x2, .int x3, .retAddr 0] [] (hh S5) (n + 4) = if (kd 35).1 = 1 ∧ xa_in x1 (kd 35).2 then ex X d 114 15 [.ref 29, .int x1, .int x2, .int x3, .retAddr 0] [.int (S5.1 35 (x1).toNatClampNeg)] (hh S5) n else none := rfl
theorem B_114_12 {X : Nat × (Nat → Int32)} {d : Nat} (n : Nat) (x1 : Int32) (x2 : Int32) (x3 : Int32) (S5 : St) : ex X d 114 15 [.ref 29, .int x1, .int x2, .int x3, .retAddr 0] [.int (S5.1 35 (x1).toNatClampNeg)] (hh S5) (n + 1) = if (S5.1 35 (x1).toNatClampNeg) = 0 then ex X d 114 18 [.ref 29, .int x1, .int x2, .int x3, .retAddr 0] [] (hh S5) n else ex X d 114 40 [.ref 29, .int x1, .int x2, .int x3, .retAddr 0] [] (hh S5) n := rfl
theorem B_114_13 {X : Nat × (Nat → Int32)} {d : Nat} (n : Nat) (x1 : Int32) (x2 : Int32) (x3 : Int32) (S5 : St) : ex X (d + 1) 114 18 [.ref 29, .int x1, .int x2, .int x3, .retAddr 0] [] (hh S5) (n + 4) = (match ex X d 115 0 [.int x3, .int 1, .int 4] [] (hh S5) n with | some (v, h') => ex X (d + 1) 114 24 [.ref 29, .int x1, .int x2, .int x3, .retAddr 0] (v.toList ++ []) h' n | none => none) := rfl
theorem B_114_14 {X : Nat × (Nat → Int32)} {d : Nat} (n : Nat) (x1 : Int32) (x2 : Int32) (x3 : Int32) (v9 : Int32) (S9 : St) : ex X d 114 24 [.ref 29, .int x1, .int x2, .int x3, .retAddr 0] [.int v9] (hh S9) (n + 1) = if v9 = 0 then ex X d 114 27 [.ref 29, .int x1, .int x2, .int x3, .retAddr 0] [] (hh S9) n else ex X d 114 40 [.ref 29, .int x1, .int x2, .int x3, .retAddr 0] [] (hh S9) n := rfl
theorem B_114_15 {X : Nat × (Nat → Int32)} {d : Nat} (n : Nat) (x1 : Int32) (x2 : Int32) (x3 : Int32) (S9 : St) : ex X d 114 27 [.ref 29, .int x1, .int x2, .int x3, .retAddr 0] [] (hh S9) (n + 4) = if (kd 34).1 = 0 ∧ xa_in x1 (kd 34).2 then ex X d 114 33 [.ref 29, .int x1, .int x2, .int x3, .retAddr 0] [.int (S9.1 34 (x1).toNatClampNeg)] (hh S9) n else none := rfl
theorem B_114_16 {X : Nat × (Nat → Int32)} {d : Nat} (n : Nat) (x1 : Int32) (x2 : Int32) (x3 : Int32) (S9 : St) : ex X d 114 33 [.ref 29, .int x1, .int x2, .int x3, .retAddr 0] [.int (S9.1 34 (x1).toNatClampNeg)] (hh S9) (n + 4) = if ((S9.1 34 (x1).toNatClampNeg) + x3) ≤ 64 then ex X d 114 42 [.ref 29, .int x1, .int x2, .int x3, .retAddr 0] [] (hh S9) n else ex X d 114 40 [.ref 29, .int x1, .int x2, .int x3, .retAddr 0] [] (hh S9) n := rfl
theorem B_114_17 {X : Nat × (Nat → Int32)} {d : Nat} (n : Nat) (x1 : Int32) (x2 : Int32) (x3 : Int32) (S9 : St) : ex X d 114 42 [.ref 29, .int x1, .int x2, .int x3, .retAddr 0] [] (hh S9) (n + 4) = ex X d 114 47 [.ref 29, .int x1, .int x2, .int x3, .int (x3 - 1)] [] (hh S9) n := rfl
theorem B_114_18 {X : Nat × (Nat → Int32)} {d : Nat} (n : Nat) (x1 : Int32) (x2 : Int32) (x3 : Int32) (S9 : St) : ex X d 114 33 [.ref 29, .int x1, .int x2, .int x3, .retAddr 0] [.int (S9.1 34 (x1).toNatClampNeg)] (hh S9) (n + 4) = if ((S9.1 34 (x1).toNatClampNeg) + x3) ≤ 64 then ex X d 114 42 [.ref 29, .int x1, .int x2, .int x3, .retAddr 0] [] (hh S9) n else ex X d 114 40 [.ref 29, .int x1, .int x2, .int x3, .retAddr 0] [] (hh S9) n := rfl
theorem B_114_19 {X : Nat × (Nat → Int32)} {d : Nat} (n : Nat) (x1 : Int32) (x2 : Int32) (x3 : Int32) (v9 : Int32) (S9 : St) : ex X d 114 24 [.ref 29, .int x1, .int x2, .int x3, .retAddr 0] [.int v9] (hh S9) (n + 1) = if v9 = 0 then ex X d 114 27 [.ref 29, .int x1, .int x2, .int x3, .retAddr 0] [] (hh S9) n else ex X d 114 40 [.ref 29, .int x1, .int x2, .int x3, .retAddr 0] [] (hh S9) n := rfl
theorem B_114_20 {X : Nat × (Nat → Int32)} {d : Nat} (n : Nat) (x1 : Int32) (x2 : Int32) (x3 : Int32) (S5 : St) : ex X d 114 15 [.ref 29, .int x1, .int x2, .int x3, .retAddr 0] [.int (S5.1 35 (x1).toNatClampNeg)] (hh S5) (n + 1) = if (S5.1 35 (x1).toNatClampNeg) = 0 then ex X d 114 18 [.ref 29, .int x1, .int x2, .int x3, .retAddr 0] [] (hh S5) n else ex X d 114 40 [.ref 29, .int x1, .int x2, .int x3, .retAddr 0] [] (hh S5) n := rfl
theorem B_114_21 {X : Nat × (Nat → Int32)} {d : Nat} (n : Nat) (x1 : Int32) (x2 : Int32) (x3 : Int32) (v5 : Int32) (S5 : St) : ex X d 114 6 [.ref 29, .int x1, .int x2, .int x3, .retAddr 0] [.int v5] (hh S5) (n + 1) = if v5 = 0 then ex X d 114 9 [.ref 29, .int x1, .int x2, .int x3, .retAddr 0] [] (hh S5) n else ex X d 114 40 [.ref 29, .int x1, .int x2, .int x3, .retAddr 0] [] (hh S5) n := rfl
set_option maxRecDepth 200000 in
theorem T_114 {X : Nat × (Nat → Int32)} (S : St) (x1 : Int32) (x2 : Int32) (x3 : Int32) (r : Int32) (S' : St) (hG : G_114 S x1 x2 x3 = some (r, S')) : Ev X 1 114 0 [.ref 29, .int x1, .int x2, .int x3, .retAddr 0] [] (hh S) (xI r, hh S') := by
  unfold G_114 at hG
  rcases h5 : G_115 S x1 (0 : Int32) (3 : Int32) with _ | ⟨v5, S5⟩
  · rw [h5] at hG; cases hG
  rw [h5] at hG
  dsimp only at hG
  refine Ev.c (a := 115) (A := [.int x1, .int 0, .int 3]) (h1 := hh S) (pc' := 6) (L' := [.ref 29, .int x1, .int x2, .int x3, .retAddr 0]) (rest := []) (r1 := some (.int v5)) (h2 := hh S5) 4 (fun n => B_114_9 n x1 x2 x3 S) (Ev.up (by decide) (T_115 S x1 (0 : Int32) (3 : Int32) _ _ h5)) ?_
  show Ev X _ 114 6 [.ref 29, .int x1, .int x2, .int x3, .retAddr 0] [.int v5] (hh S5) _
  by_cases c6 : v5 = 0
  · rw [if_pos c6] at hG
    refine Ev.t (c := v5 = 0) (p1 := 9) (L1 := [.ref 29, .int x1, .int x2, .int x3, .retAddr 0]) (s1 := []) (h1 := hh S5) (p2 := 40) (L2 := [.ref 29, .int x1, .int x2, .int x3, .retAddr 0]) (s2 := []) (h2 := hh S5) 1 (fun n => B_114_10 n x1 x2 x3 v5 S5) c6 ?_
    by_cases g7 : xa_in x1 4
    rotate_left
    · rw [if_neg g7] at hG; cases hG
    rw [if_pos g7] at hG
    refine Ev.g (c := (kd 35).1 = 1 ∧ xa_in x1 (kd 35).2) (p1 := 15) (L1 := [.ref 29, .int x1, .int x2, .int x3, .retAddr 0]) (s1 := [.int (S5.1 35 (x1).toNatClampNeg)]) (h1 := hh S5) 4 (fun n => B_114_11 n x1 x2 x3 S5) (⟨rfl, g7⟩) ?_
    by_cases c8 : (S5.1 35 (x1).toNatClampNeg) = 0
    · rw [if_pos c8] at hG
      refine Ev.t (c := (S5.1 35 (x1).toNatClampNeg) = 0) (p1 := 18) (L1 := [.ref 29, .int x1, .int x2, .int x3, .retAddr 0]) (s1 := []) (h1 := hh S5) (p2 := 40) (L2 := [.ref 29, .int x1, .int x2, .int x3, .retAddr 0]) (s2 := []) (h2 := hh S5) 1 (fun n => B_114_12 n x1 x2 x3 S5) c8 ?_
      rcases h9 : G_115 S5 x3 (1 : Int32) (4 : Int32) with _ | ⟨v9, S9⟩
      · rw [h9] at hG; cases hG
      rw [h9] at hG
      dsimp only at hG
      refine Ev.c (a := 115) (A := [.int x3, .int 1, .int 4]) (h1 := hh S5) (pc' := 24) (L' := [.ref 29, .int x1, .int x2, .int x3, .retAddr 0]) (rest := []) (r1 := some (.int v9)) (h2 := hh S9) 4 (fun n => B_114_13 n x1 x2 x3 S5) (Ev.up (by decide) (T_115 S5 x3 (1 : Int32) (4 : Int32) _ _ h9)) ?_
      show Ev X _ 114 24 [.ref 29, .int x1, .int x2, .int x3, .retAddr 0] [.int v9] (hh S9) _
      by_cases c10 : v9 = 0
      · rw [if_pos c10] at hG
        refine Ev.t (c := v9 = 0) (p1 := 27) (L1 := [.ref 29, .int x1, .int x2, .int x3, .retAddr 0]) (s1 := []) (h1 := hh S9) (p2 := 40) (L2 := [.ref 29, .int x1, .int x2, .int x3, .retAddr 0]) (s2 := []) (h2 := hh S9) 1 (fun n => B_114_14 n x1 x2 x3 v9 S9) c10 ?_
        refine Ev.g (c := (kd 34).1 = 0 ∧ xa_in x1 (kd 34).2) (p1 := 33) (L1 := [.ref 29, .int x1, .int x2, .int x3, .retAddr 0]) (s1 := [.int (S9.1 34 (x1).toNatClampNeg)]) (h1 := hh S9) 4 (fun n => B_114_15 n x1 x2 x3 S9) (⟨rfl, g7⟩) ?_
        by_cases c11 : ((S9.1 34 (x1).toNatClampNeg) + x3) ≤ 64
        · rw [if_pos c11] at hG
          refine Ev.t (c := ((S9.1 34 (x1).toNatClampNeg) + x3) ≤ 64) (p1 := 42) (L1 := [.ref 29, .int x1, .int x2, .int x3, .retAddr 0]) (s1 := []) (h1 := hh S9) (p2 := 40) (L2 := [.ref 29, .int x1, .int x2, .int x3, .retAddr 0]) (s2 := []) (h2 := hh S9) 4 (fun n => B_114_16 n x1 x2 x3 S9) c11 ?_
          exact Ev.b (pc' := 47) (L' := [.ref 29, .int x1, .int x2, .int x3, .int (x3 - 1)]) (st' := []) (h' := hh S9) 4 (fun n => B_114_17 n x1 x2 x3 S9) (TL_114_0 xFu S9 x1 x2 (x3 - 1) _ _ hG (.int x3))
        · rw [if_neg c11] at hG
          refine Ev.f (c := ((S9.1 34 (x1).toNatClampNeg) + x3) ≤ 64) (p1 := 42) (L1 := [.ref 29, .int x1, .int x2, .int x3, .retAddr 0]) (s1 := []) (h1 := hh S9) (p2 := 40) (L2 := [.ref 29, .int x1, .int x2, .int x3, .retAddr 0]) (s2 := []) (h2 := hh S9) 4 (fun n => B_114_18 n x1 x2 x3 S9) c11 ?_
          obtain ⟨e1, e2⟩ := Prod.mk.inj (Option.some.inj hG)
          subst e1
          subst e2
          exact Ev.r 2 (fun n => rfl)
      · rw [if_neg c10] at hG
        refine Ev.f (c := v9 = 0) (p1 := 27) (L1 := [.ref 29, .int x1, .int x2, .int x3, .retAddr 0]) (s1 := []) (h1 := hh S9) (p2 := 40) (L2 := [.ref 29, .int x1, .int x2, .int x3, .retAddr 0]) (s2 := []) (h2 := hh S9) 1 (fun n => B_114_19 n x1 x2 x3 v9 S9) c10 ?_
        obtain ⟨e1, e2⟩ := Prod.mk.inj (Option.some.inj hG)
        subst e1
        subst e2
        exact Ev.r 2 (fun n => rfl)
    · rw [if_neg c8] at hG
      refine Ev.f (c := (S5.1 35 (x1).toNatClampNeg) = 0) (p1 := 18) (L1 := [.ref 29, .int x1, .int x2, .int x3, .retAddr 0]) (s1 := []) (h1 := hh S5) (p2 := 40) (L2 := [.ref 29, .int x1, .int x2, .int x3, .retAddr 0]) (s2 := []) (h2 := hh S5) 1 (fun n => B_114_20 n x1 x2 x3 S5) c8 ?_
      obtain ⟨e1, e2⟩ := Prod.mk.inj (Option.some.inj hG)
      subst e1
      subst e2
      exact Ev.r 2 (fun n => rfl)
  · rw [if_neg c6] at hG
    refine Ev.f (c := v5 = 0) (p1 := 9) (L1 := [.ref 29, .int x1, .int x2, .int x3, .retAddr 0]) (s1 := []) (h1 := hh S5) (p2 := 40) (L2 := [.ref 29, .int x1, .int x2, .int x3, .retAddr 0]) (s2 := []) (h2 := hh S5) 1 (fun n => B_114_21 n x1 x2 x3 v5 S5) c6 ?_
    obtain ⟨e1, e2⟩ := Prod.mk.inj (Option.some.inj hG)
    subst e1
    subst e2
    exact Ev.r 2 (fun n => rfl)
/-- 118: SceneCycleModel.at(II)I -/
def G_118 (S : St) (x1 : Int32) (x2 : Int32) : Option (Int32 × St) :=
  (if xa_in x1 4 then
    (if (S.1 34 (x1).toNatClampNeg) ≤ x2 then
      some ((-1), S)
    else
      (if xa_in ((64 * x1) + x2) 256 then
        some ((S.1 33 (((64 * x1) + x2)).toNatClampNeg), S)
      else none)
    )
  else none)
theorem B_118_1 {X : Nat × (Nat → Int32)} {d : Nat} (n : Nat) (x1 : Int32) (x2 : Int32) (S : St) : ex X d 118 0 [.ref 29, .int x1, .int x2] [] (hh S) (n + 5) = if (kd 34).1 = 0 ∧ xa_in x1 (kd 34).2 then ex X d 118 7 [.ref 29, .int x1, .int x2] [.int (S.1 34 (x1).toNatClampNeg), .int x2] (hh S) n else none := rfl
theorem B_118_2 {X : Nat × (Nat → Int32)} {d : Nat} (n : Nat) (x1 : Int32) (x2 : Int32) (S : St) : ex X d 118 7 [.ref 29, .int x1, .int x2] [.int (S.1 34 (x1).toNatClampNeg), .int x2] (hh S) (n + 1) = if (S.1 34 (x1).toNatClampNeg) ≤ x2 then ex X d 118 24 [.ref 29, .int x1, .int x2] [] (hh S) n else ex X d 118 10 [.ref 29, .int x1, .int x2] [] (hh S) n := rfl
theorem B_118_3 {X : Nat × (Nat → Int32)} {d : Nat} (n : Nat) (x1 : Int32) (x2 : Int32) (S : St) : ex X d 118 7 [.ref 29, .int x1, .int x2] [.int (S.1 34 (x1).toNatClampNeg), .int x2] (hh S) (n + 1) = if (S.1 34 (x1).toNatClampNeg) ≤ x2 then ex X d 118 24 [.ref 29, .int x1, .int x2] [] (hh S) n else ex X d 118 10 [.ref 29, .int x1, .int x2] [] (hh S) n := rfl
theorem B_118_4 {X : Nat × (Nat → Int32)} {d : Nat} (n : Nat) (x1 : Int32) (x2 : Int32) (S : St) : ex X d 118 10 [.ref 29, .int x1, .int x2] [] (hh S) (n + 8) = if (kd 33).1 = 0 ∧ xa_in ((64 * x1) + x2) (kd 33).2 then ex X d 118 21 [.ref 29, .int x1, .int x2] [.int (S.1 33 (((64 * x1) + x2)).toNatClampNeg)] (hh S) n else none := rfl
set_option maxRecDepth 200000 in
theorem T_118 {X : Nat × (Nat → Int32)} (S : St) (x1 : Int32) (x2 : Int32) (r : Int32) (S' : St) (hG : G_118 S x1 x2 = some (r, S')) : Ev X 0 118 0 [.ref 29, .int x1, .int x2] [] (hh S) (xI r, hh S') := by
  unfold G_118 at hG
  by_cases g1 : xa_in x1 4
  rotate_left
  · rw [if_neg g1] at hG; cases hG
  rw [if_pos g1] at hG
  refine Ev.g (c := (kd 34).1 = 0 ∧ xa_in x1 (kd 34).2) (p1 := 7) (L1 := [.ref 29, .int x1, .int x2]) (s1 := [.int (S.1 34 (x1).toNatClampNeg), .int x2]) (h1 := hh S) 5 (fun n => B_118_1 n x1 x2 S) (⟨rfl, g1⟩) ?_
  by_cases c2 : (S.1 34 (x1).toNatClampNeg) ≤ x2
  · rw [if_pos c2] at hG
    refine Ev.t (c := (S.1 34 (x1).toNatClampNeg) ≤ x2) (p1 := 24) (L1 := [.ref 29, .int x1, .int x2]) (s1 := []) (h1 := hh S) (p2 := 10) (L2 := [.ref 29, .int x1, .int x2]) (s2 := []) (h2 := hh S) 1 (fun n => B_118_2 n x1 x2 S) c2 ?_
    obtain ⟨e1, e2⟩ := Prod.mk.inj (Option.some.inj hG)
    subst e1
    subst e2
    exact Ev.r 2 (fun n => rfl)
  · rw [if_neg c2] at hG
    refine Ev.f (c := (S.1 34 (x1).toNatClampNeg) ≤ x2) (p1 := 24) (L1 := [.ref 29, .int x1, .int x2]) (s1 := []) (h1 := hh S) (p2 := 10) (L2 := [.ref 29, .int x1, .int x2]) (s2 := []) (h2 := hh S) 1 (fun n => B_118_3 n x1 x2 S) c2 ?_
    by_cases g3 : xa_in ((64 * x1) + x2) 256
    rotate_left
    · rw [if_neg g3] at hG; cases hG
    rw [if_pos g3] at hG
    refine Ev.g (c := (kd 33).1 = 0 ∧ xa_in ((64 * x1) + x2) (kd 33).2) (p1 := 21) (L1 := [.ref 29, .int x1, .int x2]) (s1 := [.int (S.1 33 (((64 * x1) + x2)).toNatClampNeg)]) (h1 := hh S) 8 (fun n => B_118_4 n x1 x2 S) (⟨rfl, g3⟩) ?_
    obtain ⟨e1, e2⟩ := Prod.mk.inj (Option.some.inj hG)
    subst e1
    subst e2
    exact Ev.r 2 (fun n => rfl)
/-- 128: SceneCycleModel.leads(III)I -/
def G_128 (S : St) (x1 : Int32) (x2 : Int32) (x3 : Int32) : Option (Int32 × St) :=
  (match G_118 S x1 (x3 - 1) with
  | none => none
  | some (v1, S1) =>
    (match G_118 S1 x1 x2 with
    | none => none
    | some (v2, S2) =>
      (if v2 = 7 then
        (if v1 ≤ 127 then
          some ((x3 + v1), S2)
        else
          some ((x3 + (v1 - 256)), S2)
        )
      else
        (if v2 = 8 then
          some ((x3 + v1), S2)
        else
          some ((-1), S2)
        )
      )
    )
  )
theorem B_128_1 {X : Nat × (Nat → Int32)} {d : Nat} (n : Nat) (x1 : Int32) (x2 : Int32) (x3 : Int32) (S : St) : ex X (d + 1) 128 0 [.ref 29, .int x1, .int x2, .int x3, .retAddr 0, .retAddr 0] [] (hh S) (n + 6) = (match ex X d 118 0 [.ref 29, .int x1, .int (x3 - 1)] [] (hh S) n with | some (v, h') => ex X (d + 1) 128 8 [.ref 29, .int x1, .int x2, .int x3, .retAddr 0, .retAddr 0] (v.toList ++ []) h' n | none => none) := rfl
theorem B_128_2 {X : Nat × (Nat → Int32)} {d : Nat} (n : Nat) (x1 : Int32) (x2 : Int32) (x3 : Int32) (v1 : Int32) (S1 : St) : ex X (d + 1) 128 8 [.ref 29, .int x1, .int x2, .int x3, .retAddr 0, .retAddr 0] [.int v1] (hh S1) (n + 5) = (match ex X d 118 0 [.ref 29, .int x1, .int x2] [] (hh S1) n with | some (v, h') => ex X (d + 1) 128 16 [.ref 29, .int x1, .int x2, .int x3, .int v1, .retAddr 0] (v.toList ++ []) h' n | none => none) := rfl
theorem B_128_3 {X : Nat × (Nat → Int32)} {d : Nat} (n : Nat) (x1 : Int32) (x2 : Int32) (x3 : Int32) (v1 : Int32) (v2 : Int32) (S2 : St) : ex X d 128 16 [.ref 29, .int x1, .int x2, .int x3, .int v1, .retAddr 0] [.int v2] (hh S2) (n + 4) = if v2 = 7 then ex X d 128 25 [.ref 29, .int x1, .int x2, .int x3, .int v1, .int v2] [] (hh S2) n else ex X d 128 48 [.ref 29, .int x1, .int x2, .int x3, .int v1, .int v2] [] (hh S2) n := rfl
theorem B_128_4 {X : Nat × (Nat → Int32)} {d : Nat} (n : Nat) (x1 : Int32) (x2 : Int32) (x3 : Int32) (v1 : Int32) (v2 : Int32) (S2 : St) : ex X d 128 25 [.ref 29, .int x1, .int x2, .int x3, .int v1, .int v2] [] (hh S2) (n + 4) = if v1 ≤ 127 then ex X d 128 42 [.ref 29, .int x1, .int x2, .int x3, .int v1, .int v2] [.int x3] (hh S2) n else ex X d 128 33 [.ref 29, .int x1, .int x2, .int x3, .int v1, .int v2] [.int x3] (hh S2) n := rfl
theorem B_128_5 {X : Nat × (Nat → Int32)} {d : Nat} (n : Nat) (x1 : Int32) (x2 : Int32) (x3 : Int32) (v1 : Int32) (v2 : Int32) (S2 : St) : ex X d 128 25 [.ref 29, .int x1, .int x2, .int x3, .int v1, .int v2] [] (hh S2) (n + 4) = if v1 ≤ 127 then ex X d 128 42 [.ref 29, .int x1, .int x2, .int x3, .int v1, .int v2] [.int x3] (hh S2) n else ex X d 128 33 [.ref 29, .int x1, .int x2, .int x3, .int v1, .int v2] [.int x3] (hh S2) n := rfl
theorem B_128_6 {X : Nat × (Nat → Int32)} {d : Nat} (n : Nat) (x1 : Int32) (x2 : Int32) (x3 : Int32) (v1 : Int32) (v2 : Int32) (S2 : St) : ex X d 128 16 [.ref 29, .int x1, .int x2, .int x3, .int v1, .retAddr 0] [.int v2] (hh S2) (n + 4) = if v2 = 7 then ex X d 128 25 [.ref 29, .int x1, .int x2, .int x3, .int v1, .int v2] [] (hh S2) n else ex X d 128 48 [.ref 29, .int x1, .int x2, .int x3, .int v1, .int v2] [] (hh S2) n := rfl
theorem B_128_7 {X : Nat × (Nat → Int32)} {d : Nat} (n : Nat) (x1 : Int32) (x2 : Int32) (x3 : Int32) (v1 : Int32) (v2 : Int32) (S2 : St) : ex X d 128 48 [.ref 29, .int x1, .int x2, .int x3, .int v1, .int v2] [] (hh S2) (n + 3) = if v2 = 8 then ex X d 128 55 [.ref 29, .int x1, .int x2, .int x3, .int v1, .int v2] [] (hh S2) n else ex X d 128 62 [.ref 29, .int x1, .int x2, .int x3, .int v1, .int v2] [] (hh S2) n := rfl
theorem B_128_8 {X : Nat × (Nat → Int32)} {d : Nat} (n : Nat) (x1 : Int32) (x2 : Int32) (x3 : Int32) (v1 : Int32) (v2 : Int32) (S2 : St) : ex X d 128 48 [.ref 29, .int x1, .int x2, .int x3, .int v1, .int v2] [] (hh S2) (n + 3) = if v2 = 8 then ex X d 128 55 [.ref 29, .int x1, .int x2, .int x3, .int v1, .int v2] [] (hh S2) n else ex X d 128 62 [.ref 29, .int x1, .int x2, .int x3, .int v1, .int v2] [] (hh S2) n := rfl
set_option maxRecDepth 200000 in
theorem T_128 {X : Nat × (Nat → Int32)} (S : St) (x1 : Int32) (x2 : Int32) (x3 : Int32) (r : Int32) (S' : St) (hG : G_128 S x1 x2 x3 = some (r, S')) : Ev X 1 128 0 [.ref 29, .int x1, .int x2, .int x3, .retAddr 0, .retAddr 0] [] (hh S) (xI r, hh S') := by
  unfold G_128 at hG
  rcases h1 : G_118 S x1 (x3 - 1) with _ | ⟨v1, S1⟩
  · rw [h1] at hG; cases hG
  rw [h1] at hG
  dsimp only at hG
  refine Ev.c (a := 118) (A := [.ref 29, .int x1, .int (x3 - 1)]) (h1 := hh S) (pc' := 8) (L' := [.ref 29, .int x1, .int x2, .int x3, .retAddr 0, .retAddr 0]) (rest := []) (r1 := some (.int v1)) (h2 := hh S1) 6 (fun n => B_128_1 n x1 x2 x3 S) (Ev.up (by decide) (T_118 S x1 (x3 - 1) _ _ h1)) ?_
  show Ev X _ 128 8 [.ref 29, .int x1, .int x2, .int x3, .retAddr 0, .retAddr 0] [.int v1] (hh S1) _
  rcases h2 : G_118 S1 x1 x2 with _ | ⟨v2, S2⟩
  · rw [h2] at hG; cases hG
  rw [h2] at hG
  dsimp only at hG
  refine Ev.c (a := 118) (A := [.ref 29, .int x1, .int x2]) (h1 := hh S1) (pc' := 16) (L' := [.ref 29, .int x1, .int x2, .int x3, .int v1, .retAddr 0]) (rest := []) (r1 := some (.int v2)) (h2 := hh S2) 5 (fun n => B_128_2 n x1 x2 x3 v1 S1) (Ev.up (by decide) (T_118 S1 x1 x2 _ _ h2)) ?_
  show Ev X _ 128 16 [.ref 29, .int x1, .int x2, .int x3, .int v1, .retAddr 0] [.int v2] (hh S2) _
  by_cases c3 : v2 = 7
  · rw [if_pos c3] at hG
    refine Ev.t (c := v2 = 7) (p1 := 25) (L1 := [.ref 29, .int x1, .int x2, .int x3, .int v1, .int v2]) (s1 := []) (h1 := hh S2) (p2 := 48) (L2 := [.ref 29, .int x1, .int x2, .int x3, .int v1, .int v2]) (s2 := []) (h2 := hh S2) 4 (fun n => B_128_3 n x1 x2 x3 v1 v2 S2) c3 ?_
    by_cases c4 : v1 ≤ 127
    · rw [if_pos c4] at hG
      refine Ev.t (c := v1 ≤ 127) (p1 := 42) (L1 := [.ref 29, .int x1, .int x2, .int x3, .int v1, .int v2]) (s1 := [.int x3]) (h1 := hh S2) (p2 := 33) (L2 := [.ref 29, .int x1, .int x2, .int x3, .int v1, .int v2]) (s2 := [.int x3]) (h2 := hh S2) 4 (fun n => B_128_4 n x1 x2 x3 v1 v2 S2) c4 ?_
      obtain ⟨e1, e2⟩ := Prod.mk.inj (Option.some.inj hG)
      subst e1
      subst e2
      exact Ev.r 4 (fun n => rfl)
    · rw [if_neg c4] at hG
      refine Ev.f (c := v1 ≤ 127) (p1 := 42) (L1 := [.ref 29, .int x1, .int x2, .int x3, .int v1, .int v2]) (s1 := [.int x3]) (h1 := hh S2) (p2 := 33) (L2 := [.ref 29, .int x1, .int x2, .int x3, .int v1, .int v2]) (s2 := [.int x3]) (h2 := hh S2) 4 (fun n => B_128_5 n x1 x2 x3 v1 v2 S2) c4 ?_
      obtain ⟨e1, e2⟩ := Prod.mk.inj (Option.some.inj hG)
      subst e1
      subst e2
      exact Ev.r 7 (fun n => rfl)
  · rw [if_neg c3] at hG
    refine Ev.f (c := v2 = 7) (p1 := 25) (L1 := [.ref 29, .int x1, .int x2, .int x3, .int v1, .int v2]) (s1 := []) (h1 := hh S2) (p2 := 48) (L2 := [.ref 29, .int x1, .int x2, .int x3, .int v1, .int v2]) (s2 := []) (h2 := hh S2) 4 (fun n => B_128_6 n x1 x2 x3 v1 v2 S2) c3 ?_
    by_cases c5 : v2 = 8
    · rw [if_pos c5] at hG
      refine Ev.t (c := v2 = 8) (p1 := 55) (L1 := [.ref 29, .int x1, .int x2, .int x3, .int v1, .int v2]) (s1 := []) (h1 := hh S2) (p2 := 62) (L2 := [.ref 29, .int x1, .int x2, .int x3, .int v1, .int v2]) (s2 := []) (h2 := hh S2) 3 (fun n => B_128_7 n x1 x2 x3 v1 v2 S2) c5 ?_
      obtain ⟨e1, e2⟩ := Prod.mk.inj (Option.some.inj hG)
      subst e1
      subst e2
      exact Ev.r 5 (fun n => rfl)
    · rw [if_neg c5] at hG
      refine Ev.f (c := v2 = 8) (p1 := 55) (L1 := [.ref 29, .int x1, .int x2, .int x3, .int v1, .int v2]) (s1 := []) (h1 := hh S2) (p2 := 62) (L2 := [.ref 29, .int x1, .int x2, .int x3, .int v1, .int v2]) (s2 := []) (h2 := hh S2) 3 (fun n => B_128_8 n x1 x2 x3 v1 v2 S2) c5 ?_
      obtain ⟨e1, e2⟩ := Prod.mk.inj (Option.some.inj hG)
      subst e1
      subst e2
      exact Ev.r 2 (fun n => rfl)
/-- 120: SceneCycleModel.must(IIII)V -/
def G_120 (S : St) (x1 : Int32) (x2 : Int32) (x3 : Int32) (x4 : Int32) : Option (Unit × St) :=
  (if 0 ≤ (S.1 29 7) then
    some ((), S)
  else
    (match G_118 S x1 x2 with
    | none => none
    | some (v2, S2) =>
      (match G_115 S2 v2 x3 x4 with
      | none => none
      | some (v3, S3) =>
        (if v3 = 0 then
          some ((), S3)
        else
          some ((), (xa_u S3.1 29 7 x2, S3.2.1, S3.2.2))
        )
      )
    )
  )
theorem B_120_1 {X : Nat × (Nat → Int32)} {d : Nat} (n : Nat) (x1 : Int32) (x2 : Int32) (x3 : Int32) (x4 : Int32) (S : St) : ex X d 120 0 [.ref 29, .int x1, .int x2, .int x3, .int x4] [] (hh S) (n + 3) = if 0 ≤ (S.1 29 7) then ex X d 120 27 [.ref 29, .int x1, .int x2, .int x3, .int x4] [] (hh S) n else ex X d 120 7 [.ref 29, .int x1, .int x2, .int x3, .int x4] [] (hh S) n := rfl
theorem B_120_2 {X : Nat × (Nat → Int32)} {d : Nat} (n : Nat) (x1 : Int32) (x2 : Int32) (x3 : Int32) (x4 : Int32) (S : St) : ex X d 120 0 [.ref 29, .int x1, .int x2, .int x3, .int x4] [] (hh S) (n + 3) = if 0 ≤ (S.1 29 7) then ex X d 120 27 [.ref 29, .int x1, .int x2, .int x3, .int x4] [] (hh S) n else ex X d 120 7 [.ref 29, .int x1, .int x2, .int x3, .int x4] [] (hh S) n := rfl
theorem B_120_3 {X : Nat × (Nat → Int32)} {d : Nat} (n : Nat) (x1 : Int32) (x2 : Int32) (x3 : Int32) (x4 : Int32) (S : St) : ex X (d + 1) 120 7 [.ref 29, .int x1, .int x2, .int x3, .int x4] [] (hh S) (n + 4) = (match ex X d 118 0 [.ref 29, .int x1, .int x2] [] (hh S) n with | some (v, h') => ex X (d + 1) 120 13 [.ref 29, .int x1, .int x2, .int x3, .int x4] (v.toList ++ []) h' n | none => none) := rfl
theorem B_120_4 {X : Nat × (Nat → Int32)} {d : Nat} (n : Nat) (x1 : Int32) (x2 : Int32) (x3 : Int32) (x4 : Int32) (v2 : Int32) (S2 : St) : ex X (d + 1) 120 13 [.ref 29, .int x1, .int x2, .int x3, .int x4] [.int v2] (hh S2) (n + 3) = (match ex X d 115 0 [.int v2, .int x3, .int x4] [] (hh S2) n with | some (v, h') => ex X (d + 1) 120 19 [.ref 29, .int x1, .int x2, .int x3, .int x4] (v.toList ++ []) h' n | none => none) := rfl
theorem B_120_5 {X : Nat × (Nat → Int32)} {d : Nat} (n : Nat) (x1 : Int32) (x2 : Int32) (x3 : Int32) (x4 : Int32) (v3 : Int32) (S3 : St) : ex X d 120 19 [.ref 29, .int x1, .int x2, .int x3, .int x4] [.int v3] (hh S3) (n + 1) = if v3 = 0 then ex X d 120 27 [.ref 29, .int x1, .int x2, .int x3, .int x4] [] (hh S3) n else ex X d 120 22 [.ref 29, .int x1, .int x2, .int x3, .int x4] [] (hh S3) n := rfl
theorem B_120_6 {X : Nat × (Nat → Int32)} {d : Nat} (n : Nat) (x1 : Int32) (x2 : Int32) (x3 : Int32) (x4 : Int32) (v3 : Int32) (S3 : St) : ex X d 120 19 [.ref 29, .int x1, .int x2, .int x3, .int x4] [.int v3] (hh S3) (n + 1) = if v3 = 0 then ex X d 120 27 [.ref 29, .int x1, .int x2, .int x3, .int x4] [] (hh S3) n else ex X d 120 22 [.ref 29, .int x1, .int x2, .int x3, .int x4] [] (hh S3) n := rfl
theorem B_120_7 {X : Nat × (Nat → Int32)} {d : Nat} (n : Nat) (x1 : Int32) (x2 : Int32) (x3 : Int32) (x4 : Int32) (S3 : St) : ex X d 120 22 [.ref 29, .int x1, .int x2, .int x3, .int x4] [] (hh S3) (n + 3) = if (kd 29).1 = 10 + 8 ∧ (xf_k 8 7 = 0 ∨ (xf_k 8 7 = 1 ∧ (x2 = 0 ∨ x2 = 1))) then ex X d 120 27 [.ref 29, .int x1, .int x2, .int x3, .int x4] [] (hh (xa_u S3.1 29 7 x2, S3.2.1, S3.2.2)) n else none := rfl
set_option maxRecDepth 200000 in
theorem T_120 {X : Nat × (Nat → Int32)} (S : St) (x1 : Int32) (x2 : Int32) (x3 : Int32) (x4 : Int32) (r : Unit) (S' : St) (hG : G_120 S x1 x2 x3 x4 = some (r, S')) : Ev X 1 120 0 [.ref 29, .int x1, .int x2, .int x3, .int x4] [] (hh S) (xV r, hh S') := by
  unfold G_120 at hG
  by_cases c1 : 0 ≤ (S.1 29 7)
  · rw [if_pos c1] at hG
    refine Ev.t (c := 0 ≤ (S.1 29 7)) (p1 := 27) (L1 := [.ref 29, .int x1, .int x2, .int x3, .int x4]) (s1 := []) (h1 := hh S) (p2 := 7) (L2 := [.ref 29, .int x1, .int x2, .int x3, .int x4]) (s2 := []) (h2 := hh S) 3 (fun n => B_120_1 n x1 x2 x3 x4 S) c1 ?_
    obtain ⟨e1, e2⟩ := Prod.mk.inj (Option.some.inj hG)
    subst e1
    subst e2
    exact Ev.r 1 (fun n => rfl)
  · rw [if_neg c1] at hG
    refine Ev.f (c := 0 ≤ (S.1 29 7)) (p1 := 27) (L1 := [.ref 29, .int x1, .int x2, .int x3, .int x4]) (s1 := []) (h1 := hh S) (p2 := 7) (L2 := [.ref 29, .int x1, .int x2, .int x3, .int x4]) (s2 := []) (h2 := hh S) 3 (fun n => B_120_2 n x1 x2 x3 x4 S) c1 ?_
    rcases h2 : G_118 S x1 x2 with _ | ⟨v2, S2⟩
    · rw [h2] at hG; cases hG
    rw [h2] at hG
    dsimp only at hG
    refine Ev.c (a := 118) (A := [.ref 29, .int x1, .int x2]) (h1 := hh S) (pc' := 13) (L' := [.ref 29, .int x1, .int x2, .int x3, .int x4]) (rest := []) (r1 := some (.int v2)) (h2 := hh S2) 4 (fun n => B_120_3 n x1 x2 x3 x4 S) (Ev.up (by decide) (T_118 S x1 x2 _ _ h2)) ?_
    show Ev X _ 120 13 [.ref 29, .int x1, .int x2, .int x3, .int x4] [.int v2] (hh S2) _
    rcases h3 : G_115 S2 v2 x3 x4 with _ | ⟨v3, S3⟩
    · rw [h3] at hG; cases hG
    rw [h3] at hG
    dsimp only at hG
    refine Ev.c (a := 115) (A := [.int v2, .int x3, .int x4]) (h1 := hh S2) (pc' := 19) (L' := [.ref 29, .int x1, .int x2, .int x3, .int x4]) (rest := []) (r1 := some (.int v3)) (h2 := hh S3) 3 (fun n => B_120_4 n x1 x2 x3 x4 v2 S2) (Ev.up (by decide) (T_115 S2 v2 x3 x4 _ _ h3)) ?_
    show Ev X _ 120 19 [.ref 29, .int x1, .int x2, .int x3, .int x4] [.int v3] (hh S3) _
    by_cases c4 : v3 = 0
    · rw [if_pos c4] at hG
      refine Ev.t (c := v3 = 0) (p1 := 27) (L1 := [.ref 29, .int x1, .int x2, .int x3, .int x4]) (s1 := []) (h1 := hh S3) (p2 := 22) (L2 := [.ref 29, .int x1, .int x2, .int x3, .int x4]) (s2 := []) (h2 := hh S3) 1 (fun n => B_120_5 n x1 x2 x3 x4 v3 S3) c4 ?_
      obtain ⟨e1, e2⟩ := Prod.mk.inj (Option.some.inj hG)
      subst e1
      subst e2
      exact Ev.r 1 (fun n => rfl)
    · rw [if_neg c4] at hG
      refine Ev.f (c := v3 = 0) (p1 := 27) (L1 := [.ref 29, .int x1, .int x2, .int x3, .int x4]) (s1 := []) (h1 := hh S3) (p2 := 22) (L2 := [.ref 29, .int x1, .int x2, .int x3, .int x4]) (s2 := []) (h2 := hh S3) 1 (fun n => B_120_6 n x1 x2 x3 x4 v3 S3) c4 ?_
      refine Ev.g (c := (kd 29).1 = 10 + 8 ∧ (xf_k 8 7 = 0 ∨ (xf_k 8 7 = 1 ∧ (x2 = 0 ∨ x2 = 1)))) (p1 := 27) (L1 := [.ref 29, .int x1, .int x2, .int x3, .int x4]) (s1 := []) (h1 := hh (xa_u S3.1 29 7 x2, S3.2.1, S3.2.2)) 3 (fun n => B_120_7 n x1 x2 x3 x4 S3) (⟨rfl, Or.inl rfl⟩) ?_
      obtain ⟨e1, e2⟩ := Prod.mk.inj (Option.some.inj hG)
      subst e1
      subst e2
      exact Ev.r 1 (fun n => rfl)
/-- 121: SceneCycleModel.mustPoint(II)V -/
def G_121 (S : St) (x1 : Int32) (x2 : Int32) : Option (Unit × St) :=
  (match G_120 S x1 x2 (0 : Int32) (15 : Int32) with
  | none => none
  | some (v1, S1) =>
    (match G_120 S1 x1 (x2 + 1) (0 : Int32) (11 : Int32) with
    | none => none
    | some (v2, S2) =>
      some ((), S2)
    )
  )
theorem B_121_1 {X : Nat × (Nat → Int32)} {d : Nat} (n : Nat) (x1 : Int32) (x2 : Int32) (S : St) : ex X (d + 1) 121 0 [.ref 29, .int x1, .int x2] [] (hh S) (n + 6) = (match ex X d 120 0 [.ref 29, .int x1, .int x2, .int 0, .int 15] [] (hh S) n with | some (v, h') => ex X (d + 1) 121 9 [.ref 29, .int x1, .int x2] (v.toList ++ []) h' n | none => none) := rfl
theorem B_121_2 {X : Nat × (Nat → Int32)} {d : Nat} (n : Nat) (x1 : Int32) (x2 : Int32) (S1 : St) : ex X (d + 1) 121 9 [.ref 29, .int x1, .int x2] [] (hh S1) (n + 8) = (match ex X d 120 0 [.ref 29, .int x1, .int (x2 + 1), .int 0, .int 11] [] (hh S1) n with | some (v, h') => ex X (d + 1) 121 20 [.ref 29, .int x1, .int x2] (v.toList ++ []) h' n | none => none) := rfl
set_option maxRecDepth 200000 in
theorem T_121 {X : Nat × (Nat → Int32)} (S : St) (x1 : Int32) (x2 : Int32) (r : Unit) (S' : St) (hG : G_121 S x1 x2 = some (r, S')) : Ev X 2 121 0 [.ref 29, .int x1, .int x2] [] (hh S) (xV r, hh S') := by
  unfold G_121 at hG
  rcases h1 : G_120 S x1 x2 (0 : Int32) (15 : Int32) with _ | ⟨v1, S1⟩
  · rw [h1] at hG; cases hG
  rw [h1] at hG
  dsimp only at hG
  refine Ev.c (a := 120) (A := [.ref 29, .int x1, .int x2, .int 0, .int 15]) (h1 := hh S) (pc' := 9) (L' := [.ref 29, .int x1, .int x2]) (rest := []) (r1 := none) (h2 := hh S1) 6 (fun n => B_121_1 n x1 x2 S) (Ev.up (by decide) (T_120 S x1 x2 (0 : Int32) (15 : Int32) _ _ h1)) ?_
  show Ev X _ 121 9 [.ref 29, .int x1, .int x2] [] (hh S1) _
  rcases h2 : G_120 S1 x1 (x2 + 1) (0 : Int32) (11 : Int32) with _ | ⟨v2, S2⟩
  · rw [h2] at hG; cases hG
  rw [h2] at hG
  dsimp only at hG
  refine Ev.c (a := 120) (A := [.ref 29, .int x1, .int (x2 + 1), .int 0, .int 11]) (h1 := hh S1) (pc' := 20) (L' := [.ref 29, .int x1, .int x2]) (rest := []) (r1 := none) (h2 := hh S2) 8 (fun n => B_121_2 n x1 x2 S1) (Ev.up (by decide) (T_120 S1 x1 (x2 + 1) (0 : Int32) (11 : Int32) _ _ h2)) ?_
  show Ev X _ 121 20 [.ref 29, .int x1, .int x2] [] (hh S2) _
  obtain ⟨e1, e2⟩ := Prod.mk.inj (Option.some.inj hG)
  subst e1
  subst e2
  exact Ev.r 1 (fun n => rfl)
/-- 126: SceneCycleModel.leaf(III)I -/
def G_126 (S : St) (x1 : Int32) (x2 : Int32) (x3 : Int32) : Option (Int32 × St) :=
  (if x3 = 0 then
    (match G_120 S x1 (x2 + 1) (0 : Int32) (15 : Int32) with
    | none => none
    | some (v2, S2) =>
      (match G_120 S2 x1 (x2 + 2) (0 : Int32) (255 : Int32) with
      | none => none
      | some (v3, S3) =>
        some ((x2 + 3), S3)
      )
    )
  else
    (if x3 = 1 then
      (match G_120 S x1 (x2 + 1) (0 : Int32) (15 : Int32) with
      | none => none
      | some (v5, S5) =>
        (match G_120 S5 x1 (x2 + 2) (0 : Int32) (255 : Int32) with
        | none => none
        | some (v6, S6) =>
          some ((x2 + 3), S6)
        )
      )
    else
      (if x3 = 2 then
        (match G_120 S x1 (x2 + 1) (0 : Int32) (15 : Int32) with
        | none => none
        | some (v8, S8) =>
          some ((x2 + 2), S8)
        )
      else
        (if x3 = 3 then
          (match G_120 S x1 (x2 + 1) (1 : Int32) (255 : Int32) with
          | none => none
          | some (v10, S10) =>
            some ((x2 + 2), S10)
          )
        else
          (match G_120 S x1 (x2 + 1) (0 : Int32) (3 : Int32) with
          | none => none
          | some (v11, S11) =>
            (match G_121 S11 x1 (x2 + 2) with
            | none => none
            | some (v12, S12) =>
              (match G_121 S12 x1 (x2 + 4) with
              | none => none
              | some (v13, S13) =>
                some ((x2 + 6), S13)
              )
            )
          )
        )
      )
    )
  )
theorem B_126_1 {X : Nat × (Nat → Int32)} {d : Nat} (n : Nat) (x1 : Int32) (x2 : Int32) (x3 : Int32) (S : St) : ex X d 126 0 [.ref 29, .int x1, .int x2, .int x3] [] (hh S) (n + 2) = if x3 = 0 then ex X d 126 9 [.ref 29, .int x1, .int x2, .int x3] [] (hh S) n else ex X d 126 4 [.ref 29, .int x1, .int x2, .int x3] [] (hh S) n := rfl
theorem B_126_2 {X : Nat × (Nat → Int32)} {d : Nat} (n : Nat) (x1 : Int32) (x2 : Int32) (x3 : Int32) (S : St) : ex X (d + 1) 126 9 [.ref 29, .int x1, .int x2, .int x3] [] (hh S) (n + 8) = (match ex X d 120 0 [.ref 29, .int x1, .int (x2 + 1), .int 0, .int 15] [] (hh S) n with | some (v, h') => ex X (d + 1) 126 20 [.ref 29, .int x1, .int x2, .int x3] (v.toList ++ []) h' n | none => none) := rfl
theorem B_126_3 {X : Nat × (Nat → Int32)} {d : Nat} (n : Nat) (x1 : Int32) (x2 : Int32) (x3 : Int32) (S2 : St) : ex X (d + 1) 126 20 [.ref 29, .int x1, .int x2, .int x3] [] (hh S2) (n + 8) = (match ex X d 120 0 [.ref 29, .int x1, .int (x2 + 2), .int 0, .int 255] [] (hh S2) n with | some (v, h') => ex X (d + 1) 126 32 [.ref 29, .int x1, .int x2, .int x3] (v.toList ++ []) h' n | none => none) := rfl
theorem B_126_4 {X : Nat × (Nat → Int32)} {d : Nat} (n : Nat) (x1 : Int32) (x2 : Int32) (x3 : Int32) (S : St) : ex X d 126 0 [.ref 29, .int x1, .int x2, .int x3] [] (hh S) (n + 2) = if x3 = 0 then ex X d 126 9 [.ref 29, .int x1, .int x2, .int x3] [] (hh S) n else ex X d 126 4 [.ref 29, .int x1, .int x2, .int x3] [] (hh S) n := rfl
theorem B_126_5 {X : Nat × (Nat → Int32)} {d : Nat} (n : Nat) (x1 : Int32) (x2 : Int32) (x3 : Int32) (S : St) : ex X d 126 4 [.ref 29, .int x1, .int x2, .int x3] [] (hh S) (n + 3) = if x3 = 1 then ex X d 126 9 [.ref 29, .int x1, .int x2, .int x3] [] (hh S) n else ex X d 126 36 [.ref 29, .int x1, .int x2, .int x3] [] (hh S) n := rfl
theorem B_126_6 {X : Nat × (Nat → Int32)} {d : Nat} (n : Nat) (x1 : Int32) (x2 : Int32) (x3 : Int32) (S : St) : ex X (d + 1) 126 9 [.ref 29, .int x1, .int x2, .int x3] [] (hh S) (n + 8) = (match ex X d 120 0 [.ref 29, .int x1, .int (x2 + 1), .int 0, .int 15] [] (hh S) n with | some (v, h') => ex X (d + 1) 126 20 [.ref 29, .int x1, .int x2, .int x3] (v.toList ++ []) h' n | none => none) := rfl
theorem B_126_7 {X : Nat × (Nat → Int32)} {d : Nat} (n : Nat) (x1 : Int32) (x2 : Int32) (x3 : Int32) (S5 : St) : ex X (d + 1) 126 20 [.ref 29, .int x1, .int x2, .int x3] [] (hh S5) (n + 8) = (match ex X d 120 0 [.ref 29, .int x1, .int (x2 + 2), .int 0, .int 255] [] (hh S5) n with | some (v, h') => ex X (d + 1) 126 32 [.ref 29, .int x1, .int x2, .int x3] (v.toList ++ []) h' n | none => none) := rfl
theorem B_126_8 {X : Nat × (Nat → Int32)} {d : Nat} (n : Nat) (x1 : Int32) (x2 : Int32) (x3 : Int32) (S : St) : ex X d 126 4 [.ref 29, .int x1, .int x2, .int x3] [] (hh S) (n + 3) = if x3 = 1 then ex X d 126 9 [.ref 29, .int x1, .int x2, .int x3] [] (hh S) n else ex X d 126 36 [.ref 29, .int x1, .int x2, .int x3] [] (hh S) n := rfl
theorem B_126_9 {X : Nat × (Nat → Int32)} {d : Nat} (n : Nat) (x1 : Int32) (x2 : Int32) (x3 : Int32) (S : St) : ex X d 126 36 [.ref 29, .int x1, .int x2, .int x3] [] (hh S) (n + 3) = if x3 = 2 then ex X d 126 46 [.ref 29, .int x1, .int x2, .int x3] [] (hh S) n else ex X d 126 41 [.ref 29, .int x1, .int x2, .int x3] [] (hh S) n := rfl
theorem B_126_10 {X : Nat × (Nat → Int32)} {d : Nat} (n : Nat) (x1 : Int32) (x2 : Int32) (x3 : Int32) (S : St) : ex X d 126 46 [.ref 29, .int x1, .int x2, .int x3] [] (hh S) (n + 8) = if x3 = 2 then ex X d 126 56 [.ref 29, .int x1, .int x2, .int x3] [.int (x2 + 1), .int x1, .ref 29] (hh S) n else ex X d 126 60 [.ref 29, .int x1, .int x2, .int x3] [.int (x2 + 1), .int x1, .ref 29] (hh S) n := rfl
theorem B_126_11 {X : Nat × (Nat → Int32)} {d : Nat} (n : Nat) (x1 : Int32) (x2 : Int32) (x3 : Int32) (S : St) : ex X d 126 56 [.ref 29, .int x1, .int x2, .int x3] [.int (x2 + 1), .int x1, .ref 29] (hh S) (n + 5) = if x3 = 2 then ex X d 126 66 [.ref 29, .int x1, .int x2, .int x3] [.int 0, .int (x2 + 1), .int x1, .ref 29] (hh S) n else ex X d 126 71 [.ref 29, .int x1, .int x2, .int x3] [.int 0, .int (x2 + 1), .int x1, .ref 29] (hh S) n := rfl
theorem B_126_12 {X : Nat × (Nat → Int32)} {d : Nat} (n : Nat) (x1 : Int32) (x2 : Int32) (x3 : Int32) (S : St) : ex X (d + 1) 126 66 [.ref 29, .int x1, .int x2, .int x3] [.int 0, .int (x2 + 1), .int x1, .ref 29] (hh S) (n + 3) = (match ex X d 120 0 [.ref 29, .int x1, .int (x2 + 1), .int 0, .int 15] [] (hh S) n with | some (v, h') => ex X (d + 1) 126 77 [.ref 29, .int x1, .int x2, .int x3] (v.toList ++ []) h' n | none => none) := rfl
theorem B_126_13 {X : Nat × (Nat → Int32)} {d : Nat} (n : Nat) (x1 : Int32) (x2 : Int32) (x3 : Int32) (S : St) : ex X d 126 36 [.ref 29, .int x1, .int x2, .int x3] [] (hh S) (n + 3) = if x3 = 2 then ex X d 126 46 [.ref 29, .int x1, .int x2, .int x3] [] (hh S) n else ex X d 126 41 [.ref 29, .int x1, .int x2, .int x3] [] (hh S) n := rfl
theorem B_126_14 {X : Nat × (Nat → Int32)} {d : Nat} (n : Nat) (x1 : Int32) (x2 : Int32) (x3 : Int32) (S : St) : ex X d 126 41 [.ref 29, .int x1, .int x2, .int x3] [] (hh S) (n + 3) = if x3 = 3 then ex X d 126 46 [.ref 29, .int x1, .int x2, .int x3] [] (hh S) n else ex X d 126 81 [.ref 29, .int x1, .int x2, .int x3] [] (hh S) n := rfl
theorem B_126_15 {X : Nat × (Nat → Int32)} {d : Nat} (n : Nat) (x1 : Int32) (x2 : Int32) (x3 : Int32) (S : St) : ex X d 126 46 [.ref 29, .int x1, .int x2, .int x3] [] (hh S) (n + 8) = if x3 = 2 then ex X d 126 56 [.ref 29, .int x1, .int x2, .int x3] [.int (x2 + 1), .int x1, .ref 29] (hh S) n else ex X d 126 60 [.ref 29, .int x1, .int x2, .int x3] [.int (x2 + 1), .int x1, .ref 29] (hh S) n := rfl
theorem B_126_16 {X : Nat × (Nat → Int32)} {d : Nat} (n : Nat) (x1 : Int32) (x2 : Int32) (x3 : Int32) (S : St) : ex X d 126 60 [.ref 29, .int x1, .int x2, .int x3] [.int (x2 + 1), .int x1, .ref 29] (hh S) (n + 4) = if x3 = 2 then ex X d 126 66 [.ref 29, .int x1, .int x2, .int x3] [.int 1, .int (x2 + 1), .int x1, .ref 29] (hh S) n else ex X d 126 71 [.ref 29, .int x1, .int x2, .int x3] [.int 1, .int (x2 + 1), .int x1, .ref 29] (hh S) n := rfl
theorem B_126_17 {X : Nat × (Nat → Int32)} {d : Nat} (n : Nat) (x1 : Int32) (x2 : Int32) (x3 : Int32) (S : St) : ex X (d + 1) 126 71 [.ref 29, .int x1, .int x2, .int x3] [.int 1, .int (x2 + 1), .int x1, .ref 29] (hh S) (n + 2) = (match ex X d 120 0 [.ref 29, .int x1, .int (x2 + 1), .int 1, .int 255] [] (hh S) n with | some (v, h') => ex X (d + 1) 126 77 [.ref 29, .int x1, .int x2, .int x3] (v.toList ++ []) h' n | none => none) := rfl
theorem B_126_18 {X : Nat × (Nat → Int32)} {d : Nat} (n : Nat) (x1 : Int32) (x2 : Int32) (x3 : Int32) (S : St) : ex X d 126 41 [.ref 29, .int x1, .int x2, .int x3] [] (hh S) (n + 3) = if x3 = 3 then ex X d 126 46 [.ref 29, .int x1, .int x2, .int x3] [] (hh S) n else ex X d 126 81 [.ref 29, .int x1, .int x2, .int x3] [] (hh S) n := rfl
theorem B_126_19 {X : Nat × (Nat → Int32)} {d : Nat} (n : Nat) (x1 : Int32) (x2 : Int32) (x3 : Int32) (S : St) : ex X (d + 1) 126 81 [.ref 29, .int x1, .int x2, .int x3] [] (hh S) (n + 8) = (match ex X d 120 0 [.ref 29, .int x1, .int (x2 + 1), .int 0, .int 3] [] (hh S) n with | some (v, h') => ex X (d + 1) 126 91 [.ref 29, .int x1, .int x2, .int x3] (v.toList ++ []) h' n | none => none) := rfl
theorem B_126_20 {X : Nat × (Nat → Int32)} {d : Nat} (n : Nat) (x1 : Int32) (x2 : Int32) (x3 : Int32) (S11 : St) : ex X (d + 1) 126 91 [.ref 29, .int x1, .int x2, .int x3] [] (hh S11) (n + 6) = (match ex X d 121 0 [.ref 29, .int x1, .int (x2 + 2)] [] (hh S11) n with | some (v, h') => ex X (d + 1) 126 99 [.ref 29, .int x1, .int x2, .int x3] (v.toList ++ []) h' n | none => none) := rfl
theorem B_126_21 {X : Nat × (Nat → Int32)} {d : Nat} (n : Nat) (x1 : Int32) (x2 : Int32) (x3 : Int32) (S12 : St) : ex X (d + 1) 126 99 [.ref 29, .int x1, .int x2, .int x3] [] (hh S12) (n + 6) = (match ex X d 121 0 [.ref 29, .int x1, .int (x2 + 4)] [] (hh S12) n with | some (v, h') => ex X (d + 1) 126 107 [.ref 29, .int x1, .int x2, .int x3] (v.toList ++ []) h' n | none => none) := rfl
set_option maxRecDepth 200000 in
theorem T_126 {X : Nat × (Nat → Int32)} (S : St) (x1 : Int32) (x2 : Int32) (x3 : Int32) (r : Int32) (S' : St) (hG : G_126 S x1 x2 x3 = some (r, S')) : Ev X 3 126 0 [.ref 29, .int x1, .int x2, .int x3] [] (hh S) (xI r, hh S') := by
  unfold G_126 at hG
  by_cases c1 : x3 = 0
  · rw [if_pos c1] at hG
    refine Ev.t (c := x3 = 0) (p1 := 9) (L1 := [.ref 29, .int x1, .int x2, .int x3]) (s1 := []) (h1 := hh S) (p2 := 4) (L2 := [.ref 29, .int x1, .int x2, .int x3]) (s2 := []) (h2 := hh S) 2 (fun n => B_126_1 n x1 x2 x3 S) c1 ?_
    rcases h2 : G_120 S x1 (x2 + 1) (0 : Int32) (15 : Int32) with _ | ⟨v2, S2⟩
    · rw [h2] at hG; cases hG
    rw [h2] at hG
    dsimp only at hG
    refine Ev.c (a := 120) (A := [.ref 29, .int x1, .int (x2 + 1), .int 0, .int 15]) (h1 := hh S) (pc' := 20) (L' := [.ref 29, .int x1, .int x2, .int x3]) (rest := []) (r1 := none) (h2 := hh S2) 8 (fun n => B_126_2 n x1 x2 x3 S) (Ev.up (by decide) (T_120 S x1 (x2 + 1) (0 : Int32) (15 : Int32) _ _ h2)) ?_
    show Ev X _ 126 20 [.ref 29, .int x1, .int x2, .int x3] [] (hh S2) _
    rcases h3 : G_120 S2 x1 (x2 + 2) (0 : Int32) (255 : Int32) with _ | ⟨v3, S3⟩
    · rw [h3] at hG; cases hG
    rw [h3] at hG
    dsimp only at hG
    refine Ev.c (a := 120) (A := [.ref 29, .int x1, .int (x2 + 2), .int 0, .int 255]) (h1 := hh S2) (pc' := 32) (L' := [.ref 29, .int x1, .int x2, .int x3]) (rest := []) (r1 := none) (h2 := hh S3) 8 (fun n => B_126_3 n x1 x2 x3 S2) (Ev.up (by decide) (T_120 S2 x1 (x2 + 2) (0 : Int32) (255 : Int32) _ _ h3)) ?_
    show Ev X _ 126 32 [.ref 29, .int x1, .int x2, .int x3] [] (hh S3) _
    obtain ⟨e1, e2⟩ := Prod.mk.inj (Option.some.inj hG)
    subst e1
    subst e2
    exact Ev.r 4 (fun n => rfl)
  · rw [if_neg c1] at hG
    refine Ev.f (c := x3 = 0) (p1 := 9) (L1 := [.ref 29, .int x1, .int x2, .int x3]) (s1 := []) (h1 := hh S) (p2 := 4) (L2 := [.ref 29, .int x1, .int x2, .int x3]) (s2 := []) (h2 := hh S) 2 (fun n => B_126_4 n x1 x2 x3 S) c1 ?_
    by_cases c4 : x3 = 1
    · rw [if_pos c4] at hG
      refine Ev.t (c := x3 = 1) (p1 := 9) (L1 := [.ref 29, .int x1, .int x2, .int x3]) (s1 := []) (h1 := hh S) (p2 := 36) (L2 := [.ref 29, .int x1, .int x2, .int x3]) (s2 := []) (h2 := hh S) 3 (fun n => B_126_5 n x1 x2 x3 S) c4 ?_
      rcases h5 : G_120 S x1 (x2 + 1) (0 : Int32) (15 : Int32) with _ | ⟨v5, S5⟩
      · rw [h5] at hG; cases hG
      rw [h5] at hG
      dsimp only at hG
      refine Ev.c (a := 120) (A := [.ref 29, .int x1, .int (x2 + 1), .int 0, .int 15]) (h1 := hh S) (pc' := 20) (L' := [.ref 29, .int x1, .int x2, .int x3]) (rest := []) (r1 := none) (h2 := hh S5) 8 (fun n => B_126_6 n x1 x2 x3 S) (Ev.up (by decide) (T_120 S x1 (x2 + 1) (0 : Int32) (15 : Int32) _ _ h5)) ?_
      show Ev X _ 126 20 [.ref 29, .int x1, .int x2, .int x3] [] (hh S5) _
      rcases h6 : G_120 S5 x1 (x2 + 2) (0 : Int32) (255 : Int32) with _ | ⟨v6, S6⟩
      · rw [h6] at hG; cases hG
      rw [h6] at hG
      dsimp only at hG
      refine Ev.c (a := 120) (A := [.ref 29, .int x1, .int (x2 + 2), .int 0, .int 255]) (h1 := hh S5) (pc' := 32) (L' := [.ref 29, .int x1, .int x2, .int x3]) (rest := []) (r1 := none) (h2 := hh S6) 8 (fun n => B_126_7 n x1 x2 x3 S5) (Ev.up (by decide) (T_120 S5 x1 (x2 + 2) (0 : Int32) (255 : Int32) _ _ h6)) ?_
      show Ev X _ 126 32 [.ref 29, .int x1, .int x2, .int x3] [] (hh S6) _
      obtain ⟨e1, e2⟩ := Prod.mk.inj (Option.some.inj hG)
      subst e1
      subst e2
      exact Ev.r 4 (fun n => rfl)
    · rw [if_neg c4] at hG
      refine Ev.f (c := x3 = 1) (p1 := 9) (L1 := [.ref 29, .int x1, .int x2, .int x3]) (s1 := []) (h1 := hh S) (p2 := 36) (L2 := [.ref 29, .int x1, .int x2, .int x3]) (s2 := []) (h2 := hh S) 3 (fun n => B_126_8 n x1 x2 x3 S) c4 ?_
      by_cases c7 : x3 = 2
      · rw [if_pos c7] at hG
        refine Ev.t (c := x3 = 2) (p1 := 46) (L1 := [.ref 29, .int x1, .int x2, .int x3]) (s1 := []) (h1 := hh S) (p2 := 41) (L2 := [.ref 29, .int x1, .int x2, .int x3]) (s2 := []) (h2 := hh S) 3 (fun n => B_126_9 n x1 x2 x3 S) c7 ?_
        refine Ev.t (c := x3 = 2) (p1 := 56) (L1 := [.ref 29, .int x1, .int x2, .int x3]) (s1 := [.int (x2 + 1), .int x1, .ref 29]) (h1 := hh S) (p2 := 60) (L2 := [.ref 29, .int x1, .int x2, .int x3]) (s2 := [.int (x2 + 1), .int x1, .ref 29]) (h2 := hh S) 8 (fun n => B_126_10 n x1 x2 x3 S) c7 ?_
        refine Ev.t (c := x3 = 2) (p1 := 66) (L1 := [.ref 29, .int x1, .int x2, .int x3]) (s1 := [.int 0, .int (x2 + 1), .int x1, .ref 29]) (h1 := hh S) (p2 := 71) (L2 := [.ref 29, .int x1, .int x2, .int x3]) (s2 := [.int 0, .int (x2 + 1), .int x1, .ref 29]) (h2 := hh S) 5 (fun n => B_126_11 n x1 x2 x3 S) c7 ?_
        rcases h8 : G_120 S x1 (x2 + 1) (0 : Int32) (15 : Int32) with _ | ⟨v8, S8⟩
        · rw [h8] at hG; cases hG
        rw [h8] at hG
        dsimp only at hG
        refine Ev.c (a := 120) (A := [.ref 29, .int x1, .int (x2 + 1), .int 0, .int 15]) (h1 := hh S) (pc' := 77) (L' := [.ref 29, .int x1, .int x2, .int x3]) (rest := []) (r1 := none) (h2 := hh S8) 3 (fun n => B_126_12 n x1 x2 x3 S) (Ev.up (by decide) (T_120 S x1 (x2 + 1) (0 : Int32) (15 : Int32) _ _ h8)) ?_
        show Ev X _ 126 77 [.ref 29, .int x1, .int x2, .int x3] [] (hh S8) _
        obtain ⟨e1, e2⟩ := Prod.mk.inj (Option.some.inj hG)
        subst e1
        subst e2
        exact Ev.r 4 (fun n => rfl)
      · rw [if_neg c7] at hG
        refine Ev.f (c := x3 = 2) (p1 := 46) (L1 := [.ref 29, .int x1, .int x2, .int x3]) (s1 := []) (h1 := hh S) (p2 := 41) (L2 := [.ref 29, .int x1, .int x2, .int x3]) (s2 := []) (h2 := hh S) 3 (fun n => B_126_13 n x1 x2 x3 S) c7 ?_
        by_cases c9 : x3 = 3
        · rw [if_pos c9] at hG
          refine Ev.t (c := x3 = 3) (p1 := 46) (L1 := [.ref 29, .int x1, .int x2, .int x3]) (s1 := []) (h1 := hh S) (p2 := 81) (L2 := [.ref 29, .int x1, .int x2, .int x3]) (s2 := []) (h2 := hh S) 3 (fun n => B_126_14 n x1 x2 x3 S) c9 ?_
          refine Ev.f (c := x3 = 2) (p1 := 56) (L1 := [.ref 29, .int x1, .int x2, .int x3]) (s1 := [.int (x2 + 1), .int x1, .ref 29]) (h1 := hh S) (p2 := 60) (L2 := [.ref 29, .int x1, .int x2, .int x3]) (s2 := [.int (x2 + 1), .int x1, .ref 29]) (h2 := hh S) 8 (fun n => B_126_15 n x1 x2 x3 S) c7 ?_
          refine Ev.f (c := x3 = 2) (p1 := 66) (L1 := [.ref 29, .int x1, .int x2, .int x3]) (s1 := [.int 1, .int (x2 + 1), .int x1, .ref 29]) (h1 := hh S) (p2 := 71) (L2 := [.ref 29, .int x1, .int x2, .int x3]) (s2 := [.int 1, .int (x2 + 1), .int x1, .ref 29]) (h2 := hh S) 4 (fun n => B_126_16 n x1 x2 x3 S) c7 ?_
          rcases h10 : G_120 S x1 (x2 + 1) (1 : Int32) (255 : Int32) with _ | ⟨v10, S10⟩
          · rw [h10] at hG; cases hG
          rw [h10] at hG
          dsimp only at hG
          refine Ev.c (a := 120) (A := [.ref 29, .int x1, .int (x2 + 1), .int 1, .int 255]) (h1 := hh S) (pc' := 77) (L' := [.ref 29, .int x1, .int x2, .int x3]) (rest := []) (r1 := none) (h2 := hh S10) 2 (fun n => B_126_17 n x1 x2 x3 S) (Ev.up (by decide) (T_120 S x1 (x2 + 1) (1 : Int32) (255 : Int32) _ _ h10)) ?_
          show Ev X _ 126 77 [.ref 29, .int x1, .int x2, .int x3] [] (hh S10) _
          obtain ⟨e1, e2⟩ := Prod.mk.inj (Option.some.inj hG)
          subst e1
          subst e2
          exact Ev.r 4 (fun n => rfl)
        · rw [if_neg c9] at hG
          refine Ev.f (c := x3 = 3) (p1 := 46) (L1 := [.ref 29, .int x1, .int x2, .int x3]) (s1 := []) (h1 := hh S) (p2 := 81) (L2 := [.ref 29, .int x1, .int x2, .int x3]) (s2 := []) (h2 := hh S) 3 (fun n => B_126_18 n x1 x2 x3 S) c9 ?_
          rcases h11 : G_120 S x1 (x2 + 1) (0 : Int32) (3 : Int32) with _ | ⟨v11, S11⟩
          · rw [h11] at hG; cases hG
          rw [h11] at hG
          dsimp only at hG
          refine Ev.c (a := 120) (A := [.ref 29, .int x1, .int (x2 + 1), .int 0, .int 3]) (h1 := hh S) (pc' := 91) (L' := [.ref 29, .int x1, .int x2, .int x3]) (rest := []) (r1 := none) (h2 := hh S11) 8 (fun n => B_126_19 n x1 x2 x3 S) (Ev.up (by decide) (T_120 S x1 (x2 + 1) (0 : Int32) (3 : Int32) _ _ h11)) ?_
          show Ev X _ 126 91 [.ref 29, .int x1, .int x2, .int x3] [] (hh S11) _
          rcases h12 : G_121 S11 x1 (x2 + 2) with _ | ⟨v12, S12⟩
          · rw [h12] at hG; cases hG
          rw [h12] at hG
          dsimp only at hG
          refine Ev.c (a := 121) (A := [.ref 29, .int x1, .int (x2 + 2)]) (h1 := hh S11) (pc' := 99) (L' := [.ref 29, .int x1, .int x2, .int x3]) (rest := []) (r1 := none) (h2 := hh S12) 6 (fun n => B_126_20 n x1 x2 x3 S11) (Ev.up (by decide) (T_121 S11 x1 (x2 + 2) _ _ h12)) ?_
          show Ev X _ 126 99 [.ref 29, .int x1, .int x2, .int x3] [] (hh S12) _
          rcases h13 : G_121 S12 x1 (x2 + 4) with _ | ⟨v13, S13⟩
          · rw [h13] at hG; cases hG
          rw [h13] at hG
          dsimp only at hG
          refine Ev.c (a := 121) (A := [.ref 29, .int x1, .int (x2 + 4)]) (h1 := hh S12) (pc' := 107) (L' := [.ref 29, .int x1, .int x2, .int x3]) (rest := []) (r1 := none) (h2 := hh S13) 6 (fun n => B_126_21 n x1 x2 x3 S12) (Ev.up (by decide) (T_121 S12 x1 (x2 + 4) _ _ h13)) ?_
          show Ev X _ 126 107 [.ref 29, .int x1, .int x2, .int x3] [] (hh S13) _
          obtain ⟨e1, e2⟩ := Prod.mk.inj (Option.some.inj hG)
          subst e1
          subst e2
          exact Ev.r 4 (fun n => rfl)
/-- 125: SceneCycleModel.test(II)I -/
def GL_125_0 : Nat → Nat → St → Int32 → Int32 → Int32 → Option (Int32 × St)
  | 0, _, _, _, _, _ => none
  | n + 1, 0, S, y1, y3, y4 =>
    (if 0 ≤ (S.1 29 7) then
      some (y3, S)
    else
      (if (S.1 37 ((0 : Int32)).toNatClampNeg) ≤ 0 then
        some (y3, S)
      else
        (match G_118 S y1 y3 with
        | none => none
        | some (v3, S3) =>
          (if y4 = 6 then
            (match G_120 S3 y1 y3 (0 : Int32) (4 : Int32) with
            | none => none
            | some (v5, S5) =>
              (if xa_in (S5.1 29 10) 64 then
                (if 63 ≤ ((xa_u S5.1 38 (((S5.1 29 10)).toNatClampNeg) y3) 29 10) then
                  (if v3 < 5 then
                    (match G_126 (xa_u (xa_u S5.1 38 (((S5.1 29 10)).toNatClampNeg) y3) 29 10 ((xa_u S5.1 38 (((S5.1 29 10)).toNatClampNeg) y3) 29 10), S5.2.1, S5.2.2) y1 y3 v3 with
                    | none => none
                    | some (v9, S9) =>
                      (if xa_in y4 8 then
                        GL_125_0 n 1 (xa_u S9.1 37 ((y4).toNatClampNeg) ((S9.1 37 (y4).toNatClampNeg) - 1), S9.2.1, S9.2.2) y1 v9 y4
                      else none)
                    )
                  else
                    (if 7 ≤ y4 then
                      (if v3 = 5 then
                        (if xa_in y4 8 then
                          GL_125_0 n 0 (xa_u (xa_u (xa_u S5.1 38 (((S5.1 29 10)).toNatClampNeg) y3) 29 10 ((xa_u S5.1 38 (((S5.1 29 10)).toNatClampNeg) y3) 29 10)) 37 ((y4).toNatClampNeg) 1, S5.2.1, S5.2.2) y1 (y3 + 1) y4
                        else none)
                      else
                        (if xa_in y4 8 then
                          GL_125_0 n 0 (xa_u (xa_u (xa_u S5.1 38 (((S5.1 29 10)).toNatClampNeg) y3) 29 10 ((xa_u S5.1 38 (((S5.1 29 10)).toNatClampNeg) y3) 29 10)) 37 ((y4).toNatClampNeg) 2, S5.2.1, S5.2.2) y1 (y3 + 1) y4
                        else none)
                      )
                    else
                      (if v3 = 5 then
                        (if xa_in (y4 + 1) 8 then
                          GL_125_0 n 0 (xa_u (xa_u (xa_u S5.1 38 (((S5.1 29 10)).toNatClampNeg) y3) 29 10 ((xa_u S5.1 38 (((S5.1 29 10)).toNatClampNeg) y3) 29 10)) 37 (((y4 + 1)).toNatClampNeg) 1, S5.2.1, S5.2.2) y1 (y3 + 1) (y4 + 1)
                        else none)
                      else
                        (if xa_in (y4 + 1) 8 then
                          GL_125_0 n 0 (xa_u (xa_u (xa_u S5.1 38 (((S5.1 29 10)).toNatClampNeg) y3) 29 10 ((xa_u S5.1 38 (((S5.1 29 10)).toNatClampNeg) y3) 29 10)) 37 (((y4 + 1)).toNatClampNeg) 2, S5.2.1, S5.2.2) y1 (y3 + 1) (y4 + 1)
                        else none)
                      )
                    )
                  )
                else
                  (if v3 < 5 then
                    (match G_126 (xa_u (xa_u S5.1 38 (((S5.1 29 10)).toNatClampNeg) y3) 29 10 (((xa_u S5.1 38 (((S5.1 29 10)).toNatClampNeg) y3) 29 10) + 1), S5.2.1, S5.2.2) y1 y3 v3 with
                    | none => none
                    | some (v19, S19) =>
                      (if xa_in y4 8 then
                        GL_125_0 n 1 (xa_u S19.1 37 ((y4).toNatClampNeg) ((S19.1 37 (y4).toNatClampNeg) - 1), S19.2.1, S19.2.2) y1 v19 y4
                      else none)
                    )
                  else
                    (if 7 ≤ y4 then
                      (if v3 = 5 then
                        (if xa_in y4 8 then
                          GL_125_0 n 0 (xa_u (xa_u (xa_u S5.1 38 (((S5.1 29 10)).toNatClampNeg) y3) 29 10 (((xa_u S5.1 38 (((S5.1 29 10)).toNatClampNeg) y3) 29 10) + 1)) 37 ((y4).toNatClampNeg) 1, S5.2.1, S5.2.2) y1 (y3 + 1) y4
                        else none)
                      else
                        (if xa_in y4 8 then
                          GL_125_0 n 0 (xa_u (xa_u (xa_u S5.1 38 (((S5.1 29 10)).toNatClampNeg) y3) 29 10 (((xa_u S5.1 38 (((S5.1 29 10)).toNatClampNeg) y3) 29 10) + 1)) 37 ((y4).toNatClampNeg) 2, S5.2.1, S5.2.2) y1 (y3 + 1) y4
                        else none)
                      )
                    else
                      (if v3 = 5 then
                        (if xa_in (y4 + 1) 8 then
                          GL_125_0 n 0 (xa_u (xa_u (xa_u S5.1 38 (((S5.1 29 10)).toNatClampNeg) y3) 29 10 (((xa_u S5.1 38 (((S5.1 29 10)).toNatClampNeg) y3) 29 10) + 1)) 37 (((y4 + 1)).toNatClampNeg) 1, S5.2.1, S5.2.2) y1 (y3 + 1) (y4 + 1)
                        else none)
                      else
                        (if xa_in (y4 + 1) 8 then
                          GL_125_0 n 0 (xa_u (xa_u (xa_u S5.1 38 (((S5.1 29 10)).toNatClampNeg) y3) 29 10 (((xa_u S5.1 38 (((S5.1 29 10)).toNatClampNeg) y3) 29 10) + 1)) 37 (((y4 + 1)).toNatClampNeg) 2, S5.2.1, S5.2.2) y1 (y3 + 1) (y4 + 1)
                        else none)
                      )
                    )
                  )
                )
              else none)
            )
          else
            (match G_120 S3 y1 y3 (0 : Int32) (7 : Int32) with
            | none => none
            | some (v28, S28) =>
              (if xa_in (S28.1 29 10) 64 then
                (if 63 ≤ ((xa_u S28.1 38 (((S28.1 29 10)).toNatClampNeg) y3) 29 10) then
                  (if v3 < 5 then
                    (match G_126 (xa_u (xa_u S28.1 38 (((S28.1 29 10)).toNatClampNeg) y3) 29 10 ((xa_u S28.1 38 (((S28.1 29 10)).toNatClampNeg) y3) 29 10), S28.2.1, S28.2.2) y1 y3 v3 with
                    | none => none
                    | some (v32, S32) =>
                      (if xa_in y4 8 then
                        GL_125_0 n 1 (xa_u S32.1 37 ((y4).toNatClampNeg) ((S32.1 37 (y4).toNatClampNeg) - 1), S32.2.1, S32.2.2) y1 v32 y4
                      else none)
                    )
                  else
                    (if 7 ≤ y4 then
                      (if v3 = 5 then
                        (if xa_in y4 8 then
                          GL_125_0 n 0 (xa_u (xa_u (xa_u S28.1 38 (((S28.1 29 10)).toNatClampNeg) y3) 29 10 ((xa_u S28.1 38 (((S28.1 29 10)).toNatClampNeg) y3) 29 10)) 37 ((y4).toNatClampNeg) 1, S28.2.1, S28.2.2) y1 (y3 + 1) y4
                        else none)
                      else
                        (if xa_in y4 8 then
                          GL_125_0 n 0 (xa_u (xa_u (xa_u S28.1 38 (((S28.1 29 10)).toNatClampNeg) y3) 29 10 ((xa_u S28.1 38 (((S28.1 29 10)).toNatClampNeg) y3) 29 10)) 37 ((y4).toNatClampNeg) 2, S28.2.1, S28.2.2) y1 (y3 + 1) y4
                        else none)
                      )
                    else
                      (if v3 = 5 then
                        (if xa_in (y4 + 1) 8 then
                          GL_125_0 n 0 (xa_u (xa_u (xa_u S28.1 38 (((S28.1 29 10)).toNatClampNeg) y3) 29 10 ((xa_u S28.1 38 (((S28.1 29 10)).toNatClampNeg) y3) 29 10)) 37 (((y4 + 1)).toNatClampNeg) 1, S28.2.1, S28.2.2) y1 (y3 + 1) (y4 + 1)
                        else none)
                      else
                        (if xa_in (y4 + 1) 8 then
                          GL_125_0 n 0 (xa_u (xa_u (xa_u S28.1 38 (((S28.1 29 10)).toNatClampNeg) y3) 29 10 ((xa_u S28.1 38 (((S28.1 29 10)).toNatClampNeg) y3) 29 10)) 37 (((y4 + 1)).toNatClampNeg) 2, S28.2.1, S28.2.2) y1 (y3 + 1) (y4 + 1)
                        else none)
                      )
                    )
                  )
                else
                  (if v3 < 5 then
                    (match G_126 (xa_u (xa_u S28.1 38 (((S28.1 29 10)).toNatClampNeg) y3) 29 10 (((xa_u S28.1 38 (((S28.1 29 10)).toNatClampNeg) y3) 29 10) + 1), S28.2.1, S28.2.2) y1 y3 v3 with
                    | none => none
                    | some (v42, S42) =>
                      (if xa_in y4 8 then
                        GL_125_0 n 1 (xa_u S42.1 37 ((y4).toNatClampNeg) ((S42.1 37 (y4).toNatClampNeg) - 1), S42.2.1, S42.2.2) y1 v42 y4
                      else none)
                    )
                  else
                    (if 7 ≤ y4 then
                      (if v3 = 5 then
                        (if xa_in y4 8 then
                          GL_125_0 n 0 (xa_u (xa_u (xa_u S28.1 38 (((S28.1 29 10)).toNatClampNeg) y3) 29 10 (((xa_u S28.1 38 (((S28.1 29 10)).toNatClampNeg) y3) 29 10) + 1)) 37 ((y4).toNatClampNeg) 1, S28.2.1, S28.2.2) y1 (y3 + 1) y4
                        else none)
                      else
                        (if xa_in y4 8 then
                          GL_125_0 n 0 (xa_u (xa_u (xa_u S28.1 38 (((S28.1 29 10)).toNatClampNeg) y3) 29 10 (((xa_u S28.1 38 (((S28.1 29 10)).toNatClampNeg) y3) 29 10) + 1)) 37 ((y4).toNatClampNeg) 2, S28.2.1, S28.2.2) y1 (y3 + 1) y4
                        else none)
                      )
                    else
                      (if v3 = 5 then
                        (if xa_in (y4 + 1) 8 then
                          GL_125_0 n 0 (xa_u (xa_u (xa_u S28.1 38 (((S28.1 29 10)).toNatClampNeg) y3) 29 10 (((xa_u S28.1 38 (((S28.1 29 10)).toNatClampNeg) y3) 29 10) + 1)) 37 (((y4 + 1)).toNatClampNeg) 1, S28.2.1, S28.2.2) y1 (y3 + 1) (y4 + 1)
                        else none)
                      else
                        (if xa_in (y4 + 1) 8 then
                          GL_125_0 n 0 (xa_u (xa_u (xa_u S28.1 38 (((S28.1 29 10)).toNatClampNeg) y3) 29 10 (((xa_u S28.1 38 (((S28.1 29 10)).toNatClampNeg) y3) 29 10) + 1)) 37 (((y4 + 1)).toNatClampNeg) 2, S28.2.1, S28.2.2) y1 (y3 + 1) (y4 + 1)
                        else none)
                      )
                    )
                  )
                )
              else none)
            )
          )
        )
      )
    )
  | n + 1, _ + 1, S, y1, y3, y4 =>
    (if y4 ≤ 0 then
      GL_125_0 n 0 S y1 y3 y4
    else
      (if xa_in y4 8 then
        (if (S.1 37 (y4).toNatClampNeg) = 0 then
          xlet (y4 + (-1)) (fun z54 =>
            (if xa_in z54 8 then
              GL_125_0 n 1 (xa_u S.1 37 ((z54).toNatClampNeg) ((S.1 37 (z54).toNatClampNeg) - 1), S.2.1, S.2.2) y1 y3 z54
            else none)
          )
        else
          GL_125_0 n 0 S y1 y3 y4
        )
      else none)
    )
theorem B_125_1 {X : Nat × (Nat → Int32)} {d : Nat} (n : Nat) (y1 : Int32) (w2 : Value) (y3 : Int32) (y4 : Int32) (w5 : Value) (S : St) : ex X d 125 17 [.ref 29, .int y1, w2, .int y3, .int y4, w5] [] (hh S) (n + 3) = if 0 ≤ (S.1 29 7) then ex X d 125 200 [.ref 29, .int y1, w2, .int y3, .int y4, w5] [] (hh S) n else ex X d 125 24 [.ref 29, .int y1, w2, .int y3, .int y4, w5] [] (hh S) n := rfl
theorem B_125_2 {X : Nat × (Nat → Int32)} {d : Nat} (n : Nat) (y1 : Int32) (w2 : Value) (y3 : Int32) (y4 : Int32) (w5 : Value) (S : St) : ex X d 125 17 [.ref 29, .int y1, w2, .int y3, .int y4, w5] [] (hh S) (n + 3) = if 0 ≤ (S.1 29 7) then ex X d 125 200 [.ref 29, .int y1, w2, .int y3, .int y4, w5] [] (hh S) n else ex X d 125 24 [.ref 29, .int y1, w2, .int y3, .int y4, w5] [] (hh S) n := rfl
theorem B_125_3 {X : Nat × (Nat → Int32)} {d : Nat} (n : Nat) (y1 : Int32) (w2 : Value) (y3 : Int32) (y4 : Int32) (w5 : Value) (S : St) : ex X d 125 24 [.ref 29, .int y1, w2, .int y3, .int y4, w5] [] (hh S) (n + 4) = if (kd 37).1 = 0 ∧ xa_in (0 : Int32) (kd 37).2 then ex X d 125 30 [.ref 29, .int y1, w2, .int y3, .int y4, w5] [.int (S.1 37 ((0 : Int32)).toNatClampNeg)] (hh S) n else none := rfl
theorem B_125_4 {X : Nat × (Nat → Int32)} {d : Nat} (n : Nat) (y1 : Int32) (w2 : Value) (y3 : Int32) (y4 : Int32) (w5 : Value) (S : St) : ex X d 125 30 [.ref 29, .int y1, w2, .int y3, .int y4, w5] [.int (S.1 37 ((0 : Int32)).toNatClampNeg)] (hh S) (n + 1) = if (S.1 37 ((0 : Int32)).toNatClampNeg) ≤ 0 then ex X d 125 200 [.ref 29, .int y1, w2, .int y3, .int y4, w5] [] (hh S) n else ex X d 125 33 [.ref 29, .int y1, w2, .int y3, .int y4, w5] [] (hh S) n := rfl
theorem B_125_5 {X : Nat × (Nat → Int32)} {d : Nat} (n : Nat) (y1 : Int32) (w2 : Value) (y3 : Int32) (y4 : Int32) (w5 : Value) (S : St) : ex X d 125 30 [.ref 29, .int y1, w2, .int y3, .int y4, w5] [.int (S.1 37 ((0 : Int32)).toNatClampNeg)] (hh S) (n + 1) = if (S.1 37 ((0 : Int32)).toNatClampNeg) ≤ 0 then ex X d 125 200 [.ref 29, .int y1, w2, .int y3, .int y4, w5] [] (hh S) n else ex X d 125 33 [.ref 29, .int y1, w2, .int y3, .int y4, w5] [] (hh S) n := rfl
theorem B_125_6 {X : Nat × (Nat → Int32)} {d : Nat} (n : Nat) (y1 : Int32) (w2 : Value) (y3 : Int32) (y4 : Int32) (w5 : Value) (S : St) : ex X (d + 1) 125 33 [.ref 29, .int y1, w2, .int y3, .int y4, w5] [] (hh S) (n + 4) = (match ex X d 118 0 [.ref 29, .int y1, .int y3] [] (hh S) n with | some (v, h') => ex X (d + 1) 125 39 [.ref 29, .int y1, w2, .int y3, .int y4, w5] (v.toList ++ []) h' n | none => none) := rfl
theorem B_125_7 {X : Nat × (Nat → Int32)} {d : Nat} (n : Nat) (y1 : Int32) (w2 : Value) (y3 : Int32) (y4 : Int32) (w5 : Value) (v3 : Int32) (S3 : St) : ex X d 125 39 [.ref 29, .int y1, w2, .int y3, .int y4, w5] [.int v3] (hh S3) (n + 8) = if y4 = 6 then ex X d 125 52 [.ref 29, .int y1, w2, .int y3, .int y4, .int v3] [.int 0, .int y3, .int y1, .ref 29] (hh S3) n else ex X d 125 56 [.ref 29, .int y1, w2, .int y3, .int y4, .int v3] [.int 0, .int y3, .int y1, .ref 29] (hh S3) n := rfl
theorem B_125_8 {X : Nat × (Nat → Int32)} {d : Nat} (n : Nat) (y1 : Int32) (w2 : Value) (y3 : Int32) (y4 : Int32) (v3 : Int32) (S3 : St) : ex X (d + 1) 125 52 [.ref 29, .int y1, w2, .int y3, .int y4, .int v3] [.int 0, .int y3, .int y1, .ref 29] (hh S3) (n + 3) = (match ex X d 120 0 [.ref 29, .int y1, .int y3, .int 0, .int 4] [] (hh S3) n with | some (v, h') => ex X (d + 1) 125 61 [.ref 29, .int y1, w2, .int y3, .int y4, .int v3] (v.toList ++ []) h' n | none => none) := rfl
theorem B_125_9 {X : Nat × (Nat → Int32)} {d : Nat} (n : Nat) (y1 : Int32) (w2 : Value) (y3 : Int32) (y4 : Int32) (v3 : Int32) (S5 : St) : ex X d 125 61 [.ref 29, .int y1, w2, .int y3, .int y4, .int v3] [] (hh S5) (n + 6) = if (kd 38).1 = 0 ∧ xa_in (S5.1 29 10) (kd 38).2 then ex X d 125 71 [.ref 29, .int y1, w2, .int y3, .int y4, .int v3] [] (hh (xa_u S5.1 38 (((S5.1 29 10)).toNatClampNeg) y3, S5.2.1, S5.2.2)) n else none := rfl
theorem B_125_10 {X : Nat × (Nat → Int32)} {d : Nat} (n : Nat) (y1 : Int32) (w2 : Value) (y3 : Int32) (y4 : Int32) (v3 : Int32) (S5 : St) : ex X d 125 71 [.ref 29, .int y1, w2, .int y3, .int y4, .int v3] [] (hh (xa_u S5.1 38 (((S5.1 29 10)).toNatClampNeg) y3, S5.2.1, S5.2.2)) (n + 5) = if 63 ≤ ((xa_u S5.1 38 (((S5.1 29 10)).toNatClampNeg) y3) 29 10) then ex X d 125 90 [.ref 29, .int y1, w2, .int y3, .int y4, .int v3] [.ref 29] (hh (xa_u S5.1 38 (((S5.1 29 10)).toNatClampNeg) y3, S5.2.1, S5.2.2)) n else ex X d 125 81 [.ref 29, .int y1, w2, .int y3, .int y4, .int v3] [.ref 29] (hh (xa_u S5.1 38 (((S5.1 29 10)).toNatClampNeg) y3, S5.2.1, S5.2.2)) n := rfl
theorem B_125_11 {X : Nat × (Nat → Int32)} {d : Nat} (n : Nat) (y1 : Int32) (w2 : Value) (y3 : Int32) (y4 : Int32) (v3 : Int32) (S5 : St) : ex X d 125 90 [.ref 29, .int y1, w2, .int y3, .int y4, .int v3] [.ref 29] (hh (xa_u S5.1 38 (((S5.1 29 10)).toNatClampNeg) y3, S5.2.1, S5.2.2)) (n + 3) = if (kd 29).1 = 10 + 8 ∧ (xf_k 8 10 = 0 ∨ (xf_k 8 10 = 1 ∧ (((xa_u S5.1 38 (((S5.1 29 10)).toNatClampNeg) y3) 29 10) = 0 ∨ ((xa_u S5.1 38 (((S5.1 29 10)).toNatClampNeg) y3) 29 10) = 1))) then ex X d 125 97 [.ref 29, .int y1, w2, .int y3, .int y4, .int v3] [] (hh (xa_u (xa_u S5.1 38 (((S5.1 29 10)).toNatClampNeg) y3) 29 10 ((xa_u S5.1 38 (((S5.1 29 10)).toNatClampNeg) y3) 29 10), S5.2.1, S5.2.2)) n else none := rfl
theorem B_125_12 {X : Nat × (Nat → Int32)} {d : Nat} (n : Nat) (y1 : Int32) (w2 : Value) (y3 : Int32) (y4 : Int32) (v3 : Int32) (S5 : St) : ex X d 125 97 [.ref 29, .int y1, w2, .int y3, .int y4, .int v3] [] (hh (xa_u (xa_u S5.1 38 (((S5.1 29 10)).toNatClampNeg) y3) 29 10 ((xa_u S5.1 38 (((S5.1 29 10)).toNatClampNeg) y3) 29 10), S5.2.1, S5.2.2)) (n + 3) = if v3 < 5 then ex X d 125 145 [.ref 29, .int y1, w2, .int y3, .int y4, .int v3] [] (hh (xa_u (xa_u S5.1 38 (((S5.1 29 10)).toNatClampNeg) y3) 29 10 ((xa_u S5.1 38 (((S5.1 29 10)).toNatClampNeg) y3) 29 10), S5.2.1, S5.2.2)) n else ex X d 125 103 [.ref 29, .int y1, w2, .int y3, .int y4, .int v3] [] (hh (xa_u (xa_u S5.1 38 (((S5.1 29 10)).toNatClampNeg) y3) 29 10 ((xa_u S5.1 38 (((S5.1 29 10)).toNatClampNeg) y3) 29 10), S5.2.1, S5.2.2)) n := rfl
theorem B_125_13 {X : Nat × (Nat → Int32)} {d : Nat} (n : Nat) (y1 : Int32) (w2 : Value) (y3 : Int32) (y4 : Int32) (v3 : Int32) (S5 : St) : ex X (d + 1) 125 145 [.ref 29, .int y1, w2, .int y3, .int y4, .int v3] [] (hh (xa_u (xa_u S5.1 38 (((S5.1 29 10)).toNatClampNeg) y3) 29 10 ((xa_u S5.1 38 (((S5.1 29 10)).toNatClampNeg) y3) 29 10), S5.2.1, S5.2.2)) (n + 5) = (match ex X d 126 0 [.ref 29, .int y1, .int y3, .int v3] [] (hh (xa_u (xa_u S5.1 38 (((S5.1 29 10)).toNatClampNeg) y3) 29 10 ((xa_u S5.1 38 (((S5.1 29 10)).toNatClampNeg) y3) 29 10), S5.2.1, S5.2.2)) n with | some (v, h') => ex X (d + 1) 125 153 [.ref 29, .int y1, w2, .int y3, .int y4, .int v3] (v.toList ++ []) h' n | none => none) := rfl
theorem B_125_14 {X : Nat × (Nat → Int32)} {d : Nat} (n : Nat) (y1 : Int32) (w2 : Value) (y3 : Int32) (y4 : Int32) (v3 : Int32) (v9 : Int32) (S9 : St) : ex X d 125 153 [.ref 29, .int y1, w2, .int y3, .int y4, .int v3] [.int v9] (hh S9) (n + 6) = if (kd 37).1 = 0 ∧ xa_in y4 (kd 37).2 then ex X d 125 162 [.ref 29, .int y1, w2, .int v9, .int y4, .int v3] [.int (S9.1 37 (y4).toNatClampNeg), .int y4, .ref 37] (hh S9) n else none := rfl
theorem B_125_15 {X : Nat × (Nat → Int32)} {d : Nat} (n : Nat) (y1 : Int32) (w2 : Value) (v9 : Int32) (y4 : Int32) (v3 : Int32) (S9 : St) : ex X d 125 162 [.ref 29, .int y1, w2, .int v9, .int y4, .int v3] [.int (S9.1 37 (y4).toNatClampNeg), .int y4, .ref 37] (hh S9) (n + 3) = if (kd 37).1 = 0 ∧ xa_in y4 (kd 37).2 then ex X d 125 165 [.ref 29, .int y1, w2, .int v9, .int y4, .int v3] [] (hh (xa_u S9.1 37 ((y4).toNatClampNeg) ((S9.1 37 (y4).toNatClampNeg) - 1), S9.2.1, S9.2.2)) n else none := rfl
theorem B_125_16 {X : Nat × (Nat → Int32)} {d : Nat} (n : Nat) (y1 : Int32) (w2 : Value) (y3 : Int32) (y4 : Int32) (v3 : Int32) (S5 : St) : ex X d 125 97 [.ref 29, .int y1, w2, .int y3, .int y4, .int v3] [] (hh (xa_u (xa_u S5.1 38 (((S5.1 29 10)).toNatClampNeg) y3) 29 10 ((xa_u S5.1 38 (((S5.1 29 10)).toNatClampNeg) y3) 29 10), S5.2.1, S5.2.2)) (n + 3) = if v3 < 5 then ex X d 125 145 [.ref 29, .int y1, w2, .int y3, .int y4, .int v3] [] (hh (xa_u (xa_u S5.1 38 (((S5.1 29 10)).toNatClampNeg) y3) 29 10 ((xa_u S5.1 38 (((S5.1 29 10)).toNatClampNeg) y3) 29 10), S5.2.1, S5.2.2)) n else ex X d 125 103 [.ref 29, .int y1, w2, .int y3, .int y4, .int v3] [] (hh (xa_u (xa_u S5.1 38 (((S5.1 29 10)).toNatClampNeg) y3) 29 10 ((xa_u S5.1 38 (((S5.1 29 10)).toNatClampNeg) y3) 29 10), S5.2.1, S5.2.2)) n := rfl
theorem B_125_17 {X : Nat × (Nat → Int32)} {d : Nat} (n : Nat) (y1 : Int32) (w2 : Value) (y3 : Int32) (y4 : Int32) (v3 : Int32) (S5 : St) : ex X d 125 103 [.ref 29, .int y1, w2, .int y3, .int y4, .int v3] [] (hh (xa_u (xa_u S5.1 38 (((S5.1 29 10)).toNatClampNeg) y3) 29 10 ((xa_u S5.1 38 (((S5.1 29 10)).toNatClampNeg) y3) 29 10), S5.2.1, S5.2.2)) (n + 3) = if 7 ≤ y4 then ex X d 125 117 [.ref 29, .int y1, w2, .int y3, .int y4, .int v3] [] (hh (xa_u (xa_u S5.1 38 (((S5.1 29 10)).toNatClampNeg) y3) 29 10 ((xa_u S5.1 38 (((S5.1 29 10)).toNatClampNeg) y3) 29 10), S5.2.1, S5.2.2)) n else ex X d 125 110 [.ref 29, .int y1, w2, .int y3, .int y4, .int v3] [] (hh (xa_u (xa_u S5.1 38 (((S5.1 29 10)).toNatClampNeg) y3) 29 10 ((xa_u S5.1 38 (((S5.1 29 10)).toNatClampNeg) y3) 29 10), S5.2.1, S5.2.2)) n := rfl
theorem B_125_18 {X : Nat × (Nat → Int32)} {d : Nat} (n : Nat) (y1 : Int32) (w2 : Value) (y3 : Int32) (y4 : Int32) (v3 : Int32) (S5 : St) : ex X d 125 117 [.ref 29, .int y1, w2, .int y3, .int y4, .int v3] [] (hh (xa_u (xa_u S5.1 38 (((S5.1 29 10)).toNatClampNeg) y3) 29 10 ((xa_u S5.1 38 (((S5.1 29 10)).toNatClampNeg) y3) 29 10), S5.2.1, S5.2.2)) (n + 8) = if v3 = 5 then ex X d 125 133 [.ref 29, .int y1, w2, .int y3, .int y4, .int v3] [.int y4, .ref 37] (hh (xa_u (xa_u S5.1 38 (((S5.1 29 10)).toNatClampNeg) y3) 29 10 ((xa_u S5.1 38 (((S5.1 29 10)).toNatClampNeg) y3) 29 10), S5.2.1, S5.2.2)) n else ex X d 125 137 [.ref 29, .int y1, w2, .int y3, .int y4, .int v3] [.int y4, .ref 37] (hh (xa_u (xa_u S5.1 38 (((S5.1 29 10)).toNatClampNeg) y3) 29 10 ((xa_u S5.1 38 (((S5.1 29 10)).toNatClampNeg) y3) 29 10), S5.2.1, S5.2.2)) n := rfl
theorem B_125_19 {X : Nat × (Nat → Int32)} {d : Nat} (n : Nat) (y1 : Int32) (w2 : Value) (y3 : Int32) (y4 : Int32) (v3 : Int32) (S5 : St) : ex X d 125 133 [.ref 29, .int y1, w2, .int y3, .int y4, .int v3] [.int y4, .ref 37] (hh (xa_u (xa_u S5.1 38 (((S5.1 29 10)).toNatClampNeg) y3) 29 10 ((xa_u S5.1 38 (((S5.1 29 10)).toNatClampNeg) y3) 29 10), S5.2.1, S5.2.2)) (n + 3) = if (kd 37).1 = 0 ∧ xa_in y4 (kd 37).2 then ex X d 125 139 [.ref 29, .int y1, w2, .int y3, .int y4, .int v3] [] (hh (xa_u (xa_u (xa_u S5.1 38 (((S5.1 29 10)).toNatClampNeg) y3) 29 10 ((xa_u S5.1 38 (((S5.1 29 10)).toNatClampNeg) y3) 29 10)) 37 ((y4).toNatClampNeg) 1, S5.2.1, S5.2.2)) n else none := rfl
theorem B_125_20 {X : Nat × (Nat → Int32)} {d : Nat} (n : Nat) (y1 : Int32) (w2 : Value) (y3 : Int32) (y4 : Int32) (v3 : Int32) (S5 : St) : ex X d 125 139 [.ref 29, .int y1, w2, .int y3, .int y4, .int v3] [] (hh (xa_u (xa_u (xa_u S5.1 38 (((S5.1 29 10)).toNatClampNeg) y3) 29 10 ((xa_u S5.1 38 (((S5.1 29 10)).toNatClampNeg) y3) 29 10)) 37 ((y4).toNatClampNeg) 1, S5.2.1, S5.2.2)) (n + 3) = ex X d 125 17 [.ref 29, .int y1, w2, .int (y3 + 1), .int y4, .int v3] [] (hh (xa_u (xa_u (xa_u S5.1 38 (((S5.1 29 10)).toNatClampNeg) y3) 29 10 ((xa_u S5.1 38 (((S5.1 29 10)).toNatClampNeg) y3) 29 10)) 37 ((y4).toNatClampNeg) 1, S5.2.1, S5.2.2)) n := rfl
theorem B_125_21 {X : Nat × (Nat → Int32)} {d : Nat} (n : Nat) (y1 : Int32) (w2 : Value) (y3 : Int32) (y4 : Int32) (v3 : Int32) (S5 : St) : ex X d 125 117 [.ref 29, .int y1, w2, .int y3, .int y4, .int v3] [] (hh (xa_u (xa_u S5.1 38 (((S5.1 29 10)).toNatClampNeg) y3) 29 10 ((xa_u S5.1 38 (((S5.1 29 10)).toNatClampNeg) y3) 29 10), S5.2.1, S5.2.2)) (n + 8) = if v3 = 5 then ex X d 125 133 [.ref 29, .int y1, w2, .int y3, .int y4, .int v3] [.int y4, .ref 37] (hh (xa_u (xa_u S5.1 38 (((S5.1 29 10)).toNatClampNeg) y3) 29 10 ((xa_u S5.1 38 (((S5.1 29 10)).toNatClampNeg) y3) 29 10), S5.2.1, S5.2.2)) n else ex X d 125 137 [.ref 29, .int y1, w2, .int y3, .int y4, .int v3] [.int y4, .ref 37] (hh (xa_u (xa_u S5.1 38 (((S5.1 29 10)).toNatClampNeg) y3) 29 10 ((xa_u S5.1 38 (((S5.1 29 10)).toNatClampNeg) y3) 29 10), S5.2.1, S5.2.2)) n := rfl
theorem B_125_22 {X : Nat × (Nat → Int32)} {d : Nat} (n : Nat) (y1 : Int32) (w2 : Value) (y3 : Int32) (y4 : Int32) (v3 : Int32) (S5 : St) : ex X d 125 137 [.ref 29, .int y1, w2, .int y3, .int y4, .int v3] [.int y4, .ref 37] (hh (xa_u (xa_u S5.1 38 (((S5.1 29 10)).toNatClampNeg) y3) 29 10 ((xa_u S5.1 38 (((S5.1 29 10)).toNatClampNeg) y3) 29 10), S5.2.1, S5.2.2)) (n + 2) = if (kd 37).1 = 0 ∧ xa_in y4 (kd 37).2 then ex X d 125 139 [.ref 29, .int y1, w2, .int y3, .int y4, .int v3] [] (hh (xa_u (xa_u (xa_u S5.1 38 (((S5.1 29 10)).toNatClampNeg) y3) 29 10 ((xa_u S5.1 38 (((S5.1 29 10)).toNatClampNeg) y3) 29 10)) 37 ((y4).toNatClampNeg) 2, S5.2.1, S5.2.2)) n else none := rfl
theorem B_125_23 {X : Nat × (Nat → Int32)} {d : Nat} (n : Nat) (y1 : Int32) (w2 : Value) (y3 : Int32) (y4 : Int32) (v3 : Int32) (S5 : St) : ex X d 125 139 [.ref 29, .int y1, w2, .int y3, .int y4, .int v3] [] (hh (xa_u (xa_u (xa_u S5.1 38 (((S5.1 29 10)).toNatClampNeg) y3) 29 10 ((xa_u S5.1 38 (((S5.1 29 10)).toNatClampNeg) y3) 29 10)) 37 ((y4).toNatClampNeg) 2, S5.2.1, S5.2.2)) (n + 3) = ex X d 125 17 [.ref 29, .int y1, w2, .int (y3 + 1), .int y4, .int v3] [] (hh (xa_u (xa_u (xa_u S5.1 38 (((S5.1 29 10)).toNatClampNeg) y3) 29 10 ((xa_u S5.1 38 (((S5.1 29 10)).toNatClampNeg) y3) 29 10)) 37 ((y4).toNatClampNeg) 2, S5.2.1, S5.2.2)) n := rfl
theorem B_125_24 {X : Nat × (Nat → Int32)} {d : Nat} (n : Nat) (y1 : Int32) (w2 : Value) (y3 : Int32) (y4 : Int32) (v3 : Int32) (S5 : St) : ex X d 125 103 [.ref 29, .int y1, w2, .int y3, .int y4, .int v3] [] (hh (xa_u (xa_u S5.1 38 (((S5.1 29 10)).toNatClampNeg) y3) 29 10 ((xa_u S5.1 38 (((S5.1 29 10)).toNatClampNeg) y3) 29 10), S5.2.1, S5.2.2)) (n + 3) = if 7 ≤ y4 then ex X d 125 117 [.ref 29, .int y1, w2, .int y3, .int y4, .int v3] [] (hh (xa_u (xa_u S5.1 38 (((S5.1 29 10)).toNatClampNeg) y3) 29 10 ((xa_u S5.1 38 (((S5.1 29 10)).toNatClampNeg) y3) 29 10), S5.2.1, S5.2.2)) n else ex X d 125 110 [.ref 29, .int y1, w2, .int y3, .int y4, .int v3] [] (hh (xa_u (xa_u S5.1 38 (((S5.1 29 10)).toNatClampNeg) y3) 29 10 ((xa_u S5.1 38 (((S5.1 29 10)).toNatClampNeg) y3) 29 10), S5.2.1, S5.2.2)) n := rfl
theorem B_125_25 {X : Nat × (Nat → Int32)} {d : Nat} (n : Nat) (y1 : Int32) (w2 : Value) (y3 : Int32) (y4 : Int32) (v3 : Int32) (S5 : St) : ex X d 125 110 [.ref 29, .int y1, w2, .int y3, .int y4, .int v3] [] (hh (xa_u (xa_u S5.1 38 (((S5.1 29 10)).toNatClampNeg) y3) 29 10 ((xa_u S5.1 38 (((S5.1 29 10)).toNatClampNeg) y3) 29 10), S5.2.1, S5.2.2)) (n + 11) = if v3 = 5 then ex X d 125 133 [.ref 29, .int y1, w2, .int y3, .int (y4 + 1), .int v3] [.int (y4 + 1), .ref 37] (hh (xa_u (xa_u S5.1 38 (((S5.1 29 10)).toNatClampNeg) y3) 29 10 ((xa_u S5.1 38 (((S5.1 29 10)).toNatClampNeg) y3) 29 10), S5.2.1, S5.2.2)) n else ex X d 125 137 [.ref 29, .int y1, w2, .int y3, .int (y4 + 1), .int v3] [.int (y4 + 1), .ref 37] (hh (xa_u (xa_u S5.1 38 (((S5.1 29 10)).toNatClampNeg) y3) 29 10 ((xa_u S5.1 38 (((S5.1 29 10)).toNatClampNeg) y3) 29 10), S5.2.1, S5.2.2)) n := rfl
theorem B_125_26 {X : Nat × (Nat → Int32)} {d : Nat} (n : Nat) (y1 : Int32) (w2 : Value) (y3 : Int32) (y4 : Int32) (v3 : Int32) (S5 : St) : ex X d 125 133 [.ref 29, .int y1, w2, .int y3, .int (y4 + 1), .int v3] [.int (y4 + 1), .ref 37] (hh (xa_u (xa_u S5.1 38 (((S5.1 29 10)).toNatClampNeg) y3) 29 10 ((xa_u S5.1 38 (((S5.1 29 10)).toNatClampNeg) y3) 29 10), S5.2.1, S5.2.2)) (n + 3) = if (kd 37).1 = 0 ∧ xa_in (y4 + 1) (kd 37).2 then ex X d 125 139 [.ref 29, .int y1, w2, .int y3, .int (y4 + 1), .int v3] [] (hh (xa_u (xa_u (xa_u S5.1 38 (((S5.1 29 10)).toNatClampNeg) y3) 29 10 ((xa_u S5.1 38 (((S5.1 29 10)).toNatClampNeg) y3) 29 10)) 37 (((y4 + 1)).toNatClampNeg) 1, S5.2.1, S5.2.2)) n else none := rfl
theorem B_125_27 {X : Nat × (Nat → Int32)} {d : Nat} (n : Nat) (y1 : Int32) (w2 : Value) (y3 : Int32) (y4 : Int32) (v3 : Int32) (S5 : St) : ex X d 125 139 [.ref 29, .int y1, w2, .int y3, .int (y4 + 1), .int v3] [] (hh (xa_u (xa_u (xa_u S5.1 38 (((S5.1 29 10)).toNatClampNeg) y3) 29 10 ((xa_u S5.1 38 (((S5.1 29 10)).toNatClampNeg) y3) 29 10)) 37 (((y4 + 1)).toNatClampNeg) 1, S5.2.1, S5.2.2)) (n + 3) = ex X d 125 17 [.ref 29, .int y1, w2, .int (y3 + 1), .int (y4 + 1), .int v3] [] (hh (xa_u (xa_u (xa_u S5.1 38 (((S5.1 29 10)).toNatClampNeg) y3) 29 10 ((xa_u S5.1 38 (((S5.1 29 10)).toNatClampNeg) y3) 29 10)) 37 (((y4 + 1)).toNatClampNeg) 1, S5.2.1, S5.2.2)) n := rfl
theorem B_125_28 {X : Nat × (Nat → Int32)} {d : Nat} (n : Nat) (y1 : Int32) (w2 : Value) (y3 : Int32) (y4 : Int32) (v3 : Int32) (S5 : St) : ex X d 125 110 [.ref 29, .int y1, w2, .int y3, .int y4, .int v3] [] (hh (xa_u (xa_u S5.1 38 (((S5.1 29 10)).toNatClampNeg) y3) 29 10 ((xa_u S5.1 38 (((S5.1 29 10)).toNatClampNeg) y3) 29 10), S5.2.1, S5.2.2)) (n + 11) = if v3 = 5 then ex X d 125 133 [.ref 29, .int y1, w2, .int y3, .int (y4 + 1), .int v3] [.int (y4 + 1), .ref 37] (hh (xa_u (xa_u S5.1 38 (((S5.1 29 10)).toNatClampNeg) y3) 29 10 ((xa_u S5.1 38 (((S5.1 29 10)).toNatClampNeg) y3) 29 10), S5.2.1, S5.2.2)) n else ex X d 125 137 [.ref 29, .int y1, w2, .int y3, .int (y4 + 1), .int v3] [.int (y4 + 1), .ref 37] (hh (xa_u (xa_u S5.1 38 (((S5.1 29 10)).toNatClampNeg) y3) 29 10 ((xa_u S5.1 38 (((S5.1 29 10)).toNatClampNeg) y3) 29 10), S5.2.1, S5.2.2)) n := rfl
theorem B_125_29 {X : Nat × (Nat → Int32)} {d : Nat} (n : Nat) (y1 : Int32) (w2 : Value) (y3 : Int32) (y4 : Int32) (v3 : Int32) (S5 : St) : ex X d 125 137 [.ref 29, .int y1, w2, .int y3, .int (y4 + 1), .int v3] [.int (y4 + 1), .ref 37] (hh (xa_u (xa_u S5.1 38 (((S5.1 29 10)).toNatClampNeg) y3) 29 10 ((xa_u S5.1 38 (((S5.1 29 10)).toNatClampNeg) y3) 29 10), S5.2.1, S5.2.2)) (n + 2) = if (kd 37).1 = 0 ∧ xa_in (y4 + 1) (kd 37).2 then ex X d 125 139 [.ref 29, .int y1, w2, .int y3, .int (y4 + 1), .int v3] [] (hh (xa_u (xa_u (xa_u S5.1 38 (((S5.1 29 10)).toNatClampNeg) y3) 29 10 ((xa_u S5.1 38 (((S5.1 29 10)).toNatClampNeg) y3) 29 10)) 37 (((y4 + 1)).toNatClampNeg) 2, S5.2.1, S5.2.2)) n else none := rfl
theorem B_125_30 {X : Nat × (Nat → Int32)} {d : Nat} (n : Nat) (y1 : Int32) (w2 : Value) (y3 : Int32) (y4 : Int32) (v3 : Int32) (S5 : St) : ex X d 125 139 [.ref 29, .int y1, w2, .int y3, .int (y4 + 1), .int v3] [] (hh (xa_u (xa_u (xa_u S5.1 38 (((S5.1 29 10)).toNatClampNeg) y3) 29 10 ((xa_u S5.1 38 (((S5.1 29 10)).toNatClampNeg) y3) 29 10)) 37 (((y4 + 1)).toNatClampNeg) 2, S5.2.1, S5.2.2)) (n + 3) = ex X d 125 17 [.ref 29, .int y1, w2, .int (y3 + 1), .int (y4 + 1), .int v3] [] (hh (xa_u (xa_u (xa_u S5.1 38 (((S5.1 29 10)).toNatClampNeg) y3) 29 10 ((xa_u S5.1 38 (((S5.1 29 10)).toNatClampNeg) y3) 29 10)) 37 (((y4 + 1)).toNatClampNeg) 2, S5.2.1, S5.2.2)) n := rfl
theorem B_125_31 {X : Nat × (Nat → Int32)} {d : Nat} (n : Nat) (y1 : Int32) (w2 : Value) (y3 : Int32) (y4 : Int32) (v3 : Int32) (S5 : St) : ex X d 125 71 [.ref 29, .int y1, w2, .int y3, .int y4, .int v3] [] (hh (xa_u S5.1 38 (((S5.1 29 10)).toNatClampNeg) y3, S5.2.1, S5.2.2)) (n + 5) = if 63 ≤ ((xa_u S5.1 38 (((S5.1 29 10)).toNatClampNeg) y3) 29 10) then ex X d 125 90 [.ref 29, .int y1, w2, .int y3, .int y4, .int v3] [.ref 29] (hh (xa_u S5.1 38 (((S5.1 29 10)).toNatClampNeg) y3, S5.2.1, S5.2.2)) n else ex X d 125 81 [.ref 29, .int y1, w2, .int y3, .int y4, .int v3] [.ref 29] (hh (xa_u S5.1 38 (((S5.1 29 10)).toNatClampNeg) y3, S5.2.1, S5.2.2)) n := rfl
theorem B_125_32 {X : Nat × (Nat → Int32)} {d : Nat} (n : Nat) (y1 : Int32) (w2 : Value) (y3 : Int32) (y4 : Int32) (v3 : Int32) (S5 : St) : ex X d 125 81 [.ref 29, .int y1, w2, .int y3, .int y4, .int v3] [.ref 29] (hh (xa_u S5.1 38 (((S5.1 29 10)).toNatClampNeg) y3, S5.2.1, S5.2.2)) (n + 6) = if (kd 29).1 = 10 + 8 ∧ (xf_k 8 10 = 0 ∨ (xf_k 8 10 = 1 ∧ ((((xa_u S5.1 38 (((S5.1 29 10)).toNatClampNeg) y3) 29 10) + 1) = 0 ∨ (((xa_u S5.1 38 (((S5.1 29 10)).toNatClampNeg) y3) 29 10) + 1) = 1))) then ex X d 125 97 [.ref 29, .int y1, w2, .int y3, .int y4, .int v3] [] (hh (xa_u (xa_u S5.1 38 (((S5.1 29 10)).toNatClampNeg) y3) 29 10 (((xa_u S5.1 38 (((S5.1 29 10)).toNatClampNeg) y3) 29 10) + 1), S5.2.1, S5.2.2)) n else none := rfl
theorem B_125_33 {X : Nat × (Nat → Int32)} {d : Nat} (n : Nat) (y1 : Int32) (w2 : Value) (y3 : Int32) (y4 : Int32) (v3 : Int32) (S5 : St) : ex X d 125 97 [.ref 29, .int y1, w2, .int y3, .int y4, .int v3] [] (hh (xa_u (xa_u S5.1 38 (((S5.1 29 10)).toNatClampNeg) y3) 29 10 (((xa_u S5.1 38 (((S5.1 29 10)).toNatClampNeg) y3) 29 10) + 1), S5.2.1, S5.2.2)) (n + 3) = if v3 < 5 then ex X d 125 145 [.ref 29, .int y1, w2, .int y3, .int y4, .int v3] [] (hh (xa_u (xa_u S5.1 38 (((S5.1 29 10)).toNatClampNeg) y3) 29 10 (((xa_u S5.1 38 (((S5.1 29 10)).toNatClampNeg) y3) 29 10) + 1), S5.2.1, S5.2.2)) n else ex X d 125 103 [.ref 29, .int y1, w2, .int y3, .int y4, .int v3] [] (hh (xa_u (xa_u S5.1 38 (((S5.1 29 10)).toNatClampNeg) y3) 29 10 (((xa_u S5.1 38 (((S5.1 29 10)).toNatClampNeg) y3) 29 10) + 1), S5.2.1, S5.2.2)) n := rfl
theorem B_125_34 {X : Nat × (Nat → Int32)} {d : Nat} (n : Nat) (y1 : Int32) (w2 : Value) (y3 : Int32) (y4 : Int32) (v3 : Int32) (S5 : St) : ex X (d + 1) 125 145 [.ref 29, .int y1, w2, .int y3, .int y4, .int v3] [] (hh (xa_u (xa_u S5.1 38 (((S5.1 29 10)).toNatClampNeg) y3) 29 10 (((xa_u S5.1 38 (((S5.1 29 10)).toNatClampNeg) y3) 29 10) + 1), S5.2.1, S5.2.2)) (n + 5) = (match ex X d 126 0 [.ref 29, .int y1, .int y3, .int v3] [] (hh (xa_u (xa_u S5.1 38 (((S5.1 29 10)).toNatClampNeg) y3) 29 10 (((xa_u S5.1 38 (((S5.1 29 10)).toNatClampNeg) y3) 29 10) + 1), S5.2.1, S5.2.2)) n with | some (v, h') => ex X (d + 1) 125 153 [.ref 29, .int y1, w2, .int y3, .int y4, .int v3] (v.toList ++ []) h' n | none => none) := rfl
theorem B_125_35 {X : Nat × (Nat → Int32)} {d : Nat} (n : Nat) (y1 : Int32) (w2 : Value) (y3 : Int32) (y4 : Int32) (v3 : Int32) (v19 : Int32) (S19 : St) : ex X d 125 153 [.ref 29, .int y1, w2, .int y3, .int y4, .int v3] [.int v19] (hh S19) (n + 6) = if (kd 37).1 = 0 ∧ xa_in y4 (kd 37).2 then ex X d 125 162 [.ref 29, .int y1, w2, .int v19, .int y4, .int v3] [.int (S19.1 37 (y4).toNatClampNeg), .int y4, .ref 37] (hh S19) n else none := rfl
theorem B_125_36 {X : Nat × (Nat → Int32)} {d : Nat} (n : Nat) (y1 : Int32) (w2 : Value) (v19 : Int32) (y4 : Int32) (v3 : Int32) (S19 : St) : ex X d 125 162 [.ref 29, .int y1, w2, .int v19, .int y4, .int v3] [.int (S19.1 37 (y4).toNatClampNeg), .int y4, .ref 37] (hh S19) (n + 3) = if (kd 37).1 = 0 ∧ xa_in y4 (kd 37).2 then ex X d 125 165 [.ref 29, .int y1, w2, .int v19, .int y4, .int v3] [] (hh (xa_u S19.1 37 ((y4).toNatClampNeg) ((S19.1 37 (y4).toNatClampNeg) - 1), S19.2.1, S19.2.2)) n else none := rfl
theorem B_125_37 {X : Nat × (Nat → Int32)} {d : Nat} (n : Nat) (y1 : Int32) (w2 : Value) (y3 : Int32) (y4 : Int32) (v3 : Int32) (S5 : St) : ex X d 125 97 [.ref 29, .int y1, w2, .int y3, .int y4, .int v3] [] (hh (xa_u (xa_u S5.1 38 (((S5.1 29 10)).toNatClampNeg) y3) 29 10 (((xa_u S5.1 38 (((S5.1 29 10)).toNatClampNeg) y3) 29 10) + 1), S5.2.1, S5.2.2)) (n + 3) = if v3 < 5 then ex X d 125 145 [.ref 29, .int y1, w2, .int y3, .int y4, .int v3] [] (hh (xa_u (xa_u S5.1 38 (((S5.1 29 10)).toNatClampNeg) y3) 29 10 (((xa_u S5.1 38 (((S5.1 29 10)).toNatClampNeg) y3) 29 10) + 1), S5.2.1, S5.2.2)) n else ex X d 125 103 [.ref 29, .int y1, w2, .int y3, .int y4, .int v3] [] (hh (xa_u (xa_u S5.1 38 (((S5.1 29 10)).toNatClampNeg) y3) 29 10 (((xa_u S5.1 38 (((S5.1 29 10)).toNatClampNeg) y3) 29 10) + 1), S5.2.1, S5.2.2)) n := rfl
theorem B_125_38 {X : Nat × (Nat → Int32)} {d : Nat} (n : Nat) (y1 : Int32) (w2 : Value) (y3 : Int32) (y4 : Int32) (v3 : Int32) (S5 : St) : ex X d 125 103 [.ref 29, .int y1, w2, .int y3, .int y4, .int v3] [] (hh (xa_u (xa_u S5.1 38 (((S5.1 29 10)).toNatClampNeg) y3) 29 10 (((xa_u S5.1 38 (((S5.1 29 10)).toNatClampNeg) y3) 29 10) + 1), S5.2.1, S5.2.2)) (n + 3) = if 7 ≤ y4 then ex X d 125 117 [.ref 29, .int y1, w2, .int y3, .int y4, .int v3] [] (hh (xa_u (xa_u S5.1 38 (((S5.1 29 10)).toNatClampNeg) y3) 29 10 (((xa_u S5.1 38 (((S5.1 29 10)).toNatClampNeg) y3) 29 10) + 1), S5.2.1, S5.2.2)) n else ex X d 125 110 [.ref 29, .int y1, w2, .int y3, .int y4, .int v3] [] (hh (xa_u (xa_u S5.1 38 (((S5.1 29 10)).toNatClampNeg) y3) 29 10 (((xa_u S5.1 38 (((S5.1 29 10)).toNatClampNeg) y3) 29 10) + 1), S5.2.1, S5.2.2)) n := rfl
theorem B_125_39 {X : Nat × (Nat → Int32)} {d : Nat} (n : Nat) (y1 : Int32) (w2 : Value) (y3 : Int32) (y4 : Int32) (v3 : Int32) (S5 : St) : ex X d 125 117 [.ref 29, .int y1, w2, .int y3, .int y4, .int v3] [] (hh (xa_u (xa_u S5.1 38 (((S5.1 29 10)).toNatClampNeg) y3) 29 10 (((xa_u S5.1 38 (((S5.1 29 10)).toNatClampNeg) y3) 29 10) + 1), S5.2.1, S5.2.2)) (n + 8) = if v3 = 5 then ex X d 125 133 [.ref 29, .int y1, w2, .int y3, .int y4, .int v3] [.int y4, .ref 37] (hh (xa_u (xa_u S5.1 38 (((S5.1 29 10)).toNatClampNeg) y3) 29 10 (((xa_u S5.1 38 (((S5.1 29 10)).toNatClampNeg) y3) 29 10) + 1), S5.2.1, S5.2.2)) n else ex X d 125 137 [.ref 29, .int y1, w2, .int y3, .int y4, .int v3] [.int y4, .ref 37] (hh (xa_u (xa_u S5.1 38 (((S5.1 29 10)).toNatClampNeg) y3) 29 10 (((xa_u S5.1 38 (((S5.1 29 10)).toNatClampNeg) y3) 29 10) + 1), S5.2.1, S5.2.2)) n := rfl
theorem B_125_40 {X : Nat × (Nat → Int32)} {d : Nat} (n : Nat) (y1 : Int32) (w2 : Value) (y3 : Int32) (y4 : Int32) (v3 : Int32) (S5 : St) : ex X d 125 133 [.ref 29, .int y1, w2, .int y3, .int y4, .int v3] [.int y4, .ref 37] (hh (xa_u (xa_u S5.1 38 (((S5.1 29 10)).toNatClampNeg) y3) 29 10 (((xa_u S5.1 38 (((S5.1 29 10)).toNatClampNeg) y3) 29 10) + 1), S5.2.1, S5.2.2)) (n + 3) = if (kd 37).1 = 0 ∧ xa_in y4 (kd 37).2 then ex X d 125 139 [.ref 29, .int y1, w2, .int y3, .int y4, .int v3] [] (hh (xa_u (xa_u (xa_u S5.1 38 (((S5.1 29 10)).toNatClampNeg) y3) 29 10 (((xa_u S5.1 38 (((S5.1 29 10)).toNatClampNeg) y3) 29 10) + 1)) 37 ((y4).toNatClampNeg) 1, S5.2.1, S5.2.2)) n else none := rfl
theorem B_125_41 {X : Nat × (Nat → Int32)} {d : Nat} (n : Nat) (y1 : Int32) (w2 : Value) (y3 : Int32) (y4 : Int32) (v3 : Int32) (S5 : St) : ex X d 125 139 [.ref 29, .int y1, w2, .int y3, .int y4, .int v3] [] (hh (xa_u (xa_u (xa_u S5.1 38 (((S5.1 29 10)).toNatClampNeg) y3) 29 10 (((xa_u S5.1 38 (((S5.1 29 10)).toNatClampNeg) y3) 29 10) + 1)) 37 ((y4).toNatClampNeg) 1, S5.2.1, S5.2.2)) (n + 3) = ex X d 125 17 [.ref 29, .int y1, w2, .int (y3 + 1), .int y4, .int v3] [] (hh (xa_u (xa_u (xa_u S5.1 38 (((S5.1 29 10)).toNatClampNeg) y3) 29 10 (((xa_u S5.1 38 (((S5.1 29 10)).toNatClampNeg) y3) 29 10) + 1)) 37 ((y4).toNatClampNeg) 1, S5.2.1, S5.2.2)) n := rfl
theorem B_125_42 {X : Nat × (Nat → Int32)} {d : Nat} (n : Nat) (y1 : Int32) (w2 : Value) (y3 : Int32) (y4 : Int32) (v3 : Int32) (S5 : St) : ex X d 125 117 [.ref 29, .int y1, w2, .int y3, .int y4, .int v3] [] (hh (xa_u (xa_u S5.1 38 (((S5.1 29 10)).toNatClampNeg) y3) 29 10 (((xa_u S5.1 38 (((S5.1 29 10)).toNatClampNeg) y3) 29 10) + 1), S5.2.1, S5.2.2)) (n + 8) = if v3 = 5 then ex X d 125 133 [.ref 29, .int y1, w2, .int y3, .int y4, .int v3] [.int y4, .ref 37] (hh (xa_u (xa_u S5.1 38 (((S5.1 29 10)).toNatClampNeg) y3) 29 10 (((xa_u S5.1 38 (((S5.1 29 10)).toNatClampNeg) y3) 29 10) + 1), S5.2.1, S5.2.2)) n else ex X d 125 137 [.ref 29, .int y1, w2, .int y3, .int y4, .int v3] [.int y4, .ref 37] (hh (xa_u (xa_u S5.1 38 (((S5.1 29 10)).toNatClampNeg) y3) 29 10 (((xa_u S5.1 38 (((S5.1 29 10)).toNatClampNeg) y3) 29 10) + 1), S5.2.1, S5.2.2)) n := rfl
theorem B_125_43 {X : Nat × (Nat → Int32)} {d : Nat} (n : Nat) (y1 : Int32) (w2 : Value) (y3 : Int32) (y4 : Int32) (v3 : Int32) (S5 : St) : ex X d 125 137 [.ref 29, .int y1, w2, .int y3, .int y4, .int v3] [.int y4, .ref 37] (hh (xa_u (xa_u S5.1 38 (((S5.1 29 10)).toNatClampNeg) y3) 29 10 (((xa_u S5.1 38 (((S5.1 29 10)).toNatClampNeg) y3) 29 10) + 1), S5.2.1, S5.2.2)) (n + 2) = if (kd 37).1 = 0 ∧ xa_in y4 (kd 37).2 then ex X d 125 139 [.ref 29, .int y1, w2, .int y3, .int y4, .int v3] [] (hh (xa_u (xa_u (xa_u S5.1 38 (((S5.1 29 10)).toNatClampNeg) y3) 29 10 (((xa_u S5.1 38 (((S5.1 29 10)).toNatClampNeg) y3) 29 10) + 1)) 37 ((y4).toNatClampNeg) 2, S5.2.1, S5.2.2)) n else none := rfl
theorem B_125_44 {X : Nat × (Nat → Int32)} {d : Nat} (n : Nat) (y1 : Int32) (w2 : Value) (y3 : Int32) (y4 : Int32) (v3 : Int32) (S5 : St) : ex X d 125 139 [.ref 29, .int y1, w2, .int y3, .int y4, .int v3] [] (hh (xa_u (xa_u (xa_u S5.1 38 (((S5.1 29 10)).toNatClampNeg) y3) 29 10 (((xa_u S5.1 38 (((S5.1 29 10)).toNatClampNeg) y3) 29 10) + 1)) 37 ((y4).toNatClampNeg) 2, S5.2.1, S5.2.2)) (n + 3) = ex X d 125 17 [.ref 29, .int y1, w2, .int (y3 + 1), .int y4, .int v3] [] (hh (xa_u (xa_u (xa_u S5.1 38 (((S5.1 29 10)).toNatClampNeg) y3) 29 10 (((xa_u S5.1 38 (((S5.1 29 10)).toNatClampNeg) y3) 29 10) + 1)) 37 ((y4).toNatClampNeg) 2, S5.2.1, S5.2.2)) n := rfl
theorem B_125_45 {X : Nat × (Nat → Int32)} {d : Nat} (n : Nat) (y1 : Int32) (w2 : Value) (y3 : Int32) (y4 : Int32) (v3 : Int32) (S5 : St) : ex X d 125 103 [.ref 29, .int y1, w2, .int y3, .int y4, .int v3] [] (hh (xa_u (xa_u S5.1 38 (((S5.1 29 10)).toNatClampNeg) y3) 29 10 (((xa_u S5.1 38 (((S5.1 29 10)).toNatClampNeg) y3) 29 10) + 1), S5.2.1, S5.2.2)) (n + 3) = if 7 ≤ y4 then ex X d 125 117 [.ref 29, .int y1, w2, .int y3, .int y4, .int v3] [] (hh (xa_u (xa_u S5.1 38 (((S5.1 29 10)).toNatClampNeg) y3) 29 10 (((xa_u S5.1 38 (((S5.1 29 10)).toNatClampNeg) y3) 29 10) + 1), S5.2.1, S5.2.2)) n else ex X d 125 110 [.ref 29, .int y1, w2, .int y3, .int y4, .int v3] [] (hh (xa_u (xa_u S5.1 38 (((S5.1 29 10)).toNatClampNeg) y3) 29 10 (((xa_u S5.1 38 (((S5.1 29 10)).toNatClampNeg) y3) 29 10) + 1), S5.2.1, S5.2.2)) n := rfl
theorem B_125_46 {X : Nat × (Nat → Int32)} {d : Nat} (n : Nat) (y1 : Int32) (w2 : Value) (y3 : Int32) (y4 : Int32) (v3 : Int32) (S5 : St) : ex X d 125 110 [.ref 29, .int y1, w2, .int y3, .int y4, .int v3] [] (hh (xa_u (xa_u S5.1 38 (((S5.1 29 10)).toNatClampNeg) y3) 29 10 (((xa_u S5.1 38 (((S5.1 29 10)).toNatClampNeg) y3) 29 10) + 1), S5.2.1, S5.2.2)) (n + 11) = if v3 = 5 then ex X d 125 133 [.ref 29, .int y1, w2, .int y3, .int (y4 + 1), .int v3] [.int (y4 + 1), .ref 37] (hh (xa_u (xa_u S5.1 38 (((S5.1 29 10)).toNatClampNeg) y3) 29 10 (((xa_u S5.1 38 (((S5.1 29 10)).toNatClampNeg) y3) 29 10) + 1), S5.2.1, S5.2.2)) n else ex X d 125 137 [.ref 29, .int y1, w2, .int y3, .int (y4 + 1), .int v3] [.int (y4 + 1), .ref 37] (hh (xa_u (xa_u S5.1 38 (((S5.1 29 10)).toNatClampNeg) y3) 29 10 (((xa_u S5.1 38 (((S5.1 29 10)).toNatClampNeg) y3) 29 10) + 1), S5.2.1, S5.2.2)) n := rfl
theorem B_125_47 {X : Nat × (Nat → Int32)} {d : Nat} (n : Nat) (y1 : Int32) (w2 : Value) (y3 : Int32) (y4 : Int32) (v3 : Int32) (S5 : St) : ex X d 125 133 [.ref 29, .int y1, w2, .int y3, .int (y4 + 1), .int v3] [.int (y4 + 1), .ref 37] (hh (xa_u (xa_u S5.1 38 (((S5.1 29 10)).toNatClampNeg) y3) 29 10 (((xa_u S5.1 38 (((S5.1 29 10)).toNatClampNeg) y3) 29 10) + 1), S5.2.1, S5.2.2)) (n + 3) = if (kd 37).1 = 0 ∧ xa_in (y4 + 1) (kd 37).2 then ex X d 125 139 [.ref 29, .int y1, w2, .int y3, .int (y4 + 1), .int v3] [] (hh (xa_u (xa_u (xa_u S5.1 38 (((S5.1 29 10)).toNatClampNeg) y3) 29 10 (((xa_u S5.1 38 (((S5.1 29 10)).toNatClampNeg) y3) 29 10) + 1)) 37 (((y4 + 1)).toNatClampNeg) 1, S5.2.1, S5.2.2)) n else none := rfl
theorem B_125_48 {X : Nat × (Nat → Int32)} {d : Nat} (n : Nat) (y1 : Int32) (w2 : Value) (y3 : Int32) (y4 : Int32) (v3 : Int32) (S5 : St) : ex X d 125 139 [.ref 29, .int y1, w2, .int y3, .int (y4 + 1), .int v3] [] (hh (xa_u (xa_u (xa_u S5.1 38 (((S5.1 29 10)).toNatClampNeg) y3) 29 10 (((xa_u S5.1 38 (((S5.1 29 10)).toNatClampNeg) y3) 29 10) + 1)) 37 (((y4 + 1)).toNatClampNeg) 1, S5.2.1, S5.2.2)) (n + 3) = ex X d 125 17 [.ref 29, .int y1, w2, .int (y3 + 1), .int (y4 + 1), .int v3] [] (hh (xa_u (xa_u (xa_u S5.1 38 (((S5.1 29 10)).toNatClampNeg) y3) 29 10 (((xa_u S5.1 38 (((S5.1 29 10)).toNatClampNeg) y3) 29 10) + 1)) 37 (((y4 + 1)).toNatClampNeg) 1, S5.2.1, S5.2.2)) n := rfl
theorem B_125_49 {X : Nat × (Nat → Int32)} {d : Nat} (n : Nat) (y1 : Int32) (w2 : Value) (y3 : Int32) (y4 : Int32) (v3 : Int32) (S5 : St) : ex X d 125 110 [.ref 29, .int y1, w2, .int y3, .int y4, .int v3] [] (hh (xa_u (xa_u S5.1 38 (((S5.1 29 10)).toNatClampNeg) y3) 29 10 (((xa_u S5.1 38 (((S5.1 29 10)).toNatClampNeg) y3) 29 10) + 1), S5.2.1, S5.2.2)) (n + 11) = if v3 = 5 then ex X d 125 133 [.ref 29, .int y1, w2, .int y3, .int (y4 + 1), .int v3] [.int (y4 + 1), .ref 37] (hh (xa_u (xa_u S5.1 38 (((S5.1 29 10)).toNatClampNeg) y3) 29 10 (((xa_u S5.1 38 (((S5.1 29 10)).toNatClampNeg) y3) 29 10) + 1), S5.2.1, S5.2.2)) n else ex X d 125 137 [.ref 29, .int y1, w2, .int y3, .int (y4 + 1), .int v3] [.int (y4 + 1), .ref 37] (hh (xa_u (xa_u S5.1 38 (((S5.1 29 10)).toNatClampNeg) y3) 29 10 (((xa_u S5.1 38 (((S5.1 29 10)).toNatClampNeg) y3) 29 10) + 1), S5.2.1, S5.2.2)) n := rfl
theorem B_125_50 {X : Nat × (Nat → Int32)} {d : Nat} (n : Nat) (y1 : Int32) (w2 : Value) (y3 : Int32) (y4 : Int32) (v3 : Int32) (S5 : St) : ex X d 125 137 [.ref 29, .int y1, w2, .int y3, .int (y4 + 1), .int v3] [.int (y4 + 1), .ref 37] (hh (xa_u (xa_u S5.1 38 (((S5.1 29 10)).toNatClampNeg) y3) 29 10 (((xa_u S5.1 38 (((S5.1 29 10)).toNatClampNeg) y3) 29 10) + 1), S5.2.1, S5.2.2)) (n + 2) = if (kd 37).1 = 0 ∧ xa_in (y4 + 1) (kd 37).2 then ex X d 125 139 [.ref 29, .int y1, w2, .int y3, .int (y4 + 1), .int v3] [] (hh (xa_u (xa_u (xa_u S5.1 38 (((S5.1 29 10)).toNatClampNeg) y3) 29 10 (((xa_u S5.1 38 (((S5.1 29 10)).toNatClampNeg) y3) 29 10) + 1)) 37 (((y4 + 1)).toNatClampNeg) 2, S5.2.1, S5.2.2)) n else none := rfl
theorem B_125_51 {X : Nat × (Nat → Int32)} {d : Nat} (n : Nat) (y1 : Int32) (w2 : Value) (y3 : Int32) (y4 : Int32) (v3 : Int32) (S5 : St) : ex X d 125 139 [.ref 29, .int y1, w2, .int y3, .int (y4 + 1), .int v3] [] (hh (xa_u (xa_u (xa_u S5.1 38 (((S5.1 29 10)).toNatClampNeg) y3) 29 10 (((xa_u S5.1 38 (((S5.1 29 10)).toNatClampNeg) y3) 29 10) + 1)) 37 (((y4 + 1)).toNatClampNeg) 2, S5.2.1, S5.2.2)) (n + 3) = ex X d 125 17 [.ref 29, .int y1, w2, .int (y3 + 1), .int (y4 + 1), .int v3] [] (hh (xa_u (xa_u (xa_u S5.1 38 (((S5.1 29 10)).toNatClampNeg) y3) 29 10 (((xa_u S5.1 38 (((S5.1 29 10)).toNatClampNeg) y3) 29 10) + 1)) 37 (((y4 + 1)).toNatClampNeg) 2, S5.2.1, S5.2.2)) n := rfl
theorem B_125_52 {X : Nat × (Nat → Int32)} {d : Nat} (n : Nat) (y1 : Int32) (w2 : Value) (y3 : Int32) (y4 : Int32) (w5 : Value) (v3 : Int32) (S3 : St) : ex X d 125 39 [.ref 29, .int y1, w2, .int y3, .int y4, w5] [.int v3] (hh S3) (n + 8) = if y4 = 6 then ex X d 125 52 [.ref 29, .int y1, w2, .int y3, .int y4, .int v3] [.int 0, .int y3, .int y1, .ref 29] (hh S3) n else ex X d 125 56 [.ref 29, .int y1, w2, .int y3, .int y4, .int v3] [.int 0, .int y3, .int y1, .ref 29] (hh S3) n := rfl
theorem B_125_53 {X : Nat × (Nat → Int32)} {d : Nat} (n : Nat) (y1 : Int32) (w2 : Value) (y3 : Int32) (y4 : Int32) (v3 : Int32) (S3 : St) : ex X (d + 1) 125 56 [.ref 29, .int y1, w2, .int y3, .int y4, .int v3] [.int 0, .int y3, .int y1, .ref 29] (hh S3) (n + 2) = (match ex X d 120 0 [.ref 29, .int y1, .int y3, .int 0, .int 7] [] (hh S3) n with | some (v, h') => ex X (d + 1) 125 61 [.ref 29, .int y1, w2, .int y3, .int y4, .int v3] (v.toList ++ []) h' n | none => none) := rfl
theorem B_125_54 {X : Nat × (Nat → Int32)} {d : Nat} (n : Nat) (y1 : Int32) (w2 : Value) (y3 : Int32) (y4 : Int32) (v3 : Int32) (S28 : St) : ex X d 125 61 [.ref 29, .int y1, w2, .int y3, .int y4, .int v3] [] (hh S28) (n + 6) = if (kd 38).1 = 0 ∧ xa_in (S28.1 29 10) (kd 38).2 then ex X d 125 71 [.ref 29, .int y1, w2, .int y3, .int y4, .int v3] [] (hh (xa_u S28.1 38 (((S28.1 29 10)).toNatClampNeg) y3, S28.2.1, S28.2.2)) n else none := rfl
theorem B_125_55 {X : Nat × (Nat → Int32)} {d : Nat} (n : Nat) (y1 : Int32) (w2 : Value) (y3 : Int32) (y4 : Int32) (v3 : Int32) (S28 : St) : ex X d 125 71 [.ref 29, .int y1, w2, .int y3, .int y4, .int v3] [] (hh (xa_u S28.1 38 (((S28.1 29 10)).toNatClampNeg) y3, S28.2.1, S28.2.2)) (n + 5) = if 63 ≤ ((xa_u S28.1 38 (((S28.1 29 10)).toNatClampNeg) y3) 29 10) then ex X d 125 90 [.ref 29, .int y1, w2, .int y3, .int y4, .int v3] [.ref 29] (hh (xa_u S28.1 38 (((S28.1 29 10)).toNatClampNeg) y3, S28.2.1, S28.2.2)) n else ex X d 125 81 [.ref 29, .int y1, w2, .int y3, .int y4, .int v3] [.ref 29] (hh (xa_u S28.1 38 (((S28.1 29 10)).toNatClampNeg) y3, S28.2.1, S28.2.2)) n := rfl
theorem B_125_56 {X : Nat × (Nat → Int32)} {d : Nat} (n : Nat) (y1 : Int32) (w2 : Value) (y3 : Int32) (y4 : Int32) (v3 : Int32) (S28 : St) : ex X d 125 90 [.ref 29, .int y1, w2, .int y3, .int y4, .int v3] [.ref 29] (hh (xa_u S28.1 38 (((S28.1 29 10)).toNatClampNeg) y3, S28.2.1, S28.2.2)) (n + 3) = if (kd 29).1 = 10 + 8 ∧ (xf_k 8 10 = 0 ∨ (xf_k 8 10 = 1 ∧ (((xa_u S28.1 38 (((S28.1 29 10)).toNatClampNeg) y3) 29 10) = 0 ∨ ((xa_u S28.1 38 (((S28.1 29 10)).toNatClampNeg) y3) 29 10) = 1))) then ex X d 125 97 [.ref 29, .int y1, w2, .int y3, .int y4, .int v3] [] (hh (xa_u (xa_u S28.1 38 (((S28.1 29 10)).toNatClampNeg) y3) 29 10 ((xa_u S28.1 38 (((S28.1 29 10)).toNatClampNeg) y3) 29 10), S28.2.1, S28.2.2)) n else none := rfl
theorem B_125_57 {X : Nat × (Nat → Int32)} {d : Nat} (n : Nat) (y1 : Int32) (w2 : Value) (y3 : Int32) (y4 : Int32) (v3 : Int32) (S28 : St) : ex X d 125 97 [.ref 29, .int y1, w2, .int y3, .int y4, .int v3] [] (hh (xa_u (xa_u S28.1 38 (((S28.1 29 10)).toNatClampNeg) y3) 29 10 ((xa_u S28.1 38 (((S28.1 29 10)).toNatClampNeg) y3) 29 10), S28.2.1, S28.2.2)) (n + 3) = if v3 < 5 then ex X d 125 145 [.ref 29, .int y1, w2, .int y3, .int y4, .int v3] [] (hh (xa_u (xa_u S28.1 38 (((S28.1 29 10)).toNatClampNeg) y3) 29 10 ((xa_u S28.1 38 (((S28.1 29 10)).toNatClampNeg) y3) 29 10), S28.2.1, S28.2.2)) n else ex X d 125 103 [.ref 29, .int y1, w2, .int y3, .int y4, .int v3] [] (hh (xa_u (xa_u S28.1 38 (((S28.1 29 10)).toNatClampNeg) y3) 29 10 ((xa_u S28.1 38 (((S28.1 29 10)).toNatClampNeg) y3) 29 10), S28.2.1, S28.2.2)) n := rfl
theorem B_125_58 {X : Nat × (Nat → Int32)} {d : Nat} (n : Nat) (y1 : Int32) (w2 : Value) (y3 : Int32) (y4 : Int32) (v3 : Int32) (S28 : St) : ex X (d + 1) 125 145 [.ref 29, .int y1, w2, .int y3, .int y4, .int v3] [] (hh (xa_u (xa_u S28.1 38 (((S28.1 29 10)).toNatClampNeg) y3) 29 10 ((xa_u S28.1 38 (((S28.1 29 10)).toNatClampNeg) y3) 29 10), S28.2.1, S28.2.2)) (n + 5) = (match ex X d 126 0 [.ref 29, .int y1, .int y3, .int v3] [] (hh (xa_u (xa_u S28.1 38 (((S28.1 29 10)).toNatClampNeg) y3) 29 10 ((xa_u S28.1 38 (((S28.1 29 10)).toNatClampNeg) y3) 29 10), S28.2.1, S28.2.2)) n with | some (v, h') => ex X (d + 1) 125 153 [.ref 29, .int y1, w2, .int y3, .int y4, .int v3] (v.toList ++ []) h' n | none => none) := rfl
theorem B_125_59 {X : Nat × (Nat → Int32)} {d : Nat} (n : Nat) (y1 : Int32) (w2 : Value) (y3 : Int32) (y4 : Int32) (v3 : Int32) (v32 : Int32) (S32 : St) : ex X d 125 153 [.ref 29, .int y1, w2, .int y3, .int y4, .int v3] [.int v32] (hh S32) (n + 6) = if (kd 37).1 = 0 ∧ xa_in y4 (kd 37).2 then ex X d 125 162 [.ref 29, .int y1, w2, .int v32, .int y4, .int v3] [.int (S32.1 37 (y4).toNatClampNeg), .int y4, .ref 37] (hh S32) n else none := rfl
theorem B_125_60 {X : Nat × (Nat → Int32)} {d : Nat} (n : Nat) (y1 : Int32) (w2 : Value) (v32 : Int32) (y4 : Int32) (v3 : Int32) (S32 : St) : ex X d 125 162 [.ref 29, .int y1, w2, .int v32, .int y4, .int v3] [.int (S32.1 37 (y4).toNatClampNeg), .int y4, .ref 37] (hh S32) (n + 3) = if (kd 37).1 = 0 ∧ xa_in y4 (kd 37).2 then ex X d 125 165 [.ref 29, .int y1, w2, .int v32, .int y4, .int v3] [] (hh (xa_u S32.1 37 ((y4).toNatClampNeg) ((S32.1 37 (y4).toNatClampNeg) - 1), S32.2.1, S32.2.2)) n else none := rfl
theorem B_125_61 {X : Nat × (Nat → Int32)} {d : Nat} (n : Nat) (y1 : Int32) (w2 : Value) (y3 : Int32) (y4 : Int32) (v3 : Int32) (S28 : St) : ex X d 125 97 [.ref 29, .int y1, w2, .int y3, .int y4, .int v3] [] (hh (xa_u (xa_u S28.1 38 (((S28.1 29 10)).toNatClampNeg) y3) 29 10 ((xa_u S28.1 38 (((S28.1 29 10)).toNatClampNeg) y3) 29 10), S28.2.1, S28.2.2)) (n + 3) = if v3 < 5 then ex X d 125 145 [.ref 29, .int y1, w2, .int y3, .int y4, .int v3] [] (hh (xa_u (xa_u S28.1 38 (((S28.1 29 10)).toNatClampNeg) y3) 29 10 ((xa_u S28.1 38 (((S28.1 29 10)).toNatClampNeg) y3) 29 10), S28.2.1, S28.2.2)) n else ex X d 125 103 [.ref 29, .int y1, w2, .int y3, .int y4, .int v3] [] (hh (xa_u (xa_u S28.1 38 (((S28.1 29 10)).toNatClampNeg) y3) 29 10 ((xa_u S28.1 38 (((S28.1 29 10)).toNatClampNeg) y3) 29 10), S28.2.1, S28.2.2)) n := rfl
theorem B_125_62 {X : Nat × (Nat → Int32)} {d : Nat} (n : Nat) (y1 : Int32) (w2 : Value) (y3 : Int32) (y4 : Int32) (v3 : Int32) (S28 : St) : ex X d 125 103 [.ref 29, .int y1, w2, .int y3, .int y4, .int v3] [] (hh (xa_u (xa_u S28.1 38 (((S28.1 29 10)).toNatClampNeg) y3) 29 10 ((xa_u S28.1 38 (((S28.1 29 10)).toNatClampNeg) y3) 29 10), S28.2.1, S28.2.2)) (n + 3) = if 7 ≤ y4 then ex X d 125 117 [.ref 29, .int y1, w2, .int y3, .int y4, .int v3] [] (hh (xa_u (xa_u S28.1 38 (((S28.1 29 10)).toNatClampNeg) y3) 29 10 ((xa_u S28.1 38 (((S28.1 29 10)).toNatClampNeg) y3) 29 10), S28.2.1, S28.2.2)) n else ex X d 125 110 [.ref 29, .int y1, w2, .int y3, .int y4, .int v3] [] (hh (xa_u (xa_u S28.1 38 (((S28.1 29 10)).toNatClampNeg) y3) 29 10 ((xa_u S28.1 38 (((S28.1 29 10)).toNatClampNeg) y3) 29 10), S28.2.1, S28.2.2)) n := rfl
theorem B_125_63 {X : Nat × (Nat → Int32)} {d : Nat} (n : Nat) (y1 : Int32) (w2 : Value) (y3 : Int32) (y4 : Int32) (v3 : Int32) (S28 : St) : ex X d 125 117 [.ref 29, .int y1, w2, .int y3, .int y4, .int v3] [] (hh (xa_u (xa_u S28.1 38 (((S28.1 29 10)).toNatClampNeg) y3) 29 10 ((xa_u S28.1 38 (((S28.1 29 10)).toNatClampNeg) y3) 29 10), S28.2.1, S28.2.2)) (n + 8) = if v3 = 5 then ex X d 125 133 [.ref 29, .int y1, w2, .int y3, .int y4, .int v3] [.int y4, .ref 37] (hh (xa_u (xa_u S28.1 38 (((S28.1 29 10)).toNatClampNeg) y3) 29 10 ((xa_u S28.1 38 (((S28.1 29 10)).toNatClampNeg) y3) 29 10), S28.2.1, S28.2.2)) n else ex X d 125 137 [.ref 29, .int y1, w2, .int y3, .int y4, .int v3] [.int y4, .ref 37] (hh (xa_u (xa_u S28.1 38 (((S28.1 29 10)).toNatClampNeg) y3) 29 10 ((xa_u S28.1 38 (((S28.1 29 10)).toNatClampNeg) y3) 29 10), S28.2.1, S28.2.2)) n := rfl
theorem B_125_64 {X : Nat × (Nat → Int32)} {d : Nat} (n : Nat) (y1 : Int32) (w2 : Value) (y3 : Int32) (y4 : Int32) (v3 : Int32) (S28 : St) : ex X d 125 133 [.ref 29, .int y1, w2, .int y3, .int y4, .int v3] [.int y4, .ref 37] (hh (xa_u (xa_u S28.1 38 (((S28.1 29 10)).toNatClampNeg) y3) 29 10 ((xa_u S28.1 38 (((S28.1 29 10)).toNatClampNeg) y3) 29 10), S28.2.1, S28.2.2)) (n + 3) = if (kd 37).1 = 0 ∧ xa_in y4 (kd 37).2 then ex X d 125 139 [.ref 29, .int y1, w2, .int y3, .int y4, .int v3] [] (hh (xa_u (xa_u (xa_u S28.1 38 (((S28.1 29 10)).toNatClampNeg) y3) 29 10 ((xa_u S28.1 38 (((S28.1 29 10)).toNatClampNeg) y3) 29 10)) 37 ((y4).toNatClampNeg) 1, S28.2.1, S28.2.2)) n else none := rfl
theorem B_125_65 {X : Nat × (Nat → Int32)} {d : Nat} (n : Nat) (y1 : Int32) (w2 : Value) (y3 : Int32) (y4 : Int32) (v3 : Int32) (S28 : St) : ex X d 125 139 [.ref 29, .int y1, w2, .int y3, .int y4, .int v3] [] (hh (xa_u (xa_u (xa_u S28.1 38 (((S28.1 29 10)).toNatClampNeg) y3) 29 10 ((xa_u S28.1 38 (((S28.1 29 10)).toNatClampNeg) y3) 29 10)) 37 ((y4).toNatClampNeg) 1, S28.2.1, S28.2.2)) (n + 3) = ex X d 125 17 [.ref 29, .int y1, w2, .int (y3 + 1), .int y4, .int v3] [] (hh (xa_u (xa_u (xa_u S28.1 38 (((S28.1 29 10)).toNatClampNeg) y3) 29 10 ((xa_u S28.1 38 (((S28.1 29 10)).toNatClampNeg) y3) 29 10)) 37 ((y4).toNatClampNeg) 1, S28.2.1, S28.2.2)) n := rfl
theorem B_125_66 {X : Nat × (Nat → Int32)} {d : Nat} (n : Nat) (y1 : Int32) (w2 : Value) (y3 : Int32) (y4 : Int32) (v3 : Int32) (S28 : St) : ex X d 125 117 [.ref 29, .int y1, w2, .int y3, .int y4, .int v3] [] (hh (xa_u (xa_u S28.1 38 (((S28.1 29 10)).toNatClampNeg) y3) 29 10 ((xa_u S28.1 38 (((S28.1 29 10)).toNatClampNeg) y3) 29 10), S28.2.1, S28.2.2)) (n + 8) = if v3 = 5 then ex X d 125 133 [.ref 29, .int y1, w2, .int y3, .int y4, .int v3] [.int y4, .ref 37] (hh (xa_u (xa_u S28.1 38 (((S28.1 29 10)).toNatClampNeg) y3) 29 10 ((xa_u S28.1 38 (((S28.1 29 10)).toNatClampNeg) y3) 29 10), S28.2.1, S28.2.2)) n else ex X d 125 137 [.ref 29, .int y1, w2, .int y3, .int y4, .int v3] [.int y4, .ref 37] (hh (xa_u (xa_u S28.1 38 (((S28.1 29 10)).toNatClampNeg) y3) 29 10 ((xa_u S28.1 38 (((S28.1 29 10)).toNatClampNeg) y3) 29 10), S28.2.1, S28.2.2)) n := rfl
theorem B_125_67 {X : Nat × (Nat → Int32)} {d : Nat} (n : Nat) (y1 : Int32) (w2 : Value) (y3 : Int32) (y4 : Int32) (v3 : Int32) (S28 : St) : ex X d 125 137 [.ref 29, .int y1, w2, .int y3, .int y4, .int v3] [.int y4, .ref 37] (hh (xa_u (xa_u S28.1 38 (((S28.1 29 10)).toNatClampNeg) y3) 29 10 ((xa_u S28.1 38 (((S28.1 29 10)).toNatClampNeg) y3) 29 10), S28.2.1, S28.2.2)) (n + 2) = if (kd 37).1 = 0 ∧ xa_in y4 (kd 37).2 then ex X d 125 139 [.ref 29, .int y1, w2, .int y3, .int y4, .int v3] [] (hh (xa_u (xa_u (xa_u S28.1 38 (((S28.1 29 10)).toNatClampNeg) y3) 29 10 ((xa_u S28.1 38 (((S28.1 29 10)).toNatClampNeg) y3) 29 10)) 37 ((y4).toNatClampNeg) 2, S28.2.1, S28.2.2)) n else none := rfl
theorem B_125_68 {X : Nat × (Nat → Int32)} {d : Nat} (n : Nat) (y1 : Int32) (w2 : Value) (y3 : Int32) (y4 : Int32) (v3 : Int32) (S28 : St) : ex X d 125 139 [.ref 29, .int y1, w2, .int y3, .int y4, .int v3] [] (hh (xa_u (xa_u (xa_u S28.1 38 (((S28.1 29 10)).toNatClampNeg) y3) 29 10 ((xa_u S28.1 38 (((S28.1 29 10)).toNatClampNeg) y3) 29 10)) 37 ((y4).toNatClampNeg) 2, S28.2.1, S28.2.2)) (n + 3) = ex X d 125 17 [.ref 29, .int y1, w2, .int (y3 + 1), .int y4, .int v3] [] (hh (xa_u (xa_u (xa_u S28.1 38 (((S28.1 29 10)).toNatClampNeg) y3) 29 10 ((xa_u S28.1 38 (((S28.1 29 10)).toNatClampNeg) y3) 29 10)) 37 ((y4).toNatClampNeg) 2, S28.2.1, S28.2.2)) n := rfl
theorem B_125_69 {X : Nat × (Nat → Int32)} {d : Nat} (n : Nat) (y1 : Int32) (w2 : Value) (y3 : Int32) (y4 : Int32) (v3 : Int32) (S28 : St) : ex X d 125 103 [.ref 29, .int y1, w2, .int y3, .int y4, .int v3] [] (hh (xa_u (xa_u S28.1 38 (((S28.1 29 10)).toNatClampNeg) y3) 29 10 ((xa_u S28.1 38 (((S28.1 29 10)).toNatClampNeg) y3) 29 10), S28.2.1, S28.2.2)) (n + 3) = if 7 ≤ y4 then ex X d 125 117 [.ref 29, .int y1, w2, .int y3, .int y4, .int v3] [] (hh (xa_u (xa_u S28.1 38 (((S28.1 29 10)).toNatClampNeg) y3) 29 10 ((xa_u S28.1 38 (((S28.1 29 10)).toNatClampNeg) y3) 29 10), S28.2.1, S28.2.2)) n else ex X d 125 110 [.ref 29, .int y1, w2, .int y3, .int y4, .int v3] [] (hh (xa_u (xa_u S28.1 38 (((S28.1 29 10)).toNatClampNeg) y3) 29 10 ((xa_u S28.1 38 (((S28.1 29 10)).toNatClampNeg) y3) 29 10), S28.2.1, S28.2.2)) n := rfl
theorem B_125_70 {X : Nat × (Nat → Int32)} {d : Nat} (n : Nat) (y1 : Int32) (w2 : Value) (y3 : Int32) (y4 : Int32) (v3 : Int32) (S28 : St) : ex X d 125 110 [.ref 29, .int y1, w2, .int y3, .int y4, .int v3] [] (hh (xa_u (xa_u S28.1 38 (((S28.1 29 10)).toNatClampNeg) y3) 29 10 ((xa_u S28.1 38 (((S28.1 29 10)).toNatClampNeg) y3) 29 10), S28.2.1, S28.2.2)) (n + 11) = if v3 = 5 then ex X d 125 133 [.ref 29, .int y1, w2, .int y3, .int (y4 + 1), .int v3] [.int (y4 + 1), .ref 37] (hh (xa_u (xa_u S28.1 38 (((S28.1 29 10)).toNatClampNeg) y3) 29 10 ((xa_u S28.1 38 (((S28.1 29 10)).toNatClampNeg) y3) 29 10), S28.2.1, S28.2.2)) n else ex X d 125 137 [.ref 29, .int y1, w2, .int y3, .int (y4 + 1), .int v3] [.int (y4 + 1), .ref 37] (hh (xa_u (xa_u S28.1 38 (((S28.1 29 10)).toNatClampNeg) y3) 29 10 ((xa_u S28.1 38 (((S28.1 29 10)).toNatClampNeg) y3) 29 10), S28.2.1, S28.2.2)) n := rfl
theorem B_125_71 {X : Nat × (Nat → Int32)} {d : Nat} (n : Nat) (y1 : Int32) (w2 : Value) (y3 : Int32) (y4 : Int32) (v3 : Int32) (S28 : St) : ex X d 125 133 [.ref 29, .int y1, w2, .int y3, .int (y4 + 1), .int v3] [.int (y4 + 1), .ref 37] (hh (xa_u (xa_u S28.1 38 (((S28.1 29 10)).toNatClampNeg) y3) 29 10 ((xa_u S28.1 38 (((S28.1 29 10)).toNatClampNeg) y3) 29 10), S28.2.1, S28.2.2)) (n + 3) = if (kd 37).1 = 0 ∧ xa_in (y4 + 1) (kd 37).2 then ex X d 125 139 [.ref 29, .int y1, w2, .int y3, .int (y4 + 1), .int v3] [] (hh (xa_u (xa_u (xa_u S28.1 38 (((S28.1 29 10)).toNatClampNeg) y3) 29 10 ((xa_u S28.1 38 (((S28.1 29 10)).toNatClampNeg) y3) 29 10)) 37 (((y4 + 1)).toNatClampNeg) 1, S28.2.1, S28.2.2)) n else none := rfl
theorem B_125_72 {X : Nat × (Nat → Int32)} {d : Nat} (n : Nat) (y1 : Int32) (w2 : Value) (y3 : Int32) (y4 : Int32) (v3 : Int32) (S28 : St) : ex X d 125 139 [.ref 29, .int y1, w2, .int y3, .int (y4 + 1), .int v3] [] (hh (xa_u (xa_u (xa_u S28.1 38 (((S28.1 29 10)).toNatClampNeg) y3) 29 10 ((xa_u S28.1 38 (((S28.1 29 10)).toNatClampNeg) y3) 29 10)) 37 (((y4 + 1)).toNatClampNeg) 1, S28.2.1, S28.2.2)) (n + 3) = ex X d 125 17 [.ref 29, .int y1, w2, .int (y3 + 1), .int (y4 + 1), .int v3] [] (hh (xa_u (xa_u (xa_u S28.1 38 (((S28.1 29 10)).toNatClampNeg) y3) 29 10 ((xa_u S28.1 38 (((S28.1 29 10)).toNatClampNeg) y3) 29 10)) 37 (((y4 + 1)).toNatClampNeg) 1, S28.2.1, S28.2.2)) n := rfl
theorem B_125_73 {X : Nat × (Nat → Int32)} {d : Nat} (n : Nat) (y1 : Int32) (w2 : Value) (y3 : Int32) (y4 : Int32) (v3 : Int32) (S28 : St) : ex X d 125 110 [.ref 29, .int y1, w2, .int y3, .int y4, .int v3] [] (hh (xa_u (xa_u S28.1 38 (((S28.1 29 10)).toNatClampNeg) y3) 29 10 ((xa_u S28.1 38 (((S28.1 29 10)).toNatClampNeg) y3) 29 10), S28.2.1, S28.2.2)) (n + 11) = if v3 = 5 then ex X d 125 133 [.ref 29, .int y1, w2, .int y3, .int (y4 + 1), .int v3] [.int (y4 + 1), .ref 37] (hh (xa_u (xa_u S28.1 38 (((S28.1 29 10)).toNatClampNeg) y3) 29 10 ((xa_u S28.1 38 (((S28.1 29 10)).toNatClampNeg) y3) 29 10), S28.2.1, S28.2.2)) n else ex X d 125 137 [.ref 29, .int y1, w2, .int y3, .int (y4 + 1), .int v3] [.int (y4 + 1), .ref 37] (hh (xa_u (xa_u S28.1 38 (((S28.1 29 10)).toNatClampNeg) y3) 29 10 ((xa_u S28.1 38 (((S28.1 29 10)).toNatClampNeg) y3) 29 10), S28.2.1, S28.2.2)) n := rfl
theorem B_125_74 {X : Nat × (Nat → Int32)} {d : Nat} (n : Nat) (y1 : Int32) (w2 : Value) (y3 : Int32) (y4 : Int32) (v3 : Int32) (S28 : St) : ex X d 125 137 [.ref 29, .int y1, w2, .int y3, .int (y4 + 1), .int v3] [.int (y4 + 1), .ref 37] (hh (xa_u (xa_u S28.1 38 (((S28.1 29 10)).toNatClampNeg) y3) 29 10 ((xa_u S28.1 38 (((S28.1 29 10)).toNatClampNeg) y3) 29 10), S28.2.1, S28.2.2)) (n + 2) = if (kd 37).1 = 0 ∧ xa_in (y4 + 1) (kd 37).2 then ex X d 125 139 [.ref 29, .int y1, w2, .int y3, .int (y4 + 1), .int v3] [] (hh (xa_u (xa_u (xa_u S28.1 38 (((S28.1 29 10)).toNatClampNeg) y3) 29 10 ((xa_u S28.1 38 (((S28.1 29 10)).toNatClampNeg) y3) 29 10)) 37 (((y4 + 1)).toNatClampNeg) 2, S28.2.1, S28.2.2)) n else none := rfl
theorem B_125_75 {X : Nat × (Nat → Int32)} {d : Nat} (n : Nat) (y1 : Int32) (w2 : Value) (y3 : Int32) (y4 : Int32) (v3 : Int32) (S28 : St) : ex X d 125 139 [.ref 29, .int y1, w2, .int y3, .int (y4 + 1), .int v3] [] (hh (xa_u (xa_u (xa_u S28.1 38 (((S28.1 29 10)).toNatClampNeg) y3) 29 10 ((xa_u S28.1 38 (((S28.1 29 10)).toNatClampNeg) y3) 29 10)) 37 (((y4 + 1)).toNatClampNeg) 2, S28.2.1, S28.2.2)) (n + 3) = ex X d 125 17 [.ref 29, .int y1, w2, .int (y3 + 1), .int (y4 + 1), .int v3] [] (hh (xa_u (xa_u (xa_u S28.1 38 (((S28.1 29 10)).toNatClampNeg) y3) 29 10 ((xa_u S28.1 38 (((S28.1 29 10)).toNatClampNeg) y3) 29 10)) 37 (((y4 + 1)).toNatClampNeg) 2, S28.2.1, S28.2.2)) n := rfl
theorem B_125_76 {X : Nat × (Nat → Int32)} {d : Nat} (n : Nat) (y1 : Int32) (w2 : Value) (y3 : Int32) (y4 : Int32) (v3 : Int32) (S28 : St) : ex X d 125 71 [.ref 29, .int y1, w2, .int y3, .int y4, .int v3] [] (hh (xa_u S28.1 38 (((S28.1 29 10)).toNatClampNeg) y3, S28.2.1, S28.2.2)) (n + 5) = if 63 ≤ ((xa_u S28.1 38 (((S28.1 29 10)).toNatClampNeg) y3) 29 10) then ex X d 125 90 [.ref 29, .int y1, w2, .int y3, .int y4, .int v3] [.ref 29] (hh (xa_u S28.1 38 (((S28.1 29 10)).toNatClampNeg) y3, S28.2.1, S28.2.2)) n else ex X d 125 81 [.ref 29, .int y1, w2, .int y3, .int y4, .int v3] [.ref 29] (hh (xa_u S28.1 38 (((S28.1 29 10)).toNatClampNeg) y3, S28.2.1, S28.2.2)) n := rfl
theorem B_125_77 {X : Nat × (Nat → Int32)} {d : Nat} (n : Nat) (y1 : Int32) (w2 : Value) (y3 : Int32) (y4 : Int32) (v3 : Int32) (S28 : St) : ex X d 125 81 [.ref 29, .int y1, w2, .int y3, .int y4, .int v3] [.ref 29] (hh (xa_u S28.1 38 (((S28.1 29 10)).toNatClampNeg) y3, S28.2.1, S28.2.2)) (n + 6) = if (kd 29).1 = 10 + 8 ∧ (xf_k 8 10 = 0 ∨ (xf_k 8 10 = 1 ∧ ((((xa_u S28.1 38 (((S28.1 29 10)).toNatClampNeg) y3) 29 10) + 1) = 0 ∨ (((xa_u S28.1 38 (((S28.1 29 10)).toNatClampNeg) y3) 29 10) + 1) = 1))) then ex X d 125 97 [.ref 29, .int y1, w2, .int y3, .int y4, .int v3] [] (hh (xa_u (xa_u S28.1 38 (((S28.1 29 10)).toNatClampNeg) y3) 29 10 (((xa_u S28.1 38 (((S28.1 29 10)).toNatClampNeg) y3) 29 10) + 1), S28.2.1, S28.2.2)) n else none := rfl
theorem B_125_78 {X : Nat × (Nat → Int32)} {d : Nat} (n : Nat) (y1 : Int32) (w2 : Value) (y3 : Int32) (y4 : Int32) (v3 : Int32) (S28 : St) : ex X d 125 97 [.ref 29, .int y1, w2, .int y3, .int y4, .int v3] [] (hh (xa_u (xa_u S28.1 38 (((S28.1 29 10)).toNatClampNeg) y3) 29 10 (((xa_u S28.1 38 (((S28.1 29 10)).toNatClampNeg) y3) 29 10) + 1), S28.2.1, S28.2.2)) (n + 3) = if v3 < 5 then ex X d 125 145 [.ref 29, .int y1, w2, .int y3, .int y4, .int v3] [] (hh (xa_u (xa_u S28.1 38 (((S28.1 29 10)).toNatClampNeg) y3) 29 10 (((xa_u S28.1 38 (((S28.1 29 10)).toNatClampNeg) y3) 29 10) + 1), S28.2.1, S28.2.2)) n else ex X d 125 103 [.ref 29, .int y1, w2, .int y3, .int y4, .int v3] [] (hh (xa_u (xa_u S28.1 38 (((S28.1 29 10)).toNatClampNeg) y3) 29 10 (((xa_u S28.1 38 (((S28.1 29 10)).toNatClampNeg) y3) 29 10) + 1), S28.2.1, S28.2.2)) n := rfl
theorem B_125_79 {X : Nat × (Nat → Int32)} {d : Nat} (n : Nat) (y1 : Int32) (w2 : Value) (y3 : Int32) (y4 : Int32) (v3 : Int32) (S28 : St) : ex X (d + 1) 125 145 [.ref 29, .int y1, w2, .int y3, .int y4, .int v3] [] (hh (xa_u (xa_u S28.1 38 (((S28.1 29 10)).toNatClampNeg) y3) 29 10 (((xa_u S28.1 38 (((S28.1 29 10)).toNatClampNeg) y3) 29 10) + 1), S28.2.1, S28.2.2)) (n + 5) = (match ex X d 126 0 [.ref 29, .int y1, .int y3, .int v3] [] (hh (xa_u (xa_u S28.1 38 (((S28.1 29 10)).toNatClampNeg) y3) 29 10 (((xa_u S28.1 38 (((S28.1 29 10)).toNatClampNeg) y3) 29 10) + 1), S28.2.1, S28.2.2)) n with | some (v, h') => ex X (d + 1) 125 153 [.ref 29, .int y1, w2, .int y3, .int y4, .int v3] (v.toList ++ []) h' n | none => none) := rfl
theorem B_125_80 {X : Nat × (Nat → Int32)} {d : Nat} (n : Nat) (y1 : Int32) (w2 : Value) (y3 : Int32) (y4 : Int32) (v3 : Int32) (v42 : Int32) (S42 : St) : ex X d 125 153 [.ref 29, .int y1, w2, .int y3, .int y4, .int v3] [.int v42] (hh S42) (n + 6) = if (kd 37).1 = 0 ∧ xa_in y4 (kd 37).2 then ex X d 125 162 [.ref 29, .int y1, w2, .int v42, .int y4, .int v3] [.int (S42.1 37 (y4).toNatClampNeg), .int y4, .ref 37] (hh S42) n else none := rfl
theorem B_125_81 {X : Nat × (Nat → Int32)} {d : Nat} (n : Nat) (y1 : Int32) (w2 : Value) (v42 : Int32) (y4 : Int32) (v3 : Int32) (S42 : St) : ex X d 125 162 [.ref 29, .int y1, w2, .int v42, .int y4, .int v3] [.int (S42.1 37 (y4).toNatClampNeg), .int y4, .ref 37] (hh S42) (n + 3) = if (kd 37).1 = 0 ∧ xa_in y4 (kd 37).2 then ex X d 125 165 [.ref 29, .int y1, w2, .int v42, .int y4, .int v3] [] (hh (xa_u S42.1 37 ((y4).toNatClampNeg) ((S42.1 37 (y4).toNatClampNeg) - 1), S42.2.1, S42.2.2)) n else none := rfl
theorem B_125_82 {X : Nat × (Nat → Int32)} {d : Nat} (n : Nat) (y1 : Int32) (w2 : Value) (y3 : Int32) (y4 : Int32) (v3 : Int32) (S28 : St) : ex X d 125 97 [.ref 29, .int y1, w2, .int y3, .int y4, .int v3] [] (hh (xa_u (xa_u S28.1 38 (((S28.1 29 10)).toNatClampNeg) y3) 29 10 (((xa_u S28.1 38 (((S28.1 29 10)).toNatClampNeg) y3) 29 10) + 1), S28.2.1, S28.2.2)) (n + 3) = if v3 < 5 then ex X d 125 145 [.ref 29, .int y1, w2, .int y3, .int y4, .int v3] [] (hh (xa_u (xa_u S28.1 38 (((S28.1 29 10)).toNatClampNeg) y3) 29 10 (((xa_u S28.1 38 (((S28.1 29 10)).toNatClampNeg) y3) 29 10) + 1), S28.2.1, S28.2.2)) n else ex X d 125 103 [.ref 29, .int y1, w2, .int y3, .int y4, .int v3] [] (hh (xa_u (xa_u S28.1 38 (((S28.1 29 10)).toNatClampNeg) y3) 29 10 (((xa_u S28.1 38 (((S28.1 29 10)).toNatClampNeg) y3) 29 10) + 1), S28.2.1, S28.2.2)) n := rfl
theorem B_125_83 {X : Nat × (Nat → Int32)} {d : Nat} (n : Nat) (y1 : Int32) (w2 : Value) (y3 : Int32) (y4 : Int32) (v3 : Int32) (S28 : St) : ex X d 125 103 [.ref 29, .int y1, w2, .int y3, .int y4, .int v3] [] (hh (xa_u (xa_u S28.1 38 (((S28.1 29 10)).toNatClampNeg) y3) 29 10 (((xa_u S28.1 38 (((S28.1 29 10)).toNatClampNeg) y3) 29 10) + 1), S28.2.1, S28.2.2)) (n + 3) = if 7 ≤ y4 then ex X d 125 117 [.ref 29, .int y1, w2, .int y3, .int y4, .int v3] [] (hh (xa_u (xa_u S28.1 38 (((S28.1 29 10)).toNatClampNeg) y3) 29 10 (((xa_u S28.1 38 (((S28.1 29 10)).toNatClampNeg) y3) 29 10) + 1), S28.2.1, S28.2.2)) n else ex X d 125 110 [.ref 29, .int y1, w2, .int y3, .int y4, .int v3] [] (hh (xa_u (xa_u S28.1 38 (((S28.1 29 10)).toNatClampNeg) y3) 29 10 (((xa_u S28.1 38 (((S28.1 29 10)).toNatClampNeg) y3) 29 10) + 1), S28.2.1, S28.2.2)) n := rfl
theorem B_125_84 {X : Nat × (Nat → Int32)} {d : Nat} (n : Nat) (y1 : Int32) (w2 : Value) (y3 : Int32) (y4 : Int32) (v3 : Int32) (S28 : St) : ex X d 125 117 [.ref 29, .int y1, w2, .int y3, .int y4, .int v3] [] (hh (xa_u (xa_u S28.1 38 (((S28.1 29 10)).toNatClampNeg) y3) 29 10 (((xa_u S28.1 38 (((S28.1 29 10)).toNatClampNeg) y3) 29 10) + 1), S28.2.1, S28.2.2)) (n + 8) = if v3 = 5 then ex X d 125 133 [.ref 29, .int y1, w2, .int y3, .int y4, .int v3] [.int y4, .ref 37] (hh (xa_u (xa_u S28.1 38 (((S28.1 29 10)).toNatClampNeg) y3) 29 10 (((xa_u S28.1 38 (((S28.1 29 10)).toNatClampNeg) y3) 29 10) + 1), S28.2.1, S28.2.2)) n else ex X d 125 137 [.ref 29, .int y1, w2, .int y3, .int y4, .int v3] [.int y4, .ref 37] (hh (xa_u (xa_u S28.1 38 (((S28.1 29 10)).toNatClampNeg) y3) 29 10 (((xa_u S28.1 38 (((S28.1 29 10)).toNatClampNeg) y3) 29 10) + 1), S28.2.1, S28.2.2)) n := rfl
theorem B_125_85 {X : Nat × (Nat → Int32)} {d : Nat} (n : Nat) (y1 : Int32) (w2 : Value) (y3 : Int32) (y4 : Int32) (v3 : Int32) (S28 : St) : ex X d 125 133 [.ref 29, .int y1, w2, .int y3, .int y4, .int v3] [.int y4, .ref 37] (hh (xa_u (xa_u S28.1 38 (((S28.1 29 10)).toNatClampNeg) y3) 29 10 (((xa_u S28.1 38 (((S28.1 29 10)).toNatClampNeg) y3) 29 10) + 1), S28.2.1, S28.2.2)) (n + 3) = if (kd 37).1 = 0 ∧ xa_in y4 (kd 37).2 then ex X d 125 139 [.ref 29, .int y1, w2, .int y3, .int y4, .int v3] [] (hh (xa_u (xa_u (xa_u S28.1 38 (((S28.1 29 10)).toNatClampNeg) y3) 29 10 (((xa_u S28.1 38 (((S28.1 29 10)).toNatClampNeg) y3) 29 10) + 1)) 37 ((y4).toNatClampNeg) 1, S28.2.1, S28.2.2)) n else none := rfl
theorem B_125_86 {X : Nat × (Nat → Int32)} {d : Nat} (n : Nat) (y1 : Int32) (w2 : Value) (y3 : Int32) (y4 : Int32) (v3 : Int32) (S28 : St) : ex X d 125 139 [.ref 29, .int y1, w2, .int y3, .int y4, .int v3] [] (hh (xa_u (xa_u (xa_u S28.1 38 (((S28.1 29 10)).toNatClampNeg) y3) 29 10 (((xa_u S28.1 38 (((S28.1 29 10)).toNatClampNeg) y3) 29 10) + 1)) 37 ((y4).toNatClampNeg) 1, S28.2.1, S28.2.2)) (n + 3) = ex X d 125 17 [.ref 29, .int y1, w2, .int (y3 + 1), .int y4, .int v3] [] (hh (xa_u (xa_u (xa_u S28.1 38 (((S28.1 29 10)).toNatClampNeg) y3) 29 10 (((xa_u S28.1 38 (((S28.1 29 10)).toNatClampNeg) y3) 29 10) + 1)) 37 ((y4).toNatClampNeg) 1, S28.2.1, S28.2.2)) n := rfl
theorem B_125_87 {X : Nat × (Nat → Int32)} {d : Nat} (n : Nat) (y1 : Int32) (w2 : Value) (y3 : Int32) (y4 : Int32) (v3 : Int32) (S28 : St) : ex X d 125 117 [.ref 29, .int y1, w2, .int y3, .int y4, .int v3] [] (hh (xa_u (xa_u S28.1 38 (((S28.1 29 10)).toNatClampNeg) y3) 29 10 (((xa_u S28.1 38 (((S28.1 29 10)).toNatClampNeg) y3) 29 10) + 1), S28.2.1, S28.2.2)) (n + 8) = if v3 = 5 then ex X d 125 133 [.ref 29, .int y1, w2, .int y3, .int y4, .int v3] [.int y4, .ref 37] (hh (xa_u (xa_u S28.1 38 (((S28.1 29 10)).toNatClampNeg) y3) 29 10 (((xa_u S28.1 38 (((S28.1 29 10)).toNatClampNeg) y3) 29 10) + 1), S28.2.1, S28.2.2)) n else ex X d 125 137 [.ref 29, .int y1, w2, .int y3, .int y4, .int v3] [.int y4, .ref 37] (hh (xa_u (xa_u S28.1 38 (((S28.1 29 10)).toNatClampNeg) y3) 29 10 (((xa_u S28.1 38 (((S28.1 29 10)).toNatClampNeg) y3) 29 10) + 1), S28.2.1, S28.2.2)) n := rfl
theorem B_125_88 {X : Nat × (Nat → Int32)} {d : Nat} (n : Nat) (y1 : Int32) (w2 : Value) (y3 : Int32) (y4 : Int32) (v3 : Int32) (S28 : St) : ex X d 125 137 [.ref 29, .int y1, w2, .int y3, .int y4, .int v3] [.int y4, .ref 37] (hh (xa_u (xa_u S28.1 38 (((S28.1 29 10)).toNatClampNeg) y3) 29 10 (((xa_u S28.1 38 (((S28.1 29 10)).toNatClampNeg) y3) 29 10) + 1), S28.2.1, S28.2.2)) (n + 2) = if (kd 37).1 = 0 ∧ xa_in y4 (kd 37).2 then ex X d 125 139 [.ref 29, .int y1, w2, .int y3, .int y4, .int v3] [] (hh (xa_u (xa_u (xa_u S28.1 38 (((S28.1 29 10)).toNatClampNeg) y3) 29 10 (((xa_u S28.1 38 (((S28.1 29 10)).toNatClampNeg) y3) 29 10) + 1)) 37 ((y4).toNatClampNeg) 2, S28.2.1, S28.2.2)) n else none := rfl
theorem B_125_89 {X : Nat × (Nat → Int32)} {d : Nat} (n : Nat) (y1 : Int32) (w2 : Value) (y3 : Int32) (y4 : Int32) (v3 : Int32) (S28 : St) : ex X d 125 139 [.ref 29, .int y1, w2, .int y3, .int y4, .int v3] [] (hh (xa_u (xa_u (xa_u S28.1 38 (((S28.1 29 10)).toNatClampNeg) y3) 29 10 (((xa_u S28.1 38 (((S28.1 29 10)).toNatClampNeg) y3) 29 10) + 1)) 37 ((y4).toNatClampNeg) 2, S28.2.1, S28.2.2)) (n + 3) = ex X d 125 17 [.ref 29, .int y1, w2, .int (y3 + 1), .int y4, .int v3] [] (hh (xa_u (xa_u (xa_u S28.1 38 (((S28.1 29 10)).toNatClampNeg) y3) 29 10 (((xa_u S28.1 38 (((S28.1 29 10)).toNatClampNeg) y3) 29 10) + 1)) 37 ((y4).toNatClampNeg) 2, S28.2.1, S28.2.2)) n := rfl
theorem B_125_90 {X : Nat × (Nat → Int32)} {d : Nat} (n : Nat) (y1 : Int32) (w2 : Value) (y3 : Int32) (y4 : Int32) (v3 : Int32) (S28 : St) : ex X d 125 103 [.ref 29, .int y1, w2, .int y3, .int y4, .int v3] [] (hh (xa_u (xa_u S28.1 38 (((S28.1 29 10)).toNatClampNeg) y3) 29 10 (((xa_u S28.1 38 (((S28.1 29 10)).toNatClampNeg) y3) 29 10) + 1), S28.2.1, S28.2.2)) (n + 3) = if 7 ≤ y4 then ex X d 125 117 [.ref 29, .int y1, w2, .int y3, .int y4, .int v3] [] (hh (xa_u (xa_u S28.1 38 (((S28.1 29 10)).toNatClampNeg) y3) 29 10 (((xa_u S28.1 38 (((S28.1 29 10)).toNatClampNeg) y3) 29 10) + 1), S28.2.1, S28.2.2)) n else ex X d 125 110 [.ref 29, .int y1, w2, .int y3, .int y4, .int v3] [] (hh (xa_u (xa_u S28.1 38 (((S28.1 29 10)).toNatClampNeg) y3) 29 10 (((xa_u S28.1 38 (((S28.1 29 10)).toNatClampNeg) y3) 29 10) + 1), S28.2.1, S28.2.2)) n := rfl
theorem B_125_91 {X : Nat × (Nat → Int32)} {d : Nat} (n : Nat) (y1 : Int32) (w2 : Value) (y3 : Int32) (y4 : Int32) (v3 : Int32) (S28 : St) : ex X d 125 110 [.ref 29, .int y1, w2, .int y3, .int y4, .int v3] [] (hh (xa_u (xa_u S28.1 38 (((S28.1 29 10)).toNatClampNeg) y3) 29 10 (((xa_u S28.1 38 (((S28.1 29 10)).toNatClampNeg) y3) 29 10) + 1), S28.2.1, S28.2.2)) (n + 11) = if v3 = 5 then ex X d 125 133 [.ref 29, .int y1, w2, .int y3, .int (y4 + 1), .int v3] [.int (y4 + 1), .ref 37] (hh (xa_u (xa_u S28.1 38 (((S28.1 29 10)).toNatClampNeg) y3) 29 10 (((xa_u S28.1 38 (((S28.1 29 10)).toNatClampNeg) y3) 29 10) + 1), S28.2.1, S28.2.2)) n else ex X d 125 137 [.ref 29, .int y1, w2, .int y3, .int (y4 + 1), .int v3] [.int (y4 + 1), .ref 37] (hh (xa_u (xa_u S28.1 38 (((S28.1 29 10)).toNatClampNeg) y3) 29 10 (((xa_u S28.1 38 (((S28.1 29 10)).toNatClampNeg) y3) 29 10) + 1), S28.2.1, S28.2.2)) n := rfl
theorem B_125_92 {X : Nat × (Nat → Int32)} {d : Nat} (n : Nat) (y1 : Int32) (w2 : Value) (y3 : Int32) (y4 : Int32) (v3 : Int32) (S28 : St) : ex X d 125 133 [.ref 29, .int y1, w2, .int y3, .int (y4 + 1), .int v3] [.int (y4 + 1), .ref 37] (hh (xa_u (xa_u S28.1 38 (((S28.1 29 10)).toNatClampNeg) y3) 29 10 (((xa_u S28.1 38 (((S28.1 29 10)).toNatClampNeg) y3) 29 10) + 1), S28.2.1, S28.2.2)) (n + 3) = if (kd 37).1 = 0 ∧ xa_in (y4 + 1) (kd 37).2 then ex X d 125 139 [.ref 29, .int y1, w2, .int y3, .int (y4 + 1), .int v3] [] (hh (xa_u (xa_u (xa_u S28.1 38 (((S28.1 29 10)).toNatClampNeg) y3) 29 10 (((xa_u S28.1 38 (((S28.1 29 10)).toNatClampNeg) y3) 29 10) + 1)) 37 (((y4 + 1)).toNatClampNeg) 1, S28.2.1, S28.2.2)) n else none := rfl
theorem B_125_93 {X : Nat × (Nat → Int32)} {d : Nat} (n : Nat) (y1 : Int32) (w2 : Value) (y3 : Int32) (y4 : Int32) (v3 : Int32) (S28 : St) : ex X d 125 139 [.ref 29, .int y1, w2, .int y3, .int (y4 + 1), .int v3] [] (hh (xa_u (xa_u (xa_u S28.1 38 (((S28.1 29 10)).toNatClampNeg) y3) 29 10 (((xa_u S28.1 38 (((S28.1 29 10)).toNatClampNeg) y3) 29 10) + 1)) 37 (((y4 + 1)).toNatClampNeg) 1, S28.2.1, S28.2.2)) (n + 3) = ex X d 125 17 [.ref 29, .int y1, w2, .int (y3 + 1), .int (y4 + 1), .int v3] [] (hh (xa_u (xa_u (xa_u S28.1 38 (((S28.1 29 10)).toNatClampNeg) y3) 29 10 (((xa_u S28.1 38 (((S28.1 29 10)).toNatClampNeg) y3) 29 10) + 1)) 37 (((y4 + 1)).toNatClampNeg) 1, S28.2.1, S28.2.2)) n := rfl
theorem B_125_94 {X : Nat × (Nat → Int32)} {d : Nat} (n : Nat) (y1 : Int32) (w2 : Value) (y3 : Int32) (y4 : Int32) (v3 : Int32) (S28 : St) : ex X d 125 110 [.ref 29, .int y1, w2, .int y3, .int y4, .int v3] [] (hh (xa_u (xa_u S28.1 38 (((S28.1 29 10)).toNatClampNeg) y3) 29 10 (((xa_u S28.1 38 (((S28.1 29 10)).toNatClampNeg) y3) 29 10) + 1), S28.2.1, S28.2.2)) (n + 11) = if v3 = 5 then ex X d 125 133 [.ref 29, .int y1, w2, .int y3, .int (y4 + 1), .int v3] [.int (y4 + 1), .ref 37] (hh (xa_u (xa_u S28.1 38 (((S28.1 29 10)).toNatClampNeg) y3) 29 10 (((xa_u S28.1 38 (((S28.1 29 10)).toNatClampNeg) y3) 29 10) + 1), S28.2.1, S28.2.2)) n else ex X d 125 137 [.ref 29, .int y1, w2, .int y3, .int (y4 + 1), .int v3] [.int (y4 + 1), .ref 37] (hh (xa_u (xa_u S28.1 38 (((S28.1 29 10)).toNatClampNeg) y3) 29 10 (((xa_u S28.1 38 (((S28.1 29 10)).toNatClampNeg) y3) 29 10) + 1), S28.2.1, S28.2.2)) n := rfl
theorem B_125_95 {X : Nat × (Nat → Int32)} {d : Nat} (n : Nat) (y1 : Int32) (w2 : Value) (y3 : Int32) (y4 : Int32) (v3 : Int32) (S28 : St) : ex X d 125 137 [.ref 29, .int y1, w2, .int y3, .int (y4 + 1), .int v3] [.int (y4 + 1), .ref 37] (hh (xa_u (xa_u S28.1 38 (((S28.1 29 10)).toNatClampNeg) y3) 29 10 (((xa_u S28.1 38 (((S28.1 29 10)).toNatClampNeg) y3) 29 10) + 1), S28.2.1, S28.2.2)) (n + 2) = if (kd 37).1 = 0 ∧ xa_in (y4 + 1) (kd 37).2 then ex X d 125 139 [.ref 29, .int y1, w2, .int y3, .int (y4 + 1), .int v3] [] (hh (xa_u (xa_u (xa_u S28.1 38 (((S28.1 29 10)).toNatClampNeg) y3) 29 10 (((xa_u S28.1 38 (((S28.1 29 10)).toNatClampNeg) y3) 29 10) + 1)) 37 (((y4 + 1)).toNatClampNeg) 2, S28.2.1, S28.2.2)) n else none := rfl
theorem B_125_96 {X : Nat × (Nat → Int32)} {d : Nat} (n : Nat) (y1 : Int32) (w2 : Value) (y3 : Int32) (y4 : Int32) (v3 : Int32) (S28 : St) : ex X d 125 139 [.ref 29, .int y1, w2, .int y3, .int (y4 + 1), .int v3] [] (hh (xa_u (xa_u (xa_u S28.1 38 (((S28.1 29 10)).toNatClampNeg) y3) 29 10 (((xa_u S28.1 38 (((S28.1 29 10)).toNatClampNeg) y3) 29 10) + 1)) 37 (((y4 + 1)).toNatClampNeg) 2, S28.2.1, S28.2.2)) (n + 3) = ex X d 125 17 [.ref 29, .int y1, w2, .int (y3 + 1), .int (y4 + 1), .int v3] [] (hh (xa_u (xa_u (xa_u S28.1 38 (((S28.1 29 10)).toNatClampNeg) y3) 29 10 (((xa_u S28.1 38 (((S28.1 29 10)).toNatClampNeg) y3) 29 10) + 1)) 37 (((y4 + 1)).toNatClampNeg) 2, S28.2.1, S28.2.2)) n := rfl
theorem B_125_97 {X : Nat × (Nat → Int32)} {d : Nat} (n : Nat) (y1 : Int32) (w2 : Value) (y3 : Int32) (y4 : Int32) (w5 : Value) (S : St) : ex X d 125 165 [.ref 29, .int y1, w2, .int y3, .int y4, w5] [] (hh S) (n + 2) = if y4 ≤ 0 then ex X d 125 197 [.ref 29, .int y1, w2, .int y3, .int y4, w5] [] (hh S) n else ex X d 125 170 [.ref 29, .int y1, w2, .int y3, .int y4, w5] [] (hh S) n := rfl
theorem B_125_98 {X : Nat × (Nat → Int32)} {d : Nat} (n : Nat) (y1 : Int32) (w2 : Value) (y3 : Int32) (y4 : Int32) (w5 : Value) (S : St) : ex X d 125 197 [.ref 29, .int y1, w2, .int y3, .int y4, w5] [] (hh S) (n + 1) = ex X d 125 17 [.ref 29, .int y1, w2, .int y3, .int y4, w5] [] (hh S) n := rfl
theorem B_125_99 {X : Nat × (Nat → Int32)} {d : Nat} (n : Nat) (y1 : Int32) (w2 : Value) (y3 : Int32) (y4 : Int32) (w5 : Value) (S : St) : ex X d 125 165 [.ref 29, .int y1, w2, .int y3, .int y4, w5] [] (hh S) (n + 2) = if y4 ≤ 0 then ex X d 125 197 [.ref 29, .int y1, w2, .int y3, .int y4, w5] [] (hh S) n else ex X d 125 170 [.ref 29, .int y1, w2, .int y3, .int y4, w5] [] (hh S) n := rfl
theorem B_125_100 {X : Nat × (Nat → Int32)} {d : Nat} (n : Nat) (y1 : Int32) (w2 : Value) (y3 : Int32) (y4 : Int32) (w5 : Value) (S : St) : ex X d 125 170 [.ref 29, .int y1, w2, .int y3, .int y4, w5] [] (hh S) (n + 4) = if (kd 37).1 = 0 ∧ xa_in y4 (kd 37).2 then ex X d 125 177 [.ref 29, .int y1, w2, .int y3, .int y4, w5] [.int (S.1 37 (y4).toNatClampNeg)] (hh S) n else none := rfl
theorem B_125_101 {X : Nat × (Nat → Int32)} {d : Nat} (n : Nat) (y1 : Int32) (w2 : Value) (y3 : Int32) (y4 : Int32) (w5 : Value) (S : St) : ex X d 125 177 [.ref 29, .int y1, w2, .int y3, .int y4, w5] [.int (S.1 37 (y4).toNatClampNeg)] (hh S) (n + 1) = if (S.1 37 (y4).toNatClampNeg) = 0 then ex X d 125 180 [.ref 29, .int y1, w2, .int y3, .int y4, w5] [] (hh S) n else ex X d 125 197 [.ref 29, .int y1, w2, .int y3, .int y4, w5] [] (hh S) n := rfl
theorem B_125_102 {X : Nat × (Nat → Int32)} {d : Nat} (n : Nat) (y1 : Int32) (w2 : Value) (y3 : Int32) (y4 : Int32) (w5 : Value) (S : St) : ex X d 125 180 [.ref 29, .int y1, w2, .int y3, .int y4, w5] [] (hh S) (n + 1) = ex X d 125 183 [.ref 29, .int y1, w2, .int y3, .int (y4 + (-1)), w5] [] (hh S) n := rfl
theorem B_125_103 {X : Nat × (Nat → Int32)} {d : Nat} (n : Nat) (y1 : Int32) (w2 : Value) (y3 : Int32) (z54 : Int32) (w5 : Value) (S : St) : ex X d 125 183 [.ref 29, .int y1, w2, .int y3, .int z54, w5] [] (hh S) (n + 5) = if (kd 37).1 = 0 ∧ xa_in z54 (kd 37).2 then ex X d 125 191 [.ref 29, .int y1, w2, .int y3, .int z54, w5] [.int (S.1 37 (z54).toNatClampNeg), .int z54, .ref 37] (hh S) n else none := rfl
theorem B_125_104 {X : Nat × (Nat → Int32)} {d : Nat} (n : Nat) (y1 : Int32) (w2 : Value) (y3 : Int32) (z54 : Int32) (w5 : Value) (S : St) : ex X d 125 191 [.ref 29, .int y1, w2, .int y3, .int z54, w5] [.int (S.1 37 (z54).toNatClampNeg), .int z54, .ref 37] (hh S) (n + 3) = if (kd 37).1 = 0 ∧ xa_in z54 (kd 37).2 then ex X d 125 194 [.ref 29, .int y1, w2, .int y3, .int z54, w5] [] (hh (xa_u S.1 37 ((z54).toNatClampNeg) ((S.1 37 (z54).toNatClampNeg) - 1), S.2.1, S.2.2)) n else none := rfl
theorem B_125_105 {X : Nat × (Nat → Int32)} {d : Nat} (n : Nat) (y1 : Int32) (w2 : Value) (y3 : Int32) (z54 : Int32) (w5 : Value) (S : St) : ex X d 125 194 [.ref 29, .int y1, w2, .int y3, .int z54, w5] [] (hh (xa_u S.1 37 ((z54).toNatClampNeg) ((S.1 37 (z54).toNatClampNeg) - 1), S.2.1, S.2.2)) (n + 1) = ex X d 125 165 [.ref 29, .int y1, w2, .int y3, .int z54, w5] [] (hh (xa_u S.1 37 ((z54).toNatClampNeg) ((S.1 37 (z54).toNatClampNeg) - 1), S.2.1, S.2.2)) n := rfl
theorem B_125_106 {X : Nat × (Nat → Int32)} {d : Nat} (n : Nat) (y1 : Int32) (w2 : Value) (y3 : Int32) (y4 : Int32) (w5 : Value) (S : St) : ex X d 125 177 [.ref 29, .int y1, w2, .int y3, .int y4, w5] [.int (S.1 37 (y4).toNatClampNeg)] (hh S) (n + 1) = if (S.1 37 (y4).toNatClampNeg) = 0 then ex X d 125 180 [.ref 29, .int y1, w2, .int y3, .int y4, w5] [] (hh S) n else ex X d 125 197 [.ref 29, .int y1, w2, .int y3, .int y4, w5] [] (hh S) n := rfl
theorem B_125_107 {X : Nat × (Nat → Int32)} {d : Nat} (n : Nat) (y1 : Int32) (w2 : Value) (y3 : Int32) (y4 : Int32) (w5 : Value) (S : St) : ex X d 125 197 [.ref 29, .int y1, w2, .int y3, .int y4, w5] [] (hh S) (n + 1) = ex X d 125 17 [.ref 29, .int y1, w2, .int y3, .int y4, w5] [] (hh S) n := rfl
set_option maxRecDepth 200000 in
theorem TL_125_0 {X : Nat × (Nat → Int32)} : ∀ (n : Nat) (S : St) (y1 : Int32) (y3 : Int32) (y4 : Int32) (r : Int32) (S' : St), (GL_125_0 n 0 S y1 y3 y4 = some (r, S') → ∀ (w2 w5 : Value), Ev X 4 125 17 [.ref 29, .int y1, w2, .int y3, .int y4, w5] [] (hh S) (xI r, hh S')) ∧ (GL_125_0 n 1 S y1 y3 y4 = some (r, S') → ∀ (w2 w5 : Value), Ev X 4 125 165 [.ref 29, .int y1, w2, .int y3, .int y4, w5] [] (hh S) (xI r, hh S')) := by
  intro n
  induction n with
  | zero => intro S y1 y3 y4 r S'; refine ⟨?_, ?_⟩ <;> intro hG <;> simp [GL_125_0] at hG
  | succ n ih =>
    intro S y1 y3 y4 r S'
    refine ⟨?_, ?_⟩
    · intro hG w2 w5
      rw [GL_125_0] at hG
      by_cases c1 : 0 ≤ (S.1 29 7)
      · rw [if_pos c1] at hG
        refine Ev.t (c := 0 ≤ (S.1 29 7)) (p1 := 200) (L1 := [.ref 29, .int y1, w2, .int y3, .int y4, w5]) (s1 := []) (h1 := hh S) (p2 := 24) (L2 := [.ref 29, .int y1, w2, .int y3, .int y4, w5]) (s2 := []) (h2 := hh S) 3 (fun n => B_125_1 n y1 w2 y3 y4 w5 S) c1 ?_
        obtain ⟨e1, e2⟩ := Prod.mk.inj (Option.some.inj hG)
        subst e1
        subst e2
        exact Ev.r 2 (fun n => rfl)
      · rw [if_neg c1] at hG
        refine Ev.f (c := 0 ≤ (S.1 29 7)) (p1 := 200) (L1 := [.ref 29, .int y1, w2, .int y3, .int y4, w5]) (s1 := []) (h1 := hh S) (p2 := 24) (L2 := [.ref 29, .int y1, w2, .int y3, .int y4, w5]) (s2 := []) (h2 := hh S) 3 (fun n => B_125_2 n y1 w2 y3 y4 w5 S) c1 ?_
        refine Ev.g (c := (kd 37).1 = 0 ∧ xa_in (0 : Int32) (kd 37).2) (p1 := 30) (L1 := [.ref 29, .int y1, w2, .int y3, .int y4, w5]) (s1 := [.int (S.1 37 ((0 : Int32)).toNatClampNeg)]) (h1 := hh S) 4 (fun n => B_125_3 n y1 w2 y3 y4 w5 S) (⟨rfl, by decide⟩) ?_
        by_cases c2 : (S.1 37 ((0 : Int32)).toNatClampNeg) ≤ 0
        · rw [if_pos c2] at hG
          refine Ev.t (c := (S.1 37 ((0 : Int32)).toNatClampNeg) ≤ 0) (p1 := 200) (L1 := [.ref 29, .int y1, w2, .int y3, .int y4, w5]) (s1 := []) (h1 := hh S) (p2 := 33) (L2 := [.ref 29, .int y1, w2, .int y3, .int y4, w5]) (s2 := []) (h2 := hh S) 1 (fun n => B_125_4 n y1 w2 y3 y4 w5 S) c2 ?_
          obtain ⟨e1, e2⟩ := Prod.mk.inj (Option.some.inj hG)
          subst e1
          subst e2
          exact Ev.r 2 (fun n => rfl)
        · rw [if_neg c2] at hG
          refine Ev.f (c := (S.1 37 ((0 : Int32)).toNatClampNeg) ≤ 0) (p1 := 200) (L1 := [.ref 29, .int y1, w2, .int y3, .int y4, w5]) (s1 := []) (h1 := hh S) (p2 := 33) (L2 := [.ref 29, .int y1, w2, .int y3, .int y4, w5]) (s2 := []) (h2 := hh S) 1 (fun n => B_125_5 n y1 w2 y3 y4 w5 S) c2 ?_
          rcases h3 : G_118 S y1 y3 with _ | ⟨v3, S3⟩
          · rw [h3] at hG; cases hG
          rw [h3] at hG
          dsimp only at hG
          refine Ev.c (a := 118) (A := [.ref 29, .int y1, .int y3]) (h1 := hh S) (pc' := 39) (L' := [.ref 29, .int y1, w2, .int y3, .int y4, w5]) (rest := []) (r1 := some (.int v3)) (h2 := hh S3) 4 (fun n => B_125_6 n y1 w2 y3 y4 w5 S) (Ev.up (by decide) (T_118 S y1 y3 _ _ h3)) ?_
          show Ev X _ 125 39 [.ref 29, .int y1, w2, .int y3, .int y4, w5] [.int v3] (hh S3) _
          by_cases c4 : y4 = 6
          · rw [if_pos c4] at hG
            refine Ev.t (c := y4 = 6) (p1 := 52) (L1 := [.ref 29, .int y1, w2, .int y3, .int y4, .int v3]) (s1 := [.int 0, .int y3, .int y1, .ref 29]) (h1 := hh S3) (p2 := 56) (L2 := [.ref 29, .int y1, w2, .int y3, .int y4, .int v3]) (s2 := [.int 0, .int y3, .int y1, .ref 29]) (h2 := hh S3) 8 (fun n => B_125_7 n y1 w2 y3 y4 w5 v3 S3) c4 ?_
            rcases h5 : G_120 S3 y1 y3 (0 : Int32) (4 : Int32) with _ | ⟨v5, S5⟩
            · rw [h5] at hG; cases hG
            rw [h5] at hG
            dsimp only at hG
            refine Ev.c (a := 120) (A := [.ref 29, .int y1, .int y3, .int 0, .int 4]) (h1 := hh S3) (pc' := 61) (L' := [.ref 29, .int y1, w2, .int y3, .int y4, .int v3]) (rest := []) (r1 := none) (h2 := hh S5) 3 (fun n => B_125_8 n y1 w2 y3 y4 v3 S3) (Ev.up (by decide) (T_120 S3 y1 y3 (0 : Int32) (4 : Int32) _ _ h5)) ?_
            show Ev X _ 125 61 [.ref 29, .int y1, w2, .int y3, .int y4, .int v3] [] (hh S5) _
            by_cases g6 : xa_in (S5.1 29 10) 64
            rotate_left
            · rw [if_neg g6] at hG; cases hG
            rw [if_pos g6] at hG
            refine Ev.g (c := (kd 38).1 = 0 ∧ xa_in (S5.1 29 10) (kd 38).2) (p1 := 71) (L1 := [.ref 29, .int y1, w2, .int y3, .int y4, .int v3]) (s1 := []) (h1 := hh (xa_u S5.1 38 (((S5.1 29 10)).toNatClampNeg) y3, S5.2.1, S5.2.2)) 6 (fun n => B_125_9 n y1 w2 y3 y4 v3 S5) (⟨rfl, g6⟩) ?_
            by_cases c7 : 63 ≤ ((xa_u S5.1 38 (((S5.1 29 10)).toNatClampNeg) y3) 29 10)
            · rw [if_pos c7] at hG
              refine Ev.t (c := 63 ≤ ((xa_u S5.1 38 (((S5.1 29 10)).toNatClampNeg) y3) 29 10)) (p1 := 90) (L1 := [.ref 29, .int y1, w2, .int y3, .int y4, .int v3]) (s1 := [.ref 29]) (h1 := hh (xa_u S5.1 38 (((S5.1 29 10)).toNatClampNeg) y3, S5.2.1, S5.2.2)) (p2 := 81) (L2 := [.ref 29, .int y1, w2, .int y3, .int y4, .int v3]) (s2 := [.ref 29]) (h2 := hh (xa_u S5.1 38 (((S5.1 29 10)).toNatClampNeg) y3, S5.2.1, S5.2.2)) 5 (fun n => B_125_10 n y1 w2 y3 y4 v3 S5) c7 ?_
              refine Ev.g (c := (kd 29).1 = 10 + 8 ∧ (xf_k 8 10 = 0 ∨ (xf_k 8 10 = 1 ∧ (((xa_u S5.1 38 (((S5.1 29 10)).toNatClampNeg) y3) 29 10) = 0 ∨ ((xa_u S5.1 38 (((S5.1 29 10)).toNatClampNeg) y3) 29 10) = 1)))) (p1 := 97) (L1 := [.ref 29, .int y1, w2, .int y3, .int y4, .int v3]) (s1 := []) (h1 := hh (xa_u (xa_u S5.1 38 (((S5.1 29 10)).toNatClampNeg) y3) 29 10 ((xa_u S5.1 38 (((S5.1 29 10)).toNatClampNeg) y3) 29 10), S5.2.1, S5.2.2)) 3 (fun n => B_125_11 n y1 w2 y3 y4 v3 S5) (⟨rfl, Or.inl rfl⟩) ?_
              by_cases c8 : v3 < 5
              · rw [if_pos c8] at hG
                refine Ev.t (c := v3 < 5) (p1 := 145) (L1 := [.ref 29, .int y1, w2, .int y3, .int y4, .int v3]) (s1 := []) (h1 := hh (xa_u (xa_u S5.1 38 (((S5.1 29 10)).toNatClampNeg) y3) 29 10 ((xa_u S5.1 38 (((S5.1 29 10)).toNatClampNeg) y3) 29 10), S5.2.1, S5.2.2)) (p2 := 103) (L2 := [.ref 29, .int y1, w2, .int y3, .int y4, .int v3]) (s2 := []) (h2 := hh (xa_u (xa_u S5.1 38 (((S5.1 29 10)).toNatClampNeg) y3) 29 10 ((xa_u S5.1 38 (((S5.1 29 10)).toNatClampNeg) y3) 29 10), S5.2.1, S5.2.2)) 3 (fun n => B_125_12 n y1 w2 y3 y4 v3 S5) c8 ?_
                rcases h9 : G_126 (xa_u (xa_u S5.1 38 (((S5.1 29 10)).toNatClampNeg) y3) 29 10 ((xa_u S5.1 38 (((S5.1 29 10)).toNatClampNeg) y3) 29 10), S5.2.1, S5.2.2) y1 y3 v3 with _ | ⟨v9, S9⟩
                · rw [h9] at hG; cases hG
                rw [h9] at hG
                dsimp only at hG
                refine Ev.c (a := 126) (A := [.ref 29, .int y1, .int y3, .int v3]) (h1 := hh (xa_u (xa_u S5.1 38 (((S5.1 29 10)).toNatClampNeg) y3) 29 10 ((xa_u S5.1 38 (((S5.1 29 10)).toNatClampNeg) y3) 29 10), S5.2.1, S5.2.2)) (pc' := 153) (L' := [.ref 29, .int y1, w2, .int y3, .int y4, .int v3]) (rest := []) (r1 := some (.int v9)) (h2 := hh S9) 5 (fun n => B_125_13 n y1 w2 y3 y4 v3 S5) (Ev.up (by decide) (T_126 (xa_u (xa_u S5.1 38 (((S5.1 29 10)).toNatClampNeg) y3) 29 10 ((xa_u S5.1 38 (((S5.1 29 10)).toNatClampNeg) y3) 29 10), S5.2.1, S5.2.2) y1 y3 v3 _ _ h9)) ?_
                show Ev X _ 125 153 [.ref 29, .int y1, w2, .int y3, .int y4, .int v3] [.int v9] (hh S9) _
                by_cases g10 : xa_in y4 8
                rotate_left
                · rw [if_neg g10] at hG; cases hG
                rw [if_pos g10] at hG
                refine Ev.g (c := (kd 37).1 = 0 ∧ xa_in y4 (kd 37).2) (p1 := 162) (L1 := [.ref 29, .int y1, w2, .int v9, .int y4, .int v3]) (s1 := [.int (S9.1 37 (y4).toNatClampNeg), .int y4, .ref 37]) (h1 := hh S9) 6 (fun n => B_125_14 n y1 w2 y3 y4 v3 v9 S9) (⟨rfl, g10⟩) ?_
                refine Ev.g (c := (kd 37).1 = 0 ∧ xa_in y4 (kd 37).2) (p1 := 165) (L1 := [.ref 29, .int y1, w2, .int v9, .int y4, .int v3]) (s1 := []) (h1 := hh (xa_u S9.1 37 ((y4).toNatClampNeg) ((S9.1 37 (y4).toNatClampNeg) - 1), S9.2.1, S9.2.2)) 3 (fun n => B_125_15 n y1 w2 v9 y4 v3 S9) (⟨rfl, g10⟩) ?_
                exact ((ih (xa_u S9.1 37 ((y4).toNatClampNeg) ((S9.1 37 (y4).toNatClampNeg) - 1), S9.2.1, S9.2.2) y1 v9 y4 _ _).2 hG w2 (.int v3))
              · rw [if_neg c8] at hG
                refine Ev.f (c := v3 < 5) (p1 := 145) (L1 := [.ref 29, .int y1, w2, .int y3, .int y4, .int v3]) (s1 := []) (h1 := hh (xa_u (xa_u S5.1 38 (((S5.1 29 10)).toNatClampNeg) y3) 29 10 ((xa_u S5.1 38 (((S5.1 29 10)).toNatClampNeg) y3) 29 10), S5.2.1, S5.2.2)) (p2 := 103) (L2 := [.ref 29, .int y1, w2, .int y3, .int y4, .int v3]) (s2 := []) (h2 := hh (xa_u (xa_u S5.1 38 (((S5.1 29 10)).toNatClampNeg) y3) 29 10 ((xa_u S5.1 38 (((S5.1 29 10)).toNatClampNeg) y3) 29 10), S5.2.1, S5.2.2)) 3 (fun n => B_125_16 n y1 w2 y3 y4 v3 S5) c8 ?_
                by_cases c11 : 7 ≤ y4
                · rw [if_pos c11] at hG
                  refine Ev.t (c := 7 ≤ y4) (p1 := 117) (L1 := [.ref 29, .int y1, w2, .int y3, .int y4, .int v3]) (s1 := []) (h1 := hh (xa_u (xa_u S5.1 38 (((S5.1 29 10)).toNatClampNeg) y3) 29 10 ((xa_u S5.1 38 (((S5.1 29 10)).toNatClampNeg) y3) 29 10), S5.2.1, S5.2.2)) (p2 := 110) (L2 := [.ref 29, .int y1, w2, .int y3, .int y4, .int v3]) (s2 := []) (h2 := hh (xa_u (xa_u S5.1 38 (((S5.1 29 10)).toNatClampNeg) y3) 29 10 ((xa_u S5.1 38 (((S5.1 29 10)).toNatClampNeg) y3) 29 10), S5.2.1, S5.2.2)) 3 (fun n => B_125_17 n y1 w2 y3 y4 v3 S5) c11 ?_
                  by_cases c12 : v3 = 5
                  · rw [if_pos c12] at hG
                    refine Ev.t (c := v3 = 5) (p1 := 133) (L1 := [.ref 29, .int y1, w2, .int y3, .int y4, .int v3]) (s1 := [.int y4, .ref 37]) (h1 := hh (xa_u (xa_u S5.1 38 (((S5.1 29 10)).toNatClampNeg) y3) 29 10 ((xa_u S5.1 38 (((S5.1 29 10)).toNatClampNeg) y3) 29 10), S5.2.1, S5.2.2)) (p2 := 137) (L2 := [.ref 29, .int y1, w2, .int y3, .int y4, .int v3]) (s2 := [.int y4, .ref 37]) (h2 := hh (xa_u (xa_u S5.1 38 (((S5.1 29 10)).toNatClampNeg) y3) 29 10 ((xa_u S5.1 38 (((S5.1 29 10)).toNatClampNeg) y3) 29 10), S5.2.1, S5.2.2)) 8 (fun n => B_125_18 n y1 w2 y3 y4 v3 S5) c12 ?_
                    by_cases g13 : xa_in y4 8
                    rotate_left
                    · rw [if_neg g13] at hG; cases hG
                    rw [if_pos g13] at hG
                    refine Ev.g (c := (kd 37).1 = 0 ∧ xa_in y4 (kd 37).2) (p1 := 139) (L1 := [.ref 29, .int y1, w2, .int y3, .int y4, .int v3]) (s1 := []) (h1 := hh (xa_u (xa_u (xa_u S5.1 38 (((S5.1 29 10)).toNatClampNeg) y3) 29 10 ((xa_u S5.1 38 (((S5.1 29 10)).toNatClampNeg) y3) 29 10)) 37 ((y4).toNatClampNeg) 1, S5.2.1, S5.2.2)) 3 (fun n => B_125_19 n y1 w2 y3 y4 v3 S5) (⟨rfl, g13⟩) ?_
                    exact Ev.b (pc' := 17) (L' := [.ref 29, .int y1, w2, .int (y3 + 1), .int y4, .int v3]) (st' := []) (h' := hh (xa_u (xa_u (xa_u S5.1 38 (((S5.1 29 10)).toNatClampNeg) y3) 29 10 ((xa_u S5.1 38 (((S5.1 29 10)).toNatClampNeg) y3) 29 10)) 37 ((y4).toNatClampNeg) 1, S5.2.1, S5.2.2)) 3 (fun n => B_125_20 n y1 w2 y3 y4 v3 S5) ((ih (xa_u (xa_u (xa_u S5.1 38 (((S5.1 29 10)).toNatClampNeg) y3) 29 10 ((xa_u S5.1 38 (((S5.1 29 10)).toNatClampNeg) y3) 29 10)) 37 ((y4).toNatClampNeg) 1, S5.2.1, S5.2.2) y1 (y3 + 1) y4 _ _).1 hG w2 (.int v3))
                  · rw [if_neg c12] at hG
                    refine Ev.f (c := v3 = 5) (p1 := 133) (L1 := [.ref 29, .int y1, w2, .int y3, .int y4, .int v3]) (s1 := [.int y4, .ref 37]) (h1 := hh (xa_u (xa_u S5.1 38 (((S5.1 29 10)).toNatClampNeg) y3) 29 10 ((xa_u S5.1 38 (((S5.1 29 10)).toNatClampNeg) y3) 29 10), S5.2.1, S5.2.2)) (p2 := 137) (L2 := [.ref 29, .int y1, w2, .int y3, .int y4, .int v3]) (s2 := [.int y4, .ref 37]) (h2 := hh (xa_u (xa_u S5.1 38 (((S5.1 29 10)).toNatClampNeg) y3) 29 10 ((xa_u S5.1 38 (((S5.1 29 10)).toNatClampNeg) y3) 29 10), S5.2.1, S5.2.2)) 8 (fun n => B_125_21 n y1 w2 y3 y4 v3 S5) c12 ?_
                    by_cases g14 : xa_in y4 8
                    rotate_left
                    · rw [if_neg g14] at hG; cases hG
                    rw [if_pos g14] at hG
                    refine Ev.g (c := (kd 37).1 = 0 ∧ xa_in y4 (kd 37).2) (p1 := 139) (L1 := [.ref 29, .int y1, w2, .int y3, .int y4, .int v3]) (s1 := []) (h1 := hh (xa_u (xa_u (xa_u S5.1 38 (((S5.1 29 10)).toNatClampNeg) y3) 29 10 ((xa_u S5.1 38 (((S5.1 29 10)).toNatClampNeg) y3) 29 10)) 37 ((y4).toNatClampNeg) 2, S5.2.1, S5.2.2)) 2 (fun n => B_125_22 n y1 w2 y3 y4 v3 S5) (⟨rfl, g14⟩) ?_
                    exact Ev.b (pc' := 17) (L' := [.ref 29, .int y1, w2, .int (y3 + 1), .int y4, .int v3]) (st' := []) (h' := hh (xa_u (xa_u (xa_u S5.1 38 (((S5.1 29 10)).toNatClampNeg) y3) 29 10 ((xa_u S5.1 38 (((S5.1 29 10)).toNatClampNeg) y3) 29 10)) 37 ((y4).toNatClampNeg) 2, S5.2.1, S5.2.2)) 3 (fun n => B_125_23 n y1 w2 y3 y4 v3 S5) ((ih (xa_u (xa_u (xa_u S5.1 38 (((S5.1 29 10)).toNatClampNeg) y3) 29 10 ((xa_u S5.1 38 (((S5.1 29 10)).toNatClampNeg) y3) 29 10)) 37 ((y4).toNatClampNeg) 2, S5.2.1, S5.2.2) y1 (y3 + 1) y4 _ _).1 hG w2 (.int v3))
                · rw [if_neg c11] at hG
                  refine Ev.f (c := 7 ≤ y4) (p1 := 117) (L1 := [.ref 29, .int y1, w2, .int y3, .int y4, .int v3]) (s1 := []) (h1 := hh (xa_u (xa_u S5.1 38 (((S5.1 29 10)).toNatClampNeg) y3) 29 10 ((xa_u S5.1 38 (((S5.1 29 10)).toNatClampNeg) y3) 29 10), S5.2.1, S5.2.2)) (p2 := 110) (L2 := [.ref 29, .int y1, w2, .int y3, .int y4, .int v3]) (s2 := []) (h2 := hh (xa_u (xa_u S5.1 38 (((S5.1 29 10)).toNatClampNeg) y3) 29 10 ((xa_u S5.1 38 (((S5.1 29 10)).toNatClampNeg) y3) 29 10), S5.2.1, S5.2.2)) 3 (fun n => B_125_24 n y1 w2 y3 y4 v3 S5) c11 ?_
                  by_cases c15 : v3 = 5
                  · rw [if_pos c15] at hG
                    refine Ev.t (c := v3 = 5) (p1 := 133) (L1 := [.ref 29, .int y1, w2, .int y3, .int (y4 + 1), .int v3]) (s1 := [.int (y4 + 1), .ref 37]) (h1 := hh (xa_u (xa_u S5.1 38 (((S5.1 29 10)).toNatClampNeg) y3) 29 10 ((xa_u S5.1 38 (((S5.1 29 10)).toNatClampNeg) y3) 29 10), S5.2.1, S5.2.2)) (p2 := 137) (L2 := [.ref 29, .int y1, w2, .int y3, .int (y4 + 1), .int v3]) (s2 := [.int (y4 + 1), .ref 37]) (h2 := hh (xa_u (xa_u S5.1 38 (((S5.1 29 10)).toNatClampNeg) y3) 29 10 ((xa_u S5.1 38 (((S5.1 29 10)).toNatClampNeg) y3) 29 10), S5.2.1, S5.2.2)) 11 (fun n => B_125_25 n y1 w2 y3 y4 v3 S5) c15 ?_
                    by_cases g16 : xa_in (y4 + 1) 8
                    rotate_left
                    · rw [if_neg g16] at hG; cases hG
                    rw [if_pos g16] at hG
                    refine Ev.g (c := (kd 37).1 = 0 ∧ xa_in (y4 + 1) (kd 37).2) (p1 := 139) (L1 := [.ref 29, .int y1, w2, .int y3, .int (y4 + 1), .int v3]) (s1 := []) (h1 := hh (xa_u (xa_u (xa_u S5.1 38 (((S5.1 29 10)).toNatClampNeg) y3) 29 10 ((xa_u S5.1 38 (((S5.1 29 10)).toNatClampNeg) y3) 29 10)) 37 (((y4 + 1)).toNatClampNeg) 1, S5.2.1, S5.2.2)) 3 (fun n => B_125_26 n y1 w2 y3 y4 v3 S5) (⟨rfl, g16⟩) ?_
                    exact Ev.b (pc' := 17) (L' := [.ref 29, .int y1, w2, .int (y3 + 1), .int (y4 + 1), .int v3]) (st' := []) (h' := hh (xa_u (xa_u (xa_u S5.1 38 (((S5.1 29 10)).toNatClampNeg) y3) 29 10 ((xa_u S5.1 38 (((S5.1 29 10)).toNatClampNeg) y3) 29 10)) 37 (((y4 + 1)).toNatClampNeg) 1, S5.2.1, S5.2.2)) 3 (fun n => B_125_27 n y1 w2 y3 y4 v3 S5) ((ih (xa_u (xa_u (xa_u S5.1 38 (((S5.1 29 10)).toNatClampNeg) y3) 29 10 ((xa_u S5.1 38 (((S5.1 29 10)).toNatClampNeg) y3) 29 10)) 37 (((y4 + 1)).toNatClampNeg) 1, S5.2.1, S5.2.2) y1 (y3 + 1) (y4 + 1) _ _).1 hG w2 (.int v3))
                  · rw [if_neg c15] at hG
                    refine Ev.f (c := v3 = 5) (p1 := 133) (L1 := [.ref 29, .int y1, w2, .int y3, .int (y4 + 1), .int v3]) (s1 := [.int (y4 + 1), .ref 37]) (h1 := hh (xa_u (xa_u S5.1 38 (((S5.1 29 10)).toNatClampNeg) y3) 29 10 ((xa_u S5.1 38 (((S5.1 29 10)).toNatClampNeg) y3) 29 10), S5.2.1, S5.2.2)) (p2 := 137) (L2 := [.ref 29, .int y1, w2, .int y3, .int (y4 + 1), .int v3]) (s2 := [.int (y4 + 1), .ref 37]) (h2 := hh (xa_u (xa_u S5.1 38 (((S5.1 29 10)).toNatClampNeg) y3) 29 10 ((xa_u S5.1 38 (((S5.1 29 10)).toNatClampNeg) y3) 29 10), S5.2.1, S5.2.2)) 11 (fun n => B_125_28 n y1 w2 y3 y4 v3 S5) c15 ?_
                    by_cases g17 : xa_in (y4 + 1) 8
                    rotate_left
                    · rw [if_neg g17] at hG; cases hG
                    rw [if_pos g17] at hG
                    refine Ev.g (c := (kd 37).1 = 0 ∧ xa_in (y4 + 1) (kd 37).2) (p1 := 139) (L1 := [.ref 29, .int y1, w2, .int y3, .int (y4 + 1), .int v3]) (s1 := []) (h1 := hh (xa_u (xa_u (xa_u S5.1 38 (((S5.1 29 10)).toNatClampNeg) y3) 29 10 ((xa_u S5.1 38 (((S5.1 29 10)).toNatClampNeg) y3) 29 10)) 37 (((y4 + 1)).toNatClampNeg) 2, S5.2.1, S5.2.2)) 2 (fun n => B_125_29 n y1 w2 y3 y4 v3 S5) (⟨rfl, g17⟩) ?_
                    exact Ev.b (pc' := 17) (L' := [.ref 29, .int y1, w2, .int (y3 + 1), .int (y4 + 1), .int v3]) (st' := []) (h' := hh (xa_u (xa_u (xa_u S5.1 38 (((S5.1 29 10)).toNatClampNeg) y3) 29 10 ((xa_u S5.1 38 (((S5.1 29 10)).toNatClampNeg) y3) 29 10)) 37 (((y4 + 1)).toNatClampNeg) 2, S5.2.1, S5.2.2)) 3 (fun n => B_125_30 n y1 w2 y3 y4 v3 S5) ((ih (xa_u (xa_u (xa_u S5.1 38 (((S5.1 29 10)).toNatClampNeg) y3) 29 10 ((xa_u S5.1 38 (((S5.1 29 10)).toNatClampNeg) y3) 29 10)) 37 (((y4 + 1)).toNatClampNeg) 2, S5.2.1, S5.2.2) y1 (y3 + 1) (y4 + 1) _ _).1 hG w2 (.int v3))
            · rw [if_neg c7] at hG
              refine Ev.f (c := 63 ≤ ((xa_u S5.1 38 (((S5.1 29 10)).toNatClampNeg) y3) 29 10)) (p1 := 90) (L1 := [.ref 29, .int y1, w2, .int y3, .int y4, .int v3]) (s1 := [.ref 29]) (h1 := hh (xa_u S5.1 38 (((S5.1 29 10)).toNatClampNeg) y3, S5.2.1, S5.2.2)) (p2 := 81) (L2 := [.ref 29, .int y1, w2, .int y3, .int y4, .int v3]) (s2 := [.ref 29]) (h2 := hh (xa_u S5.1 38 (((S5.1 29 10)).toNatClampNeg) y3, S5.2.1, S5.2.2)) 5 (fun n => B_125_31 n y1 w2 y3 y4 v3 S5) c7 ?_
              refine Ev.g (c := (kd 29).1 = 10 + 8 ∧ (xf_k 8 10 = 0 ∨ (xf_k 8 10 = 1 ∧ ((((xa_u S5.1 38 (((S5.1 29 10)).toNatClampNeg) y3) 29 10) + 1) = 0 ∨ (((xa_u S5.1 38 (((S5.1 29 10)).toNatClampNeg) y3) 29 10) + 1) = 1)))) (p1 := 97) (L1 := [.ref 29, .int y1, w2, .int y3, .int y4, .int v3]) (s1 := []) (h1 := hh (xa_u (xa_u S5.1 38 (((S5.1 29 10)).toNatClampNeg) y3) 29 10 (((xa_u S5.1 38 (((S5.1 29 10)).toNatClampNeg) y3) 29 10) + 1), S5.2.1, S5.2.2)) 6 (fun n => B_125_32 n y1 w2 y3 y4 v3 S5) (⟨rfl, Or.inl rfl⟩) ?_
              by_cases c18 : v3 < 5
              · rw [if_pos c18] at hG
                refine Ev.t (c := v3 < 5) (p1 := 145) (L1 := [.ref 29, .int y1, w2, .int y3, .int y4, .int v3]) (s1 := []) (h1 := hh (xa_u (xa_u S5.1 38 (((S5.1 29 10)).toNatClampNeg) y3) 29 10 (((xa_u S5.1 38 (((S5.1 29 10)).toNatClampNeg) y3) 29 10) + 1), S5.2.1, S5.2.2)) (p2 := 103) (L2 := [.ref 29, .int y1, w2, .int y3, .int y4, .int v3]) (s2 := []) (h2 := hh (xa_u (xa_u S5.1 38 (((S5.1 29 10)).toNatClampNeg) y3) 29 10 (((xa_u S5.1 38 (((S5.1 29 10)).toNatClampNeg) y3) 29 10) + 1), S5.2.1, S5.2.2)) 3 (fun n => B_125_33 n y1 w2 y3 y4 v3 S5) c18 ?_
                rcases h19 : G_126 (xa_u (xa_u S5.1 38 (((S5.1 29 10)).toNatClampNeg) y3) 29 10 (((xa_u S5.1 38 (((S5.1 29 10)).toNatClampNeg) y3) 29 10) + 1), S5.2.1, S5.2.2) y1 y3 v3 with _ | ⟨v19, S19⟩
                · rw [h19] at hG; cases hG
                rw [h19] at hG
                dsimp only at hG
                refine Ev.c (a := 126) (A := [.ref 29, .int y1, .int y3, .int v3]) (h1 := hh (xa_u (xa_u S5.1 38 (((S5.1 29 10)).toNatClampNeg) y3) 29 10 (((xa_u S5.1 38 (((S5.1 29 10)).toNatClampNeg) y3) 29 10) + 1), S5.2.1, S5.2.2)) (pc' := 153) (L' := [.ref 29, .int y1, w2, .int y3, .int y4, .int v3]) (rest := []) (r1 := some (.int v19)) (h2 := hh S19) 5 (fun n => B_125_34 n y1 w2 y3 y4 v3 S5) (Ev.up (by decide) (T_126 (xa_u (xa_u S5.1 38 (((S5.1 29 10)).toNatClampNeg) y3) 29 10 (((xa_u S5.1 38 (((S5.1 29 10)).toNatClampNeg) y3) 29 10) + 1), S5.2.1, S5.2.2) y1 y3 v3 _ _ h19)) ?_
                show Ev X _ 125 153 [.ref 29, .int y1, w2, .int y3, .int y4, .int v3] [.int v19] (hh S19) _
                by_cases g20 : xa_in y4 8
                rotate_left
                · rw [if_neg g20] at hG; cases hG
                rw [if_pos g20] at hG
                refine Ev.g (c := (kd 37).1 = 0 ∧ xa_in y4 (kd 37).2) (p1 := 162) (L1 := [.ref 29, .int y1, w2, .int v19, .int y4, .int v3]) (s1 := [.int (S19.1 37 (y4).toNatClampNeg), .int y4, .ref 37]) (h1 := hh S19) 6 (fun n => B_125_35 n y1 w2 y3 y4 v3 v19 S19) (⟨rfl, g20⟩) ?_
                refine Ev.g (c := (kd 37).1 = 0 ∧ xa_in y4 (kd 37).2) (p1 := 165) (L1 := [.ref 29, .int y1, w2, .int v19, .int y4, .int v3]) (s1 := []) (h1 := hh (xa_u S19.1 37 ((y4).toNatClampNeg) ((S19.1 37 (y4).toNatClampNeg) - 1), S19.2.1, S19.2.2)) 3 (fun n => B_125_36 n y1 w2 v19 y4 v3 S19) (⟨rfl, g20⟩) ?_
                exact ((ih (xa_u S19.1 37 ((y4).toNatClampNeg) ((S19.1 37 (y4).toNatClampNeg) - 1), S19.2.1, S19.2.2) y1 v19 y4 _ _).2 hG w2 (.int v3))
              · rw [if_neg c18] at hG
                refine Ev.f (c := v3 < 5) (p1 := 145) (L1 := [.ref 29, .int y1, w2, .int y3, .int y4, .int v3]) (s1 := []) (h1 := hh (xa_u (xa_u S5.1 38 (((S5.1 29 10)).toNatClampNeg) y3) 29 10 (((xa_u S5.1 38 (((S5.1 29 10)).toNatClampNeg) y3) 29 10) + 1), S5.2.1, S5.2.2)) (p2 := 103) (L2 := [.ref 29, .int y1, w2, .int y3, .int y4, .int v3]) (s2 := []) (h2 := hh (xa_u (xa_u S5.1 38 (((S5.1 29 10)).toNatClampNeg) y3) 29 10 (((xa_u S5.1 38 (((S5.1 29 10)).toNatClampNeg) y3) 29 10) + 1), S5.2.1, S5.2.2)) 3 (fun n => B_125_37 n y1 w2 y3 y4 v3 S5) c18 ?_
                by_cases c21 : 7 ≤ y4
                · rw [if_pos c21] at hG
                  refine Ev.t (c := 7 ≤ y4) (p1 := 117) (L1 := [.ref 29, .int y1, w2, .int y3, .int y4, .int v3]) (s1 := []) (h1 := hh (xa_u (xa_u S5.1 38 (((S5.1 29 10)).toNatClampNeg) y3) 29 10 (((xa_u S5.1 38 (((S5.1 29 10)).toNatClampNeg) y3) 29 10) + 1), S5.2.1, S5.2.2)) (p2 := 110) (L2 := [.ref 29, .int y1, w2, .int y3, .int y4, .int v3]) (s2 := []) (h2 := hh (xa_u (xa_u S5.1 38 (((S5.1 29 10)).toNatClampNeg) y3) 29 10 (((xa_u S5.1 38 (((S5.1 29 10)).toNatClampNeg) y3) 29 10) + 1), S5.2.1, S5.2.2)) 3 (fun n => B_125_38 n y1 w2 y3 y4 v3 S5) c21 ?_
                  by_cases c22 : v3 = 5
                  · rw [if_pos c22] at hG
                    refine Ev.t (c := v3 = 5) (p1 := 133) (L1 := [.ref 29, .int y1, w2, .int y3, .int y4, .int v3]) (s1 := [.int y4, .ref 37]) (h1 := hh (xa_u (xa_u S5.1 38 (((S5.1 29 10)).toNatClampNeg) y3) 29 10 (((xa_u S5.1 38 (((S5.1 29 10)).toNatClampNeg) y3) 29 10) + 1), S5.2.1, S5.2.2)) (p2 := 137) (L2 := [.ref 29, .int y1, w2, .int y3, .int y4, .int v3]) (s2 := [.int y4, .ref 37]) (h2 := hh (xa_u (xa_u S5.1 38 (((S5.1 29 10)).toNatClampNeg) y3) 29 10 (((xa_u S5.1 38 (((S5.1 29 10)).toNatClampNeg) y3) 29 10) + 1), S5.2.1, S5.2.2)) 8 (fun n => B_125_39 n y1 w2 y3 y4 v3 S5) c22 ?_
                    by_cases g23 : xa_in y4 8
                    rotate_left
                    · rw [if_neg g23] at hG; cases hG
                    rw [if_pos g23] at hG
                    refine Ev.g (c := (kd 37).1 = 0 ∧ xa_in y4 (kd 37).2) (p1 := 139) (L1 := [.ref 29, .int y1, w2, .int y3, .int y4, .int v3]) (s1 := []) (h1 := hh (xa_u (xa_u (xa_u S5.1 38 (((S5.1 29 10)).toNatClampNeg) y3) 29 10 (((xa_u S5.1 38 (((S5.1 29 10)).toNatClampNeg) y3) 29 10) + 1)) 37 ((y4).toNatClampNeg) 1, S5.2.1, S5.2.2)) 3 (fun n => B_125_40 n y1 w2 y3 y4 v3 S5) (⟨rfl, g23⟩) ?_
                    exact Ev.b (pc' := 17) (L' := [.ref 29, .int y1, w2, .int (y3 + 1), .int y4, .int v3]) (st' := []) (h' := hh (xa_u (xa_u (xa_u S5.1 38 (((S5.1 29 10)).toNatClampNeg) y3) 29 10 (((xa_u S5.1 38 (((S5.1 29 10)).toNatClampNeg) y3) 29 10) + 1)) 37 ((y4).toNatClampNeg) 1, S5.2.1, S5.2.2)) 3 (fun n => B_125_41 n y1 w2 y3 y4 v3 S5) ((ih (xa_u (xa_u (xa_u S5.1 38 (((S5.1 29 10)).toNatClampNeg) y3) 29 10 (((xa_u S5.1 38 (((S5.1 29 10)).toNatClampNeg) y3) 29 10) + 1)) 37 ((y4).toNatClampNeg) 1, S5.2.1, S5.2.2) y1 (y3 + 1) y4 _ _).1 hG w2 (.int v3))
                  · rw [if_neg c22] at hG
                    refine Ev.f (c := v3 = 5) (p1 := 133) (L1 := [.ref 29, .int y1, w2, .int y3, .int y4, .int v3]) (s1 := [.int y4, .ref 37]) (h1 := hh (xa_u (xa_u S5.1 38 (((S5.1 29 10)).toNatClampNeg) y3) 29 10 (((xa_u S5.1 38 (((S5.1 29 10)).toNatClampNeg) y3) 29 10) + 1), S5.2.1, S5.2.2)) (p2 := 137) (L2 := [.ref 29, .int y1, w2, .int y3, .int y4, .int v3]) (s2 := [.int y4, .ref 37]) (h2 := hh (xa_u (xa_u S5.1 38 (((S5.1 29 10)).toNatClampNeg) y3) 29 10 (((xa_u S5.1 38 (((S5.1 29 10)).toNatClampNeg) y3) 29 10) + 1), S5.2.1, S5.2.2)) 8 (fun n => B_125_42 n y1 w2 y3 y4 v3 S5) c22 ?_
                    by_cases g24 : xa_in y4 8
                    rotate_left
                    · rw [if_neg g24] at hG; cases hG
                    rw [if_pos g24] at hG
                    refine Ev.g (c := (kd 37).1 = 0 ∧ xa_in y4 (kd 37).2) (p1 := 139) (L1 := [.ref 29, .int y1, w2, .int y3, .int y4, .int v3]) (s1 := []) (h1 := hh (xa_u (xa_u (xa_u S5.1 38 (((S5.1 29 10)).toNatClampNeg) y3) 29 10 (((xa_u S5.1 38 (((S5.1 29 10)).toNatClampNeg) y3) 29 10) + 1)) 37 ((y4).toNatClampNeg) 2, S5.2.1, S5.2.2)) 2 (fun n => B_125_43 n y1 w2 y3 y4 v3 S5) (⟨rfl, g24⟩) ?_
                    exact Ev.b (pc' := 17) (L' := [.ref 29, .int y1, w2, .int (y3 + 1), .int y4, .int v3]) (st' := []) (h' := hh (xa_u (xa_u (xa_u S5.1 38 (((S5.1 29 10)).toNatClampNeg) y3) 29 10 (((xa_u S5.1 38 (((S5.1 29 10)).toNatClampNeg) y3) 29 10) + 1)) 37 ((y4).toNatClampNeg) 2, S5.2.1, S5.2.2)) 3 (fun n => B_125_44 n y1 w2 y3 y4 v3 S5) ((ih (xa_u (xa_u (xa_u S5.1 38 (((S5.1 29 10)).toNatClampNeg) y3) 29 10 (((xa_u S5.1 38 (((S5.1 29 10)).toNatClampNeg) y3) 29 10) + 1)) 37 ((y4).toNatClampNeg) 2, S5.2.1, S5.2.2) y1 (y3 + 1) y4 _ _).1 hG w2 (.int v3))
                · rw [if_neg c21] at hG
                  refine Ev.f (c := 7 ≤ y4) (p1 := 117) (L1 := [.ref 29, .int y1, w2, .int y3, .int y4, .int v3]) (s1 := []) (h1 := hh (xa_u (xa_u S5.1 38 (((S5.1 29 10)).toNatClampNeg) y3) 29 10 (((xa_u S5.1 38 (((S5.1 29 10)).toNatClampNeg) y3) 29 10) + 1), S5.2.1, S5.2.2)) (p2 := 110) (L2 := [.ref 29, .int y1, w2, .int y3, .int y4, .int v3]) (s2 := []) (h2 := hh (xa_u (xa_u S5.1 38 (((S5.1 29 10)).toNatClampNeg) y3) 29 10 (((xa_u S5.1 38 (((S5.1 29 10)).toNatClampNeg) y3) 29 10) + 1), S5.2.1, S5.2.2)) 3 (fun n => B_125_45 n y1 w2 y3 y4 v3 S5) c21 ?_
                  by_cases c25 : v3 = 5
                  · rw [if_pos c25] at hG
                    refine Ev.t (c := v3 = 5) (p1 := 133) (L1 := [.ref 29, .int y1, w2, .int y3, .int (y4 + 1), .int v3]) (s1 := [.int (y4 + 1), .ref 37]) (h1 := hh (xa_u (xa_u S5.1 38 (((S5.1 29 10)).toNatClampNeg) y3) 29 10 (((xa_u S5.1 38 (((S5.1 29 10)).toNatClampNeg) y3) 29 10) + 1), S5.2.1, S5.2.2)) (p2 := 137) (L2 := [.ref 29, .int y1, w2, .int y3, .int (y4 + 1), .int v3]) (s2 := [.int (y4 + 1), .ref 37]) (h2 := hh (xa_u (xa_u S5.1 38 (((S5.1 29 10)).toNatClampNeg) y3) 29 10 (((xa_u S5.1 38 (((S5.1 29 10)).toNatClampNeg) y3) 29 10) + 1), S5.2.1, S5.2.2)) 11 (fun n => B_125_46 n y1 w2 y3 y4 v3 S5) c25 ?_
                    by_cases g26 : xa_in (y4 + 1) 8
                    rotate_left
                    · rw [if_neg g26] at hG; cases hG
                    rw [if_pos g26] at hG
                    refine Ev.g (c := (kd 37).1 = 0 ∧ xa_in (y4 + 1) (kd 37).2) (p1 := 139) (L1 := [.ref 29, .int y1, w2, .int y3, .int (y4 + 1), .int v3]) (s1 := []) (h1 := hh (xa_u (xa_u (xa_u S5.1 38 (((S5.1 29 10)).toNatClampNeg) y3) 29 10 (((xa_u S5.1 38 (((S5.1 29 10)).toNatClampNeg) y3) 29 10) + 1)) 37 (((y4 + 1)).toNatClampNeg) 1, S5.2.1, S5.2.2)) 3 (fun n => B_125_47 n y1 w2 y3 y4 v3 S5) (⟨rfl, g26⟩) ?_
                    exact Ev.b (pc' := 17) (L' := [.ref 29, .int y1, w2, .int (y3 + 1), .int (y4 + 1), .int v3]) (st' := []) (h' := hh (xa_u (xa_u (xa_u S5.1 38 (((S5.1 29 10)).toNatClampNeg) y3) 29 10 (((xa_u S5.1 38 (((S5.1 29 10)).toNatClampNeg) y3) 29 10) + 1)) 37 (((y4 + 1)).toNatClampNeg) 1, S5.2.1, S5.2.2)) 3 (fun n => B_125_48 n y1 w2 y3 y4 v3 S5) ((ih (xa_u (xa_u (xa_u S5.1 38 (((S5.1 29 10)).toNatClampNeg) y3) 29 10 (((xa_u S5.1 38 (((S5.1 29 10)).toNatClampNeg) y3) 29 10) + 1)) 37 (((y4 + 1)).toNatClampNeg) 1, S5.2.1, S5.2.2) y1 (y3 + 1) (y4 + 1) _ _).1 hG w2 (.int v3))
                  · rw [if_neg c25] at hG
                    refine Ev.f (c := v3 = 5) (p1 := 133) (L1 := [.ref 29, .int y1, w2, .int y3, .int (y4 + 1), .int v3]) (s1 := [.int (y4 + 1), .ref 37]) (h1 := hh (xa_u (xa_u S5.1 38 (((S5.1 29 10)).toNatClampNeg) y3) 29 10 (((xa_u S5.1 38 (((S5.1 29 10)).toNatClampNeg) y3) 29 10) + 1), S5.2.1, S5.2.2)) (p2 := 137) (L2 := [.ref 29, .int y1, w2, .int y3, .int (y4 + 1), .int v3]) (s2 := [.int (y4 + 1), .ref 37]) (h2 := hh (xa_u (xa_u S5.1 38 (((S5.1 29 10)).toNatClampNeg) y3) 29 10 (((xa_u S5.1 38 (((S5.1 29 10)).toNatClampNeg) y3) 29 10) + 1), S5.2.1, S5.2.2)) 11 (fun n => B_125_49 n y1 w2 y3 y4 v3 S5) c25 ?_
                    by_cases g27 : xa_in (y4 + 1) 8
                    rotate_left
                    · rw [if_neg g27] at hG; cases hG
                    rw [if_pos g27] at hG
                    refine Ev.g (c := (kd 37).1 = 0 ∧ xa_in (y4 + 1) (kd 37).2) (p1 := 139) (L1 := [.ref 29, .int y1, w2, .int y3, .int (y4 + 1), .int v3]) (s1 := []) (h1 := hh (xa_u (xa_u (xa_u S5.1 38 (((S5.1 29 10)).toNatClampNeg) y3) 29 10 (((xa_u S5.1 38 (((S5.1 29 10)).toNatClampNeg) y3) 29 10) + 1)) 37 (((y4 + 1)).toNatClampNeg) 2, S5.2.1, S5.2.2)) 2 (fun n => B_125_50 n y1 w2 y3 y4 v3 S5) (⟨rfl, g27⟩) ?_
                    exact Ev.b (pc' := 17) (L' := [.ref 29, .int y1, w2, .int (y3 + 1), .int (y4 + 1), .int v3]) (st' := []) (h' := hh (xa_u (xa_u (xa_u S5.1 38 (((S5.1 29 10)).toNatClampNeg) y3) 29 10 (((xa_u S5.1 38 (((S5.1 29 10)).toNatClampNeg) y3) 29 10) + 1)) 37 (((y4 + 1)).toNatClampNeg) 2, S5.2.1, S5.2.2)) 3 (fun n => B_125_51 n y1 w2 y3 y4 v3 S5) ((ih (xa_u (xa_u (xa_u S5.1 38 (((S5.1 29 10)).toNatClampNeg) y3) 29 10 (((xa_u S5.1 38 (((S5.1 29 10)).toNatClampNeg) y3) 29 10) + 1)) 37 (((y4 + 1)).toNatClampNeg) 2, S5.2.1, S5.2.2) y1 (y3 + 1) (y4 + 1) _ _).1 hG w2 (.int v3))
          · rw [if_neg c4] at hG
            refine Ev.f (c := y4 = 6) (p1 := 52) (L1 := [.ref 29, .int y1, w2, .int y3, .int y4, .int v3]) (s1 := [.int 0, .int y3, .int y1, .ref 29]) (h1 := hh S3) (p2 := 56) (L2 := [.ref 29, .int y1, w2, .int y3, .int y4, .int v3]) (s2 := [.int 0, .int y3, .int y1, .ref 29]) (h2 := hh S3) 8 (fun n => B_125_52 n y1 w2 y3 y4 w5 v3 S3) c4 ?_
            rcases h28 : G_120 S3 y1 y3 (0 : Int32) (7 : Int32) with _ | ⟨v28, S28⟩
            · rw [h28] at hG; cases hG
            rw [h28] at hG
            dsimp only at hG
            refine Ev.c (a := 120) (A := [.ref 29, .int y1, .int y3, .int 0, .int 7]) (h1 := hh S3) (pc' := 61) (L' := [.ref 29, .int y1, w2, .int y3, .int y4, .int v3]) (rest := []) (r1 := none) (h2 := hh S28) 2 (fun n => B_125_53 n y1 w2 y3 y4 v3 S3) (Ev.up (by decide) (T_120 S3 y1 y3 (0 : Int32) (7 : Int32) _ _ h28)) ?_
            show Ev X _ 125 61 [.ref 29, .int y1, w2, .int y3, .int y4, .int v3] [] (hh S28) _
            by_cases g29 : xa_in (S28.1 29 10) 64
            rotate_left
            · rw [if_neg g29] at hG; cases hG
            rw [if_pos g29] at hG
            refine Ev.g (c := (kd 38).1 = 0 ∧ xa_in (S28.1 29 10) (kd 38).2) (p1 := 71) (L1 := [.ref 29, .int y1, w2, .int y3, .int y4, .int v3]) (s1 := []) (h1 := hh (xa_u S28.1 38 (((S28.1 29 10)).toNatClampNeg) y3, S28.2.1, S28.2.2)) 6 (fun n => B_125_54 n y1 w2 y3 y4 v3 S28) (⟨rfl, g29⟩) ?_
            by_cases c30 : 63 ≤ ((xa_u S28.1 38 (((S28.1 29 10)).toNatClampNeg) y3) 29 10)
            · rw [if_pos c30] at hG
              refine Ev.t (c := 63 ≤ ((xa_u S28.1 38 (((S28.1 29 10)).toNatClampNeg) y3) 29 10)) (p1 := 90) (L1 := [.ref 29, .int y1, w2, .int y3, .int y4, .int v3]) (s1 := [.ref 29]) (h1 := hh (xa_u S28.1 38 (((S28.1 29 10)).toNatClampNeg) y3, S28.2.1, S28.2.2)) (p2 := 81) (L2 := [.ref 29, .int y1, w2, .int y3, .int y4, .int v3]) (s2 := [.ref 29]) (h2 := hh (xa_u S28.1 38 (((S28.1 29 10)).toNatClampNeg) y3, S28.2.1, S28.2.2)) 5 (fun n => B_125_55 n y1 w2 y3 y4 v3 S28) c30 ?_
              refine Ev.g (c := (kd 29).1 = 10 + 8 ∧ (xf_k 8 10 = 0 ∨ (xf_k 8 10 = 1 ∧ (((xa_u S28.1 38 (((S28.1 29 10)).toNatClampNeg) y3) 29 10) = 0 ∨ ((xa_u S28.1 38 (((S28.1 29 10)).toNatClampNeg) y3) 29 10) = 1)))) (p1 := 97) (L1 := [.ref 29, .int y1, w2, .int y3, .int y4, .int v3]) (s1 := []) (h1 := hh (xa_u (xa_u S28.1 38 (((S28.1 29 10)).toNatClampNeg) y3) 29 10 ((xa_u S28.1 38 (((S28.1 29 10)).toNatClampNeg) y3) 29 10), S28.2.1, S28.2.2)) 3 (fun n => B_125_56 n y1 w2 y3 y4 v3 S28) (⟨rfl, Or.inl rfl⟩) ?_
              by_cases c31 : v3 < 5
              · rw [if_pos c31] at hG
                refine Ev.t (c := v3 < 5) (p1 := 145) (L1 := [.ref 29, .int y1, w2, .int y3, .int y4, .int v3]) (s1 := []) (h1 := hh (xa_u (xa_u S28.1 38 (((S28.1 29 10)).toNatClampNeg) y3) 29 10 ((xa_u S28.1 38 (((S28.1 29 10)).toNatClampNeg) y3) 29 10), S28.2.1, S28.2.2)) (p2 := 103) (L2 := [.ref 29, .int y1, w2, .int y3, .int y4, .int v3]) (s2 := []) (h2 := hh (xa_u (xa_u S28.1 38 (((S28.1 29 10)).toNatClampNeg) y3) 29 10 ((xa_u S28.1 38 (((S28.1 29 10)).toNatClampNeg) y3) 29 10), S28.2.1, S28.2.2)) 3 (fun n => B_125_57 n y1 w2 y3 y4 v3 S28) c31 ?_
                rcases h32 : G_126 (xa_u (xa_u S28.1 38 (((S28.1 29 10)).toNatClampNeg) y3) 29 10 ((xa_u S28.1 38 (((S28.1 29 10)).toNatClampNeg) y3) 29 10), S28.2.1, S28.2.2) y1 y3 v3 with _ | ⟨v32, S32⟩
                · rw [h32] at hG; cases hG
                rw [h32] at hG
                dsimp only at hG
                refine Ev.c (a := 126) (A := [.ref 29, .int y1, .int y3, .int v3]) (h1 := hh (xa_u (xa_u S28.1 38 (((S28.1 29 10)).toNatClampNeg) y3) 29 10 ((xa_u S28.1 38 (((S28.1 29 10)).toNatClampNeg) y3) 29 10), S28.2.1, S28.2.2)) (pc' := 153) (L' := [.ref 29, .int y1, w2, .int y3, .int y4, .int v3]) (rest := []) (r1 := some (.int v32)) (h2 := hh S32) 5 (fun n => B_125_58 n y1 w2 y3 y4 v3 S28) (Ev.up (by decide) (T_126 (xa_u (xa_u S28.1 38 (((S28.1 29 10)).toNatClampNeg) y3) 29 10 ((xa_u S28.1 38 (((S28.1 29 10)).toNatClampNeg) y3) 29 10), S28.2.1, S28.2.2) y1 y3 v3 _ _ h32)) ?_
                show Ev X _ 125 153 [.ref 29, .int y1, w2, .int y3, .int y4, .int v3] [.int v32] (hh S32) _
                by_cases g33 : xa_in y4 8
                rotate_left
                · rw [if_neg g33] at hG; cases hG
                rw [if_pos g33] at hG
                refine Ev.g (c := (kd 37).1 = 0 ∧ xa_in y4 (kd 37).2) (p1 := 162) (L1 := [.ref 29, .int y1, w2, .int v32, .int y4, .int v3]) (s1 := [.int (S32.1 37 (y4).toNatClampNeg), .int y4, .ref 37]) (h1 := hh S32) 6 (fun n => B_125_59 n y1 w2 y3 y4 v3 v32 S32) (⟨rfl, g33⟩) ?_
                refine Ev.g (c := (kd 37).1 = 0 ∧ xa_in y4 (kd 37).2) (p1 := 165) (L1 := [.ref 29, .int y1, w2, .int v32, .int y4, .int v3]) (s1 := []) (h1 := hh (xa_u S32.1 37 ((y4).toNatClampNeg) ((S32.1 37 (y4).toNatClampNeg) - 1), S32.2.1, S32.2.2)) 3 (fun n => B_125_60 n y1 w2 v32 y4 v3 S32) (⟨rfl, g33⟩) ?_
                exact ((ih (xa_u S32.1 37 ((y4).toNatClampNeg) ((S32.1 37 (y4).toNatClampNeg) - 1), S32.2.1, S32.2.2) y1 v32 y4 _ _).2 hG w2 (.int v3))
              · rw [if_neg c31] at hG
                refine Ev.f (c := v3 < 5) (p1 := 145) (L1 := [.ref 29, .int y1, w2, .int y3, .int y4, .int v3]) (s1 := []) (h1 := hh (xa_u (xa_u S28.1 38 (((S28.1 29 10)).toNatClampNeg) y3) 29 10 ((xa_u S28.1 38 (((S28.1 29 10)).toNatClampNeg) y3) 29 10), S28.2.1, S28.2.2)) (p2 := 103) (L2 := [.ref 29, .int y1, w2, .int y3, .int y4, .int v3]) (s2 := []) (h2 := hh (xa_u (xa_u S28.1 38 (((S28.1 29 10)).toNatClampNeg) y3) 29 10 ((xa_u S28.1 38 (((S28.1 29 10)).toNatClampNeg) y3) 29 10), S28.2.1, S28.2.2)) 3 (fun n => B_125_61 n y1 w2 y3 y4 v3 S28) c31 ?_
                by_cases c34 : 7 ≤ y4
                · rw [if_pos c34] at hG
                  refine Ev.t (c := 7 ≤ y4) (p1 := 117) (L1 := [.ref 29, .int y1, w2, .int y3, .int y4, .int v3]) (s1 := []) (h1 := hh (xa_u (xa_u S28.1 38 (((S28.1 29 10)).toNatClampNeg) y3) 29 10 ((xa_u S28.1 38 (((S28.1 29 10)).toNatClampNeg) y3) 29 10), S28.2.1, S28.2.2)) (p2 := 110) (L2 := [.ref 29, .int y1, w2, .int y3, .int y4, .int v3]) (s2 := []) (h2 := hh (xa_u (xa_u S28.1 38 (((S28.1 29 10)).toNatClampNeg) y3) 29 10 ((xa_u S28.1 38 (((S28.1 29 10)).toNatClampNeg) y3) 29 10), S28.2.1, S28.2.2)) 3 (fun n => B_125_62 n y1 w2 y3 y4 v3 S28) c34 ?_
                  by_cases c35 : v3 = 5
                  · rw [if_pos c35] at hG
                    refine Ev.t (c := v3 = 5) (p1 := 133) (L1 := [.ref 29, .int y1, w2, .int y3, .int y4, .int v3]) (s1 := [.int y4, .ref 37]) (h1 := hh (xa_u (xa_u S28.1 38 (((S28.1 29 10)).toNatClampNeg) y3) 29 10 ((xa_u S28.1 38 (((S28.1 29 10)).toNatClampNeg) y3) 29 10), S28.2.1, S28.2.2)) (p2 := 137) (L2 := [.ref 29, .int y1, w2, .int y3, .int y4, .int v3]) (s2 := [.int y4, .ref 37]) (h2 := hh (xa_u (xa_u S28.1 38 (((S28.1 29 10)).toNatClampNeg) y3) 29 10 ((xa_u S28.1 38 (((S28.1 29 10)).toNatClampNeg) y3) 29 10), S28.2.1, S28.2.2)) 8 (fun n => B_125_63 n y1 w2 y3 y4 v3 S28) c35 ?_
                    by_cases g36 : xa_in y4 8
                    rotate_left
                    · rw [if_neg g36] at hG; cases hG
                    rw [if_pos g36] at hG
                    refine Ev.g (c := (kd 37).1 = 0 ∧ xa_in y4 (kd 37).2) (p1 := 139) (L1 := [.ref 29, .int y1, w2, .int y3, .int y4, .int v3]) (s1 := []) (h1 := hh (xa_u (xa_u (xa_u S28.1 38 (((S28.1 29 10)).toNatClampNeg) y3) 29 10 ((xa_u S28.1 38 (((S28.1 29 10)).toNatClampNeg) y3) 29 10)) 37 ((y4).toNatClampNeg) 1, S28.2.1, S28.2.2)) 3 (fun n => B_125_64 n y1 w2 y3 y4 v3 S28) (⟨rfl, g36⟩) ?_
                    exact Ev.b (pc' := 17) (L' := [.ref 29, .int y1, w2, .int (y3 + 1), .int y4, .int v3]) (st' := []) (h' := hh (xa_u (xa_u (xa_u S28.1 38 (((S28.1 29 10)).toNatClampNeg) y3) 29 10 ((xa_u S28.1 38 (((S28.1 29 10)).toNatClampNeg) y3) 29 10)) 37 ((y4).toNatClampNeg) 1, S28.2.1, S28.2.2)) 3 (fun n => B_125_65 n y1 w2 y3 y4 v3 S28) ((ih (xa_u (xa_u (xa_u S28.1 38 (((S28.1 29 10)).toNatClampNeg) y3) 29 10 ((xa_u S28.1 38 (((S28.1 29 10)).toNatClampNeg) y3) 29 10)) 37 ((y4).toNatClampNeg) 1, S28.2.1, S28.2.2) y1 (y3 + 1) y4 _ _).1 hG w2 (.int v3))
                  · rw [if_neg c35] at hG
                    refine Ev.f (c := v3 = 5) (p1 := 133) (L1 := [.ref 29, .int y1, w2, .int y3, .int y4, .int v3]) (s1 := [.int y4, .ref 37]) (h1 := hh (xa_u (xa_u S28.1 38 (((S28.1 29 10)).toNatClampNeg) y3) 29 10 ((xa_u S28.1 38 (((S28.1 29 10)).toNatClampNeg) y3) 29 10), S28.2.1, S28.2.2)) (p2 := 137) (L2 := [.ref 29, .int y1, w2, .int y3, .int y4, .int v3]) (s2 := [.int y4, .ref 37]) (h2 := hh (xa_u (xa_u S28.1 38 (((S28.1 29 10)).toNatClampNeg) y3) 29 10 ((xa_u S28.1 38 (((S28.1 29 10)).toNatClampNeg) y3) 29 10), S28.2.1, S28.2.2)) 8 (fun n => B_125_66 n y1 w2 y3 y4 v3 S28) c35 ?_
                    by_cases g37 : xa_in y4 8
                    rotate_left
                    · rw [if_neg g37] at hG; cases hG
                    rw [if_pos g37] at hG
                    refine Ev.g (c := (kd 37).1 = 0 ∧ xa_in y4 (kd 37).2) (p1 := 139) (L1 := [.ref 29, .int y1, w2, .int y3, .int y4, .int v3]) (s1 := []) (h1 := hh (xa_u (xa_u (xa_u S28.1 38 (((S28.1 29 10)).toNatClampNeg) y3) 29 10 ((xa_u S28.1 38 (((S28.1 29 10)).toNatClampNeg) y3) 29 10)) 37 ((y4).toNatClampNeg) 2, S28.2.1, S28.2.2)) 2 (fun n => B_125_67 n y1 w2 y3 y4 v3 S28) (⟨rfl, g37⟩) ?_
                    exact Ev.b (pc' := 17) (L' := [.ref 29, .int y1, w2, .int (y3 + 1), .int y4, .int v3]) (st' := []) (h' := hh (xa_u (xa_u (xa_u S28.1 38 (((S28.1 29 10)).toNatClampNeg) y3) 29 10 ((xa_u S28.1 38 (((S28.1 29 10)).toNatClampNeg) y3) 29 10)) 37 ((y4).toNatClampNeg) 2, S28.2.1, S28.2.2)) 3 (fun n => B_125_68 n y1 w2 y3 y4 v3 S28) ((ih (xa_u (xa_u (xa_u S28.1 38 (((S28.1 29 10)).toNatClampNeg) y3) 29 10 ((xa_u S28.1 38 (((S28.1 29 10)).toNatClampNeg) y3) 29 10)) 37 ((y4).toNatClampNeg) 2, S28.2.1, S28.2.2) y1 (y3 + 1) y4 _ _).1 hG w2 (.int v3))
                · rw [if_neg c34] at hG
                  refine Ev.f (c := 7 ≤ y4) (p1 := 117) (L1 := [.ref 29, .int y1, w2, .int y3, .int y4, .int v3]) (s1 := []) (h1 := hh (xa_u (xa_u S28.1 38 (((S28.1 29 10)).toNatClampNeg) y3) 29 10 ((xa_u S28.1 38 (((S28.1 29 10)).toNatClampNeg) y3) 29 10), S28.2.1, S28.2.2)) (p2 := 110) (L2 := [.ref 29, .int y1, w2, .int y3, .int y4, .int v3]) (s2 := []) (h2 := hh (xa_u (xa_u S28.1 38 (((S28.1 29 10)).toNatClampNeg) y3) 29 10 ((xa_u S28.1 38 (((S28.1 29 10)).toNatClampNeg) y3) 29 10), S28.2.1, S28.2.2)) 3 (fun n => B_125_69 n y1 w2 y3 y4 v3 S28) c34 ?_
                  by_cases c38 : v3 = 5
                  · rw [if_pos c38] at hG
                    refine Ev.t (c := v3 = 5) (p1 := 133) (L1 := [.ref 29, .int y1, w2, .int y3, .int (y4 + 1), .int v3]) (s1 := [.int (y4 + 1), .ref 37]) (h1 := hh (xa_u (xa_u S28.1 38 (((S28.1 29 10)).toNatClampNeg) y3) 29 10 ((xa_u S28.1 38 (((S28.1 29 10)).toNatClampNeg) y3) 29 10), S28.2.1, S28.2.2)) (p2 := 137) (L2 := [.ref 29, .int y1, w2, .int y3, .int (y4 + 1), .int v3]) (s2 := [.int (y4 + 1), .ref 37]) (h2 := hh (xa_u (xa_u S28.1 38 (((S28.1 29 10)).toNatClampNeg) y3) 29 10 ((xa_u S28.1 38 (((S28.1 29 10)).toNatClampNeg) y3) 29 10), S28.2.1, S28.2.2)) 11 (fun n => B_125_70 n y1 w2 y3 y4 v3 S28) c38 ?_
                    by_cases g39 : xa_in (y4 + 1) 8
                    rotate_left
                    · rw [if_neg g39] at hG; cases hG
                    rw [if_pos g39] at hG
                    refine Ev.g (c := (kd 37).1 = 0 ∧ xa_in (y4 + 1) (kd 37).2) (p1 := 139) (L1 := [.ref 29, .int y1, w2, .int y3, .int (y4 + 1), .int v3]) (s1 := []) (h1 := hh (xa_u (xa_u (xa_u S28.1 38 (((S28.1 29 10)).toNatClampNeg) y3) 29 10 ((xa_u S28.1 38 (((S28.1 29 10)).toNatClampNeg) y3) 29 10)) 37 (((y4 + 1)).toNatClampNeg) 1, S28.2.1, S28.2.2)) 3 (fun n => B_125_71 n y1 w2 y3 y4 v3 S28) (⟨rfl, g39⟩) ?_
                    exact Ev.b (pc' := 17) (L' := [.ref 29, .int y1, w2, .int (y3 + 1), .int (y4 + 1), .int v3]) (st' := []) (h' := hh (xa_u (xa_u (xa_u S28.1 38 (((S28.1 29 10)).toNatClampNeg) y3) 29 10 ((xa_u S28.1 38 (((S28.1 29 10)).toNatClampNeg) y3) 29 10)) 37 (((y4 + 1)).toNatClampNeg) 1, S28.2.1, S28.2.2)) 3 (fun n => B_125_72 n y1 w2 y3 y4 v3 S28) ((ih (xa_u (xa_u (xa_u S28.1 38 (((S28.1 29 10)).toNatClampNeg) y3) 29 10 ((xa_u S28.1 38 (((S28.1 29 10)).toNatClampNeg) y3) 29 10)) 37 (((y4 + 1)).toNatClampNeg) 1, S28.2.1, S28.2.2) y1 (y3 + 1) (y4 + 1) _ _).1 hG w2 (.int v3))
                  · rw [if_neg c38] at hG
                    refine Ev.f (c := v3 = 5) (p1 := 133) (L1 := [.ref 29, .int y1, w2, .int y3, .int (y4 + 1), .int v3]) (s1 := [.int (y4 + 1), .ref 37]) (h1 := hh (xa_u (xa_u S28.1 38 (((S28.1 29 10)).toNatClampNeg) y3) 29 10 ((xa_u S28.1 38 (((S28.1 29 10)).toNatClampNeg) y3) 29 10), S28.2.1, S28.2.2)) (p2 := 137) (L2 := [.ref 29, .int y1, w2, .int y3, .int (y4 + 1), .int v3]) (s2 := [.int (y4 + 1), .ref 37]) (h2 := hh (xa_u (xa_u S28.1 38 (((S28.1 29 10)).toNatClampNeg) y3) 29 10 ((xa_u S28.1 38 (((S28.1 29 10)).toNatClampNeg) y3) 29 10), S28.2.1, S28.2.2)) 11 (fun n => B_125_73 n y1 w2 y3 y4 v3 S28) c38 ?_
                    by_cases g40 : xa_in (y4 + 1) 8
                    rotate_left
                    · rw [if_neg g40] at hG; cases hG
                    rw [if_pos g40] at hG
                    refine Ev.g (c := (kd 37).1 = 0 ∧ xa_in (y4 + 1) (kd 37).2) (p1 := 139) (L1 := [.ref 29, .int y1, w2, .int y3, .int (y4 + 1), .int v3]) (s1 := []) (h1 := hh (xa_u (xa_u (xa_u S28.1 38 (((S28.1 29 10)).toNatClampNeg) y3) 29 10 ((xa_u S28.1 38 (((S28.1 29 10)).toNatClampNeg) y3) 29 10)) 37 (((y4 + 1)).toNatClampNeg) 2, S28.2.1, S28.2.2)) 2 (fun n => B_125_74 n y1 w2 y3 y4 v3 S28) (⟨rfl, g40⟩) ?_
                    exact Ev.b (pc' := 17) (L' := [.ref 29, .int y1, w2, .int (y3 + 1), .int (y4 + 1), .int v3]) (st' := []) (h' := hh (xa_u (xa_u (xa_u S28.1 38 (((S28.1 29 10)).toNatClampNeg) y3) 29 10 ((xa_u S28.1 38 (((S28.1 29 10)).toNatClampNeg) y3) 29 10)) 37 (((y4 + 1)).toNatClampNeg) 2, S28.2.1, S28.2.2)) 3 (fun n => B_125_75 n y1 w2 y3 y4 v3 S28) ((ih (xa_u (xa_u (xa_u S28.1 38 (((S28.1 29 10)).toNatClampNeg) y3) 29 10 ((xa_u S28.1 38 (((S28.1 29 10)).toNatClampNeg) y3) 29 10)) 37 (((y4 + 1)).toNatClampNeg) 2, S28.2.1, S28.2.2) y1 (y3 + 1) (y4 + 1) _ _).1 hG w2 (.int v3))
            · rw [if_neg c30] at hG
              refine Ev.f (c := 63 ≤ ((xa_u S28.1 38 (((S28.1 29 10)).toNatClampNeg) y3) 29 10)) (p1 := 90) (L1 := [.ref 29, .int y1, w2, .int y3, .int y4, .int v3]) (s1 := [.ref 29]) (h1 := hh (xa_u S28.1 38 (((S28.1 29 10)).toNatClampNeg) y3, S28.2.1, S28.2.2)) (p2 := 81) (L2 := [.ref 29, .int y1, w2, .int y3, .int y4, .int v3]) (s2 := [.ref 29]) (h2 := hh (xa_u S28.1 38 (((S28.1 29 10)).toNatClampNeg) y3, S28.2.1, S28.2.2)) 5 (fun n => B_125_76 n y1 w2 y3 y4 v3 S28) c30 ?_
              refine Ev.g (c := (kd 29).1 = 10 + 8 ∧ (xf_k 8 10 = 0 ∨ (xf_k 8 10 = 1 ∧ ((((xa_u S28.1 38 (((S28.1 29 10)).toNatClampNeg) y3) 29 10) + 1) = 0 ∨ (((xa_u S28.1 38 (((S28.1 29 10)).toNatClampNeg) y3) 29 10) + 1) = 1)))) (p1 := 97) (L1 := [.ref 29, .int y1, w2, .int y3, .int y4, .int v3]) (s1 := []) (h1 := hh (xa_u (xa_u S28.1 38 (((S28.1 29 10)).toNatClampNeg) y3) 29 10 (((xa_u S28.1 38 (((S28.1 29 10)).toNatClampNeg) y3) 29 10) + 1), S28.2.1, S28.2.2)) 6 (fun n => B_125_77 n y1 w2 y3 y4 v3 S28) (⟨rfl, Or.inl rfl⟩) ?_
              by_cases c41 : v3 < 5
              · rw [if_pos c41] at hG
                refine Ev.t (c := v3 < 5) (p1 := 145) (L1 := [.ref 29, .int y1, w2, .int y3, .int y4, .int v3]) (s1 := []) (h1 := hh (xa_u (xa_u S28.1 38 (((S28.1 29 10)).toNatClampNeg) y3) 29 10 (((xa_u S28.1 38 (((S28.1 29 10)).toNatClampNeg) y3) 29 10) + 1), S28.2.1, S28.2.2)) (p2 := 103) (L2 := [.ref 29, .int y1, w2, .int y3, .int y4, .int v3]) (s2 := []) (h2 := hh (xa_u (xa_u S28.1 38 (((S28.1 29 10)).toNatClampNeg) y3) 29 10 (((xa_u S28.1 38 (((S28.1 29 10)).toNatClampNeg) y3) 29 10) + 1), S28.2.1, S28.2.2)) 3 (fun n => B_125_78 n y1 w2 y3 y4 v3 S28) c41 ?_
                rcases h42 : G_126 (xa_u (xa_u S28.1 38 (((S28.1 29 10)).toNatClampNeg) y3) 29 10 (((xa_u S28.1 38 (((S28.1 29 10)).toNatClampNeg) y3) 29 10) + 1), S28.2.1, S28.2.2) y1 y3 v3 with _ | ⟨v42, S42⟩
                · rw [h42] at hG; cases hG
                rw [h42] at hG
                dsimp only at hG
                refine Ev.c (a := 126) (A := [.ref 29, .int y1, .int y3, .int v3]) (h1 := hh (xa_u (xa_u S28.1 38 (((S28.1 29 10)).toNatClampNeg) y3) 29 10 (((xa_u S28.1 38 (((S28.1 29 10)).toNatClampNeg) y3) 29 10) + 1), S28.2.1, S28.2.2)) (pc' := 153) (L' := [.ref 29, .int y1, w2, .int y3, .int y4, .int v3]) (rest := []) (r1 := some (.int v42)) (h2 := hh S42) 5 (fun n => B_125_79 n y1 w2 y3 y4 v3 S28) (Ev.up (by decide) (T_126 (xa_u (xa_u S28.1 38 (((S28.1 29 10)).toNatClampNeg) y3) 29 10 (((xa_u S28.1 38 (((S28.1 29 10)).toNatClampNeg) y3) 29 10) + 1), S28.2.1, S28.2.2) y1 y3 v3 _ _ h42)) ?_
                show Ev X _ 125 153 [.ref 29, .int y1, w2, .int y3, .int y4, .int v3] [.int v42] (hh S42) _
                by_cases g43 : xa_in y4 8
                rotate_left
                · rw [if_neg g43] at hG; cases hG
                rw [if_pos g43] at hG
                refine Ev.g (c := (kd 37).1 = 0 ∧ xa_in y4 (kd 37).2) (p1 := 162) (L1 := [.ref 29, .int y1, w2, .int v42, .int y4, .int v3]) (s1 := [.int (S42.1 37 (y4).toNatClampNeg), .int y4, .ref 37]) (h1 := hh S42) 6 (fun n => B_125_80 n y1 w2 y3 y4 v3 v42 S42) (⟨rfl, g43⟩) ?_
                refine Ev.g (c := (kd 37).1 = 0 ∧ xa_in y4 (kd 37).2) (p1 := 165) (L1 := [.ref 29, .int y1, w2, .int v42, .int y4, .int v3]) (s1 := []) (h1 := hh (xa_u S42.1 37 ((y4).toNatClampNeg) ((S42.1 37 (y4).toNatClampNeg) - 1), S42.2.1, S42.2.2)) 3 (fun n => B_125_81 n y1 w2 v42 y4 v3 S42) (⟨rfl, g43⟩) ?_
                exact ((ih (xa_u S42.1 37 ((y4).toNatClampNeg) ((S42.1 37 (y4).toNatClampNeg) - 1), S42.2.1, S42.2.2) y1 v42 y4 _ _).2 hG w2 (.int v3))
              · rw [if_neg c41] at hG
                refine Ev.f (c := v3 < 5) (p1 := 145) (L1 := [.ref 29, .int y1, w2, .int y3, .int y4, .int v3]) (s1 := []) (h1 := hh (xa_u (xa_u S28.1 38 (((S28.1 29 10)).toNatClampNeg) y3) 29 10 (((xa_u S28.1 38 (((S28.1 29 10)).toNatClampNeg) y3) 29 10) + 1), S28.2.1, S28.2.2)) (p2 := 103) (L2 := [.ref 29, .int y1, w2, .int y3, .int y4, .int v3]) (s2 := []) (h2 := hh (xa_u (xa_u S28.1 38 (((S28.1 29 10)).toNatClampNeg) y3) 29 10 (((xa_u S28.1 38 (((S28.1 29 10)).toNatClampNeg) y3) 29 10) + 1), S28.2.1, S28.2.2)) 3 (fun n => B_125_82 n y1 w2 y3 y4 v3 S28) c41 ?_
                by_cases c44 : 7 ≤ y4
                · rw [if_pos c44] at hG
                  refine Ev.t (c := 7 ≤ y4) (p1 := 117) (L1 := [.ref 29, .int y1, w2, .int y3, .int y4, .int v3]) (s1 := []) (h1 := hh (xa_u (xa_u S28.1 38 (((S28.1 29 10)).toNatClampNeg) y3) 29 10 (((xa_u S28.1 38 (((S28.1 29 10)).toNatClampNeg) y3) 29 10) + 1), S28.2.1, S28.2.2)) (p2 := 110) (L2 := [.ref 29, .int y1, w2, .int y3, .int y4, .int v3]) (s2 := []) (h2 := hh (xa_u (xa_u S28.1 38 (((S28.1 29 10)).toNatClampNeg) y3) 29 10 (((xa_u S28.1 38 (((S28.1 29 10)).toNatClampNeg) y3) 29 10) + 1), S28.2.1, S28.2.2)) 3 (fun n => B_125_83 n y1 w2 y3 y4 v3 S28) c44 ?_
                  by_cases c45 : v3 = 5
                  · rw [if_pos c45] at hG
                    refine Ev.t (c := v3 = 5) (p1 := 133) (L1 := [.ref 29, .int y1, w2, .int y3, .int y4, .int v3]) (s1 := [.int y4, .ref 37]) (h1 := hh (xa_u (xa_u S28.1 38 (((S28.1 29 10)).toNatClampNeg) y3) 29 10 (((xa_u S28.1 38 (((S28.1 29 10)).toNatClampNeg) y3) 29 10) + 1), S28.2.1, S28.2.2)) (p2 := 137) (L2 := [.ref 29, .int y1, w2, .int y3, .int y4, .int v3]) (s2 := [.int y4, .ref 37]) (h2 := hh (xa_u (xa_u S28.1 38 (((S28.1 29 10)).toNatClampNeg) y3) 29 10 (((xa_u S28.1 38 (((S28.1 29 10)).toNatClampNeg) y3) 29 10) + 1), S28.2.1, S28.2.2)) 8 (fun n => B_125_84 n y1 w2 y3 y4 v3 S28) c45 ?_
                    by_cases g46 : xa_in y4 8
                    rotate_left
                    · rw [if_neg g46] at hG; cases hG
                    rw [if_pos g46] at hG
                    refine Ev.g (c := (kd 37).1 = 0 ∧ xa_in y4 (kd 37).2) (p1 := 139) (L1 := [.ref 29, .int y1, w2, .int y3, .int y4, .int v3]) (s1 := []) (h1 := hh (xa_u (xa_u (xa_u S28.1 38 (((S28.1 29 10)).toNatClampNeg) y3) 29 10 (((xa_u S28.1 38 (((S28.1 29 10)).toNatClampNeg) y3) 29 10) + 1)) 37 ((y4).toNatClampNeg) 1, S28.2.1, S28.2.2)) 3 (fun n => B_125_85 n y1 w2 y3 y4 v3 S28) (⟨rfl, g46⟩) ?_
                    exact Ev.b (pc' := 17) (L' := [.ref 29, .int y1, w2, .int (y3 + 1), .int y4, .int v3]) (st' := []) (h' := hh (xa_u (xa_u (xa_u S28.1 38 (((S28.1 29 10)).toNatClampNeg) y3) 29 10 (((xa_u S28.1 38 (((S28.1 29 10)).toNatClampNeg) y3) 29 10) + 1)) 37 ((y4).toNatClampNeg) 1, S28.2.1, S28.2.2)) 3 (fun n => B_125_86 n y1 w2 y3 y4 v3 S28) ((ih (xa_u (xa_u (xa_u S28.1 38 (((S28.1 29 10)).toNatClampNeg) y3) 29 10 (((xa_u S28.1 38 (((S28.1 29 10)).toNatClampNeg) y3) 29 10) + 1)) 37 ((y4).toNatClampNeg) 1, S28.2.1, S28.2.2) y1 (y3 + 1) y4 _ _).1 hG w2 (.int v3))
                  · rw [if_neg c45] at hG
                    refine Ev.f (c := v3 = 5) (p1 := 133) (L1 := [.ref 29, .int y1, w2, .int y3, .int y4, .int v3]) (s1 := [.int y4, .ref 37]) (h1 := hh (xa_u (xa_u S28.1 38 (((S28.1 29 10)).toNatClampNeg) y3) 29 10 (((xa_u S28.1 38 (((S28.1 29 10)).toNatClampNeg) y3) 29 10) + 1), S28.2.1, S28.2.2)) (p2 := 137) (L2 := [.ref 29, .int y1, w2, .int y3, .int y4, .int v3]) (s2 := [.int y4, .ref 37]) (h2 := hh (xa_u (xa_u S28.1 38 (((S28.1 29 10)).toNatClampNeg) y3) 29 10 (((xa_u S28.1 38 (((S28.1 29 10)).toNatClampNeg) y3) 29 10) + 1), S28.2.1, S28.2.2)) 8 (fun n => B_125_87 n y1 w2 y3 y4 v3 S28) c45 ?_
                    by_cases g47 : xa_in y4 8
                    rotate_left
                    · rw [if_neg g47] at hG; cases hG
                    rw [if_pos g47] at hG
                    refine Ev.g (c := (kd 37).1 = 0 ∧ xa_in y4 (kd 37).2) (p1 := 139) (L1 := [.ref 29, .int y1, w2, .int y3, .int y4, .int v3]) (s1 := []) (h1 := hh (xa_u (xa_u (xa_u S28.1 38 (((S28.1 29 10)).toNatClampNeg) y3) 29 10 (((xa_u S28.1 38 (((S28.1 29 10)).toNatClampNeg) y3) 29 10) + 1)) 37 ((y4).toNatClampNeg) 2, S28.2.1, S28.2.2)) 2 (fun n => B_125_88 n y1 w2 y3 y4 v3 S28) (⟨rfl, g47⟩) ?_
                    exact Ev.b (pc' := 17) (L' := [.ref 29, .int y1, w2, .int (y3 + 1), .int y4, .int v3]) (st' := []) (h' := hh (xa_u (xa_u (xa_u S28.1 38 (((S28.1 29 10)).toNatClampNeg) y3) 29 10 (((xa_u S28.1 38 (((S28.1 29 10)).toNatClampNeg) y3) 29 10) + 1)) 37 ((y4).toNatClampNeg) 2, S28.2.1, S28.2.2)) 3 (fun n => B_125_89 n y1 w2 y3 y4 v3 S28) ((ih (xa_u (xa_u (xa_u S28.1 38 (((S28.1 29 10)).toNatClampNeg) y3) 29 10 (((xa_u S28.1 38 (((S28.1 29 10)).toNatClampNeg) y3) 29 10) + 1)) 37 ((y4).toNatClampNeg) 2, S28.2.1, S28.2.2) y1 (y3 + 1) y4 _ _).1 hG w2 (.int v3))
                · rw [if_neg c44] at hG
                  refine Ev.f (c := 7 ≤ y4) (p1 := 117) (L1 := [.ref 29, .int y1, w2, .int y3, .int y4, .int v3]) (s1 := []) (h1 := hh (xa_u (xa_u S28.1 38 (((S28.1 29 10)).toNatClampNeg) y3) 29 10 (((xa_u S28.1 38 (((S28.1 29 10)).toNatClampNeg) y3) 29 10) + 1), S28.2.1, S28.2.2)) (p2 := 110) (L2 := [.ref 29, .int y1, w2, .int y3, .int y4, .int v3]) (s2 := []) (h2 := hh (xa_u (xa_u S28.1 38 (((S28.1 29 10)).toNatClampNeg) y3) 29 10 (((xa_u S28.1 38 (((S28.1 29 10)).toNatClampNeg) y3) 29 10) + 1), S28.2.1, S28.2.2)) 3 (fun n => B_125_90 n y1 w2 y3 y4 v3 S28) c44 ?_
                  by_cases c48 : v3 = 5
                  · rw [if_pos c48] at hG
                    refine Ev.t (c := v3 = 5) (p1 := 133) (L1 := [.ref 29, .int y1, w2, .int y3, .int (y4 + 1), .int v3]) (s1 := [.int (y4 + 1), .ref 37]) (h1 := hh (xa_u (xa_u S28.1 38 (((S28.1 29 10)).toNatClampNeg) y3) 29 10 (((xa_u S28.1 38 (((S28.1 29 10)).toNatClampNeg) y3) 29 10) + 1), S28.2.1, S28.2.2)) (p2 := 137) (L2 := [.ref 29, .int y1, w2, .int y3, .int (y4 + 1), .int v3]) (s2 := [.int (y4 + 1), .ref 37]) (h2 := hh (xa_u (xa_u S28.1 38 (((S28.1 29 10)).toNatClampNeg) y3) 29 10 (((xa_u S28.1 38 (((S28.1 29 10)).toNatClampNeg) y3) 29 10) + 1), S28.2.1, S28.2.2)) 11 (fun n => B_125_91 n y1 w2 y3 y4 v3 S28) c48 ?_
                    by_cases g49 : xa_in (y4 + 1) 8
                    rotate_left
                    · rw [if_neg g49] at hG; cases hG
                    rw [if_pos g49] at hG
                    refine Ev.g (c := (kd 37).1 = 0 ∧ xa_in (y4 + 1) (kd 37).2) (p1 := 139) (L1 := [.ref 29, .int y1, w2, .int y3, .int (y4 + 1), .int v3]) (s1 := []) (h1 := hh (xa_u (xa_u (xa_u S28.1 38 (((S28.1 29 10)).toNatClampNeg) y3) 29 10 (((xa_u S28.1 38 (((S28.1 29 10)).toNatClampNeg) y3) 29 10) + 1)) 37 (((y4 + 1)).toNatClampNeg) 1, S28.2.1, S28.2.2)) 3 (fun n => B_125_92 n y1 w2 y3 y4 v3 S28) (⟨rfl, g49⟩) ?_
                    exact Ev.b (pc' := 17) (L' := [.ref 29, .int y1, w2, .int (y3 + 1), .int (y4 + 1), .int v3]) (st' := []) (h' := hh (xa_u (xa_u (xa_u S28.1 38 (((S28.1 29 10)).toNatClampNeg) y3) 29 10 (((xa_u S28.1 38 (((S28.1 29 10)).toNatClampNeg) y3) 29 10) + 1)) 37 (((y4 + 1)).toNatClampNeg) 1, S28.2.1, S28.2.2)) 3 (fun n => B_125_93 n y1 w2 y3 y4 v3 S28) ((ih (xa_u (xa_u (xa_u S28.1 38 (((S28.1 29 10)).toNatClampNeg) y3) 29 10 (((xa_u S28.1 38 (((S28.1 29 10)).toNatClampNeg) y3) 29 10) + 1)) 37 (((y4 + 1)).toNatClampNeg) 1, S28.2.1, S28.2.2) y1 (y3 + 1) (y4 + 1) _ _).1 hG w2 (.int v3))
                  · rw [if_neg c48] at hG
                    refine Ev.f (c := v3 = 5) (p1 := 133) (L1 := [.ref 29, .int y1, w2, .int y3, .int (y4 + 1), .int v3]) (s1 := [.int (y4 + 1), .ref 37]) (h1 := hh (xa_u (xa_u S28.1 38 (((S28.1 29 10)).toNatClampNeg) y3) 29 10 (((xa_u S28.1 38 (((S28.1 29 10)).toNatClampNeg) y3) 29 10) + 1), S28.2.1, S28.2.2)) (p2 := 137) (L2 := [.ref 29, .int y1, w2, .int y3, .int (y4 + 1), .int v3]) (s2 := [.int (y4 + 1), .ref 37]) (h2 := hh (xa_u (xa_u S28.1 38 (((S28.1 29 10)).toNatClampNeg) y3) 29 10 (((xa_u S28.1 38 (((S28.1 29 10)).toNatClampNeg) y3) 29 10) + 1), S28.2.1, S28.2.2)) 11 (fun n => B_125_94 n y1 w2 y3 y4 v3 S28) c48 ?_
                    by_cases g50 : xa_in (y4 + 1) 8
                    rotate_left
                    · rw [if_neg g50] at hG; cases hG
                    rw [if_pos g50] at hG
                    refine Ev.g (c := (kd 37).1 = 0 ∧ xa_in (y4 + 1) (kd 37).2) (p1 := 139) (L1 := [.ref 29, .int y1, w2, .int y3, .int (y4 + 1), .int v3]) (s1 := []) (h1 := hh (xa_u (xa_u (xa_u S28.1 38 (((S28.1 29 10)).toNatClampNeg) y3) 29 10 (((xa_u S28.1 38 (((S28.1 29 10)).toNatClampNeg) y3) 29 10) + 1)) 37 (((y4 + 1)).toNatClampNeg) 2, S28.2.1, S28.2.2)) 2 (fun n => B_125_95 n y1 w2 y3 y4 v3 S28) (⟨rfl, g50⟩) ?_
                    exact Ev.b (pc' := 17) (L' := [.ref 29, .int y1, w2, .int (y3 + 1), .int (y4 + 1), .int v3]) (st' := []) (h' := hh (xa_u (xa_u (xa_u S28.1 38 (((S28.1 29 10)).toNatClampNeg) y3) 29 10 (((xa_u S28.1 38 (((S28.1 29 10)).toNatClampNeg) y3) 29 10) + 1)) 37 (((y4 + 1)).toNatClampNeg) 2, S28.2.1, S28.2.2)) 3 (fun n => B_125_96 n y1 w2 y3 y4 v3 S28) ((ih (xa_u (xa_u (xa_u S28.1 38 (((S28.1 29 10)).toNatClampNeg) y3) 29 10 (((xa_u S28.1 38 (((S28.1 29 10)).toNatClampNeg) y3) 29 10) + 1)) 37 (((y4 + 1)).toNatClampNeg) 2, S28.2.1, S28.2.2) y1 (y3 + 1) (y4 + 1) _ _).1 hG w2 (.int v3))
    · intro hG w2 w5
      rw [GL_125_0] at hG
      by_cases c51 : y4 ≤ 0
      · rw [if_pos c51] at hG
        refine Ev.t (c := y4 ≤ 0) (p1 := 197) (L1 := [.ref 29, .int y1, w2, .int y3, .int y4, w5]) (s1 := []) (h1 := hh S) (p2 := 170) (L2 := [.ref 29, .int y1, w2, .int y3, .int y4, w5]) (s2 := []) (h2 := hh S) 2 (fun n => B_125_97 n y1 w2 y3 y4 w5 S) c51 ?_
        exact Ev.b (pc' := 17) (L' := [.ref 29, .int y1, w2, .int y3, .int y4, w5]) (st' := []) (h' := hh S) 1 (fun n => B_125_98 n y1 w2 y3 y4 w5 S) ((ih S y1 y3 y4 _ _).1 hG w2 w5)
      · rw [if_neg c51] at hG
        refine Ev.f (c := y4 ≤ 0) (p1 := 197) (L1 := [.ref 29, .int y1, w2, .int y3, .int y4, w5]) (s1 := []) (h1 := hh S) (p2 := 170) (L2 := [.ref 29, .int y1, w2, .int y3, .int y4, w5]) (s2 := []) (h2 := hh S) 2 (fun n => B_125_99 n y1 w2 y3 y4 w5 S) c51 ?_
        by_cases g52 : xa_in y4 8
        rotate_left
        · rw [if_neg g52] at hG; cases hG
        rw [if_pos g52] at hG
        refine Ev.g (c := (kd 37).1 = 0 ∧ xa_in y4 (kd 37).2) (p1 := 177) (L1 := [.ref 29, .int y1, w2, .int y3, .int y4, w5]) (s1 := [.int (S.1 37 (y4).toNatClampNeg)]) (h1 := hh S) 4 (fun n => B_125_100 n y1 w2 y3 y4 w5 S) (⟨rfl, g52⟩) ?_
        by_cases c53 : (S.1 37 (y4).toNatClampNeg) = 0
        · rw [if_pos c53] at hG
          refine Ev.t (c := (S.1 37 (y4).toNatClampNeg) = 0) (p1 := 180) (L1 := [.ref 29, .int y1, w2, .int y3, .int y4, w5]) (s1 := []) (h1 := hh S) (p2 := 197) (L2 := [.ref 29, .int y1, w2, .int y3, .int y4, w5]) (s2 := []) (h2 := hh S) 1 (fun n => B_125_101 n y1 w2 y3 y4 w5 S) c53 ?_
          refine Ev.b (pc' := 183) (L' := [.ref 29, .int y1, w2, .int y3, .int (y4 + (-1)), w5]) (st' := []) (h' := hh S) 1 (fun n => B_125_102 n y1 w2 y3 y4 w5 S) ?_
          rw [xlet] at hG
          generalize (y4 + (-1)) = z54 at hG ⊢
          by_cases g55 : xa_in z54 8
          rotate_left
          · rw [if_neg g55] at hG; cases hG
          rw [if_pos g55] at hG
          refine Ev.g (c := (kd 37).1 = 0 ∧ xa_in z54 (kd 37).2) (p1 := 191) (L1 := [.ref 29, .int y1, w2, .int y3, .int z54, w5]) (s1 := [.int (S.1 37 (z54).toNatClampNeg), .int z54, .ref 37]) (h1 := hh S) 5 (fun n => B_125_103 n y1 w2 y3 z54 w5 S) (⟨rfl, g55⟩) ?_
          refine Ev.g (c := (kd 37).1 = 0 ∧ xa_in z54 (kd 37).2) (p1 := 194) (L1 := [.ref 29, .int y1, w2, .int y3, .int z54, w5]) (s1 := []) (h1 := hh (xa_u S.1 37 ((z54).toNatClampNeg) ((S.1 37 (z54).toNatClampNeg) - 1), S.2.1, S.2.2)) 3 (fun n => B_125_104 n y1 w2 y3 z54 w5 S) (⟨rfl, g55⟩) ?_
          exact Ev.b (pc' := 165) (L' := [.ref 29, .int y1, w2, .int y3, .int z54, w5]) (st' := []) (h' := hh (xa_u S.1 37 ((z54).toNatClampNeg) ((S.1 37 (z54).toNatClampNeg) - 1), S.2.1, S.2.2)) 1 (fun n => B_125_105 n y1 w2 y3 z54 w5 S) ((ih (xa_u S.1 37 ((z54).toNatClampNeg) ((S.1 37 (z54).toNatClampNeg) - 1), S.2.1, S.2.2) y1 y3 z54 _ _).2 hG w2 w5)
        · rw [if_neg c53] at hG
          refine Ev.f (c := (S.1 37 (y4).toNatClampNeg) = 0) (p1 := 180) (L1 := [.ref 29, .int y1, w2, .int y3, .int y4, w5]) (s1 := []) (h1 := hh S) (p2 := 197) (L2 := [.ref 29, .int y1, w2, .int y3, .int y4, w5]) (s2 := []) (h2 := hh S) 1 (fun n => B_125_106 n y1 w2 y3 y4 w5 S) c53 ?_
          exact Ev.b (pc' := 17) (L' := [.ref 29, .int y1, w2, .int y3, .int y4, w5]) (st' := []) (h' := hh S) 1 (fun n => B_125_107 n y1 w2 y3 y4 w5 S) ((ih S y1 y3 y4 _ _).1 hG w2 w5)
def G_125 (S : St) (x1 : Int32) (x2 : Int32) : Option (Int32 × St) :=
  GL_125_0 xFu 0 (xa_u (xa_u S.1 29 10 0) 37 (((0 : Int32)).toNatClampNeg) 1, S.2.1, S.2.2) x1 x2 (0 : Int32)
theorem B_125_108 {X : Nat × (Nat → Int32)} {d : Nat} (n : Nat) (x1 : Int32) (x2 : Int32) (S : St) : ex X d 125 0 [.ref 29, .int x1, .int x2, .retAddr 0, .retAddr 0, .retAddr 0] [] (hh S) (n + 7) = if (kd 29).1 = 10 + 8 ∧ (xf_k 8 10 = 0 ∨ (xf_k 8 10 = 1 ∧ ((0 : Int32) = 0 ∨ (0 : Int32) = 1))) then ex X d 125 10 [.ref 29, .int x1, .int x2, .int x2, .int 0, .retAddr 0] [] (hh (xa_u S.1 29 10 0, S.2.1, S.2.2)) n else none := rfl
theorem B_125_109 {X : Nat × (Nat → Int32)} {d : Nat} (n : Nat) (x1 : Int32) (x2 : Int32) (S : St) : ex X d 125 10 [.ref 29, .int x1, .int x2, .int x2, .int 0, .retAddr 0] [] (hh (xa_u S.1 29 10 0, S.2.1, S.2.2)) (n + 5) = if (kd 37).1 = 0 ∧ xa_in (0 : Int32) (kd 37).2 then ex X d 125 17 [.ref 29, .int x1, .int x2, .int x2, .int 0, .retAddr 0] [] (hh (xa_u (xa_u S.1 29 10 0) 37 (((0 : Int32)).toNatClampNeg) 1, S.2.1, S.2.2)) n else none := rfl
set_option maxRecDepth 200000 in
theorem T_125 {X : Nat × (Nat → Int32)} (S : St) (x1 : Int32) (x2 : Int32) (r : Int32) (S' : St) (hG : G_125 S x1 x2 = some (r, S')) : Ev X 4 125 0 [.ref 29, .int x1, .int x2, .retAddr 0, .retAddr 0, .retAddr 0] [] (hh S) (xI r, hh S') := by
  unfold G_125 at hG
  refine Ev.g (c := (kd 29).1 = 10 + 8 ∧ (xf_k 8 10 = 0 ∨ (xf_k 8 10 = 1 ∧ ((0 : Int32) = 0 ∨ (0 : Int32) = 1)))) (p1 := 10) (L1 := [.ref 29, .int x1, .int x2, .int x2, .int 0, .retAddr 0]) (s1 := []) (h1 := hh (xa_u S.1 29 10 0, S.2.1, S.2.2)) 7 (fun n => B_125_108 n x1 x2 S) (⟨rfl, Or.inl rfl⟩) ?_
  refine Ev.g (c := (kd 37).1 = 0 ∧ xa_in (0 : Int32) (kd 37).2) (p1 := 17) (L1 := [.ref 29, .int x1, .int x2, .int x2, .int 0, .retAddr 0]) (s1 := []) (h1 := hh (xa_u (xa_u S.1 29 10 0) 37 (((0 : Int32)).toNatClampNeg) 1, S.2.1, S.2.2)) 5 (fun n => B_125_109 n x1 x2 S) (⟨rfl, by decide⟩) ?_
  exact ((TL_125_0 xFu (xa_u (xa_u S.1 29 10 0) 37 (((0 : Int32)).toNatClampNeg) 1, S.2.1, S.2.2) x1 x2 (0 : Int32) _ _).1 hG (.int x2) (.retAddr 0))
/-- 127: SceneCycleModel.ofObject(III)I -/
def G_127 (S : St) (x1 : Int32) (x2 : Int32) (x3 : Int32) : Option (Int32 × St) :=
  (if x3 = 9 then
    (match G_121 S x1 (x2 + 2) with
    | none => none
    | some (v2, S2) =>
      some ((x2 + 4), S2)
    )
  else
    (if x3 = 11 then
      (match G_120 S x1 (x2 + 2) (1 : Int32) (4 : Int32) with
      | none => none
      | some (v4, S4) =>
        (match G_120 S4 x1 (x2 + 3) (1 : Int32) (4 : Int32) with
        | none => none
        | some (v5, S5) =>
          some ((x2 + 4), S5)
        )
      )
    else
      (if x3 = 12 then
        (match G_120 S x1 (x2 + 2) (0 : Int32) (8 : Int32) with
        | none => none
        | some (v7, S7) =>
          some ((x2 + 3), S7)
        )
      else
        (if x3 = 13 then
          (match G_121 S x1 (x2 + 2) with
          | none => none
          | some (v9, S9) =>
            (match G_120 S9 x1 (x2 + 4) (0 : Int32) (15 : Int32) with
            | none => none
            | some (v10, S10) =>
              some ((x2 + 5), S10)
            )
          )
        else
          (if x3 = 14 then
            (match G_120 S x1 (x2 + 2) (0 : Int32) (15 : Int32) with
            | none => none
            | some (v12, S12) =>
              some ((x2 + 3), S12)
            )
          else
            (if x3 = 16 then
              (match G_118 S x1 (x2 + 2) with
              | none => none
              | some (v14, S14) =>
                (if v14 = 0 then
                  (match G_120 S14 x1 (x2 + 2) (0 : Int32) (15 : Int32) with
                  | none => none
                  | some (v16, S16) =>
                    some ((x2 + 3), S16)
                  )
                else
                  (match G_120 S14 x1 (x2 + 2) (4 : Int32) (15 : Int32) with
                  | none => none
                  | some (v17, S17) =>
                    some ((x2 + 3), S17)
                  )
                )
              )
            else
              (if x3 = 17 then
                (match G_120 S x1 (x2 + 2) (0 : Int32) (1 : Int32) with
                | none => none
                | some (v19, S19) =>
                  some ((x2 + 3), S19)
                )
              else
                some ((x2 + 2), S)
              )
            )
          )
        )
      )
    )
  )
theorem B_127_1 {X : Nat × (Nat → Int32)} {d : Nat} (n : Nat) (x1 : Int32) (x2 : Int32) (x3 : Int32) (S : St) : ex X d 127 0 [.ref 29, .int x1, .int x2, .int x3] [] (hh S) (n + 2) = xa_sw [(9, 52), (11, 64), (12, 88), (13, 103), (14, 126), (16, 141), (17, 171)] x3 185 (fun t => ex X d 127 t [.ref 29, .int x1, .int x2, .int x3] [] (hh S) n) := rfl
theorem B_127_2 {X : Nat × (Nat → Int32)} {d : Nat} (n : Nat) (x1 : Int32) (x2 : Int32) (x3 : Int32) (S : St) : ex X (d + 1) 127 52 [.ref 29, .int x1, .int x2, .int x3] [] (hh S) (n + 6) = (match ex X d 121 0 [.ref 29, .int x1, .int (x2 + 2)] [] (hh S) n with | some (v, h') => ex X (d + 1) 127 60 [.ref 29, .int x1, .int x2, .int x3] (v.toList ++ []) h' n | none => none) := rfl
theorem B_127_3 {X : Nat × (Nat → Int32)} {d : Nat} (n : Nat) (x1 : Int32) (x2 : Int32) (x3 : Int32) (S : St) : ex X (d + 1) 127 64 [.ref 29, .int x1, .int x2, .int x3] [] (hh S) (n + 8) = (match ex X d 120 0 [.ref 29, .int x1, .int (x2 + 2), .int 1, .int 4] [] (hh S) n with | some (v, h') => ex X (d + 1) 127 74 [.ref 29, .int x1, .int x2, .int x3] (v.toList ++ []) h' n | none => none) := rfl
theorem B_127_4 {X : Nat × (Nat → Int32)} {d : Nat} (n : Nat) (x1 : Int32) (x2 : Int32) (x3 : Int32) (S4 : St) : ex X (d + 1) 127 74 [.ref 29, .int x1, .int x2, .int x3] [] (hh S4) (n + 8) = (match ex X d 120 0 [.ref 29, .int x1, .int (x2 + 3), .int 1, .int 4] [] (hh S4) n with | some (v, h') => ex X (d + 1) 127 84 [.ref 29, .int x1, .int x2, .int x3] (v.toList ++ []) h' n | none => none) := rfl
theorem B_127_5 {X : Nat × (Nat → Int32)} {d : Nat} (n : Nat) (x1 : Int32) (x2 : Int32) (x3 : Int32) (S : St) : ex X (d + 1) 127 88 [.ref 29, .int x1, .int x2, .int x3] [] (hh S) (n + 8) = (match ex X d 120 0 [.ref 29, .int x1, .int (x2 + 2), .int 0, .int 8] [] (hh S) n with | some (v, h') => ex X (d + 1) 127 99 [.ref 29, .int x1, .int x2, .int x3] (v.toList ++ []) h' n | none => none) := rfl
theorem B_127_6 {X : Nat × (Nat → Int32)} {d : Nat} (n : Nat) (x1 : Int32) (x2 : Int32) (x3 : Int32) (S : St) : ex X (d + 1) 127 103 [.ref 29, .int x1, .int x2, .int x3] [] (hh S) (n + 6) = (match ex X d 121 0 [.ref 29, .int x1, .int (x2 + 2)] [] (hh S) n with | some (v, h') => ex X (d + 1) 127 111 [.ref 29, .int x1, .int x2, .int x3] (v.toList ++ []) h' n | none => none) := rfl
theorem B_127_7 {X : Nat × (Nat → Int32)} {d : Nat} (n : Nat) (x1 : Int32) (x2 : Int32) (x3 : Int32) (S9 : St) : ex X (d + 1) 127 111 [.ref 29, .int x1, .int x2, .int x3] [] (hh S9) (n + 8) = (match ex X d 120 0 [.ref 29, .int x1, .int (x2 + 4), .int 0, .int 15] [] (hh S9) n with | some (v, h') => ex X (d + 1) 127 122 [.ref 29, .int x1, .int x2, .int x3] (v.toList ++ []) h' n | none => none) := rfl
theorem B_127_8 {X : Nat × (Nat → Int32)} {d : Nat} (n : Nat) (x1 : Int32) (x2 : Int32) (x3 : Int32) (S : St) : ex X (d + 1) 127 126 [.ref 29, .int x1, .int x2, .int x3] [] (hh S) (n + 8) = (match ex X d 120 0 [.ref 29, .int x1, .int (x2 + 2), .int 0, .int 15] [] (hh S) n with | some (v, h') => ex X (d + 1) 127 137 [.ref 29, .int x1, .int x2, .int x3] (v.toList ++ []) h' n | none => none) := rfl
theorem B_127_9 {X : Nat × (Nat → Int32)} {d : Nat} (n : Nat) (x1 : Int32) (x2 : Int32) (x3 : Int32) (S : St) : ex X (d + 1) 127 141 [.ref 29, .int x1, .int x2, .int x3] [] (hh S) (n + 11) = (match ex X d 118 0 [.ref 29, .int x1, .int (x2 + 2)] [] (hh S) n with | some (v, h') => ex X (d + 1) 127 154 [.ref 29, .int x1, .int x2, .int x3] (v.toList ++ [.int (x2 + 2), .int x1, .ref 29]) h' n | none => none) := rfl
theorem B_127_10 {X : Nat × (Nat → Int32)} {d : Nat} (n : Nat) (x1 : Int32) (x2 : Int32) (x3 : Int32) (v14 : Int32) (S14 : St) : ex X d 127 154 [.ref 29, .int x1, .int x2, .int x3] [.int v14, .int (x2 + 2), .int x1, .ref 29] (hh S14) (n + 1) = if v14 = 0 then ex X d 127 157 [.ref 29, .int x1, .int x2, .int x3] [.int (x2 + 2), .int x1, .ref 29] (hh S14) n else ex X d 127 161 [.ref 29, .int x1, .int x2, .int x3] [.int (x2 + 2), .int x1, .ref 29] (hh S14) n := rfl
theorem B_127_11 {X : Nat × (Nat → Int32)} {d : Nat} (n : Nat) (x1 : Int32) (x2 : Int32) (x3 : Int32) (S14 : St) : ex X (d + 1) 127 157 [.ref 29, .int x1, .int x2, .int x3] [.int (x2 + 2), .int x1, .ref 29] (hh S14) (n + 4) = (match ex X d 120 0 [.ref 29, .int x1, .int (x2 + 2), .int 0, .int 15] [] (hh S14) n with | some (v, h') => ex X (d + 1) 127 167 [.ref 29, .int x1, .int x2, .int x3] (v.toList ++ []) h' n | none => none) := rfl
theorem B_127_12 {X : Nat × (Nat → Int32)} {d : Nat} (n : Nat) (x1 : Int32) (x2 : Int32) (x3 : Int32) (v14 : Int32) (S14 : St) : ex X d 127 154 [.ref 29, .int x1, .int x2, .int x3] [.int v14, .int (x2 + 2), .int x1, .ref 29] (hh S14) (n + 1) = if v14 = 0 then ex X d 127 157 [.ref 29, .int x1, .int x2, .int x3] [.int (x2 + 2), .int x1, .ref 29] (hh S14) n else ex X d 127 161 [.ref 29, .int x1, .int x2, .int x3] [.int (x2 + 2), .int x1, .ref 29] (hh S14) n := rfl
theorem B_127_13 {X : Nat × (Nat → Int32)} {d : Nat} (n : Nat) (x1 : Int32) (x2 : Int32) (x3 : Int32) (S14 : St) : ex X (d + 1) 127 161 [.ref 29, .int x1, .int x2, .int x3] [.int (x2 + 2), .int x1, .ref 29] (hh S14) (n + 3) = (match ex X d 120 0 [.ref 29, .int x1, .int (x2 + 2), .int 4, .int 15] [] (hh S14) n with | some (v, h') => ex X (d + 1) 127 167 [.ref 29, .int x1, .int x2, .int x3] (v.toList ++ []) h' n | none => none) := rfl
theorem B_127_14 {X : Nat × (Nat → Int32)} {d : Nat} (n : Nat) (x1 : Int32) (x2 : Int32) (x3 : Int32) (S : St) : ex X (d + 1) 127 171 [.ref 29, .int x1, .int x2, .int x3] [] (hh S) (n + 8) = (match ex X d 120 0 [.ref 29, .int x1, .int (x2 + 2), .int 0, .int 1] [] (hh S) n with | some (v, h') => ex X (d + 1) 127 181 [.ref 29, .int x1, .int x2, .int x3] (v.toList ++ []) h' n | none => none) := rfl
set_option maxRecDepth 200000 in
theorem T_127 {X : Nat × (Nat → Int32)} (S : St) (x1 : Int32) (x2 : Int32) (x3 : Int32) (r : Int32) (S' : St) (hG : G_127 S x1 x2 x3 = some (r, S')) : Ev X 3 127 0 [.ref 29, .int x1, .int x2, .int x3] [] (hh S) (xI r, hh S') := by
  unfold G_127 at hG
  refine Ev.sw (ks := [(9, 52), (11, 64), (12, 88), (13, 103), (14, 126), (16, 141), (17, 171)]) (x := x3) (df := 185) (L1 := [.ref 29, .int x1, .int x2, .int x3]) (s1 := []) (h1 := hh S) 2 (fun n => B_127_1 n x1 x2 x3 S) ?_
  by_cases c1 : x3 = 9
  · rw [if_pos c1] at hG
    rw [xa_sw, if_pos c1]
    show Ev X _ 127 52 [.ref 29, .int x1, .int x2, .int x3] [] (hh S) _
    rcases h2 : G_121 S x1 (x2 + 2) with _ | ⟨v2, S2⟩
    · rw [h2] at hG; cases hG
    rw [h2] at hG
    dsimp only at hG
    refine Ev.c (a := 121) (A := [.ref 29, .int x1, .int (x2 + 2)]) (h1 := hh S) (pc' := 60) (L' := [.ref 29, .int x1, .int x2, .int x3]) (rest := []) (r1 := none) (h2 := hh S2) 6 (fun n => B_127_2 n x1 x2 x3 S) (Ev.up (by decide) (T_121 S x1 (x2 + 2) _ _ h2)) ?_
    show Ev X _ 127 60 [.ref 29, .int x1, .int x2, .int x3] [] (hh S2) _
    obtain ⟨e1, e2⟩ := Prod.mk.inj (Option.some.inj hG)
    subst e1
    subst e2
    exact Ev.r 4 (fun n => rfl)
  rw [if_neg c1] at hG
  rw [xa_sw, if_neg c1]
  by_cases c3 : x3 = 11
  · rw [if_pos c3] at hG
    rw [xa_sw, if_pos c3]
    show Ev X _ 127 64 [.ref 29, .int x1, .int x2, .int x3] [] (hh S) _
    rcases h4 : G_120 S x1 (x2 + 2) (1 : Int32) (4 : Int32) with _ | ⟨v4, S4⟩
    · rw [h4] at hG; cases hG
    rw [h4] at hG
    dsimp only at hG
    refine Ev.c (a := 120) (A := [.ref 29, .int x1, .int (x2 + 2), .int 1, .int 4]) (h1 := hh S) (pc' := 74) (L' := [.ref 29, .int x1, .int x2, .int x3]) (rest := []) (r1 := none) (h2 := hh S4) 8 (fun n => B_127_3 n x1 x2 x3 S) (Ev.up (by decide) (T_120 S x1 (x2 + 2) (1 : Int32) (4 : Int32) _ _ h4)) ?_
    show Ev X _ 127 74 [.ref 29, .int x1, .int x2, .int x3] [] (hh S4) _
    rcases h5 : G_120 S4 x1 (x2 + 3) (1 : Int32) (4 : Int32) with _ | ⟨v5, S5⟩
    · rw [h5] at hG; cases hG
    rw [h5] at hG
    dsimp only at hG
    refine Ev.c (a := 120) (A := [.ref 29, .int x1, .int (x2 + 3), .int 1, .int 4]) (h1 := hh S4) (pc' := 84) (L' := [.ref 29, .int x1, .int x2, .int x3]) (rest := []) (r1 := none) (h2 := hh S5) 8 (fun n => B_127_4 n x1 x2 x3 S4) (Ev.up (by decide) (T_120 S4 x1 (x2 + 3) (1 : Int32) (4 : Int32) _ _ h5)) ?_
    show Ev X _ 127 84 [.ref 29, .int x1, .int x2, .int x3] [] (hh S5) _
    obtain ⟨e1, e2⟩ := Prod.mk.inj (Option.some.inj hG)
    subst e1
    subst e2
    exact Ev.r 4 (fun n => rfl)
  rw [if_neg c3] at hG
  rw [xa_sw, if_neg c3]
  by_cases c6 : x3 = 12
  · rw [if_pos c6] at hG
    rw [xa_sw, if_pos c6]
    show Ev X _ 127 88 [.ref 29, .int x1, .int x2, .int x3] [] (hh S) _
    rcases h7 : G_120 S x1 (x2 + 2) (0 : Int32) (8 : Int32) with _ | ⟨v7, S7⟩
    · rw [h7] at hG; cases hG
    rw [h7] at hG
    dsimp only at hG
    refine Ev.c (a := 120) (A := [.ref 29, .int x1, .int (x2 + 2), .int 0, .int 8]) (h1 := hh S) (pc' := 99) (L' := [.ref 29, .int x1, .int x2, .int x3]) (rest := []) (r1 := none) (h2 := hh S7) 8 (fun n => B_127_5 n x1 x2 x3 S) (Ev.up (by decide) (T_120 S x1 (x2 + 2) (0 : Int32) (8 : Int32) _ _ h7)) ?_
    show Ev X _ 127 99 [.ref 29, .int x1, .int x2, .int x3] [] (hh S7) _
    obtain ⟨e1, e2⟩ := Prod.mk.inj (Option.some.inj hG)
    subst e1
    subst e2
    exact Ev.r 4 (fun n => rfl)
  rw [if_neg c6] at hG
  rw [xa_sw, if_neg c6]
  by_cases c8 : x3 = 13
  · rw [if_pos c8] at hG
    rw [xa_sw, if_pos c8]
    show Ev X _ 127 103 [.ref 29, .int x1, .int x2, .int x3] [] (hh S) _
    rcases h9 : G_121 S x1 (x2 + 2) with _ | ⟨v9, S9⟩
    · rw [h9] at hG; cases hG
    rw [h9] at hG
    dsimp only at hG
    refine Ev.c (a := 121) (A := [.ref 29, .int x1, .int (x2 + 2)]) (h1 := hh S) (pc' := 111) (L' := [.ref 29, .int x1, .int x2, .int x3]) (rest := []) (r1 := none) (h2 := hh S9) 6 (fun n => B_127_6 n x1 x2 x3 S) (Ev.up (by decide) (T_121 S x1 (x2 + 2) _ _ h9)) ?_
    show Ev X _ 127 111 [.ref 29, .int x1, .int x2, .int x3] [] (hh S9) _
    rcases h10 : G_120 S9 x1 (x2 + 4) (0 : Int32) (15 : Int32) with _ | ⟨v10, S10⟩
    · rw [h10] at hG; cases hG
    rw [h10] at hG
    dsimp only at hG
    refine Ev.c (a := 120) (A := [.ref 29, .int x1, .int (x2 + 4), .int 0, .int 15]) (h1 := hh S9) (pc' := 122) (L' := [.ref 29, .int x1, .int x2, .int x3]) (rest := []) (r1 := none) (h2 := hh S10) 8 (fun n => B_127_7 n x1 x2 x3 S9) (Ev.up (by decide) (T_120 S9 x1 (x2 + 4) (0 : Int32) (15 : Int32) _ _ h10)) ?_
    show Ev X _ 127 122 [.ref 29, .int x1, .int x2, .int x3] [] (hh S10) _
    obtain ⟨e1, e2⟩ := Prod.mk.inj (Option.some.inj hG)
    subst e1
    subst e2
    exact Ev.r 4 (fun n => rfl)
  rw [if_neg c8] at hG
  rw [xa_sw, if_neg c8]
  by_cases c11 : x3 = 14
  · rw [if_pos c11] at hG
    rw [xa_sw, if_pos c11]
    show Ev X _ 127 126 [.ref 29, .int x1, .int x2, .int x3] [] (hh S) _
    rcases h12 : G_120 S x1 (x2 + 2) (0 : Int32) (15 : Int32) with _ | ⟨v12, S12⟩
    · rw [h12] at hG; cases hG
    rw [h12] at hG
    dsimp only at hG
    refine Ev.c (a := 120) (A := [.ref 29, .int x1, .int (x2 + 2), .int 0, .int 15]) (h1 := hh S) (pc' := 137) (L' := [.ref 29, .int x1, .int x2, .int x3]) (rest := []) (r1 := none) (h2 := hh S12) 8 (fun n => B_127_8 n x1 x2 x3 S) (Ev.up (by decide) (T_120 S x1 (x2 + 2) (0 : Int32) (15 : Int32) _ _ h12)) ?_
    show Ev X _ 127 137 [.ref 29, .int x1, .int x2, .int x3] [] (hh S12) _
    obtain ⟨e1, e2⟩ := Prod.mk.inj (Option.some.inj hG)
    subst e1
    subst e2
    exact Ev.r 4 (fun n => rfl)
  rw [if_neg c11] at hG
  rw [xa_sw, if_neg c11]
  by_cases c13 : x3 = 16
  · rw [if_pos c13] at hG
    rw [xa_sw, if_pos c13]
    show Ev X _ 127 141 [.ref 29, .int x1, .int x2, .int x3] [] (hh S) _
    rcases h14 : G_118 S x1 (x2 + 2) with _ | ⟨v14, S14⟩
    · rw [h14] at hG; cases hG
    rw [h14] at hG
    dsimp only at hG
    refine Ev.c (a := 118) (A := [.ref 29, .int x1, .int (x2 + 2)]) (h1 := hh S) (pc' := 154) (L' := [.ref 29, .int x1, .int x2, .int x3]) (rest := [.int (x2 + 2), .int x1, .ref 29]) (r1 := some (.int v14)) (h2 := hh S14) 11 (fun n => B_127_9 n x1 x2 x3 S) (Ev.up (by decide) (T_118 S x1 (x2 + 2) _ _ h14)) ?_
    show Ev X _ 127 154 [.ref 29, .int x1, .int x2, .int x3] [.int v14, .int (x2 + 2), .int x1, .ref 29] (hh S14) _
    by_cases c15 : v14 = 0
    · rw [if_pos c15] at hG
      refine Ev.t (c := v14 = 0) (p1 := 157) (L1 := [.ref 29, .int x1, .int x2, .int x3]) (s1 := [.int (x2 + 2), .int x1, .ref 29]) (h1 := hh S14) (p2 := 161) (L2 := [.ref 29, .int x1, .int x2, .int x3]) (s2 := [.int (x2 + 2), .int x1, .ref 29]) (h2 := hh S14) 1 (fun n => B_127_10 n x1 x2 x3 v14 S14) c15 ?_
      rcases h16 : G_120 S14 x1 (x2 + 2) (0 : Int32) (15 : Int32) with _ | ⟨v16, S16⟩
      · rw [h16] at hG; cases hG
      rw [h16] at hG
      dsimp only at hG
      refine Ev.c (a := 120) (A := [.ref 29, .int x1, .int (x2 + 2), .int 0, .int 15]) (h1 := hh S14) (pc' := 167) (L' := [.ref 29, .int x1, .int x2, .int x3]) (rest := []) (r1 := none) (h2 := hh S16) 4 (fun n => B_127_11 n x1 x2 x3 S14) (Ev.up (by decide) (T_120 S14 x1 (x2 + 2) (0 : Int32) (15 : Int32) _ _ h16)) ?_
      show Ev X _ 127 167 [.ref 29, .int x1, .int x2, .int x3] [] (hh S16) _
      obtain ⟨e1, e2⟩ := Prod.mk.inj (Option.some.inj hG)
      subst e1
      subst e2
      exact Ev.r 4 (fun n => rfl)
    · rw [if_neg c15] at hG
      refine Ev.f (c := v14 = 0) (p1 := 157) (L1 := [.ref 29, .int x1, .int x2, .int x3]) (s1 := [.int (x2 + 2), .int x1, .ref 29]) (h1 := hh S14) (p2 := 161) (L2 := [.ref 29, .int x1, .int x2, .int x3]) (s2 := [.int (x2 + 2), .int x1, .ref 29]) (h2 := hh S14) 1 (fun n => B_127_12 n x1 x2 x3 v14 S14) c15 ?_
      rcases h17 : G_120 S14 x1 (x2 + 2) (4 : Int32) (15 : Int32) with _ | ⟨v17, S17⟩
      · rw [h17] at hG; cases hG
      rw [h17] at hG
      dsimp only at hG
      refine Ev.c (a := 120) (A := [.ref 29, .int x1, .int (x2 + 2), .int 4, .int 15]) (h1 := hh S14) (pc' := 167) (L' := [.ref 29, .int x1, .int x2, .int x3]) (rest := []) (r1 := none) (h2 := hh S17) 3 (fun n => B_127_13 n x1 x2 x3 S14) (Ev.up (by decide) (T_120 S14 x1 (x2 + 2) (4 : Int32) (15 : Int32) _ _ h17)) ?_
      show Ev X _ 127 167 [.ref 29, .int x1, .int x2, .int x3] [] (hh S17) _
      obtain ⟨e1, e2⟩ := Prod.mk.inj (Option.some.inj hG)
      subst e1
      subst e2
      exact Ev.r 4 (fun n => rfl)
  rw [if_neg c13] at hG
  rw [xa_sw, if_neg c13]
  by_cases c18 : x3 = 17
  · rw [if_pos c18] at hG
    rw [xa_sw, if_pos c18]
    show Ev X _ 127 171 [.ref 29, .int x1, .int x2, .int x3] [] (hh S) _
    rcases h19 : G_120 S x1 (x2 + 2) (0 : Int32) (1 : Int32) with _ | ⟨v19, S19⟩
    · rw [h19] at hG; cases hG
    rw [h19] at hG
    dsimp only at hG
    refine Ev.c (a := 120) (A := [.ref 29, .int x1, .int (x2 + 2), .int 0, .int 1]) (h1 := hh S) (pc' := 181) (L' := [.ref 29, .int x1, .int x2, .int x3]) (rest := []) (r1 := none) (h2 := hh S19) 8 (fun n => B_127_14 n x1 x2 x3 S) (Ev.up (by decide) (T_120 S x1 (x2 + 2) (0 : Int32) (1 : Int32) _ _ h19)) ?_
    show Ev X _ 127 181 [.ref 29, .int x1, .int x2, .int x3] [] (hh S19) _
    obtain ⟨e1, e2⟩ := Prod.mk.inj (Option.some.inj hG)
    subst e1
    subst e2
    exact Ev.r 4 (fun n => rfl)
  rw [if_neg c18] at hG
  rw [xa_sw, if_neg c18]
  rw [xa_sw]
  show Ev X _ 127 185 [.ref 29, .int x1, .int x2, .int x3] [] (hh S) _
  obtain ⟨e1, e2⟩ := Prod.mk.inj (Option.some.inj hG)
  subst e1
  subst e2
  exact Ev.r 4 (fun n => rfl)
