/-- 1: java/lang/Math.min(II)I -/
def G_1 (S : St) (x0 : Int32) (x1 : Int32) : Option (Int32 × St) :=
  (if x1 < x0 then
    some (x1, S)
  else
    some (x0, S)
  )
theorem B_1_1 {X : Nat × (Nat → Int32)} {d : Nat} (n : Nat) (x0 : Int32) (x1 : Int32) (S : St) : ex X d 1 0 [.int x0, .int x1] [] (hh S) (n + 3) = if x1 < x0 then ex X d 1 9 [.int x0, .int x1] [] (hh S) n else ex X d 1 5 [.int x0, .int x1] [] (hh S) n := rfl
theorem B_1_2 {X : Nat × (Nat → Int32)} {d : Nat} (n : Nat) (x0 : Int32) (x1 : Int32) (S : St) : ex X d 1 0 [.int x0, .int x1] [] (hh S) (n + 3) = if x1 < x0 then ex X d 1 9 [.int x0, .int x1] [] (hh S) n else ex X d 1 5 [.int x0, .int x1] [] (hh S) n := rfl
set_option maxRecDepth 200000 in
theorem T_1 {X : Nat × (Nat → Int32)} (S : St) (x0 : Int32) (x1 : Int32) (r : Int32) (S' : St) (hG : G_1 S x0 x1 = some (r, S')) : Ev X 0 1 0 [.int x0, .int x1] [] (hh S) (xI r, hh S') := by
  unfold G_1 at hG
  by_cases c1 : x1 < x0
  · rw [if_pos c1] at hG
    refine Ev.t (c := x1 < x0) (p1 := 9) (L1 := [.int x0, .int x1]) (s1 := []) (h1 := hh S) (p2 := 5) (L2 := [.int x0, .int x1]) (s2 := []) (h2 := hh S) 3 (fun n => B_1_1 n x0 x1 S) c1 ?_
    obtain ⟨e1, e2⟩ := Prod.mk.inj (Option.some.inj hG)
    subst e1
    subst e2
    exact Ev.r 2 (fun n => rfl)
  · rw [if_neg c1] at hG
    refine Ev.f (c := x1 < x0) (p1 := 9) (L1 := [.int x0, .int x1]) (s1 := []) (h1 := hh S) (p2 := 5) (L2 := [.int x0, .int x1]) (s2 := []) (h2 := hh S) 3 (fun n => B_1_2 n x0 x1 S) c1 ?_
    obtain ⟨e1, e2⟩ := Prod.mk.inj (Option.some.inj hG)
    subst e1
    subst e2
    exact Ev.r 3 (fun n => rfl)
/-- 2: java/lang/Math.max(II)I -/
def G_2 (S : St) (x0 : Int32) (x1 : Int32) : Option (Int32 × St) :=
  (if x0 < x1 then
    some (x1, S)
  else
    some (x0, S)
  )
theorem B_2_1 {X : Nat × (Nat → Int32)} {d : Nat} (n : Nat) (x0 : Int32) (x1 : Int32) (S : St) : ex X d 2 0 [.int x0, .int x1] [] (hh S) (n + 3) = if x0 < x1 then ex X d 2 9 [.int x0, .int x1] [] (hh S) n else ex X d 2 5 [.int x0, .int x1] [] (hh S) n := rfl
theorem B_2_2 {X : Nat × (Nat → Int32)} {d : Nat} (n : Nat) (x0 : Int32) (x1 : Int32) (S : St) : ex X d 2 0 [.int x0, .int x1] [] (hh S) (n + 3) = if x0 < x1 then ex X d 2 9 [.int x0, .int x1] [] (hh S) n else ex X d 2 5 [.int x0, .int x1] [] (hh S) n := rfl
set_option maxRecDepth 200000 in
theorem T_2 {X : Nat × (Nat → Int32)} (S : St) (x0 : Int32) (x1 : Int32) (r : Int32) (S' : St) (hG : G_2 S x0 x1 = some (r, S')) : Ev X 0 2 0 [.int x0, .int x1] [] (hh S) (xI r, hh S') := by
  unfold G_2 at hG
  by_cases c1 : x0 < x1
  · rw [if_pos c1] at hG
    refine Ev.t (c := x0 < x1) (p1 := 9) (L1 := [.int x0, .int x1]) (s1 := []) (h1 := hh S) (p2 := 5) (L2 := [.int x0, .int x1]) (s2 := []) (h2 := hh S) 3 (fun n => B_2_1 n x0 x1 S) c1 ?_
    obtain ⟨e1, e2⟩ := Prod.mk.inj (Option.some.inj hG)
    subst e1
    subst e2
    exact Ev.r 2 (fun n => rfl)
  · rw [if_neg c1] at hG
    refine Ev.f (c := x0 < x1) (p1 := 9) (L1 := [.int x0, .int x1]) (s1 := []) (h1 := hh S) (p2 := 5) (L2 := [.int x0, .int x1]) (s2 := []) (h2 := hh S) 3 (fun n => B_2_2 n x0 x1 S) c1 ?_
    obtain ⟨e1, e2⟩ := Prod.mk.inj (Option.some.inj hG)
    subst e1
    subst e2
    exact Ev.r 3 (fun n => rfl)
/-- 3: java/lang/Math.abs(I)I -/
def G_3 (S : St) (x0 : Int32) : Option (Int32 × St) :=
  (if 0 ≤ x0 then
    some (x0, S)
  else
    some ((-x0), S)
  )
theorem B_3_1 {X : Nat × (Nat → Int32)} {d : Nat} (n : Nat) (x0 : Int32) (S : St) : ex X d 3 0 [.int x0] [] (hh S) (n + 2) = if 0 ≤ x0 then ex X d 3 9 [.int x0] [] (hh S) n else ex X d 3 4 [.int x0] [] (hh S) n := rfl
theorem B_3_2 {X : Nat × (Nat → Int32)} {d : Nat} (n : Nat) (x0 : Int32) (S : St) : ex X d 3 0 [.int x0] [] (hh S) (n + 2) = if 0 ≤ x0 then ex X d 3 9 [.int x0] [] (hh S) n else ex X d 3 4 [.int x0] [] (hh S) n := rfl
set_option maxRecDepth 200000 in
theorem T_3 {X : Nat × (Nat → Int32)} (S : St) (x0 : Int32) (r : Int32) (S' : St) (hG : G_3 S x0 = some (r, S')) : Ev X 0 3 0 [.int x0] [] (hh S) (xI r, hh S') := by
  unfold G_3 at hG
  by_cases c1 : 0 ≤ x0
  · rw [if_pos c1] at hG
    refine Ev.t (c := 0 ≤ x0) (p1 := 9) (L1 := [.int x0]) (s1 := []) (h1 := hh S) (p2 := 4) (L2 := [.int x0]) (s2 := []) (h2 := hh S) 2 (fun n => B_3_1 n x0 S) c1 ?_
    obtain ⟨e1, e2⟩ := Prod.mk.inj (Option.some.inj hG)
    subst e1
    subst e2
    exact Ev.r 2 (fun n => rfl)
  · rw [if_neg c1] at hG
    refine Ev.f (c := 0 ≤ x0) (p1 := 9) (L1 := [.int x0]) (s1 := []) (h1 := hh S) (p2 := 4) (L2 := [.int x0]) (s2 := []) (h2 := hh S) 2 (fun n => B_3_2 n x0 S) c1 ?_
    obtain ⟨e1, e2⟩ := Prod.mk.inj (Option.some.inj hG)
    subst e1
    subst e2
    exact Ev.r 4 (fun n => rfl)
/-- 4: java/lang/Math.floorDiv(II)I -/
def G_4 (S : St) (x0 : Int32) (x1 : Int32) : Option (Int32 × St) :=
  (if x1 = 0 then none else
    (if 0 ≤ (x0 ^^^ x1) then
      some ((x0 / x1), S)
    else
      (if ((x0 / x1) * x1) = x0 then
        some ((x0 / x1), S)
      else
        some (((x0 / x1) - 1), S)
      )
    )
  )
theorem B_4_1 {X : Nat × (Nat → Int32)} {d : Nat} (n : Nat) (x0 : Int32) (x1 : Int32) (S : St) : ex X d 4 0 [.int x0, .int x1, .retAddr 0] [] (hh S) (n + 3) = if x1 = 0 then none else ex X d 4 3 [.int x0, .int x1, .retAddr 0] [.int (x0 / x1)] (hh S) n := rfl
theorem B_4_2 {X : Nat × (Nat → Int32)} {d : Nat} (n : Nat) (x0 : Int32) (x1 : Int32) (S : St) : ex X d 4 3 [.int x0, .int x1, .retAddr 0] [.int (x0 / x1)] (hh S) (n + 5) = if 0 ≤ (x0 ^^^ x1) then ex X d 4 21 [.int x0, .int x1, .int (x0 / x1)] [] (hh S) n else ex X d 4 10 [.int x0, .int x1, .int (x0 / x1)] [] (hh S) n := rfl
theorem B_4_3 {X : Nat × (Nat → Int32)} {d : Nat} (n : Nat) (x0 : Int32) (x1 : Int32) (S : St) : ex X d 4 3 [.int x0, .int x1, .retAddr 0] [.int (x0 / x1)] (hh S) (n + 5) = if 0 ≤ (x0 ^^^ x1) then ex X d 4 21 [.int x0, .int x1, .int (x0 / x1)] [] (hh S) n else ex X d 4 10 [.int x0, .int x1, .int (x0 / x1)] [] (hh S) n := rfl
theorem B_4_4 {X : Nat × (Nat → Int32)} {d : Nat} (n : Nat) (x0 : Int32) (x1 : Int32) (S : St) : ex X d 4 10 [.int x0, .int x1, .int (x0 / x1)] [] (hh S) (n + 5) = if ((x0 / x1) * x1) = x0 then ex X d 4 21 [.int x0, .int x1, .int (x0 / x1)] [] (hh S) n else ex X d 4 17 [.int x0, .int x1, .int (x0 / x1)] [] (hh S) n := rfl
theorem B_4_5 {X : Nat × (Nat → Int32)} {d : Nat} (n : Nat) (x0 : Int32) (x1 : Int32) (S : St) : ex X d 4 10 [.int x0, .int x1, .int (x0 / x1)] [] (hh S) (n + 5) = if ((x0 / x1) * x1) = x0 then ex X d 4 21 [.int x0, .int x1, .int (x0 / x1)] [] (hh S) n else ex X d 4 17 [.int x0, .int x1, .int (x0 / x1)] [] (hh S) n := rfl
set_option maxRecDepth 200000 in
theorem T_4 {X : Nat × (Nat → Int32)} (S : St) (x0 : Int32) (x1 : Int32) (r : Int32) (S' : St) (hG : G_4 S x0 x1 = some (r, S')) : Ev X 0 4 0 [.int x0, .int x1, .retAddr 0] [] (hh S) (xI r, hh S') := by
  unfold G_4 at hG
  by_cases g1 : x1 = 0
  · rw [if_pos g1] at hG; cases hG
  rw [if_neg g1] at hG
  refine Ev.z (c := x1 = 0) (p1 := 3) (L1 := [.int x0, .int x1, .retAddr 0]) (s1 := [.int (x0 / x1)]) (h1 := hh S) 3 (fun n => B_4_1 n x0 x1 S) g1 ?_
  by_cases c2 : 0 ≤ (x0 ^^^ x1)
  · rw [if_pos c2] at hG
    refine Ev.t (c := 0 ≤ (x0 ^^^ x1)) (p1 := 21) (L1 := [.int x0, .int x1, .int (x0 / x1)]) (s1 := []) (h1 := hh S) (p2 := 10) (L2 := [.int x0, .int x1, .int (x0 / x1)]) (s2 := []) (h2 := hh S) 5 (fun n => B_4_2 n x0 x1 S) c2 ?_
    obtain ⟨e1, e2⟩ := Prod.mk.inj (Option.some.inj hG)
    subst e1
    subst e2
    exact Ev.r 2 (fun n => rfl)
  · rw [if_neg c2] at hG
    refine Ev.f (c := 0 ≤ (x0 ^^^ x1)) (p1 := 21) (L1 := [.int x0, .int x1, .int (x0 / x1)]) (s1 := []) (h1 := hh S) (p2 := 10) (L2 := [.int x0, .int x1, .int (x0 / x1)]) (s2 := []) (h2 := hh S) 5 (fun n => B_4_3 n x0 x1 S) c2 ?_
    by_cases c3 : ((x0 / x1) * x1) = x0
    · rw [if_pos c3] at hG
      refine Ev.t (c := ((x0 / x1) * x1) = x0) (p1 := 21) (L1 := [.int x0, .int x1, .int (x0 / x1)]) (s1 := []) (h1 := hh S) (p2 := 17) (L2 := [.int x0, .int x1, .int (x0 / x1)]) (s2 := []) (h2 := hh S) 5 (fun n => B_4_4 n x0 x1 S) c3 ?_
      obtain ⟨e1, e2⟩ := Prod.mk.inj (Option.some.inj hG)
      subst e1
      subst e2
      exact Ev.r 2 (fun n => rfl)
    · rw [if_neg c3] at hG
      refine Ev.f (c := ((x0 / x1) * x1) = x0) (p1 := 21) (L1 := [.int x0, .int x1, .int (x0 / x1)]) (s1 := []) (h1 := hh S) (p2 := 17) (L2 := [.int x0, .int x1, .int (x0 / x1)]) (s2 := []) (h2 := hh S) 5 (fun n => B_4_5 n x0 x1 S) c3 ?_
      obtain ⟨e1, e2⟩ := Prod.mk.inj (Option.some.inj hG)
      subst e1
      subst e2
      exact Ev.r 4 (fun n => rfl)
/-- 5: java/util/Arrays.fill([II)V -/
def GL_5_0 : Nat → St → Nat → Int32 → Int32 → Int32 → Option (Unit × St)
  | 0, _, _, _, _, _ => none
  | n + 1, S, y0, y1, y2, y3 =>
    (if y3 ≤ y2 then
      some ((), S)
    else
      (if ((kd y0).1 = 0 ∧ xa_in y2 (kd y0).2) then
        GL_5_0 n (xa_u S.1 y0 ((y2).toNatClampNeg) y1, S.2.1, S.2.2) y0 y1 (y2 + 1) y3
      else none)
    )
theorem B_5_1 {X : Nat × (Nat → Int32)} {d : Nat} (n : Nat) (y0 : Nat) (y1 : Int32) (y2 : Int32) (y3 : Int32) (S : St) : ex X d 5 5 [.ref y0, .int y1, .int y2, .int y3] [] (hh S) (n + 3) = if y3 ≤ y2 then ex X d 5 20 [.ref y0, .int y1, .int y2, .int y3] [] (hh S) n else ex X d 5 10 [.ref y0, .int y1, .int y2, .int y3] [] (hh S) n := rfl
theorem B_5_2 {X : Nat × (Nat → Int32)} {d : Nat} (n : Nat) (y0 : Nat) (y1 : Int32) (y2 : Int32) (y3 : Int32) (S : St) : ex X d 5 5 [.ref y0, .int y1, .int y2, .int y3] [] (hh S) (n + 3) = if y3 ≤ y2 then ex X d 5 20 [.ref y0, .int y1, .int y2, .int y3] [] (hh S) n else ex X d 5 10 [.ref y0, .int y1, .int y2, .int y3] [] (hh S) n := rfl
theorem B_5_3 {X : Nat × (Nat → Int32)} {d : Nat} (n : Nat) (y0 : Nat) (y1 : Int32) (y2 : Int32) (y3 : Int32) (S : St) : ex X d 5 10 [.ref y0, .int y1, .int y2, .int y3] [] (hh S) (n + 4) = if (kd y0).1 = 0 ∧ xa_in y2 (kd y0).2 then ex X d 5 14 [.ref y0, .int y1, .int y2, .int y3] [] (hh (xa_u S.1 y0 ((y2).toNatClampNeg) y1, S.2.1, S.2.2)) n else none := rfl
theorem B_5_4 {X : Nat × (Nat → Int32)} {d : Nat} (n : Nat) (y0 : Nat) (y1 : Int32) (y2 : Int32) (y3 : Int32) (S : St) : ex X d 5 14 [.ref y0, .int y1, .int y2, .int y3] [] (hh (xa_u S.1 y0 ((y2).toNatClampNeg) y1, S.2.1, S.2.2)) (n + 2) = ex X d 5 5 [.ref y0, .int y1, .int (y2 + 1), .int y3] [] (hh (xa_u S.1 y0 ((y2).toNatClampNeg) y1, S.2.1, S.2.2)) n := rfl
set_option maxRecDepth 200000 in
theorem TL_5_0 {X : Nat × (Nat → Int32)} : ∀ (n : Nat) (S : St) (y0 : Nat) (y1 : Int32) (y2 : Int32) (y3 : Int32) (r : Unit) (S' : St), GL_5_0 n S y0 y1 y2 y3 = some (r, S') → Ev X 0 5 5 [.ref y0, .int y1, .int y2, .int y3] [] (hh S) (xV r, hh S') := by
  intro n
  induction n with
  | zero => intro S y0 y1 y2 y3 r S' hG; simp [GL_5_0] at hG
  | succ n ih =>
    intro S y0 y1 y2 y3 r S' hG
    rw [GL_5_0] at hG
    by_cases c1 : y3 ≤ y2
    · rw [if_pos c1] at hG
      refine Ev.t (c := y3 ≤ y2) (p1 := 20) (L1 := [.ref y0, .int y1, .int y2, .int y3]) (s1 := []) (h1 := hh S) (p2 := 10) (L2 := [.ref y0, .int y1, .int y2, .int y3]) (s2 := []) (h2 := hh S) 3 (fun n => B_5_1 n y0 y1 y2 y3 S) c1 ?_
      obtain ⟨e1, e2⟩ := Prod.mk.inj (Option.some.inj hG)
      subst e1
      subst e2
      exact Ev.r 1 (fun n => rfl)
    · rw [if_neg c1] at hG
      refine Ev.f (c := y3 ≤ y2) (p1 := 20) (L1 := [.ref y0, .int y1, .int y2, .int y3]) (s1 := []) (h1 := hh S) (p2 := 10) (L2 := [.ref y0, .int y1, .int y2, .int y3]) (s2 := []) (h2 := hh S) 3 (fun n => B_5_2 n y0 y1 y2 y3 S) c1 ?_
      by_cases g2 : ((kd y0).1 = 0 ∧ xa_in y2 (kd y0).2)
      rotate_left
      · rw [if_neg g2] at hG; cases hG
      rw [if_pos g2] at hG
      refine Ev.g (c := (kd y0).1 = 0 ∧ xa_in y2 (kd y0).2) (p1 := 14) (L1 := [.ref y0, .int y1, .int y2, .int y3]) (s1 := []) (h1 := hh (xa_u S.1 y0 ((y2).toNatClampNeg) y1, S.2.1, S.2.2)) 4 (fun n => B_5_3 n y0 y1 y2 y3 S) (⟨g2.1, g2.2⟩) ?_
      exact Ev.b (pc' := 5) (L' := [.ref y0, .int y1, .int (y2 + 1), .int y3]) (st' := []) (h' := hh (xa_u S.1 y0 ((y2).toNatClampNeg) y1, S.2.1, S.2.2)) 2 (fun n => B_5_4 n y0 y1 y2 y3 S) (ih (xa_u S.1 y0 ((y2).toNatClampNeg) y1, S.2.1, S.2.2) y0 y1 (y2 + 1) y3 _ _ hG )
def G_5 (S : St) (x0 : Nat) (x1 : Int32) : Option (Unit × St) :=
  (if (kd x0).1 < 2 then
    GL_5_0 xFu S x0 x1 (0 : Int32) (Int32.ofNat (kd x0).2)
  else none)
theorem B_5_5 {X : Nat × (Nat → Int32)} {d : Nat} (n : Nat) (x0 : Nat) (x1 : Int32) (S : St) : ex X d 5 4 [.ref x0, .int x1, .int 0, .retAddr 0] [.int (Int32.ofNat (kd x0).2)] (hh S) (n + 1) = ex X d 5 5 [.ref x0, .int x1, .int 0, .int (Int32.ofNat (kd x0).2)] [] (hh S) n := rfl
set_option maxRecDepth 200000 in
theorem T_5 {X : Nat × (Nat → Int32)} (S : St) (x0 : Nat) (x1 : Int32) (r : Unit) (S' : St) (hG : G_5 S x0 x1 = some (r, S')) : Ev X 0 5 0 [.ref x0, .int x1, .retAddr 0, .retAddr 0] [] (hh S) (xV r, hh S') := by
  unfold G_5 at hG
  by_cases g3 : (kd x0).1 < 2
  rotate_left
  · rw [if_neg g3] at hG; cases hG
  rw [if_pos g3] at hG
  refine Ev.gl (c := (kd x0).1 < 2) (p1 := 4) (L1 := [.ref x0, .int x1, .int 0, .retAddr 0]) (s1 := [.int (Int32.ofNat (kd x0).2)]) (h1 := hh S) 4 (fun n => rfl) (kd_le g3) g3 ?_
  exact Ev.b (pc' := 5) (L' := [.ref x0, .int x1, .int 0, .int (Int32.ofNat (kd x0).2)]) (st' := []) (h' := hh S) 1 (fun n => B_5_5 n x0 x1 S) (TL_5_0 xFu S x0 x1 (0 : Int32) (Int32.ofNat (kd x0).2) _ _ hG )
/-- 12: SceneCycle$Actor.steer(I)V -/
def G_12 (S : St) (x0 : Nat) (x1 : Int32) : Option (Unit × St) :=
  (if x1 = 0 then
    some ((), S)
  else
    (if (kd x0).1 = 10 + 0 then
      (if (S.1 x0 5) = 0 then
        (if (S.1 x0 4) = x1 then
          some ((), (xa_u S.1 x0 4 0, S.2.1, S.2.2))
        else
          some ((), (xa_u S.1 x0 4 x1, S.2.1, S.2.2))
        )
      else
        some ((), S)
      )
    else none)
  )
theorem B_12_1 {X : Nat × (Nat → Int32)} {d : Nat} (n : Nat) (x0 : Nat) (x1 : Int32) (S : St) : ex X d 12 0 [.ref x0, .int x1] [] (hh S) (n + 2) = if x1 = 0 then ex X d 12 28 [.ref x0, .int x1] [] (hh S) n else ex X d 12 4 [.ref x0, .int x1] [] (hh S) n := rfl
theorem B_12_2 {X : Nat × (Nat → Int32)} {d : Nat} (n : Nat) (x0 : Nat) (x1 : Int32) (S : St) : ex X d 12 0 [.ref x0, .int x1] [] (hh S) (n + 2) = if x1 = 0 then ex X d 12 28 [.ref x0, .int x1] [] (hh S) n else ex X d 12 4 [.ref x0, .int x1] [] (hh S) n := rfl
theorem B_12_3 {X : Nat × (Nat → Int32)} {d : Nat} (n : Nat) (x0 : Nat) (x1 : Int32) (S : St) : ex X d 12 4 [.ref x0, .int x1] [] (hh S) (n + 2) = if (kd x0).1 = 10 + 0 then ex X d 12 8 [.ref x0, .int x1] [.int (S.1 x0 5)] (hh S) n else none := rfl
theorem B_12_4 {X : Nat × (Nat → Int32)} {d : Nat} (n : Nat) (x0 : Nat) (x1 : Int32) (S : St) : ex X d 12 8 [.ref x0, .int x1] [.int (S.1 x0 5)] (hh S) (n + 1) = if (S.1 x0 5) = 0 then ex X d 12 11 [.ref x0, .int x1] [] (hh S) n else ex X d 12 28 [.ref x0, .int x1] [] (hh S) n := rfl
theorem B_12_5 {X : Nat × (Nat → Int32)} {d : Nat} (n : Nat) (x0 : Nat) (x1 : Int32) (S : St) : ex X d 12 11 [.ref x0, .int x1] [] (hh S) (n + 3) = if (kd x0).1 = 10 + 0 then ex X d 12 16 [.ref x0, .int x1] [.int (S.1 x0 4), .ref x0] (hh S) n else none := rfl
theorem B_12_6 {X : Nat × (Nat → Int32)} {d : Nat} (n : Nat) (x0 : Nat) (x1 : Int32) (S : St) : ex X d 12 16 [.ref x0, .int x1] [.int (S.1 x0 4), .ref x0] (hh S) (n + 2) = if (S.1 x0 4) = x1 then ex X d 12 20 [.ref x0, .int x1] [.ref x0] (hh S) n else ex X d 12 24 [.ref x0, .int x1] [.ref x0] (hh S) n := rfl
theorem B_12_7 {X : Nat × (Nat → Int32)} {d : Nat} (n : Nat) (x0 : Nat) (x1 : Int32) (S : St) : ex X d 12 20 [.ref x0, .int x1] [.ref x0] (hh S) (n + 3) = if (kd x0).1 = 10 + 0 ∧ (xf_k 0 4 = 0 ∨ (xf_k 0 4 = 1 ∧ ((0 : Int32) = 0 ∨ (0 : Int32) = 1))) then ex X d 12 28 [.ref x0, .int x1] [] (hh (xa_u S.1 x0 4 0, S.2.1, S.2.2)) n else none := rfl
theorem B_12_8 {X : Nat × (Nat → Int32)} {d : Nat} (n : Nat) (x0 : Nat) (x1 : Int32) (S : St) : ex X d 12 16 [.ref x0, .int x1] [.int (S.1 x0 4), .ref x0] (hh S) (n + 2) = if (S.1 x0 4) = x1 then ex X d 12 20 [.ref x0, .int x1] [.ref x0] (hh S) n else ex X d 12 24 [.ref x0, .int x1] [.ref x0] (hh S) n := rfl
theorem B_12_9 {X : Nat × (Nat → Int32)} {d : Nat} (n : Nat) (x0 : Nat) (x1 : Int32) (S : St) : ex X d 12 24 [.ref x0, .int x1] [.ref x0] (hh S) (n + 2) = if (kd x0).1 = 10 + 0 ∧ (xf_k 0 4 = 0 ∨ (xf_k 0 4 = 1 ∧ (x1 = 0 ∨ x1 = 1))) then ex X d 12 28 [.ref x0, .int x1] [] (hh (xa_u S.1 x0 4 x1, S.2.1, S.2.2)) n else none := rfl
theorem B_12_10 {X : Nat × (Nat → Int32)} {d : Nat} (n : Nat) (x0 : Nat) (x1 : Int32) (S : St) : ex X d 12 8 [.ref x0, .int x1] [.int (S.1 x0 5)] (hh S) (n + 1) = if (S.1 x0 5) = 0 then ex X d 12 11 [.ref x0, .int x1] [] (hh S) n else ex X d 12 28 [.ref x0, .int x1] [] (hh S) n := rfl
set_option maxRecDepth 200000 in
theorem T_12 {X : Nat × (Nat → Int32)} (S : St) (x0 : Nat) (x1 : Int32) (r : Unit) (S' : St) (hG : G_12 S x0 x1 = some (r, S')) : Ev X 0 12 0 [.ref x0, .int x1] [] (hh S) (xV r, hh S') := by
  unfold G_12 at hG
  by_cases c1 : x1 = 0
  · rw [if_pos c1] at hG
    refine Ev.t (c := x1 = 0) (p1 := 28) (L1 := [.ref x0, .int x1]) (s1 := []) (h1 := hh S) (p2 := 4) (L2 := [.ref x0, .int x1]) (s2 := []) (h2 := hh S) 2 (fun n => B_12_1 n x0 x1 S) c1 ?_
    obtain ⟨e1, e2⟩ := Prod.mk.inj (Option.some.inj hG)
    subst e1
    subst e2
    exact Ev.r 1 (fun n => rfl)
  · rw [if_neg c1] at hG
    refine Ev.f (c := x1 = 0) (p1 := 28) (L1 := [.ref x0, .int x1]) (s1 := []) (h1 := hh S) (p2 := 4) (L2 := [.ref x0, .int x1]) (s2 := []) (h2 := hh S) 2 (fun n => B_12_2 n x0 x1 S) c1 ?_
    by_cases g2 : (kd x0).1 = 10 + 0
    rotate_left
    · rw [if_neg g2] at hG; cases hG
    rw [if_pos g2] at hG
    refine Ev.g (c := (kd x0).1 = 10 + 0) (p1 := 8) (L1 := [.ref x0, .int x1]) (s1 := [.int (S.1 x0 5)]) (h1 := hh S) 2 (fun n => B_12_3 n x0 x1 S) g2 ?_
    by_cases c3 : (S.1 x0 5) = 0
    · rw [if_pos c3] at hG
      refine Ev.t (c := (S.1 x0 5) = 0) (p1 := 11) (L1 := [.ref x0, .int x1]) (s1 := []) (h1 := hh S) (p2 := 28) (L2 := [.ref x0, .int x1]) (s2 := []) (h2 := hh S) 1 (fun n => B_12_4 n x0 x1 S) c3 ?_
      refine Ev.g (c := (kd x0).1 = 10 + 0) (p1 := 16) (L1 := [.ref x0, .int x1]) (s1 := [.int (S.1 x0 4), .ref x0]) (h1 := hh S) 3 (fun n => B_12_5 n x0 x1 S) g2 ?_
      by_cases c4 : (S.1 x0 4) = x1
      · rw [if_pos c4] at hG
        refine Ev.t (c := (S.1 x0 4) = x1) (p1 := 20) (L1 := [.ref x0, .int x1]) (s1 := [.ref x0]) (h1 := hh S) (p2 := 24) (L2 := [.ref x0, .int x1]) (s2 := [.ref x0]) (h2 := hh S) 2 (fun n => B_12_6 n x0 x1 S) c4 ?_
        refine Ev.g (c := (kd x0).1 = 10 + 0 ∧ (xf_k 0 4 = 0 ∨ (xf_k 0 4 = 1 ∧ ((0 : Int32) = 0 ∨ (0 : Int32) = 1)))) (p1 := 28) (L1 := [.ref x0, .int x1]) (s1 := []) (h1 := hh (xa_u S.1 x0 4 0, S.2.1, S.2.2)) 3 (fun n => B_12_7 n x0 x1 S) (⟨g2, Or.inl rfl⟩) ?_
        obtain ⟨e1, e2⟩ := Prod.mk.inj (Option.some.inj hG)
        subst e1
        subst e2
        exact Ev.r 1 (fun n => rfl)
      · rw [if_neg c4] at hG
        refine Ev.f (c := (S.1 x0 4) = x1) (p1 := 20) (L1 := [.ref x0, .int x1]) (s1 := [.ref x0]) (h1 := hh S) (p2 := 24) (L2 := [.ref x0, .int x1]) (s2 := [.ref x0]) (h2 := hh S) 2 (fun n => B_12_8 n x0 x1 S) c4 ?_
        refine Ev.g (c := (kd x0).1 = 10 + 0 ∧ (xf_k 0 4 = 0 ∨ (xf_k 0 4 = 1 ∧ (x1 = 0 ∨ x1 = 1)))) (p1 := 28) (L1 := [.ref x0, .int x1]) (s1 := []) (h1 := hh (xa_u S.1 x0 4 x1, S.2.1, S.2.2)) 2 (fun n => B_12_9 n x0 x1 S) (⟨g2, Or.inl rfl⟩) ?_
        obtain ⟨e1, e2⟩ := Prod.mk.inj (Option.some.inj hG)
        subst e1
        subst e2
        exact Ev.r 1 (fun n => rfl)
    · rw [if_neg c3] at hG
      refine Ev.f (c := (S.1 x0 5) = 0) (p1 := 11) (L1 := [.ref x0, .int x1]) (s1 := []) (h1 := hh S) (p2 := 28) (L2 := [.ref x0, .int x1]) (s2 := []) (h2 := hh S) 1 (fun n => B_12_10 n x0 x1 S) c3 ?_
      obtain ⟨e1, e2⟩ := Prod.mk.inj (Option.some.inj hG)
      subst e1
      subst e2
      exact Ev.r 1 (fun n => rfl)
/-- 13: SceneCycle$Actor.baseWithin(IIII)Z -/
def G_13 (S : St) (x0 : Nat) (x1 : Int32) (x2 : Int32) (x3 : Int32) (x4 : Int32) : Option (Int32 × St) :=
  (if (kd x0).1 = 10 + 0 then
    (if (S.1 x0 0) < x1 then
      some (0, S)
    else
      (if x3 < (((S.1 x0 0) + (S.1 x0 2)) - 1) then
        some (0, S)
      else
        (if (S.1 x0 1) < x2 then
          some (0, S)
        else
          (if x4 < (S.1 x0 1) then
            some (0, S)
          else
            some (1, S)
          )
        )
      )
    )
  else none)
theorem B_13_1 {X : Nat × (Nat → Int32)} {d : Nat} (n : Nat) (x0 : Nat) (x1 : Int32) (x2 : Int32) (x3 : Int32) (x4 : Int32) (S : St) : ex X d 13 0 [.ref x0, .int x1, .int x2, .int x3, .int x4] [] (hh S) (n + 2) = if (kd x0).1 = 10 + 0 then ex X d 13 4 [.ref x0, .int x1, .int x2, .int x3, .int x4] [.int (S.1 x0 0)] (hh S) n else none := rfl
theorem B_13_2 {X : Nat × (Nat → Int32)} {d : Nat} (n : Nat) (x0 : Nat) (x1 : Int32) (x2 : Int32) (x3 : Int32) (x4 : Int32) (S : St) : ex X d 13 4 [.ref x0, .int x1, .int x2, .int x3, .int x4] [.int (S.1 x0 0)] (hh S) (n + 2) = if (S.1 x0 0) < x1 then ex X d 13 44 [.ref x0, .int x1, .int x2, .int x3, .int x4] [] (hh S) n else ex X d 13 8 [.ref x0, .int x1, .int x2, .int x3, .int x4] [] (hh S) n := rfl
theorem B_13_3 {X : Nat × (Nat → Int32)} {d : Nat} (n : Nat) (x0 : Nat) (x1 : Int32) (x2 : Int32) (x3 : Int32) (x4 : Int32) (S : St) : ex X d 13 4 [.ref x0, .int x1, .int x2, .int x3, .int x4] [.int (S.1 x0 0)] (hh S) (n + 2) = if (S.1 x0 0) < x1 then ex X d 13 44 [.ref x0, .int x1, .int x2, .int x3, .int x4] [] (hh S) n else ex X d 13 8 [.ref x0, .int x1, .int x2, .int x3, .int x4] [] (hh S) n := rfl
theorem B_13_4 {X : Nat × (Nat → Int32)} {d : Nat} (n : Nat) (x0 : Nat) (x1 : Int32) (x2 : Int32) (x3 : Int32) (x4 : Int32) (S : St) : ex X d 13 8 [.ref x0, .int x1, .int x2, .int x3, .int x4] [] (hh S) (n + 2) = if (kd x0).1 = 10 + 0 then ex X d 13 12 [.ref x0, .int x1, .int x2, .int x3, .int x4] [.int (S.1 x0 0)] (hh S) n else none := rfl
theorem B_13_5 {X : Nat × (Nat → Int32)} {d : Nat} (n : Nat) (x0 : Nat) (x1 : Int32) (x2 : Int32) (x3 : Int32) (x4 : Int32) (S : St) : ex X d 13 12 [.ref x0, .int x1, .int x2, .int x3, .int x4] [.int (S.1 x0 0)] (hh S) (n + 2) = if (kd x0).1 = 10 + 0 then ex X d 13 16 [.ref x0, .int x1, .int x2, .int x3, .int x4] [.int (S.1 x0 2), .int (S.1 x0 0)] (hh S) n else none := rfl
theorem B_13_6 {X : Nat × (Nat → Int32)} {d : Nat} (n : Nat) (x0 : Nat) (x1 : Int32) (x2 : Int32) (x3 : Int32) (x4 : Int32) (S : St) : ex X d 13 16 [.ref x0, .int x1, .int x2, .int x3, .int x4] [.int (S.1 x0 2), .int (S.1 x0 0)] (hh S) (n + 5) = if x3 < (((S.1 x0 0) + (S.1 x0 2)) - 1) then ex X d 13 44 [.ref x0, .int x1, .int x2, .int x3, .int x4] [] (hh S) n else ex X d 13 23 [.ref x0, .int x1, .int x2, .int x3, .int x4] [] (hh S) n := rfl
theorem B_13_7 {X : Nat × (Nat → Int32)} {d : Nat} (n : Nat) (x0 : Nat) (x1 : Int32) (x2 : Int32) (x3 : Int32) (x4 : Int32) (S : St) : ex X d 13 16 [.ref x0, .int x1, .int x2, .int x3, .int x4] [.int (S.1 x0 2), .int (S.1 x0 0)] (hh S) (n + 5) = if x3 < (((S.1 x0 0) + (S.1 x0 2)) - 1) then ex X d 13 44 [.ref x0, .int x1, .int x2, .int x3, .int x4] [] (hh S) n else ex X d 13 23 [.ref x0, .int x1, .int x2, .int x3, .int x4] [] (hh S) n := rfl
theorem B_13_8 {X : Nat × (Nat → Int32)} {d : Nat} (n : Nat) (x0 : Nat) (x1 : Int32) (x2 : Int32) (x3 : Int32) (x4 : Int32) (S : St) : ex X d 13 23 [.ref x0, .int x1, .int x2, .int x3, .int x4] [] (hh S) (n + 2) = if (kd x0).1 = 10 + 0 then ex X d 13 27 [.ref x0, .int x1, .int x2, .int x3, .int x4] [.int (S.1 x0 1)] (hh S) n else none := rfl
theorem B_13_9 {X : Nat × (Nat → Int32)} {d : Nat} (n : Nat) (x0 : Nat) (x1 : Int32) (x2 : Int32) (x3 : Int32) (x4 : Int32) (S : St) : ex X d 13 27 [.ref x0, .int x1, .int x2, .int x3, .int x4] [.int (S.1 x0 1)] (hh S) (n + 2) = if (S.1 x0 1) < x2 then ex X d 13 44 [.ref x0, .int x1, .int x2, .int x3, .int x4] [] (hh S) n else ex X d 13 31 [.ref x0, .int x1, .int x2, .int x3, .int x4] [] (hh S) n := rfl
theorem B_13_10 {X : Nat × (Nat → Int32)} {d : Nat} (n : Nat) (x0 : Nat) (x1 : Int32) (x2 : Int32) (x3 : Int32) (x4 : Int32) (S : St) : ex X d 13 27 [.ref x0, .int x1, .int x2, .int x3, .int x4] [.int (S.1 x0 1)] (hh S) (n + 2) = if (S.1 x0 1) < x2 then ex X d 13 44 [.ref x0, .int x1, .int x2, .int x3, .int x4] [] (hh S) n else ex X d 13 31 [.ref x0, .int x1, .int x2, .int x3, .int x4] [] (hh S) n := rfl
theorem B_13_11 {X : Nat × (Nat → Int32)} {d : Nat} (n : Nat) (x0 : Nat) (x1 : Int32) (x2 : Int32) (x3 : Int32) (x4 : Int32) (S : St) : ex X d 13 31 [.ref x0, .int x1, .int x2, .int x3, .int x4] [] (hh S) (n + 2) = if (kd x0).1 = 10 + 0 then ex X d 13 35 [.ref x0, .int x1, .int x2, .int x3, .int x4] [.int (S.1 x0 1)] (hh S) n else none := rfl
theorem B_13_12 {X : Nat × (Nat → Int32)} {d : Nat} (n : Nat) (x0 : Nat) (x1 : Int32) (x2 : Int32) (x3 : Int32) (x4 : Int32) (S : St) : ex X d 13 35 [.ref x0, .int x1, .int x2, .int x3, .int x4] [.int (S.1 x0 1)] (hh S) (n + 2) = if x4 < (S.1 x0 1) then ex X d 13 44 [.ref x0, .int x1, .int x2, .int x3, .int x4] [] (hh S) n else ex X d 13 40 [.ref x0, .int x1, .int x2, .int x3, .int x4] [] (hh S) n := rfl
theorem B_13_13 {X : Nat × (Nat → Int32)} {d : Nat} (n : Nat) (x0 : Nat) (x1 : Int32) (x2 : Int32) (x3 : Int32) (x4 : Int32) (S : St) : ex X d 13 35 [.ref x0, .int x1, .int x2, .int x3, .int x4] [.int (S.1 x0 1)] (hh S) (n + 2) = if x4 < (S.1 x0 1) then ex X d 13 44 [.ref x0, .int x1, .int x2, .int x3, .int x4] [] (hh S) n else ex X d 13 40 [.ref x0, .int x1, .int x2, .int x3, .int x4] [] (hh S) n := rfl
set_option maxRecDepth 200000 in
theorem T_13 {X : Nat × (Nat → Int32)} (S : St) (x0 : Nat) (x1 : Int32) (x2 : Int32) (x3 : Int32) (x4 : Int32) (r : Int32) (S' : St) (hG : G_13 S x0 x1 x2 x3 x4 = some (r, S')) : Ev X 0 13 0 [.ref x0, .int x1, .int x2, .int x3, .int x4] [] (hh S) (xI r, hh S') := by
  unfold G_13 at hG
  by_cases g1 : (kd x0).1 = 10 + 0
  rotate_left
  · rw [if_neg g1] at hG; cases hG
  rw [if_pos g1] at hG
  refine Ev.g (c := (kd x0).1 = 10 + 0) (p1 := 4) (L1 := [.ref x0, .int x1, .int x2, .int x3, .int x4]) (s1 := [.int (S.1 x0 0)]) (h1 := hh S) 2 (fun n => B_13_1 n x0 x1 x2 x3 x4 S) g1 ?_
  by_cases c2 : (S.1 x0 0) < x1
  · rw [if_pos c2] at hG
    refine Ev.t (c := (S.1 x0 0) < x1) (p1 := 44) (L1 := [.ref x0, .int x1, .int x2, .int x3, .int x4]) (s1 := []) (h1 := hh S) (p2 := 8) (L2 := [.ref x0, .int x1, .int x2, .int x3, .int x4]) (s2 := []) (h2 := hh S) 2 (fun n => B_13_2 n x0 x1 x2 x3 x4 S) c2 ?_
    obtain ⟨e1, e2⟩ := Prod.mk.inj (Option.some.inj hG)
    subst e1
    subst e2
    exact Ev.rg (c := (xm_z 13 = 0 ∨ (xm_z 13 = 1 ∧ ((0 : Int32) = 0 ∨ (0 : Int32) = 1)) ∨ (xm_z 13 = 2 ∧ ((0 : Int32)).toInt8.toInt32 = (0 : Int32)) ∨ (xm_z 13 = 3 ∧ ((0 : Int32)).toUInt32.toUInt16.toUInt32.toInt32 = (0 : Int32)))) 2 (fun n => rfl) (Or.inr (Or.inl ⟨rfl, by decide⟩))
  · rw [if_neg c2] at hG
    refine Ev.f (c := (S.1 x0 0) < x1) (p1 := 44) (L1 := [.ref x0, .int x1, .int x2, .int x3, .int x4]) (s1 := []) (h1 := hh S) (p2 := 8) (L2 := [.ref x0, .int x1, .int x2, .int x3, .int x4]) (s2 := []) (h2 := hh S) 2 (fun n => B_13_3 n x0 x1 x2 x3 x4 S) c2 ?_
    refine Ev.g (c := (kd x0).1 = 10 + 0) (p1 := 12) (L1 := [.ref x0, .int x1, .int x2, .int x3, .int x4]) (s1 := [.int (S.1 x0 0)]) (h1 := hh S) 2 (fun n => B_13_4 n x0 x1 x2 x3 x4 S) g1 ?_
    refine Ev.g (c := (kd x0).1 = 10 + 0) (p1 := 16) (L1 := [.ref x0, .int x1, .int x2, .int x3, .int x4]) (s1 := [.int (S.1 x0 2), .int (S.1 x0 0)]) (h1 := hh S) 2 (fun n => B_13_5 n x0 x1 x2 x3 x4 S) g1 ?_
    by_cases c3 : x3 < (((S.1 x0 0) + (S.1 x0 2)) - 1)
    · rw [if_pos c3] at hG
      refine Ev.t (c := x3 < (((S.1 x0 0) + (S.1 x0 2)) - 1)) (p1 := 44) (L1 := [.ref x0, .int x1, .int x2, .int x3, .int x4]) (s1 := []) (h1 := hh S) (p2 := 23) (L2 := [.ref x0, .int x1, .int x2, .int x3, .int x4]) (s2 := []) (h2 := hh S) 5 (fun n => B_13_6 n x0 x1 x2 x3 x4 S) c3 ?_
      obtain ⟨e1, e2⟩ := Prod.mk.inj (Option.some.inj hG)
      subst e1
      subst e2
      exact Ev.rg (c := (xm_z 13 = 0 ∨ (xm_z 13 = 1 ∧ ((0 : Int32) = 0 ∨ (0 : Int32) = 1)) ∨ (xm_z 13 = 2 ∧ ((0 : Int32)).toInt8.toInt32 = (0 : Int32)) ∨ (xm_z 13 = 3 ∧ ((0 : Int32)).toUInt32.toUInt16.toUInt32.toInt32 = (0 : Int32)))) 2 (fun n => rfl) (Or.inr (Or.inl ⟨rfl, by decide⟩))
    · rw [if_neg c3] at hG
      refine Ev.f (c := x3 < (((S.1 x0 0) + (S.1 x0 2)) - 1)) (p1 := 44) (L1 := [.ref x0, .int x1, .int x2, .int x3, .int x4]) (s1 := []) (h1 := hh S) (p2 := 23) (L2 := [.ref x0, .int x1, .int x2, .int x3, .int x4]) (s2 := []) (h2 := hh S) 5 (fun n => B_13_7 n x0 x1 x2 x3 x4 S) c3 ?_
      refine Ev.g (c := (kd x0).1 = 10 + 0) (p1 := 27) (L1 := [.ref x0, .int x1, .int x2, .int x3, .int x4]) (s1 := [.int (S.1 x0 1)]) (h1 := hh S) 2 (fun n => B_13_8 n x0 x1 x2 x3 x4 S) g1 ?_
      by_cases c4 : (S.1 x0 1) < x2
      · rw [if_pos c4] at hG
        refine Ev.t (c := (S.1 x0 1) < x2) (p1 := 44) (L1 := [.ref x0, .int x1, .int x2, .int x3, .int x4]) (s1 := []) (h1 := hh S) (p2 := 31) (L2 := [.ref x0, .int x1, .int x2, .int x3, .int x4]) (s2 := []) (h2 := hh S) 2 (fun n => B_13_9 n x0 x1 x2 x3 x4 S) c4 ?_
        obtain ⟨e1, e2⟩ := Prod.mk.inj (Option.some.inj hG)
        subst e1
        subst e2
        exact Ev.rg (c := (xm_z 13 = 0 ∨ (xm_z 13 = 1 ∧ ((0 : Int32) = 0 ∨ (0 : Int32) = 1)) ∨ (xm_z 13 = 2 ∧ ((0 : Int32)).toInt8.toInt32 = (0 : Int32)) ∨ (xm_z 13 = 3 ∧ ((0 : Int32)).toUInt32.toUInt16.toUInt32.toInt32 = (0 : Int32)))) 2 (fun n => rfl) (Or.inr (Or.inl ⟨rfl, by decide⟩))
      · rw [if_neg c4] at hG
        refine Ev.f (c := (S.1 x0 1) < x2) (p1 := 44) (L1 := [.ref x0, .int x1, .int x2, .int x3, .int x4]) (s1 := []) (h1 := hh S) (p2 := 31) (L2 := [.ref x0, .int x1, .int x2, .int x3, .int x4]) (s2 := []) (h2 := hh S) 2 (fun n => B_13_10 n x0 x1 x2 x3 x4 S) c4 ?_
        refine Ev.g (c := (kd x0).1 = 10 + 0) (p1 := 35) (L1 := [.ref x0, .int x1, .int x2, .int x3, .int x4]) (s1 := [.int (S.1 x0 1)]) (h1 := hh S) 2 (fun n => B_13_11 n x0 x1 x2 x3 x4 S) g1 ?_
        by_cases c5 : x4 < (S.1 x0 1)
        · rw [if_pos c5] at hG
          refine Ev.t (c := x4 < (S.1 x0 1)) (p1 := 44) (L1 := [.ref x0, .int x1, .int x2, .int x3, .int x4]) (s1 := []) (h1 := hh S) (p2 := 40) (L2 := [.ref x0, .int x1, .int x2, .int x3, .int x4]) (s2 := []) (h2 := hh S) 2 (fun n => B_13_12 n x0 x1 x2 x3 x4 S) c5 ?_
          obtain ⟨e1, e2⟩ := Prod.mk.inj (Option.some.inj hG)
          subst e1
          subst e2
          exact Ev.rg (c := (xm_z 13 = 0 ∨ (xm_z 13 = 1 ∧ ((0 : Int32) = 0 ∨ (0 : Int32) = 1)) ∨ (xm_z 13 = 2 ∧ ((0 : Int32)).toInt8.toInt32 = (0 : Int32)) ∨ (xm_z 13 = 3 ∧ ((0 : Int32)).toUInt32.toUInt16.toUInt32.toInt32 = (0 : Int32)))) 2 (fun n => rfl) (Or.inr (Or.inl ⟨rfl, by decide⟩))
        · rw [if_neg c5] at hG
          refine Ev.f (c := x4 < (S.1 x0 1)) (p1 := 44) (L1 := [.ref x0, .int x1, .int x2, .int x3, .int x4]) (s1 := []) (h1 := hh S) (p2 := 40) (L2 := [.ref x0, .int x1, .int x2, .int x3, .int x4]) (s2 := []) (h2 := hh S) 2 (fun n => B_13_13 n x0 x1 x2 x3 x4 S) c5 ?_
          obtain ⟨e1, e2⟩ := Prod.mk.inj (Option.some.inj hG)
          subst e1
          subst e2
          exact Ev.rg (c := (xm_z 13 = 0 ∨ (xm_z 13 = 1 ∧ ((1 : Int32) = 0 ∨ (1 : Int32) = 1)) ∨ (xm_z 13 = 2 ∧ ((1 : Int32)).toInt8.toInt32 = (1 : Int32)) ∨ (xm_z 13 = 3 ∧ ((1 : Int32)).toUInt32.toUInt16.toUInt32.toInt32 = (1 : Int32)))) 3 (fun n => rfl) (Or.inr (Or.inl ⟨rfl, by decide⟩))
/-- 14: SceneCycle$Actor.free(I)V -/
def G_14 (S : St) (x0 : Nat) (x1 : Int32) : Option (Unit × St) :=
  (if (kd x0).1 = 10 + 0 then
    some ((), (xa_u (xa_u S.1 x0 5 0) x0 4 x1, S.2.1, S.2.2))
  else none)
theorem B_14_1 {X : Nat × (Nat → Int32)} {d : Nat} (n : Nat) (x0 : Nat) (x1 : Int32) (S : St) : ex X d 14 0 [.ref x0, .int x1] [] (hh S) (n + 3) = if (kd x0).1 = 10 + 0 ∧ (xf_k 0 5 = 0 ∨ (xf_k 0 5 = 1 ∧ ((0 : Int32) = 0 ∨ (0 : Int32) = 1))) then ex X d 14 5 [.ref x0, .int x1] [] (hh (xa_u S.1 x0 5 0, S.2.1, S.2.2)) n else none := rfl
theorem B_14_2 {X : Nat × (Nat → Int32)} {d : Nat} (n : Nat) (x0 : Nat) (x1 : Int32) (S : St) : ex X d 14 5 [.ref x0, .int x1] [] (hh (xa_u S.1 x0 5 0, S.2.1, S.2.2)) (n + 3) = if (kd x0).1 = 10 + 0 ∧ (xf_k 0 4 = 0 ∨ (xf_k 0 4 = 1 ∧ (x1 = 0 ∨ x1 = 1))) then ex X d 14 10 [.ref x0, .int x1] [] (hh (xa_u (xa_u S.1 x0 5 0) x0 4 x1, S.2.1, S.2.2)) n else none := rfl
set_option maxRecDepth 200000 in
theorem T_14 {X : Nat × (Nat → Int32)} (S : St) (x0 : Nat) (x1 : Int32) (r : Unit) (S' : St) (hG : G_14 S x0 x1 = some (r, S')) : Ev X 0 14 0 [.ref x0, .int x1] [] (hh S) (xV r, hh S') := by
  unfold G_14 at hG
  by_cases g1 : (kd x0).1 = 10 + 0
  rotate_left
  · rw [if_neg g1] at hG; cases hG
  rw [if_pos g1] at hG
  refine Ev.g (c := (kd x0).1 = 10 + 0 ∧ (xf_k 0 5 = 0 ∨ (xf_k 0 5 = 1 ∧ ((0 : Int32) = 0 ∨ (0 : Int32) = 1)))) (p1 := 5) (L1 := [.ref x0, .int x1]) (s1 := []) (h1 := hh (xa_u S.1 x0 5 0, S.2.1, S.2.2)) 3 (fun n => B_14_1 n x0 x1 S) (⟨g1, Or.inl rfl⟩) ?_
  refine Ev.g (c := (kd x0).1 = 10 + 0 ∧ (xf_k 0 4 = 0 ∨ (xf_k 0 4 = 1 ∧ (x1 = 0 ∨ x1 = 1)))) (p1 := 10) (L1 := [.ref x0, .int x1]) (s1 := []) (h1 := hh (xa_u (xa_u S.1 x0 5 0) x0 4 x1, S.2.1, S.2.2)) 3 (fun n => B_14_2 n x0 x1 S) (⟨g1, Or.inl rfl⟩) ?_
  obtain ⟨e1, e2⟩ := Prod.mk.inj (Option.some.inj hG)
  subst e1
  subst e2
  exact Ev.r 1 (fun n => rfl)
/-- 15: SceneCycle$Actor.follow(I)V -/
def G_15 (S : St) (x0 : Nat) (x1 : Int32) : Option (Unit × St) :=
  (if (kd x0).1 = 10 + 0 then
    some ((), (xa_u (xa_u S.1 x0 5 2) x0 12 x1, S.2.1, S.2.2))
  else none)
theorem B_15_1 {X : Nat × (Nat → Int32)} {d : Nat} (n : Nat) (x0 : Nat) (x1 : Int32) (S : St) : ex X d 15 0 [.ref x0, .int x1] [] (hh S) (n + 3) = if (kd x0).1 = 10 + 0 ∧ (xf_k 0 5 = 0 ∨ (xf_k 0 5 = 1 ∧ ((2 : Int32) = 0 ∨ (2 : Int32) = 1))) then ex X d 15 5 [.ref x0, .int x1] [] (hh (xa_u S.1 x0 5 2, S.2.1, S.2.2)) n else none := rfl
theorem B_15_2 {X : Nat × (Nat → Int32)} {d : Nat} (n : Nat) (x0 : Nat) (x1 : Int32) (S : St) : ex X d 15 5 [.ref x0, .int x1] [] (hh (xa_u S.1 x0 5 2, S.2.1, S.2.2)) (n + 3) = if (kd x0).1 = 10 + 0 ∧ (xf_k 0 12 = 0 ∨ (xf_k 0 12 = 1 ∧ (x1 = 0 ∨ x1 = 1))) then ex X d 15 10 [.ref x0, .int x1] [] (hh (xa_u (xa_u S.1 x0 5 2) x0 12 x1, S.2.1, S.2.2)) n else none := rfl
set_option maxRecDepth 200000 in
theorem T_15 {X : Nat × (Nat → Int32)} (S : St) (x0 : Nat) (x1 : Int32) (r : Unit) (S' : St) (hG : G_15 S x0 x1 = some (r, S')) : Ev X 0 15 0 [.ref x0, .int x1] [] (hh S) (xV r, hh S') := by
  unfold G_15 at hG
  by_cases g1 : (kd x0).1 = 10 + 0
  rotate_left
  · rw [if_neg g1] at hG; cases hG
  rw [if_pos g1] at hG
  refine Ev.g (c := (kd x0).1 = 10 + 0 ∧ (xf_k 0 5 = 0 ∨ (xf_k 0 5 = 1 ∧ ((2 : Int32) = 0 ∨ (2 : Int32) = 1)))) (p1 := 5) (L1 := [.ref x0, .int x1]) (s1 := []) (h1 := hh (xa_u S.1 x0 5 2, S.2.1, S.2.2)) 3 (fun n => B_15_1 n x0 x1 S) (⟨g1, Or.inl rfl⟩) ?_
  refine Ev.g (c := (kd x0).1 = 10 + 0 ∧ (xf_k 0 12 = 0 ∨ (xf_k 0 12 = 1 ∧ (x1 = 0 ∨ x1 = 1)))) (p1 := 10) (L1 := [.ref x0, .int x1]) (s1 := []) (h1 := hh (xa_u (xa_u S.1 x0 5 2) x0 12 x1, S.2.1, S.2.2)) 3 (fun n => B_15_2 n x0 x1 S) (⟨g1, Or.inl rfl⟩) ?_
  obtain ⟨e1, e2⟩ := Prod.mk.inj (Option.some.inj hG)
  subst e1
  subst e2
  exact Ev.r 1 (fun n => rfl)
/-- 16: SceneCycle$Actor.showAt(II)V -/
def G_16 (S : St) (x0 : Nat) (x1 : Int32) (x2 : Int32) : Option (Unit × St) :=
  (if (kd x0).1 = 10 + 0 then
    (match G_1 (xa_u S.1 x0 7 1, S.2.1, S.2.2) x1 (16 - ((xa_u S.1 x0 7 1) x0 2)) with
    | none => none
    | some (v2, S2) =>
      some ((), (xa_u (xa_u S2.1 x0 0 v2) x0 1 x2, S2.2.1, S2.2.2))
    )
  else none)
theorem B_16_1 {X : Nat × (Nat → Int32)} {d : Nat} (n : Nat) (x0 : Nat) (x1 : Int32) (x2 : Int32) (S : St) : ex X d 16 0 [.ref x0, .int x1, .int x2] [] (hh S) (n + 3) = if (kd x0).1 = 10 + 0 ∧ (xf_k 0 7 = 0 ∨ (xf_k 0 7 = 1 ∧ ((1 : Int32) = 0 ∨ (1 : Int32) = 1))) then ex X d 16 5 [.ref x0, .int x1, .int x2] [] (hh (xa_u S.1 x0 7 1, S.2.1, S.2.2)) n else none := rfl
theorem B_16_2 {X : Nat × (Nat → Int32)} {d : Nat} (n : Nat) (x0 : Nat) (x1 : Int32) (x2 : Int32) (S : St) : ex X d 16 5 [.ref x0, .int x1, .int x2] [] (hh (xa_u S.1 x0 7 1, S.2.1, S.2.2)) (n + 5) = if (kd x0).1 = 10 + 0 then ex X d 16 13 [.ref x0, .int x1, .int x2] [.int ((xa_u S.1 x0 7 1) x0 2), .int 16, .int x1, .ref x0] (hh (xa_u S.1 x0 7 1, S.2.1, S.2.2)) n else none := rfl
theorem B_16_3 {X : Nat × (Nat → Int32)} {d : Nat} (n : Nat) (x0 : Nat) (x1 : Int32) (x2 : Int32) (S : St) : ex X (d + 1) 16 13 [.ref x0, .int x1, .int x2] [.int ((xa_u S.1 x0 7 1) x0 2), .int 16, .int x1, .ref x0] (hh (xa_u S.1 x0 7 1, S.2.1, S.2.2)) (n + 2) = (match ex X d 1 0 [.int x1, .int (16 - ((xa_u S.1 x0 7 1) x0 2))] [] (hh (xa_u S.1 x0 7 1, S.2.1, S.2.2)) n with | some (v, h') => ex X (d + 1) 16 17 [.ref x0, .int x1, .int x2] (v.toList ++ [.ref x0]) h' n | none => none) := rfl
theorem B_16_4 {X : Nat × (Nat → Int32)} {d : Nat} (n : Nat) (x0 : Nat) (x1 : Int32) (x2 : Int32) (v2 : Int32) (S2 : St) : ex X d 16 17 [.ref x0, .int x1, .int x2] [.int v2, .ref x0] (hh S2) (n + 1) = if (kd x0).1 = 10 + 0 ∧ (xf_k 0 0 = 0 ∨ (xf_k 0 0 = 1 ∧ (v2 = 0 ∨ v2 = 1))) then ex X d 16 20 [.ref x0, .int x1, .int x2] [] (hh (xa_u S2.1 x0 0 v2, S2.2.1, S2.2.2)) n else none := rfl
theorem B_16_5 {X : Nat × (Nat → Int32)} {d : Nat} (n : Nat) (x0 : Nat) (x1 : Int32) (x2 : Int32) (S2 : St) (v2 : Int32) : ex X d 16 20 [.ref x0, .int x1, .int x2] [] (hh (xa_u S2.1 x0 0 v2, S2.2.1, S2.2.2)) (n + 3) = if (kd x0).1 = 10 + 0 ∧ (xf_k 0 1 = 0 ∨ (xf_k 0 1 = 1 ∧ (x2 = 0 ∨ x2 = 1))) then ex X d 16 25 [.ref x0, .int x1, .int x2] [] (hh (xa_u (xa_u S2.1 x0 0 v2) x0 1 x2, S2.2.1, S2.2.2)) n else none := rfl
set_option maxRecDepth 200000 in
theorem T_16 {X : Nat × (Nat → Int32)} (S : St) (x0 : Nat) (x1 : Int32) (x2 : Int32) (r : Unit) (S' : St) (hG : G_16 S x0 x1 x2 = some (r, S')) : Ev X 1 16 0 [.ref x0, .int x1, .int x2] [] (hh S) (xV r, hh S') := by
  unfold G_16 at hG
  by_cases g1 : (kd x0).1 = 10 + 0
  rotate_left
  · rw [if_neg g1] at hG; cases hG
  rw [if_pos g1] at hG
  refine Ev.g (c := (kd x0).1 = 10 + 0 ∧ (xf_k 0 7 = 0 ∨ (xf_k 0 7 = 1 ∧ ((1 : Int32) = 0 ∨ (1 : Int32) = 1)))) (p1 := 5) (L1 := [.ref x0, .int x1, .int x2]) (s1 := []) (h1 := hh (xa_u S.1 x0 7 1, S.2.1, S.2.2)) 3 (fun n => B_16_1 n x0 x1 x2 S) (⟨g1, Or.inr ⟨rfl, by decide⟩⟩) ?_
  refine Ev.g (c := (kd x0).1 = 10 + 0) (p1 := 13) (L1 := [.ref x0, .int x1, .int x2]) (s1 := [.int ((xa_u S.1 x0 7 1) x0 2), .int 16, .int x1, .ref x0]) (h1 := hh (xa_u S.1 x0 7 1, S.2.1, S.2.2)) 5 (fun n => B_16_2 n x0 x1 x2 S) g1 ?_
  rcases h2 : G_1 (xa_u S.1 x0 7 1, S.2.1, S.2.2) x1 (16 - ((xa_u S.1 x0 7 1) x0 2)) with _ | ⟨v2, S2⟩
  · rw [h2] at hG; cases hG
  rw [h2] at hG
  dsimp only at hG
  refine Ev.c (a := 1) (A := [.int x1, .int (16 - ((xa_u S.1 x0 7 1) x0 2))]) (h1 := hh (xa_u S.1 x0 7 1, S.2.1, S.2.2)) (pc' := 17) (L' := [.ref x0, .int x1, .int x2]) (rest := [.ref x0]) (r1 := some (.int v2)) (h2 := hh S2) 2 (fun n => B_16_3 n x0 x1 x2 S) (Ev.up (by decide) (T_1 (xa_u S.1 x0 7 1, S.2.1, S.2.2) x1 (16 - ((xa_u S.1 x0 7 1) x0 2)) _ _ h2)) ?_
  show Ev X _ 16 17 [.ref x0, .int x1, .int x2] [.int v2, .ref x0] (hh S2) _
  refine Ev.g (c := (kd x0).1 = 10 + 0 ∧ (xf_k 0 0 = 0 ∨ (xf_k 0 0 = 1 ∧ (v2 = 0 ∨ v2 = 1)))) (p1 := 20) (L1 := [.ref x0, .int x1, .int x2]) (s1 := []) (h1 := hh (xa_u S2.1 x0 0 v2, S2.2.1, S2.2.2)) 1 (fun n => B_16_4 n x0 x1 x2 v2 S2) (⟨g1, Or.inl rfl⟩) ?_
  refine Ev.g (c := (kd x0).1 = 10 + 0 ∧ (xf_k 0 1 = 0 ∨ (xf_k 0 1 = 1 ∧ (x2 = 0 ∨ x2 = 1)))) (p1 := 25) (L1 := [.ref x0, .int x1, .int x2]) (s1 := []) (h1 := hh (xa_u (xa_u S2.1 x0 0 v2) x0 1 x2, S2.2.1, S2.2.2)) 3 (fun n => B_16_5 n x0 x1 x2 S2 v2) (⟨g1, Or.inl rfl⟩) ?_
  obtain ⟨e1, e2⟩ := Prod.mk.inj (Option.some.inj hG)
  subst e1
  subst e2
  exact Ev.r 1 (fun n => rfl)
/-- 17: SceneCycle$Actor.resize(II)V -/
def G_17 (S : St) (x0 : Nat) (x1 : Int32) (x2 : Int32) : Option (Unit × St) :=
  (if (kd x0).1 = 10 + 0 then
    (match G_1 (xa_u (xa_u S.1 x0 2 x1) x0 3 x2, S.2.1, S.2.2) ((xa_u (xa_u S.1 x0 2 x1) x0 3 x2) x0 0) (16 - ((xa_u (xa_u S.1 x0 2 x1) x0 3 x2) x0 2)) with
    | none => none
    | some (v2, S2) =>
      some ((), (xa_u S2.1 x0 0 v2, S2.2.1, S2.2.2))
    )
  else none)
theorem B_17_1 {X : Nat × (Nat → Int32)} {d : Nat} (n : Nat) (x0 : Nat) (x1 : Int32) (x2 : Int32) (S : St) : ex X d 17 0 [.ref x0, .int x1, .int x2] [] (hh S) (n + 3) = if (kd x0).1 = 10 + 0 ∧ (xf_k 0 2 = 0 ∨ (xf_k 0 2 = 1 ∧ (x1 = 0 ∨ x1 = 1))) then ex X d 17 5 [.ref x0, .int x1, .int x2] [] (hh (xa_u S.1 x0 2 x1, S.2.1, S.2.2)) n else none := rfl
theorem B_17_2 {X : Nat × (Nat → Int32)} {d : Nat} (n : Nat) (x0 : Nat) (x1 : Int32) (x2 : Int32) (S : St) : ex X d 17 5 [.ref x0, .int x1, .int x2] [] (hh (xa_u S.1 x0 2 x1, S.2.1, S.2.2)) (n + 3) = if (kd x0).1 = 10 + 0 ∧ (xf_k 0 3 = 0 ∨ (xf_k 0 3 = 1 ∧ (x2 = 0 ∨ x2 = 1))) then ex X d 17 10 [.ref x0, .int x1, .int x2] [] (hh (xa_u (xa_u S.1 x0 2 x1) x0 3 x2, S.2.1, S.2.2)) n else none := rfl
theorem B_17_3 {X : Nat × (Nat → Int32)} {d : Nat} (n : Nat) (x0 : Nat) (x1 : Int32) (x2 : Int32) (S : St) : ex X d 17 10 [.ref x0, .int x1, .int x2] [] (hh (xa_u (xa_u S.1 x0 2 x1) x0 3 x2, S.2.1, S.2.2)) (n + 3) = if (kd x0).1 = 10 + 0 then ex X d 17 15 [.ref x0, .int x1, .int x2] [.int ((xa_u (xa_u S.1 x0 2 x1) x0 3 x2) x0 0), .ref x0] (hh (xa_u (xa_u S.1 x0 2 x1) x0 3 x2, S.2.1, S.2.2)) n else none := rfl
theorem B_17_4 {X : Nat × (Nat → Int32)} {d : Nat} (n : Nat) (x0 : Nat) (x1 : Int32) (x2 : Int32) (S : St) : ex X d 17 15 [.ref x0, .int x1, .int x2] [.int ((xa_u (xa_u S.1 x0 2 x1) x0 3 x2) x0 0), .ref x0] (hh (xa_u (xa_u S.1 x0 2 x1) x0 3 x2, S.2.1, S.2.2)) (n + 3) = if (kd x0).1 = 10 + 0 then ex X d 17 21 [.ref x0, .int x1, .int x2] [.int ((xa_u (xa_u S.1 x0 2 x1) x0 3 x2) x0 2), .int 16, .int ((xa_u (xa_u S.1 x0 2 x1) x0 3 x2) x0 0), .ref x0] (hh (xa_u (xa_u S.1 x0 2 x1) x0 3 x2, S.2.1, S.2.2)) n else none := rfl
theorem B_17_5 {X : Nat × (Nat → Int32)} {d : Nat} (n : Nat) (x0 : Nat) (x1 : Int32) (x2 : Int32) (S : St) : ex X (d + 1) 17 21 [.ref x0, .int x1, .int x2] [.int ((xa_u (xa_u S.1 x0 2 x1) x0 3 x2) x0 2), .int 16, .int ((xa_u (xa_u S.1 x0 2 x1) x0 3 x2) x0 0), .ref x0] (hh (xa_u (xa_u S.1 x0 2 x1) x0 3 x2, S.2.1, S.2.2)) (n + 2) = (match ex X d 1 0 [.int ((xa_u (xa_u S.1 x0 2 x1) x0 3 x2) x0 0), .int (16 - ((xa_u (xa_u S.1 x0 2 x1) x0 3 x2) x0 2))] [] (hh (xa_u (xa_u S.1 x0 2 x1) x0 3 x2, S.2.1, S.2.2)) n with | some (v, h') => ex X (d + 1) 17 25 [.ref x0, .int x1, .int x2] (v.toList ++ [.ref x0]) h' n | none => none) := rfl
theorem B_17_6 {X : Nat × (Nat → Int32)} {d : Nat} (n : Nat) (x0 : Nat) (x1 : Int32) (x2 : Int32) (v2 : Int32) (S2 : St) : ex X d 17 25 [.ref x0, .int x1, .int x2] [.int v2, .ref x0] (hh S2) (n + 1) = if (kd x0).1 = 10 + 0 ∧ (xf_k 0 0 = 0 ∨ (xf_k 0 0 = 1 ∧ (v2 = 0 ∨ v2 = 1))) then ex X d 17 28 [.ref x0, .int x1, .int x2] [] (hh (xa_u S2.1 x0 0 v2, S2.2.1, S2.2.2)) n else none := rfl
set_option maxRecDepth 200000 in
theorem T_17 {X : Nat × (Nat → Int32)} (S : St) (x0 : Nat) (x1 : Int32) (x2 : Int32) (r : Unit) (S' : St) (hG : G_17 S x0 x1 x2 = some (r, S')) : Ev X 1 17 0 [.ref x0, .int x1, .int x2] [] (hh S) (xV r, hh S') := by
  unfold G_17 at hG
  by_cases g1 : (kd x0).1 = 10 + 0
  rotate_left
  · rw [if_neg g1] at hG; cases hG
  rw [if_pos g1] at hG
  refine Ev.g (c := (kd x0).1 = 10 + 0 ∧ (xf_k 0 2 = 0 ∨ (xf_k 0 2 = 1 ∧ (x1 = 0 ∨ x1 = 1)))) (p1 := 5) (L1 := [.ref x0, .int x1, .int x2]) (s1 := []) (h1 := hh (xa_u S.1 x0 2 x1, S.2.1, S.2.2)) 3 (fun n => B_17_1 n x0 x1 x2 S) (⟨g1, Or.inl rfl⟩) ?_
  refine Ev.g (c := (kd x0).1 = 10 + 0 ∧ (xf_k 0 3 = 0 ∨ (xf_k 0 3 = 1 ∧ (x2 = 0 ∨ x2 = 1)))) (p1 := 10) (L1 := [.ref x0, .int x1, .int x2]) (s1 := []) (h1 := hh (xa_u (xa_u S.1 x0 2 x1) x0 3 x2, S.2.1, S.2.2)) 3 (fun n => B_17_2 n x0 x1 x2 S) (⟨g1, Or.inl rfl⟩) ?_
  refine Ev.g (c := (kd x0).1 = 10 + 0) (p1 := 15) (L1 := [.ref x0, .int x1, .int x2]) (s1 := [.int ((xa_u (xa_u S.1 x0 2 x1) x0 3 x2) x0 0), .ref x0]) (h1 := hh (xa_u (xa_u S.1 x0 2 x1) x0 3 x2, S.2.1, S.2.2)) 3 (fun n => B_17_3 n x0 x1 x2 S) g1 ?_
  refine Ev.g (c := (kd x0).1 = 10 + 0) (p1 := 21) (L1 := [.ref x0, .int x1, .int x2]) (s1 := [.int ((xa_u (xa_u S.1 x0 2 x1) x0 3 x2) x0 2), .int 16, .int ((xa_u (xa_u S.1 x0 2 x1) x0 3 x2) x0 0), .ref x0]) (h1 := hh (xa_u (xa_u S.1 x0 2 x1) x0 3 x2, S.2.1, S.2.2)) 3 (fun n => B_17_4 n x0 x1 x2 S) g1 ?_
  rcases h2 : G_1 (xa_u (xa_u S.1 x0 2 x1) x0 3 x2, S.2.1, S.2.2) ((xa_u (xa_u S.1 x0 2 x1) x0 3 x2) x0 0) (16 - ((xa_u (xa_u S.1 x0 2 x1) x0 3 x2) x0 2)) with _ | ⟨v2, S2⟩
  · rw [h2] at hG; cases hG
  rw [h2] at hG
  dsimp only at hG
  refine Ev.c (a := 1) (A := [.int ((xa_u (xa_u S.1 x0 2 x1) x0 3 x2) x0 0), .int (16 - ((xa_u (xa_u S.1 x0 2 x1) x0 3 x2) x0 2))]) (h1 := hh (xa_u (xa_u S.1 x0 2 x1) x0 3 x2, S.2.1, S.2.2)) (pc' := 25) (L' := [.ref x0, .int x1, .int x2]) (rest := [.ref x0]) (r1 := some (.int v2)) (h2 := hh S2) 2 (fun n => B_17_5 n x0 x1 x2 S) (Ev.up (by decide) (T_1 (xa_u (xa_u S.1 x0 2 x1) x0 3 x2, S.2.1, S.2.2) ((xa_u (xa_u S.1 x0 2 x1) x0 3 x2) x0 0) (16 - ((xa_u (xa_u S.1 x0 2 x1) x0 3 x2) x0 2)) _ _ h2)) ?_
  show Ev X _ 17 25 [.ref x0, .int x1, .int x2] [.int v2, .ref x0] (hh S2) _
  refine Ev.g (c := (kd x0).1 = 10 + 0 ∧ (xf_k 0 0 = 0 ∨ (xf_k 0 0 = 1 ∧ (v2 = 0 ∨ v2 = 1)))) (p1 := 28) (L1 := [.ref x0, .int x1, .int x2]) (s1 := []) (h1 := hh (xa_u S2.1 x0 0 v2, S2.2.1, S2.2.2)) 1 (fun n => B_17_6 n x0 x1 x2 v2 S2) (⟨g1, Or.inl rfl⟩) ?_
  obtain ⟨e1, e2⟩ := Prod.mk.inj (Option.some.inj hG)
  subst e1
  subst e2
  exact Ev.r 1 (fun n => rfl)
/-- 18: SceneCycle$Actor.goTo(III)V -/
def G_18 (S : St) (x0 : Nat) (x1 : Int32) (x2 : Int32) (x3 : Int32) : Option (Unit × St) :=
  (if (kd x0).1 = 10 + 0 then
    some ((), (xa_u (xa_u (xa_u (xa_u S.1 x0 5 1) x0 10 x1) x0 11 x2) x0 12 x3, S.2.1, S.2.2))
  else none)
theorem B_18_1 {X : Nat × (Nat → Int32)} {d : Nat} (n : Nat) (x0 : Nat) (x1 : Int32) (x2 : Int32) (x3 : Int32) (S : St) : ex X d 18 0 [.ref x0, .int x1, .int x2, .int x3] [] (hh S) (n + 3) = if (kd x0).1 = 10 + 0 ∧ (xf_k 0 5 = 0 ∨ (xf_k 0 5 = 1 ∧ ((1 : Int32) = 0 ∨ (1 : Int32) = 1))) then ex X d 18 5 [.ref x0, .int x1, .int x2, .int x3] [] (hh (xa_u S.1 x0 5 1, S.2.1, S.2.2)) n else none := rfl
theorem B_18_2 {X : Nat × (Nat → Int32)} {d : Nat} (n : Nat) (x0 : Nat) (x1 : Int32) (x2 : Int32) (x3 : Int32) (S : St) : ex X d 18 5 [.ref x0, .int x1, .int x2, .int x3] [] (hh (xa_u S.1 x0 5 1, S.2.1, S.2.2)) (n + 3) = if (kd x0).1 = 10 + 0 ∧ (xf_k 0 10 = 0 ∨ (xf_k 0 10 = 1 ∧ (x1 = 0 ∨ x1 = 1))) then ex X d 18 10 [.ref x0, .int x1, .int x2, .int x3] [] (hh (xa_u (xa_u S.1 x0 5 1) x0 10 x1, S.2.1, S.2.2)) n else none := rfl
theorem B_18_3 {X : Nat × (Nat → Int32)} {d : Nat} (n : Nat) (x0 : Nat) (x1 : Int32) (x2 : Int32) (x3 : Int32) (S : St) : ex X d 18 10 [.ref x0, .int x1, .int x2, .int x3] [] (hh (xa_u (xa_u S.1 x0 5 1) x0 10 x1, S.2.1, S.2.2)) (n + 3) = if (kd x0).1 = 10 + 0 ∧ (xf_k 0 11 = 0 ∨ (xf_k 0 11 = 1 ∧ (x2 = 0 ∨ x2 = 1))) then ex X d 18 15 [.ref x0, .int x1, .int x2, .int x3] [] (hh (xa_u (xa_u (xa_u S.1 x0 5 1) x0 10 x1) x0 11 x2, S.2.1, S.2.2)) n else none := rfl
theorem B_18_4 {X : Nat × (Nat → Int32)} {d : Nat} (n : Nat) (x0 : Nat) (x1 : Int32) (x2 : Int32) (x3 : Int32) (S : St) : ex X d 18 15 [.ref x0, .int x1, .int x2, .int x3] [] (hh (xa_u (xa_u (xa_u S.1 x0 5 1) x0 10 x1) x0 11 x2, S.2.1, S.2.2)) (n + 3) = if (kd x0).1 = 10 + 0 ∧ (xf_k 0 12 = 0 ∨ (xf_k 0 12 = 1 ∧ (x3 = 0 ∨ x3 = 1))) then ex X d 18 20 [.ref x0, .int x1, .int x2, .int x3] [] (hh (xa_u (xa_u (xa_u (xa_u S.1 x0 5 1) x0 10 x1) x0 11 x2) x0 12 x3, S.2.1, S.2.2)) n else none := rfl
set_option maxRecDepth 200000 in
theorem T_18 {X : Nat × (Nat → Int32)} (S : St) (x0 : Nat) (x1 : Int32) (x2 : Int32) (x3 : Int32) (r : Unit) (S' : St) (hG : G_18 S x0 x1 x2 x3 = some (r, S')) : Ev X 0 18 0 [.ref x0, .int x1, .int x2, .int x3] [] (hh S) (xV r, hh S') := by
  unfold G_18 at hG
  by_cases g1 : (kd x0).1 = 10 + 0
  rotate_left
  · rw [if_neg g1] at hG; cases hG
  rw [if_pos g1] at hG
  refine Ev.g (c := (kd x0).1 = 10 + 0 ∧ (xf_k 0 5 = 0 ∨ (xf_k 0 5 = 1 ∧ ((1 : Int32) = 0 ∨ (1 : Int32) = 1)))) (p1 := 5) (L1 := [.ref x0, .int x1, .int x2, .int x3]) (s1 := []) (h1 := hh (xa_u S.1 x0 5 1, S.2.1, S.2.2)) 3 (fun n => B_18_1 n x0 x1 x2 x3 S) (⟨g1, Or.inl rfl⟩) ?_
  refine Ev.g (c := (kd x0).1 = 10 + 0 ∧ (xf_k 0 10 = 0 ∨ (xf_k 0 10 = 1 ∧ (x1 = 0 ∨ x1 = 1)))) (p1 := 10) (L1 := [.ref x0, .int x1, .int x2, .int x3]) (s1 := []) (h1 := hh (xa_u (xa_u S.1 x0 5 1) x0 10 x1, S.2.1, S.2.2)) 3 (fun n => B_18_2 n x0 x1 x2 x3 S) (⟨g1, Or.inl rfl⟩) ?_
  refine Ev.g (c := (kd x0).1 = 10 + 0 ∧ (xf_k 0 11 = 0 ∨ (xf_k 0 11 = 1 ∧ (x2 = 0 ∨ x2 = 1)))) (p1 := 15) (L1 := [.ref x0, .int x1, .int x2, .int x3]) (s1 := []) (h1 := hh (xa_u (xa_u (xa_u S.1 x0 5 1) x0 10 x1) x0 11 x2, S.2.1, S.2.2)) 3 (fun n => B_18_3 n x0 x1 x2 x3 S) (⟨g1, Or.inl rfl⟩) ?_
  refine Ev.g (c := (kd x0).1 = 10 + 0 ∧ (xf_k 0 12 = 0 ∨ (xf_k 0 12 = 1 ∧ (x3 = 0 ∨ x3 = 1)))) (p1 := 20) (L1 := [.ref x0, .int x1, .int x2, .int x3]) (s1 := []) (h1 := hh (xa_u (xa_u (xa_u (xa_u S.1 x0 5 1) x0 10 x1) x0 11 x2) x0 12 x3, S.2.1, S.2.2)) 3 (fun n => B_18_4 n x0 x1 x2 x3 S) (⟨g1, Or.inl rfl⟩) ?_
  obtain ⟨e1, e2⟩ := Prod.mk.inj (Option.some.inj hG)
  subst e1
  subst e2
  exact Ev.r 1 (fun n => rfl)
/-- 19: SceneCycle$Actor.priority()I -/
def G_19 (S : St) (x0 : Nat) : Option (Int32 × St) :=
  (if (kd x0).1 = 10 + 0 then
    (if (S.1 x0 6) = 0 then
      some ((4 + ((11 * (S.1 x0 1)) / 16)), S)
    else
      some ((S.1 x0 6), S)
    )
  else none)
theorem B_19_1 {X : Nat × (Nat → Int32)} {d : Nat} (n : Nat) (x0 : Nat) (S : St) : ex X d 19 0 [.ref x0] [] (hh S) (n + 2) = if (kd x0).1 = 10 + 0 then ex X d 19 4 [.ref x0] [.int (S.1 x0 6)] (hh S) n else none := rfl
theorem B_19_2 {X : Nat × (Nat → Int32)} {d : Nat} (n : Nat) (x0 : Nat) (S : St) : ex X d 19 4 [.ref x0] [.int (S.1 x0 6)] (hh S) (n + 1) = if (S.1 x0 6) = 0 then ex X d 19 14 [.ref x0] [] (hh S) n else ex X d 19 7 [.ref x0] [] (hh S) n := rfl
theorem B_19_3 {X : Nat × (Nat → Int32)} {d : Nat} (n : Nat) (x0 : Nat) (S : St) : ex X d 19 14 [.ref x0] [] (hh S) (n + 4) = if (kd x0).1 = 10 + 0 then ex X d 19 21 [.ref x0] [.int (S.1 x0 1), .int 11, .int 4] (hh S) n else none := rfl
theorem B_19_4 {X : Nat × (Nat → Int32)} {d : Nat} (n : Nat) (x0 : Nat) (S : St) : ex X d 19 21 [.ref x0] [.int (S.1 x0 1), .int 11, .int 4] (hh S) (n + 3) = if (16 : Int32) = 0 then none else ex X d 19 25 [.ref x0] [.int ((11 * (S.1 x0 1)) / 16), .int 4] (hh S) n := rfl
theorem B_19_5 {X : Nat × (Nat → Int32)} {d : Nat} (n : Nat) (x0 : Nat) (S : St) : ex X d 19 4 [.ref x0] [.int (S.1 x0 6)] (hh S) (n + 1) = if (S.1 x0 6) = 0 then ex X d 19 14 [.ref x0] [] (hh S) n else ex X d 19 7 [.ref x0] [] (hh S) n := rfl
theorem B_19_6 {X : Nat × (Nat → Int32)} {d : Nat} (n : Nat) (x0 : Nat) (S : St) : ex X d 19 7 [.ref x0] [] (hh S) (n + 2) = if (kd x0).1 = 10 + 0 then ex X d 19 11 [.ref x0] [.int (S.1 x0 6)] (hh S) n else none := rfl
set_option maxRecDepth 200000 in
theorem T_19 {X : Nat × (Nat → Int32)} (S : St) (x0 : Nat) (r : Int32) (S' : St) (hG : G_19 S x0 = some (r, S')) : Ev X 0 19 0 [.ref x0] [] (hh S) (xI r, hh S') := by
  unfold G_19 at hG
  by_cases g1 : (kd x0).1 = 10 + 0
  rotate_left
  · rw [if_neg g1] at hG; cases hG
  rw [if_pos g1] at hG
  refine Ev.g (c := (kd x0).1 = 10 + 0) (p1 := 4) (L1 := [.ref x0]) (s1 := [.int (S.1 x0 6)]) (h1 := hh S) 2 (fun n => B_19_1 n x0 S) g1 ?_
  by_cases c2 : (S.1 x0 6) = 0
  · rw [if_pos c2] at hG
    refine Ev.t (c := (S.1 x0 6) = 0) (p1 := 14) (L1 := [.ref x0]) (s1 := []) (h1 := hh S) (p2 := 7) (L2 := [.ref x0]) (s2 := []) (h2 := hh S) 1 (fun n => B_19_2 n x0 S) c2 ?_
    refine Ev.g (c := (kd x0).1 = 10 + 0) (p1 := 21) (L1 := [.ref x0]) (s1 := [.int (S.1 x0 1), .int 11, .int 4]) (h1 := hh S) 4 (fun n => B_19_3 n x0 S) g1 ?_
    refine Ev.z (c := (16 : Int32) = 0) (p1 := 25) (L1 := [.ref x0]) (s1 := [.int ((11 * (S.1 x0 1)) / 16), .int 4]) (h1 := hh S) 3 (fun n => B_19_4 n x0 S) (by decide) ?_
    obtain ⟨e1, e2⟩ := Prod.mk.inj (Option.some.inj hG)
    subst e1
    subst e2
    exact Ev.r 2 (fun n => rfl)
  · rw [if_neg c2] at hG
    refine Ev.f (c := (S.1 x0 6) = 0) (p1 := 14) (L1 := [.ref x0]) (s1 := []) (h1 := hh S) (p2 := 7) (L2 := [.ref x0]) (s2 := []) (h2 := hh S) 1 (fun n => B_19_5 n x0 S) c2 ?_
    refine Ev.g (c := (kd x0).1 = 10 + 0) (p1 := 11) (L1 := [.ref x0]) (s1 := [.int (S.1 x0 6)]) (h1 := hh S) 2 (fun n => B_19_6 n x0 S) g1 ?_
    obtain ⟨e1, e2⟩ := Prod.mk.inj (Option.some.inj hG)
    subst e1
    subst e2
    exact Ev.r 2 (fun n => rfl)
/-- 20: SceneCycle$Actor.baseMeets(III)Z -/
def G_20 (S : St) (x0 : Nat) (x1 : Int32) (x2 : Int32) (x3 : Int32) : Option (Int32 × St) :=
  (if (kd x0).1 = 10 + 0 then
    (if x2 = (S.1 x0 1) then
      (if ((S.1 x0 0) + (S.1 x0 2)) ≤ x1 then
        some (0, S)
      else
        (if (x1 + x3) ≤ (S.1 x0 0) then
          some (0, S)
        else
          some (1, S)
        )
      )
    else
      some (0, S)
    )
  else none)
theorem B_20_1 {X : Nat × (Nat → Int32)} {d : Nat} (n : Nat) (x0 : Nat) (x1 : Int32) (x2 : Int32) (x3 : Int32) (S : St) : ex X d 20 0 [.ref x0, .int x1, .int x2, .int x3] [] (hh S) (n + 3) = if (kd x0).1 = 10 + 0 then ex X d 20 5 [.ref x0, .int x1, .int x2, .int x3] [.int (S.1 x0 1), .int x2] (hh S) n else none := rfl
theorem B_20_2 {X : Nat × (Nat → Int32)} {d : Nat} (n : Nat) (x0 : Nat) (x1 : Int32) (x2 : Int32) (x3 : Int32) (S : St) : ex X d 20 5 [.ref x0, .int x1, .int x2, .int x3] [.int (S.1 x0 1), .int x2] (hh S) (n + 1) = if x2 = (S.1 x0 1) then ex X d 20 8 [.ref x0, .int x1, .int x2, .int x3] [] (hh S) n else ex X d 20 35 [.ref x0, .int x1, .int x2, .int x3] [] (hh S) n := rfl
theorem B_20_3 {X : Nat × (Nat → Int32)} {d : Nat} (n : Nat) (x0 : Nat) (x1 : Int32) (x2 : Int32) (x3 : Int32) (S : St) : ex X d 20 8 [.ref x0, .int x1, .int x2, .int x3] [] (hh S) (n + 3) = if (kd x0).1 = 10 + 0 then ex X d 20 13 [.ref x0, .int x1, .int x2, .int x3] [.int (S.1 x0 0), .int x1] (hh S) n else none := rfl
theorem B_20_4 {X : Nat × (Nat → Int32)} {d : Nat} (n : Nat) (x0 : Nat) (x1 : Int32) (x2 : Int32) (x3 : Int32) (S : St) : ex X d 20 13 [.ref x0, .int x1, .int x2, .int x3] [.int (S.1 x0 0), .int x1] (hh S) (n + 2) = if (kd x0).1 = 10 + 0 then ex X d 20 17 [.ref x0, .int x1, .int x2, .int x3] [.int (S.1 x0 2), .int (S.1 x0 0), .int x1] (hh S) n else none := rfl
theorem B_20_5 {X : Nat × (Nat → Int32)} {d : Nat} (n : Nat) (x0 : Nat) (x1 : Int32) (x2 : Int32) (x3 : Int32) (S : St) : ex X d 20 17 [.ref x0, .int x1, .int x2, .int x3] [.int (S.1 x0 2), .int (S.1 x0 0), .int x1] (hh S) (n + 2) = if ((S.1 x0 0) + (S.1 x0 2)) ≤ x1 then ex X d 20 35 [.ref x0, .int x1, .int x2, .int x3] [] (hh S) n else ex X d 20 21 [.ref x0, .int x1, .int x2, .int x3] [] (hh S) n := rfl
theorem B_20_6 {X : Nat × (Nat → Int32)} {d : Nat} (n : Nat) (x0 : Nat) (x1 : Int32) (x2 : Int32) (x3 : Int32) (S : St) : ex X d 20 17 [.ref x0, .int x1, .int x2, .int x3] [.int (S.1 x0 2), .int (S.1 x0 0), .int x1] (hh S) (n + 2) = if ((S.1 x0 0) + (S.1 x0 2)) ≤ x1 then ex X d 20 35 [.ref x0, .int x1, .int x2, .int x3] [] (hh S) n else ex X d 20 21 [.ref x0, .int x1, .int x2, .int x3] [] (hh S) n := rfl
theorem B_20_7 {X : Nat × (Nat → Int32)} {d : Nat} (n : Nat) (x0 : Nat) (x1 : Int32) (x2 : Int32) (x3 : Int32) (S : St) : ex X d 20 21 [.ref x0, .int x1, .int x2, .int x3] [] (hh S) (n + 2) = if (kd x0).1 = 10 + 0 then ex X d 20 25 [.ref x0, .int x1, .int x2, .int x3] [.int (S.1 x0 0)] (hh S) n else none := rfl
theorem B_20_8 {X : Nat × (Nat → Int32)} {d : Nat} (n : Nat) (x0 : Nat) (x1 : Int32) (x2 : Int32) (x3 : Int32) (S : St) : ex X d 20 25 [.ref x0, .int x1, .int x2, .int x3] [.int (S.1 x0 0)] (hh S) (n + 4) = if (x1 + x3) ≤ (S.1 x0 0) then ex X d 20 35 [.ref x0, .int x1, .int x2, .int x3] [] (hh S) n else ex X d 20 31 [.ref x0, .int x1, .int x2, .int x3] [] (hh S) n := rfl
theorem B_20_9 {X : Nat × (Nat → Int32)} {d : Nat} (n : Nat) (x0 : Nat) (x1 : Int32) (x2 : Int32) (x3 : Int32) (S : St) : ex X d 20 25 [.ref x0, .int x1, .int x2, .int x3] [.int (S.1 x0 0)] (hh S) (n + 4) = if (x1 + x3) ≤ (S.1 x0 0) then ex X d 20 35 [.ref x0, .int x1, .int x2, .int x3] [] (hh S) n else ex X d 20 31 [.ref x0, .int x1, .int x2, .int x3] [] (hh S) n := rfl
theorem B_20_10 {X : Nat × (Nat → Int32)} {d : Nat} (n : Nat) (x0 : Nat) (x1 : Int32) (x2 : Int32) (x3 : Int32) (S : St) : ex X d 20 5 [.ref x0, .int x1, .int x2, .int x3] [.int (S.1 x0 1), .int x2] (hh S) (n + 1) = if x2 = (S.1 x0 1) then ex X d 20 8 [.ref x0, .int x1, .int x2, .int x3] [] (hh S) n else ex X d 20 35 [.ref x0, .int x1, .int x2, .int x3] [] (hh S) n := rfl
set_option maxRecDepth 200000 in
theorem T_20 {X : Nat × (Nat → Int32)} (S : St) (x0 : Nat) (x1 : Int32) (x2 : Int32) (x3 : Int32) (r : Int32) (S' : St) (hG : G_20 S x0 x1 x2 x3 = some (r, S')) : Ev X 0 20 0 [.ref x0, .int x1, .int x2, .int x3] [] (hh S) (xI r, hh S') := by
  unfold G_20 at hG
  by_cases g1 : (kd x0).1 = 10 + 0
  rotate_left
  · rw [if_neg g1] at hG; cases hG
  rw [if_pos g1] at hG
  refine Ev.g (c := (kd x0).1 = 10 + 0) (p1 := 5) (L1 := [.ref x0, .int x1, .int x2, .int x3]) (s1 := [.int (S.1 x0 1), .int x2]) (h1 := hh S) 3 (fun n => B_20_1 n x0 x1 x2 x3 S) g1 ?_
  by_cases c2 : x2 = (S.1 x0 1)
  · rw [if_pos c2] at hG
    refine Ev.t (c := x2 = (S.1 x0 1)) (p1 := 8) (L1 := [.ref x0, .int x1, .int x2, .int x3]) (s1 := []) (h1 := hh S) (p2 := 35) (L2 := [.ref x0, .int x1, .int x2, .int x3]) (s2 := []) (h2 := hh S) 1 (fun n => B_20_2 n x0 x1 x2 x3 S) c2 ?_
    refine Ev.g (c := (kd x0).1 = 10 + 0) (p1 := 13) (L1 := [.ref x0, .int x1, .int x2, .int x3]) (s1 := [.int (S.1 x0 0), .int x1]) (h1 := hh S) 3 (fun n => B_20_3 n x0 x1 x2 x3 S) g1 ?_
    refine Ev.g (c := (kd x0).1 = 10 + 0) (p1 := 17) (L1 := [.ref x0, .int x1, .int x2, .int x3]) (s1 := [.int (S.1 x0 2), .int (S.1 x0 0), .int x1]) (h1 := hh S) 2 (fun n => B_20_4 n x0 x1 x2 x3 S) g1 ?_
    by_cases c3 : ((S.1 x0 0) + (S.1 x0 2)) ≤ x1
    · rw [if_pos c3] at hG
      refine Ev.t (c := ((S.1 x0 0) + (S.1 x0 2)) ≤ x1) (p1 := 35) (L1 := [.ref x0, .int x1, .int x2, .int x3]) (s1 := []) (h1 := hh S) (p2 := 21) (L2 := [.ref x0, .int x1, .int x2, .int x3]) (s2 := []) (h2 := hh S) 2 (fun n => B_20_5 n x0 x1 x2 x3 S) c3 ?_
      obtain ⟨e1, e2⟩ := Prod.mk.inj (Option.some.inj hG)
      subst e1
      subst e2
      exact Ev.rg (c := (xm_z 20 = 0 ∨ (xm_z 20 = 1 ∧ ((0 : Int32) = 0 ∨ (0 : Int32) = 1)) ∨ (xm_z 20 = 2 ∧ ((0 : Int32)).toInt8.toInt32 = (0 : Int32)) ∨ (xm_z 20 = 3 ∧ ((0 : Int32)).toUInt32.toUInt16.toUInt32.toInt32 = (0 : Int32)))) 2 (fun n => rfl) (Or.inr (Or.inl ⟨rfl, by decide⟩))
    · rw [if_neg c3] at hG
      refine Ev.f (c := ((S.1 x0 0) + (S.1 x0 2)) ≤ x1) (p1 := 35) (L1 := [.ref x0, .int x1, .int x2, .int x3]) (s1 := []) (h1 := hh S) (p2 := 21) (L2 := [.ref x0, .int x1, .int x2, .int x3]) (s2 := []) (h2 := hh S) 2 (fun n => B_20_6 n x0 x1 x2 x3 S) c3 ?_
      refine Ev.g (c := (kd x0).1 = 10 + 0) (p1 := 25) (L1 := [.ref x0, .int x1, .int x2, .int x3]) (s1 := [.int (S.1 x0 0)]) (h1 := hh S) 2 (fun n => B_20_7 n x0 x1 x2 x3 S) g1 ?_
      by_cases c4 : (x1 + x3) ≤ (S.1 x0 0)
      · rw [if_pos c4] at hG
        refine Ev.t (c := (x1 + x3) ≤ (S.1 x0 0)) (p1 := 35) (L1 := [.ref x0, .int x1, .int x2, .int x3]) (s1 := []) (h1 := hh S) (p2 := 31) (L2 := [.ref x0, .int x1, .int x2, .int x3]) (s2 := []) (h2 := hh S) 4 (fun n => B_20_8 n x0 x1 x2 x3 S) c4 ?_
        obtain ⟨e1, e2⟩ := Prod.mk.inj (Option.some.inj hG)
        subst e1
        subst e2
        exact Ev.rg (c := (xm_z 20 = 0 ∨ (xm_z 20 = 1 ∧ ((0 : Int32) = 0 ∨ (0 : Int32) = 1)) ∨ (xm_z 20 = 2 ∧ ((0 : Int32)).toInt8.toInt32 = (0 : Int32)) ∨ (xm_z 20 = 3 ∧ ((0 : Int32)).toUInt32.toUInt16.toUInt32.toInt32 = (0 : Int32)))) 2 (fun n => rfl) (Or.inr (Or.inl ⟨rfl, by decide⟩))
      · rw [if_neg c4] at hG
        refine Ev.f (c := (x1 + x3) ≤ (S.1 x0 0)) (p1 := 35) (L1 := [.ref x0, .int x1, .int x2, .int x3]) (s1 := []) (h1 := hh S) (p2 := 31) (L2 := [.ref x0, .int x1, .int x2, .int x3]) (s2 := []) (h2 := hh S) 4 (fun n => B_20_9 n x0 x1 x2 x3 S) c4 ?_
        obtain ⟨e1, e2⟩ := Prod.mk.inj (Option.some.inj hG)
        subst e1
        subst e2
        exact Ev.rg (c := (xm_z 20 = 0 ∨ (xm_z 20 = 1 ∧ ((1 : Int32) = 0 ∨ (1 : Int32) = 1)) ∨ (xm_z 20 = 2 ∧ ((1 : Int32)).toInt8.toInt32 = (1 : Int32)) ∨ (xm_z 20 = 3 ∧ ((1 : Int32)).toUInt32.toUInt16.toUInt32.toInt32 = (1 : Int32)))) 3 (fun n => rfl) (Or.inr (Or.inl ⟨rfl, by decide⟩))
  · rw [if_neg c2] at hG
    refine Ev.f (c := x2 = (S.1 x0 1)) (p1 := 8) (L1 := [.ref x0, .int x1, .int x2, .int x3]) (s1 := []) (h1 := hh S) (p2 := 35) (L2 := [.ref x0, .int x1, .int x2, .int x3]) (s2 := []) (h2 := hh S) 1 (fun n => B_20_10 n x0 x1 x2 x3 S) c2 ?_
    obtain ⟨e1, e2⟩ := Prod.mk.inj (Option.some.inj hG)
    subst e1
    subst e2
    exact Ev.rg (c := (xm_z 20 = 0 ∨ (xm_z 20 = 1 ∧ ((0 : Int32) = 0 ∨ (0 : Int32) = 1)) ∨ (xm_z 20 = 2 ∧ ((0 : Int32)).toInt8.toInt32 = (0 : Int32)) ∨ (xm_z 20 = 3 ∧ ((0 : Int32)).toUInt32.toUInt16.toUInt32.toInt32 = (0 : Int32)))) 2 (fun n => rfl) (Or.inr (Or.inl ⟨rfl, by decide⟩))
/-- 21: SceneCycle$Actor.covers(II)Z -/
def G_21 (S : St) (x0 : Nat) (x1 : Int32) (x2 : Int32) : Option (Int32 × St) :=
  (if (kd x0).1 = 10 + 0 then
    (if (S.1 x0 7) = 0 then
      some (0, S)
    else
      (if x1 < (S.1 x0 0) then
        some (0, S)
      else
        (if ((S.1 x0 0) + (S.1 x0 2)) ≤ x1 then
          some (0, S)
        else
          (if (S.1 x0 1) < x2 then
            some (0, S)
          else
            (if x2 ≤ ((S.1 x0 1) - (S.1 x0 3)) then
              some (0, S)
            else
              some (1, S)
            )
          )
        )
      )
    )
  else none)
theorem B_21_1 {X : Nat × (Nat → Int32)} {d : Nat} (n : Nat) (x0 : Nat) (x1 : Int32) (x2 : Int32) (S : St) : ex X d 21 0 [.ref x0, .int x1, .int x2] [] (hh S) (n + 2) = if (kd x0).1 = 10 + 0 then ex X d 21 4 [.ref x0, .int x1, .int x2] [.int (S.1 x0 7)] (hh S) n else none := rfl
theorem B_21_2 {X : Nat × (Nat → Int32)} {d : Nat} (n : Nat) (x0 : Nat) (x1 : Int32) (x2 : Int32) (S : St) : ex X d 21 4 [.ref x0, .int x1, .int x2] [.int (S.1 x0 7)] (hh S) (n + 1) = if (S.1 x0 7) = 0 then ex X d 21 53 [.ref x0, .int x1, .int x2] [] (hh S) n else ex X d 21 7 [.ref x0, .int x1, .int x2] [] (hh S) n := rfl
theorem B_21_3 {X : Nat × (Nat → Int32)} {d : Nat} (n : Nat) (x0 : Nat) (x1 : Int32) (x2 : Int32) (S : St) : ex X d 21 4 [.ref x0, .int x1, .int x2] [.int (S.1 x0 7)] (hh S) (n + 1) = if (S.1 x0 7) = 0 then ex X d 21 53 [.ref x0, .int x1, .int x2] [] (hh S) n else ex X d 21 7 [.ref x0, .int x1, .int x2] [] (hh S) n := rfl
theorem B_21_4 {X : Nat × (Nat → Int32)} {d : Nat} (n : Nat) (x0 : Nat) (x1 : Int32) (x2 : Int32) (S : St) : ex X d 21 7 [.ref x0, .int x1, .int x2] [] (hh S) (n + 3) = if (kd x0).1 = 10 + 0 then ex X d 21 12 [.ref x0, .int x1, .int x2] [.int (S.1 x0 0), .int x1] (hh S) n else none := rfl
theorem B_21_5 {X : Nat × (Nat → Int32)} {d : Nat} (n : Nat) (x0 : Nat) (x1 : Int32) (x2 : Int32) (S : St) : ex X d 21 12 [.ref x0, .int x1, .int x2] [.int (S.1 x0 0), .int x1] (hh S) (n + 1) = if x1 < (S.1 x0 0) then ex X d 21 53 [.ref x0, .int x1, .int x2] [] (hh S) n else ex X d 21 15 [.ref x0, .int x1, .int x2] [] (hh S) n := rfl
theorem B_21_6 {X : Nat × (Nat → Int32)} {d : Nat} (n : Nat) (x0 : Nat) (x1 : Int32) (x2 : Int32) (S : St) : ex X d 21 12 [.ref x0, .int x1, .int x2] [.int (S.1 x0 0), .int x1] (hh S) (n + 1) = if x1 < (S.1 x0 0) then ex X d 21 53 [.ref x0, .int x1, .int x2] [] (hh S) n else ex X d 21 15 [.ref x0, .int x1, .int x2] [] (hh S) n := rfl
theorem B_21_7 {X : Nat × (Nat → Int32)} {d : Nat} (n : Nat) (x0 : Nat) (x1 : Int32) (x2 : Int32) (S : St) : ex X d 21 15 [.ref x0, .int x1, .int x2] [] (hh S) (n + 3) = if (kd x0).1 = 10 + 0 then ex X d 21 20 [.ref x0, .int x1, .int x2] [.int (S.1 x0 0), .int x1] (hh S) n else none := rfl
theorem B_21_8 {X : Nat × (Nat → Int32)} {d : Nat} (n : Nat) (x0 : Nat) (x1 : Int32) (x2 : Int32) (S : St) : ex X d 21 20 [.ref x0, .int x1, .int x2] [.int (S.1 x0 0), .int x1] (hh S) (n + 2) = if (kd x0).1 = 10 + 0 then ex X d 21 24 [.ref x0, .int x1, .int x2] [.int (S.1 x0 2), .int (S.1 x0 0), .int x1] (hh S) n else none := rfl
theorem B_21_9 {X : Nat × (Nat → Int32)} {d : Nat} (n : Nat) (x0 : Nat) (x1 : Int32) (x2 : Int32) (S : St) : ex X d 21 24 [.ref x0, .int x1, .int x2] [.int (S.1 x0 2), .int (S.1 x0 0), .int x1] (hh S) (n + 2) = if ((S.1 x0 0) + (S.1 x0 2)) ≤ x1 then ex X d 21 53 [.ref x0, .int x1, .int x2] [] (hh S) n else ex X d 21 28 [.ref x0, .int x1, .int x2] [] (hh S) n := rfl
theorem B_21_10 {X : Nat × (Nat → Int32)} {d : Nat} (n : Nat) (x0 : Nat) (x1 : Int32) (x2 : Int32) (S : St) : ex X d 21 24 [.ref x0, .int x1, .int x2] [.int (S.1 x0 2), .int (S.1 x0 0), .int x1] (hh S) (n + 2) = if ((S.1 x0 0) + (S.1 x0 2)) ≤ x1 then ex X d 21 53 [.ref x0, .int x1, .int x2] [] (hh S) n else ex X d 21 28 [.ref x0, .int x1, .int x2] [] (hh S) n := rfl
theorem B_21_11 {X : Nat × (Nat → Int32)} {d : Nat} (n : Nat) (x0 : Nat) (x1 : Int32) (x2 : Int32) (S : St) : ex X d 21 28 [.ref x0, .int x1, .int x2] [] (hh S) (n + 3) = if (kd x0).1 = 10 + 0 then ex X d 21 33 [.ref x0, .int x1, .int x2] [.int (S.1 x0 1), .int x2] (hh S) n else none := rfl
theorem B_21_12 {X : Nat × (Nat → Int32)} {d : Nat} (n : Nat) (x0 : Nat) (x1 : Int32) (x2 : Int32) (S : St) : ex X d 21 33 [.ref x0, .int x1, .int x2] [.int (S.1 x0 1), .int x2] (hh S) (n + 1) = if (S.1 x0 1) < x2 then ex X d 21 53 [.ref x0, .int x1, .int x2] [] (hh S) n else ex X d 21 36 [.ref x0, .int x1, .int x2] [] (hh S) n := rfl
theorem B_21_13 {X : Nat × (Nat → Int32)} {d : Nat} (n : Nat) (x0 : Nat) (x1 : Int32) (x2 : Int32) (S : St) : ex X d 21 33 [.ref x0, .int x1, .int x2] [.int (S.1 x0 1), .int x2] (hh S) (n + 1) = if (S.1 x0 1) < x2 then ex X d 21 53 [.ref x0, .int x1, .int x2] [] (hh S) n else ex X d 21 36 [.ref x0, .int x1, .int x2] [] (hh S) n := rfl
theorem B_21_14 {X : Nat × (Nat → Int32)} {d : Nat} (n : Nat) (x0 : Nat) (x1 : Int32) (x2 : Int32) (S : St) : ex X d 21 36 [.ref x0, .int x1, .int x2] [] (hh S) (n + 3) = if (kd x0).1 = 10 + 0 then ex X d 21 41 [.ref x0, .int x1, .int x2] [.int (S.1 x0 1), .int x2] (hh S) n else none := rfl
theorem B_21_15 {X : Nat × (Nat → Int32)} {d : Nat} (n : Nat) (x0 : Nat) (x1 : Int32) (x2 : Int32) (S : St) : ex X d 21 41 [.ref x0, .int x1, .int x2] [.int (S.1 x0 1), .int x2] (hh S) (n + 2) = if (kd x0).1 = 10 + 0 then ex X d 21 45 [.ref x0, .int x1, .int x2] [.int (S.1 x0 3), .int (S.1 x0 1), .int x2] (hh S) n else none := rfl
theorem B_21_16 {X : Nat × (Nat → Int32)} {d : Nat} (n : Nat) (x0 : Nat) (x1 : Int32) (x2 : Int32) (S : St) : ex X d 21 45 [.ref x0, .int x1, .int x2] [.int (S.1 x0 3), .int (S.1 x0 1), .int x2] (hh S) (n + 2) = if x2 ≤ ((S.1 x0 1) - (S.1 x0 3)) then ex X d 21 53 [.ref x0, .int x1, .int x2] [] (hh S) n else ex X d 21 49 [.ref x0, .int x1, .int x2] [] (hh S) n := rfl
theorem B_21_17 {X : Nat × (Nat → Int32)} {d : Nat} (n : Nat) (x0 : Nat) (x1 : Int32) (x2 : Int32) (S : St) : ex X d 21 45 [.ref x0, .int x1, .int x2] [.int (S.1 x0 3), .int (S.1 x0 1), .int x2] (hh S) (n + 2) = if x2 ≤ ((S.1 x0 1) - (S.1 x0 3)) then ex X d 21 53 [.ref x0, .int x1, .int x2] [] (hh S) n else ex X d 21 49 [.ref x0, .int x1, .int x2] [] (hh S) n := rfl
set_option maxRecDepth 200000 in
theorem T_21 {X : Nat × (Nat → Int32)} (S : St) (x0 : Nat) (x1 : Int32) (x2 : Int32) (r : Int32) (S' : St) (hG : G_21 S x0 x1 x2 = some (r, S')) : Ev X 0 21 0 [.ref x0, .int x1, .int x2] [] (hh S) (xI r, hh S') := by
  unfold G_21 at hG
  by_cases g1 : (kd x0).1 = 10 + 0
  rotate_left
  · rw [if_neg g1] at hG; cases hG
  rw [if_pos g1] at hG
  refine Ev.g (c := (kd x0).1 = 10 + 0) (p1 := 4) (L1 := [.ref x0, .int x1, .int x2]) (s1 := [.int (S.1 x0 7)]) (h1 := hh S) 2 (fun n => B_21_1 n x0 x1 x2 S) g1 ?_
  by_cases c2 : (S.1 x0 7) = 0
  · rw [if_pos c2] at hG
    refine Ev.t (c := (S.1 x0 7) = 0) (p1 := 53) (L1 := [.ref x0, .int x1, .int x2]) (s1 := []) (h1 := hh S) (p2 := 7) (L2 := [.ref x0, .int x1, .int x2]) (s2 := []) (h2 := hh S) 1 (fun n => B_21_2 n x0 x1 x2 S) c2 ?_
    obtain ⟨e1, e2⟩ := Prod.mk.inj (Option.some.inj hG)
    subst e1
    subst e2
    exact Ev.rg (c := (xm_z 21 = 0 ∨ (xm_z 21 = 1 ∧ ((0 : Int32) = 0 ∨ (0 : Int32) = 1)) ∨ (xm_z 21 = 2 ∧ ((0 : Int32)).toInt8.toInt32 = (0 : Int32)) ∨ (xm_z 21 = 3 ∧ ((0 : Int32)).toUInt32.toUInt16.toUInt32.toInt32 = (0 : Int32)))) 2 (fun n => rfl) (Or.inr (Or.inl ⟨rfl, by decide⟩))
  · rw [if_neg c2] at hG
    refine Ev.f (c := (S.1 x0 7) = 0) (p1 := 53) (L1 := [.ref x0, .int x1, .int x2]) (s1 := []) (h1 := hh S) (p2 := 7) (L2 := [.ref x0, .int x1, .int x2]) (s2 := []) (h2 := hh S) 1 (fun n => B_21_3 n x0 x1 x2 S) c2 ?_
    refine Ev.g (c := (kd x0).1 = 10 + 0) (p1 := 12) (L1 := [.ref x0, .int x1, .int x2]) (s1 := [.int (S.1 x0 0), .int x1]) (h1 := hh S) 3 (fun n => B_21_4 n x0 x1 x2 S) g1 ?_
    by_cases c3 : x1 < (S.1 x0 0)
    · rw [if_pos c3] at hG
      refine Ev.t (c := x1 < (S.1 x0 0)) (p1 := 53) (L1 := [.ref x0, .int x1, .int x2]) (s1 := []) (h1 := hh S) (p2 := 15) (L2 := [.ref x0, .int x1, .int x2]) (s2 := []) (h2 := hh S) 1 (fun n => B_21_5 n x0 x1 x2 S) c3 ?_
      obtain ⟨e1, e2⟩ := Prod.mk.inj (Option.some.inj hG)
      subst e1
      subst e2
      exact Ev.rg (c := (xm_z 21 = 0 ∨ (xm_z 21 = 1 ∧ ((0 : Int32) = 0 ∨ (0 : Int32) = 1)) ∨ (xm_z 21 = 2 ∧ ((0 : Int32)).toInt8.toInt32 = (0 : Int32)) ∨ (xm_z 21 = 3 ∧ ((0 : Int32)).toUInt32.toUInt16.toUInt32.toInt32 = (0 : Int32)))) 2 (fun n => rfl) (Or.inr (Or.inl ⟨rfl, by decide⟩))
    · rw [if_neg c3] at hG
      refine Ev.f (c := x1 < (S.1 x0 0)) (p1 := 53) (L1 := [.ref x0, .int x1, .int x2]) (s1 := []) (h1 := hh S) (p2 := 15) (L2 := [.ref x0, .int x1, .int x2]) (s2 := []) (h2 := hh S) 1 (fun n => B_21_6 n x0 x1 x2 S) c3 ?_
      refine Ev.g (c := (kd x0).1 = 10 + 0) (p1 := 20) (L1 := [.ref x0, .int x1, .int x2]) (s1 := [.int (S.1 x0 0), .int x1]) (h1 := hh S) 3 (fun n => B_21_7 n x0 x1 x2 S) g1 ?_
      refine Ev.g (c := (kd x0).1 = 10 + 0) (p1 := 24) (L1 := [.ref x0, .int x1, .int x2]) (s1 := [.int (S.1 x0 2), .int (S.1 x0 0), .int x1]) (h1 := hh S) 2 (fun n => B_21_8 n x0 x1 x2 S) g1 ?_
      by_cases c4 : ((S.1 x0 0) + (S.1 x0 2)) ≤ x1
      · rw [if_pos c4] at hG
        refine Ev.t (c := ((S.1 x0 0) + (S.1 x0 2)) ≤ x1) (p1 := 53) (L1 := [.ref x0, .int x1, .int x2]) (s1 := []) (h1 := hh S) (p2 := 28) (L2 := [.ref x0, .int x1, .int x2]) (s2 := []) (h2 := hh S) 2 (fun n => B_21_9 n x0 x1 x2 S) c4 ?_
        obtain ⟨e1, e2⟩ := Prod.mk.inj (Option.some.inj hG)
        subst e1
        subst e2
        exact Ev.rg (c := (xm_z 21 = 0 ∨ (xm_z 21 = 1 ∧ ((0 : Int32) = 0 ∨ (0 : Int32) = 1)) ∨ (xm_z 21 = 2 ∧ ((0 : Int32)).toInt8.toInt32 = (0 : Int32)) ∨ (xm_z 21 = 3 ∧ ((0 : Int32)).toUInt32.toUInt16.toUInt32.toInt32 = (0 : Int32)))) 2 (fun n => rfl) (Or.inr (Or.inl ⟨rfl, by decide⟩))
      · rw [if_neg c4] at hG
        refine Ev.f (c := ((S.1 x0 0) + (S.1 x0 2)) ≤ x1) (p1 := 53) (L1 := [.ref x0, .int x1, .int x2]) (s1 := []) (h1 := hh S) (p2 := 28) (L2 := [.ref x0, .int x1, .int x2]) (s2 := []) (h2 := hh S) 2 (fun n => B_21_10 n x0 x1 x2 S) c4 ?_
        refine Ev.g (c := (kd x0).1 = 10 + 0) (p1 := 33) (L1 := [.ref x0, .int x1, .int x2]) (s1 := [.int (S.1 x0 1), .int x2]) (h1 := hh S) 3 (fun n => B_21_11 n x0 x1 x2 S) g1 ?_
        by_cases c5 : (S.1 x0 1) < x2
        · rw [if_pos c5] at hG
          refine Ev.t (c := (S.1 x0 1) < x2) (p1 := 53) (L1 := [.ref x0, .int x1, .int x2]) (s1 := []) (h1 := hh S) (p2 := 36) (L2 := [.ref x0, .int x1, .int x2]) (s2 := []) (h2 := hh S) 1 (fun n => B_21_12 n x0 x1 x2 S) c5 ?_
          obtain ⟨e1, e2⟩ := Prod.mk.inj (Option.some.inj hG)
          subst e1
          subst e2
          exact Ev.rg (c := (xm_z 21 = 0 ∨ (xm_z 21 = 1 ∧ ((0 : Int32) = 0 ∨ (0 : Int32) = 1)) ∨ (xm_z 21 = 2 ∧ ((0 : Int32)).toInt8.toInt32 = (0 : Int32)) ∨ (xm_z 21 = 3 ∧ ((0 : Int32)).toUInt32.toUInt16.toUInt32.toInt32 = (0 : Int32)))) 2 (fun n => rfl) (Or.inr (Or.inl ⟨rfl, by decide⟩))
        · rw [if_neg c5] at hG
          refine Ev.f (c := (S.1 x0 1) < x2) (p1 := 53) (L1 := [.ref x0, .int x1, .int x2]) (s1 := []) (h1 := hh S) (p2 := 36) (L2 := [.ref x0, .int x1, .int x2]) (s2 := []) (h2 := hh S) 1 (fun n => B_21_13 n x0 x1 x2 S) c5 ?_
          refine Ev.g (c := (kd x0).1 = 10 + 0) (p1 := 41) (L1 := [.ref x0, .int x1, .int x2]) (s1 := [.int (S.1 x0 1), .int x2]) (h1 := hh S) 3 (fun n => B_21_14 n x0 x1 x2 S) g1 ?_
          refine Ev.g (c := (kd x0).1 = 10 + 0) (p1 := 45) (L1 := [.ref x0, .int x1, .int x2]) (s1 := [.int (S.1 x0 3), .int (S.1 x0 1), .int x2]) (h1 := hh S) 2 (fun n => B_21_15 n x0 x1 x2 S) g1 ?_
          by_cases c6 : x2 ≤ ((S.1 x0 1) - (S.1 x0 3))
          · rw [if_pos c6] at hG
            refine Ev.t (c := x2 ≤ ((S.1 x0 1) - (S.1 x0 3))) (p1 := 53) (L1 := [.ref x0, .int x1, .int x2]) (s1 := []) (h1 := hh S) (p2 := 49) (L2 := [.ref x0, .int x1, .int x2]) (s2 := []) (h2 := hh S) 2 (fun n => B_21_16 n x0 x1 x2 S) c6 ?_
            obtain ⟨e1, e2⟩ := Prod.mk.inj (Option.some.inj hG)
            subst e1
            subst e2
            exact Ev.rg (c := (xm_z 21 = 0 ∨ (xm_z 21 = 1 ∧ ((0 : Int32) = 0 ∨ (0 : Int32) = 1)) ∨ (xm_z 21 = 2 ∧ ((0 : Int32)).toInt8.toInt32 = (0 : Int32)) ∨ (xm_z 21 = 3 ∧ ((0 : Int32)).toUInt32.toUInt16.toUInt32.toInt32 = (0 : Int32)))) 2 (fun n => rfl) (Or.inr (Or.inl ⟨rfl, by decide⟩))
          · rw [if_neg c6] at hG
            refine Ev.f (c := x2 ≤ ((S.1 x0 1) - (S.1 x0 3))) (p1 := 53) (L1 := [.ref x0, .int x1, .int x2]) (s1 := []) (h1 := hh S) (p2 := 49) (L2 := [.ref x0, .int x1, .int x2]) (s2 := []) (h2 := hh S) 2 (fun n => B_21_17 n x0 x1 x2 S) c6 ?_
            obtain ⟨e1, e2⟩ := Prod.mk.inj (Option.some.inj hG)
            subst e1
            subst e2
            exact Ev.rg (c := (xm_z 21 = 0 ∨ (xm_z 21 = 1 ∧ ((1 : Int32) = 0 ∨ (1 : Int32) = 1)) ∨ (xm_z 21 = 2 ∧ ((1 : Int32)).toInt8.toInt32 = (1 : Int32)) ∨ (xm_z 21 = 3 ∧ ((1 : Int32)).toUInt32.toUInt16.toUInt32.toInt32 = (1 : Int32)))) 3 (fun n => rfl) (Or.inr (Or.inl ⟨rfl, by decide⟩))
/-- 22: SceneCycle$Actor.isBehind(LSceneCycle$Actor;)Z -/
def G_22 (S : St) (x0 : Nat) (x1 : Nat) : Option (Int32 × St) :=
  (if (kd x0).1 = 10 + 0 then
    (match G_19 S x0 with
    | none => none
    | some (v1, S1) =>
      (if (kd x1).1 = 10 + 0 then
        (match G_19 S1 x1 with
        | none => none
        | some (v3, S3) =>
          (if v1 = v3 then
            (if (S3.1 x1 1) ≤ (S3.1 x0 1) then
              some (0, S3)
            else
              some (1, S3)
            )
          else
            (match G_19 S3 x0 with
            | none => none
            | some (v7, S7) =>
              (match G_19 S7 x1 with
              | none => none
              | some (v8, S8) =>
                (if v8 ≤ v7 then
                  some (0, S8)
                else
                  some (1, S8)
                )
              )
            )
          )
        )
      else none)
    )
  else none)
theorem B_22_1 {X : Nat × (Nat → Int32)} {d : Nat} (n : Nat) (x0 : Nat) (x1 : Nat) (S : St) : ex X (d + 1) 22 0 [.ref x0, .ref x1] [] (hh S) (n + 2) = if (xm_o 19 = 200 ∧ 2000 ≤ x0 ∧ x0 < 2000 + xS_n) ∨ (xm_o 19 ≠ 200 ∧ (kd x0).1 = 10 + xm_o 19) then (match ex X d 19 0 [.ref x0] [] (hh S) n with | some (v, h') => ex X (d + 1) 22 4 [.ref x0, .ref x1] (v.toList ++ []) h' n | none => none) else none := rfl
theorem B_22_2 {X : Nat × (Nat → Int32)} {d : Nat} (n : Nat) (x0 : Nat) (x1 : Nat) (v1 : Int32) (S1 : St) : ex X (d + 1) 22 4 [.ref x0, .ref x1] [.int v1] (hh S1) (n + 2) = if (xm_o 19 = 200 ∧ 2000 ≤ x1 ∧ x1 < 2000 + xS_n) ∨ (xm_o 19 ≠ 200 ∧ (kd x1).1 = 10 + xm_o 19) then (match ex X d 19 0 [.ref x1] [] (hh S1) n with | some (v, h') => ex X (d + 1) 22 8 [.ref x0, .ref x1] (v.toList ++ [.int v1]) h' n | none => none) else none := rfl
theorem B_22_3 {X : Nat × (Nat → Int32)} {d : Nat} (n : Nat) (x0 : Nat) (x1 : Nat) (v3 : Int32) (v1 : Int32) (S3 : St) : ex X d 22 8 [.ref x0, .ref x1] [.int v3, .int v1] (hh S3) (n + 1) = if v1 = v3 then ex X d 22 28 [.ref x0, .ref x1] [] (hh S3) n else ex X d 22 11 [.ref x0, .ref x1] [] (hh S3) n := rfl
theorem B_22_4 {X : Nat × (Nat → Int32)} {d : Nat} (n : Nat) (x0 : Nat) (x1 : Nat) (S3 : St) : ex X d 22 28 [.ref x0, .ref x1] [] (hh S3) (n + 2) = if (kd x0).1 = 10 + 0 then ex X d 22 32 [.ref x0, .ref x1] [.int (S3.1 x0 1)] (hh S3) n else none := rfl
theorem B_22_5 {X : Nat × (Nat → Int32)} {d : Nat} (n : Nat) (x0 : Nat) (x1 : Nat) (S3 : St) : ex X d 22 32 [.ref x0, .ref x1] [.int (S3.1 x0 1)] (hh S3) (n + 2) = if (kd x1).1 = 10 + 0 then ex X d 22 36 [.ref x0, .ref x1] [.int (S3.1 x1 1), .int (S3.1 x0 1)] (hh S3) n else none := rfl
theorem B_22_6 {X : Nat × (Nat → Int32)} {d : Nat} (n : Nat) (x0 : Nat) (x1 : Nat) (S3 : St) : ex X d 22 36 [.ref x0, .ref x1] [.int (S3.1 x1 1), .int (S3.1 x0 1)] (hh S3) (n + 1) = if (S3.1 x1 1) ≤ (S3.1 x0 1) then ex X d 22 43 [.ref x0, .ref x1] [] (hh S3) n else ex X d 22 39 [.ref x0, .ref x1] [] (hh S3) n := rfl
theorem B_22_7 {X : Nat × (Nat → Int32)} {d : Nat} (n : Nat) (x0 : Nat) (x1 : Nat) (S3 : St) : ex X d 22 36 [.ref x0, .ref x1] [.int (S3.1 x1 1), .int (S3.1 x0 1)] (hh S3) (n + 1) = if (S3.1 x1 1) ≤ (S3.1 x0 1) then ex X d 22 43 [.ref x0, .ref x1] [] (hh S3) n else ex X d 22 39 [.ref x0, .ref x1] [] (hh S3) n := rfl
theorem B_22_8 {X : Nat × (Nat → Int32)} {d : Nat} (n : Nat) (x0 : Nat) (x1 : Nat) (v3 : Int32) (v1 : Int32) (S3 : St) : ex X d 22 8 [.ref x0, .ref x1] [.int v3, .int v1] (hh S3) (n + 1) = if v1 = v3 then ex X d 22 28 [.ref x0, .ref x1] [] (hh S3) n else ex X d 22 11 [.ref x0, .ref x1] [] (hh S3) n := rfl
theorem B_22_9 {X : Nat × (Nat → Int32)} {d : Nat} (n : Nat) (x0 : Nat) (x1 : Nat) (S3 : St) : ex X (d + 1) 22 11 [.ref x0, .ref x1] [] (hh S3) (n + 2) = if (xm_o 19 = 200 ∧ 2000 ≤ x0 ∧ x0 < 2000 + xS_n) ∨ (xm_o 19 ≠ 200 ∧ (kd x0).1 = 10 + xm_o 19) then (match ex X d 19 0 [.ref x0] [] (hh S3) n with | some (v, h') => ex X (d + 1) 22 15 [.ref x0, .ref x1] (v.toList ++ []) h' n | none => none) else none := rfl
theorem B_22_10 {X : Nat × (Nat → Int32)} {d : Nat} (n : Nat) (x0 : Nat) (x1 : Nat) (v7 : Int32) (S7 : St) : ex X (d + 1) 22 15 [.ref x0, .ref x1] [.int v7] (hh S7) (n + 2) = if (xm_o 19 = 200 ∧ 2000 ≤ x1 ∧ x1 < 2000 + xS_n) ∨ (xm_o 19 ≠ 200 ∧ (kd x1).1 = 10 + xm_o 19) then (match ex X d 19 0 [.ref x1] [] (hh S7) n with | some (v, h') => ex X (d + 1) 22 19 [.ref x0, .ref x1] (v.toList ++ [.int v7]) h' n | none => none) else none := rfl
theorem B_22_11 {X : Nat × (Nat → Int32)} {d : Nat} (n : Nat) (x0 : Nat) (x1 : Nat) (v8 : Int32) (v7 : Int32) (S8 : St) : ex X d 22 19 [.ref x0, .ref x1] [.int v8, .int v7] (hh S8) (n + 1) = if v8 ≤ v7 then ex X d 22 26 [.ref x0, .ref x1] [] (hh S8) n else ex X d 22 22 [.ref x0, .ref x1] [] (hh S8) n := rfl
theorem B_22_12 {X : Nat × (Nat → Int32)} {d : Nat} (n : Nat) (x0 : Nat) (x1 : Nat) (v8 : Int32) (v7 : Int32) (S8 : St) : ex X d 22 19 [.ref x0, .ref x1] [.int v8, .int v7] (hh S8) (n + 1) = if v8 ≤ v7 then ex X d 22 26 [.ref x0, .ref x1] [] (hh S8) n else ex X d 22 22 [.ref x0, .ref x1] [] (hh S8) n := rfl
set_option maxRecDepth 200000 in
theorem T_22 {X : Nat × (Nat → Int32)} (S : St) (x0 : Nat) (x1 : Nat) (r : Int32) (S' : St) (hG : G_22 S x0 x1 = some (r, S')) : Ev X 1 22 0 [.ref x0, .ref x1] [] (hh S) (xI r, hh S') := by
  unfold G_22 at hG
  by_cases g2 : (kd x0).1 = 10 + 0
  rotate_left
  · rw [if_neg g2] at hG; cases hG
  rw [if_pos g2] at hG
  rcases h1 : G_19 S x0 with _ | ⟨v1, S1⟩
  · rw [h1] at hG; cases hG
  rw [h1] at hG
  dsimp only at hG
  refine Ev.cg (c := (xm_o 19 = 200 ∧ 2000 ≤ x0 ∧ x0 < 2000 + xS_n) ∨ (xm_o 19 ≠ 200 ∧ (kd x0).1 = 10 + xm_o 19)) (a := 19) (A := [.ref x0]) (h1 := hh S) (pc' := 4) (L' := [.ref x0, .ref x1]) (rest := []) (r1 := some (.int v1)) (h2 := hh S1) 2 (fun n => B_22_1 n x0 x1 S) (Or.inr ⟨by decide, g2⟩) (Ev.up (by decide) (T_19 S x0 _ _ h1)) ?_
  show Ev X _ 22 4 [.ref x0, .ref x1] [.int v1] (hh S1) _
  by_cases g4 : (kd x1).1 = 10 + 0
  rotate_left
  · rw [if_neg g4] at hG; cases hG
  rw [if_pos g4] at hG
  rcases h3 : G_19 S1 x1 with _ | ⟨v3, S3⟩
  · rw [h3] at hG; cases hG
  rw [h3] at hG
  dsimp only at hG
  refine Ev.cg (c := (xm_o 19 = 200 ∧ 2000 ≤ x1 ∧ x1 < 2000 + xS_n) ∨ (xm_o 19 ≠ 200 ∧ (kd x1).1 = 10 + xm_o 19)) (a := 19) (A := [.ref x1]) (h1 := hh S1) (pc' := 8) (L' := [.ref x0, .ref x1]) (rest := [.int v1]) (r1 := some (.int v3)) (h2 := hh S3) 2 (fun n => B_22_2 n x0 x1 v1 S1) (Or.inr ⟨by decide, g4⟩) (Ev.up (by decide) (T_19 S1 x1 _ _ h3)) ?_
  show Ev X _ 22 8 [.ref x0, .ref x1] [.int v3, .int v1] (hh S3) _
  by_cases c5 : v1 = v3
  · rw [if_pos c5] at hG
    refine Ev.t (c := v1 = v3) (p1 := 28) (L1 := [.ref x0, .ref x1]) (s1 := []) (h1 := hh S3) (p2 := 11) (L2 := [.ref x0, .ref x1]) (s2 := []) (h2 := hh S3) 1 (fun n => B_22_3 n x0 x1 v3 v1 S3) c5 ?_
    refine Ev.g (c := (kd x0).1 = 10 + 0) (p1 := 32) (L1 := [.ref x0, .ref x1]) (s1 := [.int (S3.1 x0 1)]) (h1 := hh S3) 2 (fun n => B_22_4 n x0 x1 S3) g2 ?_
    refine Ev.g (c := (kd x1).1 = 10 + 0) (p1 := 36) (L1 := [.ref x0, .ref x1]) (s1 := [.int (S3.1 x1 1), .int (S3.1 x0 1)]) (h1 := hh S3) 2 (fun n => B_22_5 n x0 x1 S3) g4 ?_
    by_cases c6 : (S3.1 x1 1) ≤ (S3.1 x0 1)
    · rw [if_pos c6] at hG
      refine Ev.t (c := (S3.1 x1 1) ≤ (S3.1 x0 1)) (p1 := 43) (L1 := [.ref x0, .ref x1]) (s1 := []) (h1 := hh S3) (p2 := 39) (L2 := [.ref x0, .ref x1]) (s2 := []) (h2 := hh S3) 1 (fun n => B_22_6 n x0 x1 S3) c6 ?_
      obtain ⟨e1, e2⟩ := Prod.mk.inj (Option.some.inj hG)
      subst e1
      subst e2
      exact Ev.rg (c := (xm_z 22 = 0 ∨ (xm_z 22 = 1 ∧ ((0 : Int32) = 0 ∨ (0 : Int32) = 1)) ∨ (xm_z 22 = 2 ∧ ((0 : Int32)).toInt8.toInt32 = (0 : Int32)) ∨ (xm_z 22 = 3 ∧ ((0 : Int32)).toUInt32.toUInt16.toUInt32.toInt32 = (0 : Int32)))) 2 (fun n => rfl) (Or.inr (Or.inl ⟨rfl, by decide⟩))
    · rw [if_neg c6] at hG
      refine Ev.f (c := (S3.1 x1 1) ≤ (S3.1 x0 1)) (p1 := 43) (L1 := [.ref x0, .ref x1]) (s1 := []) (h1 := hh S3) (p2 := 39) (L2 := [.ref x0, .ref x1]) (s2 := []) (h2 := hh S3) 1 (fun n => B_22_7 n x0 x1 S3) c6 ?_
      obtain ⟨e1, e2⟩ := Prod.mk.inj (Option.some.inj hG)
      subst e1
      subst e2
      exact Ev.rg (c := (xm_z 22 = 0 ∨ (xm_z 22 = 1 ∧ ((1 : Int32) = 0 ∨ (1 : Int32) = 1)) ∨ (xm_z 22 = 2 ∧ ((1 : Int32)).toInt8.toInt32 = (1 : Int32)) ∨ (xm_z 22 = 3 ∧ ((1 : Int32)).toUInt32.toUInt16.toUInt32.toInt32 = (1 : Int32)))) 3 (fun n => rfl) (Or.inr (Or.inl ⟨rfl, by decide⟩))
  · rw [if_neg c5] at hG
    refine Ev.f (c := v1 = v3) (p1 := 28) (L1 := [.ref x0, .ref x1]) (s1 := []) (h1 := hh S3) (p2 := 11) (L2 := [.ref x0, .ref x1]) (s2 := []) (h2 := hh S3) 1 (fun n => B_22_8 n x0 x1 v3 v1 S3) c5 ?_
    rcases h7 : G_19 S3 x0 with _ | ⟨v7, S7⟩
    · rw [h7] at hG; cases hG
    rw [h7] at hG
    dsimp only at hG
    refine Ev.cg (c := (xm_o 19 = 200 ∧ 2000 ≤ x0 ∧ x0 < 2000 + xS_n) ∨ (xm_o 19 ≠ 200 ∧ (kd x0).1 = 10 + xm_o 19)) (a := 19) (A := [.ref x0]) (h1 := hh S3) (pc' := 15) (L' := [.ref x0, .ref x1]) (rest := []) (r1 := some (.int v7)) (h2 := hh S7) 2 (fun n => B_22_9 n x0 x1 S3) (Or.inr ⟨by decide, g2⟩) (Ev.up (by decide) (T_19 S3 x0 _ _ h7)) ?_
    show Ev X _ 22 15 [.ref x0, .ref x1] [.int v7] (hh S7) _
    rcases h8 : G_19 S7 x1 with _ | ⟨v8, S8⟩
    · rw [h8] at hG; cases hG
    rw [h8] at hG
    dsimp only at hG
    refine Ev.cg (c := (xm_o 19 = 200 ∧ 2000 ≤ x1 ∧ x1 < 2000 + xS_n) ∨ (xm_o 19 ≠ 200 ∧ (kd x1).1 = 10 + xm_o 19)) (a := 19) (A := [.ref x1]) (h1 := hh S7) (pc' := 19) (L' := [.ref x0, .ref x1]) (rest := [.int v7]) (r1 := some (.int v8)) (h2 := hh S8) 2 (fun n => B_22_10 n x0 x1 v7 S7) (Or.inr ⟨by decide, g4⟩) (Ev.up (by decide) (T_19 S7 x1 _ _ h8)) ?_
    show Ev X _ 22 19 [.ref x0, .ref x1] [.int v8, .int v7] (hh S8) _
    by_cases c9 : v8 ≤ v7
    · rw [if_pos c9] at hG
      refine Ev.t (c := v8 ≤ v7) (p1 := 26) (L1 := [.ref x0, .ref x1]) (s1 := []) (h1 := hh S8) (p2 := 22) (L2 := [.ref x0, .ref x1]) (s2 := []) (h2 := hh S8) 1 (fun n => B_22_11 n x0 x1 v8 v7 S8) c9 ?_
      obtain ⟨e1, e2⟩ := Prod.mk.inj (Option.some.inj hG)
      subst e1
      subst e2
      exact Ev.rg (c := (xm_z 22 = 0 ∨ (xm_z 22 = 1 ∧ ((0 : Int32) = 0 ∨ (0 : Int32) = 1)) ∨ (xm_z 22 = 2 ∧ ((0 : Int32)).toInt8.toInt32 = (0 : Int32)) ∨ (xm_z 22 = 3 ∧ ((0 : Int32)).toUInt32.toUInt16.toUInt32.toInt32 = (0 : Int32)))) 2 (fun n => rfl) (Or.inr (Or.inl ⟨rfl, by decide⟩))
    · rw [if_neg c9] at hG
      refine Ev.f (c := v8 ≤ v7) (p1 := 26) (L1 := [.ref x0, .ref x1]) (s1 := []) (h1 := hh S8) (p2 := 22) (L2 := [.ref x0, .ref x1]) (s2 := []) (h2 := hh S8) 1 (fun n => B_22_12 n x0 x1 v8 v7 S8) c9 ?_
      obtain ⟨e1, e2⟩ := Prod.mk.inj (Option.some.inj hG)
      subst e1
      subst e2
      exact Ev.rg (c := (xm_z 22 = 0 ∨ (xm_z 22 = 1 ∧ ((1 : Int32) = 0 ∨ (1 : Int32) = 1)) ∨ (xm_z 22 = 2 ∧ ((1 : Int32)).toInt8.toInt32 = (1 : Int32)) ∨ (xm_z 22 = 3 ∧ ((1 : Int32)).toUInt32.toUInt16.toUInt32.toInt32 = (1 : Int32)))) 3 (fun n => rfl) (Or.inr (Or.inl ⟨rfl, by decide⟩))
/-- 24: SceneCycle$Resource.append(II)V -/
def GL_24_0 : Nat → St → Nat → Int32 → Int32 → Option (Unit × St)
  | 0, _, _, _, _ => none
  | n + 1, S, y0, y1, y3 =>
    (if y3 < 0 then
      some ((), S)
    else
      (if (kd y0).1 = 10 + 1 then
        (if 64 ≤ (S.1 y0 1) then
          some ((), S)
        else
          (if (kd y0).1 = 10 + 1 ∧ RF y0 0 = some (y0 + 1) ∧ y0 ≠ 23 ∧ y0 ≠ 24 then
            (if ((kd (y0 + 1)).1 = 0 ∧ xa_in (S.1 y0 1) (kd (y0 + 1)).2) then
              GL_24_0 n (xa_u (xa_u S.1 (y0 + 1) (((S.1 y0 1)).toNatClampNeg) (((y1 : Int32).toUInt32 >>> (((8 * y3) : Int32).toUInt32 &&& Int32.toUInt32 31)).toInt32 &&& 255)) y0 1 (((xa_u S.1 (y0 + 1) (((S.1 y0 1)).toNatClampNeg) (((y1 : Int32).toUInt32 >>> (((8 * y3) : Int32).toUInt32 &&& Int32.toUInt32 31)).toInt32 &&& 255)) y0 1) + 1), S.2.1, S.2.2) y0 y1 (y3 + (-1))
            else none)
          else none)
        )
      else none)
    )
theorem B_24_1 {X : Nat × (Nat → Int32)} {d : Nat} (n : Nat) (y0 : Nat) (y1 : Int32) (w2 : Value) (y3 : Int32) (S : St) : ex X d 24 4 [.ref y0, .int y1, w2, .int y3] [] (hh S) (n + 2) = if y3 < 0 then ex X d 24 52 [.ref y0, .int y1, w2, .int y3] [] (hh S) n else ex X d 24 8 [.ref y0, .int y1, w2, .int y3] [] (hh S) n := rfl
theorem B_24_2 {X : Nat × (Nat → Int32)} {d : Nat} (n : Nat) (y0 : Nat) (y1 : Int32) (w2 : Value) (y3 : Int32) (S : St) : ex X d 24 4 [.ref y0, .int y1, w2, .int y3] [] (hh S) (n + 2) = if y3 < 0 then ex X d 24 52 [.ref y0, .int y1, w2, .int y3] [] (hh S) n else ex X d 24 8 [.ref y0, .int y1, w2, .int y3] [] (hh S) n := rfl
theorem B_24_3 {X : Nat × (Nat → Int32)} {d : Nat} (n : Nat) (y0 : Nat) (y1 : Int32) (w2 : Value) (y3 : Int32) (S : St) : ex X d 24 8 [.ref y0, .int y1, w2, .int y3] [] (hh S) (n + 2) = if (kd y0).1 = 10 + 1 then ex X d 24 12 [.ref y0, .int y1, w2, .int y3] [.int (S.1 y0 1)] (hh S) n else none := rfl
theorem B_24_4 {X : Nat × (Nat → Int32)} {d : Nat} (n : Nat) (y0 : Nat) (y1 : Int32) (w2 : Value) (y3 : Int32) (S : St) : ex X d 24 12 [.ref y0, .int y1, w2, .int y3] [.int (S.1 y0 1)] (hh S) (n + 2) = if 64 ≤ (S.1 y0 1) then ex X d 24 52 [.ref y0, .int y1, w2, .int y3] [] (hh S) n else ex X d 24 17 [.ref y0, .int y1, w2, .int y3] [] (hh S) n := rfl
theorem B_24_5 {X : Nat × (Nat → Int32)} {d : Nat} (n : Nat) (y0 : Nat) (y1 : Int32) (w2 : Value) (y3 : Int32) (S : St) : ex X d 24 12 [.ref y0, .int y1, w2, .int y3] [.int (S.1 y0 1)] (hh S) (n + 2) = if 64 ≤ (S.1 y0 1) then ex X d 24 52 [.ref y0, .int y1, w2, .int y3] [] (hh S) n else ex X d 24 17 [.ref y0, .int y1, w2, .int y3] [] (hh S) n := rfl
theorem B_24_6 {X : Nat × (Nat → Int32)} {d : Nat} (n : Nat) (y0 : Nat) (y1 : Int32) (w2 : Value) (y3 : Int32) (S : St) : ex X d 24 17 [.ref y0, .int y1, w2, .int y3] [] (hh S) (n + 2) = if (kd y0).1 = 10 + 1 then ex X d 24 21 [.ref y0, .int y1, w2, .int y3] [va_rf (RC S.2.1 S.2.2 y0 0)] (hh S) n else none := rfl
theorem B_24_7 {X : Nat × (Nat → Int32)} {d : Nat} (n : Nat) (y0 : Nat) (y1 : Int32) (w2 : Value) (y3 : Int32) (S : St) : ex X d 24 21 [.ref y0, .int y1, w2, .int y3] [.ref (y0 + 1)] (hh S) (n + 2) = if (kd y0).1 = 10 + 1 then ex X d 24 25 [.ref y0, .int y1, w2, .int y3] [.int (S.1 y0 1), .ref (y0 + 1)] (hh S) n else none := rfl
theorem B_24_8 {X : Nat × (Nat → Int32)} {d : Nat} (n : Nat) (y0 : Nat) (y1 : Int32) (w2 : Value) (y3 : Int32) (S : St) : ex X d 24 25 [.ref y0, .int y1, w2, .int y3] [.int (S.1 y0 1), .ref (y0 + 1)] (hh S) (n + 8) = if (kd (y0 + 1)).1 = 0 ∧ xa_in (S.1 y0 1) (kd (y0 + 1)).2 then ex X d 24 36 [.ref y0, .int y1, w2, .int y3] [] (hh (xa_u S.1 (y0 + 1) (((S.1 y0 1)).toNatClampNeg) (((y1 : Int32).toUInt32 >>> (((8 * y3) : Int32).toUInt32 &&& Int32.toUInt32 31)).toInt32 &&& 255), S.2.1, S.2.2)) n else none := rfl
theorem B_24_9 {X : Nat × (Nat → Int32)} {d : Nat} (n : Nat) (y0 : Nat) (y1 : Int32) (w2 : Value) (y3 : Int32) (S : St) : ex X d 24 36 [.ref y0, .int y1, w2, .int y3] [] (hh (xa_u S.1 (y0 + 1) (((S.1 y0 1)).toNatClampNeg) (((y1 : Int32).toUInt32 >>> (((8 * y3) : Int32).toUInt32 &&& Int32.toUInt32 31)).toInt32 &&& 255), S.2.1, S.2.2)) (n + 3) = if (kd y0).1 = 10 + 1 then ex X d 24 41 [.ref y0, .int y1, w2, .int y3] [.int ((xa_u S.1 (y0 + 1) (((S.1 y0 1)).toNatClampNeg) (((y1 : Int32).toUInt32 >>> (((8 * y3) : Int32).toUInt32 &&& Int32.toUInt32 31)).toInt32 &&& 255)) y0 1), .ref y0] (hh (xa_u S.1 (y0 + 1) (((S.1 y0 1)).toNatClampNeg) (((y1 : Int32).toUInt32 >>> (((8 * y3) : Int32).toUInt32 &&& Int32.toUInt32 31)).toInt32 &&& 255), S.2.1, S.2.2)) n else none := rfl
theorem B_24_10 {X : Nat × (Nat → Int32)} {d : Nat} (n : Nat) (y0 : Nat) (y1 : Int32) (w2 : Value) (y3 : Int32) (S : St) : ex X d 24 41 [.ref y0, .int y1, w2, .int y3] [.int ((xa_u S.1 (y0 + 1) (((S.1 y0 1)).toNatClampNeg) (((y1 : Int32).toUInt32 >>> (((8 * y3) : Int32).toUInt32 &&& Int32.toUInt32 31)).toInt32 &&& 255)) y0 1), .ref y0] (hh (xa_u S.1 (y0 + 1) (((S.1 y0 1)).toNatClampNeg) (((y1 : Int32).toUInt32 >>> (((8 * y3) : Int32).toUInt32 &&& Int32.toUInt32 31)).toInt32 &&& 255), S.2.1, S.2.2)) (n + 3) = if (kd y0).1 = 10 + 1 ∧ (xf_k 1 1 = 0 ∨ (xf_k 1 1 = 1 ∧ ((((xa_u S.1 (y0 + 1) (((S.1 y0 1)).toNatClampNeg) (((y1 : Int32).toUInt32 >>> (((8 * y3) : Int32).toUInt32 &&& Int32.toUInt32 31)).toInt32 &&& 255)) y0 1) + 1) = 0 ∨ (((xa_u S.1 (y0 + 1) (((S.1 y0 1)).toNatClampNeg) (((y1 : Int32).toUInt32 >>> (((8 * y3) : Int32).toUInt32 &&& Int32.toUInt32 31)).toInt32 &&& 255)) y0 1) + 1) = 1))) then ex X d 24 46 [.ref y0, .int y1, w2, .int y3] [] (hh (xa_u (xa_u S.1 (y0 + 1) (((S.1 y0 1)).toNatClampNeg) (((y1 : Int32).toUInt32 >>> (((8 * y3) : Int32).toUInt32 &&& Int32.toUInt32 31)).toInt32 &&& 255)) y0 1 (((xa_u S.1 (y0 + 1) (((S.1 y0 1)).toNatClampNeg) (((y1 : Int32).toUInt32 >>> (((8 * y3) : Int32).toUInt32 &&& Int32.toUInt32 31)).toInt32 &&& 255)) y0 1) + 1), S.2.1, S.2.2)) n else none := rfl
theorem B_24_11 {X : Nat × (Nat → Int32)} {d : Nat} (n : Nat) (y0 : Nat) (y1 : Int32) (w2 : Value) (y3 : Int32) (S : St) : ex X d 24 46 [.ref y0, .int y1, w2, .int y3] [] (hh (xa_u (xa_u S.1 (y0 + 1) (((S.1 y0 1)).toNatClampNeg) (((y1 : Int32).toUInt32 >>> (((8 * y3) : Int32).toUInt32 &&& Int32.toUInt32 31)).toInt32 &&& 255)) y0 1 (((xa_u S.1 (y0 + 1) (((S.1 y0 1)).toNatClampNeg) (((y1 : Int32).toUInt32 >>> (((8 * y3) : Int32).toUInt32 &&& Int32.toUInt32 31)).toInt32 &&& 255)) y0 1) + 1), S.2.1, S.2.2)) (n + 2) = ex X d 24 4 [.ref y0, .int y1, w2, .int (y3 + (-1))] [] (hh (xa_u (xa_u S.1 (y0 + 1) (((S.1 y0 1)).toNatClampNeg) (((y1 : Int32).toUInt32 >>> (((8 * y3) : Int32).toUInt32 &&& Int32.toUInt32 31)).toInt32 &&& 255)) y0 1 (((xa_u S.1 (y0 + 1) (((S.1 y0 1)).toNatClampNeg) (((y1 : Int32).toUInt32 >>> (((8 * y3) : Int32).toUInt32 &&& Int32.toUInt32 31)).toInt32 &&& 255)) y0 1) + 1), S.2.1, S.2.2)) n := rfl
set_option maxRecDepth 200000 in
theorem TL_24_0 {X : Nat × (Nat → Int32)} : ∀ (n : Nat) (S : St) (y0 : Nat) (y1 : Int32) (y3 : Int32) (r : Unit) (S' : St), GL_24_0 n S y0 y1 y3 = some (r, S') → ∀ (w2 : Value), Ev X 0 24 4 [.ref y0, .int y1, w2, .int y3] [] (hh S) (xV r, hh S') := by
  intro n
  induction n with
  | zero => intro S y0 y1 y3 r S' hG; simp [GL_24_0] at hG
  | succ n ih =>
    intro S y0 y1 y3 r S' hG w2
    rw [GL_24_0] at hG
    by_cases c1 : y3 < 0
    · rw [if_pos c1] at hG
      refine Ev.t (c := y3 < 0) (p1 := 52) (L1 := [.ref y0, .int y1, w2, .int y3]) (s1 := []) (h1 := hh S) (p2 := 8) (L2 := [.ref y0, .int y1, w2, .int y3]) (s2 := []) (h2 := hh S) 2 (fun n => B_24_1 n y0 y1 w2 y3 S) c1 ?_
      obtain ⟨e1, e2⟩ := Prod.mk.inj (Option.some.inj hG)
      subst e1
      subst e2
      exact Ev.r 1 (fun n => rfl)
    · rw [if_neg c1] at hG
      refine Ev.f (c := y3 < 0) (p1 := 52) (L1 := [.ref y0, .int y1, w2, .int y3]) (s1 := []) (h1 := hh S) (p2 := 8) (L2 := [.ref y0, .int y1, w2, .int y3]) (s2 := []) (h2 := hh S) 2 (fun n => B_24_2 n y0 y1 w2 y3 S) c1 ?_
      by_cases g2 : (kd y0).1 = 10 + 1
      rotate_left
      · rw [if_neg g2] at hG; cases hG
      rw [if_pos g2] at hG
      refine Ev.g (c := (kd y0).1 = 10 + 1) (p1 := 12) (L1 := [.ref y0, .int y1, w2, .int y3]) (s1 := [.int (S.1 y0 1)]) (h1 := hh S) 2 (fun n => B_24_3 n y0 y1 w2 y3 S) g2 ?_
      by_cases c3 : 64 ≤ (S.1 y0 1)
      · rw [if_pos c3] at hG
        refine Ev.t (c := 64 ≤ (S.1 y0 1)) (p1 := 52) (L1 := [.ref y0, .int y1, w2, .int y3]) (s1 := []) (h1 := hh S) (p2 := 17) (L2 := [.ref y0, .int y1, w2, .int y3]) (s2 := []) (h2 := hh S) 2 (fun n => B_24_4 n y0 y1 w2 y3 S) c3 ?_
        obtain ⟨e1, e2⟩ := Prod.mk.inj (Option.some.inj hG)
        subst e1
        subst e2
        exact Ev.r 1 (fun n => rfl)
      · rw [if_neg c3] at hG
        refine Ev.f (c := 64 ≤ (S.1 y0 1)) (p1 := 52) (L1 := [.ref y0, .int y1, w2, .int y3]) (s1 := []) (h1 := hh S) (p2 := 17) (L2 := [.ref y0, .int y1, w2, .int y3]) (s2 := []) (h2 := hh S) 2 (fun n => B_24_5 n y0 y1 w2 y3 S) c3 ?_
        by_cases g4 : (kd y0).1 = 10 + 1 ∧ RF y0 0 = some (y0 + 1) ∧ y0 ≠ 23 ∧ y0 ≠ 24
        rotate_left
        · rw [if_neg g4] at hG; cases hG
        rw [if_pos g4] at hG
        refine Ev.g (c := (kd y0).1 = 10 + 1) (p1 := 21) (L1 := [.ref y0, .int y1, w2, .int y3]) (s1 := [va_rf (RC S.2.1 S.2.2 y0 0)]) (h1 := hh S) 2 (fun n => B_24_6 n y0 y1 w2 y3 S) g4.1 ?_
        rw [RC_at g4.2.2.1 g4.2.2.2, g4.2.1]
        show Ev X _ 24 21 [.ref y0, .int y1, w2, .int y3] [.ref (y0 + 1)] (hh S) _
        refine Ev.g (c := (kd y0).1 = 10 + 1) (p1 := 25) (L1 := [.ref y0, .int y1, w2, .int y3]) (s1 := [.int (S.1 y0 1), .ref (y0 + 1)]) (h1 := hh S) 2 (fun n => B_24_7 n y0 y1 w2 y3 S) g4.1 ?_
        by_cases g5 : ((kd (y0 + 1)).1 = 0 ∧ xa_in (S.1 y0 1) (kd (y0 + 1)).2)
        rotate_left
        · rw [if_neg g5] at hG; cases hG
        rw [if_pos g5] at hG
        refine Ev.g (c := (kd (y0 + 1)).1 = 0 ∧ xa_in (S.1 y0 1) (kd (y0 + 1)).2) (p1 := 36) (L1 := [.ref y0, .int y1, w2, .int y3]) (s1 := []) (h1 := hh (xa_u S.1 (y0 + 1) (((S.1 y0 1)).toNatClampNeg) (((y1 : Int32).toUInt32 >>> (((8 * y3) : Int32).toUInt32 &&& Int32.toUInt32 31)).toInt32 &&& 255), S.2.1, S.2.2)) 8 (fun n => B_24_8 n y0 y1 w2 y3 S) (⟨g5.1, g5.2⟩) ?_
        refine Ev.g (c := (kd y0).1 = 10 + 1) (p1 := 41) (L1 := [.ref y0, .int y1, w2, .int y3]) (s1 := [.int ((xa_u S.1 (y0 + 1) (((S.1 y0 1)).toNatClampNeg) (((y1 : Int32).toUInt32 >>> (((8 * y3) : Int32).toUInt32 &&& Int32.toUInt32 31)).toInt32 &&& 255)) y0 1), .ref y0]) (h1 := hh (xa_u S.1 (y0 + 1) (((S.1 y0 1)).toNatClampNeg) (((y1 : Int32).toUInt32 >>> (((8 * y3) : Int32).toUInt32 &&& Int32.toUInt32 31)).toInt32 &&& 255), S.2.1, S.2.2)) 3 (fun n => B_24_9 n y0 y1 w2 y3 S) g4.1 ?_
        refine Ev.g (c := (kd y0).1 = 10 + 1 ∧ (xf_k 1 1 = 0 ∨ (xf_k 1 1 = 1 ∧ ((((xa_u S.1 (y0 + 1) (((S.1 y0 1)).toNatClampNeg) (((y1 : Int32).toUInt32 >>> (((8 * y3) : Int32).toUInt32 &&& Int32.toUInt32 31)).toInt32 &&& 255)) y0 1) + 1) = 0 ∨ (((xa_u S.1 (y0 + 1) (((S.1 y0 1)).toNatClampNeg) (((y1 : Int32).toUInt32 >>> (((8 * y3) : Int32).toUInt32 &&& Int32.toUInt32 31)).toInt32 &&& 255)) y0 1) + 1) = 1)))) (p1 := 46) (L1 := [.ref y0, .int y1, w2, .int y3]) (s1 := []) (h1 := hh (xa_u (xa_u S.1 (y0 + 1) (((S.1 y0 1)).toNatClampNeg) (((y1 : Int32).toUInt32 >>> (((8 * y3) : Int32).toUInt32 &&& Int32.toUInt32 31)).toInt32 &&& 255)) y0 1 (((xa_u S.1 (y0 + 1) (((S.1 y0 1)).toNatClampNeg) (((y1 : Int32).toUInt32 >>> (((8 * y3) : Int32).toUInt32 &&& Int32.toUInt32 31)).toInt32 &&& 255)) y0 1) + 1), S.2.1, S.2.2)) 3 (fun n => B_24_10 n y0 y1 w2 y3 S) (⟨g4.1, Or.inl rfl⟩) ?_
        exact Ev.b (pc' := 4) (L' := [.ref y0, .int y1, w2, .int (y3 + (-1))]) (st' := []) (h' := hh (xa_u (xa_u S.1 (y0 + 1) (((S.1 y0 1)).toNatClampNeg) (((y1 : Int32).toUInt32 >>> (((8 * y3) : Int32).toUInt32 &&& Int32.toUInt32 31)).toInt32 &&& 255)) y0 1 (((xa_u S.1 (y0 + 1) (((S.1 y0 1)).toNatClampNeg) (((y1 : Int32).toUInt32 >>> (((8 * y3) : Int32).toUInt32 &&& Int32.toUInt32 31)).toInt32 &&& 255)) y0 1) + 1), S.2.1, S.2.2)) 2 (fun n => B_24_11 n y0 y1 w2 y3 S) (ih (xa_u (xa_u S.1 (y0 + 1) (((S.1 y0 1)).toNatClampNeg) (((y1 : Int32).toUInt32 >>> (((8 * y3) : Int32).toUInt32 &&& Int32.toUInt32 31)).toInt32 &&& 255)) y0 1 (((xa_u S.1 (y0 + 1) (((S.1 y0 1)).toNatClampNeg) (((y1 : Int32).toUInt32 >>> (((8 * y3) : Int32).toUInt32 &&& Int32.toUInt32 31)).toInt32 &&& 255)) y0 1) + 1), S.2.1, S.2.2) y0 y1 (y3 + (-1)) _ _ hG w2)
def G_24 (S : St) (x0 : Nat) (x1 : Int32) (x2 : Int32) : Option (Unit × St) :=
  GL_24_0 xFu S x0 x1 (x2 - 1)
theorem B_24_12 {X : Nat × (Nat → Int32)} {d : Nat} (n : Nat) (x0 : Nat) (x1 : Int32) (x2 : Int32) (S : St) : ex X d 24 0 [.ref x0, .int x1, .int x2, .retAddr 0] [] (hh S) (n + 4) = ex X d 24 4 [.ref x0, .int x1, .int x2, .int (x2 - 1)] [] (hh S) n := rfl
set_option maxRecDepth 200000 in
theorem T_24 {X : Nat × (Nat → Int32)} (S : St) (x0 : Nat) (x1 : Int32) (x2 : Int32) (r : Unit) (S' : St) (hG : G_24 S x0 x1 x2 = some (r, S')) : Ev X 0 24 0 [.ref x0, .int x1, .int x2, .retAddr 0] [] (hh S) (xV r, hh S') := by
  unfold G_24 at hG
  exact Ev.b (pc' := 4) (L' := [.ref x0, .int x1, .int x2, .int (x2 - 1)]) (st' := []) (h' := hh S) 4 (fun n => B_24_12 n x0 x1 x2 S) (TL_24_0 xFu S x0 x1 (x2 - 1) _ _ hG (.int x2))
/-- 25: SceneCycle$Resource.byteAt(I)I -/
def G_25 (S : St) (x0 : Nat) (x1 : Int32) : Option (Int32 × St) :=
  (if x1 < 0 then
    some (0, S)
  else
    (if (kd x0).1 = 10 + 1 then
      (if (S.1 x0 1) ≤ x1 then
        some (0, S)
      else
        (if (kd x0).1 = 10 + 1 ∧ RF x0 0 = some (x0 + 1) ∧ x0 ≠ 23 ∧ x0 ≠ 24 then
          (if (kd (x0 + 1)).1 = 0 ∧ xa_in x1 (kd (x0 + 1)).2 then
            some ((S.1 (x0 + 1) (x1).toNatClampNeg), S)
          else none)
        else none)
      )
    else none)
  )
theorem B_25_1 {X : Nat × (Nat → Int32)} {d : Nat} (n : Nat) (x0 : Nat) (x1 : Int32) (S : St) : ex X d 25 0 [.ref x0, .int x1] [] (hh S) (n + 2) = if x1 < 0 then ex X d 25 21 [.ref x0, .int x1] [] (hh S) n else ex X d 25 4 [.ref x0, .int x1] [] (hh S) n := rfl
theorem B_25_2 {X : Nat × (Nat → Int32)} {d : Nat} (n : Nat) (x0 : Nat) (x1 : Int32) (S : St) : ex X d 25 0 [.ref x0, .int x1] [] (hh S) (n + 2) = if x1 < 0 then ex X d 25 21 [.ref x0, .int x1] [] (hh S) n else ex X d 25 4 [.ref x0, .int x1] [] (hh S) n := rfl
theorem B_25_3 {X : Nat × (Nat → Int32)} {d : Nat} (n : Nat) (x0 : Nat) (x1 : Int32) (S : St) : ex X d 25 4 [.ref x0, .int x1] [] (hh S) (n + 3) = if (kd x0).1 = 10 + 1 then ex X d 25 9 [.ref x0, .int x1] [.int (S.1 x0 1), .int x1] (hh S) n else none := rfl
theorem B_25_4 {X : Nat × (Nat → Int32)} {d : Nat} (n : Nat) (x0 : Nat) (x1 : Int32) (S : St) : ex X d 25 9 [.ref x0, .int x1] [.int (S.1 x0 1), .int x1] (hh S) (n + 1) = if (S.1 x0 1) ≤ x1 then ex X d 25 21 [.ref x0, .int x1] [] (hh S) n else ex X d 25 12 [.ref x0, .int x1] [] (hh S) n := rfl
theorem B_25_5 {X : Nat × (Nat → Int32)} {d : Nat} (n : Nat) (x0 : Nat) (x1 : Int32) (S : St) : ex X d 25 9 [.ref x0, .int x1] [.int (S.1 x0 1), .int x1] (hh S) (n + 1) = if (S.1 x0 1) ≤ x1 then ex X d 25 21 [.ref x0, .int x1] [] (hh S) n else ex X d 25 12 [.ref x0, .int x1] [] (hh S) n := rfl
theorem B_25_6 {X : Nat × (Nat → Int32)} {d : Nat} (n : Nat) (x0 : Nat) (x1 : Int32) (S : St) : ex X d 25 12 [.ref x0, .int x1] [] (hh S) (n + 2) = if (kd x0).1 = 10 + 1 then ex X d 25 16 [.ref x0, .int x1] [va_rf (RC S.2.1 S.2.2 x0 0)] (hh S) n else none := rfl
set_option maxRecDepth 200000 in
theorem T_25 {X : Nat × (Nat → Int32)} (S : St) (x0 : Nat) (x1 : Int32) (r : Int32) (S' : St) (hG : G_25 S x0 x1 = some (r, S')) : Ev X 0 25 0 [.ref x0, .int x1] [] (hh S) (xI r, hh S') := by
  unfold G_25 at hG
  by_cases c1 : x1 < 0
  · rw [if_pos c1] at hG
    refine Ev.t (c := x1 < 0) (p1 := 21) (L1 := [.ref x0, .int x1]) (s1 := []) (h1 := hh S) (p2 := 4) (L2 := [.ref x0, .int x1]) (s2 := []) (h2 := hh S) 2 (fun n => B_25_1 n x0 x1 S) c1 ?_
    obtain ⟨e1, e2⟩ := Prod.mk.inj (Option.some.inj hG)
    subst e1
    subst e2
    exact Ev.r 2 (fun n => rfl)
  · rw [if_neg c1] at hG
    refine Ev.f (c := x1 < 0) (p1 := 21) (L1 := [.ref x0, .int x1]) (s1 := []) (h1 := hh S) (p2 := 4) (L2 := [.ref x0, .int x1]) (s2 := []) (h2 := hh S) 2 (fun n => B_25_2 n x0 x1 S) c1 ?_
    by_cases g2 : (kd x0).1 = 10 + 1
    rotate_left
    · rw [if_neg g2] at hG; cases hG
    rw [if_pos g2] at hG
    refine Ev.g (c := (kd x0).1 = 10 + 1) (p1 := 9) (L1 := [.ref x0, .int x1]) (s1 := [.int (S.1 x0 1), .int x1]) (h1 := hh S) 3 (fun n => B_25_3 n x0 x1 S) g2 ?_
    by_cases c3 : (S.1 x0 1) ≤ x1
    · rw [if_pos c3] at hG
      refine Ev.t (c := (S.1 x0 1) ≤ x1) (p1 := 21) (L1 := [.ref x0, .int x1]) (s1 := []) (h1 := hh S) (p2 := 12) (L2 := [.ref x0, .int x1]) (s2 := []) (h2 := hh S) 1 (fun n => B_25_4 n x0 x1 S) c3 ?_
      obtain ⟨e1, e2⟩ := Prod.mk.inj (Option.some.inj hG)
      subst e1
      subst e2
      exact Ev.r 2 (fun n => rfl)
    · rw [if_neg c3] at hG
      refine Ev.f (c := (S.1 x0 1) ≤ x1) (p1 := 21) (L1 := [.ref x0, .int x1]) (s1 := []) (h1 := hh S) (p2 := 12) (L2 := [.ref x0, .int x1]) (s2 := []) (h2 := hh S) 1 (fun n => B_25_5 n x0 x1 S) c3 ?_
      by_cases g4 : (kd x0).1 = 10 + 1 ∧ RF x0 0 = some (x0 + 1) ∧ x0 ≠ 23 ∧ x0 ≠ 24
      rotate_left
      · rw [if_neg g4] at hG; cases hG
      rw [if_pos g4] at hG
      refine Ev.g (c := (kd x0).1 = 10 + 1) (p1 := 16) (L1 := [.ref x0, .int x1]) (s1 := [va_rf (RC S.2.1 S.2.2 x0 0)]) (h1 := hh S) 2 (fun n => B_25_6 n x0 x1 S) g4.1 ?_
      rw [RC_at g4.2.2.1 g4.2.2.2, g4.2.1]
      show Ev X _ 25 16 [.ref x0, .int x1] [.ref (x0 + 1)] (hh S) _
      by_cases g5 : (kd (x0 + 1)).1 = 0 ∧ xa_in x1 (kd (x0 + 1)).2
      rotate_left
      · rw [if_neg g5] at hG; cases hG
      rw [if_pos g5] at hG
      refine Ev.ga (c := (kd (x0 + 1)).1 = 0 ∧ xa_in x1 (kd (x0 + 1)).2) (p1 := 18) (L1 := [.ref x0, .int x1]) (s1 := [.int (S.1 (x0 + 1) (x1).toNatClampNeg)]) (h1 := hh S) 2 (fun n => rfl) (kd_ne g5.1) g5 ?_
      obtain ⟨e1, e2⟩ := Prod.mk.inj (Option.some.inj hG)
      subst e1
      subst e2
      exact Ev.r 2 (fun n => rfl)
/-- 28: SceneCycle$PictureReader.restart()V -/
def G_28 (S : St) (x0 : Nat) : Option (Unit × St) :=
  (if (kd x0).1 = 10 + 2 then
    some ((), (xa_u (xa_u S.1 x0 0 (-1)) x0 9 0, S.2.1, S.2.2))
  else none)
theorem B_28_1 {X : Nat × (Nat → Int32)} {d : Nat} (n : Nat) (x0 : Nat) (S : St) : ex X d 28 0 [.ref x0] [] (hh S) (n + 3) = if (kd x0).1 = 10 + 2 ∧ (xf_k 2 0 = 0 ∨ (xf_k 2 0 = 1 ∧ (((-1) : Int32) = 0 ∨ ((-1) : Int32) = 1))) then ex X d 28 5 [.ref x0] [] (hh (xa_u S.1 x0 0 (-1), S.2.1, S.2.2)) n else none := rfl
theorem B_28_2 {X : Nat × (Nat → Int32)} {d : Nat} (n : Nat) (x0 : Nat) (S : St) : ex X d 28 5 [.ref x0] [] (hh (xa_u S.1 x0 0 (-1), S.2.1, S.2.2)) (n + 3) = if (kd x0).1 = 10 + 2 ∧ (xf_k 2 9 = 0 ∨ (xf_k 2 9 = 1 ∧ ((0 : Int32) = 0 ∨ (0 : Int32) = 1))) then ex X d 28 10 [.ref x0] [] (hh (xa_u (xa_u S.1 x0 0 (-1)) x0 9 0, S.2.1, S.2.2)) n else none := rfl
set_option maxRecDepth 200000 in
theorem T_28 {X : Nat × (Nat → Int32)} (S : St) (x0 : Nat) (r : Unit) (S' : St) (hG : G_28 S x0 = some (r, S')) : Ev X 0 28 0 [.ref x0] [] (hh S) (xV r, hh S') := by
  unfold G_28 at hG
  by_cases g1 : (kd x0).1 = 10 + 2
  rotate_left
  · rw [if_neg g1] at hG; cases hG
  rw [if_pos g1] at hG
  refine Ev.g (c := (kd x0).1 = 10 + 2 ∧ (xf_k 2 0 = 0 ∨ (xf_k 2 0 = 1 ∧ (((-1) : Int32) = 0 ∨ ((-1) : Int32) = 1)))) (p1 := 5) (L1 := [.ref x0]) (s1 := []) (h1 := hh (xa_u S.1 x0 0 (-1), S.2.1, S.2.2)) 3 (fun n => B_28_1 n x0 S) (⟨g1, Or.inl rfl⟩) ?_
  refine Ev.g (c := (kd x0).1 = 10 + 2 ∧ (xf_k 2 9 = 0 ∨ (xf_k 2 9 = 1 ∧ ((0 : Int32) = 0 ∨ (0 : Int32) = 1)))) (p1 := 10) (L1 := [.ref x0]) (s1 := []) (h1 := hh (xa_u (xa_u S.1 x0 0 (-1)) x0 9 0, S.2.1, S.2.2)) 3 (fun n => B_28_2 n x0 S) (⟨g1, Or.inl rfl⟩) ?_
  obtain ⟨e1, e2⟩ := Prod.mk.inj (Option.some.inj hG)
  subst e1
  subst e2
  exact Ev.r 1 (fun n => rfl)
/-- 32: SceneCycle$PictureReader.takePenNumber(I)Z -/
def G_32 (S : St) (x0 : Nat) (x1 : Int32) : Option (Int32 × St) :=
  (if (kd x0).1 = 10 + 2 then
    (if (S.1 x0 8) = 0 then
      (if x1 ≤ 15 then
        some (1, (xa_u (xa_u S.1 x0 1 x1) x0 8 1, S.2.1, S.2.2))
      else
        some (0, S)
      )
    else
      some (0, S)
    )
  else none)
theorem B_32_1 {X : Nat × (Nat → Int32)} {d : Nat} (n : Nat) (x0 : Nat) (x1 : Int32) (S : St) : ex X d 32 0 [.ref x0, .int x1] [] (hh S) (n + 2) = if (kd x0).1 = 10 + 2 then ex X d 32 4 [.ref x0, .int x1] [.int (S.1 x0 8)] (hh S) n else none := rfl
theorem B_32_2 {X : Nat × (Nat → Int32)} {d : Nat} (n : Nat) (x0 : Nat) (x1 : Int32) (S : St) : ex X d 32 4 [.ref x0, .int x1] [.int (S.1 x0 8)] (hh S) (n + 1) = if (S.1 x0 8) = 0 then ex X d 32 7 [.ref x0, .int x1] [] (hh S) n else ex X d 32 13 [.ref x0, .int x1] [] (hh S) n := rfl
theorem B_32_3 {X : Nat × (Nat → Int32)} {d : Nat} (n : Nat) (x0 : Nat) (x1 : Int32) (S : St) : ex X d 32 7 [.ref x0, .int x1] [] (hh S) (n + 3) = if x1 ≤ 15 then ex X d 32 15 [.ref x0, .int x1] [] (hh S) n else ex X d 32 13 [.ref x0, .int x1] [] (hh S) n := rfl
theorem B_32_4 {X : Nat × (Nat → Int32)} {d : Nat} (n : Nat) (x0 : Nat) (x1 : Int32) (S : St) : ex X d 32 15 [.ref x0, .int x1] [] (hh S) (n + 3) = if (kd x0).1 = 10 + 2 ∧ (xf_k 2 1 = 0 ∨ (xf_k 2 1 = 1 ∧ (x1 = 0 ∨ x1 = 1))) then ex X d 32 20 [.ref x0, .int x1] [] (hh (xa_u S.1 x0 1 x1, S.2.1, S.2.2)) n else none := rfl
theorem B_32_5 {X : Nat × (Nat → Int32)} {d : Nat} (n : Nat) (x0 : Nat) (x1 : Int32) (S : St) : ex X d 32 20 [.ref x0, .int x1] [] (hh (xa_u S.1 x0 1 x1, S.2.1, S.2.2)) (n + 3) = if (kd x0).1 = 10 + 2 ∧ (xf_k 2 8 = 0 ∨ (xf_k 2 8 = 1 ∧ ((1 : Int32) = 0 ∨ (1 : Int32) = 1))) then ex X d 32 25 [.ref x0, .int x1] [] (hh (xa_u (xa_u S.1 x0 1 x1) x0 8 1, S.2.1, S.2.2)) n else none := rfl
theorem B_32_6 {X : Nat × (Nat → Int32)} {d : Nat} (n : Nat) (x0 : Nat) (x1 : Int32) (S : St) : ex X d 32 7 [.ref x0, .int x1] [] (hh S) (n + 3) = if x1 ≤ 15 then ex X d 32 15 [.ref x0, .int x1] [] (hh S) n else ex X d 32 13 [.ref x0, .int x1] [] (hh S) n := rfl
theorem B_32_7 {X : Nat × (Nat → Int32)} {d : Nat} (n : Nat) (x0 : Nat) (x1 : Int32) (S : St) : ex X d 32 4 [.ref x0, .int x1] [.int (S.1 x0 8)] (hh S) (n + 1) = if (S.1 x0 8) = 0 then ex X d 32 7 [.ref x0, .int x1] [] (hh S) n else ex X d 32 13 [.ref x0, .int x1] [] (hh S) n := rfl
set_option maxRecDepth 200000 in
theorem T_32 {X : Nat × (Nat → Int32)} (S : St) (x0 : Nat) (x1 : Int32) (r : Int32) (S' : St) (hG : G_32 S x0 x1 = some (r, S')) : Ev X 0 32 0 [.ref x0, .int x1] [] (hh S) (xI r, hh S') := by
  unfold G_32 at hG
  by_cases g1 : (kd x0).1 = 10 + 2
  rotate_left
  · rw [if_neg g1] at hG; cases hG
  rw [if_pos g1] at hG
  refine Ev.g (c := (kd x0).1 = 10 + 2) (p1 := 4) (L1 := [.ref x0, .int x1]) (s1 := [.int (S.1 x0 8)]) (h1 := hh S) 2 (fun n => B_32_1 n x0 x1 S) g1 ?_
  by_cases c2 : (S.1 x0 8) = 0
  · rw [if_pos c2] at hG
    refine Ev.t (c := (S.1 x0 8) = 0) (p1 := 7) (L1 := [.ref x0, .int x1]) (s1 := []) (h1 := hh S) (p2 := 13) (L2 := [.ref x0, .int x1]) (s2 := []) (h2 := hh S) 1 (fun n => B_32_2 n x0 x1 S) c2 ?_
    by_cases c3 : x1 ≤ 15
    · rw [if_pos c3] at hG
      refine Ev.t (c := x1 ≤ 15) (p1 := 15) (L1 := [.ref x0, .int x1]) (s1 := []) (h1 := hh S) (p2 := 13) (L2 := [.ref x0, .int x1]) (s2 := []) (h2 := hh S) 3 (fun n => B_32_3 n x0 x1 S) c3 ?_
      refine Ev.g (c := (kd x0).1 = 10 + 2 ∧ (xf_k 2 1 = 0 ∨ (xf_k 2 1 = 1 ∧ (x1 = 0 ∨ x1 = 1)))) (p1 := 20) (L1 := [.ref x0, .int x1]) (s1 := []) (h1 := hh (xa_u S.1 x0 1 x1, S.2.1, S.2.2)) 3 (fun n => B_32_4 n x0 x1 S) (⟨g1, Or.inl rfl⟩) ?_
      refine Ev.g (c := (kd x0).1 = 10 + 2 ∧ (xf_k 2 8 = 0 ∨ (xf_k 2 8 = 1 ∧ ((1 : Int32) = 0 ∨ (1 : Int32) = 1)))) (p1 := 25) (L1 := [.ref x0, .int x1]) (s1 := []) (h1 := hh (xa_u (xa_u S.1 x0 1 x1) x0 8 1, S.2.1, S.2.2)) 3 (fun n => B_32_5 n x0 x1 S) (⟨g1, Or.inl rfl⟩) ?_
      obtain ⟨e1, e2⟩ := Prod.mk.inj (Option.some.inj hG)
      subst e1
      subst e2
      exact Ev.rg (c := (xm_z 32 = 0 ∨ (xm_z 32 = 1 ∧ ((1 : Int32) = 0 ∨ (1 : Int32) = 1)) ∨ (xm_z 32 = 2 ∧ ((1 : Int32)).toInt8.toInt32 = (1 : Int32)) ∨ (xm_z 32 = 3 ∧ ((1 : Int32)).toUInt32.toUInt16.toUInt32.toInt32 = (1 : Int32)))) 2 (fun n => rfl) (Or.inr (Or.inl ⟨rfl, by decide⟩))
    · rw [if_neg c3] at hG
      refine Ev.f (c := x1 ≤ 15) (p1 := 15) (L1 := [.ref x0, .int x1]) (s1 := []) (h1 := hh S) (p2 := 13) (L2 := [.ref x0, .int x1]) (s2 := []) (h2 := hh S) 3 (fun n => B_32_6 n x0 x1 S) c3 ?_
      obtain ⟨e1, e2⟩ := Prod.mk.inj (Option.some.inj hG)
      subst e1
      subst e2
      exact Ev.rg (c := (xm_z 32 = 0 ∨ (xm_z 32 = 1 ∧ ((0 : Int32) = 0 ∨ (0 : Int32) = 1)) ∨ (xm_z 32 = 2 ∧ ((0 : Int32)).toInt8.toInt32 = (0 : Int32)) ∨ (xm_z 32 = 3 ∧ ((0 : Int32)).toUInt32.toUInt16.toUInt32.toInt32 = (0 : Int32)))) 2 (fun n => rfl) (Or.inr (Or.inl ⟨rfl, by decide⟩))
  · rw [if_neg c2] at hG
    refine Ev.f (c := (S.1 x0 8) = 0) (p1 := 7) (L1 := [.ref x0, .int x1]) (s1 := []) (h1 := hh S) (p2 := 13) (L2 := [.ref x0, .int x1]) (s2 := []) (h2 := hh S) 1 (fun n => B_32_7 n x0 x1 S) c2 ?_
    obtain ⟨e1, e2⟩ := Prod.mk.inj (Option.some.inj hG)
    subst e1
    subst e2
    exact Ev.rg (c := (xm_z 32 = 0 ∨ (xm_z 32 = 1 ∧ ((0 : Int32) = 0 ∨ (0 : Int32) = 1)) ∨ (xm_z 32 = 2 ∧ ((0 : Int32)).toInt8.toInt32 = (0 : Int32)) ∨ (xm_z 32 = 3 ∧ ((0 : Int32)).toUInt32.toUInt16.toUInt32.toInt32 = (0 : Int32)))) 2 (fun n => rfl) (Or.inr (Or.inl ⟨rfl, by decide⟩))
/-- 100: SceneCycle.onScreen(II)Z -/
def G_100 (S : St) (x0 : Int32) (x1 : Int32) : Option (Int32 × St) :=
  (if x0 < 0 then
    some (0, S)
  else
    (if 16 ≤ x0 then
      some (0, S)
    else
      (if x1 < 0 then
        some (0, S)
      else
        (if 12 ≤ x1 then
          some (0, S)
        else
          some (1, S)
        )
      )
    )
  )
theorem B_100_1 {X : Nat × (Nat → Int32)} {d : Nat} (n : Nat) (x0 : Int32) (x1 : Int32) (S : St) : ex X d 100 0 [.int x0, .int x1] [] (hh S) (n + 2) = if x0 < 0 then ex X d 100 24 [.int x0, .int x1] [] (hh S) n else ex X d 100 4 [.int x0, .int x1] [] (hh S) n := rfl
theorem B_100_2 {X : Nat × (Nat → Int32)} {d : Nat} (n : Nat) (x0 : Int32) (x1 : Int32) (S : St) : ex X d 100 0 [.int x0, .int x1] [] (hh S) (n + 2) = if x0 < 0 then ex X d 100 24 [.int x0, .int x1] [] (hh S) n else ex X d 100 4 [.int x0, .int x1] [] (hh S) n := rfl
theorem B_100_3 {X : Nat × (Nat → Int32)} {d : Nat} (n : Nat) (x0 : Int32) (x1 : Int32) (S : St) : ex X d 100 4 [.int x0, .int x1] [] (hh S) (n + 3) = if 16 ≤ x0 then ex X d 100 24 [.int x0, .int x1] [] (hh S) n else ex X d 100 10 [.int x0, .int x1] [] (hh S) n := rfl
theorem B_100_4 {X : Nat × (Nat → Int32)} {d : Nat} (n : Nat) (x0 : Int32) (x1 : Int32) (S : St) : ex X d 100 4 [.int x0, .int x1] [] (hh S) (n + 3) = if 16 ≤ x0 then ex X d 100 24 [.int x0, .int x1] [] (hh S) n else ex X d 100 10 [.int x0, .int x1] [] (hh S) n := rfl
theorem B_100_5 {X : Nat × (Nat → Int32)} {d : Nat} (n : Nat) (x0 : Int32) (x1 : Int32) (S : St) : ex X d 100 10 [.int x0, .int x1] [] (hh S) (n + 2) = if x1 < 0 then ex X d 100 24 [.int x0, .int x1] [] (hh S) n else ex X d 100 14 [.int x0, .int x1] [] (hh S) n := rfl
theorem B_100_6 {X : Nat × (Nat → Int32)} {d : Nat} (n : Nat) (x0 : Int32) (x1 : Int32) (S : St) : ex X d 100 10 [.int x0, .int x1] [] (hh S) (n + 2) = if x1 < 0 then ex X d 100 24 [.int x0, .int x1] [] (hh S) n else ex X d 100 14 [.int x0, .int x1] [] (hh S) n := rfl
theorem B_100_7 {X : Nat × (Nat → Int32)} {d : Nat} (n : Nat) (x0 : Int32) (x1 : Int32) (S : St) : ex X d 100 14 [.int x0, .int x1] [] (hh S) (n + 3) = if 12 ≤ x1 then ex X d 100 24 [.int x0, .int x1] [] (hh S) n else ex X d 100 20 [.int x0, .int x1] [] (hh S) n := rfl
theorem B_100_8 {X : Nat × (Nat → Int32)} {d : Nat} (n : Nat) (x0 : Int32) (x1 : Int32) (S : St) : ex X d 100 14 [.int x0, .int x1] [] (hh S) (n + 3) = if 12 ≤ x1 then ex X d 100 24 [.int x0, .int x1] [] (hh S) n else ex X d 100 20 [.int x0, .int x1] [] (hh S) n := rfl
set_option maxRecDepth 200000 in
theorem T_100 {X : Nat × (Nat → Int32)} (S : St) (x0 : Int32) (x1 : Int32) (r : Int32) (S' : St) (hG : G_100 S x0 x1 = some (r, S')) : Ev X 0 100 0 [.int x0, .int x1] [] (hh S) (xI r, hh S') := by
  unfold G_100 at hG
  by_cases c1 : x0 < 0
  · rw [if_pos c1] at hG
    refine Ev.t (c := x0 < 0) (p1 := 24) (L1 := [.int x0, .int x1]) (s1 := []) (h1 := hh S) (p2 := 4) (L2 := [.int x0, .int x1]) (s2 := []) (h2 := hh S) 2 (fun n => B_100_1 n x0 x1 S) c1 ?_
    obtain ⟨e1, e2⟩ := Prod.mk.inj (Option.some.inj hG)
    subst e1
    subst e2
    exact Ev.rg (c := (xm_z 100 = 0 ∨ (xm_z 100 = 1 ∧ ((0 : Int32) = 0 ∨ (0 : Int32) = 1)) ∨ (xm_z 100 = 2 ∧ ((0 : Int32)).toInt8.toInt32 = (0 : Int32)) ∨ (xm_z 100 = 3 ∧ ((0 : Int32)).toUInt32.toUInt16.toUInt32.toInt32 = (0 : Int32)))) 2 (fun n => rfl) (Or.inr (Or.inl ⟨rfl, by decide⟩))
  · rw [if_neg c1] at hG
    refine Ev.f (c := x0 < 0) (p1 := 24) (L1 := [.int x0, .int x1]) (s1 := []) (h1 := hh S) (p2 := 4) (L2 := [.int x0, .int x1]) (s2 := []) (h2 := hh S) 2 (fun n => B_100_2 n x0 x1 S) c1 ?_
    by_cases c2 : 16 ≤ x0
    · rw [if_pos c2] at hG
      refine Ev.t (c := 16 ≤ x0) (p1 := 24) (L1 := [.int x0, .int x1]) (s1 := []) (h1 := hh S) (p2 := 10) (L2 := [.int x0, .int x1]) (s2 := []) (h2 := hh S) 3 (fun n => B_100_3 n x0 x1 S) c2 ?_
      obtain ⟨e1, e2⟩ := Prod.mk.inj (Option.some.inj hG)
      subst e1
      subst e2
      exact Ev.rg (c := (xm_z 100 = 0 ∨ (xm_z 100 = 1 ∧ ((0 : Int32) = 0 ∨ (0 : Int32) = 1)) ∨ (xm_z 100 = 2 ∧ ((0 : Int32)).toInt8.toInt32 = (0 : Int32)) ∨ (xm_z 100 = 3 ∧ ((0 : Int32)).toUInt32.toUInt16.toUInt32.toInt32 = (0 : Int32)))) 2 (fun n => rfl) (Or.inr (Or.inl ⟨rfl, by decide⟩))
    · rw [if_neg c2] at hG
      refine Ev.f (c := 16 ≤ x0) (p1 := 24) (L1 := [.int x0, .int x1]) (s1 := []) (h1 := hh S) (p2 := 10) (L2 := [.int x0, .int x1]) (s2 := []) (h2 := hh S) 3 (fun n => B_100_4 n x0 x1 S) c2 ?_
      by_cases c3 : x1 < 0
      · rw [if_pos c3] at hG
        refine Ev.t (c := x1 < 0) (p1 := 24) (L1 := [.int x0, .int x1]) (s1 := []) (h1 := hh S) (p2 := 14) (L2 := [.int x0, .int x1]) (s2 := []) (h2 := hh S) 2 (fun n => B_100_5 n x0 x1 S) c3 ?_
        obtain ⟨e1, e2⟩ := Prod.mk.inj (Option.some.inj hG)
        subst e1
        subst e2
        exact Ev.rg (c := (xm_z 100 = 0 ∨ (xm_z 100 = 1 ∧ ((0 : Int32) = 0 ∨ (0 : Int32) = 1)) ∨ (xm_z 100 = 2 ∧ ((0 : Int32)).toInt8.toInt32 = (0 : Int32)) ∨ (xm_z 100 = 3 ∧ ((0 : Int32)).toUInt32.toUInt16.toUInt32.toInt32 = (0 : Int32)))) 2 (fun n => rfl) (Or.inr (Or.inl ⟨rfl, by decide⟩))
      · rw [if_neg c3] at hG
        refine Ev.f (c := x1 < 0) (p1 := 24) (L1 := [.int x0, .int x1]) (s1 := []) (h1 := hh S) (p2 := 14) (L2 := [.int x0, .int x1]) (s2 := []) (h2 := hh S) 2 (fun n => B_100_6 n x0 x1 S) c3 ?_
        by_cases c4 : 12 ≤ x1
        · rw [if_pos c4] at hG
          refine Ev.t (c := 12 ≤ x1) (p1 := 24) (L1 := [.int x0, .int x1]) (s1 := []) (h1 := hh S) (p2 := 20) (L2 := [.int x0, .int x1]) (s2 := []) (h2 := hh S) 3 (fun n => B_100_7 n x0 x1 S) c4 ?_
          obtain ⟨e1, e2⟩ := Prod.mk.inj (Option.some.inj hG)
          subst e1
          subst e2
          exact Ev.rg (c := (xm_z 100 = 0 ∨ (xm_z 100 = 1 ∧ ((0 : Int32) = 0 ∨ (0 : Int32) = 1)) ∨ (xm_z 100 = 2 ∧ ((0 : Int32)).toInt8.toInt32 = (0 : Int32)) ∨ (xm_z 100 = 3 ∧ ((0 : Int32)).toUInt32.toUInt16.toUInt32.toInt32 = (0 : Int32)))) 2 (fun n => rfl) (Or.inr (Or.inl ⟨rfl, by decide⟩))
        · rw [if_neg c4] at hG
          refine Ev.f (c := 12 ≤ x1) (p1 := 24) (L1 := [.int x0, .int x1]) (s1 := []) (h1 := hh S) (p2 := 20) (L2 := [.int x0, .int x1]) (s2 := []) (h2 := hh S) 3 (fun n => B_100_8 n x0 x1 S) c4 ?_
          obtain ⟨e1, e2⟩ := Prod.mk.inj (Option.some.inj hG)
          subst e1
          subst e2
          exact Ev.rg (c := (xm_z 100 = 0 ∨ (xm_z 100 = 1 ∧ ((1 : Int32) = 0 ∨ (1 : Int32) = 1)) ∨ (xm_z 100 = 2 ∧ ((1 : Int32)).toInt8.toInt32 = (1 : Int32)) ∨ (xm_z 100 = 3 ∧ ((1 : Int32)).toUInt32.toUInt16.toUInt32.toInt32 = (1 : Int32)))) 3 (fun n => rfl) (Or.inr (Or.inl ⟨rfl, by decide⟩))
/-- 34: SceneCycle$PictureReader.moveTo(II)Z -/
def G_34 (S : St) (x0 : Nat) (x1 : Int32) (x2 : Int32) : Option (Int32 × St) :=
  (match G_100 S x1 x2 with
  | none => none
  | some (v1, S1) =>
    (if v1 = 0 then
      some (0, S1)
    else
      (if (kd x0).1 = 10 + 2 then
        (if 2 ≤ (S1.1 x0 8) then
          some (1, (xa_u (xa_u (xa_u (xa_u (xa_u (xa_u S1.1 x0 3 (S1.1 x0 5)) x0 4 ((xa_u S1.1 x0 3 (S1.1 x0 5)) x0 6)) x0 5 x1) x0 6 x2) x0 8 (((xa_u (xa_u (xa_u (xa_u S1.1 x0 3 (S1.1 x0 5)) x0 4 ((xa_u S1.1 x0 3 (S1.1 x0 5)) x0 6)) x0 5 x1) x0 6 x2) x0 8) + 1)) x0 2 1, S1.2.1, S1.2.2))
        else
          some (1, (xa_u (xa_u (xa_u (xa_u (xa_u (xa_u S1.1 x0 3 x1) x0 4 x2) x0 5 x1) x0 6 x2) x0 8 (((xa_u (xa_u (xa_u (xa_u S1.1 x0 3 x1) x0 4 x2) x0 5 x1) x0 6 x2) x0 8) + 1)) x0 2 1, S1.2.1, S1.2.2))
        )
      else none)
    )
  )
theorem B_34_1 {X : Nat × (Nat → Int32)} {d : Nat} (n : Nat) (x0 : Nat) (x1 : Int32) (x2 : Int32) (S : St) : ex X (d + 1) 34 0 [.ref x0, .int x1, .int x2, .retAddr 0] [] (hh S) (n + 3) = (match ex X d 100 0 [.int x1, .int x2] [] (hh S) n with | some (v, h') => ex X (d + 1) 34 5 [.ref x0, .int x1, .int x2, .retAddr 0] (v.toList ++ []) h' n | none => none) := rfl
theorem B_34_2 {X : Nat × (Nat → Int32)} {d : Nat} (n : Nat) (x0 : Nat) (x1 : Int32) (x2 : Int32) (v1 : Int32) (S1 : St) : ex X d 34 5 [.ref x0, .int x1, .int x2, .retAddr 0] [.int v1] (hh S1) (n + 1) = if v1 = 0 then ex X d 34 8 [.ref x0, .int x1, .int x2, .retAddr 0] [] (hh S1) n else ex X d 34 10 [.ref x0, .int x1, .int x2, .retAddr 0] [] (hh S1) n := rfl
theorem B_34_3 {X : Nat × (Nat → Int32)} {d : Nat} (n : Nat) (x0 : Nat) (x1 : Int32) (x2 : Int32) (v1 : Int32) (S1 : St) : ex X d 34 5 [.ref x0, .int x1, .int x2, .retAddr 0] [.int v1] (hh S1) (n + 1) = if v1 = 0 then ex X d 34 8 [.ref x0, .int x1, .int x2, .retAddr 0] [] (hh S1) n else ex X d 34 10 [.ref x0, .int x1, .int x2, .retAddr 0] [] (hh S1) n := rfl
theorem B_34_4 {X : Nat × (Nat → Int32)} {d : Nat} (n : Nat) (x0 : Nat) (x1 : Int32) (x2 : Int32) (S1 : St) : ex X d 34 10 [.ref x0, .int x1, .int x2, .retAddr 0] [] (hh S1) (n + 2) = if (kd x0).1 = 10 + 2 then ex X d 34 14 [.ref x0, .int x1, .int x2, .retAddr 0] [.int (S1.1 x0 8)] (hh S1) n else none := rfl
theorem B_34_5 {X : Nat × (Nat → Int32)} {d : Nat} (n : Nat) (x0 : Nat) (x1 : Int32) (x2 : Int32) (S1 : St) : ex X d 34 14 [.ref x0, .int x1, .int x2, .retAddr 0] [.int (S1.1 x0 8)] (hh S1) (n + 2) = if 2 ≤ (S1.1 x0 8) then ex X d 34 22 [.ref x0, .int x1, .int x2, .retAddr 0] [] (hh S1) n else ex X d 34 18 [.ref x0, .int x1, .int x2, .retAddr 0] [] (hh S1) n := rfl
theorem B_34_6 {X : Nat × (Nat → Int32)} {d : Nat} (n : Nat) (x0 : Nat) (x1 : Int32) (x2 : Int32) (S1 : St) : ex X d 34 22 [.ref x0, .int x1, .int x2, .retAddr 0] [] (hh S1) (n + 5) = if (0 : Int32) = 0 then ex X d 34 33 [.ref x0, .int x1, .int x2, .int 0] [.ref x0] (hh S1) n else ex X d 34 29 [.ref x0, .int x1, .int x2, .int 0] [.ref x0] (hh S1) n := rfl
theorem B_34_7 {X : Nat × (Nat → Int32)} {d : Nat} (n : Nat) (x0 : Nat) (x1 : Int32) (x2 : Int32) (S1 : St) : ex X d 34 33 [.ref x0, .int x1, .int x2, .int 0] [.ref x0] (hh S1) (n + 2) = if (kd x0).1 = 10 + 2 then ex X d 34 37 [.ref x0, .int x1, .int x2, .int 0] [.int (S1.1 x0 5), .ref x0] (hh S1) n else none := rfl
theorem B_34_8 {X : Nat × (Nat → Int32)} {d : Nat} (n : Nat) (x0 : Nat) (x1 : Int32) (x2 : Int32) (S1 : St) : ex X d 34 37 [.ref x0, .int x1, .int x2, .int 0] [.int (S1.1 x0 5), .ref x0] (hh S1) (n + 1) = if (kd x0).1 = 10 + 2 ∧ (xf_k 2 3 = 0 ∨ (xf_k 2 3 = 1 ∧ ((S1.1 x0 5) = 0 ∨ (S1.1 x0 5) = 1))) then ex X d 34 40 [.ref x0, .int x1, .int x2, .int 0] [] (hh (xa_u S1.1 x0 3 (S1.1 x0 5), S1.2.1, S1.2.2)) n else none := rfl
theorem B_34_9 {X : Nat × (Nat → Int32)} {d : Nat} (n : Nat) (x0 : Nat) (x1 : Int32) (x2 : Int32) (S1 : St) : ex X d 34 40 [.ref x0, .int x1, .int x2, .int 0] [] (hh (xa_u S1.1 x0 3 (S1.1 x0 5), S1.2.1, S1.2.2)) (n + 3) = if (0 : Int32) = 0 then ex X d 34 49 [.ref x0, .int x1, .int x2, .int 0] [.ref x0] (hh (xa_u S1.1 x0 3 (S1.1 x0 5), S1.2.1, S1.2.2)) n else ex X d 34 45 [.ref x0, .int x1, .int x2, .int 0] [.ref x0] (hh (xa_u S1.1 x0 3 (S1.1 x0 5), S1.2.1, S1.2.2)) n := rfl
theorem B_34_10 {X : Nat × (Nat → Int32)} {d : Nat} (n : Nat) (x0 : Nat) (x1 : Int32) (x2 : Int32) (S1 : St) : ex X d 34 49 [.ref x0, .int x1, .int x2, .int 0] [.ref x0] (hh (xa_u S1.1 x0 3 (S1.1 x0 5), S1.2.1, S1.2.2)) (n + 2) = if (kd x0).1 = 10 + 2 then ex X d 34 53 [.ref x0, .int x1, .int x2, .int 0] [.int ((xa_u S1.1 x0 3 (S1.1 x0 5)) x0 6), .ref x0] (hh (xa_u S1.1 x0 3 (S1.1 x0 5), S1.2.1, S1.2.2)) n else none := rfl
theorem B_34_11 {X : Nat × (Nat → Int32)} {d : Nat} (n : Nat) (x0 : Nat) (x1 : Int32) (x2 : Int32) (S1 : St) : ex X d 34 53 [.ref x0, .int x1, .int x2, .int 0] [.int ((xa_u S1.1 x0 3 (S1.1 x0 5)) x0 6), .ref x0] (hh (xa_u S1.1 x0 3 (S1.1 x0 5), S1.2.1, S1.2.2)) (n + 1) = if (kd x0).1 = 10 + 2 ∧ (xf_k 2 4 = 0 ∨ (xf_k 2 4 = 1 ∧ (((xa_u S1.1 x0 3 (S1.1 x0 5)) x0 6) = 0 ∨ ((xa_u S1.1 x0 3 (S1.1 x0 5)) x0 6) = 1))) then ex X d 34 56 [.ref x0, .int x1, .int x2, .int 0] [] (hh (xa_u (xa_u S1.1 x0 3 (S1.1 x0 5)) x0 4 ((xa_u S1.1 x0 3 (S1.1 x0 5)) x0 6), S1.2.1, S1.2.2)) n else none := rfl
theorem B_34_12 {X : Nat × (Nat → Int32)} {d : Nat} (n : Nat) (x0 : Nat) (x1 : Int32) (x2 : Int32) (S1 : St) : ex X d 34 56 [.ref x0, .int x1, .int x2, .int 0] [] (hh (xa_u (xa_u S1.1 x0 3 (S1.1 x0 5)) x0 4 ((xa_u S1.1 x0 3 (S1.1 x0 5)) x0 6), S1.2.1, S1.2.2)) (n + 3) = if (kd x0).1 = 10 + 2 ∧ (xf_k 2 5 = 0 ∨ (xf_k 2 5 = 1 ∧ (x1 = 0 ∨ x1 = 1))) then ex X d 34 61 [.ref x0, .int x1, .int x2, .int 0] [] (hh (xa_u (xa_u (xa_u S1.1 x0 3 (S1.1 x0 5)) x0 4 ((xa_u S1.1 x0 3 (S1.1 x0 5)) x0 6)) x0 5 x1, S1.2.1, S1.2.2)) n else none := rfl
theorem B_34_13 {X : Nat × (Nat → Int32)} {d : Nat} (n : Nat) (x0 : Nat) (x1 : Int32) (x2 : Int32) (S1 : St) : ex X d 34 61 [.ref x0, .int x1, .int x2, .int 0] [] (hh (xa_u (xa_u (xa_u S1.1 x0 3 (S1.1 x0 5)) x0 4 ((xa_u S1.1 x0 3 (S1.1 x0 5)) x0 6)) x0 5 x1, S1.2.1, S1.2.2)) (n + 3) = if (kd x0).1 = 10 + 2 ∧ (xf_k 2 6 = 0 ∨ (xf_k 2 6 = 1 ∧ (x2 = 0 ∨ x2 = 1))) then ex X d 34 66 [.ref x0, .int x1, .int x2, .int 0] [] (hh (xa_u (xa_u (xa_u (xa_u S1.1 x0 3 (S1.1 x0 5)) x0 4 ((xa_u S1.1 x0 3 (S1.1 x0 5)) x0 6)) x0 5 x1) x0 6 x2, S1.2.1, S1.2.2)) n else none := rfl
theorem B_34_14 {X : Nat × (Nat → Int32)} {d : Nat} (n : Nat) (x0 : Nat) (x1 : Int32) (x2 : Int32) (S1 : St) : ex X d 34 66 [.ref x0, .int x1, .int x2, .int 0] [] (hh (xa_u (xa_u (xa_u (xa_u S1.1 x0 3 (S1.1 x0 5)) x0 4 ((xa_u S1.1 x0 3 (S1.1 x0 5)) x0 6)) x0 5 x1) x0 6 x2, S1.2.1, S1.2.2)) (n + 3) = if (kd x0).1 = 10 + 2 then ex X d 34 71 [.ref x0, .int x1, .int x2, .int 0] [.int ((xa_u (xa_u (xa_u (xa_u S1.1 x0 3 (S1.1 x0 5)) x0 4 ((xa_u S1.1 x0 3 (S1.1 x0 5)) x0 6)) x0 5 x1) x0 6 x2) x0 8), .ref x0] (hh (xa_u (xa_u (xa_u (xa_u S1.1 x0 3 (S1.1 x0 5)) x0 4 ((xa_u S1.1 x0 3 (S1.1 x0 5)) x0 6)) x0 5 x1) x0 6 x2, S1.2.1, S1.2.2)) n else none := rfl
theorem B_34_15 {X : Nat × (Nat → Int32)} {d : Nat} (n : Nat) (x0 : Nat) (x1 : Int32) (x2 : Int32) (S1 : St) : ex X d 34 71 [.ref x0, .int x1, .int x2, .int 0] [.int ((xa_u (xa_u (xa_u (xa_u S1.1 x0 3 (S1.1 x0 5)) x0 4 ((xa_u S1.1 x0 3 (S1.1 x0 5)) x0 6)) x0 5 x1) x0 6 x2) x0 8), .ref x0] (hh (xa_u (xa_u (xa_u (xa_u S1.1 x0 3 (S1.1 x0 5)) x0 4 ((xa_u S1.1 x0 3 (S1.1 x0 5)) x0 6)) x0 5 x1) x0 6 x2, S1.2.1, S1.2.2)) (n + 3) = if (kd x0).1 = 10 + 2 ∧ (xf_k 2 8 = 0 ∨ (xf_k 2 8 = 1 ∧ ((((xa_u (xa_u (xa_u (xa_u S1.1 x0 3 (S1.1 x0 5)) x0 4 ((xa_u S1.1 x0 3 (S1.1 x0 5)) x0 6)) x0 5 x1) x0 6 x2) x0 8) + 1) = 0 ∨ (((xa_u (xa_u (xa_u (xa_u S1.1 x0 3 (S1.1 x0 5)) x0 4 ((xa_u S1.1 x0 3 (S1.1 x0 5)) x0 6)) x0 5 x1) x0 6 x2) x0 8) + 1) = 1))) then ex X d 34 76 [.ref x0, .int x1, .int x2, .int 0] [] (hh (xa_u (xa_u (xa_u (xa_u (xa_u S1.1 x0 3 (S1.1 x0 5)) x0 4 ((xa_u S1.1 x0 3 (S1.1 x0 5)) x0 6)) x0 5 x1) x0 6 x2) x0 8 (((xa_u (xa_u (xa_u (xa_u S1.1 x0 3 (S1.1 x0 5)) x0 4 ((xa_u S1.1 x0 3 (S1.1 x0 5)) x0 6)) x0 5 x1) x0 6 x2) x0 8) + 1), S1.2.1, S1.2.2)) n else none := rfl
theorem B_34_16 {X : Nat × (Nat → Int32)} {d : Nat} (n : Nat) (x0 : Nat) (x1 : Int32) (x2 : Int32) (S1 : St) : ex X d 34 76 [.ref x0, .int x1, .int x2, .int 0] [] (hh (xa_u (xa_u (xa_u (xa_u (xa_u S1.1 x0 3 (S1.1 x0 5)) x0 4 ((xa_u S1.1 x0 3 (S1.1 x0 5)) x0 6)) x0 5 x1) x0 6 x2) x0 8 (((xa_u (xa_u (xa_u (xa_u S1.1 x0 3 (S1.1 x0 5)) x0 4 ((xa_u S1.1 x0 3 (S1.1 x0 5)) x0 6)) x0 5 x1) x0 6 x2) x0 8) + 1), S1.2.1, S1.2.2)) (n + 3) = if (kd x0).1 = 10 + 2 ∧ (xf_k 2 2 = 0 ∨ (xf_k 2 2 = 1 ∧ ((1 : Int32) = 0 ∨ (1 : Int32) = 1))) then ex X d 34 81 [.ref x0, .int x1, .int x2, .int 0] [] (hh (xa_u (xa_u (xa_u (xa_u (xa_u (xa_u S1.1 x0 3 (S1.1 x0 5)) x0 4 ((xa_u S1.1 x0 3 (S1.1 x0 5)) x0 6)) x0 5 x1) x0 6 x2) x0 8 (((xa_u (xa_u (xa_u (xa_u S1.1 x0 3 (S1.1 x0 5)) x0 4 ((xa_u S1.1 x0 3 (S1.1 x0 5)) x0 6)) x0 5 x1) x0 6 x2) x0 8) + 1)) x0 2 1, S1.2.1, S1.2.2)) n else none := rfl
theorem B_34_17 {X : Nat × (Nat → Int32)} {d : Nat} (n : Nat) (x0 : Nat) (x1 : Int32) (x2 : Int32) (S1 : St) : ex X d 34 14 [.ref x0, .int x1, .int x2, .retAddr 0] [.int (S1.1 x0 8)] (hh S1) (n + 2) = if 2 ≤ (S1.1 x0 8) then ex X d 34 22 [.ref x0, .int x1, .int x2, .retAddr 0] [] (hh S1) n else ex X d 34 18 [.ref x0, .int x1, .int x2, .retAddr 0] [] (hh S1) n := rfl
theorem B_34_18 {X : Nat × (Nat → Int32)} {d : Nat} (n : Nat) (x0 : Nat) (x1 : Int32) (x2 : Int32) (S1 : St) : ex X d 34 18 [.ref x0, .int x1, .int x2, .retAddr 0] [] (hh S1) (n + 6) = if (1 : Int32) = 0 then ex X d 34 33 [.ref x0, .int x1, .int x2, .int 1] [.ref x0] (hh S1) n else ex X d 34 29 [.ref x0, .int x1, .int x2, .int 1] [.ref x0] (hh S1) n := rfl
theorem B_34_19 {X : Nat × (Nat → Int32)} {d : Nat} (n : Nat) (x0 : Nat) (x1 : Int32) (x2 : Int32) (S1 : St) : ex X d 34 29 [.ref x0, .int x1, .int x2, .int 1] [.ref x0] (hh S1) (n + 3) = if (kd x0).1 = 10 + 2 ∧ (xf_k 2 3 = 0 ∨ (xf_k 2 3 = 1 ∧ (x1 = 0 ∨ x1 = 1))) then ex X d 34 40 [.ref x0, .int x1, .int x2, .int 1] [] (hh (xa_u S1.1 x0 3 x1, S1.2.1, S1.2.2)) n else none := rfl
theorem B_34_20 {X : Nat × (Nat → Int32)} {d : Nat} (n : Nat) (x0 : Nat) (x1 : Int32) (x2 : Int32) (S1 : St) : ex X d 34 40 [.ref x0, .int x1, .int x2, .int 1] [] (hh (xa_u S1.1 x0 3 x1, S1.2.1, S1.2.2)) (n + 3) = if (1 : Int32) = 0 then ex X d 34 49 [.ref x0, .int x1, .int x2, .int 1] [.ref x0] (hh (xa_u S1.1 x0 3 x1, S1.2.1, S1.2.2)) n else ex X d 34 45 [.ref x0, .int x1, .int x2, .int 1] [.ref x0] (hh (xa_u S1.1 x0 3 x1, S1.2.1, S1.2.2)) n := rfl
theorem B_34_21 {X : Nat × (Nat → Int32)} {d : Nat} (n : Nat) (x0 : Nat) (x1 : Int32) (x2 : Int32) (S1 : St) : ex X d 34 45 [.ref x0, .int x1, .int x2, .int 1] [.ref x0] (hh (xa_u S1.1 x0 3 x1, S1.2.1, S1.2.2)) (n + 3) = if (kd x0).1 = 10 + 2 ∧ (xf_k 2 4 = 0 ∨ (xf_k 2 4 = 1 ∧ (x2 = 0 ∨ x2 = 1))) then ex X d 34 56 [.ref x0, .int x1, .int x2, .int 1] [] (hh (xa_u (xa_u S1.1 x0 3 x1) x0 4 x2, S1.2.1, S1.2.2)) n else none := rfl
theorem B_34_22 {X : Nat × (Nat → Int32)} {d : Nat} (n : Nat) (x0 : Nat) (x1 : Int32) (x2 : Int32) (S1 : St) : ex X d 34 56 [.ref x0, .int x1, .int x2, .int 1] [] (hh (xa_u (xa_u S1.1 x0 3 x1) x0 4 x2, S1.2.1, S1.2.2)) (n + 3) = if (kd x0).1 = 10 + 2 ∧ (xf_k 2 5 = 0 ∨ (xf_k 2 5 = 1 ∧ (x1 = 0 ∨ x1 = 1))) then ex X d 34 61 [.ref x0, .int x1, .int x2, .int 1] [] (hh (xa_u (xa_u (xa_u S1.1 x0 3 x1) x0 4 x2) x0 5 x1, S1.2.1, S1.2.2)) n else none := rfl
theorem B_34_23 {X : Nat × (Nat → Int32)} {d : Nat} (n : Nat) (x0 : Nat) (x1 : Int32) (x2 : Int32) (S1 : St) : ex X d 34 61 [.ref x0, .int x1, .int x2, .int 1] [] (hh (xa_u (xa_u (xa_u S1.1 x0 3 x1) x0 4 x2) x0 5 x1, S1.2.1, S1.2.2)) (n + 3) = if (kd x0).1 = 10 + 2 ∧ (xf_k 2 6 = 0 ∨ (xf_k 2 6 = 1 ∧ (x2 = 0 ∨ x2 = 1))) then ex X d 34 66 [.ref x0, .int x1, .int x2, .int 1] [] (hh (xa_u (xa_u (xa_u (xa_u S1.1 x0 3 x1) x0 4 x2) x0 5 x1) x0 6 x2, S1.2.1, S1.2.2)) n else none := rfl
theorem B_34_24 {X : Nat × (Nat → Int32)} {d : Nat} (n : Nat) (x0 : Nat) (x1 : Int32) (x2 : Int32) (S1 : St) : ex X d 34 66 [.ref x0, .int x1, .int x2, .int 1] [] (hh (xa_u (xa_u (xa_u (xa_u S1.1 x0 3 x1) x0 4 x2) x0 5 x1) x0 6 x2, S1.2.1, S1.2.2)) (n + 3) = if (kd x0).1 = 10 + 2 then ex X d 34 71 [.ref x0, .int x1, .int x2, .int 1] [.int ((xa_u (xa_u (xa_u (xa_u S1.1 x0 3 x1) x0 4 x2) x0 5 x1) x0 6 x2) x0 8), .ref x0] (hh (xa_u (xa_u (xa_u (xa_u S1.1 x0 3 x1) x0 4 x2) x0 5 x1) x0 6 x2, S1.2.1, S1.2.2)) n else none := rfl
theorem B_34_25 {X : Nat × (Nat → Int32)} {d : Nat} (n : Nat) (x0 : Nat) (x1 : Int32) (x2 : Int32) (S1 : St) : ex X d 34 71 [.ref x0, .int x1, .int x2, .int 1] [.int ((xa_u (xa_u (xa_u (xa_u S1.1 x0 3 x1) x0 4 x2) x0 5 x1) x0 6 x2) x0 8), .ref x0] (hh (xa_u (xa_u (xa_u (xa_u S1.1 x0 3 x1) x0 4 x2) x0 5 x1) x0 6 x2, S1.2.1, S1.2.2)) (n + 3) = if (kd x0).1 = 10 + 2 ∧ (xf_k 2 8 = 0 ∨ (xf_k 2 8 = 1 ∧ ((((xa_u (xa_u (xa_u (xa_u S1.1 x0 3 x1) x0 4 x2) x0 5 x1) x0 6 x2) x0 8) + 1) = 0 ∨ (((xa_u (xa_u (xa_u (xa_u S1.1 x0 3 x1) x0 4 x2) x0 5 x1) x0 6 x2) x0 8) + 1) = 1))) then ex X d 34 76 [.ref x0, .int x1, .int x2, .int 1] [] (hh (xa_u (xa_u (xa_u (xa_u (xa_u S1.1 x0 3 x1) x0 4 x2) x0 5 x1) x0 6 x2) x0 8 (((xa_u (xa_u (xa_u (xa_u S1.1 x0 3 x1) x0 4 x2) x0 5 x1) x0 6 x2) x0 8) + 1), S1.2.1, S1.2.2)) n else none := rfl
theorem B_34_26 {X : Nat × (Nat → Int32)} {d : Nat} (n : Nat) (x0 : Nat) (x1 : Int32) (x2 : Int32) (S1 : St) : ex X d 34 76 [.ref x0, .int x1, .int x2, .int 1] [] (hh (xa_u (xa_u (xa_u (xa_u (xa_u S1.1 x0 3 x1) x0 4 x2) x0 5 x1) x0 6 x2) x0 8 (((xa_u (xa_u (xa_u (xa_u S1.1 x0 3 x1) x0 4 x2) x0 5 x1) x0 6 x2) x0 8) + 1), S1.2.1, S1.2.2)) (n + 3) = if (kd x0).1 = 10 + 2 ∧ (xf_k 2 2 = 0 ∨ (xf_k 2 2 = 1 ∧ ((1 : Int32) = 0 ∨ (1 : Int32) = 1))) then ex X d 34 81 [.ref x0, .int x1, .int x2, .int 1] [] (hh (xa_u (xa_u (xa_u (xa_u (xa_u (xa_u S1.1 x0 3 x1) x0 4 x2) x0 5 x1) x0 6 x2) x0 8 (((xa_u (xa_u (xa_u (xa_u S1.1 x0 3 x1) x0 4 x2) x0 5 x1) x0 6 x2) x0 8) + 1)) x0 2 1, S1.2.1, S1.2.2)) n else none := rfl
set_option maxRecDepth 200000 in
theorem T_34 {X : Nat × (Nat → Int32)} (S : St) (x0 : Nat) (x1 : Int32) (x2 : Int32) (r : Int32) (S' : St) (hG : G_34 S x0 x1 x2 = some (r, S')) : Ev X 1 34 0 [.ref x0, .int x1, .int x2, .retAddr 0] [] (hh S) (xI r, hh S') := by
  unfold G_34 at hG
  rcases h1 : G_100 S x1 x2 with _ | ⟨v1, S1⟩
  · rw [h1] at hG; cases hG
  rw [h1] at hG
  dsimp only at hG
  refine Ev.c (a := 100) (A := [.int x1, .int x2]) (h1 := hh S) (pc' := 5) (L' := [.ref x0, .int x1, .int x2, .retAddr 0]) (rest := []) (r1 := some (.int v1)) (h2 := hh S1) 3 (fun n => B_34_1 n x0 x1 x2 S) (Ev.up (by decide) (T_100 S x1 x2 _ _ h1)) ?_
  show Ev X _ 34 5 [.ref x0, .int x1, .int x2, .retAddr 0] [.int v1] (hh S1) _
  by_cases c2 : v1 = 0
  · rw [if_pos c2] at hG
    refine Ev.t (c := v1 = 0) (p1 := 8) (L1 := [.ref x0, .int x1, .int x2, .retAddr 0]) (s1 := []) (h1 := hh S1) (p2 := 10) (L2 := [.ref x0, .int x1, .int x2, .retAddr 0]) (s2 := []) (h2 := hh S1) 1 (fun n => B_34_2 n x0 x1 x2 v1 S1) c2 ?_
    obtain ⟨e1, e2⟩ := Prod.mk.inj (Option.some.inj hG)
    subst e1
    subst e2
    exact Ev.rg (c := (xm_z 34 = 0 ∨ (xm_z 34 = 1 ∧ ((0 : Int32) = 0 ∨ (0 : Int32) = 1)) ∨ (xm_z 34 = 2 ∧ ((0 : Int32)).toInt8.toInt32 = (0 : Int32)) ∨ (xm_z 34 = 3 ∧ ((0 : Int32)).toUInt32.toUInt16.toUInt32.toInt32 = (0 : Int32)))) 2 (fun n => rfl) (Or.inr (Or.inl ⟨rfl, by decide⟩))
  · rw [if_neg c2] at hG
    refine Ev.f (c := v1 = 0) (p1 := 8) (L1 := [.ref x0, .int x1, .int x2, .retAddr 0]) (s1 := []) (h1 := hh S1) (p2 := 10) (L2 := [.ref x0, .int x1, .int x2, .retAddr 0]) (s2 := []) (h2 := hh S1) 1 (fun n => B_34_3 n x0 x1 x2 v1 S1) c2 ?_
    by_cases g3 : (kd x0).1 = 10 + 2
    rotate_left
    · rw [if_neg g3] at hG; cases hG
    rw [if_pos g3] at hG
    refine Ev.g (c := (kd x0).1 = 10 + 2) (p1 := 14) (L1 := [.ref x0, .int x1, .int x2, .retAddr 0]) (s1 := [.int (S1.1 x0 8)]) (h1 := hh S1) 2 (fun n => B_34_4 n x0 x1 x2 S1) g3 ?_
    by_cases c4 : 2 ≤ (S1.1 x0 8)
    · rw [if_pos c4] at hG
      refine Ev.t (c := 2 ≤ (S1.1 x0 8)) (p1 := 22) (L1 := [.ref x0, .int x1, .int x2, .retAddr 0]) (s1 := []) (h1 := hh S1) (p2 := 18) (L2 := [.ref x0, .int x1, .int x2, .retAddr 0]) (s2 := []) (h2 := hh S1) 2 (fun n => B_34_5 n x0 x1 x2 S1) c4 ?_
      refine Ev.t (c := (0 : Int32) = 0) (p1 := 33) (L1 := [.ref x0, .int x1, .int x2, .int 0]) (s1 := [.ref x0]) (h1 := hh S1) (p2 := 29) (L2 := [.ref x0, .int x1, .int x2, .int 0]) (s2 := [.ref x0]) (h2 := hh S1) 5 (fun n => B_34_6 n x0 x1 x2 S1) (by decide) ?_
      refine Ev.g (c := (kd x0).1 = 10 + 2) (p1 := 37) (L1 := [.ref x0, .int x1, .int x2, .int 0]) (s1 := [.int (S1.1 x0 5), .ref x0]) (h1 := hh S1) 2 (fun n => B_34_7 n x0 x1 x2 S1) g3 ?_
      refine Ev.g (c := (kd x0).1 = 10 + 2 ∧ (xf_k 2 3 = 0 ∨ (xf_k 2 3 = 1 ∧ ((S1.1 x0 5) = 0 ∨ (S1.1 x0 5) = 1)))) (p1 := 40) (L1 := [.ref x0, .int x1, .int x2, .int 0]) (s1 := []) (h1 := hh (xa_u S1.1 x0 3 (S1.1 x0 5), S1.2.1, S1.2.2)) 1 (fun n => B_34_8 n x0 x1 x2 S1) (⟨g3, Or.inl rfl⟩) ?_
      refine Ev.t (c := (0 : Int32) = 0) (p1 := 49) (L1 := [.ref x0, .int x1, .int x2, .int 0]) (s1 := [.ref x0]) (h1 := hh (xa_u S1.1 x0 3 (S1.1 x0 5), S1.2.1, S1.2.2)) (p2 := 45) (L2 := [.ref x0, .int x1, .int x2, .int 0]) (s2 := [.ref x0]) (h2 := hh (xa_u S1.1 x0 3 (S1.1 x0 5), S1.2.1, S1.2.2)) 3 (fun n => B_34_9 n x0 x1 x2 S1) (by decide) ?_
      refine Ev.g (c := (kd x0).1 = 10 + 2) (p1 := 53) (L1 := [.ref x0, .int x1, .int x2, .int 0]) (s1 := [.int ((xa_u S1.1 x0 3 (S1.1 x0 5)) x0 6), .ref x0]) (h1 := hh (xa_u S1.1 x0 3 (S1.1 x0 5), S1.2.1, S1.2.2)) 2 (fun n => B_34_10 n x0 x1 x2 S1) g3 ?_
      refine Ev.g (c := (kd x0).1 = 10 + 2 ∧ (xf_k 2 4 = 0 ∨ (xf_k 2 4 = 1 ∧ (((xa_u S1.1 x0 3 (S1.1 x0 5)) x0 6) = 0 ∨ ((xa_u S1.1 x0 3 (S1.1 x0 5)) x0 6) = 1)))) (p1 := 56) (L1 := [.ref x0, .int x1, .int x2, .int 0]) (s1 := []) (h1 := hh (xa_u (xa_u S1.1 x0 3 (S1.1 x0 5)) x0 4 ((xa_u S1.1 x0 3 (S1.1 x0 5)) x0 6), S1.2.1, S1.2.2)) 1 (fun n => B_34_11 n x0 x1 x2 S1) (⟨g3, Or.inl rfl⟩) ?_
      refine Ev.g (c := (kd x0).1 = 10 + 2 ∧ (xf_k 2 5 = 0 ∨ (xf_k 2 5 = 1 ∧ (x1 = 0 ∨ x1 = 1)))) (p1 := 61) (L1 := [.ref x0, .int x1, .int x2, .int 0]) (s1 := []) (h1 := hh (xa_u (xa_u (xa_u S1.1 x0 3 (S1.1 x0 5)) x0 4 ((xa_u S1.1 x0 3 (S1.1 x0 5)) x0 6)) x0 5 x1, S1.2.1, S1.2.2)) 3 (fun n => B_34_12 n x0 x1 x2 S1) (⟨g3, Or.inl rfl⟩) ?_
      refine Ev.g (c := (kd x0).1 = 10 + 2 ∧ (xf_k 2 6 = 0 ∨ (xf_k 2 6 = 1 ∧ (x2 = 0 ∨ x2 = 1)))) (p1 := 66) (L1 := [.ref x0, .int x1, .int x2, .int 0]) (s1 := []) (h1 := hh (xa_u (xa_u (xa_u (xa_u S1.1 x0 3 (S1.1 x0 5)) x0 4 ((xa_u S1.1 x0 3 (S1.1 x0 5)) x0 6)) x0 5 x1) x0 6 x2, S1.2.1, S1.2.2)) 3 (fun n => B_34_13 n x0 x1 x2 S1) (⟨g3, Or.inl rfl⟩) ?_
      refine Ev.g (c := (kd x0).1 = 10 + 2) (p1 := 71) (L1 := [.ref x0, .int x1, .int x2, .int 0]) (s1 := [.int ((xa_u (xa_u (xa_u (xa_u S1.1 x0 3 (S1.1 x0 5)) x0 4 ((xa_u S1.1 x0 3 (S1.1 x0 5)) x0 6)) x0 5 x1) x0 6 x2) x0 8), .ref x0]) (h1 := hh (xa_u (xa_u (xa_u (xa_u S1.1 x0 3 (S1.1 x0 5)) x0 4 ((xa_u S1.1 x0 3 (S1.1 x0 5)) x0 6)) x0 5 x1) x0 6 x2, S1.2.1, S1.2.2)) 3 (fun n => B_34_14 n x0 x1 x2 S1) g3 ?_
      refine Ev.g (c := (kd x0).1 = 10 + 2 ∧ (xf_k 2 8 = 0 ∨ (xf_k 2 8 = 1 ∧ ((((xa_u (xa_u (xa_u (xa_u S1.1 x0 3 (S1.1 x0 5)) x0 4 ((xa_u S1.1 x0 3 (S1.1 x0 5)) x0 6)) x0 5 x1) x0 6 x2) x0 8) + 1) = 0 ∨ (((xa_u (xa_u (xa_u (xa_u S1.1 x0 3 (S1.1 x0 5)) x0 4 ((xa_u S1.1 x0 3 (S1.1 x0 5)) x0 6)) x0 5 x1) x0 6 x2) x0 8) + 1) = 1)))) (p1 := 76) (L1 := [.ref x0, .int x1, .int x2, .int 0]) (s1 := []) (h1 := hh (xa_u (xa_u (xa_u (xa_u (xa_u S1.1 x0 3 (S1.1 x0 5)) x0 4 ((xa_u S1.1 x0 3 (S1.1 x0 5)) x0 6)) x0 5 x1) x0 6 x2) x0 8 (((xa_u (xa_u (xa_u (xa_u S1.1 x0 3 (S1.1 x0 5)) x0 4 ((xa_u S1.1 x0 3 (S1.1 x0 5)) x0 6)) x0 5 x1) x0 6 x2) x0 8) + 1), S1.2.1, S1.2.2)) 3 (fun n => B_34_15 n x0 x1 x2 S1) (⟨g3, Or.inl rfl⟩) ?_
      refine Ev.g (c := (kd x0).1 = 10 + 2 ∧ (xf_k 2 2 = 0 ∨ (xf_k 2 2 = 1 ∧ ((1 : Int32) = 0 ∨ (1 : Int32) = 1)))) (p1 := 81) (L1 := [.ref x0, .int x1, .int x2, .int 0]) (s1 := []) (h1 := hh (xa_u (xa_u (xa_u (xa_u (xa_u (xa_u S1.1 x0 3 (S1.1 x0 5)) x0 4 ((xa_u S1.1 x0 3 (S1.1 x0 5)) x0 6)) x0 5 x1) x0 6 x2) x0 8 (((xa_u (xa_u (xa_u (xa_u S1.1 x0 3 (S1.1 x0 5)) x0 4 ((xa_u S1.1 x0 3 (S1.1 x0 5)) x0 6)) x0 5 x1) x0 6 x2) x0 8) + 1)) x0 2 1, S1.2.1, S1.2.2)) 3 (fun n => B_34_16 n x0 x1 x2 S1) (⟨g3, Or.inr ⟨rfl, by decide⟩⟩) ?_
      obtain ⟨e1, e2⟩ := Prod.mk.inj (Option.some.inj hG)
      subst e1
      subst e2
      exact Ev.rg (c := (xm_z 34 = 0 ∨ (xm_z 34 = 1 ∧ ((1 : Int32) = 0 ∨ (1 : Int32) = 1)) ∨ (xm_z 34 = 2 ∧ ((1 : Int32)).toInt8.toInt32 = (1 : Int32)) ∨ (xm_z 34 = 3 ∧ ((1 : Int32)).toUInt32.toUInt16.toUInt32.toInt32 = (1 : Int32)))) 2 (fun n => rfl) (Or.inr (Or.inl ⟨rfl, by decide⟩))
    · rw [if_neg c4] at hG
      refine Ev.f (c := 2 ≤ (S1.1 x0 8)) (p1 := 22) (L1 := [.ref x0, .int x1, .int x2, .retAddr 0]) (s1 := []) (h1 := hh S1) (p2 := 18) (L2 := [.ref x0, .int x1, .int x2, .retAddr 0]) (s2 := []) (h2 := hh S1) 2 (fun n => B_34_17 n x0 x1 x2 S1) c4 ?_
      refine Ev.f (c := (1 : Int32) = 0) (p1 := 33) (L1 := [.ref x0, .int x1, .int x2, .int 1]) (s1 := [.ref x0]) (h1 := hh S1) (p2 := 29) (L2 := [.ref x0, .int x1, .int x2, .int 1]) (s2 := [.ref x0]) (h2 := hh S1) 6 (fun n => B_34_18 n x0 x1 x2 S1) (by decide) ?_
      refine Ev.g (c := (kd x0).1 = 10 + 2 ∧ (xf_k 2 3 = 0 ∨ (xf_k 2 3 = 1 ∧ (x1 = 0 ∨ x1 = 1)))) (p1 := 40) (L1 := [.ref x0, .int x1, .int x2, .int 1]) (s1 := []) (h1 := hh (xa_u S1.1 x0 3 x1, S1.2.1, S1.2.2)) 3 (fun n => B_34_19 n x0 x1 x2 S1) (⟨g3, Or.inl rfl⟩) ?_
      refine Ev.f (c := (1 : Int32) = 0) (p1 := 49) (L1 := [.ref x0, .int x1, .int x2, .int 1]) (s1 := [.ref x0]) (h1 := hh (xa_u S1.1 x0 3 x1, S1.2.1, S1.2.2)) (p2 := 45) (L2 := [.ref x0, .int x1, .int x2, .int 1]) (s2 := [.ref x0]) (h2 := hh (xa_u S1.1 x0 3 x1, S1.2.1, S1.2.2)) 3 (fun n => B_34_20 n x0 x1 x2 S1) (by decide) ?_
      refine Ev.g (c := (kd x0).1 = 10 + 2 ∧ (xf_k 2 4 = 0 ∨ (xf_k 2 4 = 1 ∧ (x2 = 0 ∨ x2 = 1)))) (p1 := 56) (L1 := [.ref x0, .int x1, .int x2, .int 1]) (s1 := []) (h1 := hh (xa_u (xa_u S1.1 x0 3 x1) x0 4 x2, S1.2.1, S1.2.2)) 3 (fun n => B_34_21 n x0 x1 x2 S1) (⟨g3, Or.inl rfl⟩) ?_
      refine Ev.g (c := (kd x0).1 = 10 + 2 ∧ (xf_k 2 5 = 0 ∨ (xf_k 2 5 = 1 ∧ (x1 = 0 ∨ x1 = 1)))) (p1 := 61) (L1 := [.ref x0, .int x1, .int x2, .int 1]) (s1 := []) (h1 := hh (xa_u (xa_u (xa_u S1.1 x0 3 x1) x0 4 x2) x0 5 x1, S1.2.1, S1.2.2)) 3 (fun n => B_34_22 n x0 x1 x2 S1) (⟨g3, Or.inl rfl⟩) ?_
      refine Ev.g (c := (kd x0).1 = 10 + 2 ∧ (xf_k 2 6 = 0 ∨ (xf_k 2 6 = 1 ∧ (x2 = 0 ∨ x2 = 1)))) (p1 := 66) (L1 := [.ref x0, .int x1, .int x2, .int 1]) (s1 := []) (h1 := hh (xa_u (xa_u (xa_u (xa_u S1.1 x0 3 x1) x0 4 x2) x0 5 x1) x0 6 x2, S1.2.1, S1.2.2)) 3 (fun n => B_34_23 n x0 x1 x2 S1) (⟨g3, Or.inl rfl⟩) ?_
      refine Ev.g (c := (kd x0).1 = 10 + 2) (p1 := 71) (L1 := [.ref x0, .int x1, .int x2, .int 1]) (s1 := [.int ((xa_u (xa_u (xa_u (xa_u S1.1 x0 3 x1) x0 4 x2) x0 5 x1) x0 6 x2) x0 8), .ref x0]) (h1 := hh (xa_u (xa_u (xa_u (xa_u S1.1 x0 3 x1) x0 4 x2) x0 5 x1) x0 6 x2, S1.2.1, S1.2.2)) 3 (fun n => B_34_24 n x0 x1 x2 S1) g3 ?_
      refine Ev.g (c := (kd x0).1 = 10 + 2 ∧ (xf_k 2 8 = 0 ∨ (xf_k 2 8 = 1 ∧ ((((xa_u (xa_u (xa_u (xa_u S1.1 x0 3 x1) x0 4 x2) x0 5 x1) x0 6 x2) x0 8) + 1) = 0 ∨ (((xa_u (xa_u (xa_u (xa_u S1.1 x0 3 x1) x0 4 x2) x0 5 x1) x0 6 x2) x0 8) + 1) = 1)))) (p1 := 76) (L1 := [.ref x0, .int x1, .int x2, .int 1]) (s1 := []) (h1 := hh (xa_u (xa_u (xa_u (xa_u (xa_u S1.1 x0 3 x1) x0 4 x2) x0 5 x1) x0 6 x2) x0 8 (((xa_u (xa_u (xa_u (xa_u S1.1 x0 3 x1) x0 4 x2) x0 5 x1) x0 6 x2) x0 8) + 1), S1.2.1, S1.2.2)) 3 (fun n => B_34_25 n x0 x1 x2 S1) (⟨g3, Or.inl rfl⟩) ?_
      refine Ev.g (c := (kd x0).1 = 10 + 2 ∧ (xf_k 2 2 = 0 ∨ (xf_k 2 2 = 1 ∧ ((1 : Int32) = 0 ∨ (1 : Int32) = 1)))) (p1 := 81) (L1 := [.ref x0, .int x1, .int x2, .int 1]) (s1 := []) (h1 := hh (xa_u (xa_u (xa_u (xa_u (xa_u (xa_u S1.1 x0 3 x1) x0 4 x2) x0 5 x1) x0 6 x2) x0 8 (((xa_u (xa_u (xa_u (xa_u S1.1 x0 3 x1) x0 4 x2) x0 5 x1) x0 6 x2) x0 8) + 1)) x0 2 1, S1.2.1, S1.2.2)) 3 (fun n => B_34_26 n x0 x1 x2 S1) (⟨g3, Or.inr ⟨rfl, by decide⟩⟩) ?_
      obtain ⟨e1, e2⟩ := Prod.mk.inj (Option.some.inj hG)
      subst e1
      subst e2
      exact Ev.rg (c := (xm_z 34 = 0 ∨ (xm_z 34 = 1 ∧ ((1 : Int32) = 0 ∨ (1 : Int32) = 1)) ∨ (xm_z 34 = 2 ∧ ((1 : Int32)).toInt8.toInt32 = (1 : Int32)) ∨ (xm_z 34 = 3 ∧ ((1 : Int32)).toUInt32.toUInt16.toUInt32.toInt32 = (1 : Int32)))) 2 (fun n => rfl) (Or.inr (Or.inl ⟨rfl, by decide⟩))
/-- 33: SceneCycle$PictureReader.takeCoordinate(I)Z -/
def G_33 (S : St) (x0 : Nat) (x1 : Int32) : Option (Int32 × St) :=
  (if (kd x0).1 = 10 + 2 then
    (if ((S.1 x0 8) - (S.1 x0 8) / 2 * 2) = 0 then
      (if 16 ≤ x1 then
        some (0, (xa_u (xa_u S.1 x0 7 x1) x0 8 (((xa_u S.1 x0 7 x1) x0 8) + 1), S.2.1, S.2.2))
      else
        some (1, (xa_u (xa_u S.1 x0 7 x1) x0 8 (((xa_u S.1 x0 7 x1) x0 8) + 1), S.2.1, S.2.2))
      )
    else
      (match G_34 S x0 (S.1 x0 7) x1 with
      | none => none
      | some (v4, S4) =>
        (if (v4 = 0 ∨ v4 = 1) then some (v4, S4) else none)
      )
    )
  else none)
theorem B_33_1 {X : Nat × (Nat → Int32)} {d : Nat} (n : Nat) (x0 : Nat) (x1 : Int32) (S : St) : ex X d 33 0 [.ref x0, .int x1] [] (hh S) (n + 2) = if (kd x0).1 = 10 + 2 then ex X d 33 4 [.ref x0, .int x1] [.int (S.1 x0 8)] (hh S) n else none := rfl
theorem B_33_2 {X : Nat × (Nat → Int32)} {d : Nat} (n : Nat) (x0 : Nat) (x1 : Int32) (S : St) : ex X d 33 4 [.ref x0, .int x1] [.int (S.1 x0 8)] (hh S) (n + 2) = if (2 : Int32) = 0 then none else ex X d 33 6 [.ref x0, .int x1] [.int ((S.1 x0 8) - (S.1 x0 8) / 2 * 2)] (hh S) n := rfl
theorem B_33_3 {X : Nat × (Nat → Int32)} {d : Nat} (n : Nat) (x0 : Nat) (x1 : Int32) (S : St) : ex X d 33 6 [.ref x0, .int x1] [.int ((S.1 x0 8) - (S.1 x0 8) / 2 * 2)] (hh S) (n + 1) = if ((S.1 x0 8) - (S.1 x0 8) / 2 * 2) = 0 then ex X d 33 9 [.ref x0, .int x1] [] (hh S) n else ex X d 33 36 [.ref x0, .int x1] [] (hh S) n := rfl
theorem B_33_4 {X : Nat × (Nat → Int32)} {d : Nat} (n : Nat) (x0 : Nat) (x1 : Int32) (S : St) : ex X d 33 9 [.ref x0, .int x1] [] (hh S) (n + 3) = if (kd x0).1 = 10 + 2 ∧ (xf_k 2 7 = 0 ∨ (xf_k 2 7 = 1 ∧ (x1 = 0 ∨ x1 = 1))) then ex X d 33 14 [.ref x0, .int x1] [] (hh (xa_u S.1 x0 7 x1, S.2.1, S.2.2)) n else none := rfl
theorem B_33_5 {X : Nat × (Nat → Int32)} {d : Nat} (n : Nat) (x0 : Nat) (x1 : Int32) (S : St) : ex X d 33 14 [.ref x0, .int x1] [] (hh (xa_u S.1 x0 7 x1, S.2.1, S.2.2)) (n + 3) = if (kd x0).1 = 10 + 2 then ex X d 33 19 [.ref x0, .int x1] [.int ((xa_u S.1 x0 7 x1) x0 8), .ref x0] (hh (xa_u S.1 x0 7 x1, S.2.1, S.2.2)) n else none := rfl
theorem B_33_6 {X : Nat × (Nat → Int32)} {d : Nat} (n : Nat) (x0 : Nat) (x1 : Int32) (S : St) : ex X d 33 19 [.ref x0, .int x1] [.int ((xa_u S.1 x0 7 x1) x0 8), .ref x0] (hh (xa_u S.1 x0 7 x1, S.2.1, S.2.2)) (n + 3) = if (kd x0).1 = 10 + 2 ∧ (xf_k 2 8 = 0 ∨ (xf_k 2 8 = 1 ∧ ((((xa_u S.1 x0 7 x1) x0 8) + 1) = 0 ∨ (((xa_u S.1 x0 7 x1) x0 8) + 1) = 1))) then ex X d 33 24 [.ref x0, .int x1] [] (hh (xa_u (xa_u S.1 x0 7 x1) x0 8 (((xa_u S.1 x0 7 x1) x0 8) + 1), S.2.1, S.2.2)) n else none := rfl
theorem B_33_7 {X : Nat × (Nat → Int32)} {d : Nat} (n : Nat) (x0 : Nat) (x1 : Int32) (S : St) : ex X d 33 24 [.ref x0, .int x1] [] (hh (xa_u (xa_u S.1 x0 7 x1) x0 8 (((xa_u S.1 x0 7 x1) x0 8) + 1), S.2.1, S.2.2)) (n + 3) = if 16 ≤ x1 then ex X d 33 34 [.ref x0, .int x1] [] (hh (xa_u (xa_u S.1 x0 7 x1) x0 8 (((xa_u S.1 x0 7 x1) x0 8) + 1), S.2.1, S.2.2)) n else ex X d 33 30 [.ref x0, .int x1] [] (hh (xa_u (xa_u S.1 x0 7 x1) x0 8 (((xa_u S.1 x0 7 x1) x0 8) + 1), S.2.1, S.2.2)) n := rfl
theorem B_33_8 {X : Nat × (Nat → Int32)} {d : Nat} (n : Nat) (x0 : Nat) (x1 : Int32) (S : St) : ex X d 33 24 [.ref x0, .int x1] [] (hh (xa_u (xa_u S.1 x0 7 x1) x0 8 (((xa_u S.1 x0 7 x1) x0 8) + 1), S.2.1, S.2.2)) (n + 3) = if 16 ≤ x1 then ex X d 33 34 [.ref x0, .int x1] [] (hh (xa_u (xa_u S.1 x0 7 x1) x0 8 (((xa_u S.1 x0 7 x1) x0 8) + 1), S.2.1, S.2.2)) n else ex X d 33 30 [.ref x0, .int x1] [] (hh (xa_u (xa_u S.1 x0 7 x1) x0 8 (((xa_u S.1 x0 7 x1) x0 8) + 1), S.2.1, S.2.2)) n := rfl
theorem B_33_9 {X : Nat × (Nat → Int32)} {d : Nat} (n : Nat) (x0 : Nat) (x1 : Int32) (S : St) : ex X d 33 6 [.ref x0, .int x1] [.int ((S.1 x0 8) - (S.1 x0 8) / 2 * 2)] (hh S) (n + 1) = if ((S.1 x0 8) - (S.1 x0 8) / 2 * 2) = 0 then ex X d 33 9 [.ref x0, .int x1] [] (hh S) n else ex X d 33 36 [.ref x0, .int x1] [] (hh S) n := rfl
theorem B_33_10 {X : Nat × (Nat → Int32)} {d : Nat} (n : Nat) (x0 : Nat) (x1 : Int32) (S : St) : ex X d 33 36 [.ref x0, .int x1] [] (hh S) (n + 3) = if (kd x0).1 = 10 + 2 then ex X d 33 41 [.ref x0, .int x1] [.int (S.1 x0 7), .ref x0] (hh S) n else none := rfl
theorem B_33_11 {X : Nat × (Nat → Int32)} {d : Nat} (n : Nat) (x0 : Nat) (x1 : Int32) (S : St) : ex X (d + 1) 33 41 [.ref x0, .int x1] [.int (S.1 x0 7), .ref x0] (hh S) (n + 2) = if (xm_o 34 = 200 ∧ 2000 ≤ x0 ∧ x0 < 2000 + xS_n) ∨ (xm_o 34 ≠ 200 ∧ (kd x0).1 = 10 + xm_o 34) then (match ex X d 34 0 [.ref x0, .int (S.1 x0 7), .int x1, .retAddr 0] [] (hh S) n with | some (v, h') => ex X (d + 1) 33 45 [.ref x0, .int x1] (v.toList ++ []) h' n | none => none) else none := rfl
set_option maxRecDepth 200000 in
theorem T_33 {X : Nat × (Nat → Int32)} (S : St) (x0 : Nat) (x1 : Int32) (r : Int32) (S' : St) (hG : G_33 S x0 x1 = some (r, S')) : Ev X 2 33 0 [.ref x0, .int x1] [] (hh S) (xI r, hh S') := by
  unfold G_33 at hG
  by_cases g1 : (kd x0).1 = 10 + 2
  rotate_left
  · rw [if_neg g1] at hG; cases hG
  rw [if_pos g1] at hG
  refine Ev.g (c := (kd x0).1 = 10 + 2) (p1 := 4) (L1 := [.ref x0, .int x1]) (s1 := [.int (S.1 x0 8)]) (h1 := hh S) 2 (fun n => B_33_1 n x0 x1 S) g1 ?_
  refine Ev.z (c := (2 : Int32) = 0) (p1 := 6) (L1 := [.ref x0, .int x1]) (s1 := [.int ((S.1 x0 8) - (S.1 x0 8) / 2 * 2)]) (h1 := hh S) 2 (fun n => B_33_2 n x0 x1 S) (by decide) ?_
  by_cases c2 : ((S.1 x0 8) - (S.1 x0 8) / 2 * 2) = 0
  · rw [if_pos c2] at hG
    refine Ev.t (c := ((S.1 x0 8) - (S.1 x0 8) / 2 * 2) = 0) (p1 := 9) (L1 := [.ref x0, .int x1]) (s1 := []) (h1 := hh S) (p2 := 36) (L2 := [.ref x0, .int x1]) (s2 := []) (h2 := hh S) 1 (fun n => B_33_3 n x0 x1 S) c2 ?_
    refine Ev.g (c := (kd x0).1 = 10 + 2 ∧ (xf_k 2 7 = 0 ∨ (xf_k 2 7 = 1 ∧ (x1 = 0 ∨ x1 = 1)))) (p1 := 14) (L1 := [.ref x0, .int x1]) (s1 := []) (h1 := hh (xa_u S.1 x0 7 x1, S.2.1, S.2.2)) 3 (fun n => B_33_4 n x0 x1 S) (⟨g1, Or.inl rfl⟩) ?_
    refine Ev.g (c := (kd x0).1 = 10 + 2) (p1 := 19) (L1 := [.ref x0, .int x1]) (s1 := [.int ((xa_u S.1 x0 7 x1) x0 8), .ref x0]) (h1 := hh (xa_u S.1 x0 7 x1, S.2.1, S.2.2)) 3 (fun n => B_33_5 n x0 x1 S) g1 ?_
    refine Ev.g (c := (kd x0).1 = 10 + 2 ∧ (xf_k 2 8 = 0 ∨ (xf_k 2 8 = 1 ∧ ((((xa_u S.1 x0 7 x1) x0 8) + 1) = 0 ∨ (((xa_u S.1 x0 7 x1) x0 8) + 1) = 1)))) (p1 := 24) (L1 := [.ref x0, .int x1]) (s1 := []) (h1 := hh (xa_u (xa_u S.1 x0 7 x1) x0 8 (((xa_u S.1 x0 7 x1) x0 8) + 1), S.2.1, S.2.2)) 3 (fun n => B_33_6 n x0 x1 S) (⟨g1, Or.inl rfl⟩) ?_
    by_cases c3 : 16 ≤ x1
    · rw [if_pos c3] at hG
      refine Ev.t (c := 16 ≤ x1) (p1 := 34) (L1 := [.ref x0, .int x1]) (s1 := []) (h1 := hh (xa_u (xa_u S.1 x0 7 x1) x0 8 (((xa_u S.1 x0 7 x1) x0 8) + 1), S.2.1, S.2.2)) (p2 := 30) (L2 := [.ref x0, .int x1]) (s2 := []) (h2 := hh (xa_u (xa_u S.1 x0 7 x1) x0 8 (((xa_u S.1 x0 7 x1) x0 8) + 1), S.2.1, S.2.2)) 3 (fun n => B_33_7 n x0 x1 S) c3 ?_
      obtain ⟨e1, e2⟩ := Prod.mk.inj (Option.some.inj hG)
      subst e1
      subst e2
      exact Ev.rg (c := (xm_z 33 = 0 ∨ (xm_z 33 = 1 ∧ ((0 : Int32) = 0 ∨ (0 : Int32) = 1)) ∨ (xm_z 33 = 2 ∧ ((0 : Int32)).toInt8.toInt32 = (0 : Int32)) ∨ (xm_z 33 = 3 ∧ ((0 : Int32)).toUInt32.toUInt16.toUInt32.toInt32 = (0 : Int32)))) 2 (fun n => rfl) (Or.inr (Or.inl ⟨rfl, by decide⟩))
    · rw [if_neg c3] at hG
      refine Ev.f (c := 16 ≤ x1) (p1 := 34) (L1 := [.ref x0, .int x1]) (s1 := []) (h1 := hh (xa_u (xa_u S.1 x0 7 x1) x0 8 (((xa_u S.1 x0 7 x1) x0 8) + 1), S.2.1, S.2.2)) (p2 := 30) (L2 := [.ref x0, .int x1]) (s2 := []) (h2 := hh (xa_u (xa_u S.1 x0 7 x1) x0 8 (((xa_u S.1 x0 7 x1) x0 8) + 1), S.2.1, S.2.2)) 3 (fun n => B_33_8 n x0 x1 S) c3 ?_
      obtain ⟨e1, e2⟩ := Prod.mk.inj (Option.some.inj hG)
      subst e1
      subst e2
      exact Ev.rg (c := (xm_z 33 = 0 ∨ (xm_z 33 = 1 ∧ ((1 : Int32) = 0 ∨ (1 : Int32) = 1)) ∨ (xm_z 33 = 2 ∧ ((1 : Int32)).toInt8.toInt32 = (1 : Int32)) ∨ (xm_z 33 = 3 ∧ ((1 : Int32)).toUInt32.toUInt16.toUInt32.toInt32 = (1 : Int32)))) 3 (fun n => rfl) (Or.inr (Or.inl ⟨rfl, by decide⟩))
  · rw [if_neg c2] at hG
    refine Ev.f (c := ((S.1 x0 8) - (S.1 x0 8) / 2 * 2) = 0) (p1 := 9) (L1 := [.ref x0, .int x1]) (s1 := []) (h1 := hh S) (p2 := 36) (L2 := [.ref x0, .int x1]) (s2 := []) (h2 := hh S) 1 (fun n => B_33_9 n x0 x1 S) c2 ?_
    refine Ev.g (c := (kd x0).1 = 10 + 2) (p1 := 41) (L1 := [.ref x0, .int x1]) (s1 := [.int (S.1 x0 7), .ref x0]) (h1 := hh S) 3 (fun n => B_33_10 n x0 x1 S) g1 ?_
    rcases h4 : G_34 S x0 (S.1 x0 7) x1 with _ | ⟨v4, S4⟩
    · rw [h4] at hG; cases hG
    rw [h4] at hG
    dsimp only at hG
    refine Ev.cg (c := (xm_o 34 = 200 ∧ 2000 ≤ x0 ∧ x0 < 2000 + xS_n) ∨ (xm_o 34 ≠ 200 ∧ (kd x0).1 = 10 + xm_o 34)) (a := 34) (A := [.ref x0, .int (S.1 x0 7), .int x1, .retAddr 0]) (h1 := hh S) (pc' := 45) (L' := [.ref x0, .int x1]) (rest := []) (r1 := some (.int v4)) (h2 := hh S4) 2 (fun n => B_33_11 n x0 x1 S) (Or.inr ⟨by decide, g1⟩) (Ev.up (by decide) (T_34 S x0 (S.1 x0 7) x1 _ _ h4)) ?_
    show Ev X _ 33 45 [.ref x0, .int x1] [.int v4] (hh S4) _
    by_cases g5 : (v4 = 0 ∨ v4 = 1)
    rotate_left
    · rw [if_neg g5] at hG; cases hG
    rw [if_pos g5] at hG
    obtain ⟨e1, e2⟩ := Prod.mk.inj (Option.some.inj hG)
    subst e1
    subst e2
    exact Ev.rg (c := (xm_z 33 = 0 ∨ (xm_z 33 = 1 ∧ (v4 = 0 ∨ v4 = 1)) ∨ (xm_z 33 = 2 ∧ (v4).toInt8.toInt32 = v4) ∨ (xm_z 33 = 3 ∧ (v4).toUInt32.toUInt16.toUInt32.toInt32 = v4))) 1 (fun n => rfl) (Or.inr (Or.inl ⟨rfl, g5⟩))
/-- 36: SceneCycle$PictureReader.moveOf(I)I -/
def G_36 (S : St) (x0 : Int32) : Option (Int32 × St) :=
  (if x0 ≤ 8 then
    some (x0, S)
  else
    some ((8 - x0), S)
  )
theorem B_36_1 {X : Nat × (Nat → Int32)} {d : Nat} (n : Nat) (x0 : Int32) (S : St) : ex X d 36 0 [.int x0] [] (hh S) (n + 3) = if x0 ≤ 8 then ex X d 36 13 [.int x0] [] (hh S) n else ex X d 36 6 [.int x0] [] (hh S) n := rfl
theorem B_36_2 {X : Nat × (Nat → Int32)} {d : Nat} (n : Nat) (x0 : Int32) (S : St) : ex X d 36 0 [.int x0] [] (hh S) (n + 3) = if x0 ≤ 8 then ex X d 36 13 [.int x0] [] (hh S) n else ex X d 36 6 [.int x0] [] (hh S) n := rfl
set_option maxRecDepth 200000 in
theorem T_36 {X : Nat × (Nat → Int32)} (S : St) (x0 : Int32) (r : Int32) (S' : St) (hG : G_36 S x0 = some (r, S')) : Ev X 0 36 0 [.int x0] [] (hh S) (xI r, hh S') := by
  unfold G_36 at hG
  by_cases c1 : x0 ≤ 8
  · rw [if_pos c1] at hG
    refine Ev.t (c := x0 ≤ 8) (p1 := 13) (L1 := [.int x0]) (s1 := []) (h1 := hh S) (p2 := 6) (L2 := [.int x0]) (s2 := []) (h2 := hh S) 3 (fun n => B_36_1 n x0 S) c1 ?_
    obtain ⟨e1, e2⟩ := Prod.mk.inj (Option.some.inj hG)
    subst e1
    subst e2
    exact Ev.r 2 (fun n => rfl)
  · rw [if_neg c1] at hG
    refine Ev.f (c := x0 ≤ 8) (p1 := 13) (L1 := [.int x0]) (s1 := []) (h1 := hh S) (p2 := 6) (L2 := [.int x0]) (s2 := []) (h2 := hh S) 3 (fun n => B_36_2 n x0 S) c1 ?_
    obtain ⟨e1, e2⟩ := Prod.mk.inj (Option.some.inj hG)
    subst e1
    subst e2
    exact Ev.r 5 (fun n => rfl)
/-- 35: SceneCycle$PictureReader.takeStep(I)Z -/
def G_35 (S : St) (x0 : Nat) (x1 : Int32) : Option (Int32 × St) :=
  (if (kd x0).1 = 10 + 2 then
    (match G_36 S (x1 / 16) with
    | none => none
    | some (v2, S2) =>
      (match G_36 S2 (x1 - x1 / 16 * 16) with
      | none => none
      | some (v3, S3) =>
        (match G_34 S3 x0 ((S.1 x0 5) + v2) ((S2.1 x0 6) + v3) with
        | none => none
        | some (v4, S4) =>
          (if (v4 = 0 ∨ v4 = 1) then some (v4, S4) else none)
        )
      )
    )
  else none)
theorem B_35_1 {X : Nat × (Nat → Int32)} {d : Nat} (n : Nat) (x0 : Nat) (x1 : Int32) (S : St) : ex X d 35 0 [.ref x0, .int x1] [] (hh S) (n + 3) = if (kd x0).1 = 10 + 2 then ex X d 35 5 [.ref x0, .int x1] [.int (S.1 x0 5), .ref x0] (hh S) n else none := rfl
theorem B_35_2 {X : Nat × (Nat → Int32)} {d : Nat} (n : Nat) (x0 : Nat) (x1 : Int32) (S : St) : ex X d 35 5 [.ref x0, .int x1] [.int (S.1 x0 5), .ref x0] (hh S) (n + 3) = if (16 : Int32) = 0 then none else ex X d 35 9 [.ref x0, .int x1] [.int (x1 / 16), .int (S.1 x0 5), .ref x0] (hh S) n := rfl
theorem B_35_3 {X : Nat × (Nat → Int32)} {d : Nat} (n : Nat) (x0 : Nat) (x1 : Int32) (S : St) : ex X (d + 1) 35 9 [.ref x0, .int x1] [.int (x1 / 16), .int (S.1 x0 5), .ref x0] (hh S) (n + 1) = (match ex X d 36 0 [.int (x1 / 16)] [] (hh S) n with | some (v, h') => ex X (d + 1) 35 12 [.ref x0, .int x1] (v.toList ++ [.int (S.1 x0 5), .ref x0]) h' n | none => none) := rfl
theorem B_35_4 {X : Nat × (Nat → Int32)} {d : Nat} (n : Nat) (x0 : Nat) (x1 : Int32) (v2 : Int32) (S : St) (S2 : St) : ex X d 35 12 [.ref x0, .int x1] [.int v2, .int (S.1 x0 5), .ref x0] (hh S2) (n + 3) = if (kd x0).1 = 10 + 2 then ex X d 35 17 [.ref x0, .int x1] [.int (S2.1 x0 6), .int ((S.1 x0 5) + v2), .ref x0] (hh S2) n else none := rfl
theorem B_35_5 {X : Nat × (Nat → Int32)} {d : Nat} (n : Nat) (x0 : Nat) (x1 : Int32) (S2 : St) (S : St) (v2 : Int32) : ex X d 35 17 [.ref x0, .int x1] [.int (S2.1 x0 6), .int ((S.1 x0 5) + v2), .ref x0] (hh S2) (n + 3) = if (16 : Int32) = 0 then none else ex X d 35 21 [.ref x0, .int x1] [.int (x1 - x1 / 16 * 16), .int (S2.1 x0 6), .int ((S.1 x0 5) + v2), .ref x0] (hh S2) n := rfl
theorem B_35_6 {X : Nat × (Nat → Int32)} {d : Nat} (n : Nat) (x0 : Nat) (x1 : Int32) (S2 : St) (S : St) (v2 : Int32) : ex X (d + 1) 35 21 [.ref x0, .int x1] [.int (x1 - x1 / 16 * 16), .int (S2.1 x0 6), .int ((S.1 x0 5) + v2), .ref x0] (hh S2) (n + 1) = (match ex X d 36 0 [.int (x1 - x1 / 16 * 16)] [] (hh S2) n with | some (v, h') => ex X (d + 1) 35 24 [.ref x0, .int x1] (v.toList ++ [.int (S2.1 x0 6), .int ((S.1 x0 5) + v2), .ref x0]) h' n | none => none) := rfl
theorem B_35_7 {X : Nat × (Nat → Int32)} {d : Nat} (n : Nat) (x0 : Nat) (x1 : Int32) (v3 : Int32) (S2 : St) (S : St) (v2 : Int32) (S3 : St) : ex X (d + 1) 35 24 [.ref x0, .int x1] [.int v3, .int (S2.1 x0 6), .int ((S.1 x0 5) + v2), .ref x0] (hh S3) (n + 2) = if (xm_o 34 = 200 ∧ 2000 ≤ x0 ∧ x0 < 2000 + xS_n) ∨ (xm_o 34 ≠ 200 ∧ (kd x0).1 = 10 + xm_o 34) then (match ex X d 34 0 [.ref x0, .int ((S.1 x0 5) + v2), .int ((S2.1 x0 6) + v3), .retAddr 0] [] (hh S3) n with | some (v, h') => ex X (d + 1) 35 28 [.ref x0, .int x1] (v.toList ++ []) h' n | none => none) else none := rfl
set_option maxRecDepth 200000 in
theorem T_35 {X : Nat × (Nat → Int32)} (S : St) (x0 : Nat) (x1 : Int32) (r : Int32) (S' : St) (hG : G_35 S x0 x1 = some (r, S')) : Ev X 2 35 0 [.ref x0, .int x1] [] (hh S) (xI r, hh S') := by
  unfold G_35 at hG
  by_cases g1 : (kd x0).1 = 10 + 2
  rotate_left
  · rw [if_neg g1] at hG; cases hG
  rw [if_pos g1] at hG
  refine Ev.g (c := (kd x0).1 = 10 + 2) (p1 := 5) (L1 := [.ref x0, .int x1]) (s1 := [.int (S.1 x0 5), .ref x0]) (h1 := hh S) 3 (fun n => B_35_1 n x0 x1 S) g1 ?_
  refine Ev.z (c := (16 : Int32) = 0) (p1 := 9) (L1 := [.ref x0, .int x1]) (s1 := [.int (x1 / 16), .int (S.1 x0 5), .ref x0]) (h1 := hh S) 3 (fun n => B_35_2 n x0 x1 S) (by decide) ?_
  rcases h2 : G_36 S (x1 / 16) with _ | ⟨v2, S2⟩
  · rw [h2] at hG; cases hG
  rw [h2] at hG
  dsimp only at hG
  refine Ev.c (a := 36) (A := [.int (x1 / 16)]) (h1 := hh S) (pc' := 12) (L' := [.ref x0, .int x1]) (rest := [.int (S.1 x0 5), .ref x0]) (r1 := some (.int v2)) (h2 := hh S2) 1 (fun n => B_35_3 n x0 x1 S) (Ev.up (by decide) (T_36 S (x1 / 16) _ _ h2)) ?_
  show Ev X _ 35 12 [.ref x0, .int x1] [.int v2, .int (S.1 x0 5), .ref x0] (hh S2) _
  refine Ev.g (c := (kd x0).1 = 10 + 2) (p1 := 17) (L1 := [.ref x0, .int x1]) (s1 := [.int (S2.1 x0 6), .int ((S.1 x0 5) + v2), .ref x0]) (h1 := hh S2) 3 (fun n => B_35_4 n x0 x1 v2 S S2) g1 ?_
  refine Ev.z (c := (16 : Int32) = 0) (p1 := 21) (L1 := [.ref x0, .int x1]) (s1 := [.int (x1 - x1 / 16 * 16), .int (S2.1 x0 6), .int ((S.1 x0 5) + v2), .ref x0]) (h1 := hh S2) 3 (fun n => B_35_5 n x0 x1 S2 S v2) (by decide) ?_
  rcases h3 : G_36 S2 (x1 - x1 / 16 * 16) with _ | ⟨v3, S3⟩
  · rw [h3] at hG; cases hG
  rw [h3] at hG
  dsimp only at hG
  refine Ev.c (a := 36) (A := [.int (x1 - x1 / 16 * 16)]) (h1 := hh S2) (pc' := 24) (L' := [.ref x0, .int x1]) (rest := [.int (S2.1 x0 6), .int ((S.1 x0 5) + v2), .ref x0]) (r1 := some (.int v3)) (h2 := hh S3) 1 (fun n => B_35_6 n x0 x1 S2 S v2) (Ev.up (by decide) (T_36 S2 (x1 - x1 / 16 * 16) _ _ h3)) ?_
  show Ev X _ 35 24 [.ref x0, .int x1] [.int v3, .int (S2.1 x0 6), .int ((S.1 x0 5) + v2), .ref x0] (hh S3) _
  rcases h4 : G_34 S3 x0 ((S.1 x0 5) + v2) ((S2.1 x0 6) + v3) with _ | ⟨v4, S4⟩
  · rw [h4] at hG; cases hG
  rw [h4] at hG
  dsimp only at hG
  refine Ev.cg (c := (xm_o 34 = 200 ∧ 2000 ≤ x0 ∧ x0 < 2000 + xS_n) ∨ (xm_o 34 ≠ 200 ∧ (kd x0).1 = 10 + xm_o 34)) (a := 34) (A := [.ref x0, .int ((S.1 x0 5) + v2), .int ((S2.1 x0 6) + v3), .retAddr 0]) (h1 := hh S3) (pc' := 28) (L' := [.ref x0, .int x1]) (rest := []) (r1 := some (.int v4)) (h2 := hh S4) 2 (fun n => B_35_7 n x0 x1 v3 S2 S v2 S3) (Or.inr ⟨by decide, g1⟩) (Ev.up (by decide) (T_34 S3 x0 ((S.1 x0 5) + v2) ((S2.1 x0 6) + v3) _ _ h4)) ?_
  show Ev X _ 35 28 [.ref x0, .int x1] [.int v4] (hh S4) _
  by_cases g5 : (v4 = 0 ∨ v4 = 1)
  rotate_left
  · rw [if_neg g5] at hG; cases hG
  rw [if_pos g5] at hG
  obtain ⟨e1, e2⟩ := Prod.mk.inj (Option.some.inj hG)
  subst e1
  subst e2
  exact Ev.rg (c := (xm_z 35 = 0 ∨ (xm_z 35 = 1 ∧ (v4 = 0 ∨ v4 = 1)) ∨ (xm_z 35 = 2 ∧ (v4).toInt8.toInt32 = v4) ∨ (xm_z 35 = 3 ∧ (v4).toUInt32.toUInt16.toUInt32.toInt32 = v4))) 1 (fun n => rfl) (Or.inr (Or.inl ⟨rfl, g5⟩))
/-- 30: SceneCycle$PictureReader.isComplete()Z -/
def G_30 (S : St) (x0 : Nat) : Option (Int32 × St) :=
  (if (kd x0).1 = 10 + 2 then
    (if (S.1 x0 0) = 240 then
      (if (S.1 x0 8) = 1 then
        some (1, S)
      else
        some (0, S)
      )
    else
      (if (S.1 x0 0) = 242 then
        (if (S.1 x0 8) = 1 then
          some (1, S)
        else
          some (0, S)
        )
      else
        (if (S.1 x0 0) = 244 then
          (if (S.1 x0 8) < 2 then
            some (0, S)
          else
            (if ((S.1 x0 8) - (S.1 x0 8) / 2 * 2) = 0 then
              some (1, S)
            else
              some (0, S)
            )
          )
        else
          (if (S.1 x0 0) = 245 then
            (if (S.1 x0 8) < 2 then
              some (0, S)
            else
              some (1, S)
            )
          else
            (if (S.1 x0 0) = 246 then
              (if (S.1 x0 8) < 2 then
                some (0, S)
              else
                (if ((S.1 x0 8) - (S.1 x0 8) / 2 * 2) = 0 then
                  some (1, S)
                else
                  some (0, S)
                )
              )
            else
              some (1, S)
            )
          )
        )
      )
    )
  else none)
theorem B_30_1 {X : Nat × (Nat → Int32)} {d : Nat} (n : Nat) (x0 : Nat) (S : St) : ex X d 30 0 [.ref x0] [] (hh S) (n + 2) = if (kd x0).1 = 10 + 2 then ex X d 30 4 [.ref x0] [.int (S.1 x0 0)] (hh S) n else none := rfl
theorem B_30_2 {X : Nat × (Nat → Int32)} {d : Nat} (n : Nat) (x0 : Nat) (S : St) : ex X d 30 4 [.ref x0] [.int (S.1 x0 0)] (hh S) (n + 1) = xa_sw [(240, 48), (242, 48), (244, 62), (245, 85), (246, 62)] (S.1 x0 0) 99 (fun t => ex X d 30 t [.ref x0] [] (hh S) n) := rfl
theorem B_30_3 {X : Nat × (Nat → Int32)} {d : Nat} (n : Nat) (x0 : Nat) (S : St) : ex X d 30 48 [.ref x0] [] (hh S) (n + 2) = if (kd x0).1 = 10 + 2 then ex X d 30 52 [.ref x0] [.int (S.1 x0 8)] (hh S) n else none := rfl
theorem B_30_4 {X : Nat × (Nat → Int32)} {d : Nat} (n : Nat) (x0 : Nat) (S : St) : ex X d 30 52 [.ref x0] [.int (S.1 x0 8)] (hh S) (n + 2) = if (S.1 x0 8) = 1 then ex X d 30 56 [.ref x0] [] (hh S) n else ex X d 30 60 [.ref x0] [] (hh S) n := rfl
theorem B_30_5 {X : Nat × (Nat → Int32)} {d : Nat} (n : Nat) (x0 : Nat) (S : St) : ex X d 30 52 [.ref x0] [.int (S.1 x0 8)] (hh S) (n + 2) = if (S.1 x0 8) = 1 then ex X d 30 56 [.ref x0] [] (hh S) n else ex X d 30 60 [.ref x0] [] (hh S) n := rfl
theorem B_30_6 {X : Nat × (Nat → Int32)} {d : Nat} (n : Nat) (x0 : Nat) (S : St) : ex X d 30 48 [.ref x0] [] (hh S) (n + 2) = if (kd x0).1 = 10 + 2 then ex X d 30 52 [.ref x0] [.int (S.1 x0 8)] (hh S) n else none := rfl
theorem B_30_7 {X : Nat × (Nat → Int32)} {d : Nat} (n : Nat) (x0 : Nat) (S : St) : ex X d 30 52 [.ref x0] [.int (S.1 x0 8)] (hh S) (n + 2) = if (S.1 x0 8) = 1 then ex X d 30 56 [.ref x0] [] (hh S) n else ex X d 30 60 [.ref x0] [] (hh S) n := rfl
theorem B_30_8 {X : Nat × (Nat → Int32)} {d : Nat} (n : Nat) (x0 : Nat) (S : St) : ex X d 30 52 [.ref x0] [.int (S.1 x0 8)] (hh S) (n + 2) = if (S.1 x0 8) = 1 then ex X d 30 56 [.ref x0] [] (hh S) n else ex X d 30 60 [.ref x0] [] (hh S) n := rfl
theorem B_30_9 {X : Nat × (Nat → Int32)} {d : Nat} (n : Nat) (x0 : Nat) (S : St) : ex X d 30 62 [.ref x0] [] (hh S) (n + 2) = if (kd x0).1 = 10 + 2 then ex X d 30 66 [.ref x0] [.int (S.1 x0 8)] (hh S) n else none := rfl
theorem B_30_10 {X : Nat × (Nat → Int32)} {d : Nat} (n : Nat) (x0 : Nat) (S : St) : ex X d 30 66 [.ref x0] [.int (S.1 x0 8)] (hh S) (n + 2) = if (S.1 x0 8) < 2 then ex X d 30 83 [.ref x0] [] (hh S) n else ex X d 30 70 [.ref x0] [] (hh S) n := rfl
theorem B_30_11 {X : Nat × (Nat → Int32)} {d : Nat} (n : Nat) (x0 : Nat) (S : St) : ex X d 30 66 [.ref x0] [.int (S.1 x0 8)] (hh S) (n + 2) = if (S.1 x0 8) < 2 then ex X d 30 83 [.ref x0] [] (hh S) n else ex X d 30 70 [.ref x0] [] (hh S) n := rfl
theorem B_30_12 {X : Nat × (Nat → Int32)} {d : Nat} (n : Nat) (x0 : Nat) (S : St) : ex X d 30 70 [.ref x0] [] (hh S) (n + 2) = if (kd x0).1 = 10 + 2 then ex X d 30 74 [.ref x0] [.int (S.1 x0 8)] (hh S) n else none := rfl
theorem B_30_13 {X : Nat × (Nat → Int32)} {d : Nat} (n : Nat) (x0 : Nat) (S : St) : ex X d 30 74 [.ref x0] [.int (S.1 x0 8)] (hh S) (n + 2) = if (2 : Int32) = 0 then none else ex X d 30 76 [.ref x0] [.int ((S.1 x0 8) - (S.1 x0 8) / 2 * 2)] (hh S) n := rfl
theorem B_30_14 {X : Nat × (Nat → Int32)} {d : Nat} (n : Nat) (x0 : Nat) (S : St) : ex X d 30 76 [.ref x0] [.int ((S.1 x0 8) - (S.1 x0 8) / 2 * 2)] (hh S) (n + 1) = if ((S.1 x0 8) - (S.1 x0 8) / 2 * 2) = 0 then ex X d 30 79 [.ref x0] [] (hh S) n else ex X d 30 83 [.ref x0] [] (hh S) n := rfl
theorem B_30_15 {X : Nat × (Nat → Int32)} {d : Nat} (n : Nat) (x0 : Nat) (S : St) : ex X d 30 76 [.ref x0] [.int ((S.1 x0 8) - (S.1 x0 8) / 2 * 2)] (hh S) (n + 1) = if ((S.1 x0 8) - (S.1 x0 8) / 2 * 2) = 0 then ex X d 30 79 [.ref x0] [] (hh S) n else ex X d 30 83 [.ref x0] [] (hh S) n := rfl
theorem B_30_16 {X : Nat × (Nat → Int32)} {d : Nat} (n : Nat) (x0 : Nat) (S : St) : ex X d 30 85 [.ref x0] [] (hh S) (n + 2) = if (kd x0).1 = 10 + 2 then ex X d 30 89 [.ref x0] [.int (S.1 x0 8)] (hh S) n else none := rfl
theorem B_30_17 {X : Nat × (Nat → Int32)} {d : Nat} (n : Nat) (x0 : Nat) (S : St) : ex X d 30 89 [.ref x0] [.int (S.1 x0 8)] (hh S) (n + 2) = if (S.1 x0 8) < 2 then ex X d 30 97 [.ref x0] [] (hh S) n else ex X d 30 93 [.ref x0] [] (hh S) n := rfl
theorem B_30_18 {X : Nat × (Nat → Int32)} {d : Nat} (n : Nat) (x0 : Nat) (S : St) : ex X d 30 89 [.ref x0] [.int (S.1 x0 8)] (hh S) (n + 2) = if (S.1 x0 8) < 2 then ex X d 30 97 [.ref x0] [] (hh S) n else ex X d 30 93 [.ref x0] [] (hh S) n := rfl
theorem B_30_19 {X : Nat × (Nat → Int32)} {d : Nat} (n : Nat) (x0 : Nat) (S : St) : ex X d 30 62 [.ref x0] [] (hh S) (n + 2) = if (kd x0).1 = 10 + 2 then ex X d 30 66 [.ref x0] [.int (S.1 x0 8)] (hh S) n else none := rfl
theorem B_30_20 {X : Nat × (Nat → Int32)} {d : Nat} (n : Nat) (x0 : Nat) (S : St) : ex X d 30 66 [.ref x0] [.int (S.1 x0 8)] (hh S) (n + 2) = if (S.1 x0 8) < 2 then ex X d 30 83 [.ref x0] [] (hh S) n else ex X d 30 70 [.ref x0] [] (hh S) n := rfl
theorem B_30_21 {X : Nat × (Nat → Int32)} {d : Nat} (n : Nat) (x0 : Nat) (S : St) : ex X d 30 66 [.ref x0] [.int (S.1 x0 8)] (hh S) (n + 2) = if (S.1 x0 8) < 2 then ex X d 30 83 [.ref x0] [] (hh S) n else ex X d 30 70 [.ref x0] [] (hh S) n := rfl
theorem B_30_22 {X : Nat × (Nat → Int32)} {d : Nat} (n : Nat) (x0 : Nat) (S : St) : ex X d 30 70 [.ref x0] [] (hh S) (n + 2) = if (kd x0).1 = 10 + 2 then ex X d 30 74 [.ref x0] [.int (S.1 x0 8)] (hh S) n else none := rfl
theorem B_30_23 {X : Nat × (Nat → Int32)} {d : Nat} (n : Nat) (x0 : Nat) (S : St) : ex X d 30 74 [.ref x0] [.int (S.1 x0 8)] (hh S) (n + 2) = if (2 : Int32) = 0 then none else ex X d 30 76 [.ref x0] [.int ((S.1 x0 8) - (S.1 x0 8) / 2 * 2)] (hh S) n := rfl
theorem B_30_24 {X : Nat × (Nat → Int32)} {d : Nat} (n : Nat) (x0 : Nat) (S : St) : ex X d 30 76 [.ref x0] [.int ((S.1 x0 8) - (S.1 x0 8) / 2 * 2)] (hh S) (n + 1) = if ((S.1 x0 8) - (S.1 x0 8) / 2 * 2) = 0 then ex X d 30 79 [.ref x0] [] (hh S) n else ex X d 30 83 [.ref x0] [] (hh S) n := rfl
theorem B_30_25 {X : Nat × (Nat → Int32)} {d : Nat} (n : Nat) (x0 : Nat) (S : St) : ex X d 30 76 [.ref x0] [.int ((S.1 x0 8) - (S.1 x0 8) / 2 * 2)] (hh S) (n + 1) = if ((S.1 x0 8) - (S.1 x0 8) / 2 * 2) = 0 then ex X d 30 79 [.ref x0] [] (hh S) n else ex X d 30 83 [.ref x0] [] (hh S) n := rfl
set_option maxRecDepth 200000 in
theorem T_30 {X : Nat × (Nat → Int32)} (S : St) (x0 : Nat) (r : Int32) (S' : St) (hG : G_30 S x0 = some (r, S')) : Ev X 0 30 0 [.ref x0] [] (hh S) (xI r, hh S') := by
  unfold G_30 at hG
  by_cases g1 : (kd x0).1 = 10 + 2
  rotate_left
  · rw [if_neg g1] at hG; cases hG
  rw [if_pos g1] at hG
  refine Ev.g (c := (kd x0).1 = 10 + 2) (p1 := 4) (L1 := [.ref x0]) (s1 := [.int (S.1 x0 0)]) (h1 := hh S) 2 (fun n => B_30_1 n x0 S) g1 ?_
  refine Ev.sw (ks := [(240, 48), (242, 48), (244, 62), (245, 85), (246, 62)]) (x := (S.1 x0 0)) (df := 99) (L1 := [.ref x0]) (s1 := []) (h1 := hh S) 1 (fun n => B_30_2 n x0 S) ?_
  by_cases c2 : (S.1 x0 0) = 240
  · rw [if_pos c2] at hG
    rw [xa_sw, if_pos c2]
    show Ev X _ 30 48 [.ref x0] [] (hh S) _
    refine Ev.g (c := (kd x0).1 = 10 + 2) (p1 := 52) (L1 := [.ref x0]) (s1 := [.int (S.1 x0 8)]) (h1 := hh S) 2 (fun n => B_30_3 n x0 S) g1 ?_
    by_cases c3 : (S.1 x0 8) = 1
    · rw [if_pos c3] at hG
      refine Ev.t (c := (S.1 x0 8) = 1) (p1 := 56) (L1 := [.ref x0]) (s1 := []) (h1 := hh S) (p2 := 60) (L2 := [.ref x0]) (s2 := []) (h2 := hh S) 2 (fun n => B_30_4 n x0 S) c3 ?_
      obtain ⟨e1, e2⟩ := Prod.mk.inj (Option.some.inj hG)
      subst e1
      subst e2
      exact Ev.rg (c := (xm_z 30 = 0 ∨ (xm_z 30 = 1 ∧ ((1 : Int32) = 0 ∨ (1 : Int32) = 1)) ∨ (xm_z 30 = 2 ∧ ((1 : Int32)).toInt8.toInt32 = (1 : Int32)) ∨ (xm_z 30 = 3 ∧ ((1 : Int32)).toUInt32.toUInt16.toUInt32.toInt32 = (1 : Int32)))) 3 (fun n => rfl) (Or.inr (Or.inl ⟨rfl, by decide⟩))
    · rw [if_neg c3] at hG
      refine Ev.f (c := (S.1 x0 8) = 1) (p1 := 56) (L1 := [.ref x0]) (s1 := []) (h1 := hh S) (p2 := 60) (L2 := [.ref x0]) (s2 := []) (h2 := hh S) 2 (fun n => B_30_5 n x0 S) c3 ?_
      obtain ⟨e1, e2⟩ := Prod.mk.inj (Option.some.inj hG)
      subst e1
      subst e2
      exact Ev.rg (c := (xm_z 30 = 0 ∨ (xm_z 30 = 1 ∧ ((0 : Int32) = 0 ∨ (0 : Int32) = 1)) ∨ (xm_z 30 = 2 ∧ ((0 : Int32)).toInt8.toInt32 = (0 : Int32)) ∨ (xm_z 30 = 3 ∧ ((0 : Int32)).toUInt32.toUInt16.toUInt32.toInt32 = (0 : Int32)))) 2 (fun n => rfl) (Or.inr (Or.inl ⟨rfl, by decide⟩))
  rw [if_neg c2] at hG
  rw [xa_sw, if_neg c2]
  by_cases c4 : (S.1 x0 0) = 242
  · rw [if_pos c4] at hG
    rw [xa_sw, if_pos c4]
    show Ev X _ 30 48 [.ref x0] [] (hh S) _
    refine Ev.g (c := (kd x0).1 = 10 + 2) (p1 := 52) (L1 := [.ref x0]) (s1 := [.int (S.1 x0 8)]) (h1 := hh S) 2 (fun n => B_30_6 n x0 S) g1 ?_
    by_cases c5 : (S.1 x0 8) = 1
    · rw [if_pos c5] at hG
      refine Ev.t (c := (S.1 x0 8) = 1) (p1 := 56) (L1 := [.ref x0]) (s1 := []) (h1 := hh S) (p2 := 60) (L2 := [.ref x0]) (s2 := []) (h2 := hh S) 2 (fun n => B_30_7 n x0 S) c5 ?_
      obtain ⟨e1, e2⟩ := Prod.mk.inj (Option.some.inj hG)
      subst e1
      subst e2
      exact Ev.rg (c := (xm_z 30 = 0 ∨ (xm_z 30 = 1 ∧ ((1 : Int32) = 0 ∨ (1 : Int32) = 1)) ∨ (xm_z 30 = 2 ∧ ((1 : Int32)).toInt8.toInt32 = (1 : Int32)) ∨ (xm_z 30 = 3 ∧ ((1 : Int32)).toUInt32.toUInt16.toUInt32.toInt32 = (1 : Int32)))) 3 (fun n => rfl) (Or.inr (Or.inl ⟨rfl, by decide⟩))
    · rw [if_neg c5] at hG
      refine Ev.f (c := (S.1 x0 8) = 1) (p1 := 56) (L1 := [.ref x0]) (s1 := []) (h1 := hh S) (p2 := 60) (L2 := [.ref x0]) (s2 := []) (h2 := hh S) 2 (fun n => B_30_8 n x0 S) c5 ?_
      obtain ⟨e1, e2⟩ := Prod.mk.inj (Option.some.inj hG)
      subst e1
      subst e2
      exact Ev.rg (c := (xm_z 30 = 0 ∨ (xm_z 30 = 1 ∧ ((0 : Int32) = 0 ∨ (0 : Int32) = 1)) ∨ (xm_z 30 = 2 ∧ ((0 : Int32)).toInt8.toInt32 = (0 : Int32)) ∨ (xm_z 30 = 3 ∧ ((0 : Int32)).toUInt32.toUInt16.toUInt32.toInt32 = (0 : Int32)))) 2 (fun n => rfl) (Or.inr (Or.inl ⟨rfl, by decide⟩))
  rw [if_neg c4] at hG
  rw [xa_sw, if_neg c4]
  by_cases c6 : (S.1 x0 0) = 244
  · rw [if_pos c6] at hG
    rw [xa_sw, if_pos c6]
    show Ev X _ 30 62 [.ref x0] [] (hh S) _
    refine Ev.g (c := (kd x0).1 = 10 + 2) (p1 := 66) (L1 := [.ref x0]) (s1 := [.int (S.1 x0 8)]) (h1 := hh S) 2 (fun n => B_30_9 n x0 S) g1 ?_
    by_cases c7 : (S.1 x0 8) < 2
    · rw [if_pos c7] at hG
      refine Ev.t (c := (S.1 x0 8) < 2) (p1 := 83) (L1 := [.ref x0]) (s1 := []) (h1 := hh S) (p2 := 70) (L2 := [.ref x0]) (s2 := []) (h2 := hh S) 2 (fun n => B_30_10 n x0 S) c7 ?_
      obtain ⟨e1, e2⟩ := Prod.mk.inj (Option.some.inj hG)
      subst e1
      subst e2
      exact Ev.rg (c := (xm_z 30 = 0 ∨ (xm_z 30 = 1 ∧ ((0 : Int32) = 0 ∨ (0 : Int32) = 1)) ∨ (xm_z 30 = 2 ∧ ((0 : Int32)).toInt8.toInt32 = (0 : Int32)) ∨ (xm_z 30 = 3 ∧ ((0 : Int32)).toUInt32.toUInt16.toUInt32.toInt32 = (0 : Int32)))) 2 (fun n => rfl) (Or.inr (Or.inl ⟨rfl, by decide⟩))
    · rw [if_neg c7] at hG
      refine Ev.f (c := (S.1 x0 8) < 2) (p1 := 83) (L1 := [.ref x0]) (s1 := []) (h1 := hh S) (p2 := 70) (L2 := [.ref x0]) (s2 := []) (h2 := hh S) 2 (fun n => B_30_11 n x0 S) c7 ?_
      refine Ev.g (c := (kd x0).1 = 10 + 2) (p1 := 74) (L1 := [.ref x0]) (s1 := [.int (S.1 x0 8)]) (h1 := hh S) 2 (fun n => B_30_12 n x0 S) g1 ?_
      refine Ev.z (c := (2 : Int32) = 0) (p1 := 76) (L1 := [.ref x0]) (s1 := [.int ((S.1 x0 8) - (S.1 x0 8) / 2 * 2)]) (h1 := hh S) 2 (fun n => B_30_13 n x0 S) (by decide) ?_
      by_cases c8 : ((S.1 x0 8) - (S.1 x0 8) / 2 * 2) = 0
      · rw [if_pos c8] at hG
        refine Ev.t (c := ((S.1 x0 8) - (S.1 x0 8) / 2 * 2) = 0) (p1 := 79) (L1 := [.ref x0]) (s1 := []) (h1 := hh S) (p2 := 83) (L2 := [.ref x0]) (s2 := []) (h2 := hh S) 1 (fun n => B_30_14 n x0 S) c8 ?_
        obtain ⟨e1, e2⟩ := Prod.mk.inj (Option.some.inj hG)
        subst e1
        subst e2
        exact Ev.rg (c := (xm_z 30 = 0 ∨ (xm_z 30 = 1 ∧ ((1 : Int32) = 0 ∨ (1 : Int32) = 1)) ∨ (xm_z 30 = 2 ∧ ((1 : Int32)).toInt8.toInt32 = (1 : Int32)) ∨ (xm_z 30 = 3 ∧ ((1 : Int32)).toUInt32.toUInt16.toUInt32.toInt32 = (1 : Int32)))) 3 (fun n => rfl) (Or.inr (Or.inl ⟨rfl, by decide⟩))
      · rw [if_neg c8] at hG
        refine Ev.f (c := ((S.1 x0 8) - (S.1 x0 8) / 2 * 2) = 0) (p1 := 79) (L1 := [.ref x0]) (s1 := []) (h1 := hh S) (p2 := 83) (L2 := [.ref x0]) (s2 := []) (h2 := hh S) 1 (fun n => B_30_15 n x0 S) c8 ?_
        obtain ⟨e1, e2⟩ := Prod.mk.inj (Option.some.inj hG)
        subst e1
        subst e2
        exact Ev.rg (c := (xm_z 30 = 0 ∨ (xm_z 30 = 1 ∧ ((0 : Int32) = 0 ∨ (0 : Int32) = 1)) ∨ (xm_z 30 = 2 ∧ ((0 : Int32)).toInt8.toInt32 = (0 : Int32)) ∨ (xm_z 30 = 3 ∧ ((0 : Int32)).toUInt32.toUInt16.toUInt32.toInt32 = (0 : Int32)))) 2 (fun n => rfl) (Or.inr (Or.inl ⟨rfl, by decide⟩))
  rw [if_neg c6] at hG
  rw [xa_sw, if_neg c6]
  by_cases c9 : (S.1 x0 0) = 245
  · rw [if_pos c9] at hG
    rw [xa_sw, if_pos c9]
    show Ev X _ 30 85 [.ref x0] [] (hh S) _
    refine Ev.g (c := (kd x0).1 = 10 + 2) (p1 := 89) (L1 := [.ref x0]) (s1 := [.int (S.1 x0 8)]) (h1 := hh S) 2 (fun n => B_30_16 n x0 S) g1 ?_
    by_cases c10 : (S.1 x0 8) < 2
    · rw [if_pos c10] at hG
      refine Ev.t (c := (S.1 x0 8) < 2) (p1 := 97) (L1 := [.ref x0]) (s1 := []) (h1 := hh S) (p2 := 93) (L2 := [.ref x0]) (s2 := []) (h2 := hh S) 2 (fun n => B_30_17 n x0 S) c10 ?_
      obtain ⟨e1, e2⟩ := Prod.mk.inj (Option.some.inj hG)
      subst e1
      subst e2
      exact Ev.rg (c := (xm_z 30 = 0 ∨ (xm_z 30 = 1 ∧ ((0 : Int32) = 0 ∨ (0 : Int32) = 1)) ∨ (xm_z 30 = 2 ∧ ((0 : Int32)).toInt8.toInt32 = (0 : Int32)) ∨ (xm_z 30 = 3 ∧ ((0 : Int32)).toUInt32.toUInt16.toUInt32.toInt32 = (0 : Int32)))) 2 (fun n => rfl) (Or.inr (Or.inl ⟨rfl, by decide⟩))
    · rw [if_neg c10] at hG
      refine Ev.f (c := (S.1 x0 8) < 2) (p1 := 97) (L1 := [.ref x0]) (s1 := []) (h1 := hh S) (p2 := 93) (L2 := [.ref x0]) (s2 := []) (h2 := hh S) 2 (fun n => B_30_18 n x0 S) c10 ?_
      obtain ⟨e1, e2⟩ := Prod.mk.inj (Option.some.inj hG)
      subst e1
      subst e2
      exact Ev.rg (c := (xm_z 30 = 0 ∨ (xm_z 30 = 1 ∧ ((1 : Int32) = 0 ∨ (1 : Int32) = 1)) ∨ (xm_z 30 = 2 ∧ ((1 : Int32)).toInt8.toInt32 = (1 : Int32)) ∨ (xm_z 30 = 3 ∧ ((1 : Int32)).toUInt32.toUInt16.toUInt32.toInt32 = (1 : Int32)))) 3 (fun n => rfl) (Or.inr (Or.inl ⟨rfl, by decide⟩))
  rw [if_neg c9] at hG
  rw [xa_sw, if_neg c9]
  by_cases c11 : (S.1 x0 0) = 246
  · rw [if_pos c11] at hG
    rw [xa_sw, if_pos c11]
    show Ev X _ 30 62 [.ref x0] [] (hh S) _
    refine Ev.g (c := (kd x0).1 = 10 + 2) (p1 := 66) (L1 := [.ref x0]) (s1 := [.int (S.1 x0 8)]) (h1 := hh S) 2 (fun n => B_30_19 n x0 S) g1 ?_
    by_cases c12 : (S.1 x0 8) < 2
    · rw [if_pos c12] at hG
      refine Ev.t (c := (S.1 x0 8) < 2) (p1 := 83) (L1 := [.ref x0]) (s1 := []) (h1 := hh S) (p2 := 70) (L2 := [.ref x0]) (s2 := []) (h2 := hh S) 2 (fun n => B_30_20 n x0 S) c12 ?_
      obtain ⟨e1, e2⟩ := Prod.mk.inj (Option.some.inj hG)
      subst e1
      subst e2
      exact Ev.rg (c := (xm_z 30 = 0 ∨ (xm_z 30 = 1 ∧ ((0 : Int32) = 0 ∨ (0 : Int32) = 1)) ∨ (xm_z 30 = 2 ∧ ((0 : Int32)).toInt8.toInt32 = (0 : Int32)) ∨ (xm_z 30 = 3 ∧ ((0 : Int32)).toUInt32.toUInt16.toUInt32.toInt32 = (0 : Int32)))) 2 (fun n => rfl) (Or.inr (Or.inl ⟨rfl, by decide⟩))
    · rw [if_neg c12] at hG
      refine Ev.f (c := (S.1 x0 8) < 2) (p1 := 83) (L1 := [.ref x0]) (s1 := []) (h1 := hh S) (p2 := 70) (L2 := [.ref x0]) (s2 := []) (h2 := hh S) 2 (fun n => B_30_21 n x0 S) c12 ?_
      refine Ev.g (c := (kd x0).1 = 10 + 2) (p1 := 74) (L1 := [.ref x0]) (s1 := [.int (S.1 x0 8)]) (h1 := hh S) 2 (fun n => B_30_22 n x0 S) g1 ?_
      refine Ev.z (c := (2 : Int32) = 0) (p1 := 76) (L1 := [.ref x0]) (s1 := [.int ((S.1 x0 8) - (S.1 x0 8) / 2 * 2)]) (h1 := hh S) 2 (fun n => B_30_23 n x0 S) (by decide) ?_
      by_cases c13 : ((S.1 x0 8) - (S.1 x0 8) / 2 * 2) = 0
      · rw [if_pos c13] at hG
        refine Ev.t (c := ((S.1 x0 8) - (S.1 x0 8) / 2 * 2) = 0) (p1 := 79) (L1 := [.ref x0]) (s1 := []) (h1 := hh S) (p2 := 83) (L2 := [.ref x0]) (s2 := []) (h2 := hh S) 1 (fun n => B_30_24 n x0 S) c13 ?_
        obtain ⟨e1, e2⟩ := Prod.mk.inj (Option.some.inj hG)
        subst e1
        subst e2
        exact Ev.rg (c := (xm_z 30 = 0 ∨ (xm_z 30 = 1 ∧ ((1 : Int32) = 0 ∨ (1 : Int32) = 1)) ∨ (xm_z 30 = 2 ∧ ((1 : Int32)).toInt8.toInt32 = (1 : Int32)) ∨ (xm_z 30 = 3 ∧ ((1 : Int32)).toUInt32.toUInt16.toUInt32.toInt32 = (1 : Int32)))) 3 (fun n => rfl) (Or.inr (Or.inl ⟨rfl, by decide⟩))
      · rw [if_neg c13] at hG
        refine Ev.f (c := ((S.1 x0 8) - (S.1 x0 8) / 2 * 2) = 0) (p1 := 79) (L1 := [.ref x0]) (s1 := []) (h1 := hh S) (p2 := 83) (L2 := [.ref x0]) (s2 := []) (h2 := hh S) 1 (fun n => B_30_25 n x0 S) c13 ?_
        obtain ⟨e1, e2⟩ := Prod.mk.inj (Option.some.inj hG)
        subst e1
        subst e2
        exact Ev.rg (c := (xm_z 30 = 0 ∨ (xm_z 30 = 1 ∧ ((0 : Int32) = 0 ∨ (0 : Int32) = 1)) ∨ (xm_z 30 = 2 ∧ ((0 : Int32)).toInt8.toInt32 = (0 : Int32)) ∨ (xm_z 30 = 3 ∧ ((0 : Int32)).toUInt32.toUInt16.toUInt32.toInt32 = (0 : Int32)))) 2 (fun n => rfl) (Or.inr (Or.inl ⟨rfl, by decide⟩))
  rw [if_neg c11] at hG
  rw [xa_sw, if_neg c11]
  rw [xa_sw]
  show Ev X _ 30 99 [.ref x0] [] (hh S) _
  obtain ⟨e1, e2⟩ := Prod.mk.inj (Option.some.inj hG)
  subst e1
  subst e2
  exact Ev.rg (c := (xm_z 30 = 0 ∨ (xm_z 30 = 1 ∧ ((1 : Int32) = 0 ∨ (1 : Int32) = 1)) ∨ (xm_z 30 = 2 ∧ ((1 : Int32)).toInt8.toInt32 = (1 : Int32)) ∨ (xm_z 30 = 3 ∧ ((1 : Int32)).toUInt32.toUInt16.toUInt32.toInt32 = (1 : Int32)))) 2 (fun n => rfl) (Or.inr (Or.inl ⟨rfl, by decide⟩))
/-- 31: SceneCycle$PictureReader.begin(I)Z -/
def G_31 (S : St) (x0 : Nat) (x1 : Int32) : Option (Int32 × St) :=
  (if x1 ≤ 246 then
    (if (kd x0).1 = 10 + 2 then
      (if x1 = 255 then
        some (1, (xa_u (xa_u (xa_u S.1 x0 0 x1) x0 1 (-1)) x0 8 0, S.2.1, S.2.2))
      else
        some (1, (xa_u (xa_u (xa_u (xa_u S.1 x0 0 x1) x0 1 (-1)) x0 8 0) x0 9 (((xa_u (xa_u (xa_u S.1 x0 0 x1) x0 1 (-1)) x0 8 0) x0 9) + 1), S.2.1, S.2.2))
      )
    else none)
  else
    (if x1 = 255 then
      (if (kd x0).1 = 10 + 2 then
        some (1, (xa_u (xa_u (xa_u S.1 x0 0 x1) x0 1 (-1)) x0 8 0, S.2.1, S.2.2))
      else none)
    else
      some (0, S)
    )
  )
theorem B_31_1 {X : Nat × (Nat → Int32)} {d : Nat} (n : Nat) (x0 : Nat) (x1 : Int32) (S : St) : ex X d 31 0 [.ref x0, .int x1] [] (hh S) (n + 3) = if x1 ≤ 246 then ex X d 31 16 [.ref x0, .int x1] [] (hh S) n else ex X d 31 7 [.ref x0, .int x1] [] (hh S) n := rfl
theorem B_31_2 {X : Nat × (Nat → Int32)} {d : Nat} (n : Nat) (x0 : Nat) (x1 : Int32) (S : St) : ex X d 31 16 [.ref x0, .int x1] [] (hh S) (n + 3) = if (kd x0).1 = 10 + 2 ∧ (xf_k 2 0 = 0 ∨ (xf_k 2 0 = 1 ∧ (x1 = 0 ∨ x1 = 1))) then ex X d 31 21 [.ref x0, .int x1] [] (hh (xa_u S.1 x0 0 x1, S.2.1, S.2.2)) n else none := rfl
theorem B_31_3 {X : Nat × (Nat → Int32)} {d : Nat} (n : Nat) (x0 : Nat) (x1 : Int32) (S : St) : ex X d 31 21 [.ref x0, .int x1] [] (hh (xa_u S.1 x0 0 x1, S.2.1, S.2.2)) (n + 3) = if (kd x0).1 = 10 + 2 ∧ (xf_k 2 1 = 0 ∨ (xf_k 2 1 = 1 ∧ (((-1) : Int32) = 0 ∨ ((-1) : Int32) = 1))) then ex X d 31 26 [.ref x0, .int x1] [] (hh (xa_u (xa_u S.1 x0 0 x1) x0 1 (-1), S.2.1, S.2.2)) n else none := rfl
theorem B_31_4 {X : Nat × (Nat → Int32)} {d : Nat} (n : Nat) (x0 : Nat) (x1 : Int32) (S : St) : ex X d 31 26 [.ref x0, .int x1] [] (hh (xa_u (xa_u S.1 x0 0 x1) x0 1 (-1), S.2.1, S.2.2)) (n + 3) = if (kd x0).1 = 10 + 2 ∧ (xf_k 2 8 = 0 ∨ (xf_k 2 8 = 1 ∧ ((0 : Int32) = 0 ∨ (0 : Int32) = 1))) then ex X d 31 31 [.ref x0, .int x1] [] (hh (xa_u (xa_u (xa_u S.1 x0 0 x1) x0 1 (-1)) x0 8 0, S.2.1, S.2.2)) n else none := rfl
theorem B_31_5 {X : Nat × (Nat → Int32)} {d : Nat} (n : Nat) (x0 : Nat) (x1 : Int32) (S : St) : ex X d 31 31 [.ref x0, .int x1] [] (hh (xa_u (xa_u (xa_u S.1 x0 0 x1) x0 1 (-1)) x0 8 0, S.2.1, S.2.2)) (n + 3) = if x1 = 255 then ex X d 31 48 [.ref x0, .int x1] [] (hh (xa_u (xa_u (xa_u S.1 x0 0 x1) x0 1 (-1)) x0 8 0, S.2.1, S.2.2)) n else ex X d 31 38 [.ref x0, .int x1] [] (hh (xa_u (xa_u (xa_u S.1 x0 0 x1) x0 1 (-1)) x0 8 0, S.2.1, S.2.2)) n := rfl
theorem B_31_6 {X : Nat × (Nat → Int32)} {d : Nat} (n : Nat) (x0 : Nat) (x1 : Int32) (S : St) : ex X d 31 31 [.ref x0, .int x1] [] (hh (xa_u (xa_u (xa_u S.1 x0 0 x1) x0 1 (-1)) x0 8 0, S.2.1, S.2.2)) (n + 3) = if x1 = 255 then ex X d 31 48 [.ref x0, .int x1] [] (hh (xa_u (xa_u (xa_u S.1 x0 0 x1) x0 1 (-1)) x0 8 0, S.2.1, S.2.2)) n else ex X d 31 38 [.ref x0, .int x1] [] (hh (xa_u (xa_u (xa_u S.1 x0 0 x1) x0 1 (-1)) x0 8 0, S.2.1, S.2.2)) n := rfl
theorem B_31_7 {X : Nat × (Nat → Int32)} {d : Nat} (n : Nat) (x0 : Nat) (x1 : Int32) (S : St) : ex X d 31 38 [.ref x0, .int x1] [] (hh (xa_u (xa_u (xa_u S.1 x0 0 x1) x0 1 (-1)) x0 8 0, S.2.1, S.2.2)) (n + 3) = if (kd x0).1 = 10 + 2 then ex X d 31 43 [.ref x0, .int x1] [.int ((xa_u (xa_u (xa_u S.1 x0 0 x1) x0 1 (-1)) x0 8 0) x0 9), .ref x0] (hh (xa_u (xa_u (xa_u S.1 x0 0 x1) x0 1 (-1)) x0 8 0, S.2.1, S.2.2)) n else none := rfl
theorem B_31_8 {X : Nat × (Nat → Int32)} {d : Nat} (n : Nat) (x0 : Nat) (x1 : Int32) (S : St) : ex X d 31 43 [.ref x0, .int x1] [.int ((xa_u (xa_u (xa_u S.1 x0 0 x1) x0 1 (-1)) x0 8 0) x0 9), .ref x0] (hh (xa_u (xa_u (xa_u S.1 x0 0 x1) x0 1 (-1)) x0 8 0, S.2.1, S.2.2)) (n + 3) = if (kd x0).1 = 10 + 2 ∧ (xf_k 2 9 = 0 ∨ (xf_k 2 9 = 1 ∧ ((((xa_u (xa_u (xa_u S.1 x0 0 x1) x0 1 (-1)) x0 8 0) x0 9) + 1) = 0 ∨ (((xa_u (xa_u (xa_u S.1 x0 0 x1) x0 1 (-1)) x0 8 0) x0 9) + 1) = 1))) then ex X d 31 48 [.ref x0, .int x1] [] (hh (xa_u (xa_u (xa_u (xa_u S.1 x0 0 x1) x0 1 (-1)) x0 8 0) x0 9 (((xa_u (xa_u (xa_u S.1 x0 0 x1) x0 1 (-1)) x0 8 0) x0 9) + 1), S.2.1, S.2.2)) n else none := rfl
theorem B_31_9 {X : Nat × (Nat → Int32)} {d : Nat} (n : Nat) (x0 : Nat) (x1 : Int32) (S : St) : ex X d 31 0 [.ref x0, .int x1] [] (hh S) (n + 3) = if x1 ≤ 246 then ex X d 31 16 [.ref x0, .int x1] [] (hh S) n else ex X d 31 7 [.ref x0, .int x1] [] (hh S) n := rfl
theorem B_31_10 {X : Nat × (Nat → Int32)} {d : Nat} (n : Nat) (x0 : Nat) (x1 : Int32) (S : St) : ex X d 31 7 [.ref x0, .int x1] [] (hh S) (n + 3) = if x1 = 255 then ex X d 31 16 [.ref x0, .int x1] [] (hh S) n else ex X d 31 14 [.ref x0, .int x1] [] (hh S) n := rfl
theorem B_31_11 {X : Nat × (Nat → Int32)} {d : Nat} (n : Nat) (x0 : Nat) (x1 : Int32) (S : St) : ex X d 31 16 [.ref x0, .int x1] [] (hh S) (n + 3) = if (kd x0).1 = 10 + 2 ∧ (xf_k 2 0 = 0 ∨ (xf_k 2 0 = 1 ∧ (x1 = 0 ∨ x1 = 1))) then ex X d 31 21 [.ref x0, .int x1] [] (hh (xa_u S.1 x0 0 x1, S.2.1, S.2.2)) n else none := rfl
theorem B_31_12 {X : Nat × (Nat → Int32)} {d : Nat} (n : Nat) (x0 : Nat) (x1 : Int32) (S : St) : ex X d 31 21 [.ref x0, .int x1] [] (hh (xa_u S.1 x0 0 x1, S.2.1, S.2.2)) (n + 3) = if (kd x0).1 = 10 + 2 ∧ (xf_k 2 1 = 0 ∨ (xf_k 2 1 = 1 ∧ (((-1) : Int32) = 0 ∨ ((-1) : Int32) = 1))) then ex X d 31 26 [.ref x0, .int x1] [] (hh (xa_u (xa_u S.1 x0 0 x1) x0 1 (-1), S.2.1, S.2.2)) n else none := rfl
theorem B_31_13 {X : Nat × (Nat → Int32)} {d : Nat} (n : Nat) (x0 : Nat) (x1 : Int32) (S : St) : ex X d 31 26 [.ref x0, .int x1] [] (hh (xa_u (xa_u S.1 x0 0 x1) x0 1 (-1), S.2.1, S.2.2)) (n + 3) = if (kd x0).1 = 10 + 2 ∧ (xf_k 2 8 = 0 ∨ (xf_k 2 8 = 1 ∧ ((0 : Int32) = 0 ∨ (0 : Int32) = 1))) then ex X d 31 31 [.ref x0, .int x1] [] (hh (xa_u (xa_u (xa_u S.1 x0 0 x1) x0 1 (-1)) x0 8 0, S.2.1, S.2.2)) n else none := rfl
theorem B_31_14 {X : Nat × (Nat → Int32)} {d : Nat} (n : Nat) (x0 : Nat) (x1 : Int32) (S : St) : ex X d 31 31 [.ref x0, .int x1] [] (hh (xa_u (xa_u (xa_u S.1 x0 0 x1) x0 1 (-1)) x0 8 0, S.2.1, S.2.2)) (n + 3) = if x1 = 255 then ex X d 31 48 [.ref x0, .int x1] [] (hh (xa_u (xa_u (xa_u S.1 x0 0 x1) x0 1 (-1)) x0 8 0, S.2.1, S.2.2)) n else ex X d 31 38 [.ref x0, .int x1] [] (hh (xa_u (xa_u (xa_u S.1 x0 0 x1) x0 1 (-1)) x0 8 0, S.2.1, S.2.2)) n := rfl
theorem B_31_15 {X : Nat × (Nat → Int32)} {d : Nat} (n : Nat) (x0 : Nat) (x1 : Int32) (S : St) : ex X d 31 7 [.ref x0, .int x1] [] (hh S) (n + 3) = if x1 = 255 then ex X d 31 16 [.ref x0, .int x1] [] (hh S) n else ex X d 31 14 [.ref x0, .int x1] [] (hh S) n := rfl
set_option maxRecDepth 200000 in
theorem T_31 {X : Nat × (Nat → Int32)} (S : St) (x0 : Nat) (x1 : Int32) (r : Int32) (S' : St) (hG : G_31 S x0 x1 = some (r, S')) : Ev X 0 31 0 [.ref x0, .int x1] [] (hh S) (xI r, hh S') := by
  unfold G_31 at hG
  by_cases c1 : x1 ≤ 246
  · rw [if_pos c1] at hG
    refine Ev.t (c := x1 ≤ 246) (p1 := 16) (L1 := [.ref x0, .int x1]) (s1 := []) (h1 := hh S) (p2 := 7) (L2 := [.ref x0, .int x1]) (s2 := []) (h2 := hh S) 3 (fun n => B_31_1 n x0 x1 S) c1 ?_
    by_cases g2 : (kd x0).1 = 10 + 2
    rotate_left
    · rw [if_neg g2] at hG; cases hG
    rw [if_pos g2] at hG
    refine Ev.g (c := (kd x0).1 = 10 + 2 ∧ (xf_k 2 0 = 0 ∨ (xf_k 2 0 = 1 ∧ (x1 = 0 ∨ x1 = 1)))) (p1 := 21) (L1 := [.ref x0, .int x1]) (s1 := []) (h1 := hh (xa_u S.1 x0 0 x1, S.2.1, S.2.2)) 3 (fun n => B_31_2 n x0 x1 S) (⟨g2, Or.inl rfl⟩) ?_
    refine Ev.g (c := (kd x0).1 = 10 + 2 ∧ (xf_k 2 1 = 0 ∨ (xf_k 2 1 = 1 ∧ (((-1) : Int32) = 0 ∨ ((-1) : Int32) = 1)))) (p1 := 26) (L1 := [.ref x0, .int x1]) (s1 := []) (h1 := hh (xa_u (xa_u S.1 x0 0 x1) x0 1 (-1), S.2.1, S.2.2)) 3 (fun n => B_31_3 n x0 x1 S) (⟨g2, Or.inl rfl⟩) ?_
    refine Ev.g (c := (kd x0).1 = 10 + 2 ∧ (xf_k 2 8 = 0 ∨ (xf_k 2 8 = 1 ∧ ((0 : Int32) = 0 ∨ (0 : Int32) = 1)))) (p1 := 31) (L1 := [.ref x0, .int x1]) (s1 := []) (h1 := hh (xa_u (xa_u (xa_u S.1 x0 0 x1) x0 1 (-1)) x0 8 0, S.2.1, S.2.2)) 3 (fun n => B_31_4 n x0 x1 S) (⟨g2, Or.inl rfl⟩) ?_
    by_cases c3 : x1 = 255
    · rw [if_pos c3] at hG
      refine Ev.t (c := x1 = 255) (p1 := 48) (L1 := [.ref x0, .int x1]) (s1 := []) (h1 := hh (xa_u (xa_u (xa_u S.1 x0 0 x1) x0 1 (-1)) x0 8 0, S.2.1, S.2.2)) (p2 := 38) (L2 := [.ref x0, .int x1]) (s2 := []) (h2 := hh (xa_u (xa_u (xa_u S.1 x0 0 x1) x0 1 (-1)) x0 8 0, S.2.1, S.2.2)) 3 (fun n => B_31_5 n x0 x1 S) c3 ?_
      obtain ⟨e1, e2⟩ := Prod.mk.inj (Option.some.inj hG)
      subst e1
      subst e2
      exact Ev.rg (c := (xm_z 31 = 0 ∨ (xm_z 31 = 1 ∧ ((1 : Int32) = 0 ∨ (1 : Int32) = 1)) ∨ (xm_z 31 = 2 ∧ ((1 : Int32)).toInt8.toInt32 = (1 : Int32)) ∨ (xm_z 31 = 3 ∧ ((1 : Int32)).toUInt32.toUInt16.toUInt32.toInt32 = (1 : Int32)))) 2 (fun n => rfl) (Or.inr (Or.inl ⟨rfl, by decide⟩))
    · rw [if_neg c3] at hG
      refine Ev.f (c := x1 = 255) (p1 := 48) (L1 := [.ref x0, .int x1]) (s1 := []) (h1 := hh (xa_u (xa_u (xa_u S.1 x0 0 x1) x0 1 (-1)) x0 8 0, S.2.1, S.2.2)) (p2 := 38) (L2 := [.ref x0, .int x1]) (s2 := []) (h2 := hh (xa_u (xa_u (xa_u S.1 x0 0 x1) x0 1 (-1)) x0 8 0, S.2.1, S.2.2)) 3 (fun n => B_31_6 n x0 x1 S) c3 ?_
      refine Ev.g (c := (kd x0).1 = 10 + 2) (p1 := 43) (L1 := [.ref x0, .int x1]) (s1 := [.int ((xa_u (xa_u (xa_u S.1 x0 0 x1) x0 1 (-1)) x0 8 0) x0 9), .ref x0]) (h1 := hh (xa_u (xa_u (xa_u S.1 x0 0 x1) x0 1 (-1)) x0 8 0, S.2.1, S.2.2)) 3 (fun n => B_31_7 n x0 x1 S) g2 ?_
      refine Ev.g (c := (kd x0).1 = 10 + 2 ∧ (xf_k 2 9 = 0 ∨ (xf_k 2 9 = 1 ∧ ((((xa_u (xa_u (xa_u S.1 x0 0 x1) x0 1 (-1)) x0 8 0) x0 9) + 1) = 0 ∨ (((xa_u (xa_u (xa_u S.1 x0 0 x1) x0 1 (-1)) x0 8 0) x0 9) + 1) = 1)))) (p1 := 48) (L1 := [.ref x0, .int x1]) (s1 := []) (h1 := hh (xa_u (xa_u (xa_u (xa_u S.1 x0 0 x1) x0 1 (-1)) x0 8 0) x0 9 (((xa_u (xa_u (xa_u S.1 x0 0 x1) x0 1 (-1)) x0 8 0) x0 9) + 1), S.2.1, S.2.2)) 3 (fun n => B_31_8 n x0 x1 S) (⟨g2, Or.inl rfl⟩) ?_
      obtain ⟨e1, e2⟩ := Prod.mk.inj (Option.some.inj hG)
      subst e1
      subst e2
      exact Ev.rg (c := (xm_z 31 = 0 ∨ (xm_z 31 = 1 ∧ ((1 : Int32) = 0 ∨ (1 : Int32) = 1)) ∨ (xm_z 31 = 2 ∧ ((1 : Int32)).toInt8.toInt32 = (1 : Int32)) ∨ (xm_z 31 = 3 ∧ ((1 : Int32)).toUInt32.toUInt16.toUInt32.toInt32 = (1 : Int32)))) 2 (fun n => rfl) (Or.inr (Or.inl ⟨rfl, by decide⟩))
  · rw [if_neg c1] at hG
    refine Ev.f (c := x1 ≤ 246) (p1 := 16) (L1 := [.ref x0, .int x1]) (s1 := []) (h1 := hh S) (p2 := 7) (L2 := [.ref x0, .int x1]) (s2 := []) (h2 := hh S) 3 (fun n => B_31_9 n x0 x1 S) c1 ?_
    by_cases c4 : x1 = 255
    · rw [if_pos c4] at hG
      refine Ev.t (c := x1 = 255) (p1 := 16) (L1 := [.ref x0, .int x1]) (s1 := []) (h1 := hh S) (p2 := 14) (L2 := [.ref x0, .int x1]) (s2 := []) (h2 := hh S) 3 (fun n => B_31_10 n x0 x1 S) c4 ?_
      by_cases g5 : (kd x0).1 = 10 + 2
      rotate_left
      · rw [if_neg g5] at hG; cases hG
      rw [if_pos g5] at hG
      refine Ev.g (c := (kd x0).1 = 10 + 2 ∧ (xf_k 2 0 = 0 ∨ (xf_k 2 0 = 1 ∧ (x1 = 0 ∨ x1 = 1)))) (p1 := 21) (L1 := [.ref x0, .int x1]) (s1 := []) (h1 := hh (xa_u S.1 x0 0 x1, S.2.1, S.2.2)) 3 (fun n => B_31_11 n x0 x1 S) (⟨g5, Or.inl rfl⟩) ?_
      refine Ev.g (c := (kd x0).1 = 10 + 2 ∧ (xf_k 2 1 = 0 ∨ (xf_k 2 1 = 1 ∧ (((-1) : Int32) = 0 ∨ ((-1) : Int32) = 1)))) (p1 := 26) (L1 := [.ref x0, .int x1]) (s1 := []) (h1 := hh (xa_u (xa_u S.1 x0 0 x1) x0 1 (-1), S.2.1, S.2.2)) 3 (fun n => B_31_12 n x0 x1 S) (⟨g5, Or.inl rfl⟩) ?_
      refine Ev.g (c := (kd x0).1 = 10 + 2 ∧ (xf_k 2 8 = 0 ∨ (xf_k 2 8 = 1 ∧ ((0 : Int32) = 0 ∨ (0 : Int32) = 1)))) (p1 := 31) (L1 := [.ref x0, .int x1]) (s1 := []) (h1 := hh (xa_u (xa_u (xa_u S.1 x0 0 x1) x0 1 (-1)) x0 8 0, S.2.1, S.2.2)) 3 (fun n => B_31_13 n x0 x1 S) (⟨g5, Or.inl rfl⟩) ?_
      refine Ev.t (c := x1 = 255) (p1 := 48) (L1 := [.ref x0, .int x1]) (s1 := []) (h1 := hh (xa_u (xa_u (xa_u S.1 x0 0 x1) x0 1 (-1)) x0 8 0, S.2.1, S.2.2)) (p2 := 38) (L2 := [.ref x0, .int x1]) (s2 := []) (h2 := hh (xa_u (xa_u (xa_u S.1 x0 0 x1) x0 1 (-1)) x0 8 0, S.2.1, S.2.2)) 3 (fun n => B_31_14 n x0 x1 S) c4 ?_
      obtain ⟨e1, e2⟩ := Prod.mk.inj (Option.some.inj hG)
      subst e1
      subst e2
      exact Ev.rg (c := (xm_z 31 = 0 ∨ (xm_z 31 = 1 ∧ ((1 : Int32) = 0 ∨ (1 : Int32) = 1)) ∨ (xm_z 31 = 2 ∧ ((1 : Int32)).toInt8.toInt32 = (1 : Int32)) ∨ (xm_z 31 = 3 ∧ ((1 : Int32)).toUInt32.toUInt16.toUInt32.toInt32 = (1 : Int32)))) 2 (fun n => rfl) (Or.inr (Or.inl ⟨rfl, by decide⟩))
    · rw [if_neg c4] at hG
      refine Ev.f (c := x1 = 255) (p1 := 16) (L1 := [.ref x0, .int x1]) (s1 := []) (h1 := hh S) (p2 := 14) (L2 := [.ref x0, .int x1]) (s2 := []) (h2 := hh S) 3 (fun n => B_31_15 n x0 x1 S) c4 ?_
      obtain ⟨e1, e2⟩ := Prod.mk.inj (Option.some.inj hG)
      subst e1
      subst e2
      exact Ev.rg (c := (xm_z 31 = 0 ∨ (xm_z 31 = 1 ∧ ((0 : Int32) = 0 ∨ (0 : Int32) = 1)) ∨ (xm_z 31 = 2 ∧ ((0 : Int32)).toInt8.toInt32 = (0 : Int32)) ∨ (xm_z 31 = 3 ∧ ((0 : Int32)).toUInt32.toUInt16.toUInt32.toInt32 = (0 : Int32)))) 2 (fun n => rfl) (Or.inr (Or.inl ⟨rfl, by decide⟩))
