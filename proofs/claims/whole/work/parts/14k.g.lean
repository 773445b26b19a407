/-- 149: SceneCycleModel.sign(I)I -/
def G_149 (S : St) (x0 : Int32) : Option (Int32 × St) :=
  (if x0 ≤ 0 then
    (if 0 ≤ x0 then
      some (0, S)
    else
      some ((-1), S)
    )
  else
    some (1, S)
  )
theorem B_149_1 {X : Nat × (Nat → Int32)} {d : Nat} (n : Nat) (x0 : Int32) (S : St) : ex X d 149 0 [.int x0] [] (hh S) (n + 2) = if x0 ≤ 0 then ex X d 149 8 [.int x0] [] (hh S) n else ex X d 149 4 [.int x0] [] (hh S) n := rfl
theorem B_149_2 {X : Nat × (Nat → Int32)} {d : Nat} (n : Nat) (x0 : Int32) (S : St) : ex X d 149 8 [.int x0] [] (hh S) (n + 2) = if 0 ≤ x0 then ex X d 149 16 [.int x0] [] (hh S) n else ex X d 149 12 [.int x0] [] (hh S) n := rfl
theorem B_149_3 {X : Nat × (Nat → Int32)} {d : Nat} (n : Nat) (x0 : Int32) (S : St) : ex X d 149 8 [.int x0] [] (hh S) (n + 2) = if 0 ≤ x0 then ex X d 149 16 [.int x0] [] (hh S) n else ex X d 149 12 [.int x0] [] (hh S) n := rfl
theorem B_149_4 {X : Nat × (Nat → Int32)} {d : Nat} (n : Nat) (x0 : Int32) (S : St) : ex X d 149 0 [.int x0] [] (hh S) (n + 2) = if x0 ≤ 0 then ex X d 149 8 [.int x0] [] (hh S) n else ex X d 149 4 [.int x0] [] (hh S) n := rfl
set_option maxRecDepth 200000 in
theorem T_149 {X : Nat × (Nat → Int32)} (S : St) (x0 : Int32) (r : Int32) (S' : St) (hG : G_149 S x0 = some (r, S')) : Ev X 0 149 0 [.int x0] [] (hh S) (xI r, hh S') := by
  unfold G_149 at hG
  by_cases c1 : x0 ≤ 0
  · rw [if_pos c1] at hG
    refine Ev.t (c := x0 ≤ 0) (p1 := 8) (L1 := [.int x0]) (s1 := []) (h1 := hh S) (p2 := 4) (L2 := [.int x0]) (s2 := []) (h2 := hh S) 2 (fun n => B_149_1 n x0 S) c1 ?_
    by_cases c2 : 0 ≤ x0
    · rw [if_pos c2] at hG
      refine Ev.t (c := 0 ≤ x0) (p1 := 16) (L1 := [.int x0]) (s1 := []) (h1 := hh S) (p2 := 12) (L2 := [.int x0]) (s2 := []) (h2 := hh S) 2 (fun n => B_149_2 n x0 S) c2 ?_
      obtain ⟨e1, e2⟩ := Prod.mk.inj (Option.some.inj hG)
      subst e1
      subst e2
      exact Ev.r 2 (fun n => rfl)
    · rw [if_neg c2] at hG
      refine Ev.f (c := 0 ≤ x0) (p1 := 16) (L1 := [.int x0]) (s1 := []) (h1 := hh S) (p2 := 12) (L2 := [.int x0]) (s2 := []) (h2 := hh S) 2 (fun n => B_149_3 n x0 S) c2 ?_
      obtain ⟨e1, e2⟩ := Prod.mk.inj (Option.some.inj hG)
      subst e1
      subst e2
      exact Ev.r 3 (fun n => rfl)
  · rw [if_neg c1] at hG
    refine Ev.f (c := x0 ≤ 0) (p1 := 8) (L1 := [.int x0]) (s1 := []) (h1 := hh S) (p2 := 4) (L2 := [.int x0]) (s2 := []) (h2 := hh S) 2 (fun n => B_149_4 n x0 S) c1 ?_
    obtain ⟨e1, e2⟩ := Prod.mk.inj (Option.some.inj hG)
    subst e1
    subst e2
    exact Ev.r 3 (fun n => rfl)
/-- 150: SceneCycleModel.down(I)I -/
def G_150 (S : St) (x0 : Int32) : Option (Int32 × St) :=
  (if x0 < 4 then
    (if x0 = 1 then
      some ((-1), S)
    else
      (if x0 = 2 then
        some ((-1), S)
      else
        (if x0 = 8 then
          some ((-1), S)
        else
          some (0, S)
        )
      )
    )
  else
    (if 6 < x0 then
      (if x0 = 1 then
        some ((-1), S)
      else
        (if x0 = 2 then
          some ((-1), S)
        else
          (if x0 = 8 then
            some ((-1), S)
          else
            some (0, S)
          )
        )
      )
    else
      some (1, S)
    )
  )
theorem B_150_1 {X : Nat × (Nat → Int32)} {d : Nat} (n : Nat) (x0 : Int32) (S : St) : ex X d 150 0 [.int x0] [] (hh S) (n + 3) = if x0 < 4 then ex X d 150 15 [.int x0] [] (hh S) n else ex X d 150 5 [.int x0] [] (hh S) n := rfl
theorem B_150_2 {X : Nat × (Nat → Int32)} {d : Nat} (n : Nat) (x0 : Int32) (S : St) : ex X d 150 15 [.int x0] [] (hh S) (n + 3) = if x0 = 1 then ex X d 150 31 [.int x0] [] (hh S) n else ex X d 150 20 [.int x0] [] (hh S) n := rfl
theorem B_150_3 {X : Nat × (Nat → Int32)} {d : Nat} (n : Nat) (x0 : Int32) (S : St) : ex X d 150 15 [.int x0] [] (hh S) (n + 3) = if x0 = 1 then ex X d 150 31 [.int x0] [] (hh S) n else ex X d 150 20 [.int x0] [] (hh S) n := rfl
theorem B_150_4 {X : Nat × (Nat → Int32)} {d : Nat} (n : Nat) (x0 : Int32) (S : St) : ex X d 150 20 [.int x0] [] (hh S) (n + 3) = if x0 = 2 then ex X d 150 31 [.int x0] [] (hh S) n else ex X d 150 25 [.int x0] [] (hh S) n := rfl
theorem B_150_5 {X : Nat × (Nat → Int32)} {d : Nat} (n : Nat) (x0 : Int32) (S : St) : ex X d 150 20 [.int x0] [] (hh S) (n + 3) = if x0 = 2 then ex X d 150 31 [.int x0] [] (hh S) n else ex X d 150 25 [.int x0] [] (hh S) n := rfl
theorem B_150_6 {X : Nat × (Nat → Int32)} {d : Nat} (n : Nat) (x0 : Int32) (S : St) : ex X d 150 25 [.int x0] [] (hh S) (n + 3) = if x0 = 8 then ex X d 150 31 [.int x0] [] (hh S) n else ex X d 150 35 [.int x0] [] (hh S) n := rfl
theorem B_150_7 {X : Nat × (Nat → Int32)} {d : Nat} (n : Nat) (x0 : Int32) (S : St) : ex X d 150 25 [.int x0] [] (hh S) (n + 3) = if x0 = 8 then ex X d 150 31 [.int x0] [] (hh S) n else ex X d 150 35 [.int x0] [] (hh S) n := rfl
theorem B_150_8 {X : Nat × (Nat → Int32)} {d : Nat} (n : Nat) (x0 : Int32) (S : St) : ex X d 150 0 [.int x0] [] (hh S) (n + 3) = if x0 < 4 then ex X d 150 15 [.int x0] [] (hh S) n else ex X d 150 5 [.int x0] [] (hh S) n := rfl
theorem B_150_9 {X : Nat × (Nat → Int32)} {d : Nat} (n : Nat) (x0 : Int32) (S : St) : ex X d 150 5 [.int x0] [] (hh S) (n + 3) = if 6 < x0 then ex X d 150 15 [.int x0] [] (hh S) n else ex X d 150 11 [.int x0] [] (hh S) n := rfl
theorem B_150_10 {X : Nat × (Nat → Int32)} {d : Nat} (n : Nat) (x0 : Int32) (S : St) : ex X d 150 15 [.int x0] [] (hh S) (n + 3) = if x0 = 1 then ex X d 150 31 [.int x0] [] (hh S) n else ex X d 150 20 [.int x0] [] (hh S) n := rfl
theorem B_150_11 {X : Nat × (Nat → Int32)} {d : Nat} (n : Nat) (x0 : Int32) (S : St) : ex X d 150 15 [.int x0] [] (hh S) (n + 3) = if x0 = 1 then ex X d 150 31 [.int x0] [] (hh S) n else ex X d 150 20 [.int x0] [] (hh S) n := rfl
theorem B_150_12 {X : Nat × (Nat → Int32)} {d : Nat} (n : Nat) (x0 : Int32) (S : St) : ex X d 150 20 [.int x0] [] (hh S) (n + 3) = if x0 = 2 then ex X d 150 31 [.int x0] [] (hh S) n else ex X d 150 25 [.int x0] [] (hh S) n := rfl
theorem B_150_13 {X : Nat × (Nat → Int32)} {d : Nat} (n : Nat) (x0 : Int32) (S : St) : ex X d 150 20 [.int x0] [] (hh S) (n + 3) = if x0 = 2 then ex X d 150 31 [.int x0] [] (hh S) n else ex X d 150 25 [.int x0] [] (hh S) n := rfl
theorem B_150_14 {X : Nat × (Nat → Int32)} {d : Nat} (n : Nat) (x0 : Int32) (S : St) : ex X d 150 25 [.int x0] [] (hh S) (n + 3) = if x0 = 8 then ex X d 150 31 [.int x0] [] (hh S) n else ex X d 150 35 [.int x0] [] (hh S) n := rfl
theorem B_150_15 {X : Nat × (Nat → Int32)} {d : Nat} (n : Nat) (x0 : Int32) (S : St) : ex X d 150 25 [.int x0] [] (hh S) (n + 3) = if x0 = 8 then ex X d 150 31 [.int x0] [] (hh S) n else ex X d 150 35 [.int x0] [] (hh S) n := rfl
theorem B_150_16 {X : Nat × (Nat → Int32)} {d : Nat} (n : Nat) (x0 : Int32) (S : St) : ex X d 150 5 [.int x0] [] (hh S) (n + 3) = if 6 < x0 then ex X d 150 15 [.int x0] [] (hh S) n else ex X d 150 11 [.int x0] [] (hh S) n := rfl
set_option maxRecDepth 200000 in
theorem T_150 {X : Nat × (Nat → Int32)} (S : St) (x0 : Int32) (r : Int32) (S' : St) (hG : G_150 S x0 = some (r, S')) : Ev X 0 150 0 [.int x0] [] (hh S) (xI r, hh S') := by
  unfold G_150 at hG
  by_cases c1 : x0 < 4
  · rw [if_pos c1] at hG
    refine Ev.t (c := x0 < 4) (p1 := 15) (L1 := [.int x0]) (s1 := []) (h1 := hh S) (p2 := 5) (L2 := [.int x0]) (s2 := []) (h2 := hh S) 3 (fun n => B_150_1 n x0 S) c1 ?_
    by_cases c2 : x0 = 1
    · rw [if_pos c2] at hG
      refine Ev.t (c := x0 = 1) (p1 := 31) (L1 := [.int x0]) (s1 := []) (h1 := hh S) (p2 := 20) (L2 := [.int x0]) (s2 := []) (h2 := hh S) 3 (fun n => B_150_2 n x0 S) c2 ?_
      obtain ⟨e1, e2⟩ := Prod.mk.inj (Option.some.inj hG)
      subst e1
      subst e2
      exact Ev.r 3 (fun n => rfl)
    · rw [if_neg c2] at hG
      refine Ev.f (c := x0 = 1) (p1 := 31) (L1 := [.int x0]) (s1 := []) (h1 := hh S) (p2 := 20) (L2 := [.int x0]) (s2 := []) (h2 := hh S) 3 (fun n => B_150_3 n x0 S) c2 ?_
      by_cases c3 : x0 = 2
      · rw [if_pos c3] at hG
        refine Ev.t (c := x0 = 2) (p1 := 31) (L1 := [.int x0]) (s1 := []) (h1 := hh S) (p2 := 25) (L2 := [.int x0]) (s2 := []) (h2 := hh S) 3 (fun n => B_150_4 n x0 S) c3 ?_
        obtain ⟨e1, e2⟩ := Prod.mk.inj (Option.some.inj hG)
        subst e1
        subst e2
        exact Ev.r 3 (fun n => rfl)
      · rw [if_neg c3] at hG
        refine Ev.f (c := x0 = 2) (p1 := 31) (L1 := [.int x0]) (s1 := []) (h1 := hh S) (p2 := 25) (L2 := [.int x0]) (s2 := []) (h2 := hh S) 3 (fun n => B_150_5 n x0 S) c3 ?_
        by_cases c4 : x0 = 8
        · rw [if_pos c4] at hG
          refine Ev.t (c := x0 = 8) (p1 := 31) (L1 := [.int x0]) (s1 := []) (h1 := hh S) (p2 := 35) (L2 := [.int x0]) (s2 := []) (h2 := hh S) 3 (fun n => B_150_6 n x0 S) c4 ?_
          obtain ⟨e1, e2⟩ := Prod.mk.inj (Option.some.inj hG)
          subst e1
          subst e2
          exact Ev.r 3 (fun n => rfl)
        · rw [if_neg c4] at hG
          refine Ev.f (c := x0 = 8) (p1 := 31) (L1 := [.int x0]) (s1 := []) (h1 := hh S) (p2 := 35) (L2 := [.int x0]) (s2 := []) (h2 := hh S) 3 (fun n => B_150_7 n x0 S) c4 ?_
          obtain ⟨e1, e2⟩ := Prod.mk.inj (Option.some.inj hG)
          subst e1
          subst e2
          exact Ev.r 2 (fun n => rfl)
  · rw [if_neg c1] at hG
    refine Ev.f (c := x0 < 4) (p1 := 15) (L1 := [.int x0]) (s1 := []) (h1 := hh S) (p2 := 5) (L2 := [.int x0]) (s2 := []) (h2 := hh S) 3 (fun n => B_150_8 n x0 S) c1 ?_
    by_cases c5 : 6 < x0
    · rw [if_pos c5] at hG
      refine Ev.t (c := 6 < x0) (p1 := 15) (L1 := [.int x0]) (s1 := []) (h1 := hh S) (p2 := 11) (L2 := [.int x0]) (s2 := []) (h2 := hh S) 3 (fun n => B_150_9 n x0 S) c5 ?_
      by_cases c6 : x0 = 1
      · rw [if_pos c6] at hG
        refine Ev.t (c := x0 = 1) (p1 := 31) (L1 := [.int x0]) (s1 := []) (h1 := hh S) (p2 := 20) (L2 := [.int x0]) (s2 := []) (h2 := hh S) 3 (fun n => B_150_10 n x0 S) c6 ?_
        obtain ⟨e1, e2⟩ := Prod.mk.inj (Option.some.inj hG)
        subst e1
        subst e2
        exact Ev.r 3 (fun n => rfl)
      · rw [if_neg c6] at hG
        refine Ev.f (c := x0 = 1) (p1 := 31) (L1 := [.int x0]) (s1 := []) (h1 := hh S) (p2 := 20) (L2 := [.int x0]) (s2 := []) (h2 := hh S) 3 (fun n => B_150_11 n x0 S) c6 ?_
        by_cases c7 : x0 = 2
        · rw [if_pos c7] at hG
          refine Ev.t (c := x0 = 2) (p1 := 31) (L1 := [.int x0]) (s1 := []) (h1 := hh S) (p2 := 25) (L2 := [.int x0]) (s2 := []) (h2 := hh S) 3 (fun n => B_150_12 n x0 S) c7 ?_
          obtain ⟨e1, e2⟩ := Prod.mk.inj (Option.some.inj hG)
          subst e1
          subst e2
          exact Ev.r 3 (fun n => rfl)
        · rw [if_neg c7] at hG
          refine Ev.f (c := x0 = 2) (p1 := 31) (L1 := [.int x0]) (s1 := []) (h1 := hh S) (p2 := 25) (L2 := [.int x0]) (s2 := []) (h2 := hh S) 3 (fun n => B_150_13 n x0 S) c7 ?_
          by_cases c8 : x0 = 8
          · rw [if_pos c8] at hG
            refine Ev.t (c := x0 = 8) (p1 := 31) (L1 := [.int x0]) (s1 := []) (h1 := hh S) (p2 := 35) (L2 := [.int x0]) (s2 := []) (h2 := hh S) 3 (fun n => B_150_14 n x0 S) c8 ?_
            obtain ⟨e1, e2⟩ := Prod.mk.inj (Option.some.inj hG)
            subst e1
            subst e2
            exact Ev.r 3 (fun n => rfl)
          · rw [if_neg c8] at hG
            refine Ev.f (c := x0 = 8) (p1 := 31) (L1 := [.int x0]) (s1 := []) (h1 := hh S) (p2 := 35) (L2 := [.int x0]) (s2 := []) (h2 := hh S) 3 (fun n => B_150_15 n x0 S) c8 ?_
            obtain ⟨e1, e2⟩ := Prod.mk.inj (Option.some.inj hG)
            subst e1
            subst e2
            exact Ev.r 2 (fun n => rfl)
    · rw [if_neg c5] at hG
      refine Ev.f (c := 6 < x0) (p1 := 15) (L1 := [.int x0]) (s1 := []) (h1 := hh S) (p2 := 11) (L2 := [.int x0]) (s2 := []) (h2 := hh S) 3 (fun n => B_150_16 n x0 S) c5 ?_
      obtain ⟨e1, e2⟩ := Prod.mk.inj (Option.some.inj hG)
      subst e1
      subst e2
      exact Ev.r 3 (fun n => rfl)
/-- 147: SceneCycleModel.towards(III)V -/
def GL_147_0 : Nat → St → Int32 → Int32 → Int32 → Int32 → Option (Unit × St)
  | 0, _, _, _, _, _ => none
  | n + 1, S, y1, y2, y3, y4 =>
    (if 8 < y4 then
      some ((), S)
    else
      (match G_148 S y4 with
      | none => none
      | some (v2, S2) =>
        (if xa_in y1 4 then
          (match G_149 S2 (y2 - (S2.1 42 (y1).toNatClampNeg)) with
          | none => none
          | some (v4, S4) =>
            (if v2 = v4 then
              (match G_150 S4 y4 with
              | none => none
              | some (v6, S6) =>
                (match G_149 S6 (y3 - (S6.1 43 (y1).toNatClampNeg)) with
                | none => none
                | some (v7, S7) =>
                  (if v6 = v7 then
                    GL_147_0 n (xa_u S7.1 46 ((y1).toNatClampNeg) y4, S7.2.1, S7.2.2) y1 y2 y3 (y4 + 1)
                  else
                    GL_147_0 n (xa_u S7.1 46 ((y1).toNatClampNeg) (S7.1 46 (y1).toNatClampNeg), S7.2.1, S7.2.2) y1 y2 y3 (y4 + 1)
                  )
                )
              )
            else
              GL_147_0 n (xa_u S4.1 46 ((y1).toNatClampNeg) (S4.1 46 (y1).toNatClampNeg), S4.2.1, S4.2.2) y1 y2 y3 (y4 + 1)
            )
          )
        else none)
      )
    )
theorem B_147_1 {X : Nat × (Nat → Int32)} {d : Nat} (n : Nat) (y1 : Int32) (y2 : Int32) (y3 : Int32) (y4 : Int32) (S : St) : ex X d 147 3 [.ref 29, .int y1, .int y2, .int y3, .int y4] [] (hh S) (n + 3) = if 8 < y4 then ex X d 147 71 [.ref 29, .int y1, .int y2, .int y3, .int y4] [] (hh S) n else ex X d 147 10 [.ref 29, .int y1, .int y2, .int y3, .int y4] [] (hh S) n := rfl
theorem B_147_2 {X : Nat × (Nat → Int32)} {d : Nat} (n : Nat) (y1 : Int32) (y2 : Int32) (y3 : Int32) (y4 : Int32) (S : St) : ex X d 147 3 [.ref 29, .int y1, .int y2, .int y3, .int y4] [] (hh S) (n + 3) = if 8 < y4 then ex X d 147 71 [.ref 29, .int y1, .int y2, .int y3, .int y4] [] (hh S) n else ex X d 147 10 [.ref 29, .int y1, .int y2, .int y3, .int y4] [] (hh S) n := rfl
theorem B_147_3 {X : Nat × (Nat → Int32)} {d : Nat} (n : Nat) (y1 : Int32) (y2 : Int32) (y3 : Int32) (y4 : Int32) (S : St) : ex X (d + 1) 147 10 [.ref 29, .int y1, .int y2, .int y3, .int y4] [] (hh S) (n + 5) = (match ex X d 148 0 [.int y4] [] (hh S) n with | some (v, h') => ex X (d + 1) 147 20 [.ref 29, .int y1, .int y2, .int y3, .int y4] (v.toList ++ [.int y1, .ref 46]) h' n | none => none) := rfl
theorem B_147_4 {X : Nat × (Nat → Int32)} {d : Nat} (n : Nat) (y1 : Int32) (y2 : Int32) (y3 : Int32) (y4 : Int32) (v2 : Int32) (S2 : St) : ex X d 147 20 [.ref 29, .int y1, .int y2, .int y3, .int y4] [.int v2, .int y1, .ref 46] (hh S2) (n + 5) = if (kd 42).1 = 0 ∧ xa_in y1 (kd 42).2 then ex X d 147 27 [.ref 29, .int y1, .int y2, .int y3, .int y4] [.int (S2.1 42 (y1).toNatClampNeg), .int y2, .int v2, .int y1, .ref 46] (hh S2) n else none := rfl
theorem B_147_5 {X : Nat × (Nat → Int32)} {d : Nat} (n : Nat) (y1 : Int32) (y2 : Int32) (y3 : Int32) (y4 : Int32) (S2 : St) (v2 : Int32) : ex X (d + 1) 147 27 [.ref 29, .int y1, .int y2, .int y3, .int y4] [.int (S2.1 42 (y1).toNatClampNeg), .int y2, .int v2, .int y1, .ref 46] (hh S2) (n + 2) = (match ex X d 149 0 [.int (y2 - (S2.1 42 (y1).toNatClampNeg))] [] (hh S2) n with | some (v, h') => ex X (d + 1) 147 31 [.ref 29, .int y1, .int y2, .int y3, .int y4] (v.toList ++ [.int v2, .int y1, .ref 46]) h' n | none => none) := rfl
theorem B_147_6 {X : Nat × (Nat → Int32)} {d : Nat} (n : Nat) (y1 : Int32) (y2 : Int32) (y3 : Int32) (y4 : Int32) (v4 : Int32) (v2 : Int32) (S4 : St) : ex X d 147 31 [.ref 29, .int y1, .int y2, .int y3, .int y4] [.int v4, .int v2, .int y1, .ref 46] (hh S4) (n + 1) = if v2 = v4 then ex X d 147 34 [.ref 29, .int y1, .int y2, .int y3, .int y4] [.int y1, .ref 46] (hh S4) n else ex X d 147 58 [.ref 29, .int y1, .int y2, .int y3, .int y4] [.int y1, .ref 46] (hh S4) n := rfl
theorem B_147_7 {X : Nat × (Nat → Int32)} {d : Nat} (n : Nat) (y1 : Int32) (y2 : Int32) (y3 : Int32) (y4 : Int32) (S4 : St) : ex X (d + 1) 147 34 [.ref 29, .int y1, .int y2, .int y3, .int y4] [.int y1, .ref 46] (hh S4) (n + 2) = (match ex X d 150 0 [.int y4] [] (hh S4) n with | some (v, h') => ex X (d + 1) 147 39 [.ref 29, .int y1, .int y2, .int y3, .int y4] (v.toList ++ [.int y1, .ref 46]) h' n | none => none) := rfl
theorem B_147_8 {X : Nat × (Nat → Int32)} {d : Nat} (n : Nat) (y1 : Int32) (y2 : Int32) (y3 : Int32) (y4 : Int32) (v6 : Int32) (S6 : St) : ex X d 147 39 [.ref 29, .int y1, .int y2, .int y3, .int y4] [.int v6, .int y1, .ref 46] (hh S6) (n + 5) = if (kd 43).1 = 0 ∧ xa_in y1 (kd 43).2 then ex X d 147 46 [.ref 29, .int y1, .int y2, .int y3, .int y4] [.int (S6.1 43 (y1).toNatClampNeg), .int y3, .int v6, .int y1, .ref 46] (hh S6) n else none := rfl
theorem B_147_9 {X : Nat × (Nat → Int32)} {d : Nat} (n : Nat) (y1 : Int32) (y2 : Int32) (y3 : Int32) (y4 : Int32) (S6 : St) (v6 : Int32) : ex X (d + 1) 147 46 [.ref 29, .int y1, .int y2, .int y3, .int y4] [.int (S6.1 43 (y1).toNatClampNeg), .int y3, .int v6, .int y1, .ref 46] (hh S6) (n + 2) = (match ex X d 149 0 [.int (y3 - (S6.1 43 (y1).toNatClampNeg))] [] (hh S6) n with | some (v, h') => ex X (d + 1) 147 50 [.ref 29, .int y1, .int y2, .int y3, .int y4] (v.toList ++ [.int v6, .int y1, .ref 46]) h' n | none => none) := rfl
theorem B_147_10 {X : Nat × (Nat → Int32)} {d : Nat} (n : Nat) (y1 : Int32) (y2 : Int32) (y3 : Int32) (y4 : Int32) (v7 : Int32) (v6 : Int32) (S7 : St) : ex X d 147 50 [.ref 29, .int y1, .int y2, .int y3, .int y4] [.int v7, .int v6, .int y1, .ref 46] (hh S7) (n + 1) = if v6 = v7 then ex X d 147 53 [.ref 29, .int y1, .int y2, .int y3, .int y4] [.int y1, .ref 46] (hh S7) n else ex X d 147 58 [.ref 29, .int y1, .int y2, .int y3, .int y4] [.int y1, .ref 46] (hh S7) n := rfl
theorem B_147_11 {X : Nat × (Nat → Int32)} {d : Nat} (n : Nat) (y1 : Int32) (y2 : Int32) (y3 : Int32) (y4 : Int32) (S7 : St) : ex X d 147 53 [.ref 29, .int y1, .int y2, .int y3, .int y4] [.int y1, .ref 46] (hh S7) (n + 3) = if (kd 46).1 = 0 ∧ xa_in y1 (kd 46).2 then ex X d 147 65 [.ref 29, .int y1, .int y2, .int y3, .int y4] [] (hh (xa_u S7.1 46 ((y1).toNatClampNeg) y4, S7.2.1, S7.2.2)) n else none := rfl
theorem B_147_12 {X : Nat × (Nat → Int32)} {d : Nat} (n : Nat) (y1 : Int32) (y2 : Int32) (y3 : Int32) (y4 : Int32) (S7 : St) : ex X d 147 65 [.ref 29, .int y1, .int y2, .int y3, .int y4] [] (hh (xa_u S7.1 46 ((y1).toNatClampNeg) y4, S7.2.1, S7.2.2)) (n + 2) = ex X d 147 3 [.ref 29, .int y1, .int y2, .int y3, .int (y4 + 1)] [] (hh (xa_u S7.1 46 ((y1).toNatClampNeg) y4, S7.2.1, S7.2.2)) n := rfl
theorem B_147_13 {X : Nat × (Nat → Int32)} {d : Nat} (n : Nat) (y1 : Int32) (y2 : Int32) (y3 : Int32) (y4 : Int32) (v7 : Int32) (v6 : Int32) (S7 : St) : ex X d 147 50 [.ref 29, .int y1, .int y2, .int y3, .int y4] [.int v7, .int v6, .int y1, .ref 46] (hh S7) (n + 1) = if v6 = v7 then ex X d 147 53 [.ref 29, .int y1, .int y2, .int y3, .int y4] [.int y1, .ref 46] (hh S7) n else ex X d 147 58 [.ref 29, .int y1, .int y2, .int y3, .int y4] [.int y1, .ref 46] (hh S7) n := rfl
theorem B_147_14 {X : Nat × (Nat → Int32)} {d : Nat} (n : Nat) (y1 : Int32) (y2 : Int32) (y3 : Int32) (y4 : Int32) (S7 : St) : ex X d 147 58 [.ref 29, .int y1, .int y2, .int y3, .int y4] [.int y1, .ref 46] (hh S7) (n + 4) = if (kd 46).1 = 0 ∧ xa_in y1 (kd 46).2 then ex X d 147 64 [.ref 29, .int y1, .int y2, .int y3, .int y4] [.int (S7.1 46 (y1).toNatClampNeg), .int y1, .ref 46] (hh S7) n else none := rfl
theorem B_147_15 {X : Nat × (Nat → Int32)} {d : Nat} (n : Nat) (y1 : Int32) (y2 : Int32) (y3 : Int32) (y4 : Int32) (S7 : St) : ex X d 147 64 [.ref 29, .int y1, .int y2, .int y3, .int y4] [.int (S7.1 46 (y1).toNatClampNeg), .int y1, .ref 46] (hh S7) (n + 1) = if (kd 46).1 = 0 ∧ xa_in y1 (kd 46).2 then ex X d 147 65 [.ref 29, .int y1, .int y2, .int y3, .int y4] [] (hh (xa_u S7.1 46 ((y1).toNatClampNeg) (S7.1 46 (y1).toNatClampNeg), S7.2.1, S7.2.2)) n else none := rfl
theorem B_147_16 {X : Nat × (Nat → Int32)} {d : Nat} (n : Nat) (y1 : Int32) (y2 : Int32) (y3 : Int32) (y4 : Int32) (S7 : St) : ex X d 147 65 [.ref 29, .int y1, .int y2, .int y3, .int y4] [] (hh (xa_u S7.1 46 ((y1).toNatClampNeg) (S7.1 46 (y1).toNatClampNeg), S7.2.1, S7.2.2)) (n + 2) = ex X d 147 3 [.ref 29, .int y1, .int y2, .int y3, .int (y4 + 1)] [] (hh (xa_u S7.1 46 ((y1).toNatClampNeg) (S7.1 46 (y1).toNatClampNeg), S7.2.1, S7.2.2)) n := rfl
theorem B_147_17 {X : Nat × (Nat → Int32)} {d : Nat} (n : Nat) (y1 : Int32) (y2 : Int32) (y3 : Int32) (y4 : Int32) (v4 : Int32) (v2 : Int32) (S4 : St) : ex X d 147 31 [.ref 29, .int y1, .int y2, .int y3, .int y4] [.int v4, .int v2, .int y1, .ref 46] (hh S4) (n + 1) = if v2 = v4 then ex X d 147 34 [.ref 29, .int y1, .int y2, .int y3, .int y4] [.int y1, .ref 46] (hh S4) n else ex X d 147 58 [.ref 29, .int y1, .int y2, .int y3, .int y4] [.int y1, .ref 46] (hh S4) n := rfl
theorem B_147_18 {X : Nat × (Nat → Int32)} {d : Nat} (n : Nat) (y1 : Int32) (y2 : Int32) (y3 : Int32) (y4 : Int32) (S4 : St) : ex X d 147 58 [.ref 29, .int y1, .int y2, .int y3, .int y4] [.int y1, .ref 46] (hh S4) (n + 4) = if (kd 46).1 = 0 ∧ xa_in y1 (kd 46).2 then ex X d 147 64 [.ref 29, .int y1, .int y2, .int y3, .int y4] [.int (S4.1 46 (y1).toNatClampNeg), .int y1, .ref 46] (hh S4) n else none := rfl
theorem B_147_19 {X : Nat × (Nat → Int32)} {d : Nat} (n : Nat) (y1 : Int32) (y2 : Int32) (y3 : Int32) (y4 : Int32) (S4 : St) : ex X d 147 64 [.ref 29, .int y1, .int y2, .int y3, .int y4] [.int (S4.1 46 (y1).toNatClampNeg), .int y1, .ref 46] (hh S4) (n + 1) = if (kd 46).1 = 0 ∧ xa_in y1 (kd 46).2 then ex X d 147 65 [.ref 29, .int y1, .int y2, .int y3, .int y4] [] (hh (xa_u S4.1 46 ((y1).toNatClampNeg) (S4.1 46 (y1).toNatClampNeg), S4.2.1, S4.2.2)) n else none := rfl
theorem B_147_20 {X : Nat × (Nat → Int32)} {d : Nat} (n : Nat) (y1 : Int32) (y2 : Int32) (y3 : Int32) (y4 : Int32) (S4 : St) : ex X d 147 65 [.ref 29, .int y1, .int y2, .int y3, .int y4] [] (hh (xa_u S4.1 46 ((y1).toNatClampNeg) (S4.1 46 (y1).toNatClampNeg), S4.2.1, S4.2.2)) (n + 2) = ex X d 147 3 [.ref 29, .int y1, .int y2, .int y3, .int (y4 + 1)] [] (hh (xa_u S4.1 46 ((y1).toNatClampNeg) (S4.1 46 (y1).toNatClampNeg), S4.2.1, S4.2.2)) n := rfl
set_option maxRecDepth 200000 in
theorem TL_147_0 {X : Nat × (Nat → Int32)} : ∀ (n : Nat) (S : St) (y1 : Int32) (y2 : Int32) (y3 : Int32) (y4 : Int32) (r : Unit) (S' : St), GL_147_0 n S y1 y2 y3 y4 = some (r, S') → Ev X 1 147 3 [.ref 29, .int y1, .int y2, .int y3, .int y4] [] (hh S) (xV r, hh S') := by
  intro n
  induction n with
  | zero => intro S y1 y2 y3 y4 r S' hG; simp [GL_147_0] at hG
  | succ n ih =>
    intro S y1 y2 y3 y4 r S' hG
    rw [GL_147_0] at hG
    by_cases c1 : 8 < y4
    · rw [if_pos c1] at hG
      refine Ev.t (c := 8 < y4) (p1 := 71) (L1 := [.ref 29, .int y1, .int y2, .int y3, .int y4]) (s1 := []) (h1 := hh S) (p2 := 10) (L2 := [.ref 29, .int y1, .int y2, .int y3, .int y4]) (s2 := []) (h2 := hh S) 3 (fun n => B_147_1 n y1 y2 y3 y4 S) c1 ?_
      obtain ⟨e1, e2⟩ := Prod.mk.inj (Option.some.inj hG)
      subst e1
      subst e2
      exact Ev.r 1 (fun n => rfl)
    · rw [if_neg c1] at hG
      refine Ev.f (c := 8 < y4) (p1 := 71) (L1 := [.ref 29, .int y1, .int y2, .int y3, .int y4]) (s1 := []) (h1 := hh S) (p2 := 10) (L2 := [.ref 29, .int y1, .int y2, .int y3, .int y4]) (s2 := []) (h2 := hh S) 3 (fun n => B_147_2 n y1 y2 y3 y4 S) c1 ?_
      rcases h2 : G_148 S y4 with _ | ⟨v2, S2⟩
      · rw [h2] at hG; cases hG
      rw [h2] at hG
      dsimp only at hG
      refine Ev.c (a := 148) (A := [.int y4]) (h1 := hh S) (pc' := 20) (L' := [.ref 29, .int y1, .int y2, .int y3, .int y4]) (rest := [.int y1, .ref 46]) (r1 := some (.int v2)) (h2 := hh S2) 5 (fun n => B_147_3 n y1 y2 y3 y4 S) (Ev.up (by decide) (T_148 S y4 _ _ h2)) ?_
      show Ev X _ 147 20 [.ref 29, .int y1, .int y2, .int y3, .int y4] [.int v2, .int y1, .ref 46] (hh S2) _
      by_cases g3 : xa_in y1 4
      rotate_left
      · rw [if_neg g3] at hG; cases hG
      rw [if_pos g3] at hG
      refine Ev.g (c := (kd 42).1 = 0 ∧ xa_in y1 (kd 42).2) (p1 := 27) (L1 := [.ref 29, .int y1, .int y2, .int y3, .int y4]) (s1 := [.int (S2.1 42 (y1).toNatClampNeg), .int y2, .int v2, .int y1, .ref 46]) (h1 := hh S2) 5 (fun n => B_147_4 n y1 y2 y3 y4 v2 S2) (⟨rfl, g3⟩) ?_
      rcases h4 : G_149 S2 (y2 - (S2.1 42 (y1).toNatClampNeg)) with _ | ⟨v4, S4⟩
      · rw [h4] at hG; cases hG
      rw [h4] at hG
      dsimp only at hG
      refine Ev.c (a := 149) (A := [.int (y2 - (S2.1 42 (y1).toNatClampNeg))]) (h1 := hh S2) (pc' := 31) (L' := [.ref 29, .int y1, .int y2, .int y3, .int y4]) (rest := [.int v2, .int y1, .ref 46]) (r1 := some (.int v4)) (h2 := hh S4) 2 (fun n => B_147_5 n y1 y2 y3 y4 S2 v2) (Ev.up (by decide) (T_149 S2 (y2 - (S2.1 42 (y1).toNatClampNeg)) _ _ h4)) ?_
      show Ev X _ 147 31 [.ref 29, .int y1, .int y2, .int y3, .int y4] [.int v4, .int v2, .int y1, .ref 46] (hh S4) _
      by_cases c5 : v2 = v4
      · rw [if_pos c5] at hG
        refine Ev.t (c := v2 = v4) (p1 := 34) (L1 := [.ref 29, .int y1, .int y2, .int y3, .int y4]) (s1 := [.int y1, .ref 46]) (h1 := hh S4) (p2 := 58) (L2 := [.ref 29, .int y1, .int y2, .int y3, .int y4]) (s2 := [.int y1, .ref 46]) (h2 := hh S4) 1 (fun n => B_147_6 n y1 y2 y3 y4 v4 v2 S4) c5 ?_
        rcases h6 : G_150 S4 y4 with _ | ⟨v6, S6⟩
        · rw [h6] at hG; cases hG
        rw [h6] at hG
        dsimp only at hG
        refine Ev.c (a := 150) (A := [.int y4]) (h1 := hh S4) (pc' := 39) (L' := [.ref 29, .int y1, .int y2, .int y3, .int y4]) (rest := [.int y1, .ref 46]) (r1 := some (.int v6)) (h2 := hh S6) 2 (fun n => B_147_7 n y1 y2 y3 y4 S4) (Ev.up (by decide) (T_150 S4 y4 _ _ h6)) ?_
        show Ev X _ 147 39 [.ref 29, .int y1, .int y2, .int y3, .int y4] [.int v6, .int y1, .ref 46] (hh S6) _
        refine Ev.g (c := (kd 43).1 = 0 ∧ xa_in y1 (kd 43).2) (p1 := 46) (L1 := [.ref 29, .int y1, .int y2, .int y3, .int y4]) (s1 := [.int (S6.1 43 (y1).toNatClampNeg), .int y3, .int v6, .int y1, .ref 46]) (h1 := hh S6) 5 (fun n => B_147_8 n y1 y2 y3 y4 v6 S6) (⟨rfl, g3⟩) ?_
        rcases h7 : G_149 S6 (y3 - (S6.1 43 (y1).toNatClampNeg)) with _ | ⟨v7, S7⟩
        · rw [h7] at hG; cases hG
        rw [h7] at hG
        dsimp only at hG
        refine Ev.c (a := 149) (A := [.int (y3 - (S6.1 43 (y1).toNatClampNeg))]) (h1 := hh S6) (pc' := 50) (L' := [.ref 29, .int y1, .int y2, .int y3, .int y4]) (rest := [.int v6, .int y1, .ref 46]) (r1 := some (.int v7)) (h2 := hh S7) 2 (fun n => B_147_9 n y1 y2 y3 y4 S6 v6) (Ev.up (by decide) (T_149 S6 (y3 - (S6.1 43 (y1).toNatClampNeg)) _ _ h7)) ?_
        show Ev X _ 147 50 [.ref 29, .int y1, .int y2, .int y3, .int y4] [.int v7, .int v6, .int y1, .ref 46] (hh S7) _
        by_cases c8 : v6 = v7
        · rw [if_pos c8] at hG
          refine Ev.t (c := v6 = v7) (p1 := 53) (L1 := [.ref 29, .int y1, .int y2, .int y3, .int y4]) (s1 := [.int y1, .ref 46]) (h1 := hh S7) (p2 := 58) (L2 := [.ref 29, .int y1, .int y2, .int y3, .int y4]) (s2 := [.int y1, .ref 46]) (h2 := hh S7) 1 (fun n => B_147_10 n y1 y2 y3 y4 v7 v6 S7) c8 ?_
          refine Ev.g (c := (kd 46).1 = 0 ∧ xa_in y1 (kd 46).2) (p1 := 65) (L1 := [.ref 29, .int y1, .int y2, .int y3, .int y4]) (s1 := []) (h1 := hh (xa_u S7.1 46 ((y1).toNatClampNeg) y4, S7.2.1, S7.2.2)) 3 (fun n => B_147_11 n y1 y2 y3 y4 S7) (⟨rfl, g3⟩) ?_
          exact Ev.b (pc' := 3) (L' := [.ref 29, .int y1, .int y2, .int y3, .int (y4 + 1)]) (st' := []) (h' := hh (xa_u S7.1 46 ((y1).toNatClampNeg) y4, S7.2.1, S7.2.2)) 2 (fun n => B_147_12 n y1 y2 y3 y4 S7) (ih (xa_u S7.1 46 ((y1).toNatClampNeg) y4, S7.2.1, S7.2.2) y1 y2 y3 (y4 + 1) _ _ hG )
        · rw [if_neg c8] at hG
          refine Ev.f (c := v6 = v7) (p1 := 53) (L1 := [.ref 29, .int y1, .int y2, .int y3, .int y4]) (s1 := [.int y1, .ref 46]) (h1 := hh S7) (p2 := 58) (L2 := [.ref 29, .int y1, .int y2, .int y3, .int y4]) (s2 := [.int y1, .ref 46]) (h2 := hh S7) 1 (fun n => B_147_13 n y1 y2 y3 y4 v7 v6 S7) c8 ?_
          refine Ev.g (c := (kd 46).1 = 0 ∧ xa_in y1 (kd 46).2) (p1 := 64) (L1 := [.ref 29, .int y1, .int y2, .int y3, .int y4]) (s1 := [.int (S7.1 46 (y1).toNatClampNeg), .int y1, .ref 46]) (h1 := hh S7) 4 (fun n => B_147_14 n y1 y2 y3 y4 S7) (⟨rfl, g3⟩) ?_
          refine Ev.g (c := (kd 46).1 = 0 ∧ xa_in y1 (kd 46).2) (p1 := 65) (L1 := [.ref 29, .int y1, .int y2, .int y3, .int y4]) (s1 := []) (h1 := hh (xa_u S7.1 46 ((y1).toNatClampNeg) (S7.1 46 (y1).toNatClampNeg), S7.2.1, S7.2.2)) 1 (fun n => B_147_15 n y1 y2 y3 y4 S7) (⟨rfl, g3⟩) ?_
          exact Ev.b (pc' := 3) (L' := [.ref 29, .int y1, .int y2, .int y3, .int (y4 + 1)]) (st' := []) (h' := hh (xa_u S7.1 46 ((y1).toNatClampNeg) (S7.1 46 (y1).toNatClampNeg), S7.2.1, S7.2.2)) 2 (fun n => B_147_16 n y1 y2 y3 y4 S7) (ih (xa_u S7.1 46 ((y1).toNatClampNeg) (S7.1 46 (y1).toNatClampNeg), S7.2.1, S7.2.2) y1 y2 y3 (y4 + 1) _ _ hG )
      · rw [if_neg c5] at hG
        refine Ev.f (c := v2 = v4) (p1 := 34) (L1 := [.ref 29, .int y1, .int y2, .int y3, .int y4]) (s1 := [.int y1, .ref 46]) (h1 := hh S4) (p2 := 58) (L2 := [.ref 29, .int y1, .int y2, .int y3, .int y4]) (s2 := [.int y1, .ref 46]) (h2 := hh S4) 1 (fun n => B_147_17 n y1 y2 y3 y4 v4 v2 S4) c5 ?_
        refine Ev.g (c := (kd 46).1 = 0 ∧ xa_in y1 (kd 46).2) (p1 := 64) (L1 := [.ref 29, .int y1, .int y2, .int y3, .int y4]) (s1 := [.int (S4.1 46 (y1).toNatClampNeg), .int y1, .ref 46]) (h1 := hh S4) 4 (fun n => B_147_18 n y1 y2 y3 y4 S4) (⟨rfl, g3⟩) ?_
        refine Ev.g (c := (kd 46).1 = 0 ∧ xa_in y1 (kd 46).2) (p1 := 65) (L1 := [.ref 29, .int y1, .int y2, .int y3, .int y4]) (s1 := []) (h1 := hh (xa_u S4.1 46 ((y1).toNatClampNeg) (S4.1 46 (y1).toNatClampNeg), S4.2.1, S4.2.2)) 1 (fun n => B_147_19 n y1 y2 y3 y4 S4) (⟨rfl, g3⟩) ?_
        exact Ev.b (pc' := 3) (L' := [.ref 29, .int y1, .int y2, .int y3, .int (y4 + 1)]) (st' := []) (h' := hh (xa_u S4.1 46 ((y1).toNatClampNeg) (S4.1 46 (y1).toNatClampNeg), S4.2.1, S4.2.2)) 2 (fun n => B_147_20 n y1 y2 y3 y4 S4) (ih (xa_u S4.1 46 ((y1).toNatClampNeg) (S4.1 46 (y1).toNatClampNeg), S4.2.1, S4.2.2) y1 y2 y3 (y4 + 1) _ _ hG )
def G_147 (S : St) (x1 : Int32) (x2 : Int32) (x3 : Int32) : Option (Unit × St) :=
  GL_147_0 xFu S x1 x2 x3 (1 : Int32)
theorem B_147_21 {X : Nat × (Nat → Int32)} {d : Nat} (n : Nat) (x1 : Int32) (x2 : Int32) (x3 : Int32) (S : St) : ex X d 147 0 [.ref 29, .int x1, .int x2, .int x3, .retAddr 0] [] (hh S) (n + 2) = ex X d 147 3 [.ref 29, .int x1, .int x2, .int x3, .int 1] [] (hh S) n := rfl
set_option maxRecDepth 200000 in
theorem T_147 {X : Nat × (Nat → Int32)} (S : St) (x1 : Int32) (x2 : Int32) (x3 : Int32) (r : Unit) (S' : St) (hG : G_147 S x1 x2 x3 = some (r, S')) : Ev X 1 147 0 [.ref 29, .int x1, .int x2, .int x3, .retAddr 0] [] (hh S) (xV r, hh S') := by
  unfold G_147 at hG
  exact Ev.b (pc' := 3) (L' := [.ref 29, .int x1, .int x2, .int x3, .int 1]) (st' := []) (h' := hh S) 2 (fun n => B_147_21 n x1 x2 x3 S) (TL_147_0 xFu S x1 x2 x3 (1 : Int32) _ _ hG )
/-- 145: SceneCycleModel.aim(II)V -/
def G_145 (S : St) (x1 : Int32) (x2 : Int32) : Option (Unit × St) :=
  (if xa_in x1 4 then
    (if (S.1 47 (x1).toNatClampNeg) = 1 then
      (if (S.1 42 (x1).toNatClampNeg) = (S.1 51 (x1).toNatClampNeg) then
        (if (S.1 43 (x1).toNatClampNeg) = (S.1 52 (x1).toNatClampNeg) then
          (match G_146 S x1 with
          | none => none
          | some (v5, S5) =>
            some ((), S5)
          )
        else
          (match G_147 S x1 (S.1 51 (x1).toNatClampNeg) (S.1 52 (x1).toNatClampNeg) with
          | none => none
          | some (v6, S6) =>
            some ((), S6)
          )
        )
      else
        (match G_147 S x1 (S.1 51 (x1).toNatClampNeg) (S.1 52 (x1).toNatClampNeg) with
        | none => none
        | some (v7, S7) =>
          some ((), S7)
        )
      )
    else
      (if (S.1 47 (x1).toNatClampNeg) = 2 then
        (if (S.1 49 ((0 : Int32)).toNatClampNeg) = 0 then
          some ((), (xa_u S.1 46 ((x1).toNatClampNeg) 0, S.2.1, S.2.2))
        else
          (if ((S.1 42 ((0 : Int32)).toNatClampNeg) - (S.1 42 (x1).toNatClampNeg)) < (-2) then
            (match G_147 S x1 (S.1 42 ((0 : Int32)).toNatClampNeg) (S.1 43 ((0 : Int32)).toNatClampNeg) with
            | none => none
            | some (v11, S11) =>
              some ((), S11)
            )
          else
            (if 2 < ((S.1 42 ((0 : Int32)).toNatClampNeg) - (S.1 42 (x1).toNatClampNeg)) then
              (match G_147 S x1 (S.1 42 ((0 : Int32)).toNatClampNeg) (S.1 43 ((0 : Int32)).toNatClampNeg) with
              | none => none
              | some (v13, S13) =>
                some ((), S13)
              )
            else
              (if ((S.1 43 ((0 : Int32)).toNatClampNeg) - (S.1 43 (x1).toNatClampNeg)) < (-1) then
                (match G_147 S x1 (S.1 42 ((0 : Int32)).toNatClampNeg) (S.1 43 ((0 : Int32)).toNatClampNeg) with
                | none => none
                | some (v15, S15) =>
                  some ((), S15)
                )
              else
                (if 1 < ((S.1 43 ((0 : Int32)).toNatClampNeg) - (S.1 43 (x1).toNatClampNeg)) then
                  (match G_147 S x1 (S.1 42 ((0 : Int32)).toNatClampNeg) (S.1 43 ((0 : Int32)).toNatClampNeg) with
                  | none => none
                  | some (v17, S17) =>
                    some ((), S17)
                  )
                else
                  (match G_146 S x1 with
                  | none => none
                  | some (v18, S18) =>
                    some ((), S18)
                  )
                )
              )
            )
          )
        )
      else
        (if (S.1 47 (x1).toNatClampNeg) = 3 then
          (if (S.1 54 (x1).toNatClampNeg) = 0 then
            some ((), (xa_u S.1 46 ((x1).toNatClampNeg) (1 + ((x2 + x1) - (x2 + x1) / 8 * 8)), S.2.1, S.2.2))
          else
            some ((), S)
          )
        else
          some ((), S)
        )
      )
    )
  else none)
theorem B_145_1 {X : Nat × (Nat → Int32)} {d : Nat} (n : Nat) (x1 : Int32) (x2 : Int32) (S : St) : ex X d 145 0 [.ref 29, .int x1, .int x2, .retAddr 0, .retAddr 0] [] (hh S) (n + 4) = if (kd 42).1 = 0 ∧ xa_in (0 : Int32) (kd 42).2 then ex X d 145 6 [.ref 29, .int x1, .int x2, .retAddr 0, .retAddr 0] [.int (S.1 42 ((0 : Int32)).toNatClampNeg)] (hh S) n else none := rfl
theorem B_145_2 {X : Nat × (Nat → Int32)} {d : Nat} (n : Nat) (x1 : Int32) (x2 : Int32) (S : St) : ex X d 145 6 [.ref 29, .int x1, .int x2, .retAddr 0, .retAddr 0] [.int (S.1 42 ((0 : Int32)).toNatClampNeg)] (hh S) (n + 4) = if (kd 42).1 = 0 ∧ xa_in x1 (kd 42).2 then ex X d 145 12 [.ref 29, .int x1, .int x2, .retAddr 0, .retAddr 0] [.int (S.1 42 (x1).toNatClampNeg), .int (S.1 42 ((0 : Int32)).toNatClampNeg)] (hh S) n else none := rfl
theorem B_145_3 {X : Nat × (Nat → Int32)} {d : Nat} (n : Nat) (x1 : Int32) (x2 : Int32) (S : St) : ex X d 145 12 [.ref 29, .int x1, .int x2, .retAddr 0, .retAddr 0] [.int (S.1 42 (x1).toNatClampNeg), .int (S.1 42 ((0 : Int32)).toNatClampNeg)] (hh S) (n + 6) = if (kd 43).1 = 0 ∧ xa_in (0 : Int32) (kd 43).2 then ex X d 145 20 [.ref 29, .int x1, .int x2, .int ((S.1 42 ((0 : Int32)).toNatClampNeg) - (S.1 42 (x1).toNatClampNeg)), .retAddr 0] [.int (S.1 43 ((0 : Int32)).toNatClampNeg)] (hh S) n else none := rfl
theorem B_145_4 {X : Nat × (Nat → Int32)} {d : Nat} (n : Nat) (x1 : Int32) (x2 : Int32) (S : St) : ex X d 145 20 [.ref 29, .int x1, .int x2, .int ((S.1 42 ((0 : Int32)).toNatClampNeg) - (S.1 42 (x1).toNatClampNeg)), .retAddr 0] [.int (S.1 43 ((0 : Int32)).toNatClampNeg)] (hh S) (n + 4) = if (kd 43).1 = 0 ∧ xa_in x1 (kd 43).2 then ex X d 145 26 [.ref 29, .int x1, .int x2, .int ((S.1 42 ((0 : Int32)).toNatClampNeg) - (S.1 42 (x1).toNatClampNeg)), .retAddr 0] [.int (S.1 43 (x1).toNatClampNeg), .int (S.1 43 ((0 : Int32)).toNatClampNeg)] (hh S) n else none := rfl
theorem B_145_5 {X : Nat × (Nat → Int32)} {d : Nat} (n : Nat) (x1 : Int32) (x2 : Int32) (S : St) : ex X d 145 26 [.ref 29, .int x1, .int x2, .int ((S.1 42 ((0 : Int32)).toNatClampNeg) - (S.1 42 (x1).toNatClampNeg)), .retAddr 0] [.int (S.1 43 (x1).toNatClampNeg), .int (S.1 43 ((0 : Int32)).toNatClampNeg)] (hh S) (n + 6) = if (kd 47).1 = 0 ∧ xa_in x1 (kd 47).2 then ex X d 145 35 [.ref 29, .int x1, .int x2, .int ((S.1 42 ((0 : Int32)).toNatClampNeg) - (S.1 42 (x1).toNatClampNeg)), .int ((S.1 43 ((0 : Int32)).toNatClampNeg) - (S.1 43 (x1).toNatClampNeg))] [.int (S.1 47 (x1).toNatClampNeg)] (hh S) n else none := rfl
theorem B_145_6 {X : Nat × (Nat → Int32)} {d : Nat} (n : Nat) (x1 : Int32) (x2 : Int32) (S : St) : ex X d 145 35 [.ref 29, .int x1, .int x2, .int ((S.1 42 ((0 : Int32)).toNatClampNeg) - (S.1 42 (x1).toNatClampNeg)), .int ((S.1 43 ((0 : Int32)).toNatClampNeg) - (S.1 43 (x1).toNatClampNeg))] [.int (S.1 47 (x1).toNatClampNeg)] (hh S) (n + 2) = if (S.1 47 (x1).toNatClampNeg) = 1 then ex X d 145 39 [.ref 29, .int x1, .int x2, .int ((S.1 42 ((0 : Int32)).toNatClampNeg) - (S.1 42 (x1).toNatClampNeg)), .int ((S.1 43 ((0 : Int32)).toNatClampNeg) - (S.1 43 (x1).toNatClampNeg))] [] (hh S) n else ex X d 145 97 [.ref 29, .int x1, .int x2, .int ((S.1 42 ((0 : Int32)).toNatClampNeg) - (S.1 42 (x1).toNatClampNeg)), .int ((S.1 43 ((0 : Int32)).toNatClampNeg) - (S.1 43 (x1).toNatClampNeg))] [] (hh S) n := rfl
theorem B_145_7 {X : Nat × (Nat → Int32)} {d : Nat} (n : Nat) (x1 : Int32) (x2 : Int32) (S : St) : ex X d 145 39 [.ref 29, .int x1, .int x2, .int ((S.1 42 ((0 : Int32)).toNatClampNeg) - (S.1 42 (x1).toNatClampNeg)), .int ((S.1 43 ((0 : Int32)).toNatClampNeg) - (S.1 43 (x1).toNatClampNeg))] [] (hh S) (n + 4) = if (kd 42).1 = 0 ∧ xa_in x1 (kd 42).2 then ex X d 145 45 [.ref 29, .int x1, .int x2, .int ((S.1 42 ((0 : Int32)).toNatClampNeg) - (S.1 42 (x1).toNatClampNeg)), .int ((S.1 43 ((0 : Int32)).toNatClampNeg) - (S.1 43 (x1).toNatClampNeg))] [.int (S.1 42 (x1).toNatClampNeg)] (hh S) n else none := rfl
theorem B_145_8 {X : Nat × (Nat → Int32)} {d : Nat} (n : Nat) (x1 : Int32) (x2 : Int32) (S : St) : ex X d 145 45 [.ref 29, .int x1, .int x2, .int ((S.1 42 ((0 : Int32)).toNatClampNeg) - (S.1 42 (x1).toNatClampNeg)), .int ((S.1 43 ((0 : Int32)).toNatClampNeg) - (S.1 43 (x1).toNatClampNeg))] [.int (S.1 42 (x1).toNatClampNeg)] (hh S) (n + 4) = if (kd 51).1 = 0 ∧ xa_in x1 (kd 51).2 then ex X d 145 51 [.ref 29, .int x1, .int x2, .int ((S.1 42 ((0 : Int32)).toNatClampNeg) - (S.1 42 (x1).toNatClampNeg)), .int ((S.1 43 ((0 : Int32)).toNatClampNeg) - (S.1 43 (x1).toNatClampNeg))] [.int (S.1 51 (x1).toNatClampNeg), .int (S.1 42 (x1).toNatClampNeg)] (hh S) n else none := rfl
theorem B_145_9 {X : Nat × (Nat → Int32)} {d : Nat} (n : Nat) (x1 : Int32) (x2 : Int32) (S : St) : ex X d 145 51 [.ref 29, .int x1, .int x2, .int ((S.1 42 ((0 : Int32)).toNatClampNeg) - (S.1 42 (x1).toNatClampNeg)), .int ((S.1 43 ((0 : Int32)).toNatClampNeg) - (S.1 43 (x1).toNatClampNeg))] [.int (S.1 51 (x1).toNatClampNeg), .int (S.1 42 (x1).toNatClampNeg)] (hh S) (n + 1) = if (S.1 42 (x1).toNatClampNeg) = (S.1 51 (x1).toNatClampNeg) then ex X d 145 54 [.ref 29, .int x1, .int x2, .int ((S.1 42 ((0 : Int32)).toNatClampNeg) - (S.1 42 (x1).toNatClampNeg)), .int ((S.1 43 ((0 : Int32)).toNatClampNeg) - (S.1 43 (x1).toNatClampNeg))] [] (hh S) n else ex X d 145 77 [.ref 29, .int x1, .int x2, .int ((S.1 42 ((0 : Int32)).toNatClampNeg) - (S.1 42 (x1).toNatClampNeg)), .int ((S.1 43 ((0 : Int32)).toNatClampNeg) - (S.1 43 (x1).toNatClampNeg))] [] (hh S) n := rfl
theorem B_145_10 {X : Nat × (Nat → Int32)} {d : Nat} (n : Nat) (x1 : Int32) (x2 : Int32) (S : St) : ex X d 145 54 [.ref 29, .int x1, .int x2, .int ((S.1 42 ((0 : Int32)).toNatClampNeg) - (S.1 42 (x1).toNatClampNeg)), .int ((S.1 43 ((0 : Int32)).toNatClampNeg) - (S.1 43 (x1).toNatClampNeg))] [] (hh S) (n + 4) = if (kd 43).1 = 0 ∧ xa_in x1 (kd 43).2 then ex X d 145 60 [.ref 29, .int x1, .int x2, .int ((S.1 42 ((0 : Int32)).toNatClampNeg) - (S.1 42 (x1).toNatClampNeg)), .int ((S.1 43 ((0 : Int32)).toNatClampNeg) - (S.1 43 (x1).toNatClampNeg))] [.int (S.1 43 (x1).toNatClampNeg)] (hh S) n else none := rfl
theorem B_145_11 {X : Nat × (Nat → Int32)} {d : Nat} (n : Nat) (x1 : Int32) (x2 : Int32) (S : St) : ex X d 145 60 [.ref 29, .int x1, .int x2, .int ((S.1 42 ((0 : Int32)).toNatClampNeg) - (S.1 42 (x1).toNatClampNeg)), .int ((S.1 43 ((0 : Int32)).toNatClampNeg) - (S.1 43 (x1).toNatClampNeg))] [.int (S.1 43 (x1).toNatClampNeg)] (hh S) (n + 4) = if (kd 52).1 = 0 ∧ xa_in x1 (kd 52).2 then ex X d 145 66 [.ref 29, .int x1, .int x2, .int ((S.1 42 ((0 : Int32)).toNatClampNeg) - (S.1 42 (x1).toNatClampNeg)), .int ((S.1 43 ((0 : Int32)).toNatClampNeg) - (S.1 43 (x1).toNatClampNeg))] [.int (S.1 52 (x1).toNatClampNeg), .int (S.1 43 (x1).toNatClampNeg)] (hh S) n else none := rfl
theorem B_145_12 {X : Nat × (Nat → Int32)} {d : Nat} (n : Nat) (x1 : Int32) (x2 : Int32) (S : St) : ex X d 145 66 [.ref 29, .int x1, .int x2, .int ((S.1 42 ((0 : Int32)).toNatClampNeg) - (S.1 42 (x1).toNatClampNeg)), .int ((S.1 43 ((0 : Int32)).toNatClampNeg) - (S.1 43 (x1).toNatClampNeg))] [.int (S.1 52 (x1).toNatClampNeg), .int (S.1 43 (x1).toNatClampNeg)] (hh S) (n + 1) = if (S.1 43 (x1).toNatClampNeg) = (S.1 52 (x1).toNatClampNeg) then ex X d 145 69 [.ref 29, .int x1, .int x2, .int ((S.1 42 ((0 : Int32)).toNatClampNeg) - (S.1 42 (x1).toNatClampNeg)), .int ((S.1 43 ((0 : Int32)).toNatClampNeg) - (S.1 43 (x1).toNatClampNeg))] [] (hh S) n else ex X d 145 77 [.ref 29, .int x1, .int x2, .int ((S.1 42 ((0 : Int32)).toNatClampNeg) - (S.1 42 (x1).toNatClampNeg)), .int ((S.1 43 ((0 : Int32)).toNatClampNeg) - (S.1 43 (x1).toNatClampNeg))] [] (hh S) n := rfl
theorem B_145_13 {X : Nat × (Nat → Int32)} {d : Nat} (n : Nat) (x1 : Int32) (x2 : Int32) (S : St) : ex X (d + 1) 145 69 [.ref 29, .int x1, .int x2, .int ((S.1 42 ((0 : Int32)).toNatClampNeg) - (S.1 42 (x1).toNatClampNeg)), .int ((S.1 43 ((0 : Int32)).toNatClampNeg) - (S.1 43 (x1).toNatClampNeg))] [] (hh S) (n + 3) = (match ex X d 146 0 [.ref 29, .int x1] [] (hh S) n with | some (v, h') => ex X (d + 1) 145 74 [.ref 29, .int x1, .int x2, .int ((S.1 42 ((0 : Int32)).toNatClampNeg) - (S.1 42 (x1).toNatClampNeg)), .int ((S.1 43 ((0 : Int32)).toNatClampNeg) - (S.1 43 (x1).toNatClampNeg))] (v.toList ++ []) h' n | none => none) := rfl
theorem B_145_14 {X : Nat × (Nat → Int32)} {d : Nat} (n : Nat) (x1 : Int32) (x2 : Int32) (S : St) : ex X d 145 66 [.ref 29, .int x1, .int x2, .int ((S.1 42 ((0 : Int32)).toNatClampNeg) - (S.1 42 (x1).toNatClampNeg)), .int ((S.1 43 ((0 : Int32)).toNatClampNeg) - (S.1 43 (x1).toNatClampNeg))] [.int (S.1 52 (x1).toNatClampNeg), .int (S.1 43 (x1).toNatClampNeg)] (hh S) (n + 1) = if (S.1 43 (x1).toNatClampNeg) = (S.1 52 (x1).toNatClampNeg) then ex X d 145 69 [.ref 29, .int x1, .int x2, .int ((S.1 42 ((0 : Int32)).toNatClampNeg) - (S.1 42 (x1).toNatClampNeg)), .int ((S.1 43 ((0 : Int32)).toNatClampNeg) - (S.1 43 (x1).toNatClampNeg))] [] (hh S) n else ex X d 145 77 [.ref 29, .int x1, .int x2, .int ((S.1 42 ((0 : Int32)).toNatClampNeg) - (S.1 42 (x1).toNatClampNeg)), .int ((S.1 43 ((0 : Int32)).toNatClampNeg) - (S.1 43 (x1).toNatClampNeg))] [] (hh S) n := rfl
theorem B_145_15 {X : Nat × (Nat → Int32)} {d : Nat} (n : Nat) (x1 : Int32) (x2 : Int32) (S : St) : ex X d 145 77 [.ref 29, .int x1, .int x2, .int ((S.1 42 ((0 : Int32)).toNatClampNeg) - (S.1 42 (x1).toNatClampNeg)), .int ((S.1 43 ((0 : Int32)).toNatClampNeg) - (S.1 43 (x1).toNatClampNeg))] [] (hh S) (n + 6) = if (kd 51).1 = 0 ∧ xa_in x1 (kd 51).2 then ex X d 145 85 [.ref 29, .int x1, .int x2, .int ((S.1 42 ((0 : Int32)).toNatClampNeg) - (S.1 42 (x1).toNatClampNeg)), .int ((S.1 43 ((0 : Int32)).toNatClampNeg) - (S.1 43 (x1).toNatClampNeg))] [.int (S.1 51 (x1).toNatClampNeg), .int x1, .ref 29] (hh S) n else none := rfl
theorem B_145_16 {X : Nat × (Nat → Int32)} {d : Nat} (n : Nat) (x1 : Int32) (x2 : Int32) (S : St) : ex X d 145 85 [.ref 29, .int x1, .int x2, .int ((S.1 42 ((0 : Int32)).toNatClampNeg) - (S.1 42 (x1).toNatClampNeg)), .int ((S.1 43 ((0 : Int32)).toNatClampNeg) - (S.1 43 (x1).toNatClampNeg))] [.int (S.1 51 (x1).toNatClampNeg), .int x1, .ref 29] (hh S) (n + 4) = if (kd 52).1 = 0 ∧ xa_in x1 (kd 52).2 then ex X d 145 91 [.ref 29, .int x1, .int x2, .int ((S.1 42 ((0 : Int32)).toNatClampNeg) - (S.1 42 (x1).toNatClampNeg)), .int ((S.1 43 ((0 : Int32)).toNatClampNeg) - (S.1 43 (x1).toNatClampNeg))] [.int (S.1 52 (x1).toNatClampNeg), .int (S.1 51 (x1).toNatClampNeg), .int x1, .ref 29] (hh S) n else none := rfl
theorem B_145_17 {X : Nat × (Nat → Int32)} {d : Nat} (n : Nat) (x1 : Int32) (x2 : Int32) (S : St) : ex X (d + 1) 145 91 [.ref 29, .int x1, .int x2, .int ((S.1 42 ((0 : Int32)).toNatClampNeg) - (S.1 42 (x1).toNatClampNeg)), .int ((S.1 43 ((0 : Int32)).toNatClampNeg) - (S.1 43 (x1).toNatClampNeg))] [.int (S.1 52 (x1).toNatClampNeg), .int (S.1 51 (x1).toNatClampNeg), .int x1, .ref 29] (hh S) (n + 1) = (match ex X d 147 0 [.ref 29, .int x1, .int (S.1 51 (x1).toNatClampNeg), .int (S.1 52 (x1).toNatClampNeg), .retAddr 0] [] (hh S) n with | some (v, h') => ex X (d + 1) 145 94 [.ref 29, .int x1, .int x2, .int ((S.1 42 ((0 : Int32)).toNatClampNeg) - (S.1 42 (x1).toNatClampNeg)), .int ((S.1 43 ((0 : Int32)).toNatClampNeg) - (S.1 43 (x1).toNatClampNeg))] (v.toList ++ []) h' n | none => none) := rfl
theorem B_145_18 {X : Nat × (Nat → Int32)} {d : Nat} (n : Nat) (x1 : Int32) (x2 : Int32) (S : St) : ex X d 145 51 [.ref 29, .int x1, .int x2, .int ((S.1 42 ((0 : Int32)).toNatClampNeg) - (S.1 42 (x1).toNatClampNeg)), .int ((S.1 43 ((0 : Int32)).toNatClampNeg) - (S.1 43 (x1).toNatClampNeg))] [.int (S.1 51 (x1).toNatClampNeg), .int (S.1 42 (x1).toNatClampNeg)] (hh S) (n + 1) = if (S.1 42 (x1).toNatClampNeg) = (S.1 51 (x1).toNatClampNeg) then ex X d 145 54 [.ref 29, .int x1, .int x2, .int ((S.1 42 ((0 : Int32)).toNatClampNeg) - (S.1 42 (x1).toNatClampNeg)), .int ((S.1 43 ((0 : Int32)).toNatClampNeg) - (S.1 43 (x1).toNatClampNeg))] [] (hh S) n else ex X d 145 77 [.ref 29, .int x1, .int x2, .int ((S.1 42 ((0 : Int32)).toNatClampNeg) - (S.1 42 (x1).toNatClampNeg)), .int ((S.1 43 ((0 : Int32)).toNatClampNeg) - (S.1 43 (x1).toNatClampNeg))] [] (hh S) n := rfl
theorem B_145_19 {X : Nat × (Nat → Int32)} {d : Nat} (n : Nat) (x1 : Int32) (x2 : Int32) (S : St) : ex X d 145 77 [.ref 29, .int x1, .int x2, .int ((S.1 42 ((0 : Int32)).toNatClampNeg) - (S.1 42 (x1).toNatClampNeg)), .int ((S.1 43 ((0 : Int32)).toNatClampNeg) - (S.1 43 (x1).toNatClampNeg))] [] (hh S) (n + 6) = if (kd 51).1 = 0 ∧ xa_in x1 (kd 51).2 then ex X d 145 85 [.ref 29, .int x1, .int x2, .int ((S.1 42 ((0 : Int32)).toNatClampNeg) - (S.1 42 (x1).toNatClampNeg)), .int ((S.1 43 ((0 : Int32)).toNatClampNeg) - (S.1 43 (x1).toNatClampNeg))] [.int (S.1 51 (x1).toNatClampNeg), .int x1, .ref 29] (hh S) n else none := rfl
theorem B_145_20 {X : Nat × (Nat → Int32)} {d : Nat} (n : Nat) (x1 : Int32) (x2 : Int32) (S : St) : ex X d 145 85 [.ref 29, .int x1, .int x2, .int ((S.1 42 ((0 : Int32)).toNatClampNeg) - (S.1 42 (x1).toNatClampNeg)), .int ((S.1 43 ((0 : Int32)).toNatClampNeg) - (S.1 43 (x1).toNatClampNeg))] [.int (S.1 51 (x1).toNatClampNeg), .int x1, .ref 29] (hh S) (n + 4) = if (kd 52).1 = 0 ∧ xa_in x1 (kd 52).2 then ex X d 145 91 [.ref 29, .int x1, .int x2, .int ((S.1 42 ((0 : Int32)).toNatClampNeg) - (S.1 42 (x1).toNatClampNeg)), .int ((S.1 43 ((0 : Int32)).toNatClampNeg) - (S.1 43 (x1).toNatClampNeg))] [.int (S.1 52 (x1).toNatClampNeg), .int (S.1 51 (x1).toNatClampNeg), .int x1, .ref 29] (hh S) n else none := rfl
theorem B_145_21 {X : Nat × (Nat → Int32)} {d : Nat} (n : Nat) (x1 : Int32) (x2 : Int32) (S : St) : ex X (d + 1) 145 91 [.ref 29, .int x1, .int x2, .int ((S.1 42 ((0 : Int32)).toNatClampNeg) - (S.1 42 (x1).toNatClampNeg)), .int ((S.1 43 ((0 : Int32)).toNatClampNeg) - (S.1 43 (x1).toNatClampNeg))] [.int (S.1 52 (x1).toNatClampNeg), .int (S.1 51 (x1).toNatClampNeg), .int x1, .ref 29] (hh S) (n + 1) = (match ex X d 147 0 [.ref 29, .int x1, .int (S.1 51 (x1).toNatClampNeg), .int (S.1 52 (x1).toNatClampNeg), .retAddr 0] [] (hh S) n with | some (v, h') => ex X (d + 1) 145 94 [.ref 29, .int x1, .int x2, .int ((S.1 42 ((0 : Int32)).toNatClampNeg) - (S.1 42 (x1).toNatClampNeg)), .int ((S.1 43 ((0 : Int32)).toNatClampNeg) - (S.1 43 (x1).toNatClampNeg))] (v.toList ++ []) h' n | none => none) := rfl
theorem B_145_22 {X : Nat × (Nat → Int32)} {d : Nat} (n : Nat) (x1 : Int32) (x2 : Int32) (S : St) : ex X d 145 35 [.ref 29, .int x1, .int x2, .int ((S.1 42 ((0 : Int32)).toNatClampNeg) - (S.1 42 (x1).toNatClampNeg)), .int ((S.1 43 ((0 : Int32)).toNatClampNeg) - (S.1 43 (x1).toNatClampNeg))] [.int (S.1 47 (x1).toNatClampNeg)] (hh S) (n + 2) = if (S.1 47 (x1).toNatClampNeg) = 1 then ex X d 145 39 [.ref 29, .int x1, .int x2, .int ((S.1 42 ((0 : Int32)).toNatClampNeg) - (S.1 42 (x1).toNatClampNeg)), .int ((S.1 43 ((0 : Int32)).toNatClampNeg) - (S.1 43 (x1).toNatClampNeg))] [] (hh S) n else ex X d 145 97 [.ref 29, .int x1, .int x2, .int ((S.1 42 ((0 : Int32)).toNatClampNeg) - (S.1 42 (x1).toNatClampNeg)), .int ((S.1 43 ((0 : Int32)).toNatClampNeg) - (S.1 43 (x1).toNatClampNeg))] [] (hh S) n := rfl
theorem B_145_23 {X : Nat × (Nat → Int32)} {d : Nat} (n : Nat) (x1 : Int32) (x2 : Int32) (S : St) : ex X d 145 97 [.ref 29, .int x1, .int x2, .int ((S.1 42 ((0 : Int32)).toNatClampNeg) - (S.1 42 (x1).toNatClampNeg)), .int ((S.1 43 ((0 : Int32)).toNatClampNeg) - (S.1 43 (x1).toNatClampNeg))] [] (hh S) (n + 4) = if (kd 47).1 = 0 ∧ xa_in x1 (kd 47).2 then ex X d 145 103 [.ref 29, .int x1, .int x2, .int ((S.1 42 ((0 : Int32)).toNatClampNeg) - (S.1 42 (x1).toNatClampNeg)), .int ((S.1 43 ((0 : Int32)).toNatClampNeg) - (S.1 43 (x1).toNatClampNeg))] [.int (S.1 47 (x1).toNatClampNeg)] (hh S) n else none := rfl
theorem B_145_24 {X : Nat × (Nat → Int32)} {d : Nat} (n : Nat) (x1 : Int32) (x2 : Int32) (S : St) : ex X d 145 103 [.ref 29, .int x1, .int x2, .int ((S.1 42 ((0 : Int32)).toNatClampNeg) - (S.1 42 (x1).toNatClampNeg)), .int ((S.1 43 ((0 : Int32)).toNatClampNeg) - (S.1 43 (x1).toNatClampNeg))] [.int (S.1 47 (x1).toNatClampNeg)] (hh S) (n + 2) = if (S.1 47 (x1).toNatClampNeg) = 2 then ex X d 145 107 [.ref 29, .int x1, .int x2, .int ((S.1 42 ((0 : Int32)).toNatClampNeg) - (S.1 42 (x1).toNatClampNeg)), .int ((S.1 43 ((0 : Int32)).toNatClampNeg) - (S.1 43 (x1).toNatClampNeg))] [] (hh S) n else ex X d 145 177 [.ref 29, .int x1, .int x2, .int ((S.1 42 ((0 : Int32)).toNatClampNeg) - (S.1 42 (x1).toNatClampNeg)), .int ((S.1 43 ((0 : Int32)).toNatClampNeg) - (S.1 43 (x1).toNatClampNeg))] [] (hh S) n := rfl
theorem B_145_25 {X : Nat × (Nat → Int32)} {d : Nat} (n : Nat) (x1 : Int32) (x2 : Int32) (S : St) : ex X d 145 107 [.ref 29, .int x1, .int x2, .int ((S.1 42 ((0 : Int32)).toNatClampNeg) - (S.1 42 (x1).toNatClampNeg)), .int ((S.1 43 ((0 : Int32)).toNatClampNeg) - (S.1 43 (x1).toNatClampNeg))] [] (hh S) (n + 4) = if (kd 49).1 = 1 ∧ xa_in (0 : Int32) (kd 49).2 then ex X d 145 113 [.ref 29, .int x1, .int x2, .int ((S.1 42 ((0 : Int32)).toNatClampNeg) - (S.1 42 (x1).toNatClampNeg)), .int ((S.1 43 ((0 : Int32)).toNatClampNeg) - (S.1 43 (x1).toNatClampNeg))] [.int (S.1 49 ((0 : Int32)).toNatClampNeg)] (hh S) n else none := rfl
theorem B_145_26 {X : Nat × (Nat → Int32)} {d : Nat} (n : Nat) (x1 : Int32) (x2 : Int32) (S : St) : ex X d 145 113 [.ref 29, .int x1, .int x2, .int ((S.1 42 ((0 : Int32)).toNatClampNeg) - (S.1 42 (x1).toNatClampNeg)), .int ((S.1 43 ((0 : Int32)).toNatClampNeg) - (S.1 43 (x1).toNatClampNeg))] [.int (S.1 49 ((0 : Int32)).toNatClampNeg)] (hh S) (n + 1) = if (S.1 49 ((0 : Int32)).toNatClampNeg) = 0 then ex X d 145 116 [.ref 29, .int x1, .int x2, .int ((S.1 42 ((0 : Int32)).toNatClampNeg) - (S.1 42 (x1).toNatClampNeg)), .int ((S.1 43 ((0 : Int32)).toNatClampNeg) - (S.1 43 (x1).toNatClampNeg))] [] (hh S) n else ex X d 145 126 [.ref 29, .int x1, .int x2, .int ((S.1 42 ((0 : Int32)).toNatClampNeg) - (S.1 42 (x1).toNatClampNeg)), .int ((S.1 43 ((0 : Int32)).toNatClampNeg) - (S.1 43 (x1).toNatClampNeg))] [] (hh S) n := rfl
theorem B_145_27 {X : Nat × (Nat → Int32)} {d : Nat} (n : Nat) (x1 : Int32) (x2 : Int32) (S : St) : ex X d 145 116 [.ref 29, .int x1, .int x2, .int ((S.1 42 ((0 : Int32)).toNatClampNeg) - (S.1 42 (x1).toNatClampNeg)), .int ((S.1 43 ((0 : Int32)).toNatClampNeg) - (S.1 43 (x1).toNatClampNeg))] [] (hh S) (n + 5) = if (kd 46).1 = 0 ∧ xa_in x1 (kd 46).2 then ex X d 145 123 [.ref 29, .int x1, .int x2, .int ((S.1 42 ((0 : Int32)).toNatClampNeg) - (S.1 42 (x1).toNatClampNeg)), .int ((S.1 43 ((0 : Int32)).toNatClampNeg) - (S.1 43 (x1).toNatClampNeg))] [] (hh (xa_u S.1 46 ((x1).toNatClampNeg) 0, S.2.1, S.2.2)) n else none := rfl
theorem B_145_28 {X : Nat × (Nat → Int32)} {d : Nat} (n : Nat) (x1 : Int32) (x2 : Int32) (S : St) : ex X d 145 113 [.ref 29, .int x1, .int x2, .int ((S.1 42 ((0 : Int32)).toNatClampNeg) - (S.1 42 (x1).toNatClampNeg)), .int ((S.1 43 ((0 : Int32)).toNatClampNeg) - (S.1 43 (x1).toNatClampNeg))] [.int (S.1 49 ((0 : Int32)).toNatClampNeg)] (hh S) (n + 1) = if (S.1 49 ((0 : Int32)).toNatClampNeg) = 0 then ex X d 145 116 [.ref 29, .int x1, .int x2, .int ((S.1 42 ((0 : Int32)).toNatClampNeg) - (S.1 42 (x1).toNatClampNeg)), .int ((S.1 43 ((0 : Int32)).toNatClampNeg) - (S.1 43 (x1).toNatClampNeg))] [] (hh S) n else ex X d 145 126 [.ref 29, .int x1, .int x2, .int ((S.1 42 ((0 : Int32)).toNatClampNeg) - (S.1 42 (x1).toNatClampNeg)), .int ((S.1 43 ((0 : Int32)).toNatClampNeg) - (S.1 43 (x1).toNatClampNeg))] [] (hh S) n := rfl
theorem B_145_29 {X : Nat × (Nat → Int32)} {d : Nat} (n : Nat) (x1 : Int32) (x2 : Int32) (S : St) : ex X d 145 126 [.ref 29, .int x1, .int x2, .int ((S.1 42 ((0 : Int32)).toNatClampNeg) - (S.1 42 (x1).toNatClampNeg)), .int ((S.1 43 ((0 : Int32)).toNatClampNeg) - (S.1 43 (x1).toNatClampNeg))] [] (hh S) (n + 3) = if ((S.1 42 ((0 : Int32)).toNatClampNeg) - (S.1 42 (x1).toNatClampNeg)) < (-2) then ex X d 145 157 [.ref 29, .int x1, .int x2, .int ((S.1 42 ((0 : Int32)).toNatClampNeg) - (S.1 42 (x1).toNatClampNeg)), .int ((S.1 43 ((0 : Int32)).toNatClampNeg) - (S.1 43 (x1).toNatClampNeg))] [] (hh S) n else ex X d 145 132 [.ref 29, .int x1, .int x2, .int ((S.1 42 ((0 : Int32)).toNatClampNeg) - (S.1 42 (x1).toNatClampNeg)), .int ((S.1 43 ((0 : Int32)).toNatClampNeg) - (S.1 43 (x1).toNatClampNeg))] [] (hh S) n := rfl
theorem B_145_30 {X : Nat × (Nat → Int32)} {d : Nat} (n : Nat) (x1 : Int32) (x2 : Int32) (S : St) : ex X d 145 157 [.ref 29, .int x1, .int x2, .int ((S.1 42 ((0 : Int32)).toNatClampNeg) - (S.1 42 (x1).toNatClampNeg)), .int ((S.1 43 ((0 : Int32)).toNatClampNeg) - (S.1 43 (x1).toNatClampNeg))] [] (hh S) (n + 6) = if (kd 42).1 = 0 ∧ xa_in (0 : Int32) (kd 42).2 then ex X d 145 165 [.ref 29, .int x1, .int x2, .int ((S.1 42 ((0 : Int32)).toNatClampNeg) - (S.1 42 (x1).toNatClampNeg)), .int ((S.1 43 ((0 : Int32)).toNatClampNeg) - (S.1 43 (x1).toNatClampNeg))] [.int (S.1 42 ((0 : Int32)).toNatClampNeg), .int x1, .ref 29] (hh S) n else none := rfl
theorem B_145_31 {X : Nat × (Nat → Int32)} {d : Nat} (n : Nat) (x1 : Int32) (x2 : Int32) (S : St) : ex X d 145 165 [.ref 29, .int x1, .int x2, .int ((S.1 42 ((0 : Int32)).toNatClampNeg) - (S.1 42 (x1).toNatClampNeg)), .int ((S.1 43 ((0 : Int32)).toNatClampNeg) - (S.1 43 (x1).toNatClampNeg))] [.int (S.1 42 ((0 : Int32)).toNatClampNeg), .int x1, .ref 29] (hh S) (n + 4) = if (kd 43).1 = 0 ∧ xa_in (0 : Int32) (kd 43).2 then ex X d 145 171 [.ref 29, .int x1, .int x2, .int ((S.1 42 ((0 : Int32)).toNatClampNeg) - (S.1 42 (x1).toNatClampNeg)), .int ((S.1 43 ((0 : Int32)).toNatClampNeg) - (S.1 43 (x1).toNatClampNeg))] [.int (S.1 43 ((0 : Int32)).toNatClampNeg), .int (S.1 42 ((0 : Int32)).toNatClampNeg), .int x1, .ref 29] (hh S) n else none := rfl
theorem B_145_32 {X : Nat × (Nat → Int32)} {d : Nat} (n : Nat) (x1 : Int32) (x2 : Int32) (S : St) : ex X (d + 1) 145 171 [.ref 29, .int x1, .int x2, .int ((S.1 42 ((0 : Int32)).toNatClampNeg) - (S.1 42 (x1).toNatClampNeg)), .int ((S.1 43 ((0 : Int32)).toNatClampNeg) - (S.1 43 (x1).toNatClampNeg))] [.int (S.1 43 ((0 : Int32)).toNatClampNeg), .int (S.1 42 ((0 : Int32)).toNatClampNeg), .int x1, .ref 29] (hh S) (n + 1) = (match ex X d 147 0 [.ref 29, .int x1, .int (S.1 42 ((0 : Int32)).toNatClampNeg), .int (S.1 43 ((0 : Int32)).toNatClampNeg), .retAddr 0] [] (hh S) n with | some (v, h') => ex X (d + 1) 145 174 [.ref 29, .int x1, .int x2, .int ((S.1 42 ((0 : Int32)).toNatClampNeg) - (S.1 42 (x1).toNatClampNeg)), .int ((S.1 43 ((0 : Int32)).toNatClampNeg) - (S.1 43 (x1).toNatClampNeg))] (v.toList ++ []) h' n | none => none) := rfl
theorem B_145_33 {X : Nat × (Nat → Int32)} {d : Nat} (n : Nat) (x1 : Int32) (x2 : Int32) (S : St) : ex X d 145 126 [.ref 29, .int x1, .int x2, .int ((S.1 42 ((0 : Int32)).toNatClampNeg) - (S.1 42 (x1).toNatClampNeg)), .int ((S.1 43 ((0 : Int32)).toNatClampNeg) - (S.1 43 (x1).toNatClampNeg))] [] (hh S) (n + 3) = if ((S.1 42 ((0 : Int32)).toNatClampNeg) - (S.1 42 (x1).toNatClampNeg)) < (-2) then ex X d 145 157 [.ref 29, .int x1, .int x2, .int ((S.1 42 ((0 : Int32)).toNatClampNeg) - (S.1 42 (x1).toNatClampNeg)), .int ((S.1 43 ((0 : Int32)).toNatClampNeg) - (S.1 43 (x1).toNatClampNeg))] [] (hh S) n else ex X d 145 132 [.ref 29, .int x1, .int x2, .int ((S.1 42 ((0 : Int32)).toNatClampNeg) - (S.1 42 (x1).toNatClampNeg)), .int ((S.1 43 ((0 : Int32)).toNatClampNeg) - (S.1 43 (x1).toNatClampNeg))] [] (hh S) n := rfl
theorem B_145_34 {X : Nat × (Nat → Int32)} {d : Nat} (n : Nat) (x1 : Int32) (x2 : Int32) (S : St) : ex X d 145 132 [.ref 29, .int x1, .int x2, .int ((S.1 42 ((0 : Int32)).toNatClampNeg) - (S.1 42 (x1).toNatClampNeg)), .int ((S.1 43 ((0 : Int32)).toNatClampNeg) - (S.1 43 (x1).toNatClampNeg))] [] (hh S) (n + 3) = if 2 < ((S.1 42 ((0 : Int32)).toNatClampNeg) - (S.1 42 (x1).toNatClampNeg)) then ex X d 145 157 [.ref 29, .int x1, .int x2, .int ((S.1 42 ((0 : Int32)).toNatClampNeg) - (S.1 42 (x1).toNatClampNeg)), .int ((S.1 43 ((0 : Int32)).toNatClampNeg) - (S.1 43 (x1).toNatClampNeg))] [] (hh S) n else ex X d 145 137 [.ref 29, .int x1, .int x2, .int ((S.1 42 ((0 : Int32)).toNatClampNeg) - (S.1 42 (x1).toNatClampNeg)), .int ((S.1 43 ((0 : Int32)).toNatClampNeg) - (S.1 43 (x1).toNatClampNeg))] [] (hh S) n := rfl
theorem B_145_35 {X : Nat × (Nat → Int32)} {d : Nat} (n : Nat) (x1 : Int32) (x2 : Int32) (S : St) : ex X d 145 157 [.ref 29, .int x1, .int x2, .int ((S.1 42 ((0 : Int32)).toNatClampNeg) - (S.1 42 (x1).toNatClampNeg)), .int ((S.1 43 ((0 : Int32)).toNatClampNeg) - (S.1 43 (x1).toNatClampNeg))] [] (hh S) (n + 6) = if (kd 42).1 = 0 ∧ xa_in (0 : Int32) (kd 42).2 then ex X d 145 165 [.ref 29, .int x1, .int x2, .int ((S.1 42 ((0 : Int32)).toNatClampNeg) - (S.1 42 (x1).toNatClampNeg)), .int ((S.1 43 ((0 : Int32)).toNatClampNeg) - (S.1 43 (x1).toNatClampNeg))] [.int (S.1 42 ((0 : Int32)).toNatClampNeg), .int x1, .ref 29] (hh S) n else none := rfl
theorem B_145_36 {X : Nat × (Nat → Int32)} {d : Nat} (n : Nat) (x1 : Int32) (x2 : Int32) (S : St) : ex X d 145 165 [.ref 29, .int x1, .int x2, .int ((S.1 42 ((0 : Int32)).toNatClampNeg) - (S.1 42 (x1).toNatClampNeg)), .int ((S.1 43 ((0 : Int32)).toNatClampNeg) - (S.1 43 (x1).toNatClampNeg))] [.int (S.1 42 ((0 : Int32)).toNatClampNeg), .int x1, .ref 29] (hh S) (n + 4) = if (kd 43).1 = 0 ∧ xa_in (0 : Int32) (kd 43).2 then ex X d 145 171 [.ref 29, .int x1, .int x2, .int ((S.1 42 ((0 : Int32)).toNatClampNeg) - (S.1 42 (x1).toNatClampNeg)), .int ((S.1 43 ((0 : Int32)).toNatClampNeg) - (S.1 43 (x1).toNatClampNeg))] [.int (S.1 43 ((0 : Int32)).toNatClampNeg), .int (S.1 42 ((0 : Int32)).toNatClampNeg), .int x1, .ref 29] (hh S) n else none := rfl
theorem B_145_37 {X : Nat × (Nat → Int32)} {d : Nat} (n : Nat) (x1 : Int32) (x2 : Int32) (S : St) : ex X (d + 1) 145 171 [.ref 29, .int x1, .int x2, .int ((S.1 42 ((0 : Int32)).toNatClampNeg) - (S.1 42 (x1).toNatClampNeg)), .int ((S.1 43 ((0 : Int32)).toNatClampNeg) - (S.1 43 (x1).toNatClampNeg))] [.int (S.1 43 ((0 : Int32)).toNatClampNeg), .int (S.1 42 ((0 : Int32)).toNatClampNeg), .int x1, .ref 29] (hh S) (n + 1) = (match ex X d 147 0 [.ref 29, .int x1, .int (S.1 42 ((0 : Int32)).toNatClampNeg), .int (S.1 43 ((0 : Int32)).toNatClampNeg), .retAddr 0] [] (hh S) n with | some (v, h') => ex X (d + 1) 145 174 [.ref 29, .int x1, .int x2, .int ((S.1 42 ((0 : Int32)).toNatClampNeg) - (S.1 42 (x1).toNatClampNeg)), .int ((S.1 43 ((0 : Int32)).toNatClampNeg) - (S.1 43 (x1).toNatClampNeg))] (v.toList ++ []) h' n | none => none) := rfl
theorem B_145_38 {X : Nat × (Nat → Int32)} {d : Nat} (n : Nat) (x1 : Int32) (x2 : Int32) (S : St) : ex X d 145 132 [.ref 29, .int x1, .int x2, .int ((S.1 42 ((0 : Int32)).toNatClampNeg) - (S.1 42 (x1).toNatClampNeg)), .int ((S.1 43 ((0 : Int32)).toNatClampNeg) - (S.1 43 (x1).toNatClampNeg))] [] (hh S) (n + 3) = if 2 < ((S.1 42 ((0 : Int32)).toNatClampNeg) - (S.1 42 (x1).toNatClampNeg)) then ex X d 145 157 [.ref 29, .int x1, .int x2, .int ((S.1 42 ((0 : Int32)).toNatClampNeg) - (S.1 42 (x1).toNatClampNeg)), .int ((S.1 43 ((0 : Int32)).toNatClampNeg) - (S.1 43 (x1).toNatClampNeg))] [] (hh S) n else ex X d 145 137 [.ref 29, .int x1, .int x2, .int ((S.1 42 ((0 : Int32)).toNatClampNeg) - (S.1 42 (x1).toNatClampNeg)), .int ((S.1 43 ((0 : Int32)).toNatClampNeg) - (S.1 43 (x1).toNatClampNeg))] [] (hh S) n := rfl
theorem B_145_39 {X : Nat × (Nat → Int32)} {d : Nat} (n : Nat) (x1 : Int32) (x2 : Int32) (S : St) : ex X d 145 137 [.ref 29, .int x1, .int x2, .int ((S.1 42 ((0 : Int32)).toNatClampNeg) - (S.1 42 (x1).toNatClampNeg)), .int ((S.1 43 ((0 : Int32)).toNatClampNeg) - (S.1 43 (x1).toNatClampNeg))] [] (hh S) (n + 3) = if ((S.1 43 ((0 : Int32)).toNatClampNeg) - (S.1 43 (x1).toNatClampNeg)) < (-1) then ex X d 145 157 [.ref 29, .int x1, .int x2, .int ((S.1 42 ((0 : Int32)).toNatClampNeg) - (S.1 42 (x1).toNatClampNeg)), .int ((S.1 43 ((0 : Int32)).toNatClampNeg) - (S.1 43 (x1).toNatClampNeg))] [] (hh S) n else ex X d 145 143 [.ref 29, .int x1, .int x2, .int ((S.1 42 ((0 : Int32)).toNatClampNeg) - (S.1 42 (x1).toNatClampNeg)), .int ((S.1 43 ((0 : Int32)).toNatClampNeg) - (S.1 43 (x1).toNatClampNeg))] [] (hh S) n := rfl
theorem B_145_40 {X : Nat × (Nat → Int32)} {d : Nat} (n : Nat) (x1 : Int32) (x2 : Int32) (S : St) : ex X d 145 157 [.ref 29, .int x1, .int x2, .int ((S.1 42 ((0 : Int32)).toNatClampNeg) - (S.1 42 (x1).toNatClampNeg)), .int ((S.1 43 ((0 : Int32)).toNatClampNeg) - (S.1 43 (x1).toNatClampNeg))] [] (hh S) (n + 6) = if (kd 42).1 = 0 ∧ xa_in (0 : Int32) (kd 42).2 then ex X d 145 165 [.ref 29, .int x1, .int x2, .int ((S.1 42 ((0 : Int32)).toNatClampNeg) - (S.1 42 (x1).toNatClampNeg)), .int ((S.1 43 ((0 : Int32)).toNatClampNeg) - (S.1 43 (x1).toNatClampNeg))] [.int (S.1 42 ((0 : Int32)).toNatClampNeg), .int x1, .ref 29] (hh S) n else none := rfl
theorem B_145_41 {X : Nat × (Nat → Int32)} {d : Nat} (n : Nat) (x1 : Int32) (x2 : Int32) (S : St) : ex X d 145 165 [.ref 29, .int x1, .int x2, .int ((S.1 42 ((0 : Int32)).toNatClampNeg) - (S.1 42 (x1).toNatClampNeg)), .int ((S.1 43 ((0 : Int32)).toNatClampNeg) - (S.1 43 (x1).toNatClampNeg))] [.int (S.1 42 ((0 : Int32)).toNatClampNeg), .int x1, .ref 29] (hh S) (n + 4) = if (kd 43).1 = 0 ∧ xa_in (0 : Int32) (kd 43).2 then ex X d 145 171 [.ref 29, .int x1, .int x2, .int ((S.1 42 ((0 : Int32)).toNatClampNeg) - (S.1 42 (x1).toNatClampNeg)), .int ((S.1 43 ((0 : Int32)).toNatClampNeg) - (S.1 43 (x1).toNatClampNeg))] [.int (S.1 43 ((0 : Int32)).toNatClampNeg), .int (S.1 42 ((0 : Int32)).toNatClampNeg), .int x1, .ref 29] (hh S) n else none := rfl
theorem B_145_42 {X : Nat × (Nat → Int32)} {d : Nat} (n : Nat) (x1 : Int32) (x2 : Int32) (S : St) : ex X (d + 1) 145 171 [.ref 29, .int x1, .int x2, .int ((S.1 42 ((0 : Int32)).toNatClampNeg) - (S.1 42 (x1).toNatClampNeg)), .int ((S.1 43 ((0 : Int32)).toNatClampNeg) - (S.1 43 (x1).toNatClampNeg))] [.int (S.1 43 ((0 : Int32)).toNatClampNeg), .int (S.1 42 ((0 : Int32)).toNatClampNeg), .int x1, .ref 29] (hh S) (n + 1) = (match ex X d 147 0 [.ref 29, .int x1, .int (S.1 42 ((0 : Int32)).toNatClampNeg), .int (S.1 43 ((0 : Int32)).toNatClampNeg), .retAddr 0] [] (hh S) n with | some (v, h') => ex X (d + 1) 145 174 [.ref 29, .int x1, .int x2, .int ((S.1 42 ((0 : Int32)).toNatClampNeg) - (S.1 42 (x1).toNatClampNeg)), .int ((S.1 43 ((0 : Int32)).toNatClampNeg) - (S.1 43 (x1).toNatClampNeg))] (v.toList ++ []) h' n | none => none) := rfl
theorem B_145_43 {X : Nat × (Nat → Int32)} {d : Nat} (n : Nat) (x1 : Int32) (x2 : Int32) (S : St) : ex X d 145 137 [.ref 29, .int x1, .int x2, .int ((S.1 42 ((0 : Int32)).toNatClampNeg) - (S.1 42 (x1).toNatClampNeg)), .int ((S.1 43 ((0 : Int32)).toNatClampNeg) - (S.1 43 (x1).toNatClampNeg))] [] (hh S) (n + 3) = if ((S.1 43 ((0 : Int32)).toNatClampNeg) - (S.1 43 (x1).toNatClampNeg)) < (-1) then ex X d 145 157 [.ref 29, .int x1, .int x2, .int ((S.1 42 ((0 : Int32)).toNatClampNeg) - (S.1 42 (x1).toNatClampNeg)), .int ((S.1 43 ((0 : Int32)).toNatClampNeg) - (S.1 43 (x1).toNatClampNeg))] [] (hh S) n else ex X d 145 143 [.ref 29, .int x1, .int x2, .int ((S.1 42 ((0 : Int32)).toNatClampNeg) - (S.1 42 (x1).toNatClampNeg)), .int ((S.1 43 ((0 : Int32)).toNatClampNeg) - (S.1 43 (x1).toNatClampNeg))] [] (hh S) n := rfl
theorem B_145_44 {X : Nat × (Nat → Int32)} {d : Nat} (n : Nat) (x1 : Int32) (x2 : Int32) (S : St) : ex X d 145 143 [.ref 29, .int x1, .int x2, .int ((S.1 42 ((0 : Int32)).toNatClampNeg) - (S.1 42 (x1).toNatClampNeg)), .int ((S.1 43 ((0 : Int32)).toNatClampNeg) - (S.1 43 (x1).toNatClampNeg))] [] (hh S) (n + 3) = if 1 < ((S.1 43 ((0 : Int32)).toNatClampNeg) - (S.1 43 (x1).toNatClampNeg)) then ex X d 145 157 [.ref 29, .int x1, .int x2, .int ((S.1 42 ((0 : Int32)).toNatClampNeg) - (S.1 42 (x1).toNatClampNeg)), .int ((S.1 43 ((0 : Int32)).toNatClampNeg) - (S.1 43 (x1).toNatClampNeg))] [] (hh S) n else ex X d 145 149 [.ref 29, .int x1, .int x2, .int ((S.1 42 ((0 : Int32)).toNatClampNeg) - (S.1 42 (x1).toNatClampNeg)), .int ((S.1 43 ((0 : Int32)).toNatClampNeg) - (S.1 43 (x1).toNatClampNeg))] [] (hh S) n := rfl
theorem B_145_45 {X : Nat × (Nat → Int32)} {d : Nat} (n : Nat) (x1 : Int32) (x2 : Int32) (S : St) : ex X d 145 157 [.ref 29, .int x1, .int x2, .int ((S.1 42 ((0 : Int32)).toNatClampNeg) - (S.1 42 (x1).toNatClampNeg)), .int ((S.1 43 ((0 : Int32)).toNatClampNeg) - (S.1 43 (x1).toNatClampNeg))] [] (hh S) (n + 6) = if (kd 42).1 = 0 ∧ xa_in (0 : Int32) (kd 42).2 then ex X d 145 165 [.ref 29, .int x1, .int x2, .int ((S.1 42 ((0 : Int32)).toNatClampNeg) - (S.1 42 (x1).toNatClampNeg)), .int ((S.1 43 ((0 : Int32)).toNatClampNeg) - (S.1 43 (x1).toNatClampNeg))] [.int (S.1 42 ((0 : Int32)).toNatClampNeg), .int x1, .ref 29] (hh S) n else none := rfl
theorem B_145_46 {X : Nat × (Nat → Int32)} {d : Nat} (n : Nat) (x1 : Int32) (x2 : Int32) (S : St) : ex X d 145 165 [.ref 29, .int x1, .int x2, .int ((S.1 42 ((0 : Int32)).toNatClampNeg) - (S.1 42 (x1).toNatClampNeg)), .int ((S.1 43 ((0 : Int32)).toNatClampNeg) - (S.1 43 (x1).toNatClampNeg))] [.int (S.1 42 ((0 : Int32)).toNatClampNeg), .int x1, .ref 29] (hh S) (n + 4) = if (kd 43).1 = 0 ∧ xa_in (0 : Int32) (kd 43).2 then ex X d 145 171 [.ref 29, .int x1, .int x2, .int ((S.1 42 ((0 : Int32)).toNatClampNeg) - (S.1 42 (x1).toNatClampNeg)), .int ((S.1 43 ((0 : Int32)).toNatClampNeg) - (S.1 43 (x1).toNatClampNeg))] [.int (S.1 43 ((0 : Int32)).toNatClampNeg), .int (S.1 42 ((0 : Int32)).toNatClampNeg), .int x1, .ref 29] (hh S) n else none := rfl
theorem B_145_47 {X : Nat × (Nat → Int32)} {d : Nat} (n : Nat) (x1 : Int32) (x2 : Int32) (S : St) : ex X (d + 1) 145 171 [.ref 29, .int x1, .int x2, .int ((S.1 42 ((0 : Int32)).toNatClampNeg) - (S.1 42 (x1).toNatClampNeg)), .int ((S.1 43 ((0 : Int32)).toNatClampNeg) - (S.1 43 (x1).toNatClampNeg))] [.int (S.1 43 ((0 : Int32)).toNatClampNeg), .int (S.1 42 ((0 : Int32)).toNatClampNeg), .int x1, .ref 29] (hh S) (n + 1) = (match ex X d 147 0 [.ref 29, .int x1, .int (S.1 42 ((0 : Int32)).toNatClampNeg), .int (S.1 43 ((0 : Int32)).toNatClampNeg), .retAddr 0] [] (hh S) n with | some (v, h') => ex X (d + 1) 145 174 [.ref 29, .int x1, .int x2, .int ((S.1 42 ((0 : Int32)).toNatClampNeg) - (S.1 42 (x1).toNatClampNeg)), .int ((S.1 43 ((0 : Int32)).toNatClampNeg) - (S.1 43 (x1).toNatClampNeg))] (v.toList ++ []) h' n | none => none) := rfl
theorem B_145_48 {X : Nat × (Nat → Int32)} {d : Nat} (n : Nat) (x1 : Int32) (x2 : Int32) (S : St) : ex X d 145 143 [.ref 29, .int x1, .int x2, .int ((S.1 42 ((0 : Int32)).toNatClampNeg) - (S.1 42 (x1).toNatClampNeg)), .int ((S.1 43 ((0 : Int32)).toNatClampNeg) - (S.1 43 (x1).toNatClampNeg))] [] (hh S) (n + 3) = if 1 < ((S.1 43 ((0 : Int32)).toNatClampNeg) - (S.1 43 (x1).toNatClampNeg)) then ex X d 145 157 [.ref 29, .int x1, .int x2, .int ((S.1 42 ((0 : Int32)).toNatClampNeg) - (S.1 42 (x1).toNatClampNeg)), .int ((S.1 43 ((0 : Int32)).toNatClampNeg) - (S.1 43 (x1).toNatClampNeg))] [] (hh S) n else ex X d 145 149 [.ref 29, .int x1, .int x2, .int ((S.1 42 ((0 : Int32)).toNatClampNeg) - (S.1 42 (x1).toNatClampNeg)), .int ((S.1 43 ((0 : Int32)).toNatClampNeg) - (S.1 43 (x1).toNatClampNeg))] [] (hh S) n := rfl
theorem B_145_49 {X : Nat × (Nat → Int32)} {d : Nat} (n : Nat) (x1 : Int32) (x2 : Int32) (S : St) : ex X (d + 1) 145 149 [.ref 29, .int x1, .int x2, .int ((S.1 42 ((0 : Int32)).toNatClampNeg) - (S.1 42 (x1).toNatClampNeg)), .int ((S.1 43 ((0 : Int32)).toNatClampNeg) - (S.1 43 (x1).toNatClampNeg))] [] (hh S) (n + 3) = (match ex X d 146 0 [.ref 29, .int x1] [] (hh S) n with | some (v, h') => ex X (d + 1) 145 154 [.ref 29, .int x1, .int x2, .int ((S.1 42 ((0 : Int32)).toNatClampNeg) - (S.1 42 (x1).toNatClampNeg)), .int ((S.1 43 ((0 : Int32)).toNatClampNeg) - (S.1 43 (x1).toNatClampNeg))] (v.toList ++ []) h' n | none => none) := rfl
theorem B_145_50 {X : Nat × (Nat → Int32)} {d : Nat} (n : Nat) (x1 : Int32) (x2 : Int32) (S : St) : ex X d 145 103 [.ref 29, .int x1, .int x2, .int ((S.1 42 ((0 : Int32)).toNatClampNeg) - (S.1 42 (x1).toNatClampNeg)), .int ((S.1 43 ((0 : Int32)).toNatClampNeg) - (S.1 43 (x1).toNatClampNeg))] [.int (S.1 47 (x1).toNatClampNeg)] (hh S) (n + 2) = if (S.1 47 (x1).toNatClampNeg) = 2 then ex X d 145 107 [.ref 29, .int x1, .int x2, .int ((S.1 42 ((0 : Int32)).toNatClampNeg) - (S.1 42 (x1).toNatClampNeg)), .int ((S.1 43 ((0 : Int32)).toNatClampNeg) - (S.1 43 (x1).toNatClampNeg))] [] (hh S) n else ex X d 145 177 [.ref 29, .int x1, .int x2, .int ((S.1 42 ((0 : Int32)).toNatClampNeg) - (S.1 42 (x1).toNatClampNeg)), .int ((S.1 43 ((0 : Int32)).toNatClampNeg) - (S.1 43 (x1).toNatClampNeg))] [] (hh S) n := rfl
theorem B_145_51 {X : Nat × (Nat → Int32)} {d : Nat} (n : Nat) (x1 : Int32) (x2 : Int32) (S : St) : ex X d 145 177 [.ref 29, .int x1, .int x2, .int ((S.1 42 ((0 : Int32)).toNatClampNeg) - (S.1 42 (x1).toNatClampNeg)), .int ((S.1 43 ((0 : Int32)).toNatClampNeg) - (S.1 43 (x1).toNatClampNeg))] [] (hh S) (n + 4) = if (kd 47).1 = 0 ∧ xa_in x1 (kd 47).2 then ex X d 145 183 [.ref 29, .int x1, .int x2, .int ((S.1 42 ((0 : Int32)).toNatClampNeg) - (S.1 42 (x1).toNatClampNeg)), .int ((S.1 43 ((0 : Int32)).toNatClampNeg) - (S.1 43 (x1).toNatClampNeg))] [.int (S.1 47 (x1).toNatClampNeg)] (hh S) n else none := rfl
theorem B_145_52 {X : Nat × (Nat → Int32)} {d : Nat} (n : Nat) (x1 : Int32) (x2 : Int32) (S : St) : ex X d 145 183 [.ref 29, .int x1, .int x2, .int ((S.1 42 ((0 : Int32)).toNatClampNeg) - (S.1 42 (x1).toNatClampNeg)), .int ((S.1 43 ((0 : Int32)).toNatClampNeg) - (S.1 43 (x1).toNatClampNeg))] [.int (S.1 47 (x1).toNatClampNeg)] (hh S) (n + 2) = if (S.1 47 (x1).toNatClampNeg) = 3 then ex X d 145 187 [.ref 29, .int x1, .int x2, .int ((S.1 42 ((0 : Int32)).toNatClampNeg) - (S.1 42 (x1).toNatClampNeg)), .int ((S.1 43 ((0 : Int32)).toNatClampNeg) - (S.1 43 (x1).toNatClampNeg))] [] (hh S) n else ex X d 145 210 [.ref 29, .int x1, .int x2, .int ((S.1 42 ((0 : Int32)).toNatClampNeg) - (S.1 42 (x1).toNatClampNeg)), .int ((S.1 43 ((0 : Int32)).toNatClampNeg) - (S.1 43 (x1).toNatClampNeg))] [] (hh S) n := rfl
theorem B_145_53 {X : Nat × (Nat → Int32)} {d : Nat} (n : Nat) (x1 : Int32) (x2 : Int32) (S : St) : ex X d 145 187 [.ref 29, .int x1, .int x2, .int ((S.1 42 ((0 : Int32)).toNatClampNeg) - (S.1 42 (x1).toNatClampNeg)), .int ((S.1 43 ((0 : Int32)).toNatClampNeg) - (S.1 43 (x1).toNatClampNeg))] [] (hh S) (n + 4) = if (kd 54).1 = 1 ∧ xa_in x1 (kd 54).2 then ex X d 145 193 [.ref 29, .int x1, .int x2, .int ((S.1 42 ((0 : Int32)).toNatClampNeg) - (S.1 42 (x1).toNatClampNeg)), .int ((S.1 43 ((0 : Int32)).toNatClampNeg) - (S.1 43 (x1).toNatClampNeg))] [.int (S.1 54 (x1).toNatClampNeg)] (hh S) n else none := rfl
theorem B_145_54 {X : Nat × (Nat → Int32)} {d : Nat} (n : Nat) (x1 : Int32) (x2 : Int32) (S : St) : ex X d 145 193 [.ref 29, .int x1, .int x2, .int ((S.1 42 ((0 : Int32)).toNatClampNeg) - (S.1 42 (x1).toNatClampNeg)), .int ((S.1 43 ((0 : Int32)).toNatClampNeg) - (S.1 43 (x1).toNatClampNeg))] [.int (S.1 54 (x1).toNatClampNeg)] (hh S) (n + 1) = if (S.1 54 (x1).toNatClampNeg) = 0 then ex X d 145 196 [.ref 29, .int x1, .int x2, .int ((S.1 42 ((0 : Int32)).toNatClampNeg) - (S.1 42 (x1).toNatClampNeg)), .int ((S.1 43 ((0 : Int32)).toNatClampNeg) - (S.1 43 (x1).toNatClampNeg))] [] (hh S) n else ex X d 145 210 [.ref 29, .int x1, .int x2, .int ((S.1 42 ((0 : Int32)).toNatClampNeg) - (S.1 42 (x1).toNatClampNeg)), .int ((S.1 43 ((0 : Int32)).toNatClampNeg) - (S.1 43 (x1).toNatClampNeg))] [] (hh S) n := rfl
theorem B_145_55 {X : Nat × (Nat → Int32)} {d : Nat} (n : Nat) (x1 : Int32) (x2 : Int32) (S : St) : ex X d 145 196 [.ref 29, .int x1, .int x2, .int ((S.1 42 ((0 : Int32)).toNatClampNeg) - (S.1 42 (x1).toNatClampNeg)), .int ((S.1 43 ((0 : Int32)).toNatClampNeg) - (S.1 43 (x1).toNatClampNeg))] [] (hh S) (n + 9) = if (8 : Int32) = 0 then none else ex X d 145 208 [.ref 29, .int x1, .int x2, .int ((S.1 42 ((0 : Int32)).toNatClampNeg) - (S.1 42 (x1).toNatClampNeg)), .int ((S.1 43 ((0 : Int32)).toNatClampNeg) - (S.1 43 (x1).toNatClampNeg))] [.int ((x2 + x1) - (x2 + x1) / 8 * 8), .int 1, .int x1, .ref 46] (hh S) n := rfl
theorem B_145_56 {X : Nat × (Nat → Int32)} {d : Nat} (n : Nat) (x1 : Int32) (x2 : Int32) (S : St) : ex X d 145 208 [.ref 29, .int x1, .int x2, .int ((S.1 42 ((0 : Int32)).toNatClampNeg) - (S.1 42 (x1).toNatClampNeg)), .int ((S.1 43 ((0 : Int32)).toNatClampNeg) - (S.1 43 (x1).toNatClampNeg))] [.int ((x2 + x1) - (x2 + x1) / 8 * 8), .int 1, .int x1, .ref 46] (hh S) (n + 2) = if (kd 46).1 = 0 ∧ xa_in x1 (kd 46).2 then ex X d 145 210 [.ref 29, .int x1, .int x2, .int ((S.1 42 ((0 : Int32)).toNatClampNeg) - (S.1 42 (x1).toNatClampNeg)), .int ((S.1 43 ((0 : Int32)).toNatClampNeg) - (S.1 43 (x1).toNatClampNeg))] [] (hh (xa_u S.1 46 ((x1).toNatClampNeg) (1 + ((x2 + x1) - (x2 + x1) / 8 * 8)), S.2.1, S.2.2)) n else none := rfl
theorem B_145_57 {X : Nat × (Nat → Int32)} {d : Nat} (n : Nat) (x1 : Int32) (x2 : Int32) (S : St) : ex X d 145 193 [.ref 29, .int x1, .int x2, .int ((S.1 42 ((0 : Int32)).toNatClampNeg) - (S.1 42 (x1).toNatClampNeg)), .int ((S.1 43 ((0 : Int32)).toNatClampNeg) - (S.1 43 (x1).toNatClampNeg))] [.int (S.1 54 (x1).toNatClampNeg)] (hh S) (n + 1) = if (S.1 54 (x1).toNatClampNeg) = 0 then ex X d 145 196 [.ref 29, .int x1, .int x2, .int ((S.1 42 ((0 : Int32)).toNatClampNeg) - (S.1 42 (x1).toNatClampNeg)), .int ((S.1 43 ((0 : Int32)).toNatClampNeg) - (S.1 43 (x1).toNatClampNeg))] [] (hh S) n else ex X d 145 210 [.ref 29, .int x1, .int x2, .int ((S.1 42 ((0 : Int32)).toNatClampNeg) - (S.1 42 (x1).toNatClampNeg)), .int ((S.1 43 ((0 : Int32)).toNatClampNeg) - (S.1 43 (x1).toNatClampNeg))] [] (hh S) n := rfl
theorem B_145_58 {X : Nat × (Nat → Int32)} {d : Nat} (n : Nat) (x1 : Int32) (x2 : Int32) (S : St) : ex X d 145 183 [.ref 29, .int x1, .int x2, .int ((S.1 42 ((0 : Int32)).toNatClampNeg) - (S.1 42 (x1).toNatClampNeg)), .int ((S.1 43 ((0 : Int32)).toNatClampNeg) - (S.1 43 (x1).toNatClampNeg))] [.int (S.1 47 (x1).toNatClampNeg)] (hh S) (n + 2) = if (S.1 47 (x1).toNatClampNeg) = 3 then ex X d 145 187 [.ref 29, .int x1, .int x2, .int ((S.1 42 ((0 : Int32)).toNatClampNeg) - (S.1 42 (x1).toNatClampNeg)), .int ((S.1 43 ((0 : Int32)).toNatClampNeg) - (S.1 43 (x1).toNatClampNeg))] [] (hh S) n else ex X d 145 210 [.ref 29, .int x1, .int x2, .int ((S.1 42 ((0 : Int32)).toNatClampNeg) - (S.1 42 (x1).toNatClampNeg)), .int ((S.1 43 ((0 : Int32)).toNatClampNeg) - (S.1 43 (x1).toNatClampNeg))] [] (hh S) n := rfl
set_option maxRecDepth 200000 in
theorem T_145 {X : Nat × (Nat → Int32)} (S : St) (x1 : Int32) (x2 : Int32) (r : Unit) (S' : St) (hG : G_145 S x1 x2 = some (r, S')) : Ev X 2 145 0 [.ref 29, .int x1, .int x2, .retAddr 0, .retAddr 0] [] (hh S) (xV r, hh S') := by
  unfold G_145 at hG
  refine Ev.g (c := (kd 42).1 = 0 ∧ xa_in (0 : Int32) (kd 42).2) (p1 := 6) (L1 := [.ref 29, .int x1, .int x2, .retAddr 0, .retAddr 0]) (s1 := [.int (S.1 42 ((0 : Int32)).toNatClampNeg)]) (h1 := hh S) 4 (fun n => B_145_1 n x1 x2 S) (⟨rfl, by decide⟩) ?_
  by_cases g1 : xa_in x1 4
  rotate_left
  · rw [if_neg g1] at hG; cases hG
  rw [if_pos g1] at hG
  refine Ev.g (c := (kd 42).1 = 0 ∧ xa_in x1 (kd 42).2) (p1 := 12) (L1 := [.ref 29, .int x1, .int x2, .retAddr 0, .retAddr 0]) (s1 := [.int (S.1 42 (x1).toNatClampNeg), .int (S.1 42 ((0 : Int32)).toNatClampNeg)]) (h1 := hh S) 4 (fun n => B_145_2 n x1 x2 S) (⟨rfl, g1⟩) ?_
  refine Ev.g (c := (kd 43).1 = 0 ∧ xa_in (0 : Int32) (kd 43).2) (p1 := 20) (L1 := [.ref 29, .int x1, .int x2, .int ((S.1 42 ((0 : Int32)).toNatClampNeg) - (S.1 42 (x1).toNatClampNeg)), .retAddr 0]) (s1 := [.int (S.1 43 ((0 : Int32)).toNatClampNeg)]) (h1 := hh S) 6 (fun n => B_145_3 n x1 x2 S) (⟨rfl, by decide⟩) ?_
  refine Ev.g (c := (kd 43).1 = 0 ∧ xa_in x1 (kd 43).2) (p1 := 26) (L1 := [.ref 29, .int x1, .int x2, .int ((S.1 42 ((0 : Int32)).toNatClampNeg) - (S.1 42 (x1).toNatClampNeg)), .retAddr 0]) (s1 := [.int (S.1 43 (x1).toNatClampNeg), .int (S.1 43 ((0 : Int32)).toNatClampNeg)]) (h1 := hh S) 4 (fun n => B_145_4 n x1 x2 S) (⟨rfl, g1⟩) ?_
  refine Ev.g (c := (kd 47).1 = 0 ∧ xa_in x1 (kd 47).2) (p1 := 35) (L1 := [.ref 29, .int x1, .int x2, .int ((S.1 42 ((0 : Int32)).toNatClampNeg) - (S.1 42 (x1).toNatClampNeg)), .int ((S.1 43 ((0 : Int32)).toNatClampNeg) - (S.1 43 (x1).toNatClampNeg))]) (s1 := [.int (S.1 47 (x1).toNatClampNeg)]) (h1 := hh S) 6 (fun n => B_145_5 n x1 x2 S) (⟨rfl, g1⟩) ?_
  by_cases c2 : (S.1 47 (x1).toNatClampNeg) = 1
  · rw [if_pos c2] at hG
    refine Ev.t (c := (S.1 47 (x1).toNatClampNeg) = 1) (p1 := 39) (L1 := [.ref 29, .int x1, .int x2, .int ((S.1 42 ((0 : Int32)).toNatClampNeg) - (S.1 42 (x1).toNatClampNeg)), .int ((S.1 43 ((0 : Int32)).toNatClampNeg) - (S.1 43 (x1).toNatClampNeg))]) (s1 := []) (h1 := hh S) (p2 := 97) (L2 := [.ref 29, .int x1, .int x2, .int ((S.1 42 ((0 : Int32)).toNatClampNeg) - (S.1 42 (x1).toNatClampNeg)), .int ((S.1 43 ((0 : Int32)).toNatClampNeg) - (S.1 43 (x1).toNatClampNeg))]) (s2 := []) (h2 := hh S) 2 (fun n => B_145_6 n x1 x2 S) c2 ?_
    refine Ev.g (c := (kd 42).1 = 0 ∧ xa_in x1 (kd 42).2) (p1 := 45) (L1 := [.ref 29, .int x1, .int x2, .int ((S.1 42 ((0 : Int32)).toNatClampNeg) - (S.1 42 (x1).toNatClampNeg)), .int ((S.1 43 ((0 : Int32)).toNatClampNeg) - (S.1 43 (x1).toNatClampNeg))]) (s1 := [.int (S.1 42 (x1).toNatClampNeg)]) (h1 := hh S) 4 (fun n => B_145_7 n x1 x2 S) (⟨rfl, g1⟩) ?_
    refine Ev.g (c := (kd 51).1 = 0 ∧ xa_in x1 (kd 51).2) (p1 := 51) (L1 := [.ref 29, .int x1, .int x2, .int ((S.1 42 ((0 : Int32)).toNatClampNeg) - (S.1 42 (x1).toNatClampNeg)), .int ((S.1 43 ((0 : Int32)).toNatClampNeg) - (S.1 43 (x1).toNatClampNeg))]) (s1 := [.int (S.1 51 (x1).toNatClampNeg), .int (S.1 42 (x1).toNatClampNeg)]) (h1 := hh S) 4 (fun n => B_145_8 n x1 x2 S) (⟨rfl, g1⟩) ?_
    by_cases c3 : (S.1 42 (x1).toNatClampNeg) = (S.1 51 (x1).toNatClampNeg)
    · rw [if_pos c3] at hG
      refine Ev.t (c := (S.1 42 (x1).toNatClampNeg) = (S.1 51 (x1).toNatClampNeg)) (p1 := 54) (L1 := [.ref 29, .int x1, .int x2, .int ((S.1 42 ((0 : Int32)).toNatClampNeg) - (S.1 42 (x1).toNatClampNeg)), .int ((S.1 43 ((0 : Int32)).toNatClampNeg) - (S.1 43 (x1).toNatClampNeg))]) (s1 := []) (h1 := hh S) (p2 := 77) (L2 := [.ref 29, .int x1, .int x2, .int ((S.1 42 ((0 : Int32)).toNatClampNeg) - (S.1 42 (x1).toNatClampNeg)), .int ((S.1 43 ((0 : Int32)).toNatClampNeg) - (S.1 43 (x1).toNatClampNeg))]) (s2 := []) (h2 := hh S) 1 (fun n => B_145_9 n x1 x2 S) c3 ?_
      refine Ev.g (c := (kd 43).1 = 0 ∧ xa_in x1 (kd 43).2) (p1 := 60) (L1 := [.ref 29, .int x1, .int x2, .int ((S.1 42 ((0 : Int32)).toNatClampNeg) - (S.1 42 (x1).toNatClampNeg)), .int ((S.1 43 ((0 : Int32)).toNatClampNeg) - (S.1 43 (x1).toNatClampNeg))]) (s1 := [.int (S.1 43 (x1).toNatClampNeg)]) (h1 := hh S) 4 (fun n => B_145_10 n x1 x2 S) (⟨rfl, g1⟩) ?_
      refine Ev.g (c := (kd 52).1 = 0 ∧ xa_in x1 (kd 52).2) (p1 := 66) (L1 := [.ref 29, .int x1, .int x2, .int ((S.1 42 ((0 : Int32)).toNatClampNeg) - (S.1 42 (x1).toNatClampNeg)), .int ((S.1 43 ((0 : Int32)).toNatClampNeg) - (S.1 43 (x1).toNatClampNeg))]) (s1 := [.int (S.1 52 (x1).toNatClampNeg), .int (S.1 43 (x1).toNatClampNeg)]) (h1 := hh S) 4 (fun n => B_145_11 n x1 x2 S) (⟨rfl, g1⟩) ?_
      by_cases c4 : (S.1 43 (x1).toNatClampNeg) = (S.1 52 (x1).toNatClampNeg)
      · rw [if_pos c4] at hG
        refine Ev.t (c := (S.1 43 (x1).toNatClampNeg) = (S.1 52 (x1).toNatClampNeg)) (p1 := 69) (L1 := [.ref 29, .int x1, .int x2, .int ((S.1 42 ((0 : Int32)).toNatClampNeg) - (S.1 42 (x1).toNatClampNeg)), .int ((S.1 43 ((0 : Int32)).toNatClampNeg) - (S.1 43 (x1).toNatClampNeg))]) (s1 := []) (h1 := hh S) (p2 := 77) (L2 := [.ref 29, .int x1, .int x2, .int ((S.1 42 ((0 : Int32)).toNatClampNeg) - (S.1 42 (x1).toNatClampNeg)), .int ((S.1 43 ((0 : Int32)).toNatClampNeg) - (S.1 43 (x1).toNatClampNeg))]) (s2 := []) (h2 := hh S) 1 (fun n => B_145_12 n x1 x2 S) c4 ?_
        rcases h5 : G_146 S x1 with _ | ⟨v5, S5⟩
        · rw [h5] at hG; cases hG
        rw [h5] at hG
        dsimp only at hG
        refine Ev.c (a := 146) (A := [.ref 29, .int x1]) (h1 := hh S) (pc' := 74) (L' := [.ref 29, .int x1, .int x2, .int ((S.1 42 ((0 : Int32)).toNatClampNeg) - (S.1 42 (x1).toNatClampNeg)), .int ((S.1 43 ((0 : Int32)).toNatClampNeg) - (S.1 43 (x1).toNatClampNeg))]) (rest := []) (r1 := none) (h2 := hh S5) 3 (fun n => B_145_13 n x1 x2 S) (Ev.up (by decide) (T_146 S x1 _ _ h5)) ?_
        show Ev X _ 145 74 [.ref 29, .int x1, .int x2, .int ((S.1 42 ((0 : Int32)).toNatClampNeg) - (S.1 42 (x1).toNatClampNeg)), .int ((S.1 43 ((0 : Int32)).toNatClampNeg) - (S.1 43 (x1).toNatClampNeg))] [] (hh S5) _
        obtain ⟨e1, e2⟩ := Prod.mk.inj (Option.some.inj hG)
        subst e1
        subst e2
        exact Ev.r 2 (fun n => rfl)
      · rw [if_neg c4] at hG
        refine Ev.f (c := (S.1 43 (x1).toNatClampNeg) = (S.1 52 (x1).toNatClampNeg)) (p1 := 69) (L1 := [.ref 29, .int x1, .int x2, .int ((S.1 42 ((0 : Int32)).toNatClampNeg) - (S.1 42 (x1).toNatClampNeg)), .int ((S.1 43 ((0 : Int32)).toNatClampNeg) - (S.1 43 (x1).toNatClampNeg))]) (s1 := []) (h1 := hh S) (p2 := 77) (L2 := [.ref 29, .int x1, .int x2, .int ((S.1 42 ((0 : Int32)).toNatClampNeg) - (S.1 42 (x1).toNatClampNeg)), .int ((S.1 43 ((0 : Int32)).toNatClampNeg) - (S.1 43 (x1).toNatClampNeg))]) (s2 := []) (h2 := hh S) 1 (fun n => B_145_14 n x1 x2 S) c4 ?_
        refine Ev.g (c := (kd 51).1 = 0 ∧ xa_in x1 (kd 51).2) (p1 := 85) (L1 := [.ref 29, .int x1, .int x2, .int ((S.1 42 ((0 : Int32)).toNatClampNeg) - (S.1 42 (x1).toNatClampNeg)), .int ((S.1 43 ((0 : Int32)).toNatClampNeg) - (S.1 43 (x1).toNatClampNeg))]) (s1 := [.int (S.1 51 (x1).toNatClampNeg), .int x1, .ref 29]) (h1 := hh S) 6 (fun n => B_145_15 n x1 x2 S) (⟨rfl, g1⟩) ?_
        refine Ev.g (c := (kd 52).1 = 0 ∧ xa_in x1 (kd 52).2) (p1 := 91) (L1 := [.ref 29, .int x1, .int x2, .int ((S.1 42 ((0 : Int32)).toNatClampNeg) - (S.1 42 (x1).toNatClampNeg)), .int ((S.1 43 ((0 : Int32)).toNatClampNeg) - (S.1 43 (x1).toNatClampNeg))]) (s1 := [.int (S.1 52 (x1).toNatClampNeg), .int (S.1 51 (x1).toNatClampNeg), .int x1, .ref 29]) (h1 := hh S) 4 (fun n => B_145_16 n x1 x2 S) (⟨rfl, g1⟩) ?_
        rcases h6 : G_147 S x1 (S.1 51 (x1).toNatClampNeg) (S.1 52 (x1).toNatClampNeg) with _ | ⟨v6, S6⟩
        · rw [h6] at hG; cases hG
        rw [h6] at hG
        dsimp only at hG
        refine Ev.c (a := 147) (A := [.ref 29, .int x1, .int (S.1 51 (x1).toNatClampNeg), .int (S.1 52 (x1).toNatClampNeg), .retAddr 0]) (h1 := hh S) (pc' := 94) (L' := [.ref 29, .int x1, .int x2, .int ((S.1 42 ((0 : Int32)).toNatClampNeg) - (S.1 42 (x1).toNatClampNeg)), .int ((S.1 43 ((0 : Int32)).toNatClampNeg) - (S.1 43 (x1).toNatClampNeg))]) (rest := []) (r1 := none) (h2 := hh S6) 1 (fun n => B_145_17 n x1 x2 S) (Ev.up (by decide) (T_147 S x1 (S.1 51 (x1).toNatClampNeg) (S.1 52 (x1).toNatClampNeg) _ _ h6)) ?_
        show Ev X _ 145 94 [.ref 29, .int x1, .int x2, .int ((S.1 42 ((0 : Int32)).toNatClampNeg) - (S.1 42 (x1).toNatClampNeg)), .int ((S.1 43 ((0 : Int32)).toNatClampNeg) - (S.1 43 (x1).toNatClampNeg))] [] (hh S6) _
        obtain ⟨e1, e2⟩ := Prod.mk.inj (Option.some.inj hG)
        subst e1
        subst e2
        exact Ev.r 2 (fun n => rfl)
    · rw [if_neg c3] at hG
      refine Ev.f (c := (S.1 42 (x1).toNatClampNeg) = (S.1 51 (x1).toNatClampNeg)) (p1 := 54) (L1 := [.ref 29, .int x1, .int x2, .int ((S.1 42 ((0 : Int32)).toNatClampNeg) - (S.1 42 (x1).toNatClampNeg)), .int ((S.1 43 ((0 : Int32)).toNatClampNeg) - (S.1 43 (x1).toNatClampNeg))]) (s1 := []) (h1 := hh S) (p2 := 77) (L2 := [.ref 29, .int x1, .int x2, .int ((S.1 42 ((0 : Int32)).toNatClampNeg) - (S.1 42 (x1).toNatClampNeg)), .int ((S.1 43 ((0 : Int32)).toNatClampNeg) - (S.1 43 (x1).toNatClampNeg))]) (s2 := []) (h2 := hh S) 1 (fun n => B_145_18 n x1 x2 S) c3 ?_
      refine Ev.g (c := (kd 51).1 = 0 ∧ xa_in x1 (kd 51).2) (p1 := 85) (L1 := [.ref 29, .int x1, .int x2, .int ((S.1 42 ((0 : Int32)).toNatClampNeg) - (S.1 42 (x1).toNatClampNeg)), .int ((S.1 43 ((0 : Int32)).toNatClampNeg) - (S.1 43 (x1).toNatClampNeg))]) (s1 := [.int (S.1 51 (x1).toNatClampNeg), .int x1, .ref 29]) (h1 := hh S) 6 (fun n => B_145_19 n x1 x2 S) (⟨rfl, g1⟩) ?_
      refine Ev.g (c := (kd 52).1 = 0 ∧ xa_in x1 (kd 52).2) (p1 := 91) (L1 := [.ref 29, .int x1, .int x2, .int ((S.1 42 ((0 : Int32)).toNatClampNeg) - (S.1 42 (x1).toNatClampNeg)), .int ((S.1 43 ((0 : Int32)).toNatClampNeg) - (S.1 43 (x1).toNatClampNeg))]) (s1 := [.int (S.1 52 (x1).toNatClampNeg), .int (S.1 51 (x1).toNatClampNeg), .int x1, .ref 29]) (h1 := hh S) 4 (fun n => B_145_20 n x1 x2 S) (⟨rfl, g1⟩) ?_
      rcases h7 : G_147 S x1 (S.1 51 (x1).toNatClampNeg) (S.1 52 (x1).toNatClampNeg) with _ | ⟨v7, S7⟩
      · rw [h7] at hG; cases hG
      rw [h7] at hG
      dsimp only at hG
      refine Ev.c (a := 147) (A := [.ref 29, .int x1, .int (S.1 51 (x1).toNatClampNeg), .int (S.1 52 (x1).toNatClampNeg), .retAddr 0]) (h1 := hh S) (pc' := 94) (L' := [.ref 29, .int x1, .int x2, .int ((S.1 42 ((0 : Int32)).toNatClampNeg) - (S.1 42 (x1).toNatClampNeg)), .int ((S.1 43 ((0 : Int32)).toNatClampNeg) - (S.1 43 (x1).toNatClampNeg))]) (rest := []) (r1 := none) (h2 := hh S7) 1 (fun n => B_145_21 n x1 x2 S) (Ev.up (by decide) (T_147 S x1 (S.1 51 (x1).toNatClampNeg) (S.1 52 (x1).toNatClampNeg) _ _ h7)) ?_
      show Ev X _ 145 94 [.ref 29, .int x1, .int x2, .int ((S.1 42 ((0 : Int32)).toNatClampNeg) - (S.1 42 (x1).toNatClampNeg)), .int ((S.1 43 ((0 : Int32)).toNatClampNeg) - (S.1 43 (x1).toNatClampNeg))] [] (hh S7) _
      obtain ⟨e1, e2⟩ := Prod.mk.inj (Option.some.inj hG)
      subst e1
      subst e2
      exact Ev.r 2 (fun n => rfl)
  · rw [if_neg c2] at hG
    refine Ev.f (c := (S.1 47 (x1).toNatClampNeg) = 1) (p1 := 39) (L1 := [.ref 29, .int x1, .int x2, .int ((S.1 42 ((0 : Int32)).toNatClampNeg) - (S.1 42 (x1).toNatClampNeg)), .int ((S.1 43 ((0 : Int32)).toNatClampNeg) - (S.1 43 (x1).toNatClampNeg))]) (s1 := []) (h1 := hh S) (p2 := 97) (L2 := [.ref 29, .int x1, .int x2, .int ((S.1 42 ((0 : Int32)).toNatClampNeg) - (S.1 42 (x1).toNatClampNeg)), .int ((S.1 43 ((0 : Int32)).toNatClampNeg) - (S.1 43 (x1).toNatClampNeg))]) (s2 := []) (h2 := hh S) 2 (fun n => B_145_22 n x1 x2 S) c2 ?_
    refine Ev.g (c := (kd 47).1 = 0 ∧ xa_in x1 (kd 47).2) (p1 := 103) (L1 := [.ref 29, .int x1, .int x2, .int ((S.1 42 ((0 : Int32)).toNatClampNeg) - (S.1 42 (x1).toNatClampNeg)), .int ((S.1 43 ((0 : Int32)).toNatClampNeg) - (S.1 43 (x1).toNatClampNeg))]) (s1 := [.int (S.1 47 (x1).toNatClampNeg)]) (h1 := hh S) 4 (fun n => B_145_23 n x1 x2 S) (⟨rfl, g1⟩) ?_
    by_cases c8 : (S.1 47 (x1).toNatClampNeg) = 2
    · rw [if_pos c8] at hG
      refine Ev.t (c := (S.1 47 (x1).toNatClampNeg) = 2) (p1 := 107) (L1 := [.ref 29, .int x1, .int x2, .int ((S.1 42 ((0 : Int32)).toNatClampNeg) - (S.1 42 (x1).toNatClampNeg)), .int ((S.1 43 ((0 : Int32)).toNatClampNeg) - (S.1 43 (x1).toNatClampNeg))]) (s1 := []) (h1 := hh S) (p2 := 177) (L2 := [.ref 29, .int x1, .int x2, .int ((S.1 42 ((0 : Int32)).toNatClampNeg) - (S.1 42 (x1).toNatClampNeg)), .int ((S.1 43 ((0 : Int32)).toNatClampNeg) - (S.1 43 (x1).toNatClampNeg))]) (s2 := []) (h2 := hh S) 2 (fun n => B_145_24 n x1 x2 S) c8 ?_
      refine Ev.g (c := (kd 49).1 = 1 ∧ xa_in (0 : Int32) (kd 49).2) (p1 := 113) (L1 := [.ref 29, .int x1, .int x2, .int ((S.1 42 ((0 : Int32)).toNatClampNeg) - (S.1 42 (x1).toNatClampNeg)), .int ((S.1 43 ((0 : Int32)).toNatClampNeg) - (S.1 43 (x1).toNatClampNeg))]) (s1 := [.int (S.1 49 ((0 : Int32)).toNatClampNeg)]) (h1 := hh S) 4 (fun n => B_145_25 n x1 x2 S) (⟨rfl, by decide⟩) ?_
      by_cases c9 : (S.1 49 ((0 : Int32)).toNatClampNeg) = 0
      · rw [if_pos c9] at hG
        refine Ev.t (c := (S.1 49 ((0 : Int32)).toNatClampNeg) = 0) (p1 := 116) (L1 := [.ref 29, .int x1, .int x2, .int ((S.1 42 ((0 : Int32)).toNatClampNeg) - (S.1 42 (x1).toNatClampNeg)), .int ((S.1 43 ((0 : Int32)).toNatClampNeg) - (S.1 43 (x1).toNatClampNeg))]) (s1 := []) (h1 := hh S) (p2 := 126) (L2 := [.ref 29, .int x1, .int x2, .int ((S.1 42 ((0 : Int32)).toNatClampNeg) - (S.1 42 (x1).toNatClampNeg)), .int ((S.1 43 ((0 : Int32)).toNatClampNeg) - (S.1 43 (x1).toNatClampNeg))]) (s2 := []) (h2 := hh S) 1 (fun n => B_145_26 n x1 x2 S) c9 ?_
        refine Ev.g (c := (kd 46).1 = 0 ∧ xa_in x1 (kd 46).2) (p1 := 123) (L1 := [.ref 29, .int x1, .int x2, .int ((S.1 42 ((0 : Int32)).toNatClampNeg) - (S.1 42 (x1).toNatClampNeg)), .int ((S.1 43 ((0 : Int32)).toNatClampNeg) - (S.1 43 (x1).toNatClampNeg))]) (s1 := []) (h1 := hh (xa_u S.1 46 ((x1).toNatClampNeg) 0, S.2.1, S.2.2)) 5 (fun n => B_145_27 n x1 x2 S) (⟨rfl, g1⟩) ?_
        obtain ⟨e1, e2⟩ := Prod.mk.inj (Option.some.inj hG)
        subst e1
        subst e2
        exact Ev.r 2 (fun n => rfl)
      · rw [if_neg c9] at hG
        refine Ev.f (c := (S.1 49 ((0 : Int32)).toNatClampNeg) = 0) (p1 := 116) (L1 := [.ref 29, .int x1, .int x2, .int ((S.1 42 ((0 : Int32)).toNatClampNeg) - (S.1 42 (x1).toNatClampNeg)), .int ((S.1 43 ((0 : Int32)).toNatClampNeg) - (S.1 43 (x1).toNatClampNeg))]) (s1 := []) (h1 := hh S) (p2 := 126) (L2 := [.ref 29, .int x1, .int x2, .int ((S.1 42 ((0 : Int32)).toNatClampNeg) - (S.1 42 (x1).toNatClampNeg)), .int ((S.1 43 ((0 : Int32)).toNatClampNeg) - (S.1 43 (x1).toNatClampNeg))]) (s2 := []) (h2 := hh S) 1 (fun n => B_145_28 n x1 x2 S) c9 ?_
        by_cases c10 : ((S.1 42 ((0 : Int32)).toNatClampNeg) - (S.1 42 (x1).toNatClampNeg)) < (-2)
        · rw [if_pos c10] at hG
          refine Ev.t (c := ((S.1 42 ((0 : Int32)).toNatClampNeg) - (S.1 42 (x1).toNatClampNeg)) < (-2)) (p1 := 157) (L1 := [.ref 29, .int x1, .int x2, .int ((S.1 42 ((0 : Int32)).toNatClampNeg) - (S.1 42 (x1).toNatClampNeg)), .int ((S.1 43 ((0 : Int32)).toNatClampNeg) - (S.1 43 (x1).toNatClampNeg))]) (s1 := []) (h1 := hh S) (p2 := 132) (L2 := [.ref 29, .int x1, .int x2, .int ((S.1 42 ((0 : Int32)).toNatClampNeg) - (S.1 42 (x1).toNatClampNeg)), .int ((S.1 43 ((0 : Int32)).toNatClampNeg) - (S.1 43 (x1).toNatClampNeg))]) (s2 := []) (h2 := hh S) 3 (fun n => B_145_29 n x1 x2 S) c10 ?_
          refine Ev.g (c := (kd 42).1 = 0 ∧ xa_in (0 : Int32) (kd 42).2) (p1 := 165) (L1 := [.ref 29, .int x1, .int x2, .int ((S.1 42 ((0 : Int32)).toNatClampNeg) - (S.1 42 (x1).toNatClampNeg)), .int ((S.1 43 ((0 : Int32)).toNatClampNeg) - (S.1 43 (x1).toNatClampNeg))]) (s1 := [.int (S.1 42 ((0 : Int32)).toNatClampNeg), .int x1, .ref 29]) (h1 := hh S) 6 (fun n => B_145_30 n x1 x2 S) (⟨rfl, by decide⟩) ?_
          refine Ev.g (c := (kd 43).1 = 0 ∧ xa_in (0 : Int32) (kd 43).2) (p1 := 171) (L1 := [.ref 29, .int x1, .int x2, .int ((S.1 42 ((0 : Int32)).toNatClampNeg) - (S.1 42 (x1).toNatClampNeg)), .int ((S.1 43 ((0 : Int32)).toNatClampNeg) - (S.1 43 (x1).toNatClampNeg))]) (s1 := [.int (S.1 43 ((0 : Int32)).toNatClampNeg), .int (S.1 42 ((0 : Int32)).toNatClampNeg), .int x1, .ref 29]) (h1 := hh S) 4 (fun n => B_145_31 n x1 x2 S) (⟨rfl, by decide⟩) ?_
          rcases h11 : G_147 S x1 (S.1 42 ((0 : Int32)).toNatClampNeg) (S.1 43 ((0 : Int32)).toNatClampNeg) with _ | ⟨v11, S11⟩
          · rw [h11] at hG; cases hG
          rw [h11] at hG
          dsimp only at hG
          refine Ev.c (a := 147) (A := [.ref 29, .int x1, .int (S.1 42 ((0 : Int32)).toNatClampNeg), .int (S.1 43 ((0 : Int32)).toNatClampNeg), .retAddr 0]) (h1 := hh S) (pc' := 174) (L' := [.ref 29, .int x1, .int x2, .int ((S.1 42 ((0 : Int32)).toNatClampNeg) - (S.1 42 (x1).toNatClampNeg)), .int ((S.1 43 ((0 : Int32)).toNatClampNeg) - (S.1 43 (x1).toNatClampNeg))]) (rest := []) (r1 := none) (h2 := hh S11) 1 (fun n => B_145_32 n x1 x2 S) (Ev.up (by decide) (T_147 S x1 (S.1 42 ((0 : Int32)).toNatClampNeg) (S.1 43 ((0 : Int32)).toNatClampNeg) _ _ h11)) ?_
          show Ev X _ 145 174 [.ref 29, .int x1, .int x2, .int ((S.1 42 ((0 : Int32)).toNatClampNeg) - (S.1 42 (x1).toNatClampNeg)), .int ((S.1 43 ((0 : Int32)).toNatClampNeg) - (S.1 43 (x1).toNatClampNeg))] [] (hh S11) _
          obtain ⟨e1, e2⟩ := Prod.mk.inj (Option.some.inj hG)
          subst e1
          subst e2
          exact Ev.r 2 (fun n => rfl)
        · rw [if_neg c10] at hG
          refine Ev.f (c := ((S.1 42 ((0 : Int32)).toNatClampNeg) - (S.1 42 (x1).toNatClampNeg)) < (-2)) (p1 := 157) (L1 := [.ref 29, .int x1, .int x2, .int ((S.1 42 ((0 : Int32)).toNatClampNeg) - (S.1 42 (x1).toNatClampNeg)), .int ((S.1 43 ((0 : Int32)).toNatClampNeg) - (S.1 43 (x1).toNatClampNeg))]) (s1 := []) (h1 := hh S) (p2 := 132) (L2 := [.ref 29, .int x1, .int x2, .int ((S.1 42 ((0 : Int32)).toNatClampNeg) - (S.1 42 (x1).toNatClampNeg)), .int ((S.1 43 ((0 : Int32)).toNatClampNeg) - (S.1 43 (x1).toNatClampNeg))]) (s2 := []) (h2 := hh S) 3 (fun n => B_145_33 n x1 x2 S) c10 ?_
          by_cases c12 : 2 < ((S.1 42 ((0 : Int32)).toNatClampNeg) - (S.1 42 (x1).toNatClampNeg))
          · rw [if_pos c12] at hG
            refine Ev.t (c := 2 < ((S.1 42 ((0 : Int32)).toNatClampNeg) - (S.1 42 (x1).toNatClampNeg))) (p1 := 157) (L1 := [.ref 29, .int x1, .int x2, .int ((S.1 42 ((0 : Int32)).toNatClampNeg) - (S.1 42 (x1).toNatClampNeg)), .int ((S.1 43 ((0 : Int32)).toNatClampNeg) - (S.1 43 (x1).toNatClampNeg))]) (s1 := []) (h1 := hh S) (p2 := 137) (L2 := [.ref 29, .int x1, .int x2, .int ((S.1 42 ((0 : Int32)).toNatClampNeg) - (S.1 42 (x1).toNatClampNeg)), .int ((S.1 43 ((0 : Int32)).toNatClampNeg) - (S.1 43 (x1).toNatClampNeg))]) (s2 := []) (h2 := hh S) 3 (fun n => B_145_34 n x1 x2 S) c12 ?_
            refine Ev.g (c := (kd 42).1 = 0 ∧ xa_in (0 : Int32) (kd 42).2) (p1 := 165) (L1 := [.ref 29, .int x1, .int x2, .int ((S.1 42 ((0 : Int32)).toNatClampNeg) - (S.1 42 (x1).toNatClampNeg)), .int ((S.1 43 ((0 : Int32)).toNatClampNeg) - (S.1 43 (x1).toNatClampNeg))]) (s1 := [.int (S.1 42 ((0 : Int32)).toNatClampNeg), .int x1, .ref 29]) (h1 := hh S) 6 (fun n => B_145_35 n x1 x2 S) (⟨rfl, by decide⟩) ?_
            refine Ev.g (c := (kd 43).1 = 0 ∧ xa_in (0 : Int32) (kd 43).2) (p1 := 171) (L1 := [.ref 29, .int x1, .int x2, .int ((S.1 42 ((0 : Int32)).toNatClampNeg) - (S.1 42 (x1).toNatClampNeg)), .int ((S.1 43 ((0 : Int32)).toNatClampNeg) - (S.1 43 (x1).toNatClampNeg))]) (s1 := [.int (S.1 43 ((0 : Int32)).toNatClampNeg), .int (S.1 42 ((0 : Int32)).toNatClampNeg), .int x1, .ref 29]) (h1 := hh S) 4 (fun n => B_145_36 n x1 x2 S) (⟨rfl, by decide⟩) ?_
            rcases h13 : G_147 S x1 (S.1 42 ((0 : Int32)).toNatClampNeg) (S.1 43 ((0 : Int32)).toNatClampNeg) with _ | ⟨v13, S13⟩
            · rw [h13] at hG; cases hG
            rw [h13] at hG
            dsimp only at hG
            refine Ev.c (a := 147) (A := [.ref 29, .int x1, .int (S.1 42 ((0 : Int32)).toNatClampNeg), .int (S.1 43 ((0 : Int32)).toNatClampNeg), .retAddr 0]) (h1 := hh S) (pc' := 174) (L' := [.ref 29, .int x1, .int x2, .int ((S.1 42 ((0 : Int32)).toNatClampNeg) - (S.1 42 (x1).toNatClampNeg)), .int ((S.1 43 ((0 : Int32)).toNatClampNeg) - (S.1 43 (x1).toNatClampNeg))]) (rest := []) (r1 := none) (h2 := hh S13) 1 (fun n => B_145_37 n x1 x2 S) (Ev.up (by decide) (T_147 S x1 (S.1 42 ((0 : Int32)).toNatClampNeg) (S.1 43 ((0 : Int32)).toNatClampNeg) _ _ h13)) ?_
            show Ev X _ 145 174 [.ref 29, .int x1, .int x2, .int ((S.1 42 ((0 : Int32)).toNatClampNeg) - (S.1 42 (x1).toNatClampNeg)), .int ((S.1 43 ((0 : Int32)).toNatClampNeg) - (S.1 43 (x1).toNatClampNeg))] [] (hh S13) _
            obtain ⟨e1, e2⟩ := Prod.mk.inj (Option.some.inj hG)
            subst e1
            subst e2
            exact Ev.r 2 (fun n => rfl)
          · rw [if_neg c12] at hG
            refine Ev.f (c := 2 < ((S.1 42 ((0 : Int32)).toNatClampNeg) - (S.1 42 (x1).toNatClampNeg))) (p1 := 157) (L1 := [.ref 29, .int x1, .int x2, .int ((S.1 42 ((0 : Int32)).toNatClampNeg) - (S.1 42 (x1).toNatClampNeg)), .int ((S.1 43 ((0 : Int32)).toNatClampNeg) - (S.1 43 (x1).toNatClampNeg))]) (s1 := []) (h1 := hh S) (p2 := 137) (L2 := [.ref 29, .int x1, .int x2, .int ((S.1 42 ((0 : Int32)).toNatClampNeg) - (S.1 42 (x1).toNatClampNeg)), .int ((S.1 43 ((0 : Int32)).toNatClampNeg) - (S.1 43 (x1).toNatClampNeg))]) (s2 := []) (h2 := hh S) 3 (fun n => B_145_38 n x1 x2 S) c12 ?_
            by_cases c14 : ((S.1 43 ((0 : Int32)).toNatClampNeg) - (S.1 43 (x1).toNatClampNeg)) < (-1)
            · rw [if_pos c14] at hG
              refine Ev.t (c := ((S.1 43 ((0 : Int32)).toNatClampNeg) - (S.1 43 (x1).toNatClampNeg)) < (-1)) (p1 := 157) (L1 := [.ref 29, .int x1, .int x2, .int ((S.1 42 ((0 : Int32)).toNatClampNeg) - (S.1 42 (x1).toNatClampNeg)), .int ((S.1 43 ((0 : Int32)).toNatClampNeg) - (S.1 43 (x1).toNatClampNeg))]) (s1 := []) (h1 := hh S) (p2 := 143) (L2 := [.ref 29, .int x1, .int x2, .int ((S.1 42 ((0 : Int32)).toNatClampNeg) - (S.1 42 (x1).toNatClampNeg)), .int ((S.1 43 ((0 : Int32)).toNatClampNeg) - (S.1 43 (x1).toNatClampNeg))]) (s2 := []) (h2 := hh S) 3 (fun n => B_145_39 n x1 x2 S) c14 ?_
              refine Ev.g (c := (kd 42).1 = 0 ∧ xa_in (0 : Int32) (kd 42).2) (p1 := 165) (L1 := [.ref 29, .int x1, .int x2, .int ((S.1 42 ((0 : Int32)).toNatClampNeg) - (S.1 42 (x1).toNatClampNeg)), .int ((S.1 43 ((0 : Int32)).toNatClampNeg) - (S.1 43 (x1).toNatClampNeg))]) (s1 := [.int (S.1 42 ((0 : Int32)).toNatClampNeg), .int x1, .ref 29]) (h1 := hh S) 6 (fun n => B_145_40 n x1 x2 S) (⟨rfl, by decide⟩) ?_
              refine Ev.g (c := (kd 43).1 = 0 ∧ xa_in (0 : Int32) (kd 43).2) (p1 := 171) (L1 := [.ref 29, .int x1, .int x2, .int ((S.1 42 ((0 : Int32)).toNatClampNeg) - (S.1 42 (x1).toNatClampNeg)), .int ((S.1 43 ((0 : Int32)).toNatClampNeg) - (S.1 43 (x1).toNatClampNeg))]) (s1 := [.int (S.1 43 ((0 : Int32)).toNatClampNeg), .int (S.1 42 ((0 : Int32)).toNatClampNeg), .int x1, .ref 29]) (h1 := hh S) 4 (fun n => B_145_41 n x1 x2 S) (⟨rfl, by decide⟩) ?_
              rcases h15 : G_147 S x1 (S.1 42 ((0 : Int32)).toNatClampNeg) (S.1 43 ((0 : Int32)).toNatClampNeg) with _ | ⟨v15, S15⟩
              · rw [h15] at hG; cases hG
              rw [h15] at hG
              dsimp only at hG
              refine Ev.c (a := 147) (A := [.ref 29, .int x1, .int (S.1 42 ((0 : Int32)).toNatClampNeg), .int (S.1 43 ((0 : Int32)).toNatClampNeg), .retAddr 0]) (h1 := hh S) (pc' := 174) (L' := [.ref 29, .int x1, .int x2, .int ((S.1 42 ((0 : Int32)).toNatClampNeg) - (S.1 42 (x1).toNatClampNeg)), .int ((S.1 43 ((0 : Int32)).toNatClampNeg) - (S.1 43 (x1).toNatClampNeg))]) (rest := []) (r1 := none) (h2 := hh S15) 1 (fun n => B_145_42 n x1 x2 S) (Ev.up (by decide) (T_147 S x1 (S.1 42 ((0 : Int32)).toNatClampNeg) (S.1 43 ((0 : Int32)).toNatClampNeg) _ _ h15)) ?_
              show Ev X _ 145 174 [.ref 29, .int x1, .int x2, .int ((S.1 42 ((0 : Int32)).toNatClampNeg) - (S.1 42 (x1).toNatClampNeg)), .int ((S.1 43 ((0 : Int32)).toNatClampNeg) - (S.1 43 (x1).toNatClampNeg))] [] (hh S15) _
              obtain ⟨e1, e2⟩ := Prod.mk.inj (Option.some.inj hG)
              subst e1
              subst e2
              exact Ev.r 2 (fun n => rfl)
            · rw [if_neg c14] at hG
              refine Ev.f (c := ((S.1 43 ((0 : Int32)).toNatClampNeg) - (S.1 43 (x1).toNatClampNeg)) < (-1)) (p1 := 157) (L1 := [.ref 29, .int x1, .int x2, .int ((S.1 42 ((0 : Int32)).toNatClampNeg) - (S.1 42 (x1).toNatClampNeg)), .int ((S.1 43 ((0 : Int32)).toNatClampNeg) - (S.1 43 (x1).toNatClampNeg))]) (s1 := []) (h1 := hh S) (p2 := 143) (L2 := [.ref 29, .int x1, .int x2, .int ((S.1 42 ((0 : Int32)).toNatClampNeg) - (S.1 42 (x1).toNatClampNeg)), .int ((S.1 43 ((0 : Int32)).toNatClampNeg) - (S.1 43 (x1).toNatClampNeg))]) (s2 := []) (h2 := hh S) 3 (fun n => B_145_43 n x1 x2 S) c14 ?_
              by_cases c16 : 1 < ((S.1 43 ((0 : Int32)).toNatClampNeg) - (S.1 43 (x1).toNatClampNeg))
              · rw [if_pos c16] at hG
                refine Ev.t (c := 1 < ((S.1 43 ((0 : Int32)).toNatClampNeg) - (S.1 43 (x1).toNatClampNeg))) (p1 := 157) (L1 := [.ref 29, .int x1, .int x2, .int ((S.1 42 ((0 : Int32)).toNatClampNeg) - (S.1 42 (x1).toNatClampNeg)), .int ((S.1 43 ((0 : Int32)).toNatClampNeg) - (S.1 43 (x1).toNatClampNeg))]) (s1 := []) (h1 := hh S) (p2 := 149) (L2 := [.ref 29, .int x1, .int x2, .int ((S.1 42 ((0 : Int32)).toNatClampNeg) - (S.1 42 (x1).toNatClampNeg)), .int ((S.1 43 ((0 : Int32)).toNatClampNeg) - (S.1 43 (x1).toNatClampNeg))]) (s2 := []) (h2 := hh S) 3 (fun n => B_145_44 n x1 x2 S) c16 ?_
                refine Ev.g (c := (kd 42).1 = 0 ∧ xa_in (0 : Int32) (kd 42).2) (p1 := 165) (L1 := [.ref 29, .int x1, .int x2, .int ((S.1 42 ((0 : Int32)).toNatClampNeg) - (S.1 42 (x1).toNatClampNeg)), .int ((S.1 43 ((0 : Int32)).toNatClampNeg) - (S.1 43 (x1).toNatClampNeg))]) (s1 := [.int (S.1 42 ((0 : Int32)).toNatClampNeg), .int x1, .ref 29]) (h1 := hh S) 6 (fun n => B_145_45 n x1 x2 S) (⟨rfl, by decide⟩) ?_
                refine Ev.g (c := (kd 43).1 = 0 ∧ xa_in (0 : Int32) (kd 43).2) (p1 := 171) (L1 := [.ref 29, .int x1, .int x2, .int ((S.1 42 ((0 : Int32)).toNatClampNeg) - (S.1 42 (x1).toNatClampNeg)), .int ((S.1 43 ((0 : Int32)).toNatClampNeg) - (S.1 43 (x1).toNatClampNeg))]) (s1 := [.int (S.1 43 ((0 : Int32)).toNatClampNeg), .int (S.1 42 ((0 : Int32)).toNatClampNeg), .int x1, .ref 29]) (h1 := hh S) 4 (fun n => B_145_46 n x1 x2 S) (⟨rfl, by decide⟩) ?_
                rcases h17 : G_147 S x1 (S.1 42 ((0 : Int32)).toNatClampNeg) (S.1 43 ((0 : Int32)).toNatClampNeg) with _ | ⟨v17, S17⟩
                · rw [h17] at hG; cases hG
                rw [h17] at hG
                dsimp only at hG
                refine Ev.c (a := 147) (A := [.ref 29, .int x1, .int (S.1 42 ((0 : Int32)).toNatClampNeg), .int (S.1 43 ((0 : Int32)).toNatClampNeg), .retAddr 0]) (h1 := hh S) (pc' := 174) (L' := [.ref 29, .int x1, .int x2, .int ((S.1 42 ((0 : Int32)).toNatClampNeg) - (S.1 42 (x1).toNatClampNeg)), .int ((S.1 43 ((0 : Int32)).toNatClampNeg) - (S.1 43 (x1).toNatClampNeg))]) (rest := []) (r1 := none) (h2 := hh S17) 1 (fun n => B_145_47 n x1 x2 S) (Ev.up (by decide) (T_147 S x1 (S.1 42 ((0 : Int32)).toNatClampNeg) (S.1 43 ((0 : Int32)).toNatClampNeg) _ _ h17)) ?_
                show Ev X _ 145 174 [.ref 29, .int x1, .int x2, .int ((S.1 42 ((0 : Int32)).toNatClampNeg) - (S.1 42 (x1).toNatClampNeg)), .int ((S.1 43 ((0 : Int32)).toNatClampNeg) - (S.1 43 (x1).toNatClampNeg))] [] (hh S17) _
                obtain ⟨e1, e2⟩ := Prod.mk.inj (Option.some.inj hG)
                subst e1
                subst e2
                exact Ev.r 2 (fun n => rfl)
              · rw [if_neg c16] at hG
                refine Ev.f (c := 1 < ((S.1 43 ((0 : Int32)).toNatClampNeg) - (S.1 43 (x1).toNatClampNeg))) (p1 := 157) (L1 := [.ref 29, .int x1, .int x2, .int ((S.1 42 ((0 : Int32)).toNatClampNeg) - (S.1 42 (x1).toNatClampNeg)), .int ((S.1 43 ((0 : Int32)).toNatClampNeg) - (S.1 43 (x1).toNatClampNeg))]) (s1 := []) (h1 := hh S) (p2 := 149) (L2 := [.ref 29, .int x1, .int x2, .int ((S.1 42 ((0 : Int32)).toNatClampNeg) - (S.1 42 (x1).toNatClampNeg)), .int ((S.1 43 ((0 : Int32)).toNatClampNeg) - (S.1 43 (x1).toNatClampNeg))]) (s2 := []) (h2 := hh S) 3 (fun n => B_145_48 n x1 x2 S) c16 ?_
                rcases h18 : G_146 S x1 with _ | ⟨v18, S18⟩
                · rw [h18] at hG; cases hG
                rw [h18] at hG
                dsimp only at hG
                refine Ev.c (a := 146) (A := [.ref 29, .int x1]) (h1 := hh S) (pc' := 154) (L' := [.ref 29, .int x1, .int x2, .int ((S.1 42 ((0 : Int32)).toNatClampNeg) - (S.1 42 (x1).toNatClampNeg)), .int ((S.1 43 ((0 : Int32)).toNatClampNeg) - (S.1 43 (x1).toNatClampNeg))]) (rest := []) (r1 := none) (h2 := hh S18) 3 (fun n => B_145_49 n x1 x2 S) (Ev.up (by decide) (T_146 S x1 _ _ h18)) ?_
                show Ev X _ 145 154 [.ref 29, .int x1, .int x2, .int ((S.1 42 ((0 : Int32)).toNatClampNeg) - (S.1 42 (x1).toNatClampNeg)), .int ((S.1 43 ((0 : Int32)).toNatClampNeg) - (S.1 43 (x1).toNatClampNeg))] [] (hh S18) _
                obtain ⟨e1, e2⟩ := Prod.mk.inj (Option.some.inj hG)
                subst e1
                subst e2
                exact Ev.r 2 (fun n => rfl)
    · rw [if_neg c8] at hG
      refine Ev.f (c := (S.1 47 (x1).toNatClampNeg) = 2) (p1 := 107) (L1 := [.ref 29, .int x1, .int x2, .int ((S.1 42 ((0 : Int32)).toNatClampNeg) - (S.1 42 (x1).toNatClampNeg)), .int ((S.1 43 ((0 : Int32)).toNatClampNeg) - (S.1 43 (x1).toNatClampNeg))]) (s1 := []) (h1 := hh S) (p2 := 177) (L2 := [.ref 29, .int x1, .int x2, .int ((S.1 42 ((0 : Int32)).toNatClampNeg) - (S.1 42 (x1).toNatClampNeg)), .int ((S.1 43 ((0 : Int32)).toNatClampNeg) - (S.1 43 (x1).toNatClampNeg))]) (s2 := []) (h2 := hh S) 2 (fun n => B_145_50 n x1 x2 S) c8 ?_
      refine Ev.g (c := (kd 47).1 = 0 ∧ xa_in x1 (kd 47).2) (p1 := 183) (L1 := [.ref 29, .int x1, .int x2, .int ((S.1 42 ((0 : Int32)).toNatClampNeg) - (S.1 42 (x1).toNatClampNeg)), .int ((S.1 43 ((0 : Int32)).toNatClampNeg) - (S.1 43 (x1).toNatClampNeg))]) (s1 := [.int (S.1 47 (x1).toNatClampNeg)]) (h1 := hh S) 4 (fun n => B_145_51 n x1 x2 S) (⟨rfl, g1⟩) ?_
      by_cases c19 : (S.1 47 (x1).toNatClampNeg) = 3
      · rw [if_pos c19] at hG
        refine Ev.t (c := (S.1 47 (x1).toNatClampNeg) = 3) (p1 := 187) (L1 := [.ref 29, .int x1, .int x2, .int ((S.1 42 ((0 : Int32)).toNatClampNeg) - (S.1 42 (x1).toNatClampNeg)), .int ((S.1 43 ((0 : Int32)).toNatClampNeg) - (S.1 43 (x1).toNatClampNeg))]) (s1 := []) (h1 := hh S) (p2 := 210) (L2 := [.ref 29, .int x1, .int x2, .int ((S.1 42 ((0 : Int32)).toNatClampNeg) - (S.1 42 (x1).toNatClampNeg)), .int ((S.1 43 ((0 : Int32)).toNatClampNeg) - (S.1 43 (x1).toNatClampNeg))]) (s2 := []) (h2 := hh S) 2 (fun n => B_145_52 n x1 x2 S) c19 ?_
        refine Ev.g (c := (kd 54).1 = 1 ∧ xa_in x1 (kd 54).2) (p1 := 193) (L1 := [.ref 29, .int x1, .int x2, .int ((S.1 42 ((0 : Int32)).toNatClampNeg) - (S.1 42 (x1).toNatClampNeg)), .int ((S.1 43 ((0 : Int32)).toNatClampNeg) - (S.1 43 (x1).toNatClampNeg))]) (s1 := [.int (S.1 54 (x1).toNatClampNeg)]) (h1 := hh S) 4 (fun n => B_145_53 n x1 x2 S) (⟨rfl, g1⟩) ?_
        by_cases c20 : (S.1 54 (x1).toNatClampNeg) = 0
        · rw [if_pos c20] at hG
          refine Ev.t (c := (S.1 54 (x1).toNatClampNeg) = 0) (p1 := 196) (L1 := [.ref 29, .int x1, .int x2, .int ((S.1 42 ((0 : Int32)).toNatClampNeg) - (S.1 42 (x1).toNatClampNeg)), .int ((S.1 43 ((0 : Int32)).toNatClampNeg) - (S.1 43 (x1).toNatClampNeg))]) (s1 := []) (h1 := hh S) (p2 := 210) (L2 := [.ref 29, .int x1, .int x2, .int ((S.1 42 ((0 : Int32)).toNatClampNeg) - (S.1 42 (x1).toNatClampNeg)), .int ((S.1 43 ((0 : Int32)).toNatClampNeg) - (S.1 43 (x1).toNatClampNeg))]) (s2 := []) (h2 := hh S) 1 (fun n => B_145_54 n x1 x2 S) c20 ?_
          refine Ev.z (c := (8 : Int32) = 0) (p1 := 208) (L1 := [.ref 29, .int x1, .int x2, .int ((S.1 42 ((0 : Int32)).toNatClampNeg) - (S.1 42 (x1).toNatClampNeg)), .int ((S.1 43 ((0 : Int32)).toNatClampNeg) - (S.1 43 (x1).toNatClampNeg))]) (s1 := [.int ((x2 + x1) - (x2 + x1) / 8 * 8), .int 1, .int x1, .ref 46]) (h1 := hh S) 9 (fun n => B_145_55 n x1 x2 S) (by decide) ?_
          refine Ev.g (c := (kd 46).1 = 0 ∧ xa_in x1 (kd 46).2) (p1 := 210) (L1 := [.ref 29, .int x1, .int x2, .int ((S.1 42 ((0 : Int32)).toNatClampNeg) - (S.1 42 (x1).toNatClampNeg)), .int ((S.1 43 ((0 : Int32)).toNatClampNeg) - (S.1 43 (x1).toNatClampNeg))]) (s1 := []) (h1 := hh (xa_u S.1 46 ((x1).toNatClampNeg) (1 + ((x2 + x1) - (x2 + x1) / 8 * 8)), S.2.1, S.2.2)) 2 (fun n => B_145_56 n x1 x2 S) (⟨rfl, g1⟩) ?_
          obtain ⟨e1, e2⟩ := Prod.mk.inj (Option.some.inj hG)
          subst e1
          subst e2
          exact Ev.r 1 (fun n => rfl)
        · rw [if_neg c20] at hG
          refine Ev.f (c := (S.1 54 (x1).toNatClampNeg) = 0) (p1 := 196) (L1 := [.ref 29, .int x1, .int x2, .int ((S.1 42 ((0 : Int32)).toNatClampNeg) - (S.1 42 (x1).toNatClampNeg)), .int ((S.1 43 ((0 : Int32)).toNatClampNeg) - (S.1 43 (x1).toNatClampNeg))]) (s1 := []) (h1 := hh S) (p2 := 210) (L2 := [.ref 29, .int x1, .int x2, .int ((S.1 42 ((0 : Int32)).toNatClampNeg) - (S.1 42 (x1).toNatClampNeg)), .int ((S.1 43 ((0 : Int32)).toNatClampNeg) - (S.1 43 (x1).toNatClampNeg))]) (s2 := []) (h2 := hh S) 1 (fun n => B_145_57 n x1 x2 S) c20 ?_
          obtain ⟨e1, e2⟩ := Prod.mk.inj (Option.some.inj hG)
          subst e1
          subst e2
          exact Ev.r 1 (fun n => rfl)
      · rw [if_neg c19] at hG
        refine Ev.f (c := (S.1 47 (x1).toNatClampNeg) = 3) (p1 := 187) (L1 := [.ref 29, .int x1, .int x2, .int ((S.1 42 ((0 : Int32)).toNatClampNeg) - (S.1 42 (x1).toNatClampNeg)), .int ((S.1 43 ((0 : Int32)).toNatClampNeg) - (S.1 43 (x1).toNatClampNeg))]) (s1 := []) (h1 := hh S) (p2 := 210) (L2 := [.ref 29, .int x1, .int x2, .int ((S.1 42 ((0 : Int32)).toNatClampNeg) - (S.1 42 (x1).toNatClampNeg)), .int ((S.1 43 ((0 : Int32)).toNatClampNeg) - (S.1 43 (x1).toNatClampNeg))]) (s2 := []) (h2 := hh S) 2 (fun n => B_145_58 n x1 x2 S) c19 ?_
        obtain ⟨e1, e2⟩ := Prod.mk.inj (Option.some.inj hG)
        subst e1
        subst e2
        exact Ev.r 1 (fun n => rfl)
/-- 152: SceneCycleModel.edge(III)I -/
def G_152 (S : St) (x0 : Int32) (x1 : Int32) (x2 : Int32) : Option (Int32 × St) :=
  (if 0 ≤ x0 then
    (if (x0 + x2) ≤ 16 then
      (if x1 ≤ 11 then
        (if 3 ≤ x1 then
          some (0, S)
        else
          some (1, S)
        )
      else
        some (3, S)
      )
    else
      some (2, S)
    )
  else
    some (4, S)
  )
theorem B_152_1 {X : Nat × (Nat → Int32)} {d : Nat} (n : Nat) (x0 : Int32) (x1 : Int32) (x2 : Int32) (S : St) : ex X d 152 0 [.int x0, .int x1, .int x2] [] (hh S) (n + 2) = if 0 ≤ x0 then ex X d 152 8 [.int x0, .int x1, .int x2] [] (hh S) n else ex X d 152 4 [.int x0, .int x1, .int x2] [] (hh S) n := rfl
theorem B_152_2 {X : Nat × (Nat → Int32)} {d : Nat} (n : Nat) (x0 : Int32) (x1 : Int32) (x2 : Int32) (S : St) : ex X d 152 8 [.int x0, .int x1, .int x2] [] (hh S) (n + 5) = if (x0 + x2) ≤ 16 then ex X d 152 20 [.int x0, .int x1, .int x2] [] (hh S) n else ex X d 152 16 [.int x0, .int x1, .int x2] [] (hh S) n := rfl
theorem B_152_3 {X : Nat × (Nat → Int32)} {d : Nat} (n : Nat) (x0 : Int32) (x1 : Int32) (x2 : Int32) (S : St) : ex X d 152 20 [.int x0, .int x1, .int x2] [] (hh S) (n + 3) = if x1 ≤ 11 then ex X d 152 30 [.int x0, .int x1, .int x2] [] (hh S) n else ex X d 152 26 [.int x0, .int x1, .int x2] [] (hh S) n := rfl
theorem B_152_4 {X : Nat × (Nat → Int32)} {d : Nat} (n : Nat) (x0 : Int32) (x1 : Int32) (x2 : Int32) (S : St) : ex X d 152 30 [.int x0, .int x1, .int x2] [] (hh S) (n + 3) = if 3 ≤ x1 then ex X d 152 39 [.int x0, .int x1, .int x2] [] (hh S) n else ex X d 152 35 [.int x0, .int x1, .int x2] [] (hh S) n := rfl
theorem B_152_5 {X : Nat × (Nat → Int32)} {d : Nat} (n : Nat) (x0 : Int32) (x1 : Int32) (x2 : Int32) (S : St) : ex X d 152 30 [.int x0, .int x1, .int x2] [] (hh S) (n + 3) = if 3 ≤ x1 then ex X d 152 39 [.int x0, .int x1, .int x2] [] (hh S) n else ex X d 152 35 [.int x0, .int x1, .int x2] [] (hh S) n := rfl
theorem B_152_6 {X : Nat × (Nat → Int32)} {d : Nat} (n : Nat) (x0 : Int32) (x1 : Int32) (x2 : Int32) (S : St) : ex X d 152 20 [.int x0, .int x1, .int x2] [] (hh S) (n + 3) = if x1 ≤ 11 then ex X d 152 30 [.int x0, .int x1, .int x2] [] (hh S) n else ex X d 152 26 [.int x0, .int x1, .int x2] [] (hh S) n := rfl
theorem B_152_7 {X : Nat × (Nat → Int32)} {d : Nat} (n : Nat) (x0 : Int32) (x1 : Int32) (x2 : Int32) (S : St) : ex X d 152 8 [.int x0, .int x1, .int x2] [] (hh S) (n + 5) = if (x0 + x2) ≤ 16 then ex X d 152 20 [.int x0, .int x1, .int x2] [] (hh S) n else ex X d 152 16 [.int x0, .int x1, .int x2] [] (hh S) n := rfl
theorem B_152_8 {X : Nat × (Nat → Int32)} {d : Nat} (n : Nat) (x0 : Int32) (x1 : Int32) (x2 : Int32) (S : St) : ex X d 152 0 [.int x0, .int x1, .int x2] [] (hh S) (n + 2) = if 0 ≤ x0 then ex X d 152 8 [.int x0, .int x1, .int x2] [] (hh S) n else ex X d 152 4 [.int x0, .int x1, .int x2] [] (hh S) n := rfl
set_option maxRecDepth 200000 in
theorem T_152 {X : Nat × (Nat → Int32)} (S : St) (x0 : Int32) (x1 : Int32) (x2 : Int32) (r : Int32) (S' : St) (hG : G_152 S x0 x1 x2 = some (r, S')) : Ev X 0 152 0 [.int x0, .int x1, .int x2] [] (hh S) (xI r, hh S') := by
  unfold G_152 at hG
  by_cases c1 : 0 ≤ x0
  · rw [if_pos c1] at hG
    refine Ev.t (c := 0 ≤ x0) (p1 := 8) (L1 := [.int x0, .int x1, .int x2]) (s1 := []) (h1 := hh S) (p2 := 4) (L2 := [.int x0, .int x1, .int x2]) (s2 := []) (h2 := hh S) 2 (fun n => B_152_1 n x0 x1 x2 S) c1 ?_
    by_cases c2 : (x0 + x2) ≤ 16
    · rw [if_pos c2] at hG
      refine Ev.t (c := (x0 + x2) ≤ 16) (p1 := 20) (L1 := [.int x0, .int x1, .int x2]) (s1 := []) (h1 := hh S) (p2 := 16) (L2 := [.int x0, .int x1, .int x2]) (s2 := []) (h2 := hh S) 5 (fun n => B_152_2 n x0 x1 x2 S) c2 ?_
      by_cases c3 : x1 ≤ 11
      · rw [if_pos c3] at hG
        refine Ev.t (c := x1 ≤ 11) (p1 := 30) (L1 := [.int x0, .int x1, .int x2]) (s1 := []) (h1 := hh S) (p2 := 26) (L2 := [.int x0, .int x1, .int x2]) (s2 := []) (h2 := hh S) 3 (fun n => B_152_3 n x0 x1 x2 S) c3 ?_
        by_cases c4 : 3 ≤ x1
        · rw [if_pos c4] at hG
          refine Ev.t (c := 3 ≤ x1) (p1 := 39) (L1 := [.int x0, .int x1, .int x2]) (s1 := []) (h1 := hh S) (p2 := 35) (L2 := [.int x0, .int x1, .int x2]) (s2 := []) (h2 := hh S) 3 (fun n => B_152_4 n x0 x1 x2 S) c4 ?_
          obtain ⟨e1, e2⟩ := Prod.mk.inj (Option.some.inj hG)
          subst e1
          subst e2
          exact Ev.r 2 (fun n => rfl)
        · rw [if_neg c4] at hG
          refine Ev.f (c := 3 ≤ x1) (p1 := 39) (L1 := [.int x0, .int x1, .int x2]) (s1 := []) (h1 := hh S) (p2 := 35) (L2 := [.int x0, .int x1, .int x2]) (s2 := []) (h2 := hh S) 3 (fun n => B_152_5 n x0 x1 x2 S) c4 ?_
          obtain ⟨e1, e2⟩ := Prod.mk.inj (Option.some.inj hG)
          subst e1
          subst e2
          exact Ev.r 3 (fun n => rfl)
      · rw [if_neg c3] at hG
        refine Ev.f (c := x1 ≤ 11) (p1 := 30) (L1 := [.int x0, .int x1, .int x2]) (s1 := []) (h1 := hh S) (p2 := 26) (L2 := [.int x0, .int x1, .int x2]) (s2 := []) (h2 := hh S) 3 (fun n => B_152_6 n x0 x1 x2 S) c3 ?_
        obtain ⟨e1, e2⟩ := Prod.mk.inj (Option.some.inj hG)
        subst e1
        subst e2
        exact Ev.r 3 (fun n => rfl)
    · rw [if_neg c2] at hG
      refine Ev.f (c := (x0 + x2) ≤ 16) (p1 := 20) (L1 := [.int x0, .int x1, .int x2]) (s1 := []) (h1 := hh S) (p2 := 16) (L2 := [.int x0, .int x1, .int x2]) (s2 := []) (h2 := hh S) 5 (fun n => B_152_7 n x0 x1 x2 S) c2 ?_
      obtain ⟨e1, e2⟩ := Prod.mk.inj (Option.some.inj hG)
      subst e1
      subst e2
      exact Ev.r 3 (fun n => rfl)
  · rw [if_neg c1] at hG
    refine Ev.f (c := 0 ≤ x0) (p1 := 8) (L1 := [.int x0, .int x1, .int x2]) (s1 := []) (h1 := hh S) (p2 := 4) (L2 := [.int x0, .int x1, .int x2]) (s2 := []) (h2 := hh S) 2 (fun n => B_152_8 n x0 x1 x2 S) c1 ?_
    obtain ⟨e1, e2⟩ := Prod.mk.inj (Option.some.inj hG)
    subst e1
    subst e2
    exact Ev.r 3 (fun n => rfl)
/-- 154: SceneCycleModel.priority(I)I -/
def G_154 (S : St) (x1 : Int32) : Option (Int32 × St) :=
  (if xa_in x1 4 then
    (if (S.1 48 (x1).toNatClampNeg) = 0 then
      some ((4 + ((11 * (S.1 43 (x1).toNatClampNeg)) / 16)), S)
    else
      some ((S.1 48 (x1).toNatClampNeg), S)
    )
  else none)
theorem B_154_1 {X : Nat × (Nat → Int32)} {d : Nat} (n : Nat) (x1 : Int32) (S : St) : ex X d 154 0 [.ref 29, .int x1] [] (hh S) (n + 4) = if (kd 48).1 = 0 ∧ xa_in x1 (kd 48).2 then ex X d 154 6 [.ref 29, .int x1] [.int (S.1 48 (x1).toNatClampNeg)] (hh S) n else none := rfl
theorem B_154_2 {X : Nat × (Nat → Int32)} {d : Nat} (n : Nat) (x1 : Int32) (S : St) : ex X d 154 6 [.ref 29, .int x1] [.int (S.1 48 (x1).toNatClampNeg)] (hh S) (n + 1) = if (S.1 48 (x1).toNatClampNeg) = 0 then ex X d 154 18 [.ref 29, .int x1] [] (hh S) n else ex X d 154 9 [.ref 29, .int x1] [] (hh S) n := rfl
theorem B_154_3 {X : Nat × (Nat → Int32)} {d : Nat} (n : Nat) (x1 : Int32) (S : St) : ex X d 154 18 [.ref 29, .int x1] [] (hh S) (n + 6) = if (kd 43).1 = 0 ∧ xa_in x1 (kd 43).2 then ex X d 154 27 [.ref 29, .int x1] [.int (S.1 43 (x1).toNatClampNeg), .int 11, .int 4] (hh S) n else none := rfl
theorem B_154_4 {X : Nat × (Nat → Int32)} {d : Nat} (n : Nat) (x1 : Int32) (S : St) : ex X d 154 27 [.ref 29, .int x1] [.int (S.1 43 (x1).toNatClampNeg), .int 11, .int 4] (hh S) (n + 3) = if (16 : Int32) = 0 then none else ex X d 154 31 [.ref 29, .int x1] [.int ((11 * (S.1 43 (x1).toNatClampNeg)) / 16), .int 4] (hh S) n := rfl
theorem B_154_5 {X : Nat × (Nat → Int32)} {d : Nat} (n : Nat) (x1 : Int32) (S : St) : ex X d 154 6 [.ref 29, .int x1] [.int (S.1 48 (x1).toNatClampNeg)] (hh S) (n + 1) = if (S.1 48 (x1).toNatClampNeg) = 0 then ex X d 154 18 [.ref 29, .int x1] [] (hh S) n else ex X d 154 9 [.ref 29, .int x1] [] (hh S) n := rfl
theorem B_154_6 {X : Nat × (Nat → Int32)} {d : Nat} (n : Nat) (x1 : Int32) (S : St) : ex X d 154 9 [.ref 29, .int x1] [] (hh S) (n + 4) = if (kd 48).1 = 0 ∧ xa_in x1 (kd 48).2 then ex X d 154 15 [.ref 29, .int x1] [.int (S.1 48 (x1).toNatClampNeg)] (hh S) n else none := rfl
set_option maxRecDepth 200000 in
theorem T_154 {X : Nat × (Nat → Int32)} (S : St) (x1 : Int32) (r : Int32) (S' : St) (hG : G_154 S x1 = some (r, S')) : Ev X 0 154 0 [.ref 29, .int x1] [] (hh S) (xI r, hh S') := by
  unfold G_154 at hG
  by_cases g1 : xa_in x1 4
  rotate_left
  · rw [if_neg g1] at hG; cases hG
  rw [if_pos g1] at hG
  refine Ev.g (c := (kd 48).1 = 0 ∧ xa_in x1 (kd 48).2) (p1 := 6) (L1 := [.ref 29, .int x1]) (s1 := [.int (S.1 48 (x1).toNatClampNeg)]) (h1 := hh S) 4 (fun n => B_154_1 n x1 S) (⟨rfl, g1⟩) ?_
  by_cases c2 : (S.1 48 (x1).toNatClampNeg) = 0
  · rw [if_pos c2] at hG
    refine Ev.t (c := (S.1 48 (x1).toNatClampNeg) = 0) (p1 := 18) (L1 := [.ref 29, .int x1]) (s1 := []) (h1 := hh S) (p2 := 9) (L2 := [.ref 29, .int x1]) (s2 := []) (h2 := hh S) 1 (fun n => B_154_2 n x1 S) c2 ?_
    refine Ev.g (c := (kd 43).1 = 0 ∧ xa_in x1 (kd 43).2) (p1 := 27) (L1 := [.ref 29, .int x1]) (s1 := [.int (S.1 43 (x1).toNatClampNeg), .int 11, .int 4]) (h1 := hh S) 6 (fun n => B_154_3 n x1 S) (⟨rfl, g1⟩) ?_
    refine Ev.z (c := (16 : Int32) = 0) (p1 := 31) (L1 := [.ref 29, .int x1]) (s1 := [.int ((11 * (S.1 43 (x1).toNatClampNeg)) / 16), .int 4]) (h1 := hh S) 3 (fun n => B_154_4 n x1 S) (by decide) ?_
    obtain ⟨e1, e2⟩ := Prod.mk.inj (Option.some.inj hG)
    subst e1
    subst e2
    exact Ev.r 2 (fun n => rfl)
  · rw [if_neg c2] at hG
    refine Ev.f (c := (S.1 48 (x1).toNatClampNeg) = 0) (p1 := 18) (L1 := [.ref 29, .int x1]) (s1 := []) (h1 := hh S) (p2 := 9) (L2 := [.ref 29, .int x1]) (s2 := []) (h2 := hh S) 1 (fun n => B_154_5 n x1 S) c2 ?_
    refine Ev.g (c := (kd 48).1 = 0 ∧ xa_in x1 (kd 48).2) (p1 := 15) (L1 := [.ref 29, .int x1]) (s1 := [.int (S.1 48 (x1).toNatClampNeg)]) (h1 := hh S) 4 (fun n => B_154_6 n x1 S) (⟨rfl, g1⟩) ?_
    obtain ⟨e1, e2⟩ := Prod.mk.inj (Option.some.inj hG)
    subst e1
    subst e2
    exact Ev.r 2 (fun n => rfl)
/-- 153: SceneCycleModel.blocked(III)Z -/
def GL_153_0 : Nat → Nat → St → Int32 → Int32 → Int32 → Int32 → Int32 → Int32 → Option (Int32 × St)
  | 0, _, _, _, _, _, _, _, _ => none
  | n + 1, 0, S, y1, y2, y3, y4, y5, y7 =>
    (if xa_in y1 4 then
      (if (y2 + (S.1 44 (y1).toNatClampNeg)) ≤ y5 then
        (if (y4 = 0 ∨ y4 = 1) then some (y4, S) else none)
      else
        (if xa_in ((16 * y3) + y5) 192 then
          (if y4 = 0 then
            (match G_154 S y1 with
            | none => none
            | some (v6, S6) =>
              (if v6 = 15 then
                GL_153_0 n 1 S6 y1 y2 y3 (0 : Int32) y5 (0 : Int32)
              else
                (if (S.1 31 (((16 * y3) + y5)).toNatClampNeg) = 0 then
                  GL_153_0 n 1 S6 y1 y2 y3 (1 : Int32) y5 (0 : Int32)
                else
                  (if (S.1 31 (((16 * y3) + y5)).toNatClampNeg) = 1 then
                    (if (S6.1 50 (y1).toNatClampNeg) = 0 then
                      GL_153_0 n 1 S6 y1 y2 y3 (1 : Int32) y5 (0 : Int32)
                    else
                      GL_153_0 n 1 S6 y1 y2 y3 (0 : Int32) y5 (0 : Int32)
                    )
                  else
                    GL_153_0 n 1 S6 y1 y2 y3 (0 : Int32) y5 (0 : Int32)
                  )
                )
              )
            )
          else
            GL_153_0 n 1 S y1 y2 y3 (1 : Int32) y5 (0 : Int32)
          )
        else none)
      )
    else none)
  | n + 1, _ + 1, S, y1, y2, y3, y4, y5, y7 =>
    (if 4 ≤ y7 then
      GL_153_0 n 0 S y1 y2 y3 y4 (y5 + 1) 0
    else
      (if y4 = 0 then
        (if y7 = y1 then
          GL_153_0 n 1 S y1 y2 y3 (0 : Int32) y5 (y7 + 1)
        else
          (if xa_in y7 4 then
            (if (S.1 49 (y7).toNatClampNeg) = 0 then
              GL_153_0 n 1 S y1 y2 y3 (0 : Int32) y5 (y7 + 1)
            else
              (if (S.1 43 (y7).toNatClampNeg) = y3 then
                (if y5 < (S.1 42 (y7).toNatClampNeg) then
                  GL_153_0 n 1 S y1 y2 y3 (0 : Int32) y5 (y7 + 1)
                else
                  (if ((S.1 42 (y7).toNatClampNeg) + (S.1 44 (y7).toNatClampNeg)) ≤ y5 then
                    GL_153_0 n 1 S y1 y2 y3 (0 : Int32) y5 (y7 + 1)
                  else
                    GL_153_0 n 1 S y1 y2 y3 (1 : Int32) y5 (y7 + 1)
                  )
                )
              else
                GL_153_0 n 1 S y1 y2 y3 (0 : Int32) y5 (y7 + 1)
              )
            )
          else none)
        )
      else
        GL_153_0 n 1 S y1 y2 y3 (1 : Int32) y5 (y7 + 1)
      )
    )
theorem B_153_1 {X : Nat × (Nat → Int32)} {d : Nat} (n : Nat) (y1 : Int32) (y2 : Int32) (y3 : Int32) (y4 : Int32) (y5 : Int32) (w6 : Value) (w7 : Value) (S : St) : ex X d 153 6 [.ref 29, .int y1, .int y2, .int y3, .int y4, .int y5, w6, w7] [] (hh S) (n + 6) = if (kd 44).1 = 0 ∧ xa_in y1 (kd 44).2 then ex X d 153 15 [.ref 29, .int y1, .int y2, .int y3, .int y4, .int y5, w6, w7] [.int (S.1 44 (y1).toNatClampNeg), .int y2, .int y5] (hh S) n else none := rfl
theorem B_153_2 {X : Nat × (Nat → Int32)} {d : Nat} (n : Nat) (y1 : Int32) (y2 : Int32) (y3 : Int32) (y4 : Int32) (y5 : Int32) (w6 : Value) (w7 : Value) (S : St) : ex X d 153 15 [.ref 29, .int y1, .int y2, .int y3, .int y4, .int y5, w6, w7] [.int (S.1 44 (y1).toNatClampNeg), .int y2, .int y5] (hh S) (n + 2) = if (y2 + (S.1 44 (y1).toNatClampNeg)) ≤ y5 then ex X d 153 167 [.ref 29, .int y1, .int y2, .int y3, .int y4, .int y5, w6, w7] [] (hh S) n else ex X d 153 19 [.ref 29, .int y1, .int y2, .int y3, .int y4, .int y5, w6, w7] [] (hh S) n := rfl
theorem B_153_3 {X : Nat × (Nat → Int32)} {d : Nat} (n : Nat) (y1 : Int32) (y2 : Int32) (y3 : Int32) (y4 : Int32) (y5 : Int32) (w6 : Value) (w7 : Value) (S : St) : ex X d 153 15 [.ref 29, .int y1, .int y2, .int y3, .int y4, .int y5, w6, w7] [.int (S.1 44 (y1).toNatClampNeg), .int y2, .int y5] (hh S) (n + 2) = if (y2 + (S.1 44 (y1).toNatClampNeg)) ≤ y5 then ex X d 153 167 [.ref 29, .int y1, .int y2, .int y3, .int y4, .int y5, w6, w7] [] (hh S) n else ex X d 153 19 [.ref 29, .int y1, .int y2, .int y3, .int y4, .int y5, w6, w7] [] (hh S) n := rfl
theorem B_153_4 {X : Nat × (Nat → Int32)} {d : Nat} (n : Nat) (y1 : Int32) (y2 : Int32) (y3 : Int32) (y4 : Int32) (y5 : Int32) (w6 : Value) (w7 : Value) (S : St) : ex X d 153 19 [.ref 29, .int y1, .int y2, .int y3, .int y4, .int y5, w6, w7] [] (hh S) (n + 8) = if (kd 31).1 = 0 ∧ xa_in ((16 * y3) + y5) (kd 31).2 then ex X d 153 31 [.ref 29, .int y1, .int y2, .int y3, .int y4, .int y5, w6, w7] [.int (S.1 31 (((16 * y3) + y5)).toNatClampNeg)] (hh S) n else none := rfl
theorem B_153_5 {X : Nat × (Nat → Int32)} {d : Nat} (n : Nat) (y1 : Int32) (y2 : Int32) (y3 : Int32) (y4 : Int32) (y5 : Int32) (w6 : Value) (w7 : Value) (S : St) : ex X d 153 31 [.ref 29, .int y1, .int y2, .int y3, .int y4, .int y5, w6, w7] [.int (S.1 31 (((16 * y3) + y5)).toNatClampNeg)] (hh S) (n + 3) = if y4 = 0 then ex X d 153 38 [.ref 29, .int y1, .int y2, .int y3, .int y4, .int y5, .int (S.1 31 (((16 * y3) + y5)).toNatClampNeg), w7] [] (hh S) n else ex X d 153 68 [.ref 29, .int y1, .int y2, .int y3, .int y4, .int y5, .int (S.1 31 (((16 * y3) + y5)).toNatClampNeg), w7] [] (hh S) n := rfl
theorem B_153_6 {X : Nat × (Nat → Int32)} {d : Nat} (n : Nat) (y1 : Int32) (y2 : Int32) (y3 : Int32) (y4 : Int32) (y5 : Int32) (S : St) (w7 : Value) : ex X (d + 1) 153 38 [.ref 29, .int y1, .int y2, .int y3, .int y4, .int y5, .int (S.1 31 (((16 * y3) + y5)).toNatClampNeg), w7] [] (hh S) (n + 3) = (match ex X d 154 0 [.ref 29, .int y1] [] (hh S) n with | some (v, h') => ex X (d + 1) 153 43 [.ref 29, .int y1, .int y2, .int y3, .int y4, .int y5, .int (S.1 31 (((16 * y3) + y5)).toNatClampNeg), w7] (v.toList ++ []) h' n | none => none) := rfl
theorem B_153_7 {X : Nat × (Nat → Int32)} {d : Nat} (n : Nat) (y1 : Int32) (y2 : Int32) (y3 : Int32) (y4 : Int32) (y5 : Int32) (S : St) (w7 : Value) (v6 : Int32) (S6 : St) : ex X d 153 43 [.ref 29, .int y1, .int y2, .int y3, .int y4, .int y5, .int (S.1 31 (((16 * y3) + y5)).toNatClampNeg), w7] [.int v6] (hh S6) (n + 2) = if v6 = 15 then ex X d 153 72 [.ref 29, .int y1, .int y2, .int y3, .int y4, .int y5, .int (S.1 31 (((16 * y3) + y5)).toNatClampNeg), w7] [] (hh S6) n else ex X d 153 48 [.ref 29, .int y1, .int y2, .int y3, .int y4, .int y5, .int (S.1 31 (((16 * y3) + y5)).toNatClampNeg), w7] [] (hh S6) n := rfl
theorem B_153_8 {X : Nat × (Nat → Int32)} {d : Nat} (n : Nat) (y1 : Int32) (y2 : Int32) (y3 : Int32) (y4 : Int32) (y5 : Int32) (S : St) (w7 : Value) (S6 : St) : ex X d 153 72 [.ref 29, .int y1, .int y2, .int y3, .int y4, .int y5, .int (S.1 31 (((16 * y3) + y5)).toNatClampNeg), w7] [] (hh S6) (n + 4) = ex X d 153 78 [.ref 29, .int y1, .int y2, .int y3, .int 0, .int y5, .int (S.1 31 (((16 * y3) + y5)).toNatClampNeg), .int 0] [] (hh S6) n := rfl
theorem B_153_9 {X : Nat × (Nat → Int32)} {d : Nat} (n : Nat) (y1 : Int32) (y2 : Int32) (y3 : Int32) (y4 : Int32) (y5 : Int32) (S : St) (w7 : Value) (v6 : Int32) (S6 : St) : ex X d 153 43 [.ref 29, .int y1, .int y2, .int y3, .int y4, .int y5, .int (S.1 31 (((16 * y3) + y5)).toNatClampNeg), w7] [.int v6] (hh S6) (n + 2) = if v6 = 15 then ex X d 153 72 [.ref 29, .int y1, .int y2, .int y3, .int y4, .int y5, .int (S.1 31 (((16 * y3) + y5)).toNatClampNeg), w7] [] (hh S6) n else ex X d 153 48 [.ref 29, .int y1, .int y2, .int y3, .int y4, .int y5, .int (S.1 31 (((16 * y3) + y5)).toNatClampNeg), w7] [] (hh S6) n := rfl
theorem B_153_10 {X : Nat × (Nat → Int32)} {d : Nat} (n : Nat) (y1 : Int32) (y2 : Int32) (y3 : Int32) (y4 : Int32) (y5 : Int32) (S : St) (w7 : Value) (S6 : St) : ex X d 153 48 [.ref 29, .int y1, .int y2, .int y3, .int y4, .int y5, .int (S.1 31 (((16 * y3) + y5)).toNatClampNeg), w7] [] (hh S6) (n + 2) = if (S.1 31 (((16 * y3) + y5)).toNatClampNeg) = 0 then ex X d 153 68 [.ref 29, .int y1, .int y2, .int y3, .int y4, .int y5, .int (S.1 31 (((16 * y3) + y5)).toNatClampNeg), w7] [] (hh S6) n else ex X d 153 53 [.ref 29, .int y1, .int y2, .int y3, .int y4, .int y5, .int (S.1 31 (((16 * y3) + y5)).toNatClampNeg), w7] [] (hh S6) n := rfl
theorem B_153_11 {X : Nat × (Nat → Int32)} {d : Nat} (n : Nat) (y1 : Int32) (y2 : Int32) (y3 : Int32) (y4 : Int32) (y5 : Int32) (S : St) (w7 : Value) (S6 : St) : ex X d 153 68 [.ref 29, .int y1, .int y2, .int y3, .int y4, .int y5, .int (S.1 31 (((16 * y3) + y5)).toNatClampNeg), w7] [] (hh S6) (n + 5) = ex X d 153 78 [.ref 29, .int y1, .int y2, .int y3, .int 1, .int y5, .int (S.1 31 (((16 * y3) + y5)).toNatClampNeg), .int 0] [] (hh S6) n := rfl
theorem B_153_12 {X : Nat × (Nat → Int32)} {d : Nat} (n : Nat) (y1 : Int32) (y2 : Int32) (y3 : Int32) (y4 : Int32) (y5 : Int32) (S : St) (w7 : Value) (S6 : St) : ex X d 153 48 [.ref 29, .int y1, .int y2, .int y3, .int y4, .int y5, .int (S.1 31 (((16 * y3) + y5)).toNatClampNeg), w7] [] (hh S6) (n + 2) = if (S.1 31 (((16 * y3) + y5)).toNatClampNeg) = 0 then ex X d 153 68 [.ref 29, .int y1, .int y2, .int y3, .int y4, .int y5, .int (S.1 31 (((16 * y3) + y5)).toNatClampNeg), w7] [] (hh S6) n else ex X d 153 53 [.ref 29, .int y1, .int y2, .int y3, .int y4, .int y5, .int (S.1 31 (((16 * y3) + y5)).toNatClampNeg), w7] [] (hh S6) n := rfl
theorem B_153_13 {X : Nat × (Nat → Int32)} {d : Nat} (n : Nat) (y1 : Int32) (y2 : Int32) (y3 : Int32) (y4 : Int32) (y5 : Int32) (S : St) (w7 : Value) (S6 : St) : ex X d 153 53 [.ref 29, .int y1, .int y2, .int y3, .int y4, .int y5, .int (S.1 31 (((16 * y3) + y5)).toNatClampNeg), w7] [] (hh S6) (n + 3) = if (S.1 31 (((16 * y3) + y5)).toNatClampNeg) = 1 then ex X d 153 59 [.ref 29, .int y1, .int y2, .int y3, .int y4, .int y5, .int (S.1 31 (((16 * y3) + y5)).toNatClampNeg), w7] [] (hh S6) n else ex X d 153 72 [.ref 29, .int y1, .int y2, .int y3, .int y4, .int y5, .int (S.1 31 (((16 * y3) + y5)).toNatClampNeg), w7] [] (hh S6) n := rfl
theorem B_153_14 {X : Nat × (Nat → Int32)} {d : Nat} (n : Nat) (y1 : Int32) (y2 : Int32) (y3 : Int32) (y4 : Int32) (y5 : Int32) (S : St) (w7 : Value) (S6 : St) : ex X d 153 59 [.ref 29, .int y1, .int y2, .int y3, .int y4, .int y5, .int (S.1 31 (((16 * y3) + y5)).toNatClampNeg), w7] [] (hh S6) (n + 4) = if (kd 50).1 = 1 ∧ xa_in y1 (kd 50).2 then ex X d 153 65 [.ref 29, .int y1, .int y2, .int y3, .int y4, .int y5, .int (S.1 31 (((16 * y3) + y5)).toNatClampNeg), w7] [.int (S6.1 50 (y1).toNatClampNeg)] (hh S6) n else none := rfl
theorem B_153_15 {X : Nat × (Nat → Int32)} {d : Nat} (n : Nat) (y1 : Int32) (y2 : Int32) (y3 : Int32) (y4 : Int32) (y5 : Int32) (S : St) (w7 : Value) (S6 : St) : ex X d 153 65 [.ref 29, .int y1, .int y2, .int y3, .int y4, .int y5, .int (S.1 31 (((16 * y3) + y5)).toNatClampNeg), w7] [.int (S6.1 50 (y1).toNatClampNeg)] (hh S6) (n + 1) = if (S6.1 50 (y1).toNatClampNeg) = 0 then ex X d 153 68 [.ref 29, .int y1, .int y2, .int y3, .int y4, .int y5, .int (S.1 31 (((16 * y3) + y5)).toNatClampNeg), w7] [] (hh S6) n else ex X d 153 72 [.ref 29, .int y1, .int y2, .int y3, .int y4, .int y5, .int (S.1 31 (((16 * y3) + y5)).toNatClampNeg), w7] [] (hh S6) n := rfl
theorem B_153_16 {X : Nat × (Nat → Int32)} {d : Nat} (n : Nat) (y1 : Int32) (y2 : Int32) (y3 : Int32) (y4 : Int32) (y5 : Int32) (S : St) (w7 : Value) (S6 : St) : ex X d 153 68 [.ref 29, .int y1, .int y2, .int y3, .int y4, .int y5, .int (S.1 31 (((16 * y3) + y5)).toNatClampNeg), w7] [] (hh S6) (n + 5) = ex X d 153 78 [.ref 29, .int y1, .int y2, .int y3, .int 1, .int y5, .int (S.1 31 (((16 * y3) + y5)).toNatClampNeg), .int 0] [] (hh S6) n := rfl
theorem B_153_17 {X : Nat × (Nat → Int32)} {d : Nat} (n : Nat) (y1 : Int32) (y2 : Int32) (y3 : Int32) (y4 : Int32) (y5 : Int32) (S : St) (w7 : Value) (S6 : St) : ex X d 153 65 [.ref 29, .int y1, .int y2, .int y3, .int y4, .int y5, .int (S.1 31 (((16 * y3) + y5)).toNatClampNeg), w7] [.int (S6.1 50 (y1).toNatClampNeg)] (hh S6) (n + 1) = if (S6.1 50 (y1).toNatClampNeg) = 0 then ex X d 153 68 [.ref 29, .int y1, .int y2, .int y3, .int y4, .int y5, .int (S.1 31 (((16 * y3) + y5)).toNatClampNeg), w7] [] (hh S6) n else ex X d 153 72 [.ref 29, .int y1, .int y2, .int y3, .int y4, .int y5, .int (S.1 31 (((16 * y3) + y5)).toNatClampNeg), w7] [] (hh S6) n := rfl
theorem B_153_18 {X : Nat × (Nat → Int32)} {d : Nat} (n : Nat) (y1 : Int32) (y2 : Int32) (y3 : Int32) (y4 : Int32) (y5 : Int32) (S : St) (w7 : Value) (S6 : St) : ex X d 153 72 [.ref 29, .int y1, .int y2, .int y3, .int y4, .int y5, .int (S.1 31 (((16 * y3) + y5)).toNatClampNeg), w7] [] (hh S6) (n + 4) = ex X d 153 78 [.ref 29, .int y1, .int y2, .int y3, .int 0, .int y5, .int (S.1 31 (((16 * y3) + y5)).toNatClampNeg), .int 0] [] (hh S6) n := rfl
theorem B_153_19 {X : Nat × (Nat → Int32)} {d : Nat} (n : Nat) (y1 : Int32) (y2 : Int32) (y3 : Int32) (y4 : Int32) (y5 : Int32) (S : St) (w7 : Value) (S6 : St) : ex X d 153 53 [.ref 29, .int y1, .int y2, .int y3, .int y4, .int y5, .int (S.1 31 (((16 * y3) + y5)).toNatClampNeg), w7] [] (hh S6) (n + 3) = if (S.1 31 (((16 * y3) + y5)).toNatClampNeg) = 1 then ex X d 153 59 [.ref 29, .int y1, .int y2, .int y3, .int y4, .int y5, .int (S.1 31 (((16 * y3) + y5)).toNatClampNeg), w7] [] (hh S6) n else ex X d 153 72 [.ref 29, .int y1, .int y2, .int y3, .int y4, .int y5, .int (S.1 31 (((16 * y3) + y5)).toNatClampNeg), w7] [] (hh S6) n := rfl
theorem B_153_20 {X : Nat × (Nat → Int32)} {d : Nat} (n : Nat) (y1 : Int32) (y2 : Int32) (y3 : Int32) (y4 : Int32) (y5 : Int32) (S : St) (w7 : Value) (S6 : St) : ex X d 153 72 [.ref 29, .int y1, .int y2, .int y3, .int y4, .int y5, .int (S.1 31 (((16 * y3) + y5)).toNatClampNeg), w7] [] (hh S6) (n + 4) = ex X d 153 78 [.ref 29, .int y1, .int y2, .int y3, .int 0, .int y5, .int (S.1 31 (((16 * y3) + y5)).toNatClampNeg), .int 0] [] (hh S6) n := rfl
theorem B_153_21 {X : Nat × (Nat → Int32)} {d : Nat} (n : Nat) (y1 : Int32) (y2 : Int32) (y3 : Int32) (y4 : Int32) (y5 : Int32) (w6 : Value) (w7 : Value) (S : St) : ex X d 153 31 [.ref 29, .int y1, .int y2, .int y3, .int y4, .int y5, w6, w7] [.int (S.1 31 (((16 * y3) + y5)).toNatClampNeg)] (hh S) (n + 3) = if y4 = 0 then ex X d 153 38 [.ref 29, .int y1, .int y2, .int y3, .int y4, .int y5, .int (S.1 31 (((16 * y3) + y5)).toNatClampNeg), w7] [] (hh S) n else ex X d 153 68 [.ref 29, .int y1, .int y2, .int y3, .int y4, .int y5, .int (S.1 31 (((16 * y3) + y5)).toNatClampNeg), w7] [] (hh S) n := rfl
theorem B_153_22 {X : Nat × (Nat → Int32)} {d : Nat} (n : Nat) (y1 : Int32) (y2 : Int32) (y3 : Int32) (y4 : Int32) (y5 : Int32) (S : St) (w7 : Value) : ex X d 153 68 [.ref 29, .int y1, .int y2, .int y3, .int y4, .int y5, .int (S.1 31 (((16 * y3) + y5)).toNatClampNeg), w7] [] (hh S) (n + 5) = ex X d 153 78 [.ref 29, .int y1, .int y2, .int y3, .int 1, .int y5, .int (S.1 31 (((16 * y3) + y5)).toNatClampNeg), .int 0] [] (hh S) n := rfl
theorem B_153_23 {X : Nat × (Nat → Int32)} {d : Nat} (n : Nat) (y1 : Int32) (y2 : Int32) (y3 : Int32) (y4 : Int32) (y5 : Int32) (w6 : Value) (y7 : Int32) (S : St) : ex X d 153 78 [.ref 29, .int y1, .int y2, .int y3, .int y4, .int y5, w6, .int y7] [] (hh S) (n + 3) = if 4 ≤ y7 then ex X d 153 161 [.ref 29, .int y1, .int y2, .int y3, .int y4, .int y5, w6, .int y7] [] (hh S) n else ex X d 153 84 [.ref 29, .int y1, .int y2, .int y3, .int y4, .int y5, w6, .int y7] [] (hh S) n := rfl
theorem B_153_24 {X : Nat × (Nat → Int32)} {d : Nat} (n : Nat) (y1 : Int32) (y2 : Int32) (y3 : Int32) (y4 : Int32) (y5 : Int32) (w6 : Value) (y7 : Int32) (S : St) : ex X d 153 161 [.ref 29, .int y1, .int y2, .int y3, .int y4, .int y5, w6, .int y7] [] (hh S) (n + 2) = ex X d 153 6 [.ref 29, .int y1, .int y2, .int y3, .int y4, .int (y5 + 1), w6, .int y7] [] (hh S) n := rfl
theorem B_153_25 {X : Nat × (Nat → Int32)} {d : Nat} (n : Nat) (y1 : Int32) (y2 : Int32) (y3 : Int32) (y4 : Int32) (y5 : Int32) (w6 : Value) (y7 : Int32) (S : St) : ex X d 153 78 [.ref 29, .int y1, .int y2, .int y3, .int y4, .int y5, w6, .int y7] [] (hh S) (n + 3) = if 4 ≤ y7 then ex X d 153 161 [.ref 29, .int y1, .int y2, .int y3, .int y4, .int y5, w6, .int y7] [] (hh S) n else ex X d 153 84 [.ref 29, .int y1, .int y2, .int y3, .int y4, .int y5, w6, .int y7] [] (hh S) n := rfl
theorem B_153_26 {X : Nat × (Nat → Int32)} {d : Nat} (n : Nat) (y1 : Int32) (y2 : Int32) (y3 : Int32) (y4 : Int32) (y5 : Int32) (w6 : Value) (y7 : Int32) (S : St) : ex X d 153 84 [.ref 29, .int y1, .int y2, .int y3, .int y4, .int y5, w6, .int y7] [] (hh S) (n + 2) = if y4 = 0 then ex X d 153 89 [.ref 29, .int y1, .int y2, .int y3, .int y4, .int y5, w6, .int y7] [] (hh S) n else ex X d 153 148 [.ref 29, .int y1, .int y2, .int y3, .int y4, .int y5, w6, .int y7] [] (hh S) n := rfl
theorem B_153_27 {X : Nat × (Nat → Int32)} {d : Nat} (n : Nat) (y1 : Int32) (y2 : Int32) (y3 : Int32) (y4 : Int32) (y5 : Int32) (w6 : Value) (y7 : Int32) (S : St) : ex X d 153 89 [.ref 29, .int y1, .int y2, .int y3, .int y4, .int y5, w6, .int y7] [] (hh S) (n + 3) = if y7 = y1 then ex X d 153 152 [.ref 29, .int y1, .int y2, .int y3, .int y4, .int y5, w6, .int y7] [] (hh S) n else ex X d 153 95 [.ref 29, .int y1, .int y2, .int y3, .int y4, .int y5, w6, .int y7] [] (hh S) n := rfl
theorem B_153_28 {X : Nat × (Nat → Int32)} {d : Nat} (n : Nat) (y1 : Int32) (y2 : Int32) (y3 : Int32) (y4 : Int32) (y5 : Int32) (w6 : Value) (y7 : Int32) (S : St) : ex X d 153 152 [.ref 29, .int y1, .int y2, .int y3, .int y4, .int y5, w6, .int y7] [] (hh S) (n + 4) = ex X d 153 78 [.ref 29, .int y1, .int y2, .int y3, .int 0, .int y5, w6, .int (y7 + 1)] [] (hh S) n := rfl
theorem B_153_29 {X : Nat × (Nat → Int32)} {d : Nat} (n : Nat) (y1 : Int32) (y2 : Int32) (y3 : Int32) (y4 : Int32) (y5 : Int32) (w6 : Value) (y7 : Int32) (S : St) : ex X d 153 89 [.ref 29, .int y1, .int y2, .int y3, .int y4, .int y5, w6, .int y7] [] (hh S) (n + 3) = if y7 = y1 then ex X d 153 152 [.ref 29, .int y1, .int y2, .int y3, .int y4, .int y5, w6, .int y7] [] (hh S) n else ex X d 153 95 [.ref 29, .int y1, .int y2, .int y3, .int y4, .int y5, w6, .int y7] [] (hh S) n := rfl
theorem B_153_30 {X : Nat × (Nat → Int32)} {d : Nat} (n : Nat) (y1 : Int32) (y2 : Int32) (y3 : Int32) (y4 : Int32) (y5 : Int32) (w6 : Value) (y7 : Int32) (S : St) : ex X d 153 95 [.ref 29, .int y1, .int y2, .int y3, .int y4, .int y5, w6, .int y7] [] (hh S) (n + 4) = if (kd 49).1 = 1 ∧ xa_in y7 (kd 49).2 then ex X d 153 102 [.ref 29, .int y1, .int y2, .int y3, .int y4, .int y5, w6, .int y7] [.int (S.1 49 (y7).toNatClampNeg)] (hh S) n else none := rfl
theorem B_153_31 {X : Nat × (Nat → Int32)} {d : Nat} (n : Nat) (y1 : Int32) (y2 : Int32) (y3 : Int32) (y4 : Int32) (y5 : Int32) (w6 : Value) (y7 : Int32) (S : St) : ex X d 153 102 [.ref 29, .int y1, .int y2, .int y3, .int y4, .int y5, w6, .int y7] [.int (S.1 49 (y7).toNatClampNeg)] (hh S) (n + 1) = if (S.1 49 (y7).toNatClampNeg) = 0 then ex X d 153 152 [.ref 29, .int y1, .int y2, .int y3, .int y4, .int y5, w6, .int y7] [] (hh S) n else ex X d 153 105 [.ref 29, .int y1, .int y2, .int y3, .int y4, .int y5, w6, .int y7] [] (hh S) n := rfl
theorem B_153_32 {X : Nat × (Nat → Int32)} {d : Nat} (n : Nat) (y1 : Int32) (y2 : Int32) (y3 : Int32) (y4 : Int32) (y5 : Int32) (w6 : Value) (y7 : Int32) (S : St) : ex X d 153 152 [.ref 29, .int y1, .int y2, .int y3, .int y4, .int y5, w6, .int y7] [] (hh S) (n + 4) = ex X d 153 78 [.ref 29, .int y1, .int y2, .int y3, .int 0, .int y5, w6, .int (y7 + 1)] [] (hh S) n := rfl
theorem B_153_33 {X : Nat × (Nat → Int32)} {d : Nat} (n : Nat) (y1 : Int32) (y2 : Int32) (y3 : Int32) (y4 : Int32) (y5 : Int32) (w6 : Value) (y7 : Int32) (S : St) : ex X d 153 102 [.ref 29, .int y1, .int y2, .int y3, .int y4, .int y5, w6, .int y7] [.int (S.1 49 (y7).toNatClampNeg)] (hh S) (n + 1) = if (S.1 49 (y7).toNatClampNeg) = 0 then ex X d 153 152 [.ref 29, .int y1, .int y2, .int y3, .int y4, .int y5, w6, .int y7] [] (hh S) n else ex X d 153 105 [.ref 29, .int y1, .int y2, .int y3, .int y4, .int y5, w6, .int y7] [] (hh S) n := rfl
theorem B_153_34 {X : Nat × (Nat → Int32)} {d : Nat} (n : Nat) (y1 : Int32) (y2 : Int32) (y3 : Int32) (y4 : Int32) (y5 : Int32) (w6 : Value) (y7 : Int32) (S : St) : ex X d 153 105 [.ref 29, .int y1, .int y2, .int y3, .int y4, .int y5, w6, .int y7] [] (hh S) (n + 4) = if (kd 43).1 = 0 ∧ xa_in y7 (kd 43).2 then ex X d 153 112 [.ref 29, .int y1, .int y2, .int y3, .int y4, .int y5, w6, .int y7] [.int (S.1 43 (y7).toNatClampNeg)] (hh S) n else none := rfl
theorem B_153_35 {X : Nat × (Nat → Int32)} {d : Nat} (n : Nat) (y1 : Int32) (y2 : Int32) (y3 : Int32) (y4 : Int32) (y5 : Int32) (w6 : Value) (y7 : Int32) (S : St) : ex X d 153 112 [.ref 29, .int y1, .int y2, .int y3, .int y4, .int y5, w6, .int y7] [.int (S.1 43 (y7).toNatClampNeg)] (hh S) (n + 2) = if (S.1 43 (y7).toNatClampNeg) = y3 then ex X d 153 116 [.ref 29, .int y1, .int y2, .int y3, .int y4, .int y5, w6, .int y7] [] (hh S) n else ex X d 153 152 [.ref 29, .int y1, .int y2, .int y3, .int y4, .int y5, w6, .int y7] [] (hh S) n := rfl
theorem B_153_36 {X : Nat × (Nat → Int32)} {d : Nat} (n : Nat) (y1 : Int32) (y2 : Int32) (y3 : Int32) (y4 : Int32) (y5 : Int32) (w6 : Value) (y7 : Int32) (S : St) : ex X d 153 116 [.ref 29, .int y1, .int y2, .int y3, .int y4, .int y5, w6, .int y7] [] (hh S) (n + 4) = if (kd 42).1 = 0 ∧ xa_in y7 (kd 42).2 then ex X d 153 123 [.ref 29, .int y1, .int y2, .int y3, .int y4, .int y5, w6, .int y7] [.int (S.1 42 (y7).toNatClampNeg)] (hh S) n else none := rfl
theorem B_153_37 {X : Nat × (Nat → Int32)} {d : Nat} (n : Nat) (y1 : Int32) (y2 : Int32) (y3 : Int32) (y4 : Int32) (y5 : Int32) (w6 : Value) (y7 : Int32) (S : St) : ex X d 153 123 [.ref 29, .int y1, .int y2, .int y3, .int y4, .int y5, w6, .int y7] [.int (S.1 42 (y7).toNatClampNeg)] (hh S) (n + 2) = if y5 < (S.1 42 (y7).toNatClampNeg) then ex X d 153 152 [.ref 29, .int y1, .int y2, .int y3, .int y4, .int y5, w6, .int y7] [] (hh S) n else ex X d 153 128 [.ref 29, .int y1, .int y2, .int y3, .int y4, .int y5, w6, .int y7] [] (hh S) n := rfl
theorem B_153_38 {X : Nat × (Nat → Int32)} {d : Nat} (n : Nat) (y1 : Int32) (y2 : Int32) (y3 : Int32) (y4 : Int32) (y5 : Int32) (w6 : Value) (y7 : Int32) (S : St) : ex X d 153 152 [.ref 29, .int y1, .int y2, .int y3, .int y4, .int y5, w6, .int y7] [] (hh S) (n + 4) = ex X d 153 78 [.ref 29, .int y1, .int y2, .int y3, .int 0, .int y5, w6, .int (y7 + 1)] [] (hh S) n := rfl
theorem B_153_39 {X : Nat × (Nat → Int32)} {d : Nat} (n : Nat) (y1 : Int32) (y2 : Int32) (y3 : Int32) (y4 : Int32) (y5 : Int32) (w6 : Value) (y7 : Int32) (S : St) : ex X d 153 123 [.ref 29, .int y1, .int y2, .int y3, .int y4, .int y5, w6, .int y7] [.int (S.1 42 (y7).toNatClampNeg)] (hh S) (n + 2) = if y5 < (S.1 42 (y7).toNatClampNeg) then ex X d 153 152 [.ref 29, .int y1, .int y2, .int y3, .int y4, .int y5, w6, .int y7] [] (hh S) n else ex X d 153 128 [.ref 29, .int y1, .int y2, .int y3, .int y4, .int y5, w6, .int y7] [] (hh S) n := rfl
theorem B_153_40 {X : Nat × (Nat → Int32)} {d : Nat} (n : Nat) (y1 : Int32) (y2 : Int32) (y3 : Int32) (y4 : Int32) (y5 : Int32) (w6 : Value) (y7 : Int32) (S : St) : ex X d 153 128 [.ref 29, .int y1, .int y2, .int y3, .int y4, .int y5, w6, .int y7] [] (hh S) (n + 5) = if (kd 42).1 = 0 ∧ xa_in y7 (kd 42).2 then ex X d 153 137 [.ref 29, .int y1, .int y2, .int y3, .int y4, .int y5, w6, .int y7] [.int (S.1 42 (y7).toNatClampNeg), .int y5] (hh S) n else none := rfl
theorem B_153_41 {X : Nat × (Nat → Int32)} {d : Nat} (n : Nat) (y1 : Int32) (y2 : Int32) (y3 : Int32) (y4 : Int32) (y5 : Int32) (w6 : Value) (y7 : Int32) (S : St) : ex X d 153 137 [.ref 29, .int y1, .int y2, .int y3, .int y4, .int y5, w6, .int y7] [.int (S.1 42 (y7).toNatClampNeg), .int y5] (hh S) (n + 4) = if (kd 44).1 = 0 ∧ xa_in y7 (kd 44).2 then ex X d 153 144 [.ref 29, .int y1, .int y2, .int y3, .int y4, .int y5, w6, .int y7] [.int (S.1 44 (y7).toNatClampNeg), .int (S.1 42 (y7).toNatClampNeg), .int y5] (hh S) n else none := rfl
theorem B_153_42 {X : Nat × (Nat → Int32)} {d : Nat} (n : Nat) (y1 : Int32) (y2 : Int32) (y3 : Int32) (y4 : Int32) (y5 : Int32) (w6 : Value) (y7 : Int32) (S : St) : ex X d 153 144 [.ref 29, .int y1, .int y2, .int y3, .int y4, .int y5, w6, .int y7] [.int (S.1 44 (y7).toNatClampNeg), .int (S.1 42 (y7).toNatClampNeg), .int y5] (hh S) (n + 2) = if ((S.1 42 (y7).toNatClampNeg) + (S.1 44 (y7).toNatClampNeg)) ≤ y5 then ex X d 153 152 [.ref 29, .int y1, .int y2, .int y3, .int y4, .int y5, w6, .int y7] [] (hh S) n else ex X d 153 148 [.ref 29, .int y1, .int y2, .int y3, .int y4, .int y5, w6, .int y7] [] (hh S) n := rfl
theorem B_153_43 {X : Nat × (Nat → Int32)} {d : Nat} (n : Nat) (y1 : Int32) (y2 : Int32) (y3 : Int32) (y4 : Int32) (y5 : Int32) (w6 : Value) (y7 : Int32) (S : St) : ex X d 153 152 [.ref 29, .int y1, .int y2, .int y3, .int y4, .int y5, w6, .int y7] [] (hh S) (n + 4) = ex X d 153 78 [.ref 29, .int y1, .int y2, .int y3, .int 0, .int y5, w6, .int (y7 + 1)] [] (hh S) n := rfl
theorem B_153_44 {X : Nat × (Nat → Int32)} {d : Nat} (n : Nat) (y1 : Int32) (y2 : Int32) (y3 : Int32) (y4 : Int32) (y5 : Int32) (w6 : Value) (y7 : Int32) (S : St) : ex X d 153 144 [.ref 29, .int y1, .int y2, .int y3, .int y4, .int y5, w6, .int y7] [.int (S.1 44 (y7).toNatClampNeg), .int (S.1 42 (y7).toNatClampNeg), .int y5] (hh S) (n + 2) = if ((S.1 42 (y7).toNatClampNeg) + (S.1 44 (y7).toNatClampNeg)) ≤ y5 then ex X d 153 152 [.ref 29, .int y1, .int y2, .int y3, .int y4, .int y5, w6, .int y7] [] (hh S) n else ex X d 153 148 [.ref 29, .int y1, .int y2, .int y3, .int y4, .int y5, w6, .int y7] [] (hh S) n := rfl
theorem B_153_45 {X : Nat × (Nat → Int32)} {d : Nat} (n : Nat) (y1 : Int32) (y2 : Int32) (y3 : Int32) (y4 : Int32) (y5 : Int32) (w6 : Value) (y7 : Int32) (S : St) : ex X d 153 148 [.ref 29, .int y1, .int y2, .int y3, .int y4, .int y5, w6, .int y7] [] (hh S) (n + 5) = ex X d 153 78 [.ref 29, .int y1, .int y2, .int y3, .int 1, .int y5, w6, .int (y7 + 1)] [] (hh S) n := rfl
theorem B_153_46 {X : Nat × (Nat → Int32)} {d : Nat} (n : Nat) (y1 : Int32) (y2 : Int32) (y3 : Int32) (y4 : Int32) (y5 : Int32) (w6 : Value) (y7 : Int32) (S : St) : ex X d 153 112 [.ref 29, .int y1, .int y2, .int y3, .int y4, .int y5, w6, .int y7] [.int (S.1 43 (y7).toNatClampNeg)] (hh S) (n + 2) = if (S.1 43 (y7).toNatClampNeg) = y3 then ex X d 153 116 [.ref 29, .int y1, .int y2, .int y3, .int y4, .int y5, w6, .int y7] [] (hh S) n else ex X d 153 152 [.ref 29, .int y1, .int y2, .int y3, .int y4, .int y5, w6, .int y7] [] (hh S) n := rfl
theorem B_153_47 {X : Nat × (Nat → Int32)} {d : Nat} (n : Nat) (y1 : Int32) (y2 : Int32) (y3 : Int32) (y4 : Int32) (y5 : Int32) (w6 : Value) (y7 : Int32) (S : St) : ex X d 153 152 [.ref 29, .int y1, .int y2, .int y3, .int y4, .int y5, w6, .int y7] [] (hh S) (n + 4) = ex X d 153 78 [.ref 29, .int y1, .int y2, .int y3, .int 0, .int y5, w6, .int (y7 + 1)] [] (hh S) n := rfl
theorem B_153_48 {X : Nat × (Nat → Int32)} {d : Nat} (n : Nat) (y1 : Int32) (y2 : Int32) (y3 : Int32) (y4 : Int32) (y5 : Int32) (w6 : Value) (y7 : Int32) (S : St) : ex X d 153 84 [.ref 29, .int y1, .int y2, .int y3, .int y4, .int y5, w6, .int y7] [] (hh S) (n + 2) = if y4 = 0 then ex X d 153 89 [.ref 29, .int y1, .int y2, .int y3, .int y4, .int y5, w6, .int y7] [] (hh S) n else ex X d 153 148 [.ref 29, .int y1, .int y2, .int y3, .int y4, .int y5, w6, .int y7] [] (hh S) n := rfl
theorem B_153_49 {X : Nat × (Nat → Int32)} {d : Nat} (n : Nat) (y1 : Int32) (y2 : Int32) (y3 : Int32) (y4 : Int32) (y5 : Int32) (w6 : Value) (y7 : Int32) (S : St) : ex X d 153 148 [.ref 29, .int y1, .int y2, .int y3, .int y4, .int y5, w6, .int y7] [] (hh S) (n + 5) = ex X d 153 78 [.ref 29, .int y1, .int y2, .int y3, .int 1, .int y5, w6, .int (y7 + 1)] [] (hh S) n := rfl
set_option maxRecDepth 200000 in
theorem TL_153_0 {X : Nat × (Nat → Int32)} : ∀ (n : Nat) (S : St) (y1 : Int32) (y2 : Int32) (y3 : Int32) (y4 : Int32) (y5 : Int32) (y7 : Int32) (r : Int32) (S' : St), (GL_153_0 n 0 S y1 y2 y3 y4 y5 y7 = some (r, S') → ∀ (w6 w7 : Value), Ev X 1 153 6 [.ref 29, .int y1, .int y2, .int y3, .int y4, .int y5, w6, w7] [] (hh S) (xI r, hh S')) ∧ (GL_153_0 n 1 S y1 y2 y3 y4 y5 y7 = some (r, S') → ∀ (w6 : Value), Ev X 1 153 78 [.ref 29, .int y1, .int y2, .int y3, .int y4, .int y5, w6, .int y7] [] (hh S) (xI r, hh S')) := by
  intro n
  induction n with
  | zero => intro S y1 y2 y3 y4 y5 y7 r S'; refine ⟨?_, ?_⟩ <;> intro hG <;> simp [GL_153_0] at hG
  | succ n ih =>
    intro S y1 y2 y3 y4 y5 y7 r S'
    refine ⟨?_, ?_⟩
    · intro hG w6 w7
      rw [GL_153_0] at hG
      by_cases g1 : xa_in y1 4
      rotate_left
      · rw [if_neg g1] at hG; cases hG
      rw [if_pos g1] at hG
      refine Ev.g (c := (kd 44).1 = 0 ∧ xa_in y1 (kd 44).2) (p1 := 15) (L1 := [.ref 29, .int y1, .int y2, .int y3, .int y4, .int y5, w6, w7]) (s1 := [.int (S.1 44 (y1).toNatClampNeg), .int y2, .int y5]) (h1 := hh S) 6 (fun n => B_153_1 n y1 y2 y3 y4 y5 w6 w7 S) (⟨rfl, g1⟩) ?_
      by_cases c2 : (y2 + (S.1 44 (y1).toNatClampNeg)) ≤ y5
      · rw [if_pos c2] at hG
        refine Ev.t (c := (y2 + (S.1 44 (y1).toNatClampNeg)) ≤ y5) (p1 := 167) (L1 := [.ref 29, .int y1, .int y2, .int y3, .int y4, .int y5, w6, w7]) (s1 := []) (h1 := hh S) (p2 := 19) (L2 := [.ref 29, .int y1, .int y2, .int y3, .int y4, .int y5, w6, w7]) (s2 := []) (h2 := hh S) 2 (fun n => B_153_2 n y1 y2 y3 y4 y5 w6 w7 S) c2 ?_
        by_cases g3 : (y4 = 0 ∨ y4 = 1)
        rotate_left
        · rw [if_neg g3] at hG; cases hG
        rw [if_pos g3] at hG
        obtain ⟨e1, e2⟩ := Prod.mk.inj (Option.some.inj hG)
        subst e1
        subst e2
        exact Ev.rg (c := (xm_z 153 = 0 ∨ (xm_z 153 = 1 ∧ (y4 = 0 ∨ y4 = 1)) ∨ (xm_z 153 = 2 ∧ (y4).toInt8.toInt32 = y4) ∨ (xm_z 153 = 3 ∧ (y4).toUInt32.toUInt16.toUInt32.toInt32 = y4))) 2 (fun n => rfl) (Or.inr (Or.inl ⟨rfl, g3⟩))
      · rw [if_neg c2] at hG
        refine Ev.f (c := (y2 + (S.1 44 (y1).toNatClampNeg)) ≤ y5) (p1 := 167) (L1 := [.ref 29, .int y1, .int y2, .int y3, .int y4, .int y5, w6, w7]) (s1 := []) (h1 := hh S) (p2 := 19) (L2 := [.ref 29, .int y1, .int y2, .int y3, .int y4, .int y5, w6, w7]) (s2 := []) (h2 := hh S) 2 (fun n => B_153_3 n y1 y2 y3 y4 y5 w6 w7 S) c2 ?_
        by_cases g4 : xa_in ((16 * y3) + y5) 192
        rotate_left
        · rw [if_neg g4] at hG; cases hG
        rw [if_pos g4] at hG
        refine Ev.g (c := (kd 31).1 = 0 ∧ xa_in ((16 * y3) + y5) (kd 31).2) (p1 := 31) (L1 := [.ref 29, .int y1, .int y2, .int y3, .int y4, .int y5, w6, w7]) (s1 := [.int (S.1 31 (((16 * y3) + y5)).toNatClampNeg)]) (h1 := hh S) 8 (fun n => B_153_4 n y1 y2 y3 y4 y5 w6 w7 S) (⟨rfl, g4⟩) ?_
        by_cases c5 : y4 = 0
        · rw [if_pos c5] at hG
          refine Ev.t (c := y4 = 0) (p1 := 38) (L1 := [.ref 29, .int y1, .int y2, .int y3, .int y4, .int y5, .int (S.1 31 (((16 * y3) + y5)).toNatClampNeg), w7]) (s1 := []) (h1 := hh S) (p2 := 68) (L2 := [.ref 29, .int y1, .int y2, .int y3, .int y4, .int y5, .int (S.1 31 (((16 * y3) + y5)).toNatClampNeg), w7]) (s2 := []) (h2 := hh S) 3 (fun n => B_153_5 n y1 y2 y3 y4 y5 w6 w7 S) c5 ?_
          rcases h6 : G_154 S y1 with _ | ⟨v6, S6⟩
          · rw [h6] at hG; cases hG
          rw [h6] at hG
          dsimp only at hG
          refine Ev.c (a := 154) (A := [.ref 29, .int y1]) (h1 := hh S) (pc' := 43) (L' := [.ref 29, .int y1, .int y2, .int y3, .int y4, .int y5, .int (S.1 31 (((16 * y3) + y5)).toNatClampNeg), w7]) (rest := []) (r1 := some (.int v6)) (h2 := hh S6) 3 (fun n => B_153_6 n y1 y2 y3 y4 y5 S w7) (Ev.up (by decide) (T_154 S y1 _ _ h6)) ?_
          show Ev X _ 153 43 [.ref 29, .int y1, .int y2, .int y3, .int y4, .int y5, .int (S.1 31 (((16 * y3) + y5)).toNatClampNeg), w7] [.int v6] (hh S6) _
          by_cases c7 : v6 = 15
          · rw [if_pos c7] at hG
            refine Ev.t (c := v6 = 15) (p1 := 72) (L1 := [.ref 29, .int y1, .int y2, .int y3, .int y4, .int y5, .int (S.1 31 (((16 * y3) + y5)).toNatClampNeg), w7]) (s1 := []) (h1 := hh S6) (p2 := 48) (L2 := [.ref 29, .int y1, .int y2, .int y3, .int y4, .int y5, .int (S.1 31 (((16 * y3) + y5)).toNatClampNeg), w7]) (s2 := []) (h2 := hh S6) 2 (fun n => B_153_7 n y1 y2 y3 y4 y5 S w7 v6 S6) c7 ?_
            exact Ev.b (pc' := 78) (L' := [.ref 29, .int y1, .int y2, .int y3, .int 0, .int y5, .int (S.1 31 (((16 * y3) + y5)).toNatClampNeg), .int 0]) (st' := []) (h' := hh S6) 4 (fun n => B_153_8 n y1 y2 y3 y4 y5 S w7 S6) ((ih S6 y1 y2 y3 (0 : Int32) y5 (0 : Int32) _ _).2 hG (.int (S.1 31 (((16 * y3) + y5)).toNatClampNeg)))
          · rw [if_neg c7] at hG
            refine Ev.f (c := v6 = 15) (p1 := 72) (L1 := [.ref 29, .int y1, .int y2, .int y3, .int y4, .int y5, .int (S.1 31 (((16 * y3) + y5)).toNatClampNeg), w7]) (s1 := []) (h1 := hh S6) (p2 := 48) (L2 := [.ref 29, .int y1, .int y2, .int y3, .int y4, .int y5, .int (S.1 31 (((16 * y3) + y5)).toNatClampNeg), w7]) (s2 := []) (h2 := hh S6) 2 (fun n => B_153_9 n y1 y2 y3 y4 y5 S w7 v6 S6) c7 ?_
            by_cases c8 : (S.1 31 (((16 * y3) + y5)).toNatClampNeg) = 0
            · rw [if_pos c8] at hG
              refine Ev.t (c := (S.1 31 (((16 * y3) + y5)).toNatClampNeg) = 0) (p1 := 68) (L1 := [.ref 29, .int y1, .int y2, .int y3, .int y4, .int y5, .int (S.1 31 (((16 * y3) + y5)).toNatClampNeg), w7]) (s1 := []) (h1 := hh S6) (p2 := 53) (L2 := [.ref 29, .int y1, .int y2, .int y3, .int y4, .int y5, .int (S.1 31 (((16 * y3) + y5)).toNatClampNeg), w7]) (s2 := []) (h2 := hh S6) 2 (fun n => B_153_10 n y1 y2 y3 y4 y5 S w7 S6) c8 ?_
              exact Ev.b (pc' := 78) (L' := [.ref 29, .int y1, .int y2, .int y3, .int 1, .int y5, .int (S.1 31 (((16 * y3) + y5)).toNatClampNeg), .int 0]) (st' := []) (h' := hh S6) 5 (fun n => B_153_11 n y1 y2 y3 y4 y5 S w7 S6) ((ih S6 y1 y2 y3 (1 : Int32) y5 (0 : Int32) _ _).2 hG (.int (S.1 31 (((16 * y3) + y5)).toNatClampNeg)))
            · rw [if_neg c8] at hG
              refine Ev.f (c := (S.1 31 (((16 * y3) + y5)).toNatClampNeg) = 0) (p1 := 68) (L1 := [.ref 29, .int y1, .int y2, .int y3, .int y4, .int y5, .int (S.1 31 (((16 * y3) + y5)).toNatClampNeg), w7]) (s1 := []) (h1 := hh S6) (p2 := 53) (L2 := [.ref 29, .int y1, .int y2, .int y3, .int y4, .int y5, .int (S.1 31 (((16 * y3) + y5)).toNatClampNeg), w7]) (s2 := []) (h2 := hh S6) 2 (fun n => B_153_12 n y1 y2 y3 y4 y5 S w7 S6) c8 ?_
              by_cases c9 : (S.1 31 (((16 * y3) + y5)).toNatClampNeg) = 1
              · rw [if_pos c9] at hG
                refine Ev.t (c := (S.1 31 (((16 * y3) + y5)).toNatClampNeg) = 1) (p1 := 59) (L1 := [.ref 29, .int y1, .int y2, .int y3, .int y4, .int y5, .int (S.1 31 (((16 * y3) + y5)).toNatClampNeg), w7]) (s1 := []) (h1 := hh S6) (p2 := 72) (L2 := [.ref 29, .int y1, .int y2, .int y3, .int y4, .int y5, .int (S.1 31 (((16 * y3) + y5)).toNatClampNeg), w7]) (s2 := []) (h2 := hh S6) 3 (fun n => B_153_13 n y1 y2 y3 y4 y5 S w7 S6) c9 ?_
                refine Ev.g (c := (kd 50).1 = 1 ∧ xa_in y1 (kd 50).2) (p1 := 65) (L1 := [.ref 29, .int y1, .int y2, .int y3, .int y4, .int y5, .int (S.1 31 (((16 * y3) + y5)).toNatClampNeg), w7]) (s1 := [.int (S6.1 50 (y1).toNatClampNeg)]) (h1 := hh S6) 4 (fun n => B_153_14 n y1 y2 y3 y4 y5 S w7 S6) (⟨rfl, g1⟩) ?_
                by_cases c10 : (S6.1 50 (y1).toNatClampNeg) = 0
                · rw [if_pos c10] at hG
                  refine Ev.t (c := (S6.1 50 (y1).toNatClampNeg) = 0) (p1 := 68) (L1 := [.ref 29, .int y1, .int y2, .int y3, .int y4, .int y5, .int (S.1 31 (((16 * y3) + y5)).toNatClampNeg), w7]) (s1 := []) (h1 := hh S6) (p2 := 72) (L2 := [.ref 29, .int y1, .int y2, .int y3, .int y4, .int y5, .int (S.1 31 (((16 * y3) + y5)).toNatClampNeg), w7]) (s2 := []) (h2 := hh S6) 1 (fun n => B_153_15 n y1 y2 y3 y4 y5 S w7 S6) c10 ?_
                  exact Ev.b (pc' := 78) (L' := [.ref 29, .int y1, .int y2, .int y3, .int 1, .int y5, .int (S.1 31 (((16 * y3) + y5)).toNatClampNeg), .int 0]) (st' := []) (h' := hh S6) 5 (fun n => B_153_16 n y1 y2 y3 y4 y5 S w7 S6) ((ih S6 y1 y2 y3 (1 : Int32) y5 (0 : Int32) _ _).2 hG (.int (S.1 31 (((16 * y3) + y5)).toNatClampNeg)))
                · rw [if_neg c10] at hG
                  refine Ev.f (c := (S6.1 50 (y1).toNatClampNeg) = 0) (p1 := 68) (L1 := [.ref 29, .int y1, .int y2, .int y3, .int y4, .int y5, .int (S.1 31 (((16 * y3) + y5)).toNatClampNeg), w7]) (s1 := []) (h1 := hh S6) (p2 := 72) (L2 := [.ref 29, .int y1, .int y2, .int y3, .int y4, .int y5, .int (S.1 31 (((16 * y3) + y5)).toNatClampNeg), w7]) (s2 := []) (h2 := hh S6) 1 (fun n => B_153_17 n y1 y2 y3 y4 y5 S w7 S6) c10 ?_
                  exact Ev.b (pc' := 78) (L' := [.ref 29, .int y1, .int y2, .int y3, .int 0, .int y5, .int (S.1 31 (((16 * y3) + y5)).toNatClampNeg), .int 0]) (st' := []) (h' := hh S6) 4 (fun n => B_153_18 n y1 y2 y3 y4 y5 S w7 S6) ((ih S6 y1 y2 y3 (0 : Int32) y5 (0 : Int32) _ _).2 hG (.int (S.1 31 (((16 * y3) + y5)).toNatClampNeg)))
              · rw [if_neg c9] at hG
                refine Ev.f (c := (S.1 31 (((16 * y3) + y5)).toNatClampNeg) = 1) (p1 := 59) (L1 := [.ref 29, .int y1, .int y2, .int y3, .int y4, .int y5, .int (S.1 31 (((16 * y3) + y5)).toNatClampNeg), w7]) (s1 := []) (h1 := hh S6) (p2 := 72) (L2 := [.ref 29, .int y1, .int y2, .int y3, .int y4, .int y5, .int (S.1 31 (((16 * y3) + y5)).toNatClampNeg), w7]) (s2 := []) (h2 := hh S6) 3 (fun n => B_153_19 n y1 y2 y3 y4 y5 S w7 S6) c9 ?_
                exact Ev.b (pc' := 78) (L' := [.ref 29, .int y1, .int y2, .int y3, .int 0, .int y5, .int (S.1 31 (((16 * y3) + y5)).toNatClampNeg), .int 0]) (st' := []) (h' := hh S6) 4 (fun n => B_153_20 n y1 y2 y3 y4 y5 S w7 S6) ((ih S6 y1 y2 y3 (0 : Int32) y5 (0 : Int32) _ _).2 hG (.int (S.1 31 (((16 * y3) + y5)).toNatClampNeg)))
        · rw [if_neg c5] at hG
          refine Ev.f (c := y4 = 0) (p1 := 38) (L1 := [.ref 29, .int y1, .int y2, .int y3, .int y4, .int y5, .int (S.1 31 (((16 * y3) + y5)).toNatClampNeg), w7]) (s1 := []) (h1 := hh S) (p2 := 68) (L2 := [.ref 29, .int y1, .int y2, .int y3, .int y4, .int y5, .int (S.1 31 (((16 * y3) + y5)).toNatClampNeg), w7]) (s2 := []) (h2 := hh S) 3 (fun n => B_153_21 n y1 y2 y3 y4 y5 w6 w7 S) c5 ?_
          exact Ev.b (pc' := 78) (L' := [.ref 29, .int y1, .int y2, .int y3, .int 1, .int y5, .int (S.1 31 (((16 * y3) + y5)).toNatClampNeg), .int 0]) (st' := []) (h' := hh S) 5 (fun n => B_153_22 n y1 y2 y3 y4 y5 S w7) ((ih S y1 y2 y3 (1 : Int32) y5 (0 : Int32) _ _).2 hG (.int (S.1 31 (((16 * y3) + y5)).toNatClampNeg)))
    · intro hG w6
      rw [GL_153_0] at hG
      by_cases c11 : 4 ≤ y7
      · rw [if_pos c11] at hG
        refine Ev.t (c := 4 ≤ y7) (p1 := 161) (L1 := [.ref 29, .int y1, .int y2, .int y3, .int y4, .int y5, w6, .int y7]) (s1 := []) (h1 := hh S) (p2 := 84) (L2 := [.ref 29, .int y1, .int y2, .int y3, .int y4, .int y5, w6, .int y7]) (s2 := []) (h2 := hh S) 3 (fun n => B_153_23 n y1 y2 y3 y4 y5 w6 y7 S) c11 ?_
        exact Ev.b (pc' := 6) (L' := [.ref 29, .int y1, .int y2, .int y3, .int y4, .int (y5 + 1), w6, .int y7]) (st' := []) (h' := hh S) 2 (fun n => B_153_24 n y1 y2 y3 y4 y5 w6 y7 S) ((ih S y1 y2 y3 y4 (y5 + 1) 0 _ _).1 hG w6 (.int y7))
      · rw [if_neg c11] at hG
        refine Ev.f (c := 4 ≤ y7) (p1 := 161) (L1 := [.ref 29, .int y1, .int y2, .int y3, .int y4, .int y5, w6, .int y7]) (s1 := []) (h1 := hh S) (p2 := 84) (L2 := [.ref 29, .int y1, .int y2, .int y3, .int y4, .int y5, w6, .int y7]) (s2 := []) (h2 := hh S) 3 (fun n => B_153_25 n y1 y2 y3 y4 y5 w6 y7 S) c11 ?_
        by_cases c12 : y4 = 0
        · rw [if_pos c12] at hG
          refine Ev.t (c := y4 = 0) (p1 := 89) (L1 := [.ref 29, .int y1, .int y2, .int y3, .int y4, .int y5, w6, .int y7]) (s1 := []) (h1 := hh S) (p2 := 148) (L2 := [.ref 29, .int y1, .int y2, .int y3, .int y4, .int y5, w6, .int y7]) (s2 := []) (h2 := hh S) 2 (fun n => B_153_26 n y1 y2 y3 y4 y5 w6 y7 S) c12 ?_
          by_cases c13 : y7 = y1
          · rw [if_pos c13] at hG
            refine Ev.t (c := y7 = y1) (p1 := 152) (L1 := [.ref 29, .int y1, .int y2, .int y3, .int y4, .int y5, w6, .int y7]) (s1 := []) (h1 := hh S) (p2 := 95) (L2 := [.ref 29, .int y1, .int y2, .int y3, .int y4, .int y5, w6, .int y7]) (s2 := []) (h2 := hh S) 3 (fun n => B_153_27 n y1 y2 y3 y4 y5 w6 y7 S) c13 ?_
            exact Ev.b (pc' := 78) (L' := [.ref 29, .int y1, .int y2, .int y3, .int 0, .int y5, w6, .int (y7 + 1)]) (st' := []) (h' := hh S) 4 (fun n => B_153_28 n y1 y2 y3 y4 y5 w6 y7 S) ((ih S y1 y2 y3 (0 : Int32) y5 (y7 + 1) _ _).2 hG w6)
          · rw [if_neg c13] at hG
            refine Ev.f (c := y7 = y1) (p1 := 152) (L1 := [.ref 29, .int y1, .int y2, .int y3, .int y4, .int y5, w6, .int y7]) (s1 := []) (h1 := hh S) (p2 := 95) (L2 := [.ref 29, .int y1, .int y2, .int y3, .int y4, .int y5, w6, .int y7]) (s2 := []) (h2 := hh S) 3 (fun n => B_153_29 n y1 y2 y3 y4 y5 w6 y7 S) c13 ?_
            by_cases g14 : xa_in y7 4
            rotate_left
            · rw [if_neg g14] at hG; cases hG
            rw [if_pos g14] at hG
            refine Ev.g (c := (kd 49).1 = 1 ∧ xa_in y7 (kd 49).2) (p1 := 102) (L1 := [.ref 29, .int y1, .int y2, .int y3, .int y4, .int y5, w6, .int y7]) (s1 := [.int (S.1 49 (y7).toNatClampNeg)]) (h1 := hh S) 4 (fun n => B_153_30 n y1 y2 y3 y4 y5 w6 y7 S) (⟨rfl, g14⟩) ?_
            by_cases c15 : (S.1 49 (y7).toNatClampNeg) = 0
            · rw [if_pos c15] at hG
              refine Ev.t (c := (S.1 49 (y7).toNatClampNeg) = 0) (p1 := 152) (L1 := [.ref 29, .int y1, .int y2, .int y3, .int y4, .int y5, w6, .int y7]) (s1 := []) (h1 := hh S) (p2 := 105) (L2 := [.ref 29, .int y1, .int y2, .int y3, .int y4, .int y5, w6, .int y7]) (s2 := []) (h2 := hh S) 1 (fun n => B_153_31 n y1 y2 y3 y4 y5 w6 y7 S) c15 ?_
              exact Ev.b (pc' := 78) (L' := [.ref 29, .int y1, .int y2, .int y3, .int 0, .int y5, w6, .int (y7 + 1)]) (st' := []) (h' := hh S) 4 (fun n => B_153_32 n y1 y2 y3 y4 y5 w6 y7 S) ((ih S y1 y2 y3 (0 : Int32) y5 (y7 + 1) _ _).2 hG w6)
            · rw [if_neg c15] at hG
              refine Ev.f (c := (S.1 49 (y7).toNatClampNeg) = 0) (p1 := 152) (L1 := [.ref 29, .int y1, .int y2, .int y3, .int y4, .int y5, w6, .int y7]) (s1 := []) (h1 := hh S) (p2 := 105) (L2 := [.ref 29, .int y1, .int y2, .int y3, .int y4, .int y5, w6, .int y7]) (s2 := []) (h2 := hh S) 1 (fun n => B_153_33 n y1 y2 y3 y4 y5 w6 y7 S) c15 ?_
              refine Ev.g (c := (kd 43).1 = 0 ∧ xa_in y7 (kd 43).2) (p1 := 112) (L1 := [.ref 29, .int y1, .int y2, .int y3, .int y4, .int y5, w6, .int y7]) (s1 := [.int (S.1 43 (y7).toNatClampNeg)]) (h1 := hh S) 4 (fun n => B_153_34 n y1 y2 y3 y4 y5 w6 y7 S) (⟨rfl, g14⟩) ?_
              by_cases c16 : (S.1 43 (y7).toNatClampNeg) = y3
              · rw [if_pos c16] at hG
                refine Ev.t (c := (S.1 43 (y7).toNatClampNeg) = y3) (p1 := 116) (L1 := [.ref 29, .int y1, .int y2, .int y3, .int y4, .int y5, w6, .int y7]) (s1 := []) (h1 := hh S) (p2 := 152) (L2 := [.ref 29, .int y1, .int y2, .int y3, .int y4, .int y5, w6, .int y7]) (s2 := []) (h2 := hh S) 2 (fun n => B_153_35 n y1 y2 y3 y4 y5 w6 y7 S) c16 ?_
                refine Ev.g (c := (kd 42).1 = 0 ∧ xa_in y7 (kd 42).2) (p1 := 123) (L1 := [.ref 29, .int y1, .int y2, .int y3, .int y4, .int y5, w6, .int y7]) (s1 := [.int (S.1 42 (y7).toNatClampNeg)]) (h1 := hh S) 4 (fun n => B_153_36 n y1 y2 y3 y4 y5 w6 y7 S) (⟨rfl, g14⟩) ?_
                by_cases c17 : y5 < (S.1 42 (y7).toNatClampNeg)
                · rw [if_pos c17] at hG
                  refine Ev.t (c := y5 < (S.1 42 (y7).toNatClampNeg)) (p1 := 152) (L1 := [.ref 29, .int y1, .int y2, .int y3, .int y4, .int y5, w6, .int y7]) (s1 := []) (h1 := hh S) (p2 := 128) (L2 := [.ref 29, .int y1, .int y2, .int y3, .int y4, .int y5, w6, .int y7]) (s2 := []) (h2 := hh S) 2 (fun n => B_153_37 n y1 y2 y3 y4 y5 w6 y7 S) c17 ?_
                  exact Ev.b (pc' := 78) (L' := [.ref 29, .int y1, .int y2, .int y3, .int 0, .int y5, w6, .int (y7 + 1)]) (st' := []) (h' := hh S) 4 (fun n => B_153_38 n y1 y2 y3 y4 y5 w6 y7 S) ((ih S y1 y2 y3 (0 : Int32) y5 (y7 + 1) _ _).2 hG w6)
                · rw [if_neg c17] at hG
                  refine Ev.f (c := y5 < (S.1 42 (y7).toNatClampNeg)) (p1 := 152) (L1 := [.ref 29, .int y1, .int y2, .int y3, .int y4, .int y5, w6, .int y7]) (s1 := []) (h1 := hh S) (p2 := 128) (L2 := [.ref 29, .int y1, .int y2, .int y3, .int y4, .int y5, w6, .int y7]) (s2 := []) (h2 := hh S) 2 (fun n => B_153_39 n y1 y2 y3 y4 y5 w6 y7 S) c17 ?_
                  refine Ev.g (c := (kd 42).1 = 0 ∧ xa_in y7 (kd 42).2) (p1 := 137) (L1 := [.ref 29, .int y1, .int y2, .int y3, .int y4, .int y5, w6, .int y7]) (s1 := [.int (S.1 42 (y7).toNatClampNeg), .int y5]) (h1 := hh S) 5 (fun n => B_153_40 n y1 y2 y3 y4 y5 w6 y7 S) (⟨rfl, g14⟩) ?_
                  refine Ev.g (c := (kd 44).1 = 0 ∧ xa_in y7 (kd 44).2) (p1 := 144) (L1 := [.ref 29, .int y1, .int y2, .int y3, .int y4, .int y5, w6, .int y7]) (s1 := [.int (S.1 44 (y7).toNatClampNeg), .int (S.1 42 (y7).toNatClampNeg), .int y5]) (h1 := hh S) 4 (fun n => B_153_41 n y1 y2 y3 y4 y5 w6 y7 S) (⟨rfl, g14⟩) ?_
                  by_cases c18 : ((S.1 42 (y7).toNatClampNeg) + (S.1 44 (y7).toNatClampNeg)) ≤ y5
                  · rw [if_pos c18] at hG
                    refine Ev.t (c := ((S.1 42 (y7).toNatClampNeg) + (S.1 44 (y7).toNatClampNeg)) ≤ y5) (p1 := 152) (L1 := [.ref 29, .int y1, .int y2, .int y3, .int y4, .int y5, w6, .int y7]) (s1 := []) (h1 := hh S) (p2 := 148) (L2 := [.ref 29, .int y1, .int y2, .int y3, .int y4, .int y5, w6, .int y7]) (s2 := []) (h2 := hh S) 2 (fun n => B_153_42 n y1 y2 y3 y4 y5 w6 y7 S) c18 ?_
                    exact Ev.b (pc' := 78) (L' := [.ref 29, .int y1, .int y2, .int y3, .int 0, .int y5, w6, .int (y7 + 1)]) (st' := []) (h' := hh S) 4 (fun n => B_153_43 n y1 y2 y3 y4 y5 w6 y7 S) ((ih S y1 y2 y3 (0 : Int32) y5 (y7 + 1) _ _).2 hG w6)
                  · rw [if_neg c18] at hG
                    refine Ev.f (c := ((S.1 42 (y7).toNatClampNeg) + (S.1 44 (y7).toNatClampNeg)) ≤ y5) (p1 := 152) (L1 := [.ref 29, .int y1, .int y2, .int y3, .int y4, .int y5, w6, .int y7]) (s1 := []) (h1 := hh S) (p2 := 148) (L2 := [.ref 29, .int y1, .int y2, .int y3, .int y4, .int y5, w6, .int y7]) (s2 := []) (h2 := hh S) 2 (fun n => B_153_44 n y1 y2 y3 y4 y5 w6 y7 S) c18 ?_
                    exact Ev.b (pc' := 78) (L' := [.ref 29, .int y1, .int y2, .int y3, .int 1, .int y5, w6, .int (y7 + 1)]) (st' := []) (h' := hh S) 5 (fun n => B_153_45 n y1 y2 y3 y4 y5 w6 y7 S) ((ih S y1 y2 y3 (1 : Int32) y5 (y7 + 1) _ _).2 hG w6)
              · rw [if_neg c16] at hG
                refine Ev.f (c := (S.1 43 (y7).toNatClampNeg) = y3) (p1 := 116) (L1 := [.ref 29, .int y1, .int y2, .int y3, .int y4, .int y5, w6, .int y7]) (s1 := []) (h1 := hh S) (p2 := 152) (L2 := [.ref 29, .int y1, .int y2, .int y3, .int y4, .int y5, w6, .int y7]) (s2 := []) (h2 := hh S) 2 (fun n => B_153_46 n y1 y2 y3 y4 y5 w6 y7 S) c16 ?_
                exact Ev.b (pc' := 78) (L' := [.ref 29, .int y1, .int y2, .int y3, .int 0, .int y5, w6, .int (y7 + 1)]) (st' := []) (h' := hh S) 4 (fun n => B_153_47 n y1 y2 y3 y4 y5 w6 y7 S) ((ih S y1 y2 y3 (0 : Int32) y5 (y7 + 1) _ _).2 hG w6)
        · rw [if_neg c12] at hG
          refine Ev.f (c := y4 = 0) (p1 := 89) (L1 := [.ref 29, .int y1, .int y2, .int y3, .int y4, .int y5, w6, .int y7]) (s1 := []) (h1 := hh S) (p2 := 148) (L2 := [.ref 29, .int y1, .int y2, .int y3, .int y4, .int y5, w6, .int y7]) (s2 := []) (h2 := hh S) 2 (fun n => B_153_48 n y1 y2 y3 y4 y5 w6 y7 S) c12 ?_
          exact Ev.b (pc' := 78) (L' := [.ref 29, .int y1, .int y2, .int y3, .int 1, .int y5, w6, .int (y7 + 1)]) (st' := []) (h' := hh S) 5 (fun n => B_153_49 n y1 y2 y3 y4 y5 w6 y7 S) ((ih S y1 y2 y3 (1 : Int32) y5 (y7 + 1) _ _).2 hG w6)
def G_153 (S : St) (x1 : Int32) (x2 : Int32) (x3 : Int32) : Option (Int32 × St) :=
  GL_153_0 xFu 0 S x1 x2 x3 (0 : Int32) x2 0
theorem B_153_50 {X : Nat × (Nat → Int32)} {d : Nat} (n : Nat) (x1 : Int32) (x2 : Int32) (x3 : Int32) (S : St) : ex X d 153 0 [.ref 29, .int x1, .int x2, .int x3, .retAddr 0, .retAddr 0, .retAddr 0, .retAddr 0] [] (hh S) (n + 4) = ex X d 153 6 [.ref 29, .int x1, .int x2, .int x3, .int 0, .int x2, .retAddr 0, .retAddr 0] [] (hh S) n := rfl
set_option maxRecDepth 200000 in
theorem T_153 {X : Nat × (Nat → Int32)} (S : St) (x1 : Int32) (x2 : Int32) (x3 : Int32) (r : Int32) (S' : St) (hG : G_153 S x1 x2 x3 = some (r, S')) : Ev X 1 153 0 [.ref 29, .int x1, .int x2, .int x3, .retAddr 0, .retAddr 0, .retAddr 0, .retAddr 0] [] (hh S) (xI r, hh S') := by
  unfold G_153 at hG
  exact Ev.b (pc' := 6) (L' := [.ref 29, .int x1, .int x2, .int x3, .int 0, .int x2, .retAddr 0, .retAddr 0]) (st' := []) (h' := hh S) 4 (fun n => B_153_50 n x1 x2 x3 S) ((TL_153_0 xFu S x1 x2 x3 (0 : Int32) x2 0 _ _).1 hG (.retAddr 0) (.retAddr 0))
/-- 151: SceneCycleModel.walk(I)V -/
def G_151 (S : St) (x1 : Int32) : Option (Unit × St) :=
  (if xa_in x1 4 then
    (match G_148 S (S.1 46 (x1).toNatClampNeg) with
    | none => none
    | some (v2, S2) =>
      (match G_150 S2 (S2.1 46 (x1).toNatClampNeg) with
      | none => none
      | some (v3, S3) =>
        (if ((xa_u S3.1 54 ((x1).toNatClampNeg) 0) 46 (x1).toNatClampNeg) = 0 then
          some ((), (xa_u S3.1 54 ((x1).toNatClampNeg) 0, S3.2.1, S3.2.2))
        else
          (match G_152 (xa_u S3.1 54 ((x1).toNatClampNeg) 0, S3.2.1, S3.2.2) ((S.1 42 (x1).toNatClampNeg) + v2) ((S2.1 43 (x1).toNatClampNeg) + v3) ((xa_u S3.1 54 ((x1).toNatClampNeg) 0) 44 (x1).toNatClampNeg) with
          | none => none
          | some (v5, S5) =>
            (if v5 = 0 then
              (match G_153 S5 x1 ((S.1 42 (x1).toNatClampNeg) + v2) ((S2.1 43 (x1).toNatClampNeg) + v3) with
              | none => none
              | some (v7, S7) =>
                (if v7 = 0 then
                  some ((), (xa_u (xa_u (xa_u S7.1 42 ((x1).toNatClampNeg) ((S.1 42 (x1).toNatClampNeg) + v2)) 43 ((x1).toNatClampNeg) ((S2.1 43 (x1).toNatClampNeg) + v3)) 54 ((x1).toNatClampNeg) 1, S7.2.1, S7.2.2))
                else
                  (if (S7.1 47 (x1).toNatClampNeg) = 3 then
                    (if x1 = 0 then
                      some ((), (xa_u (xa_u S7.1 46 ((x1).toNatClampNeg) (S7.1 46 (x1).toNatClampNeg)) 40 (((0 : Int32)).toNatClampNeg) v5, S7.2.1, S7.2.2))
                    else
                      some ((), (xa_u (xa_u S7.1 46 ((x1).toNatClampNeg) (S7.1 46 (x1).toNatClampNeg)) 40 (((0 : Int32)).toNatClampNeg) ((xa_u S7.1 46 ((x1).toNatClampNeg) (S7.1 46 (x1).toNatClampNeg)) 40 ((0 : Int32)).toNatClampNeg), S7.2.1, S7.2.2))
                    )
                  else
                    (if x1 = 0 then
                      some ((), (xa_u (xa_u S7.1 46 ((x1).toNatClampNeg) 0) 40 (((0 : Int32)).toNatClampNeg) v5, S7.2.1, S7.2.2))
                    else
                      some ((), (xa_u (xa_u S7.1 46 ((x1).toNatClampNeg) 0) 40 (((0 : Int32)).toNatClampNeg) ((xa_u S7.1 46 ((x1).toNatClampNeg) 0) 40 ((0 : Int32)).toNatClampNeg), S7.2.1, S7.2.2))
                    )
                  )
                )
              )
            else
              (if (S5.1 47 (x1).toNatClampNeg) = 3 then
                (if x1 = 0 then
                  some ((), (xa_u (xa_u S5.1 46 ((x1).toNatClampNeg) (S5.1 46 (x1).toNatClampNeg)) 40 (((0 : Int32)).toNatClampNeg) v5, S5.2.1, S5.2.2))
                else
                  some ((), (xa_u (xa_u S5.1 46 ((x1).toNatClampNeg) (S5.1 46 (x1).toNatClampNeg)) 40 (((0 : Int32)).toNatClampNeg) ((xa_u S5.1 46 ((x1).toNatClampNeg) (S5.1 46 (x1).toNatClampNeg)) 40 ((0 : Int32)).toNatClampNeg), S5.2.1, S5.2.2))
                )
              else
                (if x1 = 0 then
                  some ((), (xa_u (xa_u S5.1 46 ((x1).toNatClampNeg) 0) 40 (((0 : Int32)).toNatClampNeg) v5, S5.2.1, S5.2.2))
                else
                  some ((), (xa_u (xa_u S5.1 46 ((x1).toNatClampNeg) 0) 40 (((0 : Int32)).toNatClampNeg) ((xa_u S5.1 46 ((x1).toNatClampNeg) 0) 40 ((0 : Int32)).toNatClampNeg), S5.2.1, S5.2.2))
                )
              )
            )
          )
        )
      )
    )
  else none)
theorem B_151_1 {X : Nat × (Nat → Int32)} {d : Nat} (n : Nat) (x1 : Int32) (S : St) : ex X d 151 0 [.ref 29, .int x1, .retAddr 0, .retAddr 0, .retAddr 0] [] (hh S) (n + 4) = if (kd 42).1 = 0 ∧ xa_in x1 (kd 42).2 then ex X d 151 6 [.ref 29, .int x1, .retAddr 0, .retAddr 0, .retAddr 0] [.int (S.1 42 (x1).toNatClampNeg)] (hh S) n else none := rfl
theorem B_151_2 {X : Nat × (Nat → Int32)} {d : Nat} (n : Nat) (x1 : Int32) (S : St) : ex X d 151 6 [.ref 29, .int x1, .retAddr 0, .retAddr 0, .retAddr 0] [.int (S.1 42 (x1).toNatClampNeg)] (hh S) (n + 4) = if (kd 46).1 = 0 ∧ xa_in x1 (kd 46).2 then ex X d 151 12 [.ref 29, .int x1, .retAddr 0, .retAddr 0, .retAddr 0] [.int (S.1 46 (x1).toNatClampNeg), .int (S.1 42 (x1).toNatClampNeg)] (hh S) n else none := rfl
theorem B_151_3 {X : Nat × (Nat → Int32)} {d : Nat} (n : Nat) (x1 : Int32) (S : St) : ex X (d + 1) 151 12 [.ref 29, .int x1, .retAddr 0, .retAddr 0, .retAddr 0] [.int (S.1 46 (x1).toNatClampNeg), .int (S.1 42 (x1).toNatClampNeg)] (hh S) (n + 1) = (match ex X d 148 0 [.int (S.1 46 (x1).toNatClampNeg)] [] (hh S) n with | some (v, h') => ex X (d + 1) 151 15 [.ref 29, .int x1, .retAddr 0, .retAddr 0, .retAddr 0] (v.toList ++ [.int (S.1 42 (x1).toNatClampNeg)]) h' n | none => none) := rfl
theorem B_151_4 {X : Nat × (Nat → Int32)} {d : Nat} (n : Nat) (x1 : Int32) (v2 : Int32) (S : St) (S2 : St) : ex X d 151 15 [.ref 29, .int x1, .retAddr 0, .retAddr 0, .retAddr 0] [.int v2, .int (S.1 42 (x1).toNatClampNeg)] (hh S2) (n + 6) = if (kd 43).1 = 0 ∧ xa_in x1 (kd 43).2 then ex X d 151 23 [.ref 29, .int x1, .int ((S.1 42 (x1).toNatClampNeg) + v2), .retAddr 0, .retAddr 0] [.int (S2.1 43 (x1).toNatClampNeg)] (hh S2) n else none := rfl
theorem B_151_5 {X : Nat × (Nat → Int32)} {d : Nat} (n : Nat) (x1 : Int32) (S : St) (v2 : Int32) (S2 : St) : ex X d 151 23 [.ref 29, .int x1, .int ((S.1 42 (x1).toNatClampNeg) + v2), .retAddr 0, .retAddr 0] [.int (S2.1 43 (x1).toNatClampNeg)] (hh S2) (n + 4) = if (kd 46).1 = 0 ∧ xa_in x1 (kd 46).2 then ex X d 151 29 [.ref 29, .int x1, .int ((S.1 42 (x1).toNatClampNeg) + v2), .retAddr 0, .retAddr 0] [.int (S2.1 46 (x1).toNatClampNeg), .int (S2.1 43 (x1).toNatClampNeg)] (hh S2) n else none := rfl
theorem B_151_6 {X : Nat × (Nat → Int32)} {d : Nat} (n : Nat) (x1 : Int32) (S : St) (v2 : Int32) (S2 : St) : ex X (d + 1) 151 29 [.ref 29, .int x1, .int ((S.1 42 (x1).toNatClampNeg) + v2), .retAddr 0, .retAddr 0] [.int (S2.1 46 (x1).toNatClampNeg), .int (S2.1 43 (x1).toNatClampNeg)] (hh S2) (n + 1) = (match ex X d 150 0 [.int (S2.1 46 (x1).toNatClampNeg)] [] (hh S2) n with | some (v, h') => ex X (d + 1) 151 32 [.ref 29, .int x1, .int ((S.1 42 (x1).toNatClampNeg) + v2), .retAddr 0, .retAddr 0] (v.toList ++ [.int (S2.1 43 (x1).toNatClampNeg)]) h' n | none => none) := rfl
theorem B_151_7 {X : Nat × (Nat → Int32)} {d : Nat} (n : Nat) (x1 : Int32) (S : St) (v2 : Int32) (v3 : Int32) (S2 : St) (S3 : St) : ex X d 151 32 [.ref 29, .int x1, .int ((S.1 42 (x1).toNatClampNeg) + v2), .retAddr 0, .retAddr 0] [.int v3, .int (S2.1 43 (x1).toNatClampNeg)] (hh S3) (n + 7) = if (kd 54).1 = 1 ∧ xa_in x1 (kd 54).2 ∧ ((0 : Int32) = 0 ∨ (0 : Int32) = 1) then ex X d 151 41 [.ref 29, .int x1, .int ((S.1 42 (x1).toNatClampNeg) + v2), .int ((S2.1 43 (x1).toNatClampNeg) + v3), .retAddr 0] [] (hh (xa_u S3.1 54 ((x1).toNatClampNeg) 0, S3.2.1, S3.2.2)) n else none := rfl
theorem B_151_8 {X : Nat × (Nat → Int32)} {d : Nat} (n : Nat) (x1 : Int32) (S : St) (v2 : Int32) (S2 : St) (v3 : Int32) (S3 : St) : ex X d 151 41 [.ref 29, .int x1, .int ((S.1 42 (x1).toNatClampNeg) + v2), .int ((S2.1 43 (x1).toNatClampNeg) + v3), .retAddr 0] [] (hh (xa_u S3.1 54 ((x1).toNatClampNeg) 0, S3.2.1, S3.2.2)) (n + 4) = if (kd 46).1 = 0 ∧ xa_in x1 (kd 46).2 then ex X d 151 47 [.ref 29, .int x1, .int ((S.1 42 (x1).toNatClampNeg) + v2), .int ((S2.1 43 (x1).toNatClampNeg) + v3), .retAddr 0] [.int ((xa_u S3.1 54 ((x1).toNatClampNeg) 0) 46 (x1).toNatClampNeg)] (hh (xa_u S3.1 54 ((x1).toNatClampNeg) 0, S3.2.1, S3.2.2)) n else none := rfl
theorem B_151_9 {X : Nat × (Nat → Int32)} {d : Nat} (n : Nat) (x1 : Int32) (S : St) (v2 : Int32) (S2 : St) (v3 : Int32) (S3 : St) : ex X d 151 47 [.ref 29, .int x1, .int ((S.1 42 (x1).toNatClampNeg) + v2), .int ((S2.1 43 (x1).toNatClampNeg) + v3), .retAddr 0] [.int ((xa_u S3.1 54 ((x1).toNatClampNeg) 0) 46 (x1).toNatClampNeg)] (hh (xa_u S3.1 54 ((x1).toNatClampNeg) 0, S3.2.1, S3.2.2)) (n + 1) = if ((xa_u S3.1 54 ((x1).toNatClampNeg) 0) 46 (x1).toNatClampNeg) = 0 then ex X d 151 50 [.ref 29, .int x1, .int ((S.1 42 (x1).toNatClampNeg) + v2), .int ((S2.1 43 (x1).toNatClampNeg) + v3), .retAddr 0] [] (hh (xa_u S3.1 54 ((x1).toNatClampNeg) 0, S3.2.1, S3.2.2)) n else ex X d 151 51 [.ref 29, .int x1, .int ((S.1 42 (x1).toNatClampNeg) + v2), .int ((S2.1 43 (x1).toNatClampNeg) + v3), .retAddr 0] [] (hh (xa_u S3.1 54 ((x1).toNatClampNeg) 0, S3.2.1, S3.2.2)) n := rfl
theorem B_151_10 {X : Nat × (Nat → Int32)} {d : Nat} (n : Nat) (x1 : Int32) (S : St) (v2 : Int32) (S2 : St) (v3 : Int32) (S3 : St) : ex X d 151 47 [.ref 29, .int x1, .int ((S.1 42 (x1).toNatClampNeg) + v2), .int ((S2.1 43 (x1).toNatClampNeg) + v3), .retAddr 0] [.int ((xa_u S3.1 54 ((x1).toNatClampNeg) 0) 46 (x1).toNatClampNeg)] (hh (xa_u S3.1 54 ((x1).toNatClampNeg) 0, S3.2.1, S3.2.2)) (n + 1) = if ((xa_u S3.1 54 ((x1).toNatClampNeg) 0) 46 (x1).toNatClampNeg) = 0 then ex X d 151 50 [.ref 29, .int x1, .int ((S.1 42 (x1).toNatClampNeg) + v2), .int ((S2.1 43 (x1).toNatClampNeg) + v3), .retAddr 0] [] (hh (xa_u S3.1 54 ((x1).toNatClampNeg) 0, S3.2.1, S3.2.2)) n else ex X d 151 51 [.ref 29, .int x1, .int ((S.1 42 (x1).toNatClampNeg) + v2), .int ((S2.1 43 (x1).toNatClampNeg) + v3), .retAddr 0] [] (hh (xa_u S3.1 54 ((x1).toNatClampNeg) 0, S3.2.1, S3.2.2)) n := rfl
theorem B_151_11 {X : Nat × (Nat → Int32)} {d : Nat} (n : Nat) (x1 : Int32) (S : St) (v2 : Int32) (S2 : St) (v3 : Int32) (S3 : St) : ex X d 151 51 [.ref 29, .int x1, .int ((S.1 42 (x1).toNatClampNeg) + v2), .int ((S2.1 43 (x1).toNatClampNeg) + v3), .retAddr 0] [] (hh (xa_u S3.1 54 ((x1).toNatClampNeg) 0, S3.2.1, S3.2.2)) (n + 6) = if (kd 44).1 = 0 ∧ xa_in x1 (kd 44).2 then ex X d 151 59 [.ref 29, .int x1, .int ((S.1 42 (x1).toNatClampNeg) + v2), .int ((S2.1 43 (x1).toNatClampNeg) + v3), .retAddr 0] [.int ((xa_u S3.1 54 ((x1).toNatClampNeg) 0) 44 (x1).toNatClampNeg), .int ((S2.1 43 (x1).toNatClampNeg) + v3), .int ((S.1 42 (x1).toNatClampNeg) + v2)] (hh (xa_u S3.1 54 ((x1).toNatClampNeg) 0, S3.2.1, S3.2.2)) n else none := rfl
theorem B_151_12 {X : Nat × (Nat → Int32)} {d : Nat} (n : Nat) (x1 : Int32) (S : St) (v2 : Int32) (S2 : St) (v3 : Int32) (S3 : St) : ex X (d + 1) 151 59 [.ref 29, .int x1, .int ((S.1 42 (x1).toNatClampNeg) + v2), .int ((S2.1 43 (x1).toNatClampNeg) + v3), .retAddr 0] [.int ((xa_u S3.1 54 ((x1).toNatClampNeg) 0) 44 (x1).toNatClampNeg), .int ((S2.1 43 (x1).toNatClampNeg) + v3), .int ((S.1 42 (x1).toNatClampNeg) + v2)] (hh (xa_u S3.1 54 ((x1).toNatClampNeg) 0, S3.2.1, S3.2.2)) (n + 1) = (match ex X d 152 0 [.int ((S.1 42 (x1).toNatClampNeg) + v2), .int ((S2.1 43 (x1).toNatClampNeg) + v3), .int ((xa_u S3.1 54 ((x1).toNatClampNeg) 0) 44 (x1).toNatClampNeg)] [] (hh (xa_u S3.1 54 ((x1).toNatClampNeg) 0, S3.2.1, S3.2.2)) n with | some (v, h') => ex X (d + 1) 151 62 [.ref 29, .int x1, .int ((S.1 42 (x1).toNatClampNeg) + v2), .int ((S2.1 43 (x1).toNatClampNeg) + v3), .retAddr 0] (v.toList ++ []) h' n | none => none) := rfl
theorem B_151_13 {X : Nat × (Nat → Int32)} {d : Nat} (n : Nat) (x1 : Int32) (S : St) (v2 : Int32) (S2 : St) (v3 : Int32) (v5 : Int32) (S5 : St) : ex X d 151 62 [.ref 29, .int x1, .int ((S.1 42 (x1).toNatClampNeg) + v2), .int ((S2.1 43 (x1).toNatClampNeg) + v3), .retAddr 0] [.int v5] (hh S5) (n + 3) = if v5 = 0 then ex X d 151 69 [.ref 29, .int x1, .int ((S.1 42 (x1).toNatClampNeg) + v2), .int ((S2.1 43 (x1).toNatClampNeg) + v3), .int v5] [] (hh S5) n else ex X d 151 101 [.ref 29, .int x1, .int ((S.1 42 (x1).toNatClampNeg) + v2), .int ((S2.1 43 (x1).toNatClampNeg) + v3), .int v5] [] (hh S5) n := rfl
theorem B_151_14 {X : Nat × (Nat → Int32)} {d : Nat} (n : Nat) (x1 : Int32) (S : St) (v2 : Int32) (S2 : St) (v3 : Int32) (v5 : Int32) (S5 : St) : ex X (d + 1) 151 69 [.ref 29, .int x1, .int ((S.1 42 (x1).toNatClampNeg) + v2), .int ((S2.1 43 (x1).toNatClampNeg) + v3), .int v5] [] (hh S5) (n + 5) = (match ex X d 153 0 [.ref 29, .int x1, .int ((S.1 42 (x1).toNatClampNeg) + v2), .int ((S2.1 43 (x1).toNatClampNeg) + v3), .retAddr 0, .retAddr 0, .retAddr 0, .retAddr 0] [] (hh S5) n with | some (v, h') => ex X (d + 1) 151 76 [.ref 29, .int x1, .int ((S.1 42 (x1).toNatClampNeg) + v2), .int ((S2.1 43 (x1).toNatClampNeg) + v3), .int v5] (v.toList ++ []) h' n | none => none) := rfl
theorem B_151_15 {X : Nat × (Nat → Int32)} {d : Nat} (n : Nat) (x1 : Int32) (S : St) (v2 : Int32) (S2 : St) (v3 : Int32) (v5 : Int32) (v7 : Int32) (S7 : St) : ex X d 151 76 [.ref 29, .int x1, .int ((S.1 42 (x1).toNatClampNeg) + v2), .int ((S2.1 43 (x1).toNatClampNeg) + v3), .int v5] [.int v7] (hh S7) (n + 1) = if v7 = 0 then ex X d 151 79 [.ref 29, .int x1, .int ((S.1 42 (x1).toNatClampNeg) + v2), .int ((S2.1 43 (x1).toNatClampNeg) + v3), .int v5] [] (hh S7) n else ex X d 151 101 [.ref 29, .int x1, .int ((S.1 42 (x1).toNatClampNeg) + v2), .int ((S2.1 43 (x1).toNatClampNeg) + v3), .int v5] [] (hh S7) n := rfl
theorem B_151_16 {X : Nat × (Nat → Int32)} {d : Nat} (n : Nat) (x1 : Int32) (S : St) (v2 : Int32) (S2 : St) (v3 : Int32) (v5 : Int32) (S7 : St) : ex X d 151 79 [.ref 29, .int x1, .int ((S.1 42 (x1).toNatClampNeg) + v2), .int ((S2.1 43 (x1).toNatClampNeg) + v3), .int v5] [] (hh S7) (n + 5) = if (kd 42).1 = 0 ∧ xa_in x1 (kd 42).2 then ex X d 151 86 [.ref 29, .int x1, .int ((S.1 42 (x1).toNatClampNeg) + v2), .int ((S2.1 43 (x1).toNatClampNeg) + v3), .int v5] [] (hh (xa_u S7.1 42 ((x1).toNatClampNeg) ((S.1 42 (x1).toNatClampNeg) + v2), S7.2.1, S7.2.2)) n else none := rfl
theorem B_151_17 {X : Nat × (Nat → Int32)} {d : Nat} (n : Nat) (x1 : Int32) (S : St) (v2 : Int32) (S2 : St) (v3 : Int32) (v5 : Int32) (S7 : St) : ex X d 151 86 [.ref 29, .int x1, .int ((S.1 42 (x1).toNatClampNeg) + v2), .int ((S2.1 43 (x1).toNatClampNeg) + v3), .int v5] [] (hh (xa_u S7.1 42 ((x1).toNatClampNeg) ((S.1 42 (x1).toNatClampNeg) + v2), S7.2.1, S7.2.2)) (n + 5) = if (kd 43).1 = 0 ∧ xa_in x1 (kd 43).2 then ex X d 151 93 [.ref 29, .int x1, .int ((S.1 42 (x1).toNatClampNeg) + v2), .int ((S2.1 43 (x1).toNatClampNeg) + v3), .int v5] [] (hh (xa_u (xa_u S7.1 42 ((x1).toNatClampNeg) ((S.1 42 (x1).toNatClampNeg) + v2)) 43 ((x1).toNatClampNeg) ((S2.1 43 (x1).toNatClampNeg) + v3), S7.2.1, S7.2.2)) n else none := rfl
theorem B_151_18 {X : Nat × (Nat → Int32)} {d : Nat} (n : Nat) (x1 : Int32) (S : St) (v2 : Int32) (S2 : St) (v3 : Int32) (v5 : Int32) (S7 : St) : ex X d 151 93 [.ref 29, .int x1, .int ((S.1 42 (x1).toNatClampNeg) + v2), .int ((S2.1 43 (x1).toNatClampNeg) + v3), .int v5] [] (hh (xa_u (xa_u S7.1 42 ((x1).toNatClampNeg) ((S.1 42 (x1).toNatClampNeg) + v2)) 43 ((x1).toNatClampNeg) ((S2.1 43 (x1).toNatClampNeg) + v3), S7.2.1, S7.2.2)) (n + 5) = if (kd 54).1 = 1 ∧ xa_in x1 (kd 54).2 ∧ ((1 : Int32) = 0 ∨ (1 : Int32) = 1) then ex X d 151 100 [.ref 29, .int x1, .int ((S.1 42 (x1).toNatClampNeg) + v2), .int ((S2.1 43 (x1).toNatClampNeg) + v3), .int v5] [] (hh (xa_u (xa_u (xa_u S7.1 42 ((x1).toNatClampNeg) ((S.1 42 (x1).toNatClampNeg) + v2)) 43 ((x1).toNatClampNeg) ((S2.1 43 (x1).toNatClampNeg) + v3)) 54 ((x1).toNatClampNeg) 1, S7.2.1, S7.2.2)) n else none := rfl
theorem B_151_19 {X : Nat × (Nat → Int32)} {d : Nat} (n : Nat) (x1 : Int32) (S : St) (v2 : Int32) (S2 : St) (v3 : Int32) (v5 : Int32) (v7 : Int32) (S7 : St) : ex X d 151 76 [.ref 29, .int x1, .int ((S.1 42 (x1).toNatClampNeg) + v2), .int ((S2.1 43 (x1).toNatClampNeg) + v3), .int v5] [.int v7] (hh S7) (n + 1) = if v7 = 0 then ex X d 151 79 [.ref 29, .int x1, .int ((S.1 42 (x1).toNatClampNeg) + v2), .int ((S2.1 43 (x1).toNatClampNeg) + v3), .int v5] [] (hh S7) n else ex X d 151 101 [.ref 29, .int x1, .int ((S.1 42 (x1).toNatClampNeg) + v2), .int ((S2.1 43 (x1).toNatClampNeg) + v3), .int v5] [] (hh S7) n := rfl
theorem B_151_20 {X : Nat × (Nat → Int32)} {d : Nat} (n : Nat) (x1 : Int32) (S : St) (v2 : Int32) (S2 : St) (v3 : Int32) (v5 : Int32) (S7 : St) : ex X d 151 101 [.ref 29, .int x1, .int ((S.1 42 (x1).toNatClampNeg) + v2), .int ((S2.1 43 (x1).toNatClampNeg) + v3), .int v5] [] (hh S7) (n + 7) = if (kd 47).1 = 0 ∧ xa_in x1 (kd 47).2 then ex X d 151 112 [.ref 29, .int x1, .int ((S.1 42 (x1).toNatClampNeg) + v2), .int ((S2.1 43 (x1).toNatClampNeg) + v3), .int v5] [.int (S7.1 47 (x1).toNatClampNeg), .int x1, .ref 46] (hh S7) n else none := rfl
theorem B_151_21 {X : Nat × (Nat → Int32)} {d : Nat} (n : Nat) (x1 : Int32) (S : St) (v2 : Int32) (S2 : St) (v3 : Int32) (v5 : Int32) (S7 : St) : ex X d 151 112 [.ref 29, .int x1, .int ((S.1 42 (x1).toNatClampNeg) + v2), .int ((S2.1 43 (x1).toNatClampNeg) + v3), .int v5] [.int (S7.1 47 (x1).toNatClampNeg), .int x1, .ref 46] (hh S7) (n + 2) = if (S7.1 47 (x1).toNatClampNeg) = 3 then ex X d 151 116 [.ref 29, .int x1, .int ((S.1 42 (x1).toNatClampNeg) + v2), .int ((S2.1 43 (x1).toNatClampNeg) + v3), .int v5] [.int x1, .ref 46] (hh S7) n else ex X d 151 125 [.ref 29, .int x1, .int ((S.1 42 (x1).toNatClampNeg) + v2), .int ((S2.1 43 (x1).toNatClampNeg) + v3), .int v5] [.int x1, .ref 46] (hh S7) n := rfl
theorem B_151_22 {X : Nat × (Nat → Int32)} {d : Nat} (n : Nat) (x1 : Int32) (S : St) (v2 : Int32) (S2 : St) (v3 : Int32) (v5 : Int32) (S7 : St) : ex X d 151 116 [.ref 29, .int x1, .int ((S.1 42 (x1).toNatClampNeg) + v2), .int ((S2.1 43 (x1).toNatClampNeg) + v3), .int v5] [.int x1, .ref 46] (hh S7) (n + 4) = if (kd 46).1 = 0 ∧ xa_in x1 (kd 46).2 then ex X d 151 122 [.ref 29, .int x1, .int ((S.1 42 (x1).toNatClampNeg) + v2), .int ((S2.1 43 (x1).toNatClampNeg) + v3), .int v5] [.int (S7.1 46 (x1).toNatClampNeg), .int x1, .ref 46] (hh S7) n else none := rfl
theorem B_151_23 {X : Nat × (Nat → Int32)} {d : Nat} (n : Nat) (x1 : Int32) (S : St) (v2 : Int32) (S2 : St) (v3 : Int32) (v5 : Int32) (S7 : St) : ex X d 151 122 [.ref 29, .int x1, .int ((S.1 42 (x1).toNatClampNeg) + v2), .int ((S2.1 43 (x1).toNatClampNeg) + v3), .int v5] [.int (S7.1 46 (x1).toNatClampNeg), .int x1, .ref 46] (hh S7) (n + 2) = if (kd 46).1 = 0 ∧ xa_in x1 (kd 46).2 then ex X d 151 127 [.ref 29, .int x1, .int ((S.1 42 (x1).toNatClampNeg) + v2), .int ((S2.1 43 (x1).toNatClampNeg) + v3), .int v5] [] (hh (xa_u S7.1 46 ((x1).toNatClampNeg) (S7.1 46 (x1).toNatClampNeg), S7.2.1, S7.2.2)) n else none := rfl
theorem B_151_24 {X : Nat × (Nat → Int32)} {d : Nat} (n : Nat) (x1 : Int32) (S : St) (v2 : Int32) (S2 : St) (v3 : Int32) (v5 : Int32) (S7 : St) : ex X d 151 127 [.ref 29, .int x1, .int ((S.1 42 (x1).toNatClampNeg) + v2), .int ((S2.1 43 (x1).toNatClampNeg) + v3), .int v5] [] (hh (xa_u S7.1 46 ((x1).toNatClampNeg) (S7.1 46 (x1).toNatClampNeg), S7.2.1, S7.2.2)) (n + 5) = if x1 = 0 then ex X d 151 136 [.ref 29, .int x1, .int ((S.1 42 (x1).toNatClampNeg) + v2), .int ((S2.1 43 (x1).toNatClampNeg) + v3), .int v5] [.int 0, .ref 40] (hh (xa_u S7.1 46 ((x1).toNatClampNeg) (S7.1 46 (x1).toNatClampNeg), S7.2.1, S7.2.2)) n else ex X d 151 141 [.ref 29, .int x1, .int ((S.1 42 (x1).toNatClampNeg) + v2), .int ((S2.1 43 (x1).toNatClampNeg) + v3), .int v5] [.int 0, .ref 40] (hh (xa_u S7.1 46 ((x1).toNatClampNeg) (S7.1 46 (x1).toNatClampNeg), S7.2.1, S7.2.2)) n := rfl
theorem B_151_25 {X : Nat × (Nat → Int32)} {d : Nat} (n : Nat) (x1 : Int32) (S : St) (v2 : Int32) (S2 : St) (v3 : Int32) (v5 : Int32) (S7 : St) : ex X d 151 136 [.ref 29, .int x1, .int ((S.1 42 (x1).toNatClampNeg) + v2), .int ((S2.1 43 (x1).toNatClampNeg) + v3), .int v5] [.int 0, .ref 40] (hh (xa_u S7.1 46 ((x1).toNatClampNeg) (S7.1 46 (x1).toNatClampNeg), S7.2.1, S7.2.2)) (n + 3) = if (kd 40).1 = 0 ∧ xa_in (0 : Int32) (kd 40).2 then ex X d 151 148 [.ref 29, .int x1, .int ((S.1 42 (x1).toNatClampNeg) + v2), .int ((S2.1 43 (x1).toNatClampNeg) + v3), .int v5] [] (hh (xa_u (xa_u S7.1 46 ((x1).toNatClampNeg) (S7.1 46 (x1).toNatClampNeg)) 40 (((0 : Int32)).toNatClampNeg) v5, S7.2.1, S7.2.2)) n else none := rfl
theorem B_151_26 {X : Nat × (Nat → Int32)} {d : Nat} (n : Nat) (x1 : Int32) (S : St) (v2 : Int32) (S2 : St) (v3 : Int32) (v5 : Int32) (S7 : St) : ex X d 151 127 [.ref 29, .int x1, .int ((S.1 42 (x1).toNatClampNeg) + v2), .int ((S2.1 43 (x1).toNatClampNeg) + v3), .int v5] [] (hh (xa_u S7.1 46 ((x1).toNatClampNeg) (S7.1 46 (x1).toNatClampNeg), S7.2.1, S7.2.2)) (n + 5) = if x1 = 0 then ex X d 151 136 [.ref 29, .int x1, .int ((S.1 42 (x1).toNatClampNeg) + v2), .int ((S2.1 43 (x1).toNatClampNeg) + v3), .int v5] [.int 0, .ref 40] (hh (xa_u S7.1 46 ((x1).toNatClampNeg) (S7.1 46 (x1).toNatClampNeg), S7.2.1, S7.2.2)) n else ex X d 151 141 [.ref 29, .int x1, .int ((S.1 42 (x1).toNatClampNeg) + v2), .int ((S2.1 43 (x1).toNatClampNeg) + v3), .int v5] [.int 0, .ref 40] (hh (xa_u S7.1 46 ((x1).toNatClampNeg) (S7.1 46 (x1).toNatClampNeg), S7.2.1, S7.2.2)) n := rfl
theorem B_151_27 {X : Nat × (Nat → Int32)} {d : Nat} (n : Nat) (x1 : Int32) (S : St) (v2 : Int32) (S2 : St) (v3 : Int32) (v5 : Int32) (S7 : St) : ex X d 151 141 [.ref 29, .int x1, .int ((S.1 42 (x1).toNatClampNeg) + v2), .int ((S2.1 43 (x1).toNatClampNeg) + v3), .int v5] [.int 0, .ref 40] (hh (xa_u S7.1 46 ((x1).toNatClampNeg) (S7.1 46 (x1).toNatClampNeg), S7.2.1, S7.2.2)) (n + 4) = if (kd 40).1 = 0 ∧ xa_in (0 : Int32) (kd 40).2 then ex X d 151 147 [.ref 29, .int x1, .int ((S.1 42 (x1).toNatClampNeg) + v2), .int ((S2.1 43 (x1).toNatClampNeg) + v3), .int v5] [.int ((xa_u S7.1 46 ((x1).toNatClampNeg) (S7.1 46 (x1).toNatClampNeg)) 40 ((0 : Int32)).toNatClampNeg), .int 0, .ref 40] (hh (xa_u S7.1 46 ((x1).toNatClampNeg) (S7.1 46 (x1).toNatClampNeg), S7.2.1, S7.2.2)) n else none := rfl
theorem B_151_28 {X : Nat × (Nat → Int32)} {d : Nat} (n : Nat) (x1 : Int32) (S : St) (v2 : Int32) (S2 : St) (v3 : Int32) (v5 : Int32) (S7 : St) : ex X d 151 147 [.ref 29, .int x1, .int ((S.1 42 (x1).toNatClampNeg) + v2), .int ((S2.1 43 (x1).toNatClampNeg) + v3), .int v5] [.int ((xa_u S7.1 46 ((x1).toNatClampNeg) (S7.1 46 (x1).toNatClampNeg)) 40 ((0 : Int32)).toNatClampNeg), .int 0, .ref 40] (hh (xa_u S7.1 46 ((x1).toNatClampNeg) (S7.1 46 (x1).toNatClampNeg), S7.2.1, S7.2.2)) (n + 1) = if (kd 40).1 = 0 ∧ xa_in (0 : Int32) (kd 40).2 then ex X d 151 148 [.ref 29, .int x1, .int ((S.1 42 (x1).toNatClampNeg) + v2), .int ((S2.1 43 (x1).toNatClampNeg) + v3), .int v5] [] (hh (xa_u (xa_u S7.1 46 ((x1).toNatClampNeg) (S7.1 46 (x1).toNatClampNeg)) 40 (((0 : Int32)).toNatClampNeg) ((xa_u S7.1 46 ((x1).toNatClampNeg) (S7.1 46 (x1).toNatClampNeg)) 40 ((0 : Int32)).toNatClampNeg), S7.2.1, S7.2.2)) n else none := rfl
theorem B_151_29 {X : Nat × (Nat → Int32)} {d : Nat} (n : Nat) (x1 : Int32) (S : St) (v2 : Int32) (S2 : St) (v3 : Int32) (v5 : Int32) (S7 : St) : ex X d 151 112 [.ref 29, .int x1, .int ((S.1 42 (x1).toNatClampNeg) + v2), .int ((S2.1 43 (x1).toNatClampNeg) + v3), .int v5] [.int (S7.1 47 (x1).toNatClampNeg), .int x1, .ref 46] (hh S7) (n + 2) = if (S7.1 47 (x1).toNatClampNeg) = 3 then ex X d 151 116 [.ref 29, .int x1, .int ((S.1 42 (x1).toNatClampNeg) + v2), .int ((S2.1 43 (x1).toNatClampNeg) + v3), .int v5] [.int x1, .ref 46] (hh S7) n else ex X d 151 125 [.ref 29, .int x1, .int ((S.1 42 (x1).toNatClampNeg) + v2), .int ((S2.1 43 (x1).toNatClampNeg) + v3), .int v5] [.int x1, .ref 46] (hh S7) n := rfl
theorem B_151_30 {X : Nat × (Nat → Int32)} {d : Nat} (n : Nat) (x1 : Int32) (S : St) (v2 : Int32) (S2 : St) (v3 : Int32) (v5 : Int32) (S7 : St) : ex X d 151 125 [.ref 29, .int x1, .int ((S.1 42 (x1).toNatClampNeg) + v2), .int ((S2.1 43 (x1).toNatClampNeg) + v3), .int v5] [.int x1, .ref 46] (hh S7) (n + 2) = if (kd 46).1 = 0 ∧ xa_in x1 (kd 46).2 then ex X d 151 127 [.ref 29, .int x1, .int ((S.1 42 (x1).toNatClampNeg) + v2), .int ((S2.1 43 (x1).toNatClampNeg) + v3), .int v5] [] (hh (xa_u S7.1 46 ((x1).toNatClampNeg) 0, S7.2.1, S7.2.2)) n else none := rfl
theorem B_151_31 {X : Nat × (Nat → Int32)} {d : Nat} (n : Nat) (x1 : Int32) (S : St) (v2 : Int32) (S2 : St) (v3 : Int32) (v5 : Int32) (S7 : St) : ex X d 151 127 [.ref 29, .int x1, .int ((S.1 42 (x1).toNatClampNeg) + v2), .int ((S2.1 43 (x1).toNatClampNeg) + v3), .int v5] [] (hh (xa_u S7.1 46 ((x1).toNatClampNeg) 0, S7.2.1, S7.2.2)) (n + 5) = if x1 = 0 then ex X d 151 136 [.ref 29, .int x1, .int ((S.1 42 (x1).toNatClampNeg) + v2), .int ((S2.1 43 (x1).toNatClampNeg) + v3), .int v5] [.int 0, .ref 40] (hh (xa_u S7.1 46 ((x1).toNatClampNeg) 0, S7.2.1, S7.2.2)) n else ex X d 151 141 [.ref 29, .int x1, .int ((S.1 42 (x1).toNatClampNeg) + v2), .int ((S2.1 43 (x1).toNatClampNeg) + v3), .int v5] [.int 0, .ref 40] (hh (xa_u S7.1 46 ((x1).toNatClampNeg) 0, S7.2.1, S7.2.2)) n := rfl
theorem B_151_32 {X : Nat × (Nat → Int32)} {d : Nat} (n : Nat) (x1 : Int32) (S : St) (v2 : Int32) (S2 : St) (v3 : Int32) (v5 : Int32) (S7 : St) : ex X d 151 136 [.ref 29, .int x1, .int ((S.1 42 (x1).toNatClampNeg) + v2), .int ((S2.1 43 (x1).toNatClampNeg) + v3), .int v5] [.int 0, .ref 40] (hh (xa_u S7.1 46 ((x1).toNatClampNeg) 0, S7.2.1, S7.2.2)) (n + 3) = if (kd 40).1 = 0 ∧ xa_in (0 : Int32) (kd 40).2 then ex X d 151 148 [.ref 29, .int x1, .int ((S.1 42 (x1).toNatClampNeg) + v2), .int ((S2.1 43 (x1).toNatClampNeg) + v3), .int v5] [] (hh (xa_u (xa_u S7.1 46 ((x1).toNatClampNeg) 0) 40 (((0 : Int32)).toNatClampNeg) v5, S7.2.1, S7.2.2)) n else none := rfl
theorem B_151_33 {X : Nat × (Nat → Int32)} {d : Nat} (n : Nat) (x1 : Int32) (S : St) (v2 : Int32) (S2 : St) (v3 : Int32) (v5 : Int32) (S7 : St) : ex X d 151 127 [.ref 29, .int x1, .int ((S.1 42 (x1).toNatClampNeg) + v2), .int ((S2.1 43 (x1).toNatClampNeg) + v3), .int v5] [] (hh (xa_u S7.1 46 ((x1).toNatClampNeg) 0, S7.2.1, S7.2.2)) (n + 5) = if x1 = 0 then ex X d 151 136 [.ref 29, .int x1, .int ((S.1 42 (x1).toNatClampNeg) + v2), .int ((S2.1 43 (x1).toNatClampNeg) + v3), .int v5] [.int 0, .ref 40] (hh (xa_u S7.1 46 ((x1).toNatClampNeg) 0, S7.2.1, S7.2.2)) n else ex X d 151 141 [.ref 29, .int x1, .int ((S.1 42 (x1).toNatClampNeg) + v2), .int ((S2.1 43 (x1).toNatClampNeg) + v3), .int v5] [.int 0, .ref 40] (hh (xa_u S7.1 46 ((x1).toNatClampNeg) 0, S7.2.1, S7.2.2)) n := rfl
theorem B_151_34 {X : Nat × (Nat → Int32)} {d : Nat} (n : Nat) (x1 : Int32) (S : St) (v2 : Int32) (S2 : St) (v3 : Int32) (v5 : Int32) (S7 : St) : ex X d 151 141 [.ref 29, .int x1, .int ((S.1 42 (x1).toNatClampNeg) + v2), .int ((S2.1 43 (x1).toNatClampNeg) + v3), .int v5] [.int 0, .ref 40] (hh (xa_u S7.1 46 ((x1).toNatClampNeg) 0, S7.2.1, S7.2.2)) (n + 4) = if (kd 40).1 = 0 ∧ xa_in (0 : Int32) (kd 40).2 then ex X d 151 147 [.ref 29, .int x1, .int ((S.1 42 (x1).toNatClampNeg) + v2), .int ((S2.1 43 (x1).toNatClampNeg) + v3), .int v5] [.int ((xa_u S7.1 46 ((x1).toNatClampNeg) 0) 40 ((0 : Int32)).toNatClampNeg), .int 0, .ref 40] (hh (xa_u S7.1 46 ((x1).toNatClampNeg) 0, S7.2.1, S7.2.2)) n else none := rfl
theorem B_151_35 {X : Nat × (Nat → Int32)} {d : Nat} (n : Nat) (x1 : Int32) (S : St) (v2 : Int32) (S2 : St) (v3 : Int32) (v5 : Int32) (S7 : St) : ex X d 151 147 [.ref 29, .int x1, .int ((S.1 42 (x1).toNatClampNeg) + v2), .int ((S2.1 43 (x1).toNatClampNeg) + v3), .int v5] [.int ((xa_u S7.1 46 ((x1).toNatClampNeg) 0) 40 ((0 : Int32)).toNatClampNeg), .int 0, .ref 40] (hh (xa_u S7.1 46 ((x1).toNatClampNeg) 0, S7.2.1, S7.2.2)) (n + 1) = if (kd 40).1 = 0 ∧ xa_in (0 : Int32) (kd 40).2 then ex X d 151 148 [.ref 29, .int x1, .int ((S.1 42 (x1).toNatClampNeg) + v2), .int ((S2.1 43 (x1).toNatClampNeg) + v3), .int v5] [] (hh (xa_u (xa_u S7.1 46 ((x1).toNatClampNeg) 0) 40 (((0 : Int32)).toNatClampNeg) ((xa_u S7.1 46 ((x1).toNatClampNeg) 0) 40 ((0 : Int32)).toNatClampNeg), S7.2.1, S7.2.2)) n else none := rfl
theorem B_151_36 {X : Nat × (Nat → Int32)} {d : Nat} (n : Nat) (x1 : Int32) (S : St) (v2 : Int32) (S2 : St) (v3 : Int32) (v5 : Int32) (S5 : St) : ex X d 151 62 [.ref 29, .int x1, .int ((S.1 42 (x1).toNatClampNeg) + v2), .int ((S2.1 43 (x1).toNatClampNeg) + v3), .retAddr 0] [.int v5] (hh S5) (n + 3) = if v5 = 0 then ex X d 151 69 [.ref 29, .int x1, .int ((S.1 42 (x1).toNatClampNeg) + v2), .int ((S2.1 43 (x1).toNatClampNeg) + v3), .int v5] [] (hh S5) n else ex X d 151 101 [.ref 29, .int x1, .int ((S.1 42 (x1).toNatClampNeg) + v2), .int ((S2.1 43 (x1).toNatClampNeg) + v3), .int v5] [] (hh S5) n := rfl
theorem B_151_37 {X : Nat × (Nat → Int32)} {d : Nat} (n : Nat) (x1 : Int32) (S : St) (v2 : Int32) (S2 : St) (v3 : Int32) (v5 : Int32) (S5 : St) : ex X d 151 101 [.ref 29, .int x1, .int ((S.1 42 (x1).toNatClampNeg) + v2), .int ((S2.1 43 (x1).toNatClampNeg) + v3), .int v5] [] (hh S5) (n + 7) = if (kd 47).1 = 0 ∧ xa_in x1 (kd 47).2 then ex X d 151 112 [.ref 29, .int x1, .int ((S.1 42 (x1).toNatClampNeg) + v2), .int ((S2.1 43 (x1).toNatClampNeg) + v3), .int v5] [.int (S5.1 47 (x1).toNatClampNeg), .int x1, .ref 46] (hh S5) n else none := rfl
theorem B_151_38 {X : Nat × (Nat → Int32)} {d : Nat} (n : Nat) (x1 : Int32) (S : St) (v2 : Int32) (S2 : St) (v3 : Int32) (v5 : Int32) (S5 : St) : ex X d 151 112 [.ref 29, .int x1, .int ((S.1 42 (x1).toNatClampNeg) + v2), .int ((S2.1 43 (x1).toNatClampNeg) + v3), .int v5] [.int (S5.1 47 (x1).toNatClampNeg), .int x1, .ref 46] (hh S5) (n + 2) = if (S5.1 47 (x1).toNatClampNeg) = 3 then ex X d 151 116 [.ref 29, .int x1, .int ((S.1 42 (x1).toNatClampNeg) + v2), .int ((S2.1 43 (x1).toNatClampNeg) + v3), .int v5] [.int x1, .ref 46] (hh S5) n else ex X d 151 125 [.ref 29, .int x1, .int ((S.1 42 (x1).toNatClampNeg) + v2), .int ((S2.1 43 (x1).toNatClampNeg) + v3), .int v5] [.int x1, .ref 46] (hh S5) n := rfl
theorem B_151_39 {X : Nat × (Nat → Int32)} {d : Nat} (n : Nat) (x1 : Int32) (S : St) (v2 : Int32) (S2 : St) (v3 : Int32) (v5 : Int32) (S5 : St) : ex X d 151 116 [.ref 29, .int x1, .int ((S.1 42 (x1).toNatClampNeg) + v2), .int ((S2.1 43 (x1).toNatClampNeg) + v3), .int v5] [.int x1, .ref 46] (hh S5) (n + 4) = if (kd 46).1 = 0 ∧ xa_in x1 (kd 46).2 then ex X d 151 122 [.ref 29, .int x1, .int ((S.1 42 (x1).toNatClampNeg) + v2), .int ((S2.1 43 (x1).toNatClampNeg) + v3), .int v5] [.int (S5.1 46 (x1).toNatClampNeg), .int x1, .ref 46] (hh S5) n else none := rfl
theorem B_151_40 {X : Nat × (Nat → Int32)} {d : Nat} (n : Nat) (x1 : Int32) (S : St) (v2 : Int32) (S2 : St) (v3 : Int32) (v5 : Int32) (S5 : St) : ex X d 151 122 [.ref 29, .int x1, .int ((S.1 42 (x1).toNatClampNeg) + v2), .int ((S2.1 43 (x1).toNatClampNeg) + v3), .int v5] [.int (S5.1 46 (x1).toNatClampNeg), .int x1, .ref 46] (hh S5) (n + 2) = if (kd 46).1 = 0 ∧ xa_in x1 (kd 46).2 then ex X d 151 127 [.ref 29, .int x1, .int ((S.1 42 (x1).toNatClampNeg) + v2), .int ((S2.1 43 (x1).toNatClampNeg) + v3), .int v5] [] (hh (xa_u S5.1 46 ((x1).toNatClampNeg) (S5.1 46 (x1).toNatClampNeg), S5.2.1, S5.2.2)) n else none := rfl
theorem B_151_41 {X : Nat × (Nat → Int32)} {d : Nat} (n : Nat) (x1 : Int32) (S : St) (v2 : Int32) (S2 : St) (v3 : Int32) (v5 : Int32) (S5 : St) : ex X d 151 127 [.ref 29, .int x1, .int ((S.1 42 (x1).toNatClampNeg) + v2), .int ((S2.1 43 (x1).toNatClampNeg) + v3), .int v5] [] (hh (xa_u S5.1 46 ((x1).toNatClampNeg) (S5.1 46 (x1).toNatClampNeg), S5.2.1, S5.2.2)) (n + 5) = if x1 = 0 then ex X d 151 136 [.ref 29, .int x1, .int ((S.1 42 (x1).toNatClampNeg) + v2), .int ((S2.1 43 (x1).toNatClampNeg) + v3), .int v5] [.int 0, .ref 40] (hh (xa_u S5.1 46 ((x1).toNatClampNeg) (S5.1 46 (x1).toNatClampNeg), S5.2.1, S5.2.2)) n else ex X d 151 141 [.ref 29, .int x1, .int ((S.1 42 (x1).toNatClampNeg) + v2), .int ((S2.1 43 (x1).toNatClampNeg) + v3), .int v5] [.int 0, .ref 40] (hh (xa_u S5.1 46 ((x1).toNatClampNeg) (S5.1 46 (x1).toNatClampNeg), S5.2.1, S5.2.2)) n := rfl
theorem B_151_42 {X : Nat × (Nat → Int32)} {d : Nat} (n : Nat) (x1 : Int32) (S : St) (v2 : Int32) (S2 : St) (v3 : Int32) (v5 : Int32) (S5 : St) : ex X d 151 136 [.ref 29, .int x1, .int ((S.1 42 (x1).toNatClampNeg) + v2), .int ((S2.1 43 (x1).toNatClampNeg) + v3), .int v5] [.int 0, .ref 40] (hh (xa_u S5.1 46 ((x1).toNatClampNeg) (S5.1 46 (x1).toNatClampNeg), S5.2.1, S5.2.2)) (n + 3) = if (kd 40).1 = 0 ∧ xa_in (0 : Int32) (kd 40).2 then ex X d 151 148 [.ref 29, .int x1, .int ((S.1 42 (x1).toNatClampNeg) + v2), .int ((S2.1 43 (x1).toNatClampNeg) + v3), .int v5] [] (hh (xa_u (xa_u S5.1 46 ((x1).toNatClampNeg) (S5.1 46 (x1).toNatClampNeg)) 40 (((0 : Int32)).toNatClampNeg) v5, S5.2.1, S5.2.2)) n else none := rfl
theorem B_151_43 {X : Nat × (Nat → Int32)} {d : Nat} (n : Nat) (x1 : Int32) (S : St) (v2 : Int32) (S2 : St) (v3 : Int32) (v5 : Int32) (S5 : St) : ex X d 151 127 [.ref 29, .int x1, .int ((S.1 42 (x1).toNatClampNeg) + v2), .int ((S2.1 43 (x1).toNatClampNeg) + v3), .int v5] [] (hh (xa_u S5.1 46 ((x1).toNatClampNeg) (S5.1 46 (x1).toNatClampNeg), S5.2.1, S5.2.2)) (n + 5) = if x1 = 0 then ex X d 151 136 [.ref 29, .int x1, .int ((S.1 42 (x1).toNatClampNeg) + v2), .int ((S2.1 43 (x1).toNatClampNeg) + v3), .int v5] [.int 0, .ref 40] (hh (xa_u S5.1 46 ((x1).toNatClampNeg) (S5.1 46 (x1).toNatClampNeg), S5.2.1, S5.2.2)) n else ex X d 151 141 [.ref 29, .int x1, .int ((S.1 42 (x1).toNatClampNeg) + v2), .int ((S2.1 43 (x1).toNatClampNeg) + v3), .int v5] [.int 0, .ref 40] (hh (xa_u S5.1 46 ((x1).toNatClampNeg) (S5.1 46 (x1).toNatClampNeg), S5.2.1, S5.2.2)) n := rfl
theorem B_151_44 {X : Nat × (Nat → Int32)} {d : Nat} (n : Nat) (x1 : Int32) (S : St) (v2 : Int32) (S2 : St) (v3 : Int32) (v5 : Int32) (S5 : St) : ex X d 151 141 [.ref 29, .int x1, .int ((S.1 42 (x1).toNatClampNeg) + v2), .int ((S2.1 43 (x1).toNatClampNeg) + v3), .int v5] [.int 0, .ref 40] (hh (xa_u S5.1 46 ((x1).toNatClampNeg) (S5.1 46 (x1).toNatClampNeg), S5.2.1, S5.2.2)) (n + 4) = if (kd 40).1 = 0 ∧ xa_in (0 : Int32) (kd 40).2 then ex X d 151 147 [.ref 29, .int x1, .int ((S.1 42 (x1).toNatClampNeg) + v2), .int ((S2.1 43 (x1).toNatClampNeg) + v3), .int v5] [.int ((xa_u S5.1 46 ((x1).toNatClampNeg) (S5.1 46 (x1).toNatClampNeg)) 40 ((0 : Int32)).toNatClampNeg), .int 0, .ref 40] (hh (xa_u S5.1 46 ((x1).toNatClampNeg) (S5.1 46 (x1).toNatClampNeg), S5.2.1, S5.2.2)) n else none := rfl
theorem B_151_45 {X : Nat × (Nat → Int32)} {d : Nat} (n : Nat) (x1 : Int32) (S : St) (v2 : Int32) (S2 : St) (v3 : Int32) (v5 : Int32) (S5 : St) : ex X d 151 147 [.ref 29, .int x1, .int ((S.1 42 (x1).toNatClampNeg) + v2), .int ((S2.1 43 (x1).toNatClampNeg) + v3), .int v5] [.int ((xa_u S5.1 46 ((x1).toNatClampNeg) (S5.1 46 (x1).toNatClampNeg)) 40 ((0 : Int32)).toNatClampNeg), .int 0, .ref 40] (hh (xa_u S5.1 46 ((x1).toNatClampNeg) (S5.1 46 (x1).toNatClampNeg), S5.2.1, S5.2.2)) (n + 1) = if (kd 40).1 = 0 ∧ xa_in (0 : Int32) (kd 40).2 then ex X d 151 148 [.ref 29, .int x1, .int ((S.1 42 (x1).toNatClampNeg) + v2), .int ((S2.1 43 (x1).toNatClampNeg) + v3), .int v5] [] (hh (xa_u (xa_u S5.1 46 ((x1).toNatClampNeg) (S5.1 46 (x1).toNatClampNeg)) 40 (((0 : Int32)).toNatClampNeg) ((xa_u S5.1 46 ((x1).toNatClampNeg) (S5.1 46 (x1).toNatClampNeg)) 40 ((0 : Int32)).toNatClampNeg), S5.2.1, S5.2.2)) n else none := rfl
theorem B_151_46 {X : Nat × (Nat → Int32)} {d : Nat} (n : Nat) (x1 : Int32) (S : St) (v2 : Int32) (S2 : St) (v3 : Int32) (v5 : Int32) (S5 : St) : ex X d 151 112 [.ref 29, .int x1, .int ((S.1 42 (x1).toNatClampNeg) + v2), .int ((S2.1 43 (x1).toNatClampNeg) + v3), .int v5] [.int (S5.1 47 (x1).toNatClampNeg), .int x1, .ref 46] (hh S5) (n + 2) = if (S5.1 47 (x1).toNatClampNeg) = 3 then ex X d 151 116 [.ref 29, .int x1, .int ((S.1 42 (x1).toNatClampNeg) + v2), .int ((S2.1 43 (x1).toNatClampNeg) + v3), .int v5] [.int x1, .ref 46] (hh S5) n else ex X d 151 125 [.ref 29, .int x1, .int ((S.1 42 (x1).toNatClampNeg) + v2), .int ((S2.1 43 (x1).toNatClampNeg) + v3), .int v5] [.int x1, .ref 46] (hh S5) n := rfl
theorem B_151_47 {X : Nat × (Nat → Int32)} {d : Nat} (n : Nat) (x1 : Int32) (S : St) (v2 : Int32) (S2 : St) (v3 : Int32) (v5 : Int32) (S5 : St) : ex X d 151 125 [.ref 29, .int x1, .int ((S.1 42 (x1).toNatClampNeg) + v2), .int ((S2.1 43 (x1).toNatClampNeg) + v3), .int v5] [.int x1, .ref 46] (hh S5) (n + 2) = if (kd 46).1 = 0 ∧ xa_in x1 (kd 46).2 then ex X d 151 127 [.ref 29, .int x1, .int ((S.1 42 (x1).toNatClampNeg) + v2), .int ((S2.1 43 (x1).toNatClampNeg) + v3), .int v5] [] (hh (xa_u S5.1 46 ((x1).toNatClampNeg) 0, S5.2.1, S5.2.2)) n else none := rfl
theorem B_151_48 {X : Nat × (Nat → Int32)} {d : Nat} (n : Nat) (x1 : Int32) (S : St) (v2 : Int32) (S2 : St) (v3 : Int32) (v5 : Int32) (S5 : St) : ex X d 151 127 [.ref 29, .int x1, .int ((S.1 42 (x1).toNatClampNeg) + v2), .int ((S2.1 43 (x1).toNatClampNeg) + v3), .int v5] [] (hh (xa_u S5.1 46 ((x1).toNatClampNeg) 0, S5.2.1, S5.2.2)) (n + 5) = if x1 = 0 then ex X d 151 136 [.ref 29, .int x1, .int ((S.1 42 (x1).toNatClampNeg) + v2), .int ((S2.1 43 (x1).toNatClampNeg) + v3), .int v5] [.int 0, .ref 40] (hh (xa_u S5.1 46 ((x1).toNatClampNeg) 0, S5.2.1, S5.2.2)) n else ex X d 151 141 [.ref 29, .int x1, .int ((S.1 42 (x1).toNatClampNeg) + v2), .int ((S2.1 43 (x1).toNatClampNeg) + v3), .int v5] [.int 0, .ref 40] (hh (xa_u S5.1 46 ((x1).toNatClampNeg) 0, S5.2.1, S5.2.2)) n := rfl
theorem B_151_49 {X : Nat × (Nat → Int32)} {d : Nat} (n : Nat) (x1 : Int32) (S : St) (v2 : Int32) (S2 : St) (v3 : Int32) (v5 : Int32) (S5 : St) : ex X d 151 136 [.ref 29, .int x1, .int ((S.1 42 (x1).toNatClampNeg) + v2), .int ((S2.1 43 (x1).toNatClampNeg) + v3), .int v5] [.int 0, .ref 40] (hh (xa_u S5.1 46 ((x1).toNatClampNeg) 0, S5.2.1, S5.2.2)) (n + 3) = if (kd 40).1 = 0 ∧ xa_in (0 : Int32) (kd 40).2 then ex X d 151 148 [.ref 29, .int x1, .int ((S.1 42 (x1).toNatClampNeg) + v2), .int ((S2.1 43 (x1).toNatClampNeg) + v3), .int v5] [] (hh (xa_u (xa_u S5.1 46 ((x1).toNatClampNeg) 0) 40 (((0 : Int32)).toNatClampNeg) v5, S5.2.1, S5.2.2)) n else none := rfl
theorem B_151_50 {X : Nat × (Nat → Int32)} {d : Nat} (n : Nat) (x1 : Int32) (S : St) (v2 : Int32) (S2 : St) (v3 : Int32) (v5 : Int32) (S5 : St) : ex X d 151 127 [.ref 29, .int x1, .int ((S.1 42 (x1).toNatClampNeg) + v2), .int ((S2.1 43 (x1).toNatClampNeg) + v3), .int v5] [] (hh (xa_u S5.1 46 ((x1).toNatClampNeg) 0, S5.2.1, S5.2.2)) (n + 5) = if x1 = 0 then ex X d 151 136 [.ref 29, .int x1, .int ((S.1 42 (x1).toNatClampNeg) + v2), .int ((S2.1 43 (x1).toNatClampNeg) + v3), .int v5] [.int 0, .ref 40] (hh (xa_u S5.1 46 ((x1).toNatClampNeg) 0, S5.2.1, S5.2.2)) n else ex X d 151 141 [.ref 29, .int x1, .int ((S.1 42 (x1).toNatClampNeg) + v2), .int ((S2.1 43 (x1).toNatClampNeg) + v3), .int v5] [.int 0, .ref 40] (hh (xa_u S5.1 46 ((x1).toNatClampNeg) 0, S5.2.1, S5.2.2)) n := rfl
theorem B_151_51 {X : Nat × (Nat → Int32)} {d : Nat} (n : Nat) (x1 : Int32) (S : St) (v2 : Int32) (S2 : St) (v3 : Int32) (v5 : Int32) (S5 : St) : ex X d 151 141 [.ref 29, .int x1, .int ((S.1 42 (x1).toNatClampNeg) + v2), .int ((S2.1 43 (x1).toNatClampNeg) + v3), .int v5] [.int 0, .ref 40] (hh (xa_u S5.1 46 ((x1).toNatClampNeg) 0, S5.2.1, S5.2.2)) (n + 4) = if (kd 40).1 = 0 ∧ xa_in (0 : Int32) (kd 40).2 then ex X d 151 147 [.ref 29, .int x1, .int ((S.1 42 (x1).toNatClampNeg) + v2), .int ((S2.1 43 (x1).toNatClampNeg) + v3), .int v5] [.int ((xa_u S5.1 46 ((x1).toNatClampNeg) 0) 40 ((0 : Int32)).toNatClampNeg), .int 0, .ref 40] (hh (xa_u S5.1 46 ((x1).toNatClampNeg) 0, S5.2.1, S5.2.2)) n else none := rfl
theorem B_151_52 {X : Nat × (Nat → Int32)} {d : Nat} (n : Nat) (x1 : Int32) (S : St) (v2 : Int32) (S2 : St) (v3 : Int32) (v5 : Int32) (S5 : St) : ex X d 151 147 [.ref 29, .int x1, .int ((S.1 42 (x1).toNatClampNeg) + v2), .int ((S2.1 43 (x1).toNatClampNeg) + v3), .int v5] [.int ((xa_u S5.1 46 ((x1).toNatClampNeg) 0) 40 ((0 : Int32)).toNatClampNeg), .int 0, .ref 40] (hh (xa_u S5.1 46 ((x1).toNatClampNeg) 0, S5.2.1, S5.2.2)) (n + 1) = if (kd 40).1 = 0 ∧ xa_in (0 : Int32) (kd 40).2 then ex X d 151 148 [.ref 29, .int x1, .int ((S.1 42 (x1).toNatClampNeg) + v2), .int ((S2.1 43 (x1).toNatClampNeg) + v3), .int v5] [] (hh (xa_u (xa_u S5.1 46 ((x1).toNatClampNeg) 0) 40 (((0 : Int32)).toNatClampNeg) ((xa_u S5.1 46 ((x1).toNatClampNeg) 0) 40 ((0 : Int32)).toNatClampNeg), S5.2.1, S5.2.2)) n else none := rfl
set_option maxRecDepth 200000 in
theorem T_151 {X : Nat × (Nat → Int32)} (S : St) (x1 : Int32) (r : Unit) (S' : St) (hG : G_151 S x1 = some (r, S')) : Ev X 2 151 0 [.ref 29, .int x1, .retAddr 0, .retAddr 0, .retAddr 0] [] (hh S) (xV r, hh S') := by
  unfold G_151 at hG
  by_cases g1 : xa_in x1 4
  rotate_left
  · rw [if_neg g1] at hG; cases hG
  rw [if_pos g1] at hG
  refine Ev.g (c := (kd 42).1 = 0 ∧ xa_in x1 (kd 42).2) (p1 := 6) (L1 := [.ref 29, .int x1, .retAddr 0, .retAddr 0, .retAddr 0]) (s1 := [.int (S.1 42 (x1).toNatClampNeg)]) (h1 := hh S) 4 (fun n => B_151_1 n x1 S) (⟨rfl, g1⟩) ?_
  refine Ev.g (c := (kd 46).1 = 0 ∧ xa_in x1 (kd 46).2) (p1 := 12) (L1 := [.ref 29, .int x1, .retAddr 0, .retAddr 0, .retAddr 0]) (s1 := [.int (S.1 46 (x1).toNatClampNeg), .int (S.1 42 (x1).toNatClampNeg)]) (h1 := hh S) 4 (fun n => B_151_2 n x1 S) (⟨rfl, g1⟩) ?_
  rcases h2 : G_148 S (S.1 46 (x1).toNatClampNeg) with _ | ⟨v2, S2⟩
  · rw [h2] at hG; cases hG
  rw [h2] at hG
  dsimp only at hG
  refine Ev.c (a := 148) (A := [.int (S.1 46 (x1).toNatClampNeg)]) (h1 := hh S) (pc' := 15) (L' := [.ref 29, .int x1, .retAddr 0, .retAddr 0, .retAddr 0]) (rest := [.int (S.1 42 (x1).toNatClampNeg)]) (r1 := some (.int v2)) (h2 := hh S2) 1 (fun n => B_151_3 n x1 S) (Ev.up (by decide) (T_148 S (S.1 46 (x1).toNatClampNeg) _ _ h2)) ?_
  show Ev X _ 151 15 [.ref 29, .int x1, .retAddr 0, .retAddr 0, .retAddr 0] [.int v2, .int (S.1 42 (x1).toNatClampNeg)] (hh S2) _
  refine Ev.g (c := (kd 43).1 = 0 ∧ xa_in x1 (kd 43).2) (p1 := 23) (L1 := [.ref 29, .int x1, .int ((S.1 42 (x1).toNatClampNeg) + v2), .retAddr 0, .retAddr 0]) (s1 := [.int (S2.1 43 (x1).toNatClampNeg)]) (h1 := hh S2) 6 (fun n => B_151_4 n x1 v2 S S2) (⟨rfl, g1⟩) ?_
  refine Ev.g (c := (kd 46).1 = 0 ∧ xa_in x1 (kd 46).2) (p1 := 29) (L1 := [.ref 29, .int x1, .int ((S.1 42 (x1).toNatClampNeg) + v2), .retAddr 0, .retAddr 0]) (s1 := [.int (S2.1 46 (x1).toNatClampNeg), .int (S2.1 43 (x1).toNatClampNeg)]) (h1 := hh S2) 4 (fun n => B_151_5 n x1 S v2 S2) (⟨rfl, g1⟩) ?_
  rcases h3 : G_150 S2 (S2.1 46 (x1).toNatClampNeg) with _ | ⟨v3, S3⟩
  · rw [h3] at hG; cases hG
  rw [h3] at hG
  dsimp only at hG
  refine Ev.c (a := 150) (A := [.int (S2.1 46 (x1).toNatClampNeg)]) (h1 := hh S2) (pc' := 32) (L' := [.ref 29, .int x1, .int ((S.1 42 (x1).toNatClampNeg) + v2), .retAddr 0, .retAddr 0]) (rest := [.int (S2.1 43 (x1).toNatClampNeg)]) (r1 := some (.int v3)) (h2 := hh S3) 1 (fun n => B_151_6 n x1 S v2 S2) (Ev.up (by decide) (T_150 S2 (S2.1 46 (x1).toNatClampNeg) _ _ h3)) ?_
  show Ev X _ 151 32 [.ref 29, .int x1, .int ((S.1 42 (x1).toNatClampNeg) + v2), .retAddr 0, .retAddr 0] [.int v3, .int (S2.1 43 (x1).toNatClampNeg)] (hh S3) _
  refine Ev.g (c := (kd 54).1 = 1 ∧ xa_in x1 (kd 54).2 ∧ ((0 : Int32) = 0 ∨ (0 : Int32) = 1)) (p1 := 41) (L1 := [.ref 29, .int x1, .int ((S.1 42 (x1).toNatClampNeg) + v2), .int ((S2.1 43 (x1).toNatClampNeg) + v3), .retAddr 0]) (s1 := []) (h1 := hh (xa_u S3.1 54 ((x1).toNatClampNeg) 0, S3.2.1, S3.2.2)) 7 (fun n => B_151_7 n x1 S v2 v3 S2 S3) (⟨rfl, g1, by decide⟩) ?_
  refine Ev.g (c := (kd 46).1 = 0 ∧ xa_in x1 (kd 46).2) (p1 := 47) (L1 := [.ref 29, .int x1, .int ((S.1 42 (x1).toNatClampNeg) + v2), .int ((S2.1 43 (x1).toNatClampNeg) + v3), .retAddr 0]) (s1 := [.int ((xa_u S3.1 54 ((x1).toNatClampNeg) 0) 46 (x1).toNatClampNeg)]) (h1 := hh (xa_u S3.1 54 ((x1).toNatClampNeg) 0, S3.2.1, S3.2.2)) 4 (fun n => B_151_8 n x1 S v2 S2 v3 S3) (⟨rfl, g1⟩) ?_
  by_cases c4 : ((xa_u S3.1 54 ((x1).toNatClampNeg) 0) 46 (x1).toNatClampNeg) = 0
  · rw [if_pos c4] at hG
    refine Ev.t (c := ((xa_u S3.1 54 ((x1).toNatClampNeg) 0) 46 (x1).toNatClampNeg) = 0) (p1 := 50) (L1 := [.ref 29, .int x1, .int ((S.1 42 (x1).toNatClampNeg) + v2), .int ((S2.1 43 (x1).toNatClampNeg) + v3), .retAddr 0]) (s1 := []) (h1 := hh (xa_u S3.1 54 ((x1).toNatClampNeg) 0, S3.2.1, S3.2.2)) (p2 := 51) (L2 := [.ref 29, .int x1, .int ((S.1 42 (x1).toNatClampNeg) + v2), .int ((S2.1 43 (x1).toNatClampNeg) + v3), .retAddr 0]) (s2 := []) (h2 := hh (xa_u S3.1 54 ((x1).toNatClampNeg) 0, S3.2.1, S3.2.2)) 1 (fun n => B_151_9 n x1 S v2 S2 v3 S3) c4 ?_
    obtain ⟨e1, e2⟩ := Prod.mk.inj (Option.some.inj hG)
    subst e1
    subst e2
    exact Ev.r 1 (fun n => rfl)
  · rw [if_neg c4] at hG
    refine Ev.f (c := ((xa_u S3.1 54 ((x1).toNatClampNeg) 0) 46 (x1).toNatClampNeg) = 0) (p1 := 50) (L1 := [.ref 29, .int x1, .int ((S.1 42 (x1).toNatClampNeg) + v2), .int ((S2.1 43 (x1).toNatClampNeg) + v3), .retAddr 0]) (s1 := []) (h1 := hh (xa_u S3.1 54 ((x1).toNatClampNeg) 0, S3.2.1, S3.2.2)) (p2 := 51) (L2 := [.ref 29, .int x1, .int ((S.1 42 (x1).toNatClampNeg) + v2), .int ((S2.1 43 (x1).toNatClampNeg) + v3), .retAddr 0]) (s2 := []) (h2 := hh (xa_u S3.1 54 ((x1).toNatClampNeg) 0, S3.2.1, S3.2.2)) 1 (fun n => B_151_10 n x1 S v2 S2 v3 S3) c4 ?_
    refine Ev.g (c := (kd 44).1 = 0 ∧ xa_in x1 (kd 44).2) (p1 := 59) (L1 := [.ref 29, .int x1, .int ((S.1 42 (x1).toNatClampNeg) + v2), .int ((S2.1 43 (x1).toNatClampNeg) + v3), .retAddr 0]) (s1 := [.int ((xa_u S3.1 54 ((x1).toNatClampNeg) 0) 44 (x1).toNatClampNeg), .int ((S2.1 43 (x1).toNatClampNeg) + v3), .int ((S.1 42 (x1).toNatClampNeg) + v2)]) (h1 := hh (xa_u S3.1 54 ((x1).toNatClampNeg) 0, S3.2.1, S3.2.2)) 6 (fun n => B_151_11 n x1 S v2 S2 v3 S3) (⟨rfl, g1⟩) ?_
    rcases h5 : G_152 (xa_u S3.1 54 ((x1).toNatClampNeg) 0, S3.2.1, S3.2.2) ((S.1 42 (x1).toNatClampNeg) + v2) ((S2.1 43 (x1).toNatClampNeg) + v3) ((xa_u S3.1 54 ((x1).toNatClampNeg) 0) 44 (x1).toNatClampNeg) with _ | ⟨v5, S5⟩
    · rw [h5] at hG; cases hG
    rw [h5] at hG
    dsimp only at hG
    refine Ev.c (a := 152) (A := [.int ((S.1 42 (x1).toNatClampNeg) + v2), .int ((S2.1 43 (x1).toNatClampNeg) + v3), .int ((xa_u S3.1 54 ((x1).toNatClampNeg) 0) 44 (x1).toNatClampNeg)]) (h1 := hh (xa_u S3.1 54 ((x1).toNatClampNeg) 0, S3.2.1, S3.2.2)) (pc' := 62) (L' := [.ref 29, .int x1, .int ((S.1 42 (x1).toNatClampNeg) + v2), .int ((S2.1 43 (x1).toNatClampNeg) + v3), .retAddr 0]) (rest := []) (r1 := some (.int v5)) (h2 := hh S5) 1 (fun n => B_151_12 n x1 S v2 S2 v3 S3) (Ev.up (by decide) (T_152 (xa_u S3.1 54 ((x1).toNatClampNeg) 0, S3.2.1, S3.2.2) ((S.1 42 (x1).toNatClampNeg) + v2) ((S2.1 43 (x1).toNatClampNeg) + v3) ((xa_u S3.1 54 ((x1).toNatClampNeg) 0) 44 (x1).toNatClampNeg) _ _ h5)) ?_
    show Ev X _ 151 62 [.ref 29, .int x1, .int ((S.1 42 (x1).toNatClampNeg) + v2), .int ((S2.1 43 (x1).toNatClampNeg) + v3), .retAddr 0] [.int v5] (hh S5) _
    by_cases c6 : v5 = 0
    · rw [if_pos c6] at hG
      refine Ev.t (c := v5 = 0) (p1 := 69) (L1 := [.ref 29, .int x1, .int ((S.1 42 (x1).toNatClampNeg) + v2), .int ((S2.1 43 (x1).toNatClampNeg) + v3), .int v5]) (s1 := []) (h1 := hh S5) (p2 := 101) (L2 := [.ref 29, .int x1, .int ((S.1 42 (x1).toNatClampNeg) + v2), .int ((S2.1 43 (x1).toNatClampNeg) + v3), .int v5]) (s2 := []) (h2 := hh S5) 3 (fun n => B_151_13 n x1 S v2 S2 v3 v5 S5) c6 ?_
      rcases h7 : G_153 S5 x1 ((S.1 42 (x1).toNatClampNeg) + v2) ((S2.1 43 (x1).toNatClampNeg) + v3) with _ | ⟨v7, S7⟩
      · rw [h7] at hG; cases hG
      rw [h7] at hG
      dsimp only at hG
      refine Ev.c (a := 153) (A := [.ref 29, .int x1, .int ((S.1 42 (x1).toNatClampNeg) + v2), .int ((S2.1 43 (x1).toNatClampNeg) + v3), .retAddr 0, .retAddr 0, .retAddr 0, .retAddr 0]) (h1 := hh S5) (pc' := 76) (L' := [.ref 29, .int x1, .int ((S.1 42 (x1).toNatClampNeg) + v2), .int ((S2.1 43 (x1).toNatClampNeg) + v3), .int v5]) (rest := []) (r1 := some (.int v7)) (h2 := hh S7) 5 (fun n => B_151_14 n x1 S v2 S2 v3 v5 S5) (Ev.up (by decide) (T_153 S5 x1 ((S.1 42 (x1).toNatClampNeg) + v2) ((S2.1 43 (x1).toNatClampNeg) + v3) _ _ h7)) ?_
      show Ev X _ 151 76 [.ref 29, .int x1, .int ((S.1 42 (x1).toNatClampNeg) + v2), .int ((S2.1 43 (x1).toNatClampNeg) + v3), .int v5] [.int v7] (hh S7) _
      by_cases c8 : v7 = 0
      · rw [if_pos c8] at hG
        refine Ev.t (c := v7 = 0) (p1 := 79) (L1 := [.ref 29, .int x1, .int ((S.1 42 (x1).toNatClampNeg) + v2), .int ((S2.1 43 (x1).toNatClampNeg) + v3), .int v5]) (s1 := []) (h1 := hh S7) (p2 := 101) (L2 := [.ref 29, .int x1, .int ((S.1 42 (x1).toNatClampNeg) + v2), .int ((S2.1 43 (x1).toNatClampNeg) + v3), .int v5]) (s2 := []) (h2 := hh S7) 1 (fun n => B_151_15 n x1 S v2 S2 v3 v5 v7 S7) c8 ?_
        refine Ev.g (c := (kd 42).1 = 0 ∧ xa_in x1 (kd 42).2) (p1 := 86) (L1 := [.ref 29, .int x1, .int ((S.1 42 (x1).toNatClampNeg) + v2), .int ((S2.1 43 (x1).toNatClampNeg) + v3), .int v5]) (s1 := []) (h1 := hh (xa_u S7.1 42 ((x1).toNatClampNeg) ((S.1 42 (x1).toNatClampNeg) + v2), S7.2.1, S7.2.2)) 5 (fun n => B_151_16 n x1 S v2 S2 v3 v5 S7) (⟨rfl, g1⟩) ?_
        refine Ev.g (c := (kd 43).1 = 0 ∧ xa_in x1 (kd 43).2) (p1 := 93) (L1 := [.ref 29, .int x1, .int ((S.1 42 (x1).toNatClampNeg) + v2), .int ((S2.1 43 (x1).toNatClampNeg) + v3), .int v5]) (s1 := []) (h1 := hh (xa_u (xa_u S7.1 42 ((x1).toNatClampNeg) ((S.1 42 (x1).toNatClampNeg) + v2)) 43 ((x1).toNatClampNeg) ((S2.1 43 (x1).toNatClampNeg) + v3), S7.2.1, S7.2.2)) 5 (fun n => B_151_17 n x1 S v2 S2 v3 v5 S7) (⟨rfl, g1⟩) ?_
        refine Ev.g (c := (kd 54).1 = 1 ∧ xa_in x1 (kd 54).2 ∧ ((1 : Int32) = 0 ∨ (1 : Int32) = 1)) (p1 := 100) (L1 := [.ref 29, .int x1, .int ((S.1 42 (x1).toNatClampNeg) + v2), .int ((S2.1 43 (x1).toNatClampNeg) + v3), .int v5]) (s1 := []) (h1 := hh (xa_u (xa_u (xa_u S7.1 42 ((x1).toNatClampNeg) ((S.1 42 (x1).toNatClampNeg) + v2)) 43 ((x1).toNatClampNeg) ((S2.1 43 (x1).toNatClampNeg) + v3)) 54 ((x1).toNatClampNeg) 1, S7.2.1, S7.2.2)) 5 (fun n => B_151_18 n x1 S v2 S2 v3 v5 S7) (⟨rfl, g1, by decide⟩) ?_
        obtain ⟨e1, e2⟩ := Prod.mk.inj (Option.some.inj hG)
        subst e1
        subst e2
        exact Ev.r 1 (fun n => rfl)
      · rw [if_neg c8] at hG
        refine Ev.f (c := v7 = 0) (p1 := 79) (L1 := [.ref 29, .int x1, .int ((S.1 42 (x1).toNatClampNeg) + v2), .int ((S2.1 43 (x1).toNatClampNeg) + v3), .int v5]) (s1 := []) (h1 := hh S7) (p2 := 101) (L2 := [.ref 29, .int x1, .int ((S.1 42 (x1).toNatClampNeg) + v2), .int ((S2.1 43 (x1).toNatClampNeg) + v3), .int v5]) (s2 := []) (h2 := hh S7) 1 (fun n => B_151_19 n x1 S v2 S2 v3 v5 v7 S7) c8 ?_
        refine Ev.g (c := (kd 47).1 = 0 ∧ xa_in x1 (kd 47).2) (p1 := 112) (L1 := [.ref 29, .int x1, .int ((S.1 42 (x1).toNatClampNeg) + v2), .int ((S2.1 43 (x1).toNatClampNeg) + v3), .int v5]) (s1 := [.int (S7.1 47 (x1).toNatClampNeg), .int x1, .ref 46]) (h1 := hh S7) 7 (fun n => B_151_20 n x1 S v2 S2 v3 v5 S7) (⟨rfl, g1⟩) ?_
        by_cases c9 : (S7.1 47 (x1).toNatClampNeg) = 3
        · rw [if_pos c9] at hG
          refine Ev.t (c := (S7.1 47 (x1).toNatClampNeg) = 3) (p1 := 116) (L1 := [.ref 29, .int x1, .int ((S.1 42 (x1).toNatClampNeg) + v2), .int ((S2.1 43 (x1).toNatClampNeg) + v3), .int v5]) (s1 := [.int x1, .ref 46]) (h1 := hh S7) (p2 := 125) (L2 := [.ref 29, .int x1, .int ((S.1 42 (x1).toNatClampNeg) + v2), .int ((S2.1 43 (x1).toNatClampNeg) + v3), .int v5]) (s2 := [.int x1, .ref 46]) (h2 := hh S7) 2 (fun n => B_151_21 n x1 S v2 S2 v3 v5 S7) c9 ?_
          refine Ev.g (c := (kd 46).1 = 0 ∧ xa_in x1 (kd 46).2) (p1 := 122) (L1 := [.ref 29, .int x1, .int ((S.1 42 (x1).toNatClampNeg) + v2), .int ((S2.1 43 (x1).toNatClampNeg) + v3), .int v5]) (s1 := [.int (S7.1 46 (x1).toNatClampNeg), .int x1, .ref 46]) (h1 := hh S7) 4 (fun n => B_151_22 n x1 S v2 S2 v3 v5 S7) (⟨rfl, g1⟩) ?_
          refine Ev.g (c := (kd 46).1 = 0 ∧ xa_in x1 (kd 46).2) (p1 := 127) (L1 := [.ref 29, .int x1, .int ((S.1 42 (x1).toNatClampNeg) + v2), .int ((S2.1 43 (x1).toNatClampNeg) + v3), .int v5]) (s1 := []) (h1 := hh (xa_u S7.1 46 ((x1).toNatClampNeg) (S7.1 46 (x1).toNatClampNeg), S7.2.1, S7.2.2)) 2 (fun n => B_151_23 n x1 S v2 S2 v3 v5 S7) (⟨rfl, g1⟩) ?_
          by_cases c10 : x1 = 0
          · rw [if_pos c10] at hG
            refine Ev.t (c := x1 = 0) (p1 := 136) (L1 := [.ref 29, .int x1, .int ((S.1 42 (x1).toNatClampNeg) + v2), .int ((S2.1 43 (x1).toNatClampNeg) + v3), .int v5]) (s1 := [.int 0, .ref 40]) (h1 := hh (xa_u S7.1 46 ((x1).toNatClampNeg) (S7.1 46 (x1).toNatClampNeg), S7.2.1, S7.2.2)) (p2 := 141) (L2 := [.ref 29, .int x1, .int ((S.1 42 (x1).toNatClampNeg) + v2), .int ((S2.1 43 (x1).toNatClampNeg) + v3), .int v5]) (s2 := [.int 0, .ref 40]) (h2 := hh (xa_u S7.1 46 ((x1).toNatClampNeg) (S7.1 46 (x1).toNatClampNeg), S7.2.1, S7.2.2)) 5 (fun n => B_151_24 n x1 S v2 S2 v3 v5 S7) c10 ?_
            refine Ev.g (c := (kd 40).1 = 0 ∧ xa_in (0 : Int32) (kd 40).2) (p1 := 148) (L1 := [.ref 29, .int x1, .int ((S.1 42 (x1).toNatClampNeg) + v2), .int ((S2.1 43 (x1).toNatClampNeg) + v3), .int v5]) (s1 := []) (h1 := hh (xa_u (xa_u S7.1 46 ((x1).toNatClampNeg) (S7.1 46 (x1).toNatClampNeg)) 40 (((0 : Int32)).toNatClampNeg) v5, S7.2.1, S7.2.2)) 3 (fun n => B_151_25 n x1 S v2 S2 v3 v5 S7) (⟨rfl, by decide⟩) ?_
            obtain ⟨e1, e2⟩ := Prod.mk.inj (Option.some.inj hG)
            subst e1
            subst e2
            exact Ev.r 1 (fun n => rfl)
          · rw [if_neg c10] at hG
            refine Ev.f (c := x1 = 0) (p1 := 136) (L1 := [.ref 29, .int x1, .int ((S.1 42 (x1).toNatClampNeg) + v2), .int ((S2.1 43 (x1).toNatClampNeg) + v3), .int v5]) (s1 := [.int 0, .ref 40]) (h1 := hh (xa_u S7.1 46 ((x1).toNatClampNeg) (S7.1 46 (x1).toNatClampNeg), S7.2.1, S7.2.2)) (p2 := 141) (L2 := [.ref 29, .int x1, .int ((S.1 42 (x1).toNatClampNeg) + v2), .int ((S2.1 43 (x1).toNatClampNeg) + v3), .int v5]) (s2 := [.int 0, .ref 40]) (h2 := hh (xa_u S7.1 46 ((x1).toNatClampNeg) (S7.1 46 (x1).toNatClampNeg), S7.2.1, S7.2.2)) 5 (fun n => B_151_26 n x1 S v2 S2 v3 v5 S7) c10 ?_
            refine Ev.g (c := (kd 40).1 = 0 ∧ xa_in (0 : Int32) (kd 40).2) (p1 := 147) (L1 := [.ref 29, .int x1, .int ((S.1 42 (x1).toNatClampNeg) + v2), .int ((S2.1 43 (x1).toNatClampNeg) + v3), .int v5]) (s1 := [.int ((xa_u S7.1 46 ((x1).toNatClampNeg) (S7.1 46 (x1).toNatClampNeg)) 40 ((0 : Int32)).toNatClampNeg), .int 0, .ref 40]) (h1 := hh (xa_u S7.1 46 ((x1).toNatClampNeg) (S7.1 46 (x1).toNatClampNeg), S7.2.1, S7.2.2)) 4 (fun n => B_151_27 n x1 S v2 S2 v3 v5 S7) (⟨rfl, by decide⟩) ?_
            refine Ev.g (c := (kd 40).1 = 0 ∧ xa_in (0 : Int32) (kd 40).2) (p1 := 148) (L1 := [.ref 29, .int x1, .int ((S.1 42 (x1).toNatClampNeg) + v2), .int ((S2.1 43 (x1).toNatClampNeg) + v3), .int v5]) (s1 := []) (h1 := hh (xa_u (xa_u S7.1 46 ((x1).toNatClampNeg) (S7.1 46 (x1).toNatClampNeg)) 40 (((0 : Int32)).toNatClampNeg) ((xa_u S7.1 46 ((x1).toNatClampNeg) (S7.1 46 (x1).toNatClampNeg)) 40 ((0 : Int32)).toNatClampNeg), S7.2.1, S7.2.2)) 1 (fun n => B_151_28 n x1 S v2 S2 v3 v5 S7) (⟨rfl, by decide⟩) ?_
            obtain ⟨e1, e2⟩ := Prod.mk.inj (Option.some.inj hG)
            subst e1
            subst e2
            exact Ev.r 1 (fun n => rfl)
        · rw [if_neg c9] at hG
          refine Ev.f (c := (S7.1 47 (x1).toNatClampNeg) = 3) (p1 := 116) (L1 := [.ref 29, .int x1, .int ((S.1 42 (x1).toNatClampNeg) + v2), .int ((S2.1 43 (x1).toNatClampNeg) + v3), .int v5]) (s1 := [.int x1, .ref 46]) (h1 := hh S7) (p2 := 125) (L2 := [.ref 29, .int x1, .int ((S.1 42 (x1).toNatClampNeg) + v2), .int ((S2.1 43 (x1).toNatClampNeg) + v3), .int v5]) (s2 := [.int x1, .ref 46]) (h2 := hh S7) 2 (fun n => B_151_29 n x1 S v2 S2 v3 v5 S7) c9 ?_
          refine Ev.g (c := (kd 46).1 = 0 ∧ xa_in x1 (kd 46).2) (p1 := 127) (L1 := [.ref 29, .int x1, .int ((S.1 42 (x1).toNatClampNeg) + v2), .int ((S2.1 43 (x1).toNatClampNeg) + v3), .int v5]) (s1 := []) (h1 := hh (xa_u S7.1 46 ((x1).toNatClampNeg) 0, S7.2.1, S7.2.2)) 2 (fun n => B_151_30 n x1 S v2 S2 v3 v5 S7) (⟨rfl, g1⟩) ?_
          by_cases c11 : x1 = 0
          · rw [if_pos c11] at hG
            refine Ev.t (c := x1 = 0) (p1 := 136) (L1 := [.ref 29, .int x1, .int ((S.1 42 (x1).toNatClampNeg) + v2), .int ((S2.1 43 (x1).toNatClampNeg) + v3), .int v5]) (s1 := [.int 0, .ref 40]) (h1 := hh (xa_u S7.1 46 ((x1).toNatClampNeg) 0, S7.2.1, S7.2.2)) (p2 := 141) (L2 := [.ref 29, .int x1, .int ((S.1 42 (x1).toNatClampNeg) + v2), .int ((S2.1 43 (x1).toNatClampNeg) + v3), .int v5]) (s2 := [.int 0, .ref 40]) (h2 := hh (xa_u S7.1 46 ((x1).toNatClampNeg) 0, S7.2.1, S7.2.2)) 5 (fun n => B_151_31 n x1 S v2 S2 v3 v5 S7) c11 ?_
            refine Ev.g (c := (kd 40).1 = 0 ∧ xa_in (0 : Int32) (kd 40).2) (p1 := 148) (L1 := [.ref 29, .int x1, .int ((S.1 42 (x1).toNatClampNeg) + v2), .int ((S2.1 43 (x1).toNatClampNeg) + v3), .int v5]) (s1 := []) (h1 := hh (xa_u (xa_u S7.1 46 ((x1).toNatClampNeg) 0) 40 (((0 : Int32)).toNatClampNeg) v5, S7.2.1, S7.2.2)) 3 (fun n => B_151_32 n x1 S v2 S2 v3 v5 S7) (⟨rfl, by decide⟩) ?_
            obtain ⟨e1, e2⟩ := Prod.mk.inj (Option.some.inj hG)
            subst e1
            subst e2
            exact Ev.r 1 (fun n => rfl)
          · rw [if_neg c11] at hG
            refine Ev.f (c := x1 = 0) (p1 := 136) (L1 := [.ref 29, .int x1, .int ((S.1 42 (x1).toNatClampNeg) + v2), .int ((S2.1 43 (x1).toNatClampNeg) + v3), .int v5]) (s1 := [.int 0, .ref 40]) (h1 := hh (xa_u S7.1 46 ((x1).toNatClampNeg) 0, S7.2.1, S7.2.2)) (p2 := 141) (L2 := [.ref 29, .int x1, .int ((S.1 42 (x1).toNatClampNeg) + v2), .int ((S2.1 43 (x1).toNatClampNeg) + v3), .int v5]) (s2 := [.int 0, .ref 40]) (h2 := hh (xa_u S7.1 46 ((x1).toNatClampNeg) 0, S7.2.1, S7.2.2)) 5 (fun n => B_151_33 n x1 S v2 S2 v3 v5 S7) c11 ?_
            refine Ev.g (c := (kd 40).1 = 0 ∧ xa_in (0 : Int32) (kd 40).2) (p1 := 147) (L1 := [.ref 29, .int x1, .int ((S.1 42 (x1).toNatClampNeg) + v2), .int ((S2.1 43 (x1).toNatClampNeg) + v3), .int v5]) (s1 := [.int ((xa_u S7.1 46 ((x1).toNatClampNeg) 0) 40 ((0 : Int32)).toNatClampNeg), .int 0, .ref 40]) (h1 := hh (xa_u S7.1 46 ((x1).toNatClampNeg) 0, S7.2.1, S7.2.2)) 4 (fun n => B_151_34 n x1 S v2 S2 v3 v5 S7) (⟨rfl, by decide⟩) ?_
            refine Ev.g (c := (kd 40).1 = 0 ∧ xa_in (0 : Int32) (kd 40).2) (p1 := 148) (L1 := [.ref 29, .int x1, .int ((S.1 42 (x1).toNatClampNeg) + v2), .int ((S2.1 43 (x1).toNatClampNeg) + v3), .int v5]) (s1 := []) (h1 := hh (xa_u (xa_u S7.1 46 ((x1).toNatClampNeg) 0) 40 (((0 : Int32)).toNatClampNeg) ((xa_u S7.1 46 ((x1).toNatClampNeg) 0) 40 ((0 : Int32)).toNatClampNeg), S7.2.1, S7.2.2)) 1 (fun n => B_151_35 n x1 S v2 S2 v3 v5 S7) (⟨rfl, by decide⟩) ?_
            obtain ⟨e1, e2⟩ := Prod.mk.inj (Option.some.inj hG)
            subst e1
            subst e2
            exact Ev.r 1 (fun n => rfl)
    · rw [if_neg c6] at hG
      refine Ev.f (c := v5 = 0) (p1 := 69) (L1 := [.ref 29, .int x1, .int ((S.1 42 (x1).toNatClampNeg) + v2), .int ((S2.1 43 (x1).toNatClampNeg) + v3), .int v5]) (s1 := []) (h1 := hh S5) (p2 := 101) (L2 := [.ref 29, .int x1, .int ((S.1 42 (x1).toNatClampNeg) + v2), .int ((S2.1 43 (x1).toNatClampNeg) + v3), .int v5]) (s2 := []) (h2 := hh S5) 3 (fun n => B_151_36 n x1 S v2 S2 v3 v5 S5) c6 ?_
      refine Ev.g (c := (kd 47).1 = 0 ∧ xa_in x1 (kd 47).2) (p1 := 112) (L1 := [.ref 29, .int x1, .int ((S.1 42 (x1).toNatClampNeg) + v2), .int ((S2.1 43 (x1).toNatClampNeg) + v3), .int v5]) (s1 := [.int (S5.1 47 (x1).toNatClampNeg), .int x1, .ref 46]) (h1 := hh S5) 7 (fun n => B_151_37 n x1 S v2 S2 v3 v5 S5) (⟨rfl, g1⟩) ?_
      by_cases c12 : (S5.1 47 (x1).toNatClampNeg) = 3
      · rw [if_pos c12] at hG
        refine Ev.t (c := (S5.1 47 (x1).toNatClampNeg) = 3) (p1 := 116) (L1 := [.ref 29, .int x1, .int ((S.1 42 (x1).toNatClampNeg) + v2), .int ((S2.1 43 (x1).toNatClampNeg) + v3), .int v5]) (s1 := [.int x1, .ref 46]) (h1 := hh S5) (p2 := 125) (L2 := [.ref 29, .int x1, .int ((S.1 42 (x1).toNatClampNeg) + v2), .int ((S2.1 43 (x1).toNatClampNeg) + v3), .int v5]) (s2 := [.int x1, .ref 46]) (h2 := hh S5) 2 (fun n => B_151_38 n x1 S v2 S2 v3 v5 S5) c12 ?_
        refine Ev.g (c := (kd 46).1 = 0 ∧ xa_in x1 (kd 46).2) (p1 := 122) (L1 := [.ref 29, .int x1, .int ((S.1 42 (x1).toNatClampNeg) + v2), .int ((S2.1 43 (x1).toNatClampNeg) + v3), .int v5]) (s1 := [.int (S5.1 46 (x1).toNatClampNeg), .int x1, .ref 46]) (h1 := hh S5) 4 (fun n => B_151_39 n x1 S v2 S2 v3 v5 S5) (⟨rfl, g1⟩) ?_
        refine Ev.g (c := (kd 46).1 = 0 ∧ xa_in x1 (kd 46).2) (p1 := 127) (L1 := [.ref 29, .int x1, .int ((S.1 42 (x1).toNatClampNeg) + v2), .int ((S2.1 43 (x1).toNatClampNeg) + v3), .int v5]) (s1 := []) (h1 := hh (xa_u S5.1 46 ((x1).toNatClampNeg) (S5.1 46 (x1).toNatClampNeg), S5.2.1, S5.2.2)) 2 (fun n => B_151_40 n x1 S v2 S2 v3 v5 S5) (⟨rfl, g1⟩) ?_
        by_cases c13 : x1 = 0
        · rw [if_pos c13] at hG
          refine Ev.t (c := x1 = 0) (p1 := 136) (L1 := [.ref 29, .int x1, .int ((S.1 42 (x1).toNatClampNeg) + v2), .int ((S2.1 43 (x1).toNatClampNeg) + v3), .int v5]) (s1 := [.int 0, .ref 40]) (h1 := hh (xa_u S5.1 46 ((x1).toNatClampNeg) (S5.1 46 (x1).toNatClampNeg), S5.2.1, S5.2.2)) (p2 := 141) (L2 := [.ref 29, .int x1, .int ((S.1 42 (x1).toNatClampNeg) + v2), .int ((S2.1 43 (x1).toNatClampNeg) + v3), .int v5]) (s2 := [.int 0, .ref 40]) (h2 := hh (xa_u S5.1 46 ((x1).toNatClampNeg) (S5.1 46 (x1).toNatClampNeg), S5.2.1, S5.2.2)) 5 (fun n => B_151_41 n x1 S v2 S2 v3 v5 S5) c13 ?_
          refine Ev.g (c := (kd 40).1 = 0 ∧ xa_in (0 : Int32) (kd 40).2) (p1 := 148) (L1 := [.ref 29, .int x1, .int ((S.1 42 (x1).toNatClampNeg) + v2), .int ((S2.1 43 (x1).toNatClampNeg) + v3), .int v5]) (s1 := []) (h1 := hh (xa_u (xa_u S5.1 46 ((x1).toNatClampNeg) (S5.1 46 (x1).toNatClampNeg)) 40 (((0 : Int32)).toNatClampNeg) v5, S5.2.1, S5.2.2)) 3 (fun n => B_151_42 n x1 S v2 S2 v3 v5 S5) (⟨rfl, by decide⟩) ?_
          obtain ⟨e1, e2⟩ := Prod.mk.inj (Option.some.inj hG)
          subst e1
          subst e2
          exact Ev.r 1 (fun n => rfl)
        · rw [if_neg c13] at hG
          refine Ev.f (c := x1 = 0) (p1 := 136) (L1 := [.ref 29, .int x1, .int ((S.1 42 (x1).toNatClampNeg) + v2), .int ((S2.1 43 (x1).toNatClampNeg) + v3), .int v5]) (s1 := [.int 0, .ref 40]) (h1 := hh (xa_u S5.1 46 ((x1).toNatClampNeg) (S5.1 46 (x1).toNatClampNeg), S5.2.1, S5.2.2)) (p2 := 141) (L2 := [.ref 29, .int x1, .int ((S.1 42 (x1).toNatClampNeg) + v2), .int ((S2.1 43 (x1).toNatClampNeg) + v3), .int v5]) (s2 := [.int 0, .ref 40]) (h2 := hh (xa_u S5.1 46 ((x1).toNatClampNeg) (S5.1 46 (x1).toNatClampNeg), S5.2.1, S5.2.2)) 5 (fun n => B_151_43 n x1 S v2 S2 v3 v5 S5) c13 ?_
          refine Ev.g (c := (kd 40).1 = 0 ∧ xa_in (0 : Int32) (kd 40).2) (p1 := 147) (L1 := [.ref 29, .int x1, .int ((S.1 42 (x1).toNatClampNeg) + v2), .int ((S2.1 43 (x1).toNatClampNeg) + v3), .int v5]) (s1 := [.int ((xa_u S5.1 46 ((x1).toNatClampNeg) (S5.1 46 (x1).toNatClampNeg)) 40 ((0 : Int32)).toNatClampNeg), .int 0, .ref 40]) (h1 := hh (xa_u S5.1 46 ((x1).toNatClampNeg) (S5.1 46 (x1).toNatClampNeg), S5.2.1, S5.2.2)) 4 (fun n => B_151_44 n x1 S v2 S2 v3 v5 S5) (⟨rfl, by decide⟩) ?_
          refine Ev.g (c := (kd 40).1 = 0 ∧ xa_in (0 : Int32) (kd 40).2) (p1 := 148) (L1 := [.ref 29, .int x1, .int ((S.1 42 (x1).toNatClampNeg) + v2), .int ((S2.1 43 (x1).toNatClampNeg) + v3), .int v5]) (s1 := []) (h1 := hh (xa_u (xa_u S5.1 46 ((x1).toNatClampNeg) (S5.1 46 (x1).toNatClampNeg)) 40 (((0 : Int32)).toNatClampNeg) ((xa_u S5.1 46 ((x1).toNatClampNeg) (S5.1 46 (x1).toNatClampNeg)) 40 ((0 : Int32)).toNatClampNeg), S5.2.1, S5.2.2)) 1 (fun n => B_151_45 n x1 S v2 S2 v3 v5 S5) (⟨rfl, by decide⟩) ?_
          obtain ⟨e1, e2⟩ := Prod.mk.inj (Option.some.inj hG)
          subst e1
          subst e2
          exact Ev.r 1 (fun n => rfl)
      · rw [if_neg c12] at hG
        refine Ev.f (c := (S5.1 47 (x1).toNatClampNeg) = 3) (p1 := 116) (L1 := [.ref 29, .int x1, .int ((S.1 42 (x1).toNatClampNeg) + v2), .int ((S2.1 43 (x1).toNatClampNeg) + v3), .int v5]) (s1 := [.int x1, .ref 46]) (h1 := hh S5) (p2 := 125) (L2 := [.ref 29, .int x1, .int ((S.1 42 (x1).toNatClampNeg) + v2), .int ((S2.1 43 (x1).toNatClampNeg) + v3), .int v5]) (s2 := [.int x1, .ref 46]) (h2 := hh S5) 2 (fun n => B_151_46 n x1 S v2 S2 v3 v5 S5) c12 ?_
        refine Ev.g (c := (kd 46).1 = 0 ∧ xa_in x1 (kd 46).2) (p1 := 127) (L1 := [.ref 29, .int x1, .int ((S.1 42 (x1).toNatClampNeg) + v2), .int ((S2.1 43 (x1).toNatClampNeg) + v3), .int v5]) (s1 := []) (h1 := hh (xa_u S5.1 46 ((x1).toNatClampNeg) 0, S5.2.1, S5.2.2)) 2 (fun n => B_151_47 n x1 S v2 S2 v3 v5 S5) (⟨rfl, g1⟩) ?_
        by_cases c14 : x1 = 0
        · rw [if_pos c14] at hG
          refine Ev.t (c := x1 = 0) (p1 := 136) (L1 := [.ref 29, .int x1, .int ((S.1 42 (x1).toNatClampNeg) + v2), .int ((S2.1 43 (x1).toNatClampNeg) + v3), .int v5]) (s1 := [.int 0, .ref 40]) (h1 := hh (xa_u S5.1 46 ((x1).toNatClampNeg) 0, S5.2.1, S5.2.2)) (p2 := 141) (L2 := [.ref 29, .int x1, .int ((S.1 42 (x1).toNatClampNeg) + v2), .int ((S2.1 43 (x1).toNatClampNeg) + v3), .int v5]) (s2 := [.int 0, .ref 40]) (h2 := hh (xa_u S5.1 46 ((x1).toNatClampNeg) 0, S5.2.1, S5.2.2)) 5 (fun n => B_151_48 n x1 S v2 S2 v3 v5 S5) c14 ?_
          refine Ev.g (c := (kd 40).1 = 0 ∧ xa_in (0 : Int32) (kd 40).2) (p1 := 148) (L1 := [.ref 29, .int x1, .int ((S.1 42 (x1).toNatClampNeg) + v2), .int ((S2.1 43 (x1).toNatClampNeg) + v3), .int v5]) (s1 := []) (h1 := hh (xa_u (xa_u S5.1 46 ((x1).toNatClampNeg) 0) 40 (((0 : Int32)).toNatClampNeg) v5, S5.2.1, S5.2.2)) 3 (fun n => B_151_49 n x1 S v2 S2 v3 v5 S5) (⟨rfl, by decide⟩) ?_
          obtain ⟨e1, e2⟩ := Prod.mk.inj (Option.some.inj hG)
          subst e1
          subst e2
          exact Ev.r 1 (fun n => rfl)
        · rw [if_neg c14] at hG
          refine Ev.f (c := x1 = 0) (p1 := 136) (L1 := [.ref 29, .int x1, .int ((S.1 42 (x1).toNatClampNeg) + v2), .int ((S2.1 43 (x1).toNatClampNeg) + v3), .int v5]) (s1 := [.int 0, .ref 40]) (h1 := hh (xa_u S5.1 46 ((x1).toNatClampNeg) 0, S5.2.1, S5.2.2)) (p2 := 141) (L2 := [.ref 29, .int x1, .int ((S.1 42 (x1).toNatClampNeg) + v2), .int ((S2.1 43 (x1).toNatClampNeg) + v3), .int v5]) (s2 := [.int 0, .ref 40]) (h2 := hh (xa_u S5.1 46 ((x1).toNatClampNeg) 0, S5.2.1, S5.2.2)) 5 (fun n => B_151_50 n x1 S v2 S2 v3 v5 S5) c14 ?_
          refine Ev.g (c := (kd 40).1 = 0 ∧ xa_in (0 : Int32) (kd 40).2) (p1 := 147) (L1 := [.ref 29, .int x1, .int ((S.1 42 (x1).toNatClampNeg) + v2), .int ((S2.1 43 (x1).toNatClampNeg) + v3), .int v5]) (s1 := [.int ((xa_u S5.1 46 ((x1).toNatClampNeg) 0) 40 ((0 : Int32)).toNatClampNeg), .int 0, .ref 40]) (h1 := hh (xa_u S5.1 46 ((x1).toNatClampNeg) 0, S5.2.1, S5.2.2)) 4 (fun n => B_151_51 n x1 S v2 S2 v3 v5 S5) (⟨rfl, by decide⟩) ?_
          refine Ev.g (c := (kd 40).1 = 0 ∧ xa_in (0 : Int32) (kd 40).2) (p1 := 148) (L1 := [.ref 29, .int x1, .int ((S.1 42 (x1).toNatClampNeg) + v2), .int ((S2.1 43 (x1).toNatClampNeg) + v3), .int v5]) (s1 := []) (h1 := hh (xa_u (xa_u S5.1 46 ((x1).toNatClampNeg) 0) 40 (((0 : Int32)).toNatClampNeg) ((xa_u S5.1 46 ((x1).toNatClampNeg) 0) 40 ((0 : Int32)).toNatClampNeg), S5.2.1, S5.2.2)) 1 (fun n => B_151_52 n x1 S v2 S2 v3 v5 S5) (⟨rfl, by decide⟩) ?_
          obtain ⟨e1, e2⟩ := Prod.mk.inj (Option.some.inj hG)
          subst e1
          subst e2
          exact Ev.r 1 (fun n => rfl)
/-- 155: SceneCycleModel.ground()V -/
def GL_155_0 : Nat → St → Int32 → Int32 → Int32 → Option (Unit × St)
  | 0, _, _, _, _ => none
  | n + 1, S, y1, y2, y3 =>
    (if ((S.1 42 ((0 : Int32)).toNatClampNeg) + (S.1 44 ((0 : Int32)).toNatClampNeg)) ≤ y3 then
      (if (y1 = 0 ∨ y1 = 1) then
        (if (y2 = 0 ∨ y2 = 1) then
          some ((), (xa_u (xa_u S.1 41 (((0 : Int32)).toNatClampNeg) y1) 41 (((1 : Int32)).toNatClampNeg) y2, S.2.1, S.2.2))
        else none)
      else none)
    else
      (if y1 = 0 then
        (if y2 = 0 then
          (if xa_in ((16 * (S.1 43 ((0 : Int32)).toNatClampNeg)) + y3) 192 then
            (if (S.1 31 (((16 * (S.1 43 ((0 : Int32)).toNatClampNeg)) + y3)).toNatClampNeg) = 2 then
              GL_155_0 n S (0 : Int32) (1 : Int32) (y3 + 1)
            else
              GL_155_0 n S (0 : Int32) (0 : Int32) (y3 + 1)
            )
          else none)
        else
          GL_155_0 n S (0 : Int32) (1 : Int32) (y3 + 1)
        )
      else
        (if xa_in ((16 * (S.1 43 ((0 : Int32)).toNatClampNeg)) + y3) 192 then
          (if (S.1 31 (((16 * (S.1 43 ((0 : Int32)).toNatClampNeg)) + y3)).toNatClampNeg) = 3 then
            (if y2 = 0 then
              (if (S.1 31 (((16 * (S.1 43 ((0 : Int32)).toNatClampNeg)) + y3)).toNatClampNeg) = 2 then
                GL_155_0 n S (1 : Int32) (1 : Int32) (y3 + 1)
              else
                GL_155_0 n S (1 : Int32) (0 : Int32) (y3 + 1)
              )
            else
              GL_155_0 n S (1 : Int32) (1 : Int32) (y3 + 1)
            )
          else
            (if y2 = 0 then
              (if (S.1 31 (((16 * (S.1 43 ((0 : Int32)).toNatClampNeg)) + y3)).toNatClampNeg) = 2 then
                GL_155_0 n S (0 : Int32) (1 : Int32) (y3 + 1)
              else
                GL_155_0 n S (0 : Int32) (0 : Int32) (y3 + 1)
              )
            else
              GL_155_0 n S (0 : Int32) (1 : Int32) (y3 + 1)
            )
          )
        else none)
      )
    )
theorem B_155_1 {X : Nat × (Nat → Int32)} {d : Nat} (n : Nat) (y1 : Int32) (y2 : Int32) (y3 : Int32) (S : St) : ex X d 155 11 [.ref 29, .int y1, .int y2, .int y3] [] (hh S) (n + 5) = if (kd 42).1 = 0 ∧ xa_in (0 : Int32) (kd 42).2 then ex X d 155 18 [.ref 29, .int y1, .int y2, .int y3] [.int (S.1 42 ((0 : Int32)).toNatClampNeg), .int y3] (hh S) n else none := rfl
theorem B_155_2 {X : Nat × (Nat → Int32)} {d : Nat} (n : Nat) (y1 : Int32) (y2 : Int32) (y3 : Int32) (S : St) : ex X d 155 18 [.ref 29, .int y1, .int y2, .int y3] [.int (S.1 42 ((0 : Int32)).toNatClampNeg), .int y3] (hh S) (n + 4) = if (kd 44).1 = 0 ∧ xa_in (0 : Int32) (kd 44).2 then ex X d 155 24 [.ref 29, .int y1, .int y2, .int y3] [.int (S.1 44 ((0 : Int32)).toNatClampNeg), .int (S.1 42 ((0 : Int32)).toNatClampNeg), .int y3] (hh S) n else none := rfl
theorem B_155_3 {X : Nat × (Nat → Int32)} {d : Nat} (n : Nat) (y1 : Int32) (y2 : Int32) (y3 : Int32) (S : St) : ex X d 155 24 [.ref 29, .int y1, .int y2, .int y3] [.int (S.1 44 ((0 : Int32)).toNatClampNeg), .int (S.1 42 ((0 : Int32)).toNatClampNeg), .int y3] (hh S) (n + 2) = if ((S.1 42 ((0 : Int32)).toNatClampNeg) + (S.1 44 ((0 : Int32)).toNatClampNeg)) ≤ y3 then ex X d 155 94 [.ref 29, .int y1, .int y2, .int y3] [] (hh S) n else ex X d 155 28 [.ref 29, .int y1, .int y2, .int y3] [] (hh S) n := rfl
theorem B_155_4 {X : Nat × (Nat → Int32)} {d : Nat} (n : Nat) (y1 : Int32) (y2 : Int32) (y3 : Int32) (S : St) : ex X d 155 94 [.ref 29, .int y1, .int y2, .int y3] [] (hh S) (n + 5) = if (kd 41).1 = 1 ∧ xa_in (0 : Int32) (kd 41).2 ∧ (y1 = 0 ∨ y1 = 1) then ex X d 155 101 [.ref 29, .int y1, .int y2, .int y3] [] (hh (xa_u S.1 41 (((0 : Int32)).toNatClampNeg) y1, S.2.1, S.2.2)) n else none := rfl
theorem B_155_5 {X : Nat × (Nat → Int32)} {d : Nat} (n : Nat) (y1 : Int32) (y2 : Int32) (y3 : Int32) (S : St) : ex X d 155 101 [.ref 29, .int y1, .int y2, .int y3] [] (hh (xa_u S.1 41 (((0 : Int32)).toNatClampNeg) y1, S.2.1, S.2.2)) (n + 5) = if (kd 41).1 = 1 ∧ xa_in (1 : Int32) (kd 41).2 ∧ (y2 = 0 ∨ y2 = 1) then ex X d 155 108 [.ref 29, .int y1, .int y2, .int y3] [] (hh (xa_u (xa_u S.1 41 (((0 : Int32)).toNatClampNeg) y1) 41 (((1 : Int32)).toNatClampNeg) y2, S.2.1, S.2.2)) n else none := rfl
theorem B_155_6 {X : Nat × (Nat → Int32)} {d : Nat} (n : Nat) (y1 : Int32) (y2 : Int32) (y3 : Int32) (S : St) : ex X d 155 24 [.ref 29, .int y1, .int y2, .int y3] [.int (S.1 44 ((0 : Int32)).toNatClampNeg), .int (S.1 42 ((0 : Int32)).toNatClampNeg), .int y3] (hh S) (n + 2) = if ((S.1 42 ((0 : Int32)).toNatClampNeg) + (S.1 44 ((0 : Int32)).toNatClampNeg)) ≤ y3 then ex X d 155 94 [.ref 29, .int y1, .int y2, .int y3] [] (hh S) n else ex X d 155 28 [.ref 29, .int y1, .int y2, .int y3] [] (hh S) n := rfl
theorem B_155_7 {X : Nat × (Nat → Int32)} {d : Nat} (n : Nat) (y1 : Int32) (y2 : Int32) (y3 : Int32) (S : St) : ex X d 155 28 [.ref 29, .int y1, .int y2, .int y3] [] (hh S) (n + 2) = if y1 = 0 then ex X d 155 56 [.ref 29, .int y1, .int y2, .int y3] [] (hh S) n else ex X d 155 32 [.ref 29, .int y1, .int y2, .int y3] [] (hh S) n := rfl
theorem B_155_8 {X : Nat × (Nat → Int32)} {d : Nat} (n : Nat) (y1 : Int32) (y2 : Int32) (y3 : Int32) (S : St) : ex X d 155 56 [.ref 29, .int y1, .int y2, .int y3] [] (hh S) (n + 4) = if y2 = 0 then ex X d 155 62 [.ref 29, .int 0, .int y2, .int y3] [] (hh S) n else ex X d 155 82 [.ref 29, .int 0, .int y2, .int y3] [] (hh S) n := rfl
theorem B_155_9 {X : Nat × (Nat → Int32)} {d : Nat} (n : Nat) (y2 : Int32) (y3 : Int32) (S : St) : ex X d 155 62 [.ref 29, .int 0, .int y2, .int y3] [] (hh S) (n + 7) = if (kd 43).1 = 0 ∧ xa_in (0 : Int32) (kd 43).2 then ex X d 155 74 [.ref 29, .int 0, .int y2, .int y3] [.int (S.1 43 ((0 : Int32)).toNatClampNeg), .int 16, .ref 31] (hh S) n else none := rfl
theorem B_155_10 {X : Nat × (Nat → Int32)} {d : Nat} (n : Nat) (y2 : Int32) (y3 : Int32) (S : St) : ex X d 155 74 [.ref 29, .int 0, .int y2, .int y3] [.int (S.1 43 ((0 : Int32)).toNatClampNeg), .int 16, .ref 31] (hh S) (n + 4) = if (kd 31).1 = 0 ∧ xa_in ((16 * (S.1 43 ((0 : Int32)).toNatClampNeg)) + y3) (kd 31).2 then ex X d 155 78 [.ref 29, .int 0, .int y2, .int y3] [.int (S.1 31 (((16 * (S.1 43 ((0 : Int32)).toNatClampNeg)) + y3)).toNatClampNeg)] (hh S) n else none := rfl
theorem B_155_11 {X : Nat × (Nat → Int32)} {d : Nat} (n : Nat) (y2 : Int32) (y3 : Int32) (S : St) : ex X d 155 78 [.ref 29, .int 0, .int y2, .int y3] [.int (S.1 31 (((16 * (S.1 43 ((0 : Int32)).toNatClampNeg)) + y3)).toNatClampNeg)] (hh S) (n + 2) = if (S.1 31 (((16 * (S.1 43 ((0 : Int32)).toNatClampNeg)) + y3)).toNatClampNeg) = 2 then ex X d 155 82 [.ref 29, .int 0, .int y2, .int y3] [] (hh S) n else ex X d 155 86 [.ref 29, .int 0, .int y2, .int y3] [] (hh S) n := rfl
theorem B_155_12 {X : Nat × (Nat → Int32)} {d : Nat} (n : Nat) (y2 : Int32) (y3 : Int32) (S : St) : ex X d 155 82 [.ref 29, .int 0, .int y2, .int y3] [] (hh S) (n + 5) = ex X d 155 11 [.ref 29, .int 0, .int 1, .int (y3 + 1)] [] (hh S) n := rfl
theorem B_155_13 {X : Nat × (Nat → Int32)} {d : Nat} (n : Nat) (y2 : Int32) (y3 : Int32) (S : St) : ex X d 155 78 [.ref 29, .int 0, .int y2, .int y3] [.int (S.1 31 (((16 * (S.1 43 ((0 : Int32)).toNatClampNeg)) + y3)).toNatClampNeg)] (hh S) (n + 2) = if (S.1 31 (((16 * (S.1 43 ((0 : Int32)).toNatClampNeg)) + y3)).toNatClampNeg) = 2 then ex X d 155 82 [.ref 29, .int 0, .int y2, .int y3] [] (hh S) n else ex X d 155 86 [.ref 29, .int 0, .int y2, .int y3] [] (hh S) n := rfl
theorem B_155_14 {X : Nat × (Nat → Int32)} {d : Nat} (n : Nat) (y2 : Int32) (y3 : Int32) (S : St) : ex X d 155 86 [.ref 29, .int 0, .int y2, .int y3] [] (hh S) (n + 4) = ex X d 155 11 [.ref 29, .int 0, .int 0, .int (y3 + 1)] [] (hh S) n := rfl
theorem B_155_15 {X : Nat × (Nat → Int32)} {d : Nat} (n : Nat) (y1 : Int32) (y2 : Int32) (y3 : Int32) (S : St) : ex X d 155 56 [.ref 29, .int y1, .int y2, .int y3] [] (hh S) (n + 4) = if y2 = 0 then ex X d 155 62 [.ref 29, .int 0, .int y2, .int y3] [] (hh S) n else ex X d 155 82 [.ref 29, .int 0, .int y2, .int y3] [] (hh S) n := rfl
theorem B_155_16 {X : Nat × (Nat → Int32)} {d : Nat} (n : Nat) (y2 : Int32) (y3 : Int32) (S : St) : ex X d 155 82 [.ref 29, .int 0, .int y2, .int y3] [] (hh S) (n + 5) = ex X d 155 11 [.ref 29, .int 0, .int 1, .int (y3 + 1)] [] (hh S) n := rfl
theorem B_155_17 {X : Nat × (Nat → Int32)} {d : Nat} (n : Nat) (y1 : Int32) (y2 : Int32) (y3 : Int32) (S : St) : ex X d 155 28 [.ref 29, .int y1, .int y2, .int y3] [] (hh S) (n + 2) = if y1 = 0 then ex X d 155 56 [.ref 29, .int y1, .int y2, .int y3] [] (hh S) n else ex X d 155 32 [.ref 29, .int y1, .int y2, .int y3] [] (hh S) n := rfl
theorem B_155_18 {X : Nat × (Nat → Int32)} {d : Nat} (n : Nat) (y1 : Int32) (y2 : Int32) (y3 : Int32) (S : St) : ex X d 155 32 [.ref 29, .int y1, .int y2, .int y3] [] (hh S) (n + 7) = if (kd 43).1 = 0 ∧ xa_in (0 : Int32) (kd 43).2 then ex X d 155 44 [.ref 29, .int y1, .int y2, .int y3] [.int (S.1 43 ((0 : Int32)).toNatClampNeg), .int 16, .ref 31] (hh S) n else none := rfl
theorem B_155_19 {X : Nat × (Nat → Int32)} {d : Nat} (n : Nat) (y1 : Int32) (y2 : Int32) (y3 : Int32) (S : St) : ex X d 155 44 [.ref 29, .int y1, .int y2, .int y3] [.int (S.1 43 ((0 : Int32)).toNatClampNeg), .int 16, .ref 31] (hh S) (n + 4) = if (kd 31).1 = 0 ∧ xa_in ((16 * (S.1 43 ((0 : Int32)).toNatClampNeg)) + y3) (kd 31).2 then ex X d 155 48 [.ref 29, .int y1, .int y2, .int y3] [.int (S.1 31 (((16 * (S.1 43 ((0 : Int32)).toNatClampNeg)) + y3)).toNatClampNeg)] (hh S) n else none := rfl
theorem B_155_20 {X : Nat × (Nat → Int32)} {d : Nat} (n : Nat) (y1 : Int32) (y2 : Int32) (y3 : Int32) (S : St) : ex X d 155 48 [.ref 29, .int y1, .int y2, .int y3] [.int (S.1 31 (((16 * (S.1 43 ((0 : Int32)).toNatClampNeg)) + y3)).toNatClampNeg)] (hh S) (n + 2) = if (S.1 31 (((16 * (S.1 43 ((0 : Int32)).toNatClampNeg)) + y3)).toNatClampNeg) = 3 then ex X d 155 52 [.ref 29, .int y1, .int y2, .int y3] [] (hh S) n else ex X d 155 56 [.ref 29, .int y1, .int y2, .int y3] [] (hh S) n := rfl
theorem B_155_21 {X : Nat × (Nat → Int32)} {d : Nat} (n : Nat) (y1 : Int32) (y2 : Int32) (y3 : Int32) (S : St) : ex X d 155 52 [.ref 29, .int y1, .int y2, .int y3] [] (hh S) (n + 5) = if y2 = 0 then ex X d 155 62 [.ref 29, .int 1, .int y2, .int y3] [] (hh S) n else ex X d 155 82 [.ref 29, .int 1, .int y2, .int y3] [] (hh S) n := rfl
theorem B_155_22 {X : Nat × (Nat → Int32)} {d : Nat} (n : Nat) (y2 : Int32) (y3 : Int32) (S : St) : ex X d 155 62 [.ref 29, .int 1, .int y2, .int y3] [] (hh S) (n + 7) = if (kd 43).1 = 0 ∧ xa_in (0 : Int32) (kd 43).2 then ex X d 155 74 [.ref 29, .int 1, .int y2, .int y3] [.int (S.1 43 ((0 : Int32)).toNatClampNeg), .int 16, .ref 31] (hh S) n else none := rfl
theorem B_155_23 {X : Nat × (Nat → Int32)} {d : Nat} (n : Nat) (y2 : Int32) (y3 : Int32) (S : St) : ex X d 155 74 [.ref 29, .int 1, .int y2, .int y3] [.int (S.1 43 ((0 : Int32)).toNatClampNeg), .int 16, .ref 31] (hh S) (n + 4) = if (kd 31).1 = 0 ∧ xa_in ((16 * (S.1 43 ((0 : Int32)).toNatClampNeg)) + y3) (kd 31).2 then ex X d 155 78 [.ref 29, .int 1, .int y2, .int y3] [.int (S.1 31 (((16 * (S.1 43 ((0 : Int32)).toNatClampNeg)) + y3)).toNatClampNeg)] (hh S) n else none := rfl
theorem B_155_24 {X : Nat × (Nat → Int32)} {d : Nat} (n : Nat) (y2 : Int32) (y3 : Int32) (S : St) : ex X d 155 78 [.ref 29, .int 1, .int y2, .int y3] [.int (S.1 31 (((16 * (S.1 43 ((0 : Int32)).toNatClampNeg)) + y3)).toNatClampNeg)] (hh S) (n + 2) = if (S.1 31 (((16 * (S.1 43 ((0 : Int32)).toNatClampNeg)) + y3)).toNatClampNeg) = 2 then ex X d 155 82 [.ref 29, .int 1, .int y2, .int y3] [] (hh S) n else ex X d 155 86 [.ref 29, .int 1, .int y2, .int y3] [] (hh S) n := rfl
theorem B_155_25 {X : Nat × (Nat → Int32)} {d : Nat} (n : Nat) (y2 : Int32) (y3 : Int32) (S : St) : ex X d 155 82 [.ref 29, .int 1, .int y2, .int y3] [] (hh S) (n + 5) = ex X d 155 11 [.ref 29, .int 1, .int 1, .int (y3 + 1)] [] (hh S) n := rfl
theorem B_155_26 {X : Nat × (Nat → Int32)} {d : Nat} (n : Nat) (y2 : Int32) (y3 : Int32) (S : St) : ex X d 155 78 [.ref 29, .int 1, .int y2, .int y3] [.int (S.1 31 (((16 * (S.1 43 ((0 : Int32)).toNatClampNeg)) + y3)).toNatClampNeg)] (hh S) (n + 2) = if (S.1 31 (((16 * (S.1 43 ((0 : Int32)).toNatClampNeg)) + y3)).toNatClampNeg) = 2 then ex X d 155 82 [.ref 29, .int 1, .int y2, .int y3] [] (hh S) n else ex X d 155 86 [.ref 29, .int 1, .int y2, .int y3] [] (hh S) n := rfl
theorem B_155_27 {X : Nat × (Nat → Int32)} {d : Nat} (n : Nat) (y2 : Int32) (y3 : Int32) (S : St) : ex X d 155 86 [.ref 29, .int 1, .int y2, .int y3] [] (hh S) (n + 4) = ex X d 155 11 [.ref 29, .int 1, .int 0, .int (y3 + 1)] [] (hh S) n := rfl
theorem B_155_28 {X : Nat × (Nat → Int32)} {d : Nat} (n : Nat) (y1 : Int32) (y2 : Int32) (y3 : Int32) (S : St) : ex X d 155 52 [.ref 29, .int y1, .int y2, .int y3] [] (hh S) (n + 5) = if y2 = 0 then ex X d 155 62 [.ref 29, .int 1, .int y2, .int y3] [] (hh S) n else ex X d 155 82 [.ref 29, .int 1, .int y2, .int y3] [] (hh S) n := rfl
theorem B_155_29 {X : Nat × (Nat → Int32)} {d : Nat} (n : Nat) (y2 : Int32) (y3 : Int32) (S : St) : ex X d 155 82 [.ref 29, .int 1, .int y2, .int y3] [] (hh S) (n + 5) = ex X d 155 11 [.ref 29, .int 1, .int 1, .int (y3 + 1)] [] (hh S) n := rfl
theorem B_155_30 {X : Nat × (Nat → Int32)} {d : Nat} (n : Nat) (y1 : Int32) (y2 : Int32) (y3 : Int32) (S : St) : ex X d 155 48 [.ref 29, .int y1, .int y2, .int y3] [.int (S.1 31 (((16 * (S.1 43 ((0 : Int32)).toNatClampNeg)) + y3)).toNatClampNeg)] (hh S) (n + 2) = if (S.1 31 (((16 * (S.1 43 ((0 : Int32)).toNatClampNeg)) + y3)).toNatClampNeg) = 3 then ex X d 155 52 [.ref 29, .int y1, .int y2, .int y3] [] (hh S) n else ex X d 155 56 [.ref 29, .int y1, .int y2, .int y3] [] (hh S) n := rfl
theorem B_155_31 {X : Nat × (Nat → Int32)} {d : Nat} (n : Nat) (y1 : Int32) (y2 : Int32) (y3 : Int32) (S : St) : ex X d 155 56 [.ref 29, .int y1, .int y2, .int y3] [] (hh S) (n + 4) = if y2 = 0 then ex X d 155 62 [.ref 29, .int 0, .int y2, .int y3] [] (hh S) n else ex X d 155 82 [.ref 29, .int 0, .int y2, .int y3] [] (hh S) n := rfl
theorem B_155_32 {X : Nat × (Nat → Int32)} {d : Nat} (n : Nat) (y2 : Int32) (y3 : Int32) (S : St) : ex X d 155 62 [.ref 29, .int 0, .int y2, .int y3] [] (hh S) (n + 7) = if (kd 43).1 = 0 ∧ xa_in (0 : Int32) (kd 43).2 then ex X d 155 74 [.ref 29, .int 0, .int y2, .int y3] [.int (S.1 43 ((0 : Int32)).toNatClampNeg), .int 16, .ref 31] (hh S) n else none := rfl
theorem B_155_33 {X : Nat × (Nat → Int32)} {d : Nat} (n : Nat) (y2 : Int32) (y3 : Int32) (S : St) : ex X d 155 74 [.ref 29, .int 0, .int y2, .int y3] [.int (S.1 43 ((0 : Int32)).toNatClampNeg), .int 16, .ref 31] (hh S) (n + 4) = if (kd 31).1 = 0 ∧ xa_in ((16 * (S.1 43 ((0 : Int32)).toNatClampNeg)) + y3) (kd 31).2 then ex X d 155 78 [.ref 29, .int 0, .int y2, .int y3] [.int (S.1 31 (((16 * (S.1 43 ((0 : Int32)).toNatClampNeg)) + y3)).toNatClampNeg)] (hh S) n else none := rfl
theorem B_155_34 {X : Nat × (Nat → Int32)} {d : Nat} (n : Nat) (y2 : Int32) (y3 : Int32) (S : St) : ex X d 155 78 [.ref 29, .int 0, .int y2, .int y3] [.int (S.1 31 (((16 * (S.1 43 ((0 : Int32)).toNatClampNeg)) + y3)).toNatClampNeg)] (hh S) (n + 2) = if (S.1 31 (((16 * (S.1 43 ((0 : Int32)).toNatClampNeg)) + y3)).toNatClampNeg) = 2 then ex X d 155 82 [.ref 29, .int 0, .int y2, .int y3] [] (hh S) n else ex X d 155 86 [.ref 29, .int 0, .int y2, .int y3] [] (hh S) n := rfl
theorem B_155_35 {X : Nat × (Nat → Int32)} {d : Nat} (n : Nat) (y2 : Int32) (y3 : Int32) (S : St) : ex X d 155 82 [.ref 29, .int 0, .int y2, .int y3] [] (hh S) (n + 5) = ex X d 155 11 [.ref 29, .int 0, .int 1, .int (y3 + 1)] [] (hh S) n := rfl
theorem B_155_36 {X : Nat × (Nat → Int32)} {d : Nat} (n : Nat) (y2 : Int32) (y3 : Int32) (S : St) : ex X d 155 78 [.ref 29, .int 0, .int y2, .int y3] [.int (S.1 31 (((16 * (S.1 43 ((0 : Int32)).toNatClampNeg)) + y3)).toNatClampNeg)] (hh S) (n + 2) = if (S.1 31 (((16 * (S.1 43 ((0 : Int32)).toNatClampNeg)) + y3)).toNatClampNeg) = 2 then ex X d 155 82 [.ref 29, .int 0, .int y2, .int y3] [] (hh S) n else ex X d 155 86 [.ref 29, .int 0, .int y2, .int y3] [] (hh S) n := rfl
theorem B_155_37 {X : Nat × (Nat → Int32)} {d : Nat} (n : Nat) (y2 : Int32) (y3 : Int32) (S : St) : ex X d 155 86 [.ref 29, .int 0, .int y2, .int y3] [] (hh S) (n + 4) = ex X d 155 11 [.ref 29, .int 0, .int 0, .int (y3 + 1)] [] (hh S) n := rfl
theorem B_155_38 {X : Nat × (Nat → Int32)} {d : Nat} (n : Nat) (y1 : Int32) (y2 : Int32) (y3 : Int32) (S : St) : ex X d 155 56 [.ref 29, .int y1, .int y2, .int y3] [] (hh S) (n + 4) = if y2 = 0 then ex X d 155 62 [.ref 29, .int 0, .int y2, .int y3] [] (hh S) n else ex X d 155 82 [.ref 29, .int 0, .int y2, .int y3] [] (hh S) n := rfl
theorem B_155_39 {X : Nat × (Nat → Int32)} {d : Nat} (n : Nat) (y2 : Int32) (y3 : Int32) (S : St) : ex X d 155 82 [.ref 29, .int 0, .int y2, .int y3] [] (hh S) (n + 5) = ex X d 155 11 [.ref 29, .int 0, .int 1, .int (y3 + 1)] [] (hh S) n := rfl
set_option maxRecDepth 200000 in
theorem TL_155_0 {X : Nat × (Nat → Int32)} : ∀ (n : Nat) (S : St) (y1 : Int32) (y2 : Int32) (y3 : Int32) (r : Unit) (S' : St), GL_155_0 n S y1 y2 y3 = some (r, S') → Ev X 0 155 11 [.ref 29, .int y1, .int y2, .int y3] [] (hh S) (xV r, hh S') := by
  intro n
  induction n with
  | zero => intro S y1 y2 y3 r S' hG; simp [GL_155_0] at hG
  | succ n ih =>
    intro S y1 y2 y3 r S' hG
    rw [GL_155_0] at hG
    refine Ev.g (c := (kd 42).1 = 0 ∧ xa_in (0 : Int32) (kd 42).2) (p1 := 18) (L1 := [.ref 29, .int y1, .int y2, .int y3]) (s1 := [.int (S.1 42 ((0 : Int32)).toNatClampNeg), .int y3]) (h1 := hh S) 5 (fun n => B_155_1 n y1 y2 y3 S) (⟨rfl, by decide⟩) ?_
    refine Ev.g (c := (kd 44).1 = 0 ∧ xa_in (0 : Int32) (kd 44).2) (p1 := 24) (L1 := [.ref 29, .int y1, .int y2, .int y3]) (s1 := [.int (S.1 44 ((0 : Int32)).toNatClampNeg), .int (S.1 42 ((0 : Int32)).toNatClampNeg), .int y3]) (h1 := hh S) 4 (fun n => B_155_2 n y1 y2 y3 S) (⟨rfl, by decide⟩) ?_
    by_cases c1 : ((S.1 42 ((0 : Int32)).toNatClampNeg) + (S.1 44 ((0 : Int32)).toNatClampNeg)) ≤ y3
    · rw [if_pos c1] at hG
      refine Ev.t (c := ((S.1 42 ((0 : Int32)).toNatClampNeg) + (S.1 44 ((0 : Int32)).toNatClampNeg)) ≤ y3) (p1 := 94) (L1 := [.ref 29, .int y1, .int y2, .int y3]) (s1 := []) (h1 := hh S) (p2 := 28) (L2 := [.ref 29, .int y1, .int y2, .int y3]) (s2 := []) (h2 := hh S) 2 (fun n => B_155_3 n y1 y2 y3 S) c1 ?_
      by_cases g2 : (y1 = 0 ∨ y1 = 1)
      rotate_left
      · rw [if_neg g2] at hG; cases hG
      rw [if_pos g2] at hG
      refine Ev.g (c := (kd 41).1 = 1 ∧ xa_in (0 : Int32) (kd 41).2 ∧ (y1 = 0 ∨ y1 = 1)) (p1 := 101) (L1 := [.ref 29, .int y1, .int y2, .int y3]) (s1 := []) (h1 := hh (xa_u S.1 41 (((0 : Int32)).toNatClampNeg) y1, S.2.1, S.2.2)) 5 (fun n => B_155_4 n y1 y2 y3 S) (⟨rfl, by decide, g2⟩) ?_
      by_cases g3 : (y2 = 0 ∨ y2 = 1)
      rotate_left
      · rw [if_neg g3] at hG; cases hG
      rw [if_pos g3] at hG
      refine Ev.g (c := (kd 41).1 = 1 ∧ xa_in (1 : Int32) (kd 41).2 ∧ (y2 = 0 ∨ y2 = 1)) (p1 := 108) (L1 := [.ref 29, .int y1, .int y2, .int y3]) (s1 := []) (h1 := hh (xa_u (xa_u S.1 41 (((0 : Int32)).toNatClampNeg) y1) 41 (((1 : Int32)).toNatClampNeg) y2, S.2.1, S.2.2)) 5 (fun n => B_155_5 n y1 y2 y3 S) (⟨rfl, by decide, g3⟩) ?_
      obtain ⟨e1, e2⟩ := Prod.mk.inj (Option.some.inj hG)
      subst e1
      subst e2
      exact Ev.r 1 (fun n => rfl)
    · rw [if_neg c1] at hG
      refine Ev.f (c := ((S.1 42 ((0 : Int32)).toNatClampNeg) + (S.1 44 ((0 : Int32)).toNatClampNeg)) ≤ y3) (p1 := 94) (L1 := [.ref 29, .int y1, .int y2, .int y3]) (s1 := []) (h1 := hh S) (p2 := 28) (L2 := [.ref 29, .int y1, .int y2, .int y3]) (s2 := []) (h2 := hh S) 2 (fun n => B_155_6 n y1 y2 y3 S) c1 ?_
      by_cases c4 : y1 = 0
      · rw [if_pos c4] at hG
        refine Ev.t (c := y1 = 0) (p1 := 56) (L1 := [.ref 29, .int y1, .int y2, .int y3]) (s1 := []) (h1 := hh S) (p2 := 32) (L2 := [.ref 29, .int y1, .int y2, .int y3]) (s2 := []) (h2 := hh S) 2 (fun n => B_155_7 n y1 y2 y3 S) c4 ?_
        by_cases c5 : y2 = 0
        · rw [if_pos c5] at hG
          refine Ev.t (c := y2 = 0) (p1 := 62) (L1 := [.ref 29, .int 0, .int y2, .int y3]) (s1 := []) (h1 := hh S) (p2 := 82) (L2 := [.ref 29, .int 0, .int y2, .int y3]) (s2 := []) (h2 := hh S) 4 (fun n => B_155_8 n y1 y2 y3 S) c5 ?_
          refine Ev.g (c := (kd 43).1 = 0 ∧ xa_in (0 : Int32) (kd 43).2) (p1 := 74) (L1 := [.ref 29, .int 0, .int y2, .int y3]) (s1 := [.int (S.1 43 ((0 : Int32)).toNatClampNeg), .int 16, .ref 31]) (h1 := hh S) 7 (fun n => B_155_9 n y2 y3 S) (⟨rfl, by decide⟩) ?_
          by_cases g6 : xa_in ((16 * (S.1 43 ((0 : Int32)).toNatClampNeg)) + y3) 192
          rotate_left
          · rw [if_neg g6] at hG; cases hG
          rw [if_pos g6] at hG
          refine Ev.g (c := (kd 31).1 = 0 ∧ xa_in ((16 * (S.1 43 ((0 : Int32)).toNatClampNeg)) + y3) (kd 31).2) (p1 := 78) (L1 := [.ref 29, .int 0, .int y2, .int y3]) (s1 := [.int (S.1 31 (((16 * (S.1 43 ((0 : Int32)).toNatClampNeg)) + y3)).toNatClampNeg)]) (h1 := hh S) 4 (fun n => B_155_10 n y2 y3 S) (⟨rfl, g6⟩) ?_
          by_cases c7 : (S.1 31 (((16 * (S.1 43 ((0 : Int32)).toNatClampNeg)) + y3)).toNatClampNeg) = 2
          · rw [if_pos c7] at hG
            refine Ev.t (c := (S.1 31 (((16 * (S.1 43 ((0 : Int32)).toNatClampNeg)) + y3)).toNatClampNeg) = 2) (p1 := 82) (L1 := [.ref 29, .int 0, .int y2, .int y3]) (s1 := []) (h1 := hh S) (p2 := 86) (L2 := [.ref 29, .int 0, .int y2, .int y3]) (s2 := []) (h2 := hh S) 2 (fun n => B_155_11 n y2 y3 S) c7 ?_
            exact Ev.b (pc' := 11) (L' := [.ref 29, .int 0, .int 1, .int (y3 + 1)]) (st' := []) (h' := hh S) 5 (fun n => B_155_12 n y2 y3 S) (ih S (0 : Int32) (1 : Int32) (y3 + 1) _ _ hG )
          · rw [if_neg c7] at hG
            refine Ev.f (c := (S.1 31 (((16 * (S.1 43 ((0 : Int32)).toNatClampNeg)) + y3)).toNatClampNeg) = 2) (p1 := 82) (L1 := [.ref 29, .int 0, .int y2, .int y3]) (s1 := []) (h1 := hh S) (p2 := 86) (L2 := [.ref 29, .int 0, .int y2, .int y3]) (s2 := []) (h2 := hh S) 2 (fun n => B_155_13 n y2 y3 S) c7 ?_
            exact Ev.b (pc' := 11) (L' := [.ref 29, .int 0, .int 0, .int (y3 + 1)]) (st' := []) (h' := hh S) 4 (fun n => B_155_14 n y2 y3 S) (ih S (0 : Int32) (0 : Int32) (y3 + 1) _ _ hG )
        · rw [if_neg c5] at hG
          refine Ev.f (c := y2 = 0) (p1 := 62) (L1 := [.ref 29, .int 0, .int y2, .int y3]) (s1 := []) (h1 := hh S) (p2 := 82) (L2 := [.ref 29, .int 0, .int y2, .int y3]) (s2 := []) (h2 := hh S) 4 (fun n => B_155_15 n y1 y2 y3 S) c5 ?_
          exact Ev.b (pc' := 11) (L' := [.ref 29, .int 0, .int 1, .int (y3 + 1)]) (st' := []) (h' := hh S) 5 (fun n => B_155_16 n y2 y3 S) (ih S (0 : Int32) (1 : Int32) (y3 + 1) _ _ hG )
      · rw [if_neg c4] at hG
        refine Ev.f (c := y1 = 0) (p1 := 56) (L1 := [.ref 29, .int y1, .int y2, .int y3]) (s1 := []) (h1 := hh S) (p2 := 32) (L2 := [.ref 29, .int y1, .int y2, .int y3]) (s2 := []) (h2 := hh S) 2 (fun n => B_155_17 n y1 y2 y3 S) c4 ?_
        refine Ev.g (c := (kd 43).1 = 0 ∧ xa_in (0 : Int32) (kd 43).2) (p1 := 44) (L1 := [.ref 29, .int y1, .int y2, .int y3]) (s1 := [.int (S.1 43 ((0 : Int32)).toNatClampNeg), .int 16, .ref 31]) (h1 := hh S) 7 (fun n => B_155_18 n y1 y2 y3 S) (⟨rfl, by decide⟩) ?_
        by_cases g8 : xa_in ((16 * (S.1 43 ((0 : Int32)).toNatClampNeg)) + y3) 192
        rotate_left
        · rw [if_neg g8] at hG; cases hG
        rw [if_pos g8] at hG
        refine Ev.g (c := (kd 31).1 = 0 ∧ xa_in ((16 * (S.1 43 ((0 : Int32)).toNatClampNeg)) + y3) (kd 31).2) (p1 := 48) (L1 := [.ref 29, .int y1, .int y2, .int y3]) (s1 := [.int (S.1 31 (((16 * (S.1 43 ((0 : Int32)).toNatClampNeg)) + y3)).toNatClampNeg)]) (h1 := hh S) 4 (fun n => B_155_19 n y1 y2 y3 S) (⟨rfl, g8⟩) ?_
        by_cases c9 : (S.1 31 (((16 * (S.1 43 ((0 : Int32)).toNatClampNeg)) + y3)).toNatClampNeg) = 3
        · rw [if_pos c9] at hG
          refine Ev.t (c := (S.1 31 (((16 * (S.1 43 ((0 : Int32)).toNatClampNeg)) + y3)).toNatClampNeg) = 3) (p1 := 52) (L1 := [.ref 29, .int y1, .int y2, .int y3]) (s1 := []) (h1 := hh S) (p2 := 56) (L2 := [.ref 29, .int y1, .int y2, .int y3]) (s2 := []) (h2 := hh S) 2 (fun n => B_155_20 n y1 y2 y3 S) c9 ?_
          by_cases c10 : y2 = 0
          · rw [if_pos c10] at hG
            refine Ev.t (c := y2 = 0) (p1 := 62) (L1 := [.ref 29, .int 1, .int y2, .int y3]) (s1 := []) (h1 := hh S) (p2 := 82) (L2 := [.ref 29, .int 1, .int y2, .int y3]) (s2 := []) (h2 := hh S) 5 (fun n => B_155_21 n y1 y2 y3 S) c10 ?_
            refine Ev.g (c := (kd 43).1 = 0 ∧ xa_in (0 : Int32) (kd 43).2) (p1 := 74) (L1 := [.ref 29, .int 1, .int y2, .int y3]) (s1 := [.int (S.1 43 ((0 : Int32)).toNatClampNeg), .int 16, .ref 31]) (h1 := hh S) 7 (fun n => B_155_22 n y2 y3 S) (⟨rfl, by decide⟩) ?_
            refine Ev.g (c := (kd 31).1 = 0 ∧ xa_in ((16 * (S.1 43 ((0 : Int32)).toNatClampNeg)) + y3) (kd 31).2) (p1 := 78) (L1 := [.ref 29, .int 1, .int y2, .int y3]) (s1 := [.int (S.1 31 (((16 * (S.1 43 ((0 : Int32)).toNatClampNeg)) + y3)).toNatClampNeg)]) (h1 := hh S) 4 (fun n => B_155_23 n y2 y3 S) (⟨rfl, g8⟩) ?_
            by_cases c11 : (S.1 31 (((16 * (S.1 43 ((0 : Int32)).toNatClampNeg)) + y3)).toNatClampNeg) = 2
            · rw [if_pos c11] at hG
              refine Ev.t (c := (S.1 31 (((16 * (S.1 43 ((0 : Int32)).toNatClampNeg)) + y3)).toNatClampNeg) = 2) (p1 := 82) (L1 := [.ref 29, .int 1, .int y2, .int y3]) (s1 := []) (h1 := hh S) (p2 := 86) (L2 := [.ref 29, .int 1, .int y2, .int y3]) (s2 := []) (h2 := hh S) 2 (fun n => B_155_24 n y2 y3 S) c11 ?_
              exact Ev.b (pc' := 11) (L' := [.ref 29, .int 1, .int 1, .int (y3 + 1)]) (st' := []) (h' := hh S) 5 (fun n => B_155_25 n y2 y3 S) (ih S (1 : Int32) (1 : Int32) (y3 + 1) _ _ hG )
            · rw [if_neg c11] at hG
              refine Ev.f (c := (S.1 31 (((16 * (S.1 43 ((0 : Int32)).toNatClampNeg)) + y3)).toNatClampNeg) = 2) (p1 := 82) (L1 := [.ref 29, .int 1, .int y2, .int y3]) (s1 := []) (h1 := hh S) (p2 := 86) (L2 := [.ref 29, .int 1, .int y2, .int y3]) (s2 := []) (h2 := hh S) 2 (fun n => B_155_26 n y2 y3 S) c11 ?_
              exact Ev.b (pc' := 11) (L' := [.ref 29, .int 1, .int 0, .int (y3 + 1)]) (st' := []) (h' := hh S) 4 (fun n => B_155_27 n y2 y3 S) (ih S (1 : Int32) (0 : Int32) (y3 + 1) _ _ hG )
          · rw [if_neg c10] at hG
            refine Ev.f (c := y2 = 0) (p1 := 62) (L1 := [.ref 29, .int 1, .int y2, .int y3]) (s1 := []) (h1 := hh S) (p2 := 82) (L2 := [.ref 29, .int 1, .int y2, .int y3]) (s2 := []) (h2 := hh S) 5 (fun n => B_155_28 n y1 y2 y3 S) c10 ?_
            exact Ev.b (pc' := 11) (L' := [.ref 29, .int 1, .int 1, .int (y3 + 1)]) (st' := []) (h' := hh S) 5 (fun n => B_155_29 n y2 y3 S) (ih S (1 : Int32) (1 : Int32) (y3 + 1) _ _ hG )
        · rw [if_neg c9] at hG
          refine Ev.f (c := (S.1 31 (((16 * (S.1 43 ((0 : Int32)).toNatClampNeg)) + y3)).toNatClampNeg) = 3) (p1 := 52) (L1 := [.ref 29, .int y1, .int y2, .int y3]) (s1 := []) (h1 := hh S) (p2 := 56) (L2 := [.ref 29, .int y1, .int y2, .int y3]) (s2 := []) (h2 := hh S) 2 (fun n => B_155_30 n y1 y2 y3 S) c9 ?_
          by_cases c12 : y2 = 0
          · rw [if_pos c12] at hG
            refine Ev.t (c := y2 = 0) (p1 := 62) (L1 := [.ref 29, .int 0, .int y2, .int y3]) (s1 := []) (h1 := hh S) (p2 := 82) (L2 := [.ref 29, .int 0, .int y2, .int y3]) (s2 := []) (h2 := hh S) 4 (fun n => B_155_31 n y1 y2 y3 S) c12 ?_
            refine Ev.g (c := (kd 43).1 = 0 ∧ xa_in (0 : Int32) (kd 43).2) (p1 := 74) (L1 := [.ref 29, .int 0, .int y2, .int y3]) (s1 := [.int (S.1 43 ((0 : Int32)).toNatClampNeg), .int 16, .ref 31]) (h1 := hh S) 7 (fun n => B_155_32 n y2 y3 S) (⟨rfl, by decide⟩) ?_
            refine Ev.g (c := (kd 31).1 = 0 ∧ xa_in ((16 * (S.1 43 ((0 : Int32)).toNatClampNeg)) + y3) (kd 31).2) (p1 := 78) (L1 := [.ref 29, .int 0, .int y2, .int y3]) (s1 := [.int (S.1 31 (((16 * (S.1 43 ((0 : Int32)).toNatClampNeg)) + y3)).toNatClampNeg)]) (h1 := hh S) 4 (fun n => B_155_33 n y2 y3 S) (⟨rfl, g8⟩) ?_
            by_cases c13 : (S.1 31 (((16 * (S.1 43 ((0 : Int32)).toNatClampNeg)) + y3)).toNatClampNeg) = 2
            · rw [if_pos c13] at hG
              refine Ev.t (c := (S.1 31 (((16 * (S.1 43 ((0 : Int32)).toNatClampNeg)) + y3)).toNatClampNeg) = 2) (p1 := 82) (L1 := [.ref 29, .int 0, .int y2, .int y3]) (s1 := []) (h1 := hh S) (p2 := 86) (L2 := [.ref 29, .int 0, .int y2, .int y3]) (s2 := []) (h2 := hh S) 2 (fun n => B_155_34 n y2 y3 S) c13 ?_
              exact Ev.b (pc' := 11) (L' := [.ref 29, .int 0, .int 1, .int (y3 + 1)]) (st' := []) (h' := hh S) 5 (fun n => B_155_35 n y2 y3 S) (ih S (0 : Int32) (1 : Int32) (y3 + 1) _ _ hG )
            · rw [if_neg c13] at hG
              refine Ev.f (c := (S.1 31 (((16 * (S.1 43 ((0 : Int32)).toNatClampNeg)) + y3)).toNatClampNeg) = 2) (p1 := 82) (L1 := [.ref 29, .int 0, .int y2, .int y3]) (s1 := []) (h1 := hh S) (p2 := 86) (L2 := [.ref 29, .int 0, .int y2, .int y3]) (s2 := []) (h2 := hh S) 2 (fun n => B_155_36 n y2 y3 S) c13 ?_
              exact Ev.b (pc' := 11) (L' := [.ref 29, .int 0, .int 0, .int (y3 + 1)]) (st' := []) (h' := hh S) 4 (fun n => B_155_37 n y2 y3 S) (ih S (0 : Int32) (0 : Int32) (y3 + 1) _ _ hG )
          · rw [if_neg c12] at hG
            refine Ev.f (c := y2 = 0) (p1 := 62) (L1 := [.ref 29, .int 0, .int y2, .int y3]) (s1 := []) (h1 := hh S) (p2 := 82) (L2 := [.ref 29, .int 0, .int y2, .int y3]) (s2 := []) (h2 := hh S) 4 (fun n => B_155_38 n y1 y2 y3 S) c12 ?_
            exact Ev.b (pc' := 11) (L' := [.ref 29, .int 0, .int 1, .int (y3 + 1)]) (st' := []) (h' := hh S) 5 (fun n => B_155_39 n y2 y3 S) (ih S (0 : Int32) (1 : Int32) (y3 + 1) _ _ hG )
def G_155 (S : St)  : Option (Unit × St) :=
  GL_155_0 xFu S (1 : Int32) (0 : Int32) (S.1 42 ((0 : Int32)).toNatClampNeg)
theorem B_155_40 {X : Nat × (Nat → Int32)} {d : Nat} (n : Nat) (S : St) : ex X d 155 0 [.ref 29, .retAddr 0, .retAddr 0, .retAddr 0] [] (hh S) (n + 8) = if (kd 42).1 = 0 ∧ xa_in (0 : Int32) (kd 42).2 then ex X d 155 10 [.ref 29, .int 1, .int 0, .retAddr 0] [.int (S.1 42 ((0 : Int32)).toNatClampNeg)] (hh S) n else none := rfl
theorem B_155_41 {X : Nat × (Nat → Int32)} {d : Nat} (n : Nat) (S : St) : ex X d 155 10 [.ref 29, .int 1, .int 0, .retAddr 0] [.int (S.1 42 ((0 : Int32)).toNatClampNeg)] (hh S) (n + 1) = ex X d 155 11 [.ref 29, .int 1, .int 0, .int (S.1 42 ((0 : Int32)).toNatClampNeg)] [] (hh S) n := rfl
set_option maxRecDepth 200000 in
theorem T_155 {X : Nat × (Nat → Int32)} (S : St)  (r : Unit) (S' : St) (hG : G_155 S  = some (r, S')) : Ev X 0 155 0 [.ref 29, .retAddr 0, .retAddr 0, .retAddr 0] [] (hh S) (xV r, hh S') := by
  unfold G_155 at hG
  refine Ev.g (c := (kd 42).1 = 0 ∧ xa_in (0 : Int32) (kd 42).2) (p1 := 10) (L1 := [.ref 29, .int 1, .int 0, .retAddr 0]) (s1 := [.int (S.1 42 ((0 : Int32)).toNatClampNeg)]) (h1 := hh S) 8 (fun n => B_155_40 n S) (⟨rfl, by decide⟩) ?_
  exact Ev.b (pc' := 11) (L' := [.ref 29, .int 1, .int 0, .int (S.1 42 ((0 : Int32)).toNatClampNeg)]) (st' := []) (h' := hh S) 1 (fun n => B_155_41 n S) (TL_155_0 xFu S (1 : Int32) (0 : Int32) (S.1 42 ((0 : Int32)).toNatClampNeg) _ _ hG )
