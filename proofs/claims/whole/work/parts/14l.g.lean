/-- 129: SceneCycleModel.cycle(III)I -/
def GL_129_0 : Nat → St → Int32 → Int32 → Option (Int32 × St)
  | 0, _, _, _ => none
  | n + 1, S, y3, y5 =>
    (if 4 ≤ y5 then
      some ((S.1 29 32), S)
    else
      (if xa_in y5 4 then
        (if (S.1 49 (y5).toNatClampNeg) = 0 then
          GL_129_0 n S y3 (y5 + 1)
        else
          (match G_145 S y5 y3 with
          | none => none
          | some (v4, S4) =>
            (match G_151 S4 y5 with
            | none => none
            | some (v5, S5) =>
              (if y5 = 0 then
                (match G_155 S5 with
                | none => none
                | some (v7, S7) =>
                  GL_129_0 n S7 y3 (y5 + 1)
                )
              else
                GL_129_0 n S5 y3 (y5 + 1)
              )
            )
          )
        )
      else none)
    )
theorem B_129_1 {X : Nat × (Nat → Int32)} {d : Nat} (n : Nat) (w1 : Value) (w2 : Value) (y3 : Int32) (w4 : Value) (y5 : Int32) (S : St) : ex X d 129 124 [.ref 29, w1, w2, .int y3, w4, .int y5] [] (hh S) (n + 3) = if 4 ≤ y5 then ex X d 129 168 [.ref 29, w1, w2, .int y3, w4, .int y5] [] (hh S) n else ex X d 129 130 [.ref 29, w1, w2, .int y3, w4, .int y5] [] (hh S) n := rfl
theorem B_129_2 {X : Nat × (Nat → Int32)} {d : Nat} (n : Nat) (w1 : Value) (w2 : Value) (y3 : Int32) (w4 : Value) (y5 : Int32) (S : St) : ex X d 129 124 [.ref 29, w1, w2, .int y3, w4, .int y5] [] (hh S) (n + 3) = if 4 ≤ y5 then ex X d 129 168 [.ref 29, w1, w2, .int y3, w4, .int y5] [] (hh S) n else ex X d 129 130 [.ref 29, w1, w2, .int y3, w4, .int y5] [] (hh S) n := rfl
theorem B_129_3 {X : Nat × (Nat → Int32)} {d : Nat} (n : Nat) (w1 : Value) (w2 : Value) (y3 : Int32) (w4 : Value) (y5 : Int32) (S : St) : ex X d 129 130 [.ref 29, w1, w2, .int y3, w4, .int y5] [] (hh S) (n + 4) = if (kd 49).1 = 1 ∧ xa_in y5 (kd 49).2 then ex X d 129 137 [.ref 29, w1, w2, .int y3, w4, .int y5] [.int (S.1 49 (y5).toNatClampNeg)] (hh S) n else none := rfl
theorem B_129_4 {X : Nat × (Nat → Int32)} {d : Nat} (n : Nat) (w1 : Value) (w2 : Value) (y3 : Int32) (w4 : Value) (y5 : Int32) (S : St) : ex X d 129 137 [.ref 29, w1, w2, .int y3, w4, .int y5] [.int (S.1 49 (y5).toNatClampNeg)] (hh S) (n + 1) = if (S.1 49 (y5).toNatClampNeg) = 0 then ex X d 129 162 [.ref 29, w1, w2, .int y3, w4, .int y5] [] (hh S) n else ex X d 129 140 [.ref 29, w1, w2, .int y3, w4, .int y5] [] (hh S) n := rfl
theorem B_129_5 {X : Nat × (Nat → Int32)} {d : Nat} (n : Nat) (w1 : Value) (w2 : Value) (y3 : Int32) (w4 : Value) (y5 : Int32) (S : St) : ex X d 129 162 [.ref 29, w1, w2, .int y3, w4, .int y5] [] (hh S) (n + 2) = ex X d 129 124 [.ref 29, w1, w2, .int y3, w4, .int (y5 + 1)] [] (hh S) n := rfl
theorem B_129_6 {X : Nat × (Nat → Int32)} {d : Nat} (n : Nat) (w1 : Value) (w2 : Value) (y3 : Int32) (w4 : Value) (y5 : Int32) (S : St) : ex X d 129 137 [.ref 29, w1, w2, .int y3, w4, .int y5] [.int (S.1 49 (y5).toNatClampNeg)] (hh S) (n + 1) = if (S.1 49 (y5).toNatClampNeg) = 0 then ex X d 129 162 [.ref 29, w1, w2, .int y3, w4, .int y5] [] (hh S) n else ex X d 129 140 [.ref 29, w1, w2, .int y3, w4, .int y5] [] (hh S) n := rfl
theorem B_129_7 {X : Nat × (Nat → Int32)} {d : Nat} (n : Nat) (w1 : Value) (w2 : Value) (y3 : Int32) (w4 : Value) (y5 : Int32) (S : St) : ex X (d + 1) 129 140 [.ref 29, w1, w2, .int y3, w4, .int y5] [] (hh S) (n + 4) = (match ex X d 145 0 [.ref 29, .int y5, .int y3, .retAddr 0, .retAddr 0] [] (hh S) n with | some (v, h') => ex X (d + 1) 129 147 [.ref 29, w1, w2, .int y3, w4, .int y5] (v.toList ++ []) h' n | none => none) := rfl
theorem B_129_8 {X : Nat × (Nat → Int32)} {d : Nat} (n : Nat) (w1 : Value) (w2 : Value) (y3 : Int32) (w4 : Value) (y5 : Int32) (S4 : St) : ex X (d + 1) 129 147 [.ref 29, w1, w2, .int y3, w4, .int y5] [] (hh S4) (n + 3) = (match ex X d 151 0 [.ref 29, .int y5, .retAddr 0, .retAddr 0, .retAddr 0] [] (hh S4) n with | some (v, h') => ex X (d + 1) 129 153 [.ref 29, w1, w2, .int y3, w4, .int y5] (v.toList ++ []) h' n | none => none) := rfl
theorem B_129_9 {X : Nat × (Nat → Int32)} {d : Nat} (n : Nat) (w1 : Value) (w2 : Value) (y3 : Int32) (w4 : Value) (y5 : Int32) (S5 : St) : ex X d 129 153 [.ref 29, w1, w2, .int y3, w4, .int y5] [] (hh S5) (n + 2) = if y5 = 0 then ex X d 129 158 [.ref 29, w1, w2, .int y3, w4, .int y5] [] (hh S5) n else ex X d 129 162 [.ref 29, w1, w2, .int y3, w4, .int y5] [] (hh S5) n := rfl
theorem B_129_10 {X : Nat × (Nat → Int32)} {d : Nat} (n : Nat) (w1 : Value) (w2 : Value) (y3 : Int32) (w4 : Value) (y5 : Int32) (S5 : St) : ex X (d + 1) 129 158 [.ref 29, w1, w2, .int y3, w4, .int y5] [] (hh S5) (n + 2) = (match ex X d 155 0 [.ref 29, .retAddr 0, .retAddr 0, .retAddr 0] [] (hh S5) n with | some (v, h') => ex X (d + 1) 129 162 [.ref 29, w1, w2, .int y3, w4, .int y5] (v.toList ++ []) h' n | none => none) := rfl
theorem B_129_11 {X : Nat × (Nat → Int32)} {d : Nat} (n : Nat) (w1 : Value) (w2 : Value) (y3 : Int32) (w4 : Value) (y5 : Int32) (S7 : St) : ex X d 129 162 [.ref 29, w1, w2, .int y3, w4, .int y5] [] (hh S7) (n + 2) = ex X d 129 124 [.ref 29, w1, w2, .int y3, w4, .int (y5 + 1)] [] (hh S7) n := rfl
theorem B_129_12 {X : Nat × (Nat → Int32)} {d : Nat} (n : Nat) (w1 : Value) (w2 : Value) (y3 : Int32) (w4 : Value) (y5 : Int32) (S5 : St) : ex X d 129 153 [.ref 29, w1, w2, .int y3, w4, .int y5] [] (hh S5) (n + 2) = if y5 = 0 then ex X d 129 158 [.ref 29, w1, w2, .int y3, w4, .int y5] [] (hh S5) n else ex X d 129 162 [.ref 29, w1, w2, .int y3, w4, .int y5] [] (hh S5) n := rfl
theorem B_129_13 {X : Nat × (Nat → Int32)} {d : Nat} (n : Nat) (w1 : Value) (w2 : Value) (y3 : Int32) (w4 : Value) (y5 : Int32) (S5 : St) : ex X d 129 162 [.ref 29, w1, w2, .int y3, w4, .int y5] [] (hh S5) (n + 2) = ex X d 129 124 [.ref 29, w1, w2, .int y3, w4, .int (y5 + 1)] [] (hh S5) n := rfl
set_option maxRecDepth 200000 in
theorem TL_129_0 {X : Nat × (Nat → Int32)} : ∀ (n : Nat) (S : St) (y3 : Int32) (y5 : Int32) (r : Int32) (S' : St), GL_129_0 n S y3 y5 = some (r, S') → ∀ (w1 w2 w4 : Value), Ev X 8 129 124 [.ref 29, w1, w2, .int y3, w4, .int y5] [] (hh S) (xI r, hh S') := by
  intro n
  induction n with
  | zero => intro S y3 y5 r S' hG; simp [GL_129_0] at hG
  | succ n ih =>
    intro S y3 y5 r S' hG w1 w2 w4
    rw [GL_129_0] at hG
    by_cases c1 : 4 ≤ y5
    · rw [if_pos c1] at hG
      refine Ev.t (c := 4 ≤ y5) (p1 := 168) (L1 := [.ref 29, w1, w2, .int y3, w4, .int y5]) (s1 := []) (h1 := hh S) (p2 := 130) (L2 := [.ref 29, w1, w2, .int y3, w4, .int y5]) (s2 := []) (h2 := hh S) 3 (fun n => B_129_1 n w1 w2 y3 w4 y5 S) c1 ?_
      obtain ⟨e1, e2⟩ := Prod.mk.inj (Option.some.inj hG)
      subst e1
      subst e2
      exact Ev.r 3 (fun n => rfl)
    · rw [if_neg c1] at hG
      refine Ev.f (c := 4 ≤ y5) (p1 := 168) (L1 := [.ref 29, w1, w2, .int y3, w4, .int y5]) (s1 := []) (h1 := hh S) (p2 := 130) (L2 := [.ref 29, w1, w2, .int y3, w4, .int y5]) (s2 := []) (h2 := hh S) 3 (fun n => B_129_2 n w1 w2 y3 w4 y5 S) c1 ?_
      by_cases g2 : xa_in y5 4
      rotate_left
      · rw [if_neg g2] at hG; cases hG
      rw [if_pos g2] at hG
      refine Ev.g (c := (kd 49).1 = 1 ∧ xa_in y5 (kd 49).2) (p1 := 137) (L1 := [.ref 29, w1, w2, .int y3, w4, .int y5]) (s1 := [.int (S.1 49 (y5).toNatClampNeg)]) (h1 := hh S) 4 (fun n => B_129_3 n w1 w2 y3 w4 y5 S) (⟨rfl, g2⟩) ?_
      by_cases c3 : (S.1 49 (y5).toNatClampNeg) = 0
      · rw [if_pos c3] at hG
        refine Ev.t (c := (S.1 49 (y5).toNatClampNeg) = 0) (p1 := 162) (L1 := [.ref 29, w1, w2, .int y3, w4, .int y5]) (s1 := []) (h1 := hh S) (p2 := 140) (L2 := [.ref 29, w1, w2, .int y3, w4, .int y5]) (s2 := []) (h2 := hh S) 1 (fun n => B_129_4 n w1 w2 y3 w4 y5 S) c3 ?_
        exact Ev.b (pc' := 124) (L' := [.ref 29, w1, w2, .int y3, w4, .int (y5 + 1)]) (st' := []) (h' := hh S) 2 (fun n => B_129_5 n w1 w2 y3 w4 y5 S) (ih S y3 (y5 + 1) _ _ hG w1 w2 w4)
      · rw [if_neg c3] at hG
        refine Ev.f (c := (S.1 49 (y5).toNatClampNeg) = 0) (p1 := 162) (L1 := [.ref 29, w1, w2, .int y3, w4, .int y5]) (s1 := []) (h1 := hh S) (p2 := 140) (L2 := [.ref 29, w1, w2, .int y3, w4, .int y5]) (s2 := []) (h2 := hh S) 1 (fun n => B_129_6 n w1 w2 y3 w4 y5 S) c3 ?_
        rcases h4 : G_145 S y5 y3 with _ | ⟨v4, S4⟩
        · rw [h4] at hG; cases hG
        rw [h4] at hG
        dsimp only at hG
        refine Ev.c (a := 145) (A := [.ref 29, .int y5, .int y3, .retAddr 0, .retAddr 0]) (h1 := hh S) (pc' := 147) (L' := [.ref 29, w1, w2, .int y3, w4, .int y5]) (rest := []) (r1 := none) (h2 := hh S4) 4 (fun n => B_129_7 n w1 w2 y3 w4 y5 S) (Ev.up (by decide) (T_145 S y5 y3 _ _ h4)) ?_
        show Ev X _ 129 147 [.ref 29, w1, w2, .int y3, w4, .int y5] [] (hh S4) _
        rcases h5 : G_151 S4 y5 with _ | ⟨v5, S5⟩
        · rw [h5] at hG; cases hG
        rw [h5] at hG
        dsimp only at hG
        refine Ev.c (a := 151) (A := [.ref 29, .int y5, .retAddr 0, .retAddr 0, .retAddr 0]) (h1 := hh S4) (pc' := 153) (L' := [.ref 29, w1, w2, .int y3, w4, .int y5]) (rest := []) (r1 := none) (h2 := hh S5) 3 (fun n => B_129_8 n w1 w2 y3 w4 y5 S4) (Ev.up (by decide) (T_151 S4 y5 _ _ h5)) ?_
        show Ev X _ 129 153 [.ref 29, w1, w2, .int y3, w4, .int y5] [] (hh S5) _
        by_cases c6 : y5 = 0
        · rw [if_pos c6] at hG
          refine Ev.t (c := y5 = 0) (p1 := 158) (L1 := [.ref 29, w1, w2, .int y3, w4, .int y5]) (s1 := []) (h1 := hh S5) (p2 := 162) (L2 := [.ref 29, w1, w2, .int y3, w4, .int y5]) (s2 := []) (h2 := hh S5) 2 (fun n => B_129_9 n w1 w2 y3 w4 y5 S5) c6 ?_
          rcases h7 : G_155 S5 with _ | ⟨v7, S7⟩
          · rw [h7] at hG; cases hG
          rw [h7] at hG
          dsimp only at hG
          refine Ev.c (a := 155) (A := [.ref 29, .retAddr 0, .retAddr 0, .retAddr 0]) (h1 := hh S5) (pc' := 162) (L' := [.ref 29, w1, w2, .int y3, w4, .int y5]) (rest := []) (r1 := none) (h2 := hh S7) 2 (fun n => B_129_10 n w1 w2 y3 w4 y5 S5) (Ev.up (by decide) (T_155 S5  _ _ h7)) ?_
          show Ev X _ 129 162 [.ref 29, w1, w2, .int y3, w4, .int y5] [] (hh S7) _
          exact Ev.b (pc' := 124) (L' := [.ref 29, w1, w2, .int y3, w4, .int (y5 + 1)]) (st' := []) (h' := hh S7) 2 (fun n => B_129_11 n w1 w2 y3 w4 y5 S7) (ih S7 y3 (y5 + 1) _ _ hG w1 w2 w4)
        · rw [if_neg c6] at hG
          refine Ev.f (c := y5 = 0) (p1 := 158) (L1 := [.ref 29, w1, w2, .int y3, w4, .int y5]) (s1 := []) (h1 := hh S5) (p2 := 162) (L2 := [.ref 29, w1, w2, .int y3, w4, .int y5]) (s2 := []) (h2 := hh S5) 2 (fun n => B_129_12 n w1 w2 y3 w4 y5 S5) c6 ?_
          exact Ev.b (pc' := 124) (L' := [.ref 29, w1, w2, .int y3, w4, .int (y5 + 1)]) (st' := []) (h' := hh S5) 2 (fun n => B_129_13 n w1 w2 y3 w4 y5 S5) (ih S5 y3 (y5 + 1) _ _ hG w1 w2 w4)
def G_129 (S : St) (x1 : Int32) (x2 : Int32) (x3 : Int32) : Option (Int32 × St) :=
  (if (S.1 29 30) = 0 then
    (match G_115 S x1 (0 : Int32) (255 : Int32) with
    | none => none
    | some (v9, S9) =>
      (if v9 = 0 then
        (match G_115 S9 x3 (0 : Int32) (255 : Int32) with
        | none => none
        | some (v11, S11) =>
          (if v11 = 0 then
            (match G_115 S11 x2 (0 : Int32) (8 : Int32) with
            | none => none
            | some (v13, S13) =>
              (if v13 = 0 then
                (if x2 = 0 then
                  (match G_130 (xa_u (xa_u (xa_u S13.1 29 31 ((S13.1 29 31) + 1)) 29 33 x1) 29 7 (-1), S13.2.1, S13.2.2) with
                  | none => none
                  | some (v16, S16) =>
                    (if v16 = 0 then
                      GL_129_0 xFu (xa_u S16.1 40 (((0 : Int32)).toNatClampNeg) 0, S16.2.1, S16.2.2) x3 (0 : Int32)
                    else
                      some (v16, (xa_u S16.1 29 30 1, S16.2.1, S16.2.2))
                    )
                  )
                else
                  (if ((xa_u (xa_u (xa_u S13.1 29 31 ((S13.1 29 31) + 1)) 29 33 x1) 29 7 (-1)) 47 ((0 : Int32)).toNatClampNeg) = 0 then
                    (if ((xa_u (xa_u (xa_u S13.1 29 31 ((S13.1 29 31) + 1)) 29 33 x1) 29 7 (-1)) 46 ((0 : Int32)).toNatClampNeg) = x2 then
                      (match G_130 (xa_u (xa_u (xa_u (xa_u S13.1 29 31 ((S13.1 29 31) + 1)) 29 33 x1) 29 7 (-1)) 46 (((0 : Int32)).toNatClampNeg) 0, S13.2.1, S13.2.2) with
                      | none => none
                      | some (v20, S20) =>
                        (if v20 = 0 then
                          GL_129_0 xFu (xa_u S20.1 40 (((0 : Int32)).toNatClampNeg) 0, S20.2.1, S20.2.2) x3 (0 : Int32)
                        else
                          some (v20, (xa_u S20.1 29 30 1, S20.2.1, S20.2.2))
                        )
                      )
                    else
                      (match G_130 (xa_u (xa_u (xa_u (xa_u S13.1 29 31 ((S13.1 29 31) + 1)) 29 33 x1) 29 7 (-1)) 46 (((0 : Int32)).toNatClampNeg) x2, S13.2.1, S13.2.2) with
                      | none => none
                      | some (v22, S22) =>
                        (if v22 = 0 then
                          GL_129_0 xFu (xa_u S22.1 40 (((0 : Int32)).toNatClampNeg) 0, S22.2.1, S22.2.2) x3 (0 : Int32)
                        else
                          some (v22, (xa_u S22.1 29 30 1, S22.2.1, S22.2.2))
                        )
                      )
                    )
                  else
                    (match G_130 (xa_u (xa_u (xa_u S13.1 29 31 ((S13.1 29 31) + 1)) 29 33 x1) 29 7 (-1), S13.2.1, S13.2.2) with
                    | none => none
                    | some (v24, S24) =>
                      (if v24 = 0 then
                        GL_129_0 xFu (xa_u S24.1 40 (((0 : Int32)).toNatClampNeg) 0, S24.2.1, S24.2.2) x3 (0 : Int32)
                      else
                        some (v24, (xa_u S24.1 29 30 1, S24.2.1, S24.2.2))
                      )
                    )
                  )
                )
              else
                some ((-1), S13)
              )
            )
          else
            some ((-1), S11)
          )
        )
      else
        some ((-1), S9)
      )
    )
  else
    some ((-1), S)
  )
theorem B_129_14 {X : Nat × (Nat → Int32)} {d : Nat} (n : Nat) (x1 : Int32) (x2 : Int32) (x3 : Int32) (S : St) : ex X d 129 0 [.ref 29, .int x1, .int x2, .int x3, .retAddr 0, .retAddr 0] [] (hh S) (n + 3) = if (S.1 29 30) = 0 then ex X d 129 7 [.ref 29, .int x1, .int x2, .int x3, .retAddr 0, .retAddr 0] [] (hh S) n else ex X d 129 39 [.ref 29, .int x1, .int x2, .int x3, .retAddr 0, .retAddr 0] [] (hh S) n := rfl
theorem B_129_15 {X : Nat × (Nat → Int32)} {d : Nat} (n : Nat) (x1 : Int32) (x2 : Int32) (x3 : Int32) (S : St) : ex X (d + 1) 129 7 [.ref 29, .int x1, .int x2, .int x3, .retAddr 0, .retAddr 0] [] (hh S) (n + 4) = (match ex X d 115 0 [.int x1, .int 0, .int 255] [] (hh S) n with | some (v, h') => ex X (d + 1) 129 15 [.ref 29, .int x1, .int x2, .int x3, .retAddr 0, .retAddr 0] (v.toList ++ []) h' n | none => none) := rfl
theorem B_129_16 {X : Nat × (Nat → Int32)} {d : Nat} (n : Nat) (x1 : Int32) (x2 : Int32) (x3 : Int32) (v9 : Int32) (S9 : St) : ex X d 129 15 [.ref 29, .int x1, .int x2, .int x3, .retAddr 0, .retAddr 0] [.int v9] (hh S9) (n + 1) = if v9 = 0 then ex X d 129 18 [.ref 29, .int x1, .int x2, .int x3, .retAddr 0, .retAddr 0] [] (hh S9) n else ex X d 129 39 [.ref 29, .int x1, .int x2, .int x3, .retAddr 0, .retAddr 0] [] (hh S9) n := rfl
theorem B_129_17 {X : Nat × (Nat → Int32)} {d : Nat} (n : Nat) (x1 : Int32) (x2 : Int32) (x3 : Int32) (S9 : St) : ex X (d + 1) 129 18 [.ref 29, .int x1, .int x2, .int x3, .retAddr 0, .retAddr 0] [] (hh S9) (n + 4) = (match ex X d 115 0 [.int x3, .int 0, .int 255] [] (hh S9) n with | some (v, h') => ex X (d + 1) 129 26 [.ref 29, .int x1, .int x2, .int x3, .retAddr 0, .retAddr 0] (v.toList ++ []) h' n | none => none) := rfl
theorem B_129_18 {X : Nat × (Nat → Int32)} {d : Nat} (n : Nat) (x1 : Int32) (x2 : Int32) (x3 : Int32) (v11 : Int32) (S11 : St) : ex X d 129 26 [.ref 29, .int x1, .int x2, .int x3, .retAddr 0, .retAddr 0] [.int v11] (hh S11) (n + 1) = if v11 = 0 then ex X d 129 29 [.ref 29, .int x1, .int x2, .int x3, .retAddr 0, .retAddr 0] [] (hh S11) n else ex X d 129 39 [.ref 29, .int x1, .int x2, .int x3, .retAddr 0, .retAddr 0] [] (hh S11) n := rfl
theorem B_129_19 {X : Nat × (Nat → Int32)} {d : Nat} (n : Nat) (x1 : Int32) (x2 : Int32) (x3 : Int32) (S11 : St) : ex X (d + 1) 129 29 [.ref 29, .int x1, .int x2, .int x3, .retAddr 0, .retAddr 0] [] (hh S11) (n + 4) = (match ex X d 115 0 [.int x2, .int 0, .int 8] [] (hh S11) n with | some (v, h') => ex X (d + 1) 129 36 [.ref 29, .int x1, .int x2, .int x3, .retAddr 0, .retAddr 0] (v.toList ++ []) h' n | none => none) := rfl
theorem B_129_20 {X : Nat × (Nat → Int32)} {d : Nat} (n : Nat) (x1 : Int32) (x2 : Int32) (x3 : Int32) (v13 : Int32) (S13 : St) : ex X d 129 36 [.ref 29, .int x1, .int x2, .int x3, .retAddr 0, .retAddr 0] [.int v13] (hh S13) (n + 1) = if v13 = 0 then ex X d 129 41 [.ref 29, .int x1, .int x2, .int x3, .retAddr 0, .retAddr 0] [] (hh S13) n else ex X d 129 39 [.ref 29, .int x1, .int x2, .int x3, .retAddr 0, .retAddr 0] [] (hh S13) n := rfl
theorem B_129_21 {X : Nat × (Nat → Int32)} {d : Nat} (n : Nat) (x1 : Int32) (x2 : Int32) (x3 : Int32) (S13 : St) : ex X d 129 41 [.ref 29, .int x1, .int x2, .int x3, .retAddr 0, .retAddr 0] [] (hh S13) (n + 6) = if (kd 29).1 = 10 + 8 ∧ (xf_k 8 31 = 0 ∨ (xf_k 8 31 = 1 ∧ (((S13.1 29 31) + 1) = 0 ∨ ((S13.1 29 31) + 1) = 1))) then ex X d 129 51 [.ref 29, .int x1, .int x2, .int x3, .retAddr 0, .retAddr 0] [] (hh (xa_u S13.1 29 31 ((S13.1 29 31) + 1), S13.2.1, S13.2.2)) n else none := rfl
theorem B_129_22 {X : Nat × (Nat → Int32)} {d : Nat} (n : Nat) (x1 : Int32) (x2 : Int32) (x3 : Int32) (S13 : St) : ex X d 129 51 [.ref 29, .int x1, .int x2, .int x3, .retAddr 0, .retAddr 0] [] (hh (xa_u S13.1 29 31 ((S13.1 29 31) + 1), S13.2.1, S13.2.2)) (n + 3) = if (kd 29).1 = 10 + 8 ∧ (xf_k 8 33 = 0 ∨ (xf_k 8 33 = 1 ∧ (x1 = 0 ∨ x1 = 1))) then ex X d 129 56 [.ref 29, .int x1, .int x2, .int x3, .retAddr 0, .retAddr 0] [] (hh (xa_u (xa_u S13.1 29 31 ((S13.1 29 31) + 1)) 29 33 x1, S13.2.1, S13.2.2)) n else none := rfl
theorem B_129_23 {X : Nat × (Nat → Int32)} {d : Nat} (n : Nat) (x1 : Int32) (x2 : Int32) (x3 : Int32) (S13 : St) : ex X d 129 56 [.ref 29, .int x1, .int x2, .int x3, .retAddr 0, .retAddr 0] [] (hh (xa_u (xa_u S13.1 29 31 ((S13.1 29 31) + 1)) 29 33 x1, S13.2.1, S13.2.2)) (n + 3) = if (kd 29).1 = 10 + 8 ∧ (xf_k 8 7 = 0 ∨ (xf_k 8 7 = 1 ∧ (((-1) : Int32) = 0 ∨ ((-1) : Int32) = 1))) then ex X d 129 61 [.ref 29, .int x1, .int x2, .int x3, .retAddr 0, .retAddr 0] [] (hh (xa_u (xa_u (xa_u S13.1 29 31 ((S13.1 29 31) + 1)) 29 33 x1) 29 7 (-1), S13.2.1, S13.2.2)) n else none := rfl
theorem B_129_24 {X : Nat × (Nat → Int32)} {d : Nat} (n : Nat) (x1 : Int32) (x2 : Int32) (x3 : Int32) (S13 : St) : ex X d 129 61 [.ref 29, .int x1, .int x2, .int x3, .retAddr 0, .retAddr 0] [] (hh (xa_u (xa_u (xa_u S13.1 29 31 ((S13.1 29 31) + 1)) 29 33 x1) 29 7 (-1), S13.2.1, S13.2.2)) (n + 2) = if x2 = 0 then ex X d 129 95 [.ref 29, .int x1, .int x2, .int x3, .retAddr 0, .retAddr 0] [] (hh (xa_u (xa_u (xa_u S13.1 29 31 ((S13.1 29 31) + 1)) 29 33 x1) 29 7 (-1), S13.2.1, S13.2.2)) n else ex X d 129 65 [.ref 29, .int x1, .int x2, .int x3, .retAddr 0, .retAddr 0] [] (hh (xa_u (xa_u (xa_u S13.1 29 31 ((S13.1 29 31) + 1)) 29 33 x1) 29 7 (-1), S13.2.1, S13.2.2)) n := rfl
theorem B_129_25 {X : Nat × (Nat → Int32)} {d : Nat} (n : Nat) (x1 : Int32) (x2 : Int32) (x3 : Int32) (S13 : St) : ex X (d + 1) 129 95 [.ref 29, .int x1, .int x2, .int x3, .retAddr 0, .retAddr 0] [] (hh (xa_u (xa_u (xa_u S13.1 29 31 ((S13.1 29 31) + 1)) 29 33 x1) 29 7 (-1), S13.2.1, S13.2.2)) (n + 2) = (match ex X d 130 0 [.ref 29, .retAddr 0, .retAddr 0] [] (hh (xa_u (xa_u (xa_u S13.1 29 31 ((S13.1 29 31) + 1)) 29 33 x1) 29 7 (-1), S13.2.1, S13.2.2)) n with | some (v, h') => ex X (d + 1) 129 99 [.ref 29, .int x1, .int x2, .int x3, .retAddr 0, .retAddr 0] (v.toList ++ []) h' n | none => none) := rfl
theorem B_129_26 {X : Nat × (Nat → Int32)} {d : Nat} (n : Nat) (x1 : Int32) (x2 : Int32) (x3 : Int32) (v16 : Int32) (S16 : St) : ex X d 129 99 [.ref 29, .int x1, .int x2, .int x3, .retAddr 0, .retAddr 0] [.int v16] (hh S16) (n + 3) = if v16 = 0 then ex X d 129 114 [.ref 29, .int x1, .int x2, .int x3, .int v16, .retAddr 0] [] (hh S16) n else ex X d 129 106 [.ref 29, .int x1, .int x2, .int x3, .int v16, .retAddr 0] [] (hh S16) n := rfl
theorem B_129_27 {X : Nat × (Nat → Int32)} {d : Nat} (n : Nat) (x1 : Int32) (x2 : Int32) (x3 : Int32) (v16 : Int32) (S16 : St) : ex X d 129 114 [.ref 29, .int x1, .int x2, .int x3, .int v16, .retAddr 0] [] (hh S16) (n + 5) = if (kd 40).1 = 0 ∧ xa_in (0 : Int32) (kd 40).2 then ex X d 129 121 [.ref 29, .int x1, .int x2, .int x3, .int v16, .retAddr 0] [] (hh (xa_u S16.1 40 (((0 : Int32)).toNatClampNeg) 0, S16.2.1, S16.2.2)) n else none := rfl
theorem B_129_28 {X : Nat × (Nat → Int32)} {d : Nat} (n : Nat) (x1 : Int32) (x2 : Int32) (x3 : Int32) (v16 : Int32) (S16 : St) : ex X d 129 121 [.ref 29, .int x1, .int x2, .int x3, .int v16, .retAddr 0] [] (hh (xa_u S16.1 40 (((0 : Int32)).toNatClampNeg) 0, S16.2.1, S16.2.2)) (n + 2) = ex X d 129 124 [.ref 29, .int x1, .int x2, .int x3, .int v16, .int 0] [] (hh (xa_u S16.1 40 (((0 : Int32)).toNatClampNeg) 0, S16.2.1, S16.2.2)) n := rfl
theorem B_129_29 {X : Nat × (Nat → Int32)} {d : Nat} (n : Nat) (x1 : Int32) (x2 : Int32) (x3 : Int32) (v16 : Int32) (S16 : St) : ex X d 129 99 [.ref 29, .int x1, .int x2, .int x3, .retAddr 0, .retAddr 0] [.int v16] (hh S16) (n + 3) = if v16 = 0 then ex X d 129 114 [.ref 29, .int x1, .int x2, .int x3, .int v16, .retAddr 0] [] (hh S16) n else ex X d 129 106 [.ref 29, .int x1, .int x2, .int x3, .int v16, .retAddr 0] [] (hh S16) n := rfl
theorem B_129_30 {X : Nat × (Nat → Int32)} {d : Nat} (n : Nat) (x1 : Int32) (x2 : Int32) (x3 : Int32) (v16 : Int32) (S16 : St) : ex X d 129 106 [.ref 29, .int x1, .int x2, .int x3, .int v16, .retAddr 0] [] (hh S16) (n + 3) = if (kd 29).1 = 10 + 8 ∧ (xf_k 8 30 = 0 ∨ (xf_k 8 30 = 1 ∧ ((1 : Int32) = 0 ∨ (1 : Int32) = 1))) then ex X d 129 111 [.ref 29, .int x1, .int x2, .int x3, .int v16, .retAddr 0] [] (hh (xa_u S16.1 29 30 1, S16.2.1, S16.2.2)) n else none := rfl
theorem B_129_31 {X : Nat × (Nat → Int32)} {d : Nat} (n : Nat) (x1 : Int32) (x2 : Int32) (x3 : Int32) (S13 : St) : ex X d 129 61 [.ref 29, .int x1, .int x2, .int x3, .retAddr 0, .retAddr 0] [] (hh (xa_u (xa_u (xa_u S13.1 29 31 ((S13.1 29 31) + 1)) 29 33 x1) 29 7 (-1), S13.2.1, S13.2.2)) (n + 2) = if x2 = 0 then ex X d 129 95 [.ref 29, .int x1, .int x2, .int x3, .retAddr 0, .retAddr 0] [] (hh (xa_u (xa_u (xa_u S13.1 29 31 ((S13.1 29 31) + 1)) 29 33 x1) 29 7 (-1), S13.2.1, S13.2.2)) n else ex X d 129 65 [.ref 29, .int x1, .int x2, .int x3, .retAddr 0, .retAddr 0] [] (hh (xa_u (xa_u (xa_u S13.1 29 31 ((S13.1 29 31) + 1)) 29 33 x1) 29 7 (-1), S13.2.1, S13.2.2)) n := rfl
theorem B_129_32 {X : Nat × (Nat → Int32)} {d : Nat} (n : Nat) (x1 : Int32) (x2 : Int32) (x3 : Int32) (S13 : St) : ex X d 129 65 [.ref 29, .int x1, .int x2, .int x3, .retAddr 0, .retAddr 0] [] (hh (xa_u (xa_u (xa_u S13.1 29 31 ((S13.1 29 31) + 1)) 29 33 x1) 29 7 (-1), S13.2.1, S13.2.2)) (n + 4) = if (kd 47).1 = 0 ∧ xa_in (0 : Int32) (kd 47).2 then ex X d 129 71 [.ref 29, .int x1, .int x2, .int x3, .retAddr 0, .retAddr 0] [.int ((xa_u (xa_u (xa_u S13.1 29 31 ((S13.1 29 31) + 1)) 29 33 x1) 29 7 (-1)) 47 ((0 : Int32)).toNatClampNeg)] (hh (xa_u (xa_u (xa_u S13.1 29 31 ((S13.1 29 31) + 1)) 29 33 x1) 29 7 (-1), S13.2.1, S13.2.2)) n else none := rfl
theorem B_129_33 {X : Nat × (Nat → Int32)} {d : Nat} (n : Nat) (x1 : Int32) (x2 : Int32) (x3 : Int32) (S13 : St) : ex X d 129 71 [.ref 29, .int x1, .int x2, .int x3, .retAddr 0, .retAddr 0] [.int ((xa_u (xa_u (xa_u S13.1 29 31 ((S13.1 29 31) + 1)) 29 33 x1) 29 7 (-1)) 47 ((0 : Int32)).toNatClampNeg)] (hh (xa_u (xa_u (xa_u S13.1 29 31 ((S13.1 29 31) + 1)) 29 33 x1) 29 7 (-1), S13.2.1, S13.2.2)) (n + 1) = if ((xa_u (xa_u (xa_u S13.1 29 31 ((S13.1 29 31) + 1)) 29 33 x1) 29 7 (-1)) 47 ((0 : Int32)).toNatClampNeg) = 0 then ex X d 129 74 [.ref 29, .int x1, .int x2, .int x3, .retAddr 0, .retAddr 0] [] (hh (xa_u (xa_u (xa_u S13.1 29 31 ((S13.1 29 31) + 1)) 29 33 x1) 29 7 (-1), S13.2.1, S13.2.2)) n else ex X d 129 95 [.ref 29, .int x1, .int x2, .int x3, .retAddr 0, .retAddr 0] [] (hh (xa_u (xa_u (xa_u S13.1 29 31 ((S13.1 29 31) + 1)) 29 33 x1) 29 7 (-1), S13.2.1, S13.2.2)) n := rfl
theorem B_129_34 {X : Nat × (Nat → Int32)} {d : Nat} (n : Nat) (x1 : Int32) (x2 : Int32) (x3 : Int32) (S13 : St) : ex X d 129 74 [.ref 29, .int x1, .int x2, .int x3, .retAddr 0, .retAddr 0] [] (hh (xa_u (xa_u (xa_u S13.1 29 31 ((S13.1 29 31) + 1)) 29 33 x1) 29 7 (-1), S13.2.1, S13.2.2)) (n + 7) = if (kd 46).1 = 0 ∧ xa_in (0 : Int32) (kd 46).2 then ex X d 129 85 [.ref 29, .int x1, .int x2, .int x3, .retAddr 0, .retAddr 0] [.int ((xa_u (xa_u (xa_u S13.1 29 31 ((S13.1 29 31) + 1)) 29 33 x1) 29 7 (-1)) 46 ((0 : Int32)).toNatClampNeg), .int 0, .ref 46] (hh (xa_u (xa_u (xa_u S13.1 29 31 ((S13.1 29 31) + 1)) 29 33 x1) 29 7 (-1), S13.2.1, S13.2.2)) n else none := rfl
theorem B_129_35 {X : Nat × (Nat → Int32)} {d : Nat} (n : Nat) (x1 : Int32) (x2 : Int32) (x3 : Int32) (S13 : St) : ex X d 129 85 [.ref 29, .int x1, .int x2, .int x3, .retAddr 0, .retAddr 0] [.int ((xa_u (xa_u (xa_u S13.1 29 31 ((S13.1 29 31) + 1)) 29 33 x1) 29 7 (-1)) 46 ((0 : Int32)).toNatClampNeg), .int 0, .ref 46] (hh (xa_u (xa_u (xa_u S13.1 29 31 ((S13.1 29 31) + 1)) 29 33 x1) 29 7 (-1), S13.2.1, S13.2.2)) (n + 2) = if ((xa_u (xa_u (xa_u S13.1 29 31 ((S13.1 29 31) + 1)) 29 33 x1) 29 7 (-1)) 46 ((0 : Int32)).toNatClampNeg) = x2 then ex X d 129 89 [.ref 29, .int x1, .int x2, .int x3, .retAddr 0, .retAddr 0] [.int 0, .ref 46] (hh (xa_u (xa_u (xa_u S13.1 29 31 ((S13.1 29 31) + 1)) 29 33 x1) 29 7 (-1), S13.2.1, S13.2.2)) n else ex X d 129 93 [.ref 29, .int x1, .int x2, .int x3, .retAddr 0, .retAddr 0] [.int 0, .ref 46] (hh (xa_u (xa_u (xa_u S13.1 29 31 ((S13.1 29 31) + 1)) 29 33 x1) 29 7 (-1), S13.2.1, S13.2.2)) n := rfl
theorem B_129_36 {X : Nat × (Nat → Int32)} {d : Nat} (n : Nat) (x1 : Int32) (x2 : Int32) (x3 : Int32) (S13 : St) : ex X d 129 89 [.ref 29, .int x1, .int x2, .int x3, .retAddr 0, .retAddr 0] [.int 0, .ref 46] (hh (xa_u (xa_u (xa_u S13.1 29 31 ((S13.1 29 31) + 1)) 29 33 x1) 29 7 (-1), S13.2.1, S13.2.2)) (n + 3) = if (kd 46).1 = 0 ∧ xa_in (0 : Int32) (kd 46).2 then ex X d 129 95 [.ref 29, .int x1, .int x2, .int x3, .retAddr 0, .retAddr 0] [] (hh (xa_u (xa_u (xa_u (xa_u S13.1 29 31 ((S13.1 29 31) + 1)) 29 33 x1) 29 7 (-1)) 46 (((0 : Int32)).toNatClampNeg) 0, S13.2.1, S13.2.2)) n else none := rfl
theorem B_129_37 {X : Nat × (Nat → Int32)} {d : Nat} (n : Nat) (x1 : Int32) (x2 : Int32) (x3 : Int32) (S13 : St) : ex X (d + 1) 129 95 [.ref 29, .int x1, .int x2, .int x3, .retAddr 0, .retAddr 0] [] (hh (xa_u (xa_u (xa_u (xa_u S13.1 29 31 ((S13.1 29 31) + 1)) 29 33 x1) 29 7 (-1)) 46 (((0 : Int32)).toNatClampNeg) 0, S13.2.1, S13.2.2)) (n + 2) = (match ex X d 130 0 [.ref 29, .retAddr 0, .retAddr 0] [] (hh (xa_u (xa_u (xa_u (xa_u S13.1 29 31 ((S13.1 29 31) + 1)) 29 33 x1) 29 7 (-1)) 46 (((0 : Int32)).toNatClampNeg) 0, S13.2.1, S13.2.2)) n with | some (v, h') => ex X (d + 1) 129 99 [.ref 29, .int x1, .int x2, .int x3, .retAddr 0, .retAddr 0] (v.toList ++ []) h' n | none => none) := rfl
theorem B_129_38 {X : Nat × (Nat → Int32)} {d : Nat} (n : Nat) (x1 : Int32) (x2 : Int32) (x3 : Int32) (v20 : Int32) (S20 : St) : ex X d 129 99 [.ref 29, .int x1, .int x2, .int x3, .retAddr 0, .retAddr 0] [.int v20] (hh S20) (n + 3) = if v20 = 0 then ex X d 129 114 [.ref 29, .int x1, .int x2, .int x3, .int v20, .retAddr 0] [] (hh S20) n else ex X d 129 106 [.ref 29, .int x1, .int x2, .int x3, .int v20, .retAddr 0] [] (hh S20) n := rfl
theorem B_129_39 {X : Nat × (Nat → Int32)} {d : Nat} (n : Nat) (x1 : Int32) (x2 : Int32) (x3 : Int32) (v20 : Int32) (S20 : St) : ex X d 129 114 [.ref 29, .int x1, .int x2, .int x3, .int v20, .retAddr 0] [] (hh S20) (n + 5) = if (kd 40).1 = 0 ∧ xa_in (0 : Int32) (kd 40).2 then ex X d 129 121 [.ref 29, .int x1, .int x2, .int x3, .int v20, .retAddr 0] [] (hh (xa_u S20.1 40 (((0 : Int32)).toNatClampNeg) 0, S20.2.1, S20.2.2)) n else none := rfl
theorem B_129_40 {X : Nat × (Nat → Int32)} {d : Nat} (n : Nat) (x1 : Int32) (x2 : Int32) (x3 : Int32) (v20 : Int32) (S20 : St) : ex X d 129 121 [.ref 29, .int x1, .int x2, .int x3, .int v20, .retAddr 0] [] (hh (xa_u S20.1 40 (((0 : Int32)).toNatClampNeg) 0, S20.2.1, S20.2.2)) (n + 2) = ex X d 129 124 [.ref 29, .int x1, .int x2, .int x3, .int v20, .int 0] [] (hh (xa_u S20.1 40 (((0 : Int32)).toNatClampNeg) 0, S20.2.1, S20.2.2)) n := rfl
theorem B_129_41 {X : Nat × (Nat → Int32)} {d : Nat} (n : Nat) (x1 : Int32) (x2 : Int32) (x3 : Int32) (v20 : Int32) (S20 : St) : ex X d 129 99 [.ref 29, .int x1, .int x2, .int x3, .retAddr 0, .retAddr 0] [.int v20] (hh S20) (n + 3) = if v20 = 0 then ex X d 129 114 [.ref 29, .int x1, .int x2, .int x3, .int v20, .retAddr 0] [] (hh S20) n else ex X d 129 106 [.ref 29, .int x1, .int x2, .int x3, .int v20, .retAddr 0] [] (hh S20) n := rfl
theorem B_129_42 {X : Nat × (Nat → Int32)} {d : Nat} (n : Nat) (x1 : Int32) (x2 : Int32) (x3 : Int32) (v20 : Int32) (S20 : St) : ex X d 129 106 [.ref 29, .int x1, .int x2, .int x3, .int v20, .retAddr 0] [] (hh S20) (n + 3) = if (kd 29).1 = 10 + 8 ∧ (xf_k 8 30 = 0 ∨ (xf_k 8 30 = 1 ∧ ((1 : Int32) = 0 ∨ (1 : Int32) = 1))) then ex X d 129 111 [.ref 29, .int x1, .int x2, .int x3, .int v20, .retAddr 0] [] (hh (xa_u S20.1 29 30 1, S20.2.1, S20.2.2)) n else none := rfl
theorem B_129_43 {X : Nat × (Nat → Int32)} {d : Nat} (n : Nat) (x1 : Int32) (x2 : Int32) (x3 : Int32) (S13 : St) : ex X d 129 85 [.ref 29, .int x1, .int x2, .int x3, .retAddr 0, .retAddr 0] [.int ((xa_u (xa_u (xa_u S13.1 29 31 ((S13.1 29 31) + 1)) 29 33 x1) 29 7 (-1)) 46 ((0 : Int32)).toNatClampNeg), .int 0, .ref 46] (hh (xa_u (xa_u (xa_u S13.1 29 31 ((S13.1 29 31) + 1)) 29 33 x1) 29 7 (-1), S13.2.1, S13.2.2)) (n + 2) = if ((xa_u (xa_u (xa_u S13.1 29 31 ((S13.1 29 31) + 1)) 29 33 x1) 29 7 (-1)) 46 ((0 : Int32)).toNatClampNeg) = x2 then ex X d 129 89 [.ref 29, .int x1, .int x2, .int x3, .retAddr 0, .retAddr 0] [.int 0, .ref 46] (hh (xa_u (xa_u (xa_u S13.1 29 31 ((S13.1 29 31) + 1)) 29 33 x1) 29 7 (-1), S13.2.1, S13.2.2)) n else ex X d 129 93 [.ref 29, .int x1, .int x2, .int x3, .retAddr 0, .retAddr 0] [.int 0, .ref 46] (hh (xa_u (xa_u (xa_u S13.1 29 31 ((S13.1 29 31) + 1)) 29 33 x1) 29 7 (-1), S13.2.1, S13.2.2)) n := rfl
theorem B_129_44 {X : Nat × (Nat → Int32)} {d : Nat} (n : Nat) (x1 : Int32) (x2 : Int32) (x3 : Int32) (S13 : St) : ex X d 129 93 [.ref 29, .int x1, .int x2, .int x3, .retAddr 0, .retAddr 0] [.int 0, .ref 46] (hh (xa_u (xa_u (xa_u S13.1 29 31 ((S13.1 29 31) + 1)) 29 33 x1) 29 7 (-1), S13.2.1, S13.2.2)) (n + 2) = if (kd 46).1 = 0 ∧ xa_in (0 : Int32) (kd 46).2 then ex X d 129 95 [.ref 29, .int x1, .int x2, .int x3, .retAddr 0, .retAddr 0] [] (hh (xa_u (xa_u (xa_u (xa_u S13.1 29 31 ((S13.1 29 31) + 1)) 29 33 x1) 29 7 (-1)) 46 (((0 : Int32)).toNatClampNeg) x2, S13.2.1, S13.2.2)) n else none := rfl
theorem B_129_45 {X : Nat × (Nat → Int32)} {d : Nat} (n : Nat) (x1 : Int32) (x2 : Int32) (x3 : Int32) (S13 : St) : ex X (d + 1) 129 95 [.ref 29, .int x1, .int x2, .int x3, .retAddr 0, .retAddr 0] [] (hh (xa_u (xa_u (xa_u (xa_u S13.1 29 31 ((S13.1 29 31) + 1)) 29 33 x1) 29 7 (-1)) 46 (((0 : Int32)).toNatClampNeg) x2, S13.2.1, S13.2.2)) (n + 2) = (match ex X d 130 0 [.ref 29, .retAddr 0, .retAddr 0] [] (hh (xa_u (xa_u (xa_u (xa_u S13.1 29 31 ((S13.1 29 31) + 1)) 29 33 x1) 29 7 (-1)) 46 (((0 : Int32)).toNatClampNeg) x2, S13.2.1, S13.2.2)) n with | some (v, h') => ex X (d + 1) 129 99 [.ref 29, .int x1, .int x2, .int x3, .retAddr 0, .retAddr 0] (v.toList ++ []) h' n | none => none) := rfl
theorem B_129_46 {X : Nat × (Nat → Int32)} {d : Nat} (n : Nat) (x1 : Int32) (x2 : Int32) (x3 : Int32) (v22 : Int32) (S22 : St) : ex X d 129 99 [.ref 29, .int x1, .int x2, .int x3, .retAddr 0, .retAddr 0] [.int v22] (hh S22) (n + 3) = if v22 = 0 then ex X d 129 114 [.ref 29, .int x1, .int x2, .int x3, .int v22, .retAddr 0] [] (hh S22) n else ex X d 129 106 [.ref 29, .int x1, .int x2, .int x3, .int v22, .retAddr 0] [] (hh S22) n := rfl
theorem B_129_47 {X : Nat × (Nat → Int32)} {d : Nat} (n : Nat) (x1 : Int32) (x2 : Int32) (x3 : Int32) (v22 : Int32) (S22 : St) : ex X d 129 114 [.ref 29, .int x1, .int x2, .int x3, .int v22, .retAddr 0] [] (hh S22) (n + 5) = if (kd 40).1 = 0 ∧ xa_in (0 : Int32) (kd 40).2 then ex X d 129 121 [.ref 29, .int x1, .int x2, .int x3, .int v22, .retAddr 0] [] (hh (xa_u S22.1 40 (((0 : Int32)).toNatClampNeg) 0, S22.2.1, S22.2.2)) n else none := rfl
theorem B_129_48 {X : Nat × (Nat → Int32)} {d : Nat} (n : Nat) (x1 : Int32) (x2 : Int32) (x3 : Int32) (v22 : Int32) (S22 : St) : ex X d 129 121 [.ref 29, .int x1, .int x2, .int x3, .int v22, .retAddr 0] [] (hh (xa_u S22.1 40 (((0 : Int32)).toNatClampNeg) 0, S22.2.1, S22.2.2)) (n + 2) = ex X d 129 124 [.ref 29, .int x1, .int x2, .int x3, .int v22, .int 0] [] (hh (xa_u S22.1 40 (((0 : Int32)).toNatClampNeg) 0, S22.2.1, S22.2.2)) n := rfl
theorem B_129_49 {X : Nat × (Nat → Int32)} {d : Nat} (n : Nat) (x1 : Int32) (x2 : Int32) (x3 : Int32) (v22 : Int32) (S22 : St) : ex X d 129 99 [.ref 29, .int x1, .int x2, .int x3, .retAddr 0, .retAddr 0] [.int v22] (hh S22) (n + 3) = if v22 = 0 then ex X d 129 114 [.ref 29, .int x1, .int x2, .int x3, .int v22, .retAddr 0] [] (hh S22) n else ex X d 129 106 [.ref 29, .int x1, .int x2, .int x3, .int v22, .retAddr 0] [] (hh S22) n := rfl
theorem B_129_50 {X : Nat × (Nat → Int32)} {d : Nat} (n : Nat) (x1 : Int32) (x2 : Int32) (x3 : Int32) (v22 : Int32) (S22 : St) : ex X d 129 106 [.ref 29, .int x1, .int x2, .int x3, .int v22, .retAddr 0] [] (hh S22) (n + 3) = if (kd 29).1 = 10 + 8 ∧ (xf_k 8 30 = 0 ∨ (xf_k 8 30 = 1 ∧ ((1 : Int32) = 0 ∨ (1 : Int32) = 1))) then ex X d 129 111 [.ref 29, .int x1, .int x2, .int x3, .int v22, .retAddr 0] [] (hh (xa_u S22.1 29 30 1, S22.2.1, S22.2.2)) n else none := rfl
theorem B_129_51 {X : Nat × (Nat → Int32)} {d : Nat} (n : Nat) (x1 : Int32) (x2 : Int32) (x3 : Int32) (S13 : St) : ex X d 129 71 [.ref 29, .int x1, .int x2, .int x3, .retAddr 0, .retAddr 0] [.int ((xa_u (xa_u (xa_u S13.1 29 31 ((S13.1 29 31) + 1)) 29 33 x1) 29 7 (-1)) 47 ((0 : Int32)).toNatClampNeg)] (hh (xa_u (xa_u (xa_u S13.1 29 31 ((S13.1 29 31) + 1)) 29 33 x1) 29 7 (-1), S13.2.1, S13.2.2)) (n + 1) = if ((xa_u (xa_u (xa_u S13.1 29 31 ((S13.1 29 31) + 1)) 29 33 x1) 29 7 (-1)) 47 ((0 : Int32)).toNatClampNeg) = 0 then ex X d 129 74 [.ref 29, .int x1, .int x2, .int x3, .retAddr 0, .retAddr 0] [] (hh (xa_u (xa_u (xa_u S13.1 29 31 ((S13.1 29 31) + 1)) 29 33 x1) 29 7 (-1), S13.2.1, S13.2.2)) n else ex X d 129 95 [.ref 29, .int x1, .int x2, .int x3, .retAddr 0, .retAddr 0] [] (hh (xa_u (xa_u (xa_u S13.1 29 31 ((S13.1 29 31) + 1)) 29 33 x1) 29 7 (-1), S13.2.1, S13.2.2)) n := rfl
theorem B_129_52 {X : Nat × (Nat → Int32)} {d : Nat} (n : Nat) (x1 : Int32) (x2 : Int32) (x3 : Int32) (S13 : St) : ex X (d + 1) 129 95 [.ref 29, .int x1, .int x2, .int x3, .retAddr 0, .retAddr 0] [] (hh (xa_u (xa_u (xa_u S13.1 29 31 ((S13.1 29 31) + 1)) 29 33 x1) 29 7 (-1), S13.2.1, S13.2.2)) (n + 2) = (match ex X d 130 0 [.ref 29, .retAddr 0, .retAddr 0] [] (hh (xa_u (xa_u (xa_u S13.1 29 31 ((S13.1 29 31) + 1)) 29 33 x1) 29 7 (-1), S13.2.1, S13.2.2)) n with | some (v, h') => ex X (d + 1) 129 99 [.ref 29, .int x1, .int x2, .int x3, .retAddr 0, .retAddr 0] (v.toList ++ []) h' n | none => none) := rfl
theorem B_129_53 {X : Nat × (Nat → Int32)} {d : Nat} (n : Nat) (x1 : Int32) (x2 : Int32) (x3 : Int32) (v24 : Int32) (S24 : St) : ex X d 129 99 [.ref 29, .int x1, .int x2, .int x3, .retAddr 0, .retAddr 0] [.int v24] (hh S24) (n + 3) = if v24 = 0 then ex X d 129 114 [.ref 29, .int x1, .int x2, .int x3, .int v24, .retAddr 0] [] (hh S24) n else ex X d 129 106 [.ref 29, .int x1, .int x2, .int x3, .int v24, .retAddr 0] [] (hh S24) n := rfl
theorem B_129_54 {X : Nat × (Nat → Int32)} {d : Nat} (n : Nat) (x1 : Int32) (x2 : Int32) (x3 : Int32) (v24 : Int32) (S24 : St) : ex X d 129 114 [.ref 29, .int x1, .int x2, .int x3, .int v24, .retAddr 0] [] (hh S24) (n + 5) = if (kd 40).1 = 0 ∧ xa_in (0 : Int32) (kd 40).2 then ex X d 129 121 [.ref 29, .int x1, .int x2, .int x3, .int v24, .retAddr 0] [] (hh (xa_u S24.1 40 (((0 : Int32)).toNatClampNeg) 0, S24.2.1, S24.2.2)) n else none := rfl
theorem B_129_55 {X : Nat × (Nat → Int32)} {d : Nat} (n : Nat) (x1 : Int32) (x2 : Int32) (x3 : Int32) (v24 : Int32) (S24 : St) : ex X d 129 121 [.ref 29, .int x1, .int x2, .int x3, .int v24, .retAddr 0] [] (hh (xa_u S24.1 40 (((0 : Int32)).toNatClampNeg) 0, S24.2.1, S24.2.2)) (n + 2) = ex X d 129 124 [.ref 29, .int x1, .int x2, .int x3, .int v24, .int 0] [] (hh (xa_u S24.1 40 (((0 : Int32)).toNatClampNeg) 0, S24.2.1, S24.2.2)) n := rfl
theorem B_129_56 {X : Nat × (Nat → Int32)} {d : Nat} (n : Nat) (x1 : Int32) (x2 : Int32) (x3 : Int32) (v24 : Int32) (S24 : St) : ex X d 129 99 [.ref 29, .int x1, .int x2, .int x3, .retAddr 0, .retAddr 0] [.int v24] (hh S24) (n + 3) = if v24 = 0 then ex X d 129 114 [.ref 29, .int x1, .int x2, .int x3, .int v24, .retAddr 0] [] (hh S24) n else ex X d 129 106 [.ref 29, .int x1, .int x2, .int x3, .int v24, .retAddr 0] [] (hh S24) n := rfl
theorem B_129_57 {X : Nat × (Nat → Int32)} {d : Nat} (n : Nat) (x1 : Int32) (x2 : Int32) (x3 : Int32) (v24 : Int32) (S24 : St) : ex X d 129 106 [.ref 29, .int x1, .int x2, .int x3, .int v24, .retAddr 0] [] (hh S24) (n + 3) = if (kd 29).1 = 10 + 8 ∧ (xf_k 8 30 = 0 ∨ (xf_k 8 30 = 1 ∧ ((1 : Int32) = 0 ∨ (1 : Int32) = 1))) then ex X d 129 111 [.ref 29, .int x1, .int x2, .int x3, .int v24, .retAddr 0] [] (hh (xa_u S24.1 29 30 1, S24.2.1, S24.2.2)) n else none := rfl
theorem B_129_58 {X : Nat × (Nat → Int32)} {d : Nat} (n : Nat) (x1 : Int32) (x2 : Int32) (x3 : Int32) (v13 : Int32) (S13 : St) : ex X d 129 36 [.ref 29, .int x1, .int x2, .int x3, .retAddr 0, .retAddr 0] [.int v13] (hh S13) (n + 1) = if v13 = 0 then ex X d 129 41 [.ref 29, .int x1, .int x2, .int x3, .retAddr 0, .retAddr 0] [] (hh S13) n else ex X d 129 39 [.ref 29, .int x1, .int x2, .int x3, .retAddr 0, .retAddr 0] [] (hh S13) n := rfl
theorem B_129_59 {X : Nat × (Nat → Int32)} {d : Nat} (n : Nat) (x1 : Int32) (x2 : Int32) (x3 : Int32) (v11 : Int32) (S11 : St) : ex X d 129 26 [.ref 29, .int x1, .int x2, .int x3, .retAddr 0, .retAddr 0] [.int v11] (hh S11) (n + 1) = if v11 = 0 then ex X d 129 29 [.ref 29, .int x1, .int x2, .int x3, .retAddr 0, .retAddr 0] [] (hh S11) n else ex X d 129 39 [.ref 29, .int x1, .int x2, .int x3, .retAddr 0, .retAddr 0] [] (hh S11) n := rfl
theorem B_129_60 {X : Nat × (Nat → Int32)} {d : Nat} (n : Nat) (x1 : Int32) (x2 : Int32) (x3 : Int32) (v9 : Int32) (S9 : St) : ex X d 129 15 [.ref 29, .int x1, .int x2, .int x3, .retAddr 0, .retAddr 0] [.int v9] (hh S9) (n + 1) = if v9 = 0 then ex X d 129 18 [.ref 29, .int x1, .int x2, .int x3, .retAddr 0, .retAddr 0] [] (hh S9) n else ex X d 129 39 [.ref 29, .int x1, .int x2, .int x3, .retAddr 0, .retAddr 0] [] (hh S9) n := rfl
theorem B_129_61 {X : Nat × (Nat → Int32)} {d : Nat} (n : Nat) (x1 : Int32) (x2 : Int32) (x3 : Int32) (S : St) : ex X d 129 0 [.ref 29, .int x1, .int x2, .int x3, .retAddr 0, .retAddr 0] [] (hh S) (n + 3) = if (S.1 29 30) = 0 then ex X d 129 7 [.ref 29, .int x1, .int x2, .int x3, .retAddr 0, .retAddr 0] [] (hh S) n else ex X d 129 39 [.ref 29, .int x1, .int x2, .int x3, .retAddr 0, .retAddr 0] [] (hh S) n := rfl
set_option maxRecDepth 200000 in
theorem T_129 {X : Nat × (Nat → Int32)} (S : St) (x1 : Int32) (x2 : Int32) (x3 : Int32) (r : Int32) (S' : St) (hG : G_129 S x1 x2 x3 = some (r, S')) : Ev X 8 129 0 [.ref 29, .int x1, .int x2, .int x3, .retAddr 0, .retAddr 0] [] (hh S) (xI r, hh S') := by
  unfold G_129 at hG
  by_cases c8 : (S.1 29 30) = 0
  · rw [if_pos c8] at hG
    refine Ev.t (c := (S.1 29 30) = 0) (p1 := 7) (L1 := [.ref 29, .int x1, .int x2, .int x3, .retAddr 0, .retAddr 0]) (s1 := []) (h1 := hh S) (p2 := 39) (L2 := [.ref 29, .int x1, .int x2, .int x3, .retAddr 0, .retAddr 0]) (s2 := []) (h2 := hh S) 3 (fun n => B_129_14 n x1 x2 x3 S) c8 ?_
    rcases h9 : G_115 S x1 (0 : Int32) (255 : Int32) with _ | ⟨v9, S9⟩
    · rw [h9] at hG; cases hG
    rw [h9] at hG
    dsimp only at hG
    refine Ev.c (a := 115) (A := [.int x1, .int 0, .int 255]) (h1 := hh S) (pc' := 15) (L' := [.ref 29, .int x1, .int x2, .int x3, .retAddr 0, .retAddr 0]) (rest := []) (r1 := some (.int v9)) (h2 := hh S9) 4 (fun n => B_129_15 n x1 x2 x3 S) (Ev.up (by decide) (T_115 S x1 (0 : Int32) (255 : Int32) _ _ h9)) ?_
    show Ev X _ 129 15 [.ref 29, .int x1, .int x2, .int x3, .retAddr 0, .retAddr 0] [.int v9] (hh S9) _
    by_cases c10 : v9 = 0
    · rw [if_pos c10] at hG
      refine Ev.t (c := v9 = 0) (p1 := 18) (L1 := [.ref 29, .int x1, .int x2, .int x3, .retAddr 0, .retAddr 0]) (s1 := []) (h1 := hh S9) (p2 := 39) (L2 := [.ref 29, .int x1, .int x2, .int x3, .retAddr 0, .retAddr 0]) (s2 := []) (h2 := hh S9) 1 (fun n => B_129_16 n x1 x2 x3 v9 S9) c10 ?_
      rcases h11 : G_115 S9 x3 (0 : Int32) (255 : Int32) with _ | ⟨v11, S11⟩
      · rw [h11] at hG; cases hG
      rw [h11] at hG
      dsimp only at hG
      refine Ev.c (a := 115) (A := [.int x3, .int 0, .int 255]) (h1 := hh S9) (pc' := 26) (L' := [.ref 29, .int x1, .int x2, .int x3, .retAddr 0, .retAddr 0]) (rest := []) (r1 := some (.int v11)) (h2 := hh S11) 4 (fun n => B_129_17 n x1 x2 x3 S9) (Ev.up (by decide) (T_115 S9 x3 (0 : Int32) (255 : Int32) _ _ h11)) ?_
      show Ev X _ 129 26 [.ref 29, .int x1, .int x2, .int x3, .retAddr 0, .retAddr 0] [.int v11] (hh S11) _
      by_cases c12 : v11 = 0
      · rw [if_pos c12] at hG
        refine Ev.t (c := v11 = 0) (p1 := 29) (L1 := [.ref 29, .int x1, .int x2, .int x3, .retAddr 0, .retAddr 0]) (s1 := []) (h1 := hh S11) (p2 := 39) (L2 := [.ref 29, .int x1, .int x2, .int x3, .retAddr 0, .retAddr 0]) (s2 := []) (h2 := hh S11) 1 (fun n => B_129_18 n x1 x2 x3 v11 S11) c12 ?_
        rcases h13 : G_115 S11 x2 (0 : Int32) (8 : Int32) with _ | ⟨v13, S13⟩
        · rw [h13] at hG; cases hG
        rw [h13] at hG
        dsimp only at hG
        refine Ev.c (a := 115) (A := [.int x2, .int 0, .int 8]) (h1 := hh S11) (pc' := 36) (L' := [.ref 29, .int x1, .int x2, .int x3, .retAddr 0, .retAddr 0]) (rest := []) (r1 := some (.int v13)) (h2 := hh S13) 4 (fun n => B_129_19 n x1 x2 x3 S11) (Ev.up (by decide) (T_115 S11 x2 (0 : Int32) (8 : Int32) _ _ h13)) ?_
        show Ev X _ 129 36 [.ref 29, .int x1, .int x2, .int x3, .retAddr 0, .retAddr 0] [.int v13] (hh S13) _
        by_cases c14 : v13 = 0
        · rw [if_pos c14] at hG
          refine Ev.t (c := v13 = 0) (p1 := 41) (L1 := [.ref 29, .int x1, .int x2, .int x3, .retAddr 0, .retAddr 0]) (s1 := []) (h1 := hh S13) (p2 := 39) (L2 := [.ref 29, .int x1, .int x2, .int x3, .retAddr 0, .retAddr 0]) (s2 := []) (h2 := hh S13) 1 (fun n => B_129_20 n x1 x2 x3 v13 S13) c14 ?_
          refine Ev.g (c := (kd 29).1 = 10 + 8 ∧ (xf_k 8 31 = 0 ∨ (xf_k 8 31 = 1 ∧ (((S13.1 29 31) + 1) = 0 ∨ ((S13.1 29 31) + 1) = 1)))) (p1 := 51) (L1 := [.ref 29, .int x1, .int x2, .int x3, .retAddr 0, .retAddr 0]) (s1 := []) (h1 := hh (xa_u S13.1 29 31 ((S13.1 29 31) + 1), S13.2.1, S13.2.2)) 6 (fun n => B_129_21 n x1 x2 x3 S13) (⟨rfl, Or.inl rfl⟩) ?_
          refine Ev.g (c := (kd 29).1 = 10 + 8 ∧ (xf_k 8 33 = 0 ∨ (xf_k 8 33 = 1 ∧ (x1 = 0 ∨ x1 = 1)))) (p1 := 56) (L1 := [.ref 29, .int x1, .int x2, .int x3, .retAddr 0, .retAddr 0]) (s1 := []) (h1 := hh (xa_u (xa_u S13.1 29 31 ((S13.1 29 31) + 1)) 29 33 x1, S13.2.1, S13.2.2)) 3 (fun n => B_129_22 n x1 x2 x3 S13) (⟨rfl, Or.inl rfl⟩) ?_
          refine Ev.g (c := (kd 29).1 = 10 + 8 ∧ (xf_k 8 7 = 0 ∨ (xf_k 8 7 = 1 ∧ (((-1) : Int32) = 0 ∨ ((-1) : Int32) = 1)))) (p1 := 61) (L1 := [.ref 29, .int x1, .int x2, .int x3, .retAddr 0, .retAddr 0]) (s1 := []) (h1 := hh (xa_u (xa_u (xa_u S13.1 29 31 ((S13.1 29 31) + 1)) 29 33 x1) 29 7 (-1), S13.2.1, S13.2.2)) 3 (fun n => B_129_23 n x1 x2 x3 S13) (⟨rfl, Or.inl rfl⟩) ?_
          by_cases c15 : x2 = 0
          · rw [if_pos c15] at hG
            refine Ev.t (c := x2 = 0) (p1 := 95) (L1 := [.ref 29, .int x1, .int x2, .int x3, .retAddr 0, .retAddr 0]) (s1 := []) (h1 := hh (xa_u (xa_u (xa_u S13.1 29 31 ((S13.1 29 31) + 1)) 29 33 x1) 29 7 (-1), S13.2.1, S13.2.2)) (p2 := 65) (L2 := [.ref 29, .int x1, .int x2, .int x3, .retAddr 0, .retAddr 0]) (s2 := []) (h2 := hh (xa_u (xa_u (xa_u S13.1 29 31 ((S13.1 29 31) + 1)) 29 33 x1) 29 7 (-1), S13.2.1, S13.2.2)) 2 (fun n => B_129_24 n x1 x2 x3 S13) c15 ?_
            rcases h16 : G_130 (xa_u (xa_u (xa_u S13.1 29 31 ((S13.1 29 31) + 1)) 29 33 x1) 29 7 (-1), S13.2.1, S13.2.2) with _ | ⟨v16, S16⟩
            · rw [h16] at hG; cases hG
            rw [h16] at hG
            dsimp only at hG
            refine Ev.c (a := 130) (A := [.ref 29, .retAddr 0, .retAddr 0]) (h1 := hh (xa_u (xa_u (xa_u S13.1 29 31 ((S13.1 29 31) + 1)) 29 33 x1) 29 7 (-1), S13.2.1, S13.2.2)) (pc' := 99) (L' := [.ref 29, .int x1, .int x2, .int x3, .retAddr 0, .retAddr 0]) (rest := []) (r1 := some (.int v16)) (h2 := hh S16) 2 (fun n => B_129_25 n x1 x2 x3 S13) (Ev.up (by decide) (T_130 (xa_u (xa_u (xa_u S13.1 29 31 ((S13.1 29 31) + 1)) 29 33 x1) 29 7 (-1), S13.2.1, S13.2.2)  _ _ h16)) ?_
            show Ev X _ 129 99 [.ref 29, .int x1, .int x2, .int x3, .retAddr 0, .retAddr 0] [.int v16] (hh S16) _
            by_cases c17 : v16 = 0
            · rw [if_pos c17] at hG
              refine Ev.t (c := v16 = 0) (p1 := 114) (L1 := [.ref 29, .int x1, .int x2, .int x3, .int v16, .retAddr 0]) (s1 := []) (h1 := hh S16) (p2 := 106) (L2 := [.ref 29, .int x1, .int x2, .int x3, .int v16, .retAddr 0]) (s2 := []) (h2 := hh S16) 3 (fun n => B_129_26 n x1 x2 x3 v16 S16) c17 ?_
              refine Ev.g (c := (kd 40).1 = 0 ∧ xa_in (0 : Int32) (kd 40).2) (p1 := 121) (L1 := [.ref 29, .int x1, .int x2, .int x3, .int v16, .retAddr 0]) (s1 := []) (h1 := hh (xa_u S16.1 40 (((0 : Int32)).toNatClampNeg) 0, S16.2.1, S16.2.2)) 5 (fun n => B_129_27 n x1 x2 x3 v16 S16) (⟨rfl, by decide⟩) ?_
              exact Ev.b (pc' := 124) (L' := [.ref 29, .int x1, .int x2, .int x3, .int v16, .int 0]) (st' := []) (h' := hh (xa_u S16.1 40 (((0 : Int32)).toNatClampNeg) 0, S16.2.1, S16.2.2)) 2 (fun n => B_129_28 n x1 x2 x3 v16 S16) (TL_129_0 xFu (xa_u S16.1 40 (((0 : Int32)).toNatClampNeg) 0, S16.2.1, S16.2.2) x3 (0 : Int32) _ _ hG (.int x1) (.int x2) (.int v16))
            · rw [if_neg c17] at hG
              refine Ev.f (c := v16 = 0) (p1 := 114) (L1 := [.ref 29, .int x1, .int x2, .int x3, .int v16, .retAddr 0]) (s1 := []) (h1 := hh S16) (p2 := 106) (L2 := [.ref 29, .int x1, .int x2, .int x3, .int v16, .retAddr 0]) (s2 := []) (h2 := hh S16) 3 (fun n => B_129_29 n x1 x2 x3 v16 S16) c17 ?_
              refine Ev.g (c := (kd 29).1 = 10 + 8 ∧ (xf_k 8 30 = 0 ∨ (xf_k 8 30 = 1 ∧ ((1 : Int32) = 0 ∨ (1 : Int32) = 1)))) (p1 := 111) (L1 := [.ref 29, .int x1, .int x2, .int x3, .int v16, .retAddr 0]) (s1 := []) (h1 := hh (xa_u S16.1 29 30 1, S16.2.1, S16.2.2)) 3 (fun n => B_129_30 n x1 x2 x3 v16 S16) (⟨rfl, Or.inr ⟨rfl, by decide⟩⟩) ?_
              obtain ⟨e1, e2⟩ := Prod.mk.inj (Option.some.inj hG)
              subst e1
              subst e2
              exact Ev.r 2 (fun n => rfl)
          · rw [if_neg c15] at hG
            refine Ev.f (c := x2 = 0) (p1 := 95) (L1 := [.ref 29, .int x1, .int x2, .int x3, .retAddr 0, .retAddr 0]) (s1 := []) (h1 := hh (xa_u (xa_u (xa_u S13.1 29 31 ((S13.1 29 31) + 1)) 29 33 x1) 29 7 (-1), S13.2.1, S13.2.2)) (p2 := 65) (L2 := [.ref 29, .int x1, .int x2, .int x3, .retAddr 0, .retAddr 0]) (s2 := []) (h2 := hh (xa_u (xa_u (xa_u S13.1 29 31 ((S13.1 29 31) + 1)) 29 33 x1) 29 7 (-1), S13.2.1, S13.2.2)) 2 (fun n => B_129_31 n x1 x2 x3 S13) c15 ?_
            refine Ev.g (c := (kd 47).1 = 0 ∧ xa_in (0 : Int32) (kd 47).2) (p1 := 71) (L1 := [.ref 29, .int x1, .int x2, .int x3, .retAddr 0, .retAddr 0]) (s1 := [.int ((xa_u (xa_u (xa_u S13.1 29 31 ((S13.1 29 31) + 1)) 29 33 x1) 29 7 (-1)) 47 ((0 : Int32)).toNatClampNeg)]) (h1 := hh (xa_u (xa_u (xa_u S13.1 29 31 ((S13.1 29 31) + 1)) 29 33 x1) 29 7 (-1), S13.2.1, S13.2.2)) 4 (fun n => B_129_32 n x1 x2 x3 S13) (⟨rfl, by decide⟩) ?_
            by_cases c18 : ((xa_u (xa_u (xa_u S13.1 29 31 ((S13.1 29 31) + 1)) 29 33 x1) 29 7 (-1)) 47 ((0 : Int32)).toNatClampNeg) = 0
            · rw [if_pos c18] at hG
              refine Ev.t (c := ((xa_u (xa_u (xa_u S13.1 29 31 ((S13.1 29 31) + 1)) 29 33 x1) 29 7 (-1)) 47 ((0 : Int32)).toNatClampNeg) = 0) (p1 := 74) (L1 := [.ref 29, .int x1, .int x2, .int x3, .retAddr 0, .retAddr 0]) (s1 := []) (h1 := hh (xa_u (xa_u (xa_u S13.1 29 31 ((S13.1 29 31) + 1)) 29 33 x1) 29 7 (-1), S13.2.1, S13.2.2)) (p2 := 95) (L2 := [.ref 29, .int x1, .int x2, .int x3, .retAddr 0, .retAddr 0]) (s2 := []) (h2 := hh (xa_u (xa_u (xa_u S13.1 29 31 ((S13.1 29 31) + 1)) 29 33 x1) 29 7 (-1), S13.2.1, S13.2.2)) 1 (fun n => B_129_33 n x1 x2 x3 S13) c18 ?_
              refine Ev.g (c := (kd 46).1 = 0 ∧ xa_in (0 : Int32) (kd 46).2) (p1 := 85) (L1 := [.ref 29, .int x1, .int x2, .int x3, .retAddr 0, .retAddr 0]) (s1 := [.int ((xa_u (xa_u (xa_u S13.1 29 31 ((S13.1 29 31) + 1)) 29 33 x1) 29 7 (-1)) 46 ((0 : Int32)).toNatClampNeg), .int 0, .ref 46]) (h1 := hh (xa_u (xa_u (xa_u S13.1 29 31 ((S13.1 29 31) + 1)) 29 33 x1) 29 7 (-1), S13.2.1, S13.2.2)) 7 (fun n => B_129_34 n x1 x2 x3 S13) (⟨rfl, by decide⟩) ?_
              by_cases c19 : ((xa_u (xa_u (xa_u S13.1 29 31 ((S13.1 29 31) + 1)) 29 33 x1) 29 7 (-1)) 46 ((0 : Int32)).toNatClampNeg) = x2
              · rw [if_pos c19] at hG
                refine Ev.t (c := ((xa_u (xa_u (xa_u S13.1 29 31 ((S13.1 29 31) + 1)) 29 33 x1) 29 7 (-1)) 46 ((0 : Int32)).toNatClampNeg) = x2) (p1 := 89) (L1 := [.ref 29, .int x1, .int x2, .int x3, .retAddr 0, .retAddr 0]) (s1 := [.int 0, .ref 46]) (h1 := hh (xa_u (xa_u (xa_u S13.1 29 31 ((S13.1 29 31) + 1)) 29 33 x1) 29 7 (-1), S13.2.1, S13.2.2)) (p2 := 93) (L2 := [.ref 29, .int x1, .int x2, .int x3, .retAddr 0, .retAddr 0]) (s2 := [.int 0, .ref 46]) (h2 := hh (xa_u (xa_u (xa_u S13.1 29 31 ((S13.1 29 31) + 1)) 29 33 x1) 29 7 (-1), S13.2.1, S13.2.2)) 2 (fun n => B_129_35 n x1 x2 x3 S13) c19 ?_
                refine Ev.g (c := (kd 46).1 = 0 ∧ xa_in (0 : Int32) (kd 46).2) (p1 := 95) (L1 := [.ref 29, .int x1, .int x2, .int x3, .retAddr 0, .retAddr 0]) (s1 := []) (h1 := hh (xa_u (xa_u (xa_u (xa_u S13.1 29 31 ((S13.1 29 31) + 1)) 29 33 x1) 29 7 (-1)) 46 (((0 : Int32)).toNatClampNeg) 0, S13.2.1, S13.2.2)) 3 (fun n => B_129_36 n x1 x2 x3 S13) (⟨rfl, by decide⟩) ?_
                rcases h20 : G_130 (xa_u (xa_u (xa_u (xa_u S13.1 29 31 ((S13.1 29 31) + 1)) 29 33 x1) 29 7 (-1)) 46 (((0 : Int32)).toNatClampNeg) 0, S13.2.1, S13.2.2) with _ | ⟨v20, S20⟩
                · rw [h20] at hG; cases hG
                rw [h20] at hG
                dsimp only at hG
                refine Ev.c (a := 130) (A := [.ref 29, .retAddr 0, .retAddr 0]) (h1 := hh (xa_u (xa_u (xa_u (xa_u S13.1 29 31 ((S13.1 29 31) + 1)) 29 33 x1) 29 7 (-1)) 46 (((0 : Int32)).toNatClampNeg) 0, S13.2.1, S13.2.2)) (pc' := 99) (L' := [.ref 29, .int x1, .int x2, .int x3, .retAddr 0, .retAddr 0]) (rest := []) (r1 := some (.int v20)) (h2 := hh S20) 2 (fun n => B_129_37 n x1 x2 x3 S13) (Ev.up (by decide) (T_130 (xa_u (xa_u (xa_u (xa_u S13.1 29 31 ((S13.1 29 31) + 1)) 29 33 x1) 29 7 (-1)) 46 (((0 : Int32)).toNatClampNeg) 0, S13.2.1, S13.2.2)  _ _ h20)) ?_
                show Ev X _ 129 99 [.ref 29, .int x1, .int x2, .int x3, .retAddr 0, .retAddr 0] [.int v20] (hh S20) _
                by_cases c21 : v20 = 0
                · rw [if_pos c21] at hG
                  refine Ev.t (c := v20 = 0) (p1 := 114) (L1 := [.ref 29, .int x1, .int x2, .int x3, .int v20, .retAddr 0]) (s1 := []) (h1 := hh S20) (p2 := 106) (L2 := [.ref 29, .int x1, .int x2, .int x3, .int v20, .retAddr 0]) (s2 := []) (h2 := hh S20) 3 (fun n => B_129_38 n x1 x2 x3 v20 S20) c21 ?_
                  refine Ev.g (c := (kd 40).1 = 0 ∧ xa_in (0 : Int32) (kd 40).2) (p1 := 121) (L1 := [.ref 29, .int x1, .int x2, .int x3, .int v20, .retAddr 0]) (s1 := []) (h1 := hh (xa_u S20.1 40 (((0 : Int32)).toNatClampNeg) 0, S20.2.1, S20.2.2)) 5 (fun n => B_129_39 n x1 x2 x3 v20 S20) (⟨rfl, by decide⟩) ?_
                  exact Ev.b (pc' := 124) (L' := [.ref 29, .int x1, .int x2, .int x3, .int v20, .int 0]) (st' := []) (h' := hh (xa_u S20.1 40 (((0 : Int32)).toNatClampNeg) 0, S20.2.1, S20.2.2)) 2 (fun n => B_129_40 n x1 x2 x3 v20 S20) (TL_129_0 xFu (xa_u S20.1 40 (((0 : Int32)).toNatClampNeg) 0, S20.2.1, S20.2.2) x3 (0 : Int32) _ _ hG (.int x1) (.int x2) (.int v20))
                · rw [if_neg c21] at hG
                  refine Ev.f (c := v20 = 0) (p1 := 114) (L1 := [.ref 29, .int x1, .int x2, .int x3, .int v20, .retAddr 0]) (s1 := []) (h1 := hh S20) (p2 := 106) (L2 := [.ref 29, .int x1, .int x2, .int x3, .int v20, .retAddr 0]) (s2 := []) (h2 := hh S20) 3 (fun n => B_129_41 n x1 x2 x3 v20 S20) c21 ?_
                  refine Ev.g (c := (kd 29).1 = 10 + 8 ∧ (xf_k 8 30 = 0 ∨ (xf_k 8 30 = 1 ∧ ((1 : Int32) = 0 ∨ (1 : Int32) = 1)))) (p1 := 111) (L1 := [.ref 29, .int x1, .int x2, .int x3, .int v20, .retAddr 0]) (s1 := []) (h1 := hh (xa_u S20.1 29 30 1, S20.2.1, S20.2.2)) 3 (fun n => B_129_42 n x1 x2 x3 v20 S20) (⟨rfl, Or.inr ⟨rfl, by decide⟩⟩) ?_
                  obtain ⟨e1, e2⟩ := Prod.mk.inj (Option.some.inj hG)
                  subst e1
                  subst e2
                  exact Ev.r 2 (fun n => rfl)
              · rw [if_neg c19] at hG
                refine Ev.f (c := ((xa_u (xa_u (xa_u S13.1 29 31 ((S13.1 29 31) + 1)) 29 33 x1) 29 7 (-1)) 46 ((0 : Int32)).toNatClampNeg) = x2) (p1 := 89) (L1 := [.ref 29, .int x1, .int x2, .int x3, .retAddr 0, .retAddr 0]) (s1 := [.int 0, .ref 46]) (h1 := hh (xa_u (xa_u (xa_u S13.1 29 31 ((S13.1 29 31) + 1)) 29 33 x1) 29 7 (-1), S13.2.1, S13.2.2)) (p2 := 93) (L2 := [.ref 29, .int x1, .int x2, .int x3, .retAddr 0, .retAddr 0]) (s2 := [.int 0, .ref 46]) (h2 := hh (xa_u (xa_u (xa_u S13.1 29 31 ((S13.1 29 31) + 1)) 29 33 x1) 29 7 (-1), S13.2.1, S13.2.2)) 2 (fun n => B_129_43 n x1 x2 x3 S13) c19 ?_
                refine Ev.g (c := (kd 46).1 = 0 ∧ xa_in (0 : Int32) (kd 46).2) (p1 := 95) (L1 := [.ref 29, .int x1, .int x2, .int x3, .retAddr 0, .retAddr 0]) (s1 := []) (h1 := hh (xa_u (xa_u (xa_u (xa_u S13.1 29 31 ((S13.1 29 31) + 1)) 29 33 x1) 29 7 (-1)) 46 (((0 : Int32)).toNatClampNeg) x2, S13.2.1, S13.2.2)) 2 (fun n => B_129_44 n x1 x2 x3 S13) (⟨rfl, by decide⟩) ?_
                rcases h22 : G_130 (xa_u (xa_u (xa_u (xa_u S13.1 29 31 ((S13.1 29 31) + 1)) 29 33 x1) 29 7 (-1)) 46 (((0 : Int32)).toNatClampNeg) x2, S13.2.1, S13.2.2) with _ | ⟨v22, S22⟩
                · rw [h22] at hG; cases hG
                rw [h22] at hG
                dsimp only at hG
                refine Ev.c (a := 130) (A := [.ref 29, .retAddr 0, .retAddr 0]) (h1 := hh (xa_u (xa_u (xa_u (xa_u S13.1 29 31 ((S13.1 29 31) + 1)) 29 33 x1) 29 7 (-1)) 46 (((0 : Int32)).toNatClampNeg) x2, S13.2.1, S13.2.2)) (pc' := 99) (L' := [.ref 29, .int x1, .int x2, .int x3, .retAddr 0, .retAddr 0]) (rest := []) (r1 := some (.int v22)) (h2 := hh S22) 2 (fun n => B_129_45 n x1 x2 x3 S13) (Ev.up (by decide) (T_130 (xa_u (xa_u (xa_u (xa_u S13.1 29 31 ((S13.1 29 31) + 1)) 29 33 x1) 29 7 (-1)) 46 (((0 : Int32)).toNatClampNeg) x2, S13.2.1, S13.2.2)  _ _ h22)) ?_
                show Ev X _ 129 99 [.ref 29, .int x1, .int x2, .int x3, .retAddr 0, .retAddr 0] [.int v22] (hh S22) _
                by_cases c23 : v22 = 0
                · rw [if_pos c23] at hG
                  refine Ev.t (c := v22 = 0) (p1 := 114) (L1 := [.ref 29, .int x1, .int x2, .int x3, .int v22, .retAddr 0]) (s1 := []) (h1 := hh S22) (p2 := 106) (L2 := [.ref 29, .int x1, .int x2, .int x3, .int v22, .retAddr 0]) (s2 := []) (h2 := hh S22) 3 (fun n => B_129_46 n x1 x2 x3 v22 S22) c23 ?_
                  refine Ev.g (c := (kd 40).1 = 0 ∧ xa_in (0 : Int32) (kd 40).2) (p1 := 121) (L1 := [.ref 29, .int x1, .int x2, .int x3, .int v22, .retAddr 0]) (s1 := []) (h1 := hh (xa_u S22.1 40 (((0 : Int32)).toNatClampNeg) 0, S22.2.1, S22.2.2)) 5 (fun n => B_129_47 n x1 x2 x3 v22 S22) (⟨rfl, by decide⟩) ?_
                  exact Ev.b (pc' := 124) (L' := [.ref 29, .int x1, .int x2, .int x3, .int v22, .int 0]) (st' := []) (h' := hh (xa_u S22.1 40 (((0 : Int32)).toNatClampNeg) 0, S22.2.1, S22.2.2)) 2 (fun n => B_129_48 n x1 x2 x3 v22 S22) (TL_129_0 xFu (xa_u S22.1 40 (((0 : Int32)).toNatClampNeg) 0, S22.2.1, S22.2.2) x3 (0 : Int32) _ _ hG (.int x1) (.int x2) (.int v22))
                · rw [if_neg c23] at hG
                  refine Ev.f (c := v22 = 0) (p1 := 114) (L1 := [.ref 29, .int x1, .int x2, .int x3, .int v22, .retAddr 0]) (s1 := []) (h1 := hh S22) (p2 := 106) (L2 := [.ref 29, .int x1, .int x2, .int x3, .int v22, .retAddr 0]) (s2 := []) (h2 := hh S22) 3 (fun n => B_129_49 n x1 x2 x3 v22 S22) c23 ?_
                  refine Ev.g (c := (kd 29).1 = 10 + 8 ∧ (xf_k 8 30 = 0 ∨ (xf_k 8 30 = 1 ∧ ((1 : Int32) = 0 ∨ (1 : Int32) = 1)))) (p1 := 111) (L1 := [.ref 29, .int x1, .int x2, .int x3, .int v22, .retAddr 0]) (s1 := []) (h1 := hh (xa_u S22.1 29 30 1, S22.2.1, S22.2.2)) 3 (fun n => B_129_50 n x1 x2 x3 v22 S22) (⟨rfl, Or.inr ⟨rfl, by decide⟩⟩) ?_
                  obtain ⟨e1, e2⟩ := Prod.mk.inj (Option.some.inj hG)
                  subst e1
                  subst e2
                  exact Ev.r 2 (fun n => rfl)
            · rw [if_neg c18] at hG
              refine Ev.f (c := ((xa_u (xa_u (xa_u S13.1 29 31 ((S13.1 29 31) + 1)) 29 33 x1) 29 7 (-1)) 47 ((0 : Int32)).toNatClampNeg) = 0) (p1 := 74) (L1 := [.ref 29, .int x1, .int x2, .int x3, .retAddr 0, .retAddr 0]) (s1 := []) (h1 := hh (xa_u (xa_u (xa_u S13.1 29 31 ((S13.1 29 31) + 1)) 29 33 x1) 29 7 (-1), S13.2.1, S13.2.2)) (p2 := 95) (L2 := [.ref 29, .int x1, .int x2, .int x3, .retAddr 0, .retAddr 0]) (s2 := []) (h2 := hh (xa_u (xa_u (xa_u S13.1 29 31 ((S13.1 29 31) + 1)) 29 33 x1) 29 7 (-1), S13.2.1, S13.2.2)) 1 (fun n => B_129_51 n x1 x2 x3 S13) c18 ?_
              rcases h24 : G_130 (xa_u (xa_u (xa_u S13.1 29 31 ((S13.1 29 31) + 1)) 29 33 x1) 29 7 (-1), S13.2.1, S13.2.2) with _ | ⟨v24, S24⟩
              · rw [h24] at hG; cases hG
              rw [h24] at hG
              dsimp only at hG
              refine Ev.c (a := 130) (A := [.ref 29, .retAddr 0, .retAddr 0]) (h1 := hh (xa_u (xa_u (xa_u S13.1 29 31 ((S13.1 29 31) + 1)) 29 33 x1) 29 7 (-1), S13.2.1, S13.2.2)) (pc' := 99) (L' := [.ref 29, .int x1, .int x2, .int x3, .retAddr 0, .retAddr 0]) (rest := []) (r1 := some (.int v24)) (h2 := hh S24) 2 (fun n => B_129_52 n x1 x2 x3 S13) (Ev.up (by decide) (T_130 (xa_u (xa_u (xa_u S13.1 29 31 ((S13.1 29 31) + 1)) 29 33 x1) 29 7 (-1), S13.2.1, S13.2.2)  _ _ h24)) ?_
              show Ev X _ 129 99 [.ref 29, .int x1, .int x2, .int x3, .retAddr 0, .retAddr 0] [.int v24] (hh S24) _
              by_cases c25 : v24 = 0
              · rw [if_pos c25] at hG
                refine Ev.t (c := v24 = 0) (p1 := 114) (L1 := [.ref 29, .int x1, .int x2, .int x3, .int v24, .retAddr 0]) (s1 := []) (h1 := hh S24) (p2 := 106) (L2 := [.ref 29, .int x1, .int x2, .int x3, .int v24, .retAddr 0]) (s2 := []) (h2 := hh S24) 3 (fun n => B_129_53 n x1 x2 x3 v24 S24) c25 ?_
                refine Ev.g (c := (kd 40).1 = 0 ∧ xa_in (0 : Int32) (kd 40).2) (p1 := 121) (L1 := [.ref 29, .int x1, .int x2, .int x3, .int v24, .retAddr 0]) (s1 := []) (h1 := hh (xa_u S24.1 40 (((0 : Int32)).toNatClampNeg) 0, S24.2.1, S24.2.2)) 5 (fun n => B_129_54 n x1 x2 x3 v24 S24) (⟨rfl, by decide⟩) ?_
                exact Ev.b (pc' := 124) (L' := [.ref 29, .int x1, .int x2, .int x3, .int v24, .int 0]) (st' := []) (h' := hh (xa_u S24.1 40 (((0 : Int32)).toNatClampNeg) 0, S24.2.1, S24.2.2)) 2 (fun n => B_129_55 n x1 x2 x3 v24 S24) (TL_129_0 xFu (xa_u S24.1 40 (((0 : Int32)).toNatClampNeg) 0, S24.2.1, S24.2.2) x3 (0 : Int32) _ _ hG (.int x1) (.int x2) (.int v24))
              · rw [if_neg c25] at hG
                refine Ev.f (c := v24 = 0) (p1 := 114) (L1 := [.ref 29, .int x1, .int x2, .int x3, .int v24, .retAddr 0]) (s1 := []) (h1 := hh S24) (p2 := 106) (L2 := [.ref 29, .int x1, .int x2, .int x3, .int v24, .retAddr 0]) (s2 := []) (h2 := hh S24) 3 (fun n => B_129_56 n x1 x2 x3 v24 S24) c25 ?_
                refine Ev.g (c := (kd 29).1 = 10 + 8 ∧ (xf_k 8 30 = 0 ∨ (xf_k 8 30 = 1 ∧ ((1 : Int32) = 0 ∨ (1 : Int32) = 1)))) (p1 := 111) (L1 := [.ref 29, .int x1, .int x2, .int x3, .int v24, .retAddr 0]) (s1 := []) (h1 := hh (xa_u S24.1 29 30 1, S24.2.1, S24.2.2)) 3 (fun n => B_129_57 n x1 x2 x3 v24 S24) (⟨rfl, Or.inr ⟨rfl, by decide⟩⟩) ?_
                obtain ⟨e1, e2⟩ := Prod.mk.inj (Option.some.inj hG)
                subst e1
                subst e2
                exact Ev.r 2 (fun n => rfl)
        · rw [if_neg c14] at hG
          refine Ev.f (c := v13 = 0) (p1 := 41) (L1 := [.ref 29, .int x1, .int x2, .int x3, .retAddr 0, .retAddr 0]) (s1 := []) (h1 := hh S13) (p2 := 39) (L2 := [.ref 29, .int x1, .int x2, .int x3, .retAddr 0, .retAddr 0]) (s2 := []) (h2 := hh S13) 1 (fun n => B_129_58 n x1 x2 x3 v13 S13) c14 ?_
          obtain ⟨e1, e2⟩ := Prod.mk.inj (Option.some.inj hG)
          subst e1
          subst e2
          exact Ev.r 2 (fun n => rfl)
      · rw [if_neg c12] at hG
        refine Ev.f (c := v11 = 0) (p1 := 29) (L1 := [.ref 29, .int x1, .int x2, .int x3, .retAddr 0, .retAddr 0]) (s1 := []) (h1 := hh S11) (p2 := 39) (L2 := [.ref 29, .int x1, .int x2, .int x3, .retAddr 0, .retAddr 0]) (s2 := []) (h2 := hh S11) 1 (fun n => B_129_59 n x1 x2 x3 v11 S11) c12 ?_
        obtain ⟨e1, e2⟩ := Prod.mk.inj (Option.some.inj hG)
        subst e1
        subst e2
        exact Ev.r 2 (fun n => rfl)
    · rw [if_neg c10] at hG
      refine Ev.f (c := v9 = 0) (p1 := 18) (L1 := [.ref 29, .int x1, .int x2, .int x3, .retAddr 0, .retAddr 0]) (s1 := []) (h1 := hh S9) (p2 := 39) (L2 := [.ref 29, .int x1, .int x2, .int x3, .retAddr 0, .retAddr 0]) (s2 := []) (h2 := hh S9) 1 (fun n => B_129_60 n x1 x2 x3 v9 S9) c10 ?_
      obtain ⟨e1, e2⟩ := Prod.mk.inj (Option.some.inj hG)
      subst e1
      subst e2
      exact Ev.r 2 (fun n => rfl)
  · rw [if_neg c8] at hG
    refine Ev.f (c := (S.1 29 30) = 0) (p1 := 7) (L1 := [.ref 29, .int x1, .int x2, .int x3, .retAddr 0, .retAddr 0]) (s1 := []) (h1 := hh S) (p2 := 39) (L2 := [.ref 29, .int x1, .int x2, .int x3, .retAddr 0, .retAddr 0]) (s2 := []) (h2 := hh S) 3 (fun n => B_129_61 n x1 x2 x3 S) c8 ?_
    obtain ⟨e1, e2⟩ := Prod.mk.inj (Option.some.inj hG)
    subst e1
    subst e2
    exact Ev.r 2 (fun n => rfl)
/-- 156: SceneCycleModel.cycles()I -/
def G_156 (S : St)  : Option (Int32 × St) :=
  some ((S.1 29 31), S)
set_option maxRecDepth 200000 in
theorem T_156 {X : Nat × (Nat → Int32)} (S : St)  (r : Int32) (S' : St) (hG : G_156 S  = some (r, S')) : Ev X 0 156 0 [.ref 29] [] (hh S) (xI r, hh S') := by
  unfold G_156 at hG
  obtain ⟨e1, e2⟩ := Prod.mk.inj (Option.some.inj hG)
  subst e1
  subst e2
  exact Ev.r 3 (fun n => rfl)
/-- 157: SceneCycleModel.steps()I -/
def G_157 (S : St)  : Option (Int32 × St) :=
  some ((S.1 29 32), S)
set_option maxRecDepth 200000 in
theorem T_157 {X : Nat × (Nat → Int32)} (S : St)  (r : Int32) (S' : St) (hG : G_157 S  = some (r, S')) : Ev X 0 157 0 [.ref 29] [] (hh S) (xI r, hh S') := by
  unfold G_157 at hG
  obtain ⟨e1, e2⟩ := Prod.mk.inj (Option.some.inj hG)
  subst e1
  subst e2
  exact Ev.r 3 (fun n => rfl)
/-- 158: SceneCycleModel.variable(I)I -/
def G_158 (S : St) (x1 : Int32) : Option (Int32 × St) :=
  (match G_115 S x1 (0 : Int32) (15 : Int32) with
  | none => none
  | some (v1, S1) =>
    (if v1 = 0 then
      (if xa_in x1 16 then
        some ((S1.1 40 (x1).toNatClampNeg), S1)
      else none)
    else
      some ((-1), S1)
    )
  )
theorem B_158_1 {X : Nat × (Nat → Int32)} {d : Nat} (n : Nat) (x1 : Int32) (S : St) : ex X (d + 1) 158 0 [.ref 29, .int x1] [] (hh S) (n + 4) = (match ex X d 115 0 [.int x1, .int 0, .int 15] [] (hh S) n with | some (v, h') => ex X (d + 1) 158 7 [.ref 29, .int x1] (v.toList ++ []) h' n | none => none) := rfl
theorem B_158_2 {X : Nat × (Nat → Int32)} {d : Nat} (n : Nat) (x1 : Int32) (v1 : Int32) (S1 : St) : ex X d 158 7 [.ref 29, .int x1] [.int v1] (hh S1) (n + 1) = if v1 = 0 then ex X d 158 14 [.ref 29, .int x1] [] (hh S1) n else ex X d 158 10 [.ref 29, .int x1] [] (hh S1) n := rfl
theorem B_158_3 {X : Nat × (Nat → Int32)} {d : Nat} (n : Nat) (x1 : Int32) (S1 : St) : ex X d 158 14 [.ref 29, .int x1] [] (hh S1) (n + 4) = if (kd 40).1 = 0 ∧ xa_in x1 (kd 40).2 then ex X d 158 20 [.ref 29, .int x1] [.int (S1.1 40 (x1).toNatClampNeg)] (hh S1) n else none := rfl
theorem B_158_4 {X : Nat × (Nat → Int32)} {d : Nat} (n : Nat) (x1 : Int32) (v1 : Int32) (S1 : St) : ex X d 158 7 [.ref 29, .int x1] [.int v1] (hh S1) (n + 1) = if v1 = 0 then ex X d 158 14 [.ref 29, .int x1] [] (hh S1) n else ex X d 158 10 [.ref 29, .int x1] [] (hh S1) n := rfl
set_option maxRecDepth 200000 in
theorem T_158 {X : Nat × (Nat → Int32)} (S : St) (x1 : Int32) (r : Int32) (S' : St) (hG : G_158 S x1 = some (r, S')) : Ev X 1 158 0 [.ref 29, .int x1] [] (hh S) (xI r, hh S') := by
  unfold G_158 at hG
  rcases h1 : G_115 S x1 (0 : Int32) (15 : Int32) with _ | ⟨v1, S1⟩
  · rw [h1] at hG; cases hG
  rw [h1] at hG
  dsimp only at hG
  refine Ev.c (a := 115) (A := [.int x1, .int 0, .int 15]) (h1 := hh S) (pc' := 7) (L' := [.ref 29, .int x1]) (rest := []) (r1 := some (.int v1)) (h2 := hh S1) 4 (fun n => B_158_1 n x1 S) (Ev.up (by decide) (T_115 S x1 (0 : Int32) (15 : Int32) _ _ h1)) ?_
  show Ev X _ 158 7 [.ref 29, .int x1] [.int v1] (hh S1) _
  by_cases c2 : v1 = 0
  · rw [if_pos c2] at hG
    refine Ev.t (c := v1 = 0) (p1 := 14) (L1 := [.ref 29, .int x1]) (s1 := []) (h1 := hh S1) (p2 := 10) (L2 := [.ref 29, .int x1]) (s2 := []) (h2 := hh S1) 1 (fun n => B_158_2 n x1 v1 S1) c2 ?_
    by_cases g3 : xa_in x1 16
    rotate_left
    · rw [if_neg g3] at hG; cases hG
    rw [if_pos g3] at hG
    refine Ev.g (c := (kd 40).1 = 0 ∧ xa_in x1 (kd 40).2) (p1 := 20) (L1 := [.ref 29, .int x1]) (s1 := [.int (S1.1 40 (x1).toNatClampNeg)]) (h1 := hh S1) 4 (fun n => B_158_3 n x1 S1) (⟨rfl, g3⟩) ?_
    obtain ⟨e1, e2⟩ := Prod.mk.inj (Option.some.inj hG)
    subst e1
    subst e2
    exact Ev.r 1 (fun n => rfl)
  · rw [if_neg c2] at hG
    refine Ev.f (c := v1 = 0) (p1 := 14) (L1 := [.ref 29, .int x1]) (s1 := []) (h1 := hh S1) (p2 := 10) (L2 := [.ref 29, .int x1]) (s2 := []) (h2 := hh S1) 1 (fun n => B_158_4 n x1 v1 S1) c2 ?_
    obtain ⟨e1, e2⟩ := Prod.mk.inj (Option.some.inj hG)
    subst e1
    subst e2
    exact Ev.r 3 (fun n => rfl)
/-- 159: SceneCycleModel.give(II)Z -/
def G_159 (S : St) (x1 : Int32) (x2 : Int32) : Option (Int32 × St) :=
  (match G_115 S x1 (0 : Int32) (15 : Int32) with
  | none => none
  | some (v1, S1) =>
    (if v1 = 0 then
      (match G_115 S1 x2 (0 : Int32) (255 : Int32) with
      | none => none
      | some (v3, S3) =>
        (if v3 = 0 then
          (if xa_in x1 16 then
            some (1, (xa_u S3.1 40 ((x1).toNatClampNeg) x2, S3.2.1, S3.2.2))
          else none)
        else
          some (0, S3)
        )
      )
    else
      some (0, S1)
    )
  )
theorem B_159_1 {X : Nat × (Nat → Int32)} {d : Nat} (n : Nat) (x1 : Int32) (x2 : Int32) (S : St) : ex X (d + 1) 159 0 [.ref 29, .int x1, .int x2] [] (hh S) (n + 4) = (match ex X d 115 0 [.int x1, .int 0, .int 15] [] (hh S) n with | some (v, h') => ex X (d + 1) 159 7 [.ref 29, .int x1, .int x2] (v.toList ++ []) h' n | none => none) := rfl
theorem B_159_2 {X : Nat × (Nat → Int32)} {d : Nat} (n : Nat) (x1 : Int32) (x2 : Int32) (v1 : Int32) (S1 : St) : ex X d 159 7 [.ref 29, .int x1, .int x2] [.int v1] (hh S1) (n + 1) = if v1 = 0 then ex X d 159 10 [.ref 29, .int x1, .int x2] [] (hh S1) n else ex X d 159 21 [.ref 29, .int x1, .int x2] [] (hh S1) n := rfl
theorem B_159_3 {X : Nat × (Nat → Int32)} {d : Nat} (n : Nat) (x1 : Int32) (x2 : Int32) (S1 : St) : ex X (d + 1) 159 10 [.ref 29, .int x1, .int x2] [] (hh S1) (n + 4) = (match ex X d 115 0 [.int x2, .int 0, .int 255] [] (hh S1) n with | some (v, h') => ex X (d + 1) 159 18 [.ref 29, .int x1, .int x2] (v.toList ++ []) h' n | none => none) := rfl
theorem B_159_4 {X : Nat × (Nat → Int32)} {d : Nat} (n : Nat) (x1 : Int32) (x2 : Int32) (v3 : Int32) (S3 : St) : ex X d 159 18 [.ref 29, .int x1, .int x2] [.int v3] (hh S3) (n + 1) = if v3 = 0 then ex X d 159 23 [.ref 29, .int x1, .int x2] [] (hh S3) n else ex X d 159 21 [.ref 29, .int x1, .int x2] [] (hh S3) n := rfl
theorem B_159_5 {X : Nat × (Nat → Int32)} {d : Nat} (n : Nat) (x1 : Int32) (x2 : Int32) (S3 : St) : ex X d 159 23 [.ref 29, .int x1, .int x2] [] (hh S3) (n + 5) = if (kd 40).1 = 0 ∧ xa_in x1 (kd 40).2 then ex X d 159 30 [.ref 29, .int x1, .int x2] [] (hh (xa_u S3.1 40 ((x1).toNatClampNeg) x2, S3.2.1, S3.2.2)) n else none := rfl
theorem B_159_6 {X : Nat × (Nat → Int32)} {d : Nat} (n : Nat) (x1 : Int32) (x2 : Int32) (v3 : Int32) (S3 : St) : ex X d 159 18 [.ref 29, .int x1, .int x2] [.int v3] (hh S3) (n + 1) = if v3 = 0 then ex X d 159 23 [.ref 29, .int x1, .int x2] [] (hh S3) n else ex X d 159 21 [.ref 29, .int x1, .int x2] [] (hh S3) n := rfl
theorem B_159_7 {X : Nat × (Nat → Int32)} {d : Nat} (n : Nat) (x1 : Int32) (x2 : Int32) (v1 : Int32) (S1 : St) : ex X d 159 7 [.ref 29, .int x1, .int x2] [.int v1] (hh S1) (n + 1) = if v1 = 0 then ex X d 159 10 [.ref 29, .int x1, .int x2] [] (hh S1) n else ex X d 159 21 [.ref 29, .int x1, .int x2] [] (hh S1) n := rfl
set_option maxRecDepth 200000 in
theorem T_159 {X : Nat × (Nat → Int32)} (S : St) (x1 : Int32) (x2 : Int32) (r : Int32) (S' : St) (hG : G_159 S x1 x2 = some (r, S')) : Ev X 1 159 0 [.ref 29, .int x1, .int x2] [] (hh S) (xI r, hh S') := by
  unfold G_159 at hG
  rcases h1 : G_115 S x1 (0 : Int32) (15 : Int32) with _ | ⟨v1, S1⟩
  · rw [h1] at hG; cases hG
  rw [h1] at hG
  dsimp only at hG
  refine Ev.c (a := 115) (A := [.int x1, .int 0, .int 15]) (h1 := hh S) (pc' := 7) (L' := [.ref 29, .int x1, .int x2]) (rest := []) (r1 := some (.int v1)) (h2 := hh S1) 4 (fun n => B_159_1 n x1 x2 S) (Ev.up (by decide) (T_115 S x1 (0 : Int32) (15 : Int32) _ _ h1)) ?_
  show Ev X _ 159 7 [.ref 29, .int x1, .int x2] [.int v1] (hh S1) _
  by_cases c2 : v1 = 0
  · rw [if_pos c2] at hG
    refine Ev.t (c := v1 = 0) (p1 := 10) (L1 := [.ref 29, .int x1, .int x2]) (s1 := []) (h1 := hh S1) (p2 := 21) (L2 := [.ref 29, .int x1, .int x2]) (s2 := []) (h2 := hh S1) 1 (fun n => B_159_2 n x1 x2 v1 S1) c2 ?_
    rcases h3 : G_115 S1 x2 (0 : Int32) (255 : Int32) with _ | ⟨v3, S3⟩
    · rw [h3] at hG; cases hG
    rw [h3] at hG
    dsimp only at hG
    refine Ev.c (a := 115) (A := [.int x2, .int 0, .int 255]) (h1 := hh S1) (pc' := 18) (L' := [.ref 29, .int x1, .int x2]) (rest := []) (r1 := some (.int v3)) (h2 := hh S3) 4 (fun n => B_159_3 n x1 x2 S1) (Ev.up (by decide) (T_115 S1 x2 (0 : Int32) (255 : Int32) _ _ h3)) ?_
    show Ev X _ 159 18 [.ref 29, .int x1, .int x2] [.int v3] (hh S3) _
    by_cases c4 : v3 = 0
    · rw [if_pos c4] at hG
      refine Ev.t (c := v3 = 0) (p1 := 23) (L1 := [.ref 29, .int x1, .int x2]) (s1 := []) (h1 := hh S3) (p2 := 21) (L2 := [.ref 29, .int x1, .int x2]) (s2 := []) (h2 := hh S3) 1 (fun n => B_159_4 n x1 x2 v3 S3) c4 ?_
      by_cases g5 : xa_in x1 16
      rotate_left
      · rw [if_neg g5] at hG; cases hG
      rw [if_pos g5] at hG
      refine Ev.g (c := (kd 40).1 = 0 ∧ xa_in x1 (kd 40).2) (p1 := 30) (L1 := [.ref 29, .int x1, .int x2]) (s1 := []) (h1 := hh (xa_u S3.1 40 ((x1).toNatClampNeg) x2, S3.2.1, S3.2.2)) 5 (fun n => B_159_5 n x1 x2 S3) (⟨rfl, g5⟩) ?_
      obtain ⟨e1, e2⟩ := Prod.mk.inj (Option.some.inj hG)
      subst e1
      subst e2
      exact Ev.rg (c := (xm_z 159 = 0 ∨ (xm_z 159 = 1 ∧ ((1 : Int32) = 0 ∨ (1 : Int32) = 1)) ∨ (xm_z 159 = 2 ∧ ((1 : Int32)).toInt8.toInt32 = (1 : Int32)) ∨ (xm_z 159 = 3 ∧ ((1 : Int32)).toUInt32.toUInt16.toUInt32.toInt32 = (1 : Int32)))) 2 (fun n => rfl) (Or.inr (Or.inl ⟨rfl, by decide⟩))
    · rw [if_neg c4] at hG
      refine Ev.f (c := v3 = 0) (p1 := 23) (L1 := [.ref 29, .int x1, .int x2]) (s1 := []) (h1 := hh S3) (p2 := 21) (L2 := [.ref 29, .int x1, .int x2]) (s2 := []) (h2 := hh S3) 1 (fun n => B_159_6 n x1 x2 v3 S3) c4 ?_
      obtain ⟨e1, e2⟩ := Prod.mk.inj (Option.some.inj hG)
      subst e1
      subst e2
      exact Ev.rg (c := (xm_z 159 = 0 ∨ (xm_z 159 = 1 ∧ ((0 : Int32) = 0 ∨ (0 : Int32) = 1)) ∨ (xm_z 159 = 2 ∧ ((0 : Int32)).toInt8.toInt32 = (0 : Int32)) ∨ (xm_z 159 = 3 ∧ ((0 : Int32)).toUInt32.toUInt16.toUInt32.toInt32 = (0 : Int32)))) 2 (fun n => rfl) (Or.inr (Or.inl ⟨rfl, by decide⟩))
  · rw [if_neg c2] at hG
    refine Ev.f (c := v1 = 0) (p1 := 10) (L1 := [.ref 29, .int x1, .int x2]) (s1 := []) (h1 := hh S1) (p2 := 21) (L2 := [.ref 29, .int x1, .int x2]) (s2 := []) (h2 := hh S1) 1 (fun n => B_159_7 n x1 x2 v1 S1) c2 ?_
    obtain ⟨e1, e2⟩ := Prod.mk.inj (Option.some.inj hG)
    subst e1
    subst e2
    exact Ev.rg (c := (xm_z 159 = 0 ∨ (xm_z 159 = 1 ∧ ((0 : Int32) = 0 ∨ (0 : Int32) = 1)) ∨ (xm_z 159 = 2 ∧ ((0 : Int32)).toInt8.toInt32 = (0 : Int32)) ∨ (xm_z 159 = 3 ∧ ((0 : Int32)).toUInt32.toUInt16.toUInt32.toInt32 = (0 : Int32)))) 2 (fun n => rfl) (Or.inr (Or.inl ⟨rfl, by decide⟩))
/-- 160: SceneCycleModel.flag(I)Z -/
def G_160 (S : St) (x1 : Int32) : Option (Int32 × St) :=
  (match G_115 S x1 (0 : Int32) (15 : Int32) with
  | none => none
  | some (v1, S1) =>
    (if v1 = 0 then
      (if xa_in x1 16 then
        (if (S1.1 41 (x1).toNatClampNeg) = 0 then
          some (0, S1)
        else
          some (1, S1)
        )
      else none)
    else
      some (0, S1)
    )
  )
theorem B_160_1 {X : Nat × (Nat → Int32)} {d : Nat} (n : Nat) (x1 : Int32) (S : St) : ex X (d + 1) 160 0 [.ref 29, .int x1] [] (hh S) (n + 4) = (match ex X d 115 0 [.int x1, .int 0, .int 15] [] (hh S) n with | some (v, h') => ex X (d + 1) 160 7 [.ref 29, .int x1] (v.toList ++ []) h' n | none => none) := rfl
theorem B_160_2 {X : Nat × (Nat → Int32)} {d : Nat} (n : Nat) (x1 : Int32) (v1 : Int32) (S1 : St) : ex X d 160 7 [.ref 29, .int x1] [.int v1] (hh S1) (n + 1) = if v1 = 0 then ex X d 160 10 [.ref 29, .int x1] [] (hh S1) n else ex X d 160 23 [.ref 29, .int x1] [] (hh S1) n := rfl
theorem B_160_3 {X : Nat × (Nat → Int32)} {d : Nat} (n : Nat) (x1 : Int32) (S1 : St) : ex X d 160 10 [.ref 29, .int x1] [] (hh S1) (n + 4) = if (kd 41).1 = 1 ∧ xa_in x1 (kd 41).2 then ex X d 160 16 [.ref 29, .int x1] [.int (S1.1 41 (x1).toNatClampNeg)] (hh S1) n else none := rfl
theorem B_160_4 {X : Nat × (Nat → Int32)} {d : Nat} (n : Nat) (x1 : Int32) (S1 : St) : ex X d 160 16 [.ref 29, .int x1] [.int (S1.1 41 (x1).toNatClampNeg)] (hh S1) (n + 1) = if (S1.1 41 (x1).toNatClampNeg) = 0 then ex X d 160 23 [.ref 29, .int x1] [] (hh S1) n else ex X d 160 19 [.ref 29, .int x1] [] (hh S1) n := rfl
theorem B_160_5 {X : Nat × (Nat → Int32)} {d : Nat} (n : Nat) (x1 : Int32) (S1 : St) : ex X d 160 16 [.ref 29, .int x1] [.int (S1.1 41 (x1).toNatClampNeg)] (hh S1) (n + 1) = if (S1.1 41 (x1).toNatClampNeg) = 0 then ex X d 160 23 [.ref 29, .int x1] [] (hh S1) n else ex X d 160 19 [.ref 29, .int x1] [] (hh S1) n := rfl
theorem B_160_6 {X : Nat × (Nat → Int32)} {d : Nat} (n : Nat) (x1 : Int32) (v1 : Int32) (S1 : St) : ex X d 160 7 [.ref 29, .int x1] [.int v1] (hh S1) (n + 1) = if v1 = 0 then ex X d 160 10 [.ref 29, .int x1] [] (hh S1) n else ex X d 160 23 [.ref 29, .int x1] [] (hh S1) n := rfl
set_option maxRecDepth 200000 in
theorem T_160 {X : Nat × (Nat → Int32)} (S : St) (x1 : Int32) (r : Int32) (S' : St) (hG : G_160 S x1 = some (r, S')) : Ev X 1 160 0 [.ref 29, .int x1] [] (hh S) (xI r, hh S') := by
  unfold G_160 at hG
  rcases h1 : G_115 S x1 (0 : Int32) (15 : Int32) with _ | ⟨v1, S1⟩
  · rw [h1] at hG; cases hG
  rw [h1] at hG
  dsimp only at hG
  refine Ev.c (a := 115) (A := [.int x1, .int 0, .int 15]) (h1 := hh S) (pc' := 7) (L' := [.ref 29, .int x1]) (rest := []) (r1 := some (.int v1)) (h2 := hh S1) 4 (fun n => B_160_1 n x1 S) (Ev.up (by decide) (T_115 S x1 (0 : Int32) (15 : Int32) _ _ h1)) ?_
  show Ev X _ 160 7 [.ref 29, .int x1] [.int v1] (hh S1) _
  by_cases c2 : v1 = 0
  · rw [if_pos c2] at hG
    refine Ev.t (c := v1 = 0) (p1 := 10) (L1 := [.ref 29, .int x1]) (s1 := []) (h1 := hh S1) (p2 := 23) (L2 := [.ref 29, .int x1]) (s2 := []) (h2 := hh S1) 1 (fun n => B_160_2 n x1 v1 S1) c2 ?_
    by_cases g3 : xa_in x1 16
    rotate_left
    · rw [if_neg g3] at hG; cases hG
    rw [if_pos g3] at hG
    refine Ev.g (c := (kd 41).1 = 1 ∧ xa_in x1 (kd 41).2) (p1 := 16) (L1 := [.ref 29, .int x1]) (s1 := [.int (S1.1 41 (x1).toNatClampNeg)]) (h1 := hh S1) 4 (fun n => B_160_3 n x1 S1) (⟨rfl, g3⟩) ?_
    by_cases c4 : (S1.1 41 (x1).toNatClampNeg) = 0
    · rw [if_pos c4] at hG
      refine Ev.t (c := (S1.1 41 (x1).toNatClampNeg) = 0) (p1 := 23) (L1 := [.ref 29, .int x1]) (s1 := []) (h1 := hh S1) (p2 := 19) (L2 := [.ref 29, .int x1]) (s2 := []) (h2 := hh S1) 1 (fun n => B_160_4 n x1 S1) c4 ?_
      obtain ⟨e1, e2⟩ := Prod.mk.inj (Option.some.inj hG)
      subst e1
      subst e2
      exact Ev.rg (c := (xm_z 160 = 0 ∨ (xm_z 160 = 1 ∧ ((0 : Int32) = 0 ∨ (0 : Int32) = 1)) ∨ (xm_z 160 = 2 ∧ ((0 : Int32)).toInt8.toInt32 = (0 : Int32)) ∨ (xm_z 160 = 3 ∧ ((0 : Int32)).toUInt32.toUInt16.toUInt32.toInt32 = (0 : Int32)))) 2 (fun n => rfl) (Or.inr (Or.inl ⟨rfl, by decide⟩))
    · rw [if_neg c4] at hG
      refine Ev.f (c := (S1.1 41 (x1).toNatClampNeg) = 0) (p1 := 23) (L1 := [.ref 29, .int x1]) (s1 := []) (h1 := hh S1) (p2 := 19) (L2 := [.ref 29, .int x1]) (s2 := []) (h2 := hh S1) 1 (fun n => B_160_5 n x1 S1) c4 ?_
      obtain ⟨e1, e2⟩ := Prod.mk.inj (Option.some.inj hG)
      subst e1
      subst e2
      exact Ev.rg (c := (xm_z 160 = 0 ∨ (xm_z 160 = 1 ∧ ((1 : Int32) = 0 ∨ (1 : Int32) = 1)) ∨ (xm_z 160 = 2 ∧ ((1 : Int32)).toInt8.toInt32 = (1 : Int32)) ∨ (xm_z 160 = 3 ∧ ((1 : Int32)).toUInt32.toUInt16.toUInt32.toInt32 = (1 : Int32)))) 3 (fun n => rfl) (Or.inr (Or.inl ⟨rfl, by decide⟩))
  · rw [if_neg c2] at hG
    refine Ev.f (c := v1 = 0) (p1 := 10) (L1 := [.ref 29, .int x1]) (s1 := []) (h1 := hh S1) (p2 := 23) (L2 := [.ref 29, .int x1]) (s2 := []) (h2 := hh S1) 1 (fun n => B_160_6 n x1 v1 S1) c2 ?_
    obtain ⟨e1, e2⟩ := Prod.mk.inj (Option.some.inj hG)
    subst e1
    subst e2
    exact Ev.rg (c := (xm_z 160 = 0 ∨ (xm_z 160 = 1 ∧ ((0 : Int32) = 0 ∨ (0 : Int32) = 1)) ∨ (xm_z 160 = 2 ∧ ((0 : Int32)).toInt8.toInt32 = (0 : Int32)) ∨ (xm_z 160 = 3 ∧ ((0 : Int32)).toUInt32.toUInt16.toUInt32.toInt32 = (0 : Int32)))) 2 (fun n => rfl) (Or.inr (Or.inl ⟨rfl, by decide⟩))
/-- 161: SceneCycleModel.mark(IZ)Z -/
def G_161 (S : St) (x1 : Int32) (x2 : Int32) : Option (Int32 × St) :=
  (match G_115 S x1 (0 : Int32) (15 : Int32) with
  | none => none
  | some (v1, S1) =>
    (if v1 = 0 then
      (if xa_in x1 16 then
        (if (x2 = 0 ∨ x2 = 1) then
          some (1, (xa_u S1.1 41 ((x1).toNatClampNeg) x2, S1.2.1, S1.2.2))
        else none)
      else none)
    else
      some (0, S1)
    )
  )
theorem B_161_1 {X : Nat × (Nat → Int32)} {d : Nat} (n : Nat) (x1 : Int32) (x2 : Int32) (S : St) : ex X (d + 1) 161 0 [.ref 29, .int x1, .int x2] [] (hh S) (n + 4) = (match ex X d 115 0 [.int x1, .int 0, .int 15] [] (hh S) n with | some (v, h') => ex X (d + 1) 161 7 [.ref 29, .int x1, .int x2] (v.toList ++ []) h' n | none => none) := rfl
theorem B_161_2 {X : Nat × (Nat → Int32)} {d : Nat} (n : Nat) (x1 : Int32) (x2 : Int32) (v1 : Int32) (S1 : St) : ex X d 161 7 [.ref 29, .int x1, .int x2] [.int v1] (hh S1) (n + 1) = if v1 = 0 then ex X d 161 12 [.ref 29, .int x1, .int x2] [] (hh S1) n else ex X d 161 10 [.ref 29, .int x1, .int x2] [] (hh S1) n := rfl
theorem B_161_3 {X : Nat × (Nat → Int32)} {d : Nat} (n : Nat) (x1 : Int32) (x2 : Int32) (S1 : St) : ex X d 161 12 [.ref 29, .int x1, .int x2] [] (hh S1) (n + 5) = if (kd 41).1 = 1 ∧ xa_in x1 (kd 41).2 ∧ (x2 = 0 ∨ x2 = 1) then ex X d 161 19 [.ref 29, .int x1, .int x2] [] (hh (xa_u S1.1 41 ((x1).toNatClampNeg) x2, S1.2.1, S1.2.2)) n else none := rfl
theorem B_161_4 {X : Nat × (Nat → Int32)} {d : Nat} (n : Nat) (x1 : Int32) (x2 : Int32) (v1 : Int32) (S1 : St) : ex X d 161 7 [.ref 29, .int x1, .int x2] [.int v1] (hh S1) (n + 1) = if v1 = 0 then ex X d 161 12 [.ref 29, .int x1, .int x2] [] (hh S1) n else ex X d 161 10 [.ref 29, .int x1, .int x2] [] (hh S1) n := rfl
set_option maxRecDepth 200000 in
theorem T_161 {X : Nat × (Nat → Int32)} (S : St) (x1 : Int32) (x2 : Int32) (r : Int32) (S' : St) (hG : G_161 S x1 x2 = some (r, S')) : Ev X 1 161 0 [.ref 29, .int x1, .int x2] [] (hh S) (xI r, hh S') := by
  unfold G_161 at hG
  rcases h1 : G_115 S x1 (0 : Int32) (15 : Int32) with _ | ⟨v1, S1⟩
  · rw [h1] at hG; cases hG
  rw [h1] at hG
  dsimp only at hG
  refine Ev.c (a := 115) (A := [.int x1, .int 0, .int 15]) (h1 := hh S) (pc' := 7) (L' := [.ref 29, .int x1, .int x2]) (rest := []) (r1 := some (.int v1)) (h2 := hh S1) 4 (fun n => B_161_1 n x1 x2 S) (Ev.up (by decide) (T_115 S x1 (0 : Int32) (15 : Int32) _ _ h1)) ?_
  show Ev X _ 161 7 [.ref 29, .int x1, .int x2] [.int v1] (hh S1) _
  by_cases c2 : v1 = 0
  · rw [if_pos c2] at hG
    refine Ev.t (c := v1 = 0) (p1 := 12) (L1 := [.ref 29, .int x1, .int x2]) (s1 := []) (h1 := hh S1) (p2 := 10) (L2 := [.ref 29, .int x1, .int x2]) (s2 := []) (h2 := hh S1) 1 (fun n => B_161_2 n x1 x2 v1 S1) c2 ?_
    by_cases g3 : xa_in x1 16
    rotate_left
    · rw [if_neg g3] at hG; cases hG
    rw [if_pos g3] at hG
    by_cases g4 : (x2 = 0 ∨ x2 = 1)
    rotate_left
    · rw [if_neg g4] at hG; cases hG
    rw [if_pos g4] at hG
    refine Ev.g (c := (kd 41).1 = 1 ∧ xa_in x1 (kd 41).2 ∧ (x2 = 0 ∨ x2 = 1)) (p1 := 19) (L1 := [.ref 29, .int x1, .int x2]) (s1 := []) (h1 := hh (xa_u S1.1 41 ((x1).toNatClampNeg) x2, S1.2.1, S1.2.2)) 5 (fun n => B_161_3 n x1 x2 S1) (⟨rfl, g3, g4⟩) ?_
    obtain ⟨e1, e2⟩ := Prod.mk.inj (Option.some.inj hG)
    subst e1
    subst e2
    exact Ev.rg (c := (xm_z 161 = 0 ∨ (xm_z 161 = 1 ∧ ((1 : Int32) = 0 ∨ (1 : Int32) = 1)) ∨ (xm_z 161 = 2 ∧ ((1 : Int32)).toInt8.toInt32 = (1 : Int32)) ∨ (xm_z 161 = 3 ∧ ((1 : Int32)).toUInt32.toUInt16.toUInt32.toInt32 = (1 : Int32)))) 2 (fun n => rfl) (Or.inr (Or.inl ⟨rfl, by decide⟩))
  · rw [if_neg c2] at hG
    refine Ev.f (c := v1 = 0) (p1 := 12) (L1 := [.ref 29, .int x1, .int x2]) (s1 := []) (h1 := hh S1) (p2 := 10) (L2 := [.ref 29, .int x1, .int x2]) (s2 := []) (h2 := hh S1) 1 (fun n => B_161_4 n x1 x2 v1 S1) c2 ?_
    obtain ⟨e1, e2⟩ := Prod.mk.inj (Option.some.inj hG)
    subst e1
    subst e2
    exact Ev.rg (c := (xm_z 161 = 0 ∨ (xm_z 161 = 1 ∧ ((0 : Int32) = 0 ∨ (0 : Int32) = 1)) ∨ (xm_z 161 = 2 ∧ ((0 : Int32)).toInt8.toInt32 = (0 : Int32)) ∨ (xm_z 161 = 3 ∧ ((0 : Int32)).toUInt32.toUInt16.toUInt32.toInt32 = (0 : Int32)))) 2 (fun n => rfl) (Or.inr (Or.inl ⟨rfl, by decide⟩))
/-- 162: SceneCycleModel.object(II)I -/
def G_162 (S : St) (x1 : Int32) (x2 : Int32) : Option (Int32 × St) :=
  (match G_115 S x1 (0 : Int32) (3 : Int32) with
  | none => none
  | some (v1, S1) =>
    (if v1 = 0 then
      (if x2 = 0 then
        (if xa_in x1 4 then
          some ((S1.1 42 (x1).toNatClampNeg), S1)
        else none)
      else
        (if x2 = 1 then
          (if xa_in x1 4 then
            some ((S1.1 43 (x1).toNatClampNeg), S1)
          else none)
        else
          (if x2 = 2 then
            (if xa_in x1 4 then
              some ((S1.1 46 (x1).toNatClampNeg), S1)
            else none)
          else
            (if x2 = 3 then
              (if xa_in x1 4 then
                some ((S1.1 47 (x1).toNatClampNeg), S1)
              else none)
            else
              (if x2 = 4 then
                (match G_154 S1 x1 with
                | none => none
                | some (v12, S12) =>
                  some (v12, S12)
                )
              else
                (if x2 = 5 then
                  (if xa_in x1 4 then
                    (if (S1.1 49 (x1).toNatClampNeg) = 0 then
                      some (0, S1)
                    else
                      some (1, S1)
                    )
                  else none)
                else
                  (if x2 = 6 then
                    (if xa_in x1 4 then
                      some ((S1.1 44 (x1).toNatClampNeg), S1)
                    else none)
                  else
                    (if x2 = 7 then
                      (if xa_in x1 4 then
                        some ((S1.1 45 (x1).toNatClampNeg), S1)
                      else none)
                    else
                      some ((-1), S1)
                    )
                  )
                )
              )
            )
          )
        )
      )
    else
      some ((-1), S1)
    )
  )
theorem B_162_1 {X : Nat × (Nat → Int32)} {d : Nat} (n : Nat) (x1 : Int32) (x2 : Int32) (S : St) : ex X (d + 1) 162 0 [.ref 29, .int x1, .int x2] [] (hh S) (n + 4) = (match ex X d 115 0 [.int x1, .int 0, .int 3] [] (hh S) n with | some (v, h') => ex X (d + 1) 162 6 [.ref 29, .int x1, .int x2] (v.toList ++ []) h' n | none => none) := rfl
theorem B_162_2 {X : Nat × (Nat → Int32)} {d : Nat} (n : Nat) (x1 : Int32) (x2 : Int32) (v1 : Int32) (S1 : St) : ex X d 162 6 [.ref 29, .int x1, .int x2] [.int v1] (hh S1) (n + 1) = if v1 = 0 then ex X d 162 11 [.ref 29, .int x1, .int x2] [] (hh S1) n else ex X d 162 9 [.ref 29, .int x1, .int x2] [] (hh S1) n := rfl
theorem B_162_3 {X : Nat × (Nat → Int32)} {d : Nat} (n : Nat) (x1 : Int32) (x2 : Int32) (S1 : St) : ex X d 162 11 [.ref 29, .int x1, .int x2] [] (hh S1) (n + 2) = xa_sw [(0, 60), (1, 67), (2, 74), (3, 81), (4, 88), (5, 94), (6, 109), (7, 116)] x2 123 (fun t => ex X d 162 t [.ref 29, .int x1, .int x2] [] (hh S1) n) := rfl
theorem B_162_4 {X : Nat × (Nat → Int32)} {d : Nat} (n : Nat) (x1 : Int32) (x2 : Int32) (S1 : St) : ex X d 162 60 [.ref 29, .int x1, .int x2] [] (hh S1) (n + 4) = if (kd 42).1 = 0 ∧ xa_in x1 (kd 42).2 then ex X d 162 66 [.ref 29, .int x1, .int x2] [.int (S1.1 42 (x1).toNatClampNeg)] (hh S1) n else none := rfl
theorem B_162_5 {X : Nat × (Nat → Int32)} {d : Nat} (n : Nat) (x1 : Int32) (x2 : Int32) (S1 : St) : ex X d 162 67 [.ref 29, .int x1, .int x2] [] (hh S1) (n + 4) = if (kd 43).1 = 0 ∧ xa_in x1 (kd 43).2 then ex X d 162 73 [.ref 29, .int x1, .int x2] [.int (S1.1 43 (x1).toNatClampNeg)] (hh S1) n else none := rfl
theorem B_162_6 {X : Nat × (Nat → Int32)} {d : Nat} (n : Nat) (x1 : Int32) (x2 : Int32) (S1 : St) : ex X d 162 74 [.ref 29, .int x1, .int x2] [] (hh S1) (n + 4) = if (kd 46).1 = 0 ∧ xa_in x1 (kd 46).2 then ex X d 162 80 [.ref 29, .int x1, .int x2] [.int (S1.1 46 (x1).toNatClampNeg)] (hh S1) n else none := rfl
theorem B_162_7 {X : Nat × (Nat → Int32)} {d : Nat} (n : Nat) (x1 : Int32) (x2 : Int32) (S1 : St) : ex X d 162 81 [.ref 29, .int x1, .int x2] [] (hh S1) (n + 4) = if (kd 47).1 = 0 ∧ xa_in x1 (kd 47).2 then ex X d 162 87 [.ref 29, .int x1, .int x2] [.int (S1.1 47 (x1).toNatClampNeg)] (hh S1) n else none := rfl
theorem B_162_8 {X : Nat × (Nat → Int32)} {d : Nat} (n : Nat) (x1 : Int32) (x2 : Int32) (S1 : St) : ex X (d + 1) 162 88 [.ref 29, .int x1, .int x2] [] (hh S1) (n + 3) = (match ex X d 154 0 [.ref 29, .int x1] [] (hh S1) n with | some (v, h') => ex X (d + 1) 162 93 [.ref 29, .int x1, .int x2] (v.toList ++ []) h' n | none => none) := rfl
theorem B_162_9 {X : Nat × (Nat → Int32)} {d : Nat} (n : Nat) (x1 : Int32) (x2 : Int32) (S1 : St) : ex X d 162 94 [.ref 29, .int x1, .int x2] [] (hh S1) (n + 4) = if (kd 49).1 = 1 ∧ xa_in x1 (kd 49).2 then ex X d 162 100 [.ref 29, .int x1, .int x2] [.int (S1.1 49 (x1).toNatClampNeg)] (hh S1) n else none := rfl
theorem B_162_10 {X : Nat × (Nat → Int32)} {d : Nat} (n : Nat) (x1 : Int32) (x2 : Int32) (S1 : St) : ex X d 162 100 [.ref 29, .int x1, .int x2] [.int (S1.1 49 (x1).toNatClampNeg)] (hh S1) (n + 1) = if (S1.1 49 (x1).toNatClampNeg) = 0 then ex X d 162 107 [.ref 29, .int x1, .int x2] [] (hh S1) n else ex X d 162 103 [.ref 29, .int x1, .int x2] [] (hh S1) n := rfl
theorem B_162_11 {X : Nat × (Nat → Int32)} {d : Nat} (n : Nat) (x1 : Int32) (x2 : Int32) (S1 : St) : ex X d 162 100 [.ref 29, .int x1, .int x2] [.int (S1.1 49 (x1).toNatClampNeg)] (hh S1) (n + 1) = if (S1.1 49 (x1).toNatClampNeg) = 0 then ex X d 162 107 [.ref 29, .int x1, .int x2] [] (hh S1) n else ex X d 162 103 [.ref 29, .int x1, .int x2] [] (hh S1) n := rfl
theorem B_162_12 {X : Nat × (Nat → Int32)} {d : Nat} (n : Nat) (x1 : Int32) (x2 : Int32) (S1 : St) : ex X d 162 109 [.ref 29, .int x1, .int x2] [] (hh S1) (n + 4) = if (kd 44).1 = 0 ∧ xa_in x1 (kd 44).2 then ex X d 162 115 [.ref 29, .int x1, .int x2] [.int (S1.1 44 (x1).toNatClampNeg)] (hh S1) n else none := rfl
theorem B_162_13 {X : Nat × (Nat → Int32)} {d : Nat} (n : Nat) (x1 : Int32) (x2 : Int32) (S1 : St) : ex X d 162 116 [.ref 29, .int x1, .int x2] [] (hh S1) (n + 4) = if (kd 45).1 = 0 ∧ xa_in x1 (kd 45).2 then ex X d 162 122 [.ref 29, .int x1, .int x2] [.int (S1.1 45 (x1).toNatClampNeg)] (hh S1) n else none := rfl
theorem B_162_14 {X : Nat × (Nat → Int32)} {d : Nat} (n : Nat) (x1 : Int32) (x2 : Int32) (v1 : Int32) (S1 : St) : ex X d 162 6 [.ref 29, .int x1, .int x2] [.int v1] (hh S1) (n + 1) = if v1 = 0 then ex X d 162 11 [.ref 29, .int x1, .int x2] [] (hh S1) n else ex X d 162 9 [.ref 29, .int x1, .int x2] [] (hh S1) n := rfl
set_option maxRecDepth 200000 in
theorem T_162 {X : Nat × (Nat → Int32)} (S : St) (x1 : Int32) (x2 : Int32) (r : Int32) (S' : St) (hG : G_162 S x1 x2 = some (r, S')) : Ev X 1 162 0 [.ref 29, .int x1, .int x2] [] (hh S) (xI r, hh S') := by
  unfold G_162 at hG
  rcases h1 : G_115 S x1 (0 : Int32) (3 : Int32) with _ | ⟨v1, S1⟩
  · rw [h1] at hG; cases hG
  rw [h1] at hG
  dsimp only at hG
  refine Ev.c (a := 115) (A := [.int x1, .int 0, .int 3]) (h1 := hh S) (pc' := 6) (L' := [.ref 29, .int x1, .int x2]) (rest := []) (r1 := some (.int v1)) (h2 := hh S1) 4 (fun n => B_162_1 n x1 x2 S) (Ev.up (by decide) (T_115 S x1 (0 : Int32) (3 : Int32) _ _ h1)) ?_
  show Ev X _ 162 6 [.ref 29, .int x1, .int x2] [.int v1] (hh S1) _
  by_cases c2 : v1 = 0
  · rw [if_pos c2] at hG
    refine Ev.t (c := v1 = 0) (p1 := 11) (L1 := [.ref 29, .int x1, .int x2]) (s1 := []) (h1 := hh S1) (p2 := 9) (L2 := [.ref 29, .int x1, .int x2]) (s2 := []) (h2 := hh S1) 1 (fun n => B_162_2 n x1 x2 v1 S1) c2 ?_
    refine Ev.sw (ks := [(0, 60), (1, 67), (2, 74), (3, 81), (4, 88), (5, 94), (6, 109), (7, 116)]) (x := x2) (df := 123) (L1 := [.ref 29, .int x1, .int x2]) (s1 := []) (h1 := hh S1) 2 (fun n => B_162_3 n x1 x2 S1) ?_
    by_cases c3 : x2 = 0
    · rw [if_pos c3] at hG
      rw [xa_sw, if_pos c3]
      show Ev X _ 162 60 [.ref 29, .int x1, .int x2] [] (hh S1) _
      by_cases g4 : xa_in x1 4
      rotate_left
      · rw [if_neg g4] at hG; cases hG
      rw [if_pos g4] at hG
      refine Ev.g (c := (kd 42).1 = 0 ∧ xa_in x1 (kd 42).2) (p1 := 66) (L1 := [.ref 29, .int x1, .int x2]) (s1 := [.int (S1.1 42 (x1).toNatClampNeg)]) (h1 := hh S1) 4 (fun n => B_162_4 n x1 x2 S1) (⟨rfl, g4⟩) ?_
      obtain ⟨e1, e2⟩ := Prod.mk.inj (Option.some.inj hG)
      subst e1
      subst e2
      exact Ev.r 1 (fun n => rfl)
    rw [if_neg c3] at hG
    rw [xa_sw, if_neg c3]
    by_cases c5 : x2 = 1
    · rw [if_pos c5] at hG
      rw [xa_sw, if_pos c5]
      show Ev X _ 162 67 [.ref 29, .int x1, .int x2] [] (hh S1) _
      by_cases g6 : xa_in x1 4
      rotate_left
      · rw [if_neg g6] at hG; cases hG
      rw [if_pos g6] at hG
      refine Ev.g (c := (kd 43).1 = 0 ∧ xa_in x1 (kd 43).2) (p1 := 73) (L1 := [.ref 29, .int x1, .int x2]) (s1 := [.int (S1.1 43 (x1).toNatClampNeg)]) (h1 := hh S1) 4 (fun n => B_162_5 n x1 x2 S1) (⟨rfl, g6⟩) ?_
      obtain ⟨e1, e2⟩ := Prod.mk.inj (Option.some.inj hG)
      subst e1
      subst e2
      exact Ev.r 1 (fun n => rfl)
    rw [if_neg c5] at hG
    rw [xa_sw, if_neg c5]
    by_cases c7 : x2 = 2
    · rw [if_pos c7] at hG
      rw [xa_sw, if_pos c7]
      show Ev X _ 162 74 [.ref 29, .int x1, .int x2] [] (hh S1) _
      by_cases g8 : xa_in x1 4
      rotate_left
      · rw [if_neg g8] at hG; cases hG
      rw [if_pos g8] at hG
      refine Ev.g (c := (kd 46).1 = 0 ∧ xa_in x1 (kd 46).2) (p1 := 80) (L1 := [.ref 29, .int x1, .int x2]) (s1 := [.int (S1.1 46 (x1).toNatClampNeg)]) (h1 := hh S1) 4 (fun n => B_162_6 n x1 x2 S1) (⟨rfl, g8⟩) ?_
      obtain ⟨e1, e2⟩ := Prod.mk.inj (Option.some.inj hG)
      subst e1
      subst e2
      exact Ev.r 1 (fun n => rfl)
    rw [if_neg c7] at hG
    rw [xa_sw, if_neg c7]
    by_cases c9 : x2 = 3
    · rw [if_pos c9] at hG
      rw [xa_sw, if_pos c9]
      show Ev X _ 162 81 [.ref 29, .int x1, .int x2] [] (hh S1) _
      by_cases g10 : xa_in x1 4
      rotate_left
      · rw [if_neg g10] at hG; cases hG
      rw [if_pos g10] at hG
      refine Ev.g (c := (kd 47).1 = 0 ∧ xa_in x1 (kd 47).2) (p1 := 87) (L1 := [.ref 29, .int x1, .int x2]) (s1 := [.int (S1.1 47 (x1).toNatClampNeg)]) (h1 := hh S1) 4 (fun n => B_162_7 n x1 x2 S1) (⟨rfl, g10⟩) ?_
      obtain ⟨e1, e2⟩ := Prod.mk.inj (Option.some.inj hG)
      subst e1
      subst e2
      exact Ev.r 1 (fun n => rfl)
    rw [if_neg c9] at hG
    rw [xa_sw, if_neg c9]
    by_cases c11 : x2 = 4
    · rw [if_pos c11] at hG
      rw [xa_sw, if_pos c11]
      show Ev X _ 162 88 [.ref 29, .int x1, .int x2] [] (hh S1) _
      rcases h12 : G_154 S1 x1 with _ | ⟨v12, S12⟩
      · rw [h12] at hG; cases hG
      rw [h12] at hG
      dsimp only at hG
      refine Ev.c (a := 154) (A := [.ref 29, .int x1]) (h1 := hh S1) (pc' := 93) (L' := [.ref 29, .int x1, .int x2]) (rest := []) (r1 := some (.int v12)) (h2 := hh S12) 3 (fun n => B_162_8 n x1 x2 S1) (Ev.up (by decide) (T_154 S1 x1 _ _ h12)) ?_
      show Ev X _ 162 93 [.ref 29, .int x1, .int x2] [.int v12] (hh S12) _
      obtain ⟨e1, e2⟩ := Prod.mk.inj (Option.some.inj hG)
      subst e1
      subst e2
      exact Ev.r 1 (fun n => rfl)
    rw [if_neg c11] at hG
    rw [xa_sw, if_neg c11]
    by_cases c13 : x2 = 5
    · rw [if_pos c13] at hG
      rw [xa_sw, if_pos c13]
      show Ev X _ 162 94 [.ref 29, .int x1, .int x2] [] (hh S1) _
      by_cases g14 : xa_in x1 4
      rotate_left
      · rw [if_neg g14] at hG; cases hG
      rw [if_pos g14] at hG
      refine Ev.g (c := (kd 49).1 = 1 ∧ xa_in x1 (kd 49).2) (p1 := 100) (L1 := [.ref 29, .int x1, .int x2]) (s1 := [.int (S1.1 49 (x1).toNatClampNeg)]) (h1 := hh S1) 4 (fun n => B_162_9 n x1 x2 S1) (⟨rfl, g14⟩) ?_
      by_cases c15 : (S1.1 49 (x1).toNatClampNeg) = 0
      · rw [if_pos c15] at hG
        refine Ev.t (c := (S1.1 49 (x1).toNatClampNeg) = 0) (p1 := 107) (L1 := [.ref 29, .int x1, .int x2]) (s1 := []) (h1 := hh S1) (p2 := 103) (L2 := [.ref 29, .int x1, .int x2]) (s2 := []) (h2 := hh S1) 1 (fun n => B_162_10 n x1 x2 S1) c15 ?_
        obtain ⟨e1, e2⟩ := Prod.mk.inj (Option.some.inj hG)
        subst e1
        subst e2
        exact Ev.r 2 (fun n => rfl)
      · rw [if_neg c15] at hG
        refine Ev.f (c := (S1.1 49 (x1).toNatClampNeg) = 0) (p1 := 107) (L1 := [.ref 29, .int x1, .int x2]) (s1 := []) (h1 := hh S1) (p2 := 103) (L2 := [.ref 29, .int x1, .int x2]) (s2 := []) (h2 := hh S1) 1 (fun n => B_162_11 n x1 x2 S1) c15 ?_
        obtain ⟨e1, e2⟩ := Prod.mk.inj (Option.some.inj hG)
        subst e1
        subst e2
        exact Ev.r 3 (fun n => rfl)
    rw [if_neg c13] at hG
    rw [xa_sw, if_neg c13]
    by_cases c16 : x2 = 6
    · rw [if_pos c16] at hG
      rw [xa_sw, if_pos c16]
      show Ev X _ 162 109 [.ref 29, .int x1, .int x2] [] (hh S1) _
      by_cases g17 : xa_in x1 4
      rotate_left
      · rw [if_neg g17] at hG; cases hG
      rw [if_pos g17] at hG
      refine Ev.g (c := (kd 44).1 = 0 ∧ xa_in x1 (kd 44).2) (p1 := 115) (L1 := [.ref 29, .int x1, .int x2]) (s1 := [.int (S1.1 44 (x1).toNatClampNeg)]) (h1 := hh S1) 4 (fun n => B_162_12 n x1 x2 S1) (⟨rfl, g17⟩) ?_
      obtain ⟨e1, e2⟩ := Prod.mk.inj (Option.some.inj hG)
      subst e1
      subst e2
      exact Ev.r 1 (fun n => rfl)
    rw [if_neg c16] at hG
    rw [xa_sw, if_neg c16]
    by_cases c18 : x2 = 7
    · rw [if_pos c18] at hG
      rw [xa_sw, if_pos c18]
      show Ev X _ 162 116 [.ref 29, .int x1, .int x2] [] (hh S1) _
      by_cases g19 : xa_in x1 4
      rotate_left
      · rw [if_neg g19] at hG; cases hG
      rw [if_pos g19] at hG
      refine Ev.g (c := (kd 45).1 = 0 ∧ xa_in x1 (kd 45).2) (p1 := 122) (L1 := [.ref 29, .int x1, .int x2]) (s1 := [.int (S1.1 45 (x1).toNatClampNeg)]) (h1 := hh S1) 4 (fun n => B_162_13 n x1 x2 S1) (⟨rfl, g19⟩) ?_
      obtain ⟨e1, e2⟩ := Prod.mk.inj (Option.some.inj hG)
      subst e1
      subst e2
      exact Ev.r 1 (fun n => rfl)
    rw [if_neg c18] at hG
    rw [xa_sw, if_neg c18]
    rw [xa_sw]
    show Ev X _ 162 123 [.ref 29, .int x1, .int x2] [] (hh S1) _
    obtain ⟨e1, e2⟩ := Prod.mk.inj (Option.some.inj hG)
    subst e1
    subst e2
    exact Ev.r 2 (fun n => rfl)
  · rw [if_neg c2] at hG
    refine Ev.f (c := v1 = 0) (p1 := 11) (L1 := [.ref 29, .int x1, .int x2]) (s1 := []) (h1 := hh S1) (p2 := 9) (L2 := [.ref 29, .int x1, .int x2]) (s2 := []) (h2 := hh S1) 1 (fun n => B_162_14 n x1 x2 v1 S1) c2 ?_
    obtain ⟨e1, e2⟩ := Prod.mk.inj (Option.some.inj hG)
    subst e1
    subst e2
    exact Ev.r 2 (fun n => rfl)
/-- 163: SceneCycleModel.cell(III)I -/
def G_163 (S : St) (x1 : Int32) (x2 : Int32) (x3 : Int32) : Option (Int32 × St) :=
  (match G_115 S x1 (0 : Int32) (15 : Int32) with
  | none => none
  | some (v1, S1) =>
    (if v1 = 0 then
      (match G_115 S1 x2 (0 : Int32) (11 : Int32) with
      | none => none
      | some (v3, S3) =>
        (if v3 = 0 then
          (if x3 = 0 then
            (if xa_in ((16 * x2) + x1) 192 then
              some ((S3.1 30 (((16 * x2) + x1)).toNatClampNeg), S3)
            else none)
          else
            (if x3 = 1 then
              (if xa_in ((16 * x2) + x1) 192 then
                some ((S3.1 31 (((16 * x2) + x1)).toNatClampNeg), S3)
              else none)
            else
              some ((-1), S3)
            )
          )
        else
          some ((-1), S3)
        )
      )
    else
      some ((-1), S1)
    )
  )
theorem B_163_1 {X : Nat × (Nat → Int32)} {d : Nat} (n : Nat) (x1 : Int32) (x2 : Int32) (x3 : Int32) (S : St) : ex X (d + 1) 163 0 [.ref 29, .int x1, .int x2, .int x3] [] (hh S) (n + 4) = (match ex X d 115 0 [.int x1, .int 0, .int 15] [] (hh S) n with | some (v, h') => ex X (d + 1) 163 7 [.ref 29, .int x1, .int x2, .int x3] (v.toList ++ []) h' n | none => none) := rfl
theorem B_163_2 {X : Nat × (Nat → Int32)} {d : Nat} (n : Nat) (x1 : Int32) (x2 : Int32) (x3 : Int32) (v1 : Int32) (S1 : St) : ex X d 163 7 [.ref 29, .int x1, .int x2, .int x3] [.int v1] (hh S1) (n + 1) = if v1 = 0 then ex X d 163 10 [.ref 29, .int x1, .int x2, .int x3] [] (hh S1) n else ex X d 163 20 [.ref 29, .int x1, .int x2, .int x3] [] (hh S1) n := rfl
theorem B_163_3 {X : Nat × (Nat → Int32)} {d : Nat} (n : Nat) (x1 : Int32) (x2 : Int32) (x3 : Int32) (S1 : St) : ex X (d + 1) 163 10 [.ref 29, .int x1, .int x2, .int x3] [] (hh S1) (n + 4) = (match ex X d 115 0 [.int x2, .int 0, .int 11] [] (hh S1) n with | some (v, h') => ex X (d + 1) 163 17 [.ref 29, .int x1, .int x2, .int x3] (v.toList ++ []) h' n | none => none) := rfl
theorem B_163_4 {X : Nat × (Nat → Int32)} {d : Nat} (n : Nat) (x1 : Int32) (x2 : Int32) (x3 : Int32) (v3 : Int32) (S3 : St) : ex X d 163 17 [.ref 29, .int x1, .int x2, .int x3] [.int v3] (hh S3) (n + 1) = if v3 = 0 then ex X d 163 22 [.ref 29, .int x1, .int x2, .int x3] [] (hh S3) n else ex X d 163 20 [.ref 29, .int x1, .int x2, .int x3] [] (hh S3) n := rfl
theorem B_163_5 {X : Nat × (Nat → Int32)} {d : Nat} (n : Nat) (x1 : Int32) (x2 : Int32) (x3 : Int32) (S3 : St) : ex X d 163 22 [.ref 29, .int x1, .int x2, .int x3] [] (hh S3) (n + 2) = if x3 = 0 then ex X d 163 26 [.ref 29, .int x1, .int x2, .int x3] [] (hh S3) n else ex X d 163 40 [.ref 29, .int x1, .int x2, .int x3] [] (hh S3) n := rfl
theorem B_163_6 {X : Nat × (Nat → Int32)} {d : Nat} (n : Nat) (x1 : Int32) (x2 : Int32) (x3 : Int32) (S3 : St) : ex X d 163 26 [.ref 29, .int x1, .int x2, .int x3] [] (hh S3) (n + 8) = if (kd 30).1 = 0 ∧ xa_in ((16 * x2) + x1) (kd 30).2 then ex X d 163 37 [.ref 29, .int x1, .int x2, .int x3] [.int (S3.1 30 (((16 * x2) + x1)).toNatClampNeg)] (hh S3) n else none := rfl
theorem B_163_7 {X : Nat × (Nat → Int32)} {d : Nat} (n : Nat) (x1 : Int32) (x2 : Int32) (x3 : Int32) (S3 : St) : ex X d 163 22 [.ref 29, .int x1, .int x2, .int x3] [] (hh S3) (n + 2) = if x3 = 0 then ex X d 163 26 [.ref 29, .int x1, .int x2, .int x3] [] (hh S3) n else ex X d 163 40 [.ref 29, .int x1, .int x2, .int x3] [] (hh S3) n := rfl
theorem B_163_8 {X : Nat × (Nat → Int32)} {d : Nat} (n : Nat) (x1 : Int32) (x2 : Int32) (x3 : Int32) (S3 : St) : ex X d 163 40 [.ref 29, .int x1, .int x2, .int x3] [] (hh S3) (n + 3) = if x3 = 1 then ex X d 163 45 [.ref 29, .int x1, .int x2, .int x3] [] (hh S3) n else ex X d 163 59 [.ref 29, .int x1, .int x2, .int x3] [] (hh S3) n := rfl
theorem B_163_9 {X : Nat × (Nat → Int32)} {d : Nat} (n : Nat) (x1 : Int32) (x2 : Int32) (x3 : Int32) (S3 : St) : ex X d 163 45 [.ref 29, .int x1, .int x2, .int x3] [] (hh S3) (n + 8) = if (kd 31).1 = 0 ∧ xa_in ((16 * x2) + x1) (kd 31).2 then ex X d 163 56 [.ref 29, .int x1, .int x2, .int x3] [.int (S3.1 31 (((16 * x2) + x1)).toNatClampNeg)] (hh S3) n else none := rfl
theorem B_163_10 {X : Nat × (Nat → Int32)} {d : Nat} (n : Nat) (x1 : Int32) (x2 : Int32) (x3 : Int32) (S3 : St) : ex X d 163 40 [.ref 29, .int x1, .int x2, .int x3] [] (hh S3) (n + 3) = if x3 = 1 then ex X d 163 45 [.ref 29, .int x1, .int x2, .int x3] [] (hh S3) n else ex X d 163 59 [.ref 29, .int x1, .int x2, .int x3] [] (hh S3) n := rfl
theorem B_163_11 {X : Nat × (Nat → Int32)} {d : Nat} (n : Nat) (x1 : Int32) (x2 : Int32) (x3 : Int32) (v3 : Int32) (S3 : St) : ex X d 163 17 [.ref 29, .int x1, .int x2, .int x3] [.int v3] (hh S3) (n + 1) = if v3 = 0 then ex X d 163 22 [.ref 29, .int x1, .int x2, .int x3] [] (hh S3) n else ex X d 163 20 [.ref 29, .int x1, .int x2, .int x3] [] (hh S3) n := rfl
theorem B_163_12 {X : Nat × (Nat → Int32)} {d : Nat} (n : Nat) (x1 : Int32) (x2 : Int32) (x3 : Int32) (v1 : Int32) (S1 : St) : ex X d 163 7 [.ref 29, .int x1, .int x2, .int x3] [.int v1] (hh S1) (n + 1) = if v1 = 0 then ex X d 163 10 [.ref 29, .int x1, .int x2, .int x3] [] (hh S1) n else ex X d 163 20 [.ref 29, .int x1, .int x2, .int x3] [] (hh S1) n := rfl
set_option maxRecDepth 200000 in
theorem T_163 {X : Nat × (Nat → Int32)} (S : St) (x1 : Int32) (x2 : Int32) (x3 : Int32) (r : Int32) (S' : St) (hG : G_163 S x1 x2 x3 = some (r, S')) : Ev X 1 163 0 [.ref 29, .int x1, .int x2, .int x3] [] (hh S) (xI r, hh S') := by
  unfold G_163 at hG
  rcases h1 : G_115 S x1 (0 : Int32) (15 : Int32) with _ | ⟨v1, S1⟩
  · rw [h1] at hG; cases hG
  rw [h1] at hG
  dsimp only at hG
  refine Ev.c (a := 115) (A := [.int x1, .int 0, .int 15]) (h1 := hh S) (pc' := 7) (L' := [.ref 29, .int x1, .int x2, .int x3]) (rest := []) (r1 := some (.int v1)) (h2 := hh S1) 4 (fun n => B_163_1 n x1 x2 x3 S) (Ev.up (by decide) (T_115 S x1 (0 : Int32) (15 : Int32) _ _ h1)) ?_
  show Ev X _ 163 7 [.ref 29, .int x1, .int x2, .int x3] [.int v1] (hh S1) _
  by_cases c2 : v1 = 0
  · rw [if_pos c2] at hG
    refine Ev.t (c := v1 = 0) (p1 := 10) (L1 := [.ref 29, .int x1, .int x2, .int x3]) (s1 := []) (h1 := hh S1) (p2 := 20) (L2 := [.ref 29, .int x1, .int x2, .int x3]) (s2 := []) (h2 := hh S1) 1 (fun n => B_163_2 n x1 x2 x3 v1 S1) c2 ?_
    rcases h3 : G_115 S1 x2 (0 : Int32) (11 : Int32) with _ | ⟨v3, S3⟩
    · rw [h3] at hG; cases hG
    rw [h3] at hG
    dsimp only at hG
    refine Ev.c (a := 115) (A := [.int x2, .int 0, .int 11]) (h1 := hh S1) (pc' := 17) (L' := [.ref 29, .int x1, .int x2, .int x3]) (rest := []) (r1 := some (.int v3)) (h2 := hh S3) 4 (fun n => B_163_3 n x1 x2 x3 S1) (Ev.up (by decide) (T_115 S1 x2 (0 : Int32) (11 : Int32) _ _ h3)) ?_
    show Ev X _ 163 17 [.ref 29, .int x1, .int x2, .int x3] [.int v3] (hh S3) _
    by_cases c4 : v3 = 0
    · rw [if_pos c4] at hG
      refine Ev.t (c := v3 = 0) (p1 := 22) (L1 := [.ref 29, .int x1, .int x2, .int x3]) (s1 := []) (h1 := hh S3) (p2 := 20) (L2 := [.ref 29, .int x1, .int x2, .int x3]) (s2 := []) (h2 := hh S3) 1 (fun n => B_163_4 n x1 x2 x3 v3 S3) c4 ?_
      by_cases c5 : x3 = 0
      · rw [if_pos c5] at hG
        refine Ev.t (c := x3 = 0) (p1 := 26) (L1 := [.ref 29, .int x1, .int x2, .int x3]) (s1 := []) (h1 := hh S3) (p2 := 40) (L2 := [.ref 29, .int x1, .int x2, .int x3]) (s2 := []) (h2 := hh S3) 2 (fun n => B_163_5 n x1 x2 x3 S3) c5 ?_
        by_cases g6 : xa_in ((16 * x2) + x1) 192
        rotate_left
        · rw [if_neg g6] at hG; cases hG
        rw [if_pos g6] at hG
        refine Ev.g (c := (kd 30).1 = 0 ∧ xa_in ((16 * x2) + x1) (kd 30).2) (p1 := 37) (L1 := [.ref 29, .int x1, .int x2, .int x3]) (s1 := [.int (S3.1 30 (((16 * x2) + x1)).toNatClampNeg)]) (h1 := hh S3) 8 (fun n => B_163_6 n x1 x2 x3 S3) (⟨rfl, g6⟩) ?_
        obtain ⟨e1, e2⟩ := Prod.mk.inj (Option.some.inj hG)
        subst e1
        subst e2
        exact Ev.r 2 (fun n => rfl)
      · rw [if_neg c5] at hG
        refine Ev.f (c := x3 = 0) (p1 := 26) (L1 := [.ref 29, .int x1, .int x2, .int x3]) (s1 := []) (h1 := hh S3) (p2 := 40) (L2 := [.ref 29, .int x1, .int x2, .int x3]) (s2 := []) (h2 := hh S3) 2 (fun n => B_163_7 n x1 x2 x3 S3) c5 ?_
        by_cases c7 : x3 = 1
        · rw [if_pos c7] at hG
          refine Ev.t (c := x3 = 1) (p1 := 45) (L1 := [.ref 29, .int x1, .int x2, .int x3]) (s1 := []) (h1 := hh S3) (p2 := 59) (L2 := [.ref 29, .int x1, .int x2, .int x3]) (s2 := []) (h2 := hh S3) 3 (fun n => B_163_8 n x1 x2 x3 S3) c7 ?_
          by_cases g8 : xa_in ((16 * x2) + x1) 192
          rotate_left
          · rw [if_neg g8] at hG; cases hG
          rw [if_pos g8] at hG
          refine Ev.g (c := (kd 31).1 = 0 ∧ xa_in ((16 * x2) + x1) (kd 31).2) (p1 := 56) (L1 := [.ref 29, .int x1, .int x2, .int x3]) (s1 := [.int (S3.1 31 (((16 * x2) + x1)).toNatClampNeg)]) (h1 := hh S3) 8 (fun n => B_163_9 n x1 x2 x3 S3) (⟨rfl, g8⟩) ?_
          obtain ⟨e1, e2⟩ := Prod.mk.inj (Option.some.inj hG)
          subst e1
          subst e2
          exact Ev.r 2 (fun n => rfl)
        · rw [if_neg c7] at hG
          refine Ev.f (c := x3 = 1) (p1 := 45) (L1 := [.ref 29, .int x1, .int x2, .int x3]) (s1 := []) (h1 := hh S3) (p2 := 59) (L2 := [.ref 29, .int x1, .int x2, .int x3]) (s2 := []) (h2 := hh S3) 3 (fun n => B_163_10 n x1 x2 x3 S3) c7 ?_
          obtain ⟨e1, e2⟩ := Prod.mk.inj (Option.some.inj hG)
          subst e1
          subst e2
          exact Ev.r 2 (fun n => rfl)
    · rw [if_neg c4] at hG
      refine Ev.f (c := v3 = 0) (p1 := 22) (L1 := [.ref 29, .int x1, .int x2, .int x3]) (s1 := []) (h1 := hh S3) (p2 := 20) (L2 := [.ref 29, .int x1, .int x2, .int x3]) (s2 := []) (h2 := hh S3) 1 (fun n => B_163_11 n x1 x2 x3 v3 S3) c4 ?_
      obtain ⟨e1, e2⟩ := Prod.mk.inj (Option.some.inj hG)
      subst e1
      subst e2
      exact Ev.r 2 (fun n => rfl)
  · rw [if_neg c2] at hG
    refine Ev.f (c := v1 = 0) (p1 := 10) (L1 := [.ref 29, .int x1, .int x2, .int x3]) (s1 := []) (h1 := hh S1) (p2 := 20) (L2 := [.ref 29, .int x1, .int x2, .int x3]) (s2 := []) (h2 := hh S1) 1 (fun n => B_163_12 n x1 x2 x3 v1 S1) c2 ?_
    obtain ⟨e1, e2⟩ := Prod.mk.inj (Option.some.inj hG)
    subst e1
    subst e2
    exact Ev.r 2 (fun n => rfl)
/-- 165: SceneCycleModel.covers(III)Z -/
def G_165 (S : St) (x1 : Int32) (x2 : Int32) (x3 : Int32) : Option (Int32 × St) :=
  (if xa_in x1 4 then
    (if (S.1 49 (x1).toNatClampNeg) = 0 then
      some (0, S)
    else
      (if x2 < (S.1 42 (x1).toNatClampNeg) then
        some (0, S)
      else
        (if ((S.1 42 (x1).toNatClampNeg) + (S.1 44 (x1).toNatClampNeg)) ≤ x2 then
          some (0, S)
        else
          (if (S.1 43 (x1).toNatClampNeg) < x3 then
            some (0, S)
          else
            (if x3 ≤ ((S.1 43 (x1).toNatClampNeg) - (S.1 45 (x1).toNatClampNeg)) then
              some (0, S)
            else
              some (1, S)
            )
          )
        )
      )
    )
  else none)
theorem B_165_1 {X : Nat × (Nat → Int32)} {d : Nat} (n : Nat) (x1 : Int32) (x2 : Int32) (x3 : Int32) (S : St) : ex X d 165 0 [.ref 29, .int x1, .int x2, .int x3] [] (hh S) (n + 4) = if (kd 49).1 = 1 ∧ xa_in x1 (kd 49).2 then ex X d 165 6 [.ref 29, .int x1, .int x2, .int x3] [.int (S.1 49 (x1).toNatClampNeg)] (hh S) n else none := rfl
theorem B_165_2 {X : Nat × (Nat → Int32)} {d : Nat} (n : Nat) (x1 : Int32) (x2 : Int32) (x3 : Int32) (S : St) : ex X d 165 6 [.ref 29, .int x1, .int x2, .int x3] [.int (S.1 49 (x1).toNatClampNeg)] (hh S) (n + 1) = if (S.1 49 (x1).toNatClampNeg) = 0 then ex X d 165 67 [.ref 29, .int x1, .int x2, .int x3] [] (hh S) n else ex X d 165 9 [.ref 29, .int x1, .int x2, .int x3] [] (hh S) n := rfl
theorem B_165_3 {X : Nat × (Nat → Int32)} {d : Nat} (n : Nat) (x1 : Int32) (x2 : Int32) (x3 : Int32) (S : St) : ex X d 165 6 [.ref 29, .int x1, .int x2, .int x3] [.int (S.1 49 (x1).toNatClampNeg)] (hh S) (n + 1) = if (S.1 49 (x1).toNatClampNeg) = 0 then ex X d 165 67 [.ref 29, .int x1, .int x2, .int x3] [] (hh S) n else ex X d 165 9 [.ref 29, .int x1, .int x2, .int x3] [] (hh S) n := rfl
theorem B_165_4 {X : Nat × (Nat → Int32)} {d : Nat} (n : Nat) (x1 : Int32) (x2 : Int32) (x3 : Int32) (S : St) : ex X d 165 9 [.ref 29, .int x1, .int x2, .int x3] [] (hh S) (n + 5) = if (kd 42).1 = 0 ∧ xa_in x1 (kd 42).2 then ex X d 165 16 [.ref 29, .int x1, .int x2, .int x3] [.int (S.1 42 (x1).toNatClampNeg), .int x2] (hh S) n else none := rfl
theorem B_165_5 {X : Nat × (Nat → Int32)} {d : Nat} (n : Nat) (x1 : Int32) (x2 : Int32) (x3 : Int32) (S : St) : ex X d 165 16 [.ref 29, .int x1, .int x2, .int x3] [.int (S.1 42 (x1).toNatClampNeg), .int x2] (hh S) (n + 1) = if x2 < (S.1 42 (x1).toNatClampNeg) then ex X d 165 67 [.ref 29, .int x1, .int x2, .int x3] [] (hh S) n else ex X d 165 19 [.ref 29, .int x1, .int x2, .int x3] [] (hh S) n := rfl
theorem B_165_6 {X : Nat × (Nat → Int32)} {d : Nat} (n : Nat) (x1 : Int32) (x2 : Int32) (x3 : Int32) (S : St) : ex X d 165 16 [.ref 29, .int x1, .int x2, .int x3] [.int (S.1 42 (x1).toNatClampNeg), .int x2] (hh S) (n + 1) = if x2 < (S.1 42 (x1).toNatClampNeg) then ex X d 165 67 [.ref 29, .int x1, .int x2, .int x3] [] (hh S) n else ex X d 165 19 [.ref 29, .int x1, .int x2, .int x3] [] (hh S) n := rfl
theorem B_165_7 {X : Nat × (Nat → Int32)} {d : Nat} (n : Nat) (x1 : Int32) (x2 : Int32) (x3 : Int32) (S : St) : ex X d 165 19 [.ref 29, .int x1, .int x2, .int x3] [] (hh S) (n + 5) = if (kd 42).1 = 0 ∧ xa_in x1 (kd 42).2 then ex X d 165 26 [.ref 29, .int x1, .int x2, .int x3] [.int (S.1 42 (x1).toNatClampNeg), .int x2] (hh S) n else none := rfl
theorem B_165_8 {X : Nat × (Nat → Int32)} {d : Nat} (n : Nat) (x1 : Int32) (x2 : Int32) (x3 : Int32) (S : St) : ex X d 165 26 [.ref 29, .int x1, .int x2, .int x3] [.int (S.1 42 (x1).toNatClampNeg), .int x2] (hh S) (n + 4) = if (kd 44).1 = 0 ∧ xa_in x1 (kd 44).2 then ex X d 165 32 [.ref 29, .int x1, .int x2, .int x3] [.int (S.1 44 (x1).toNatClampNeg), .int (S.1 42 (x1).toNatClampNeg), .int x2] (hh S) n else none := rfl
theorem B_165_9 {X : Nat × (Nat → Int32)} {d : Nat} (n : Nat) (x1 : Int32) (x2 : Int32) (x3 : Int32) (S : St) : ex X d 165 32 [.ref 29, .int x1, .int x2, .int x3] [.int (S.1 44 (x1).toNatClampNeg), .int (S.1 42 (x1).toNatClampNeg), .int x2] (hh S) (n + 2) = if ((S.1 42 (x1).toNatClampNeg) + (S.1 44 (x1).toNatClampNeg)) ≤ x2 then ex X d 165 67 [.ref 29, .int x1, .int x2, .int x3] [] (hh S) n else ex X d 165 36 [.ref 29, .int x1, .int x2, .int x3] [] (hh S) n := rfl
theorem B_165_10 {X : Nat × (Nat → Int32)} {d : Nat} (n : Nat) (x1 : Int32) (x2 : Int32) (x3 : Int32) (S : St) : ex X d 165 32 [.ref 29, .int x1, .int x2, .int x3] [.int (S.1 44 (x1).toNatClampNeg), .int (S.1 42 (x1).toNatClampNeg), .int x2] (hh S) (n + 2) = if ((S.1 42 (x1).toNatClampNeg) + (S.1 44 (x1).toNatClampNeg)) ≤ x2 then ex X d 165 67 [.ref 29, .int x1, .int x2, .int x3] [] (hh S) n else ex X d 165 36 [.ref 29, .int x1, .int x2, .int x3] [] (hh S) n := rfl
theorem B_165_11 {X : Nat × (Nat → Int32)} {d : Nat} (n : Nat) (x1 : Int32) (x2 : Int32) (x3 : Int32) (S : St) : ex X d 165 36 [.ref 29, .int x1, .int x2, .int x3] [] (hh S) (n + 5) = if (kd 43).1 = 0 ∧ xa_in x1 (kd 43).2 then ex X d 165 43 [.ref 29, .int x1, .int x2, .int x3] [.int (S.1 43 (x1).toNatClampNeg), .int x3] (hh S) n else none := rfl
theorem B_165_12 {X : Nat × (Nat → Int32)} {d : Nat} (n : Nat) (x1 : Int32) (x2 : Int32) (x3 : Int32) (S : St) : ex X d 165 43 [.ref 29, .int x1, .int x2, .int x3] [.int (S.1 43 (x1).toNatClampNeg), .int x3] (hh S) (n + 1) = if (S.1 43 (x1).toNatClampNeg) < x3 then ex X d 165 67 [.ref 29, .int x1, .int x2, .int x3] [] (hh S) n else ex X d 165 46 [.ref 29, .int x1, .int x2, .int x3] [] (hh S) n := rfl
theorem B_165_13 {X : Nat × (Nat → Int32)} {d : Nat} (n : Nat) (x1 : Int32) (x2 : Int32) (x3 : Int32) (S : St) : ex X d 165 43 [.ref 29, .int x1, .int x2, .int x3] [.int (S.1 43 (x1).toNatClampNeg), .int x3] (hh S) (n + 1) = if (S.1 43 (x1).toNatClampNeg) < x3 then ex X d 165 67 [.ref 29, .int x1, .int x2, .int x3] [] (hh S) n else ex X d 165 46 [.ref 29, .int x1, .int x2, .int x3] [] (hh S) n := rfl
theorem B_165_14 {X : Nat × (Nat → Int32)} {d : Nat} (n : Nat) (x1 : Int32) (x2 : Int32) (x3 : Int32) (S : St) : ex X d 165 46 [.ref 29, .int x1, .int x2, .int x3] [] (hh S) (n + 5) = if (kd 43).1 = 0 ∧ xa_in x1 (kd 43).2 then ex X d 165 53 [.ref 29, .int x1, .int x2, .int x3] [.int (S.1 43 (x1).toNatClampNeg), .int x3] (hh S) n else none := rfl
theorem B_165_15 {X : Nat × (Nat → Int32)} {d : Nat} (n : Nat) (x1 : Int32) (x2 : Int32) (x3 : Int32) (S : St) : ex X d 165 53 [.ref 29, .int x1, .int x2, .int x3] [.int (S.1 43 (x1).toNatClampNeg), .int x3] (hh S) (n + 4) = if (kd 45).1 = 0 ∧ xa_in x1 (kd 45).2 then ex X d 165 59 [.ref 29, .int x1, .int x2, .int x3] [.int (S.1 45 (x1).toNatClampNeg), .int (S.1 43 (x1).toNatClampNeg), .int x3] (hh S) n else none := rfl
theorem B_165_16 {X : Nat × (Nat → Int32)} {d : Nat} (n : Nat) (x1 : Int32) (x2 : Int32) (x3 : Int32) (S : St) : ex X d 165 59 [.ref 29, .int x1, .int x2, .int x3] [.int (S.1 45 (x1).toNatClampNeg), .int (S.1 43 (x1).toNatClampNeg), .int x3] (hh S) (n + 2) = if x3 ≤ ((S.1 43 (x1).toNatClampNeg) - (S.1 45 (x1).toNatClampNeg)) then ex X d 165 67 [.ref 29, .int x1, .int x2, .int x3] [] (hh S) n else ex X d 165 63 [.ref 29, .int x1, .int x2, .int x3] [] (hh S) n := rfl
theorem B_165_17 {X : Nat × (Nat → Int32)} {d : Nat} (n : Nat) (x1 : Int32) (x2 : Int32) (x3 : Int32) (S : St) : ex X d 165 59 [.ref 29, .int x1, .int x2, .int x3] [.int (S.1 45 (x1).toNatClampNeg), .int (S.1 43 (x1).toNatClampNeg), .int x3] (hh S) (n + 2) = if x3 ≤ ((S.1 43 (x1).toNatClampNeg) - (S.1 45 (x1).toNatClampNeg)) then ex X d 165 67 [.ref 29, .int x1, .int x2, .int x3] [] (hh S) n else ex X d 165 63 [.ref 29, .int x1, .int x2, .int x3] [] (hh S) n := rfl
set_option maxRecDepth 200000 in
theorem T_165 {X : Nat × (Nat → Int32)} (S : St) (x1 : Int32) (x2 : Int32) (x3 : Int32) (r : Int32) (S' : St) (hG : G_165 S x1 x2 x3 = some (r, S')) : Ev X 0 165 0 [.ref 29, .int x1, .int x2, .int x3] [] (hh S) (xI r, hh S') := by
  unfold G_165 at hG
  by_cases g1 : xa_in x1 4
  rotate_left
  · rw [if_neg g1] at hG; cases hG
  rw [if_pos g1] at hG
  refine Ev.g (c := (kd 49).1 = 1 ∧ xa_in x1 (kd 49).2) (p1 := 6) (L1 := [.ref 29, .int x1, .int x2, .int x3]) (s1 := [.int (S.1 49 (x1).toNatClampNeg)]) (h1 := hh S) 4 (fun n => B_165_1 n x1 x2 x3 S) (⟨rfl, g1⟩) ?_
  by_cases c2 : (S.1 49 (x1).toNatClampNeg) = 0
  · rw [if_pos c2] at hG
    refine Ev.t (c := (S.1 49 (x1).toNatClampNeg) = 0) (p1 := 67) (L1 := [.ref 29, .int x1, .int x2, .int x3]) (s1 := []) (h1 := hh S) (p2 := 9) (L2 := [.ref 29, .int x1, .int x2, .int x3]) (s2 := []) (h2 := hh S) 1 (fun n => B_165_2 n x1 x2 x3 S) c2 ?_
    obtain ⟨e1, e2⟩ := Prod.mk.inj (Option.some.inj hG)
    subst e1
    subst e2
    exact Ev.rg (c := (xm_z 165 = 0 ∨ (xm_z 165 = 1 ∧ ((0 : Int32) = 0 ∨ (0 : Int32) = 1)) ∨ (xm_z 165 = 2 ∧ ((0 : Int32)).toInt8.toInt32 = (0 : Int32)) ∨ (xm_z 165 = 3 ∧ ((0 : Int32)).toUInt32.toUInt16.toUInt32.toInt32 = (0 : Int32)))) 2 (fun n => rfl) (Or.inr (Or.inl ⟨rfl, by decide⟩))
  · rw [if_neg c2] at hG
    refine Ev.f (c := (S.1 49 (x1).toNatClampNeg) = 0) (p1 := 67) (L1 := [.ref 29, .int x1, .int x2, .int x3]) (s1 := []) (h1 := hh S) (p2 := 9) (L2 := [.ref 29, .int x1, .int x2, .int x3]) (s2 := []) (h2 := hh S) 1 (fun n => B_165_3 n x1 x2 x3 S) c2 ?_
    refine Ev.g (c := (kd 42).1 = 0 ∧ xa_in x1 (kd 42).2) (p1 := 16) (L1 := [.ref 29, .int x1, .int x2, .int x3]) (s1 := [.int (S.1 42 (x1).toNatClampNeg), .int x2]) (h1 := hh S) 5 (fun n => B_165_4 n x1 x2 x3 S) (⟨rfl, g1⟩) ?_
    by_cases c3 : x2 < (S.1 42 (x1).toNatClampNeg)
    · rw [if_pos c3] at hG
      refine Ev.t (c := x2 < (S.1 42 (x1).toNatClampNeg)) (p1 := 67) (L1 := [.ref 29, .int x1, .int x2, .int x3]) (s1 := []) (h1 := hh S) (p2 := 19) (L2 := [.ref 29, .int x1, .int x2, .int x3]) (s2 := []) (h2 := hh S) 1 (fun n => B_165_5 n x1 x2 x3 S) c3 ?_
      obtain ⟨e1, e2⟩ := Prod.mk.inj (Option.some.inj hG)
      subst e1
      subst e2
      exact Ev.rg (c := (xm_z 165 = 0 ∨ (xm_z 165 = 1 ∧ ((0 : Int32) = 0 ∨ (0 : Int32) = 1)) ∨ (xm_z 165 = 2 ∧ ((0 : Int32)).toInt8.toInt32 = (0 : Int32)) ∨ (xm_z 165 = 3 ∧ ((0 : Int32)).toUInt32.toUInt16.toUInt32.toInt32 = (0 : Int32)))) 2 (fun n => rfl) (Or.inr (Or.inl ⟨rfl, by decide⟩))
    · rw [if_neg c3] at hG
      refine Ev.f (c := x2 < (S.1 42 (x1).toNatClampNeg)) (p1 := 67) (L1 := [.ref 29, .int x1, .int x2, .int x3]) (s1 := []) (h1 := hh S) (p2 := 19) (L2 := [.ref 29, .int x1, .int x2, .int x3]) (s2 := []) (h2 := hh S) 1 (fun n => B_165_6 n x1 x2 x3 S) c3 ?_
      refine Ev.g (c := (kd 42).1 = 0 ∧ xa_in x1 (kd 42).2) (p1 := 26) (L1 := [.ref 29, .int x1, .int x2, .int x3]) (s1 := [.int (S.1 42 (x1).toNatClampNeg), .int x2]) (h1 := hh S) 5 (fun n => B_165_7 n x1 x2 x3 S) (⟨rfl, g1⟩) ?_
      refine Ev.g (c := (kd 44).1 = 0 ∧ xa_in x1 (kd 44).2) (p1 := 32) (L1 := [.ref 29, .int x1, .int x2, .int x3]) (s1 := [.int (S.1 44 (x1).toNatClampNeg), .int (S.1 42 (x1).toNatClampNeg), .int x2]) (h1 := hh S) 4 (fun n => B_165_8 n x1 x2 x3 S) (⟨rfl, g1⟩) ?_
      by_cases c4 : ((S.1 42 (x1).toNatClampNeg) + (S.1 44 (x1).toNatClampNeg)) ≤ x2
      · rw [if_pos c4] at hG
        refine Ev.t (c := ((S.1 42 (x1).toNatClampNeg) + (S.1 44 (x1).toNatClampNeg)) ≤ x2) (p1 := 67) (L1 := [.ref 29, .int x1, .int x2, .int x3]) (s1 := []) (h1 := hh S) (p2 := 36) (L2 := [.ref 29, .int x1, .int x2, .int x3]) (s2 := []) (h2 := hh S) 2 (fun n => B_165_9 n x1 x2 x3 S) c4 ?_
        obtain ⟨e1, e2⟩ := Prod.mk.inj (Option.some.inj hG)
        subst e1
        subst e2
        exact Ev.rg (c := (xm_z 165 = 0 ∨ (xm_z 165 = 1 ∧ ((0 : Int32) = 0 ∨ (0 : Int32) = 1)) ∨ (xm_z 165 = 2 ∧ ((0 : Int32)).toInt8.toInt32 = (0 : Int32)) ∨ (xm_z 165 = 3 ∧ ((0 : Int32)).toUInt32.toUInt16.toUInt32.toInt32 = (0 : Int32)))) 2 (fun n => rfl) (Or.inr (Or.inl ⟨rfl, by decide⟩))
      · rw [if_neg c4] at hG
        refine Ev.f (c := ((S.1 42 (x1).toNatClampNeg) + (S.1 44 (x1).toNatClampNeg)) ≤ x2) (p1 := 67) (L1 := [.ref 29, .int x1, .int x2, .int x3]) (s1 := []) (h1 := hh S) (p2 := 36) (L2 := [.ref 29, .int x1, .int x2, .int x3]) (s2 := []) (h2 := hh S) 2 (fun n => B_165_10 n x1 x2 x3 S) c4 ?_
        refine Ev.g (c := (kd 43).1 = 0 ∧ xa_in x1 (kd 43).2) (p1 := 43) (L1 := [.ref 29, .int x1, .int x2, .int x3]) (s1 := [.int (S.1 43 (x1).toNatClampNeg), .int x3]) (h1 := hh S) 5 (fun n => B_165_11 n x1 x2 x3 S) (⟨rfl, g1⟩) ?_
        by_cases c5 : (S.1 43 (x1).toNatClampNeg) < x3
        · rw [if_pos c5] at hG
          refine Ev.t (c := (S.1 43 (x1).toNatClampNeg) < x3) (p1 := 67) (L1 := [.ref 29, .int x1, .int x2, .int x3]) (s1 := []) (h1 := hh S) (p2 := 46) (L2 := [.ref 29, .int x1, .int x2, .int x3]) (s2 := []) (h2 := hh S) 1 (fun n => B_165_12 n x1 x2 x3 S) c5 ?_
          obtain ⟨e1, e2⟩ := Prod.mk.inj (Option.some.inj hG)
          subst e1
          subst e2
          exact Ev.rg (c := (xm_z 165 = 0 ∨ (xm_z 165 = 1 ∧ ((0 : Int32) = 0 ∨ (0 : Int32) = 1)) ∨ (xm_z 165 = 2 ∧ ((0 : Int32)).toInt8.toInt32 = (0 : Int32)) ∨ (xm_z 165 = 3 ∧ ((0 : Int32)).toUInt32.toUInt16.toUInt32.toInt32 = (0 : Int32)))) 2 (fun n => rfl) (Or.inr (Or.inl ⟨rfl, by decide⟩))
        · rw [if_neg c5] at hG
          refine Ev.f (c := (S.1 43 (x1).toNatClampNeg) < x3) (p1 := 67) (L1 := [.ref 29, .int x1, .int x2, .int x3]) (s1 := []) (h1 := hh S) (p2 := 46) (L2 := [.ref 29, .int x1, .int x2, .int x3]) (s2 := []) (h2 := hh S) 1 (fun n => B_165_13 n x1 x2 x3 S) c5 ?_
          refine Ev.g (c := (kd 43).1 = 0 ∧ xa_in x1 (kd 43).2) (p1 := 53) (L1 := [.ref 29, .int x1, .int x2, .int x3]) (s1 := [.int (S.1 43 (x1).toNatClampNeg), .int x3]) (h1 := hh S) 5 (fun n => B_165_14 n x1 x2 x3 S) (⟨rfl, g1⟩) ?_
          refine Ev.g (c := (kd 45).1 = 0 ∧ xa_in x1 (kd 45).2) (p1 := 59) (L1 := [.ref 29, .int x1, .int x2, .int x3]) (s1 := [.int (S.1 45 (x1).toNatClampNeg), .int (S.1 43 (x1).toNatClampNeg), .int x3]) (h1 := hh S) 4 (fun n => B_165_15 n x1 x2 x3 S) (⟨rfl, g1⟩) ?_
          by_cases c6 : x3 ≤ ((S.1 43 (x1).toNatClampNeg) - (S.1 45 (x1).toNatClampNeg))
          · rw [if_pos c6] at hG
            refine Ev.t (c := x3 ≤ ((S.1 43 (x1).toNatClampNeg) - (S.1 45 (x1).toNatClampNeg))) (p1 := 67) (L1 := [.ref 29, .int x1, .int x2, .int x3]) (s1 := []) (h1 := hh S) (p2 := 63) (L2 := [.ref 29, .int x1, .int x2, .int x3]) (s2 := []) (h2 := hh S) 2 (fun n => B_165_16 n x1 x2 x3 S) c6 ?_
            obtain ⟨e1, e2⟩ := Prod.mk.inj (Option.some.inj hG)
            subst e1
            subst e2
            exact Ev.rg (c := (xm_z 165 = 0 ∨ (xm_z 165 = 1 ∧ ((0 : Int32) = 0 ∨ (0 : Int32) = 1)) ∨ (xm_z 165 = 2 ∧ ((0 : Int32)).toInt8.toInt32 = (0 : Int32)) ∨ (xm_z 165 = 3 ∧ ((0 : Int32)).toUInt32.toUInt16.toUInt32.toInt32 = (0 : Int32)))) 2 (fun n => rfl) (Or.inr (Or.inl ⟨rfl, by decide⟩))
          · rw [if_neg c6] at hG
            refine Ev.f (c := x3 ≤ ((S.1 43 (x1).toNatClampNeg) - (S.1 45 (x1).toNatClampNeg))) (p1 := 67) (L1 := [.ref 29, .int x1, .int x2, .int x3]) (s1 := []) (h1 := hh S) (p2 := 63) (L2 := [.ref 29, .int x1, .int x2, .int x3]) (s2 := []) (h2 := hh S) 2 (fun n => B_165_17 n x1 x2 x3 S) c6 ?_
            obtain ⟨e1, e2⟩ := Prod.mk.inj (Option.some.inj hG)
            subst e1
            subst e2
            exact Ev.rg (c := (xm_z 165 = 0 ∨ (xm_z 165 = 1 ∧ ((1 : Int32) = 0 ∨ (1 : Int32) = 1)) ∨ (xm_z 165 = 2 ∧ ((1 : Int32)).toInt8.toInt32 = (1 : Int32)) ∨ (xm_z 165 = 3 ∧ ((1 : Int32)).toUInt32.toUInt16.toUInt32.toInt32 = (1 : Int32)))) 3 (fun n => rfl) (Or.inr (Or.inl ⟨rfl, by decide⟩))
/-- 164: SceneCycleModel.seen(II)I -/
def GL_164_0 : Nat → St → Int32 → Int32 → Int32 → Int32 → Int32 → Option (Int32 × St)
  | 0, _, _, _, _, _, _ => none
  | n + 1, S, y1, y2, y3, y4, y5 =>
    (if 4 ≤ y5 then
      (if 0 ≤ y4 then
        some ((16 + y4), S)
      else
        (if xa_in ((16 * y2) + y1) 192 then
          some ((S.1 30 (((16 * y2) + y1)).toNatClampNeg), S)
        else none)
      )
    else
      (match G_165 S y5 y1 y2 with
      | none => none
      | some (v4, S4) =>
        (if v4 = 0 then
          GL_164_0 n S4 y1 y2 y3 y4 (y5 + 1)
        else
          (match G_154 S4 y5 with
          | none => none
          | some (v6, S6) =>
            (if v6 < y3 then
              GL_164_0 n S6 y1 y2 y3 y4 (y5 + 1)
            else
              (if y4 < 0 then
                GL_164_0 n S6 y1 y2 y3 y5 (y5 + 1)
              else
                (match G_154 S6 y5 with
                | none => none
                | some (v9, S9) =>
                  (match G_154 S9 y4 with
                  | none => none
                  | some (v10, S10) =>
                    (if v10 < v9 then
                      GL_164_0 n S10 y1 y2 y3 y5 (y5 + 1)
                    else
                      (match G_154 S10 y5 with
                      | none => none
                      | some (v12, S12) =>
                        (match G_154 S12 y4 with
                        | none => none
                        | some (v13, S13) =>
                          (if v12 = v13 then
                            (if xa_in y5 4 then
                              (if xa_in y4 4 then
                                (if (S13.1 43 (y5).toNatClampNeg) < (S13.1 43 (y4).toNatClampNeg) then
                                  GL_164_0 n S13 y1 y2 y3 y4 (y5 + 1)
                                else
                                  GL_164_0 n S13 y1 y2 y3 y5 (y5 + 1)
                                )
                              else none)
                            else none)
                          else
                            GL_164_0 n S13 y1 y2 y3 y4 (y5 + 1)
                          )
                        )
                      )
                    )
                  )
                )
              )
            )
          )
        )
      )
    )
theorem B_164_1 {X : Nat × (Nat → Int32)} {d : Nat} (n : Nat) (y1 : Int32) (y2 : Int32) (y3 : Int32) (y4 : Int32) (y5 : Int32) (w6 : Value) (S : St) : ex X d 164 79 [.ref 29, .int y1, .int y2, .int y3, .int y4, .int y5, w6] [] (hh S) (n + 3) = if 4 ≤ y5 then ex X d 164 185 [.ref 29, .int y1, .int y2, .int y3, .int y4, .int y5, w6] [] (hh S) n else ex X d 164 85 [.ref 29, .int y1, .int y2, .int y3, .int y4, .int y5, w6] [] (hh S) n := rfl
theorem B_164_2 {X : Nat × (Nat → Int32)} {d : Nat} (n : Nat) (y1 : Int32) (y2 : Int32) (y3 : Int32) (y4 : Int32) (y5 : Int32) (w6 : Value) (S : St) : ex X d 164 185 [.ref 29, .int y1, .int y2, .int y3, .int y4, .int y5, w6] [] (hh S) (n + 2) = if 0 ≤ y4 then ex X d 164 204 [.ref 29, .int y1, .int y2, .int y3, .int y4, .int y5, w6] [] (hh S) n else ex X d 164 190 [.ref 29, .int y1, .int y2, .int y3, .int y4, .int y5, w6] [] (hh S) n := rfl
theorem B_164_3 {X : Nat × (Nat → Int32)} {d : Nat} (n : Nat) (y1 : Int32) (y2 : Int32) (y3 : Int32) (y4 : Int32) (y5 : Int32) (w6 : Value) (S : St) : ex X d 164 185 [.ref 29, .int y1, .int y2, .int y3, .int y4, .int y5, w6] [] (hh S) (n + 2) = if 0 ≤ y4 then ex X d 164 204 [.ref 29, .int y1, .int y2, .int y3, .int y4, .int y5, w6] [] (hh S) n else ex X d 164 190 [.ref 29, .int y1, .int y2, .int y3, .int y4, .int y5, w6] [] (hh S) n := rfl
theorem B_164_4 {X : Nat × (Nat → Int32)} {d : Nat} (n : Nat) (y1 : Int32) (y2 : Int32) (y3 : Int32) (y4 : Int32) (y5 : Int32) (w6 : Value) (S : St) : ex X d 164 190 [.ref 29, .int y1, .int y2, .int y3, .int y4, .int y5, w6] [] (hh S) (n + 8) = if (kd 30).1 = 0 ∧ xa_in ((16 * y2) + y1) (kd 30).2 then ex X d 164 201 [.ref 29, .int y1, .int y2, .int y3, .int y4, .int y5, w6] [.int (S.1 30 (((16 * y2) + y1)).toNatClampNeg)] (hh S) n else none := rfl
theorem B_164_5 {X : Nat × (Nat → Int32)} {d : Nat} (n : Nat) (y1 : Int32) (y2 : Int32) (y3 : Int32) (y4 : Int32) (y5 : Int32) (w6 : Value) (S : St) : ex X d 164 79 [.ref 29, .int y1, .int y2, .int y3, .int y4, .int y5, w6] [] (hh S) (n + 3) = if 4 ≤ y5 then ex X d 164 185 [.ref 29, .int y1, .int y2, .int y3, .int y4, .int y5, w6] [] (hh S) n else ex X d 164 85 [.ref 29, .int y1, .int y2, .int y3, .int y4, .int y5, w6] [] (hh S) n := rfl
theorem B_164_6 {X : Nat × (Nat → Int32)} {d : Nat} (n : Nat) (y1 : Int32) (y2 : Int32) (y3 : Int32) (y4 : Int32) (y5 : Int32) (w6 : Value) (S : St) : ex X (d + 1) 164 85 [.ref 29, .int y1, .int y2, .int y3, .int y4, .int y5, w6] [] (hh S) (n + 5) = (match ex X d 165 0 [.ref 29, .int y5, .int y1, .int y2] [] (hh S) n with | some (v, h') => ex X (d + 1) 164 93 [.ref 29, .int y1, .int y2, .int y3, .int y4, .int y5, w6] (v.toList ++ []) h' n | none => none) := rfl
theorem B_164_7 {X : Nat × (Nat → Int32)} {d : Nat} (n : Nat) (y1 : Int32) (y2 : Int32) (y3 : Int32) (y4 : Int32) (y5 : Int32) (w6 : Value) (v4 : Int32) (S4 : St) : ex X d 164 93 [.ref 29, .int y1, .int y2, .int y3, .int y4, .int y5, w6] [.int v4] (hh S4) (n + 1) = if v4 = 0 then ex X d 164 179 [.ref 29, .int y1, .int y2, .int y3, .int y4, .int y5, w6] [] (hh S4) n else ex X d 164 96 [.ref 29, .int y1, .int y2, .int y3, .int y4, .int y5, w6] [] (hh S4) n := rfl
theorem B_164_8 {X : Nat × (Nat → Int32)} {d : Nat} (n : Nat) (y1 : Int32) (y2 : Int32) (y3 : Int32) (y4 : Int32) (y5 : Int32) (w6 : Value) (S4 : St) : ex X d 164 179 [.ref 29, .int y1, .int y2, .int y3, .int y4, .int y5, w6] [] (hh S4) (n + 2) = ex X d 164 79 [.ref 29, .int y1, .int y2, .int y3, .int y4, .int (y5 + 1), w6] [] (hh S4) n := rfl
theorem B_164_9 {X : Nat × (Nat → Int32)} {d : Nat} (n : Nat) (y1 : Int32) (y2 : Int32) (y3 : Int32) (y4 : Int32) (y5 : Int32) (w6 : Value) (v4 : Int32) (S4 : St) : ex X d 164 93 [.ref 29, .int y1, .int y2, .int y3, .int y4, .int y5, w6] [.int v4] (hh S4) (n + 1) = if v4 = 0 then ex X d 164 179 [.ref 29, .int y1, .int y2, .int y3, .int y4, .int y5, w6] [] (hh S4) n else ex X d 164 96 [.ref 29, .int y1, .int y2, .int y3, .int y4, .int y5, w6] [] (hh S4) n := rfl
theorem B_164_10 {X : Nat × (Nat → Int32)} {d : Nat} (n : Nat) (y1 : Int32) (y2 : Int32) (y3 : Int32) (y4 : Int32) (y5 : Int32) (w6 : Value) (S4 : St) : ex X (d + 1) 164 96 [.ref 29, .int y1, .int y2, .int y3, .int y4, .int y5, w6] [] (hh S4) (n + 3) = (match ex X d 154 0 [.ref 29, .int y5] [] (hh S4) n with | some (v, h') => ex X (d + 1) 164 102 [.ref 29, .int y1, .int y2, .int y3, .int y4, .int y5, w6] (v.toList ++ []) h' n | none => none) := rfl
theorem B_164_11 {X : Nat × (Nat → Int32)} {d : Nat} (n : Nat) (y1 : Int32) (y2 : Int32) (y3 : Int32) (y4 : Int32) (y5 : Int32) (w6 : Value) (v6 : Int32) (S6 : St) : ex X d 164 102 [.ref 29, .int y1, .int y2, .int y3, .int y4, .int y5, w6] [.int v6] (hh S6) (n + 2) = if v6 < y3 then ex X d 164 179 [.ref 29, .int y1, .int y2, .int y3, .int y4, .int y5, w6] [] (hh S6) n else ex X d 164 106 [.ref 29, .int y1, .int y2, .int y3, .int y4, .int y5, w6] [] (hh S6) n := rfl
theorem B_164_12 {X : Nat × (Nat → Int32)} {d : Nat} (n : Nat) (y1 : Int32) (y2 : Int32) (y3 : Int32) (y4 : Int32) (y5 : Int32) (w6 : Value) (S6 : St) : ex X d 164 179 [.ref 29, .int y1, .int y2, .int y3, .int y4, .int y5, w6] [] (hh S6) (n + 2) = ex X d 164 79 [.ref 29, .int y1, .int y2, .int y3, .int y4, .int (y5 + 1), w6] [] (hh S6) n := rfl
theorem B_164_13 {X : Nat × (Nat → Int32)} {d : Nat} (n : Nat) (y1 : Int32) (y2 : Int32) (y3 : Int32) (y4 : Int32) (y5 : Int32) (w6 : Value) (v6 : Int32) (S6 : St) : ex X d 164 102 [.ref 29, .int y1, .int y2, .int y3, .int y4, .int y5, w6] [.int v6] (hh S6) (n + 2) = if v6 < y3 then ex X d 164 179 [.ref 29, .int y1, .int y2, .int y3, .int y4, .int y5, w6] [] (hh S6) n else ex X d 164 106 [.ref 29, .int y1, .int y2, .int y3, .int y4, .int y5, w6] [] (hh S6) n := rfl
theorem B_164_14 {X : Nat × (Nat → Int32)} {d : Nat} (n : Nat) (y1 : Int32) (y2 : Int32) (y3 : Int32) (y4 : Int32) (y5 : Int32) (w6 : Value) (S6 : St) : ex X d 164 106 [.ref 29, .int y1, .int y2, .int y3, .int y4, .int y5, w6] [] (hh S6) (n + 2) = if y4 < 0 then ex X d 164 158 [.ref 29, .int y1, .int y2, .int y3, .int y4, .int y5, w6] [] (hh S6) n else ex X d 164 111 [.ref 29, .int y1, .int y2, .int y3, .int y4, .int y5, w6] [] (hh S6) n := rfl
theorem B_164_15 {X : Nat × (Nat → Int32)} {d : Nat} (n : Nat) (y1 : Int32) (y2 : Int32) (y3 : Int32) (y4 : Int32) (y5 : Int32) (w6 : Value) (S6 : St) : ex X d 164 158 [.ref 29, .int y1, .int y2, .int y3, .int y4, .int y5, w6] [] (hh S6) (n + 5) = if (1 : Int32) = 0 then ex X d 164 175 [.ref 29, .int y1, .int y2, .int y3, .int y4, .int y5, .int 1] [] (hh S6) n else ex X d 164 170 [.ref 29, .int y1, .int y2, .int y3, .int y4, .int y5, .int 1] [] (hh S6) n := rfl
theorem B_164_16 {X : Nat × (Nat → Int32)} {d : Nat} (n : Nat) (y1 : Int32) (y2 : Int32) (y3 : Int32) (y4 : Int32) (y5 : Int32) (S6 : St) : ex X d 164 170 [.ref 29, .int y1, .int y2, .int y3, .int y4, .int y5, .int 1] [] (hh S6) (n + 5) = ex X d 164 79 [.ref 29, .int y1, .int y2, .int y3, .int y5, .int (y5 + 1), .int 1] [] (hh S6) n := rfl
theorem B_164_17 {X : Nat × (Nat → Int32)} {d : Nat} (n : Nat) (y1 : Int32) (y2 : Int32) (y3 : Int32) (y4 : Int32) (y5 : Int32) (w6 : Value) (S6 : St) : ex X d 164 106 [.ref 29, .int y1, .int y2, .int y3, .int y4, .int y5, w6] [] (hh S6) (n + 2) = if y4 < 0 then ex X d 164 158 [.ref 29, .int y1, .int y2, .int y3, .int y4, .int y5, w6] [] (hh S6) n else ex X d 164 111 [.ref 29, .int y1, .int y2, .int y3, .int y4, .int y5, w6] [] (hh S6) n := rfl
theorem B_164_18 {X : Nat × (Nat → Int32)} {d : Nat} (n : Nat) (y1 : Int32) (y2 : Int32) (y3 : Int32) (y4 : Int32) (y5 : Int32) (w6 : Value) (S6 : St) : ex X (d + 1) 164 111 [.ref 29, .int y1, .int y2, .int y3, .int y4, .int y5, w6] [] (hh S6) (n + 3) = (match ex X d 154 0 [.ref 29, .int y5] [] (hh S6) n with | some (v, h') => ex X (d + 1) 164 117 [.ref 29, .int y1, .int y2, .int y3, .int y4, .int y5, w6] (v.toList ++ []) h' n | none => none) := rfl
theorem B_164_19 {X : Nat × (Nat → Int32)} {d : Nat} (n : Nat) (y1 : Int32) (y2 : Int32) (y3 : Int32) (y4 : Int32) (y5 : Int32) (w6 : Value) (v9 : Int32) (S9 : St) : ex X (d + 1) 164 117 [.ref 29, .int y1, .int y2, .int y3, .int y4, .int y5, w6] [.int v9] (hh S9) (n + 3) = (match ex X d 154 0 [.ref 29, .int y4] [] (hh S9) n with | some (v, h') => ex X (d + 1) 164 123 [.ref 29, .int y1, .int y2, .int y3, .int y4, .int y5, w6] (v.toList ++ [.int v9]) h' n | none => none) := rfl
theorem B_164_20 {X : Nat × (Nat → Int32)} {d : Nat} (n : Nat) (y1 : Int32) (y2 : Int32) (y3 : Int32) (y4 : Int32) (y5 : Int32) (w6 : Value) (v10 : Int32) (v9 : Int32) (S10 : St) : ex X d 164 123 [.ref 29, .int y1, .int y2, .int y3, .int y4, .int y5, w6] [.int v10, .int v9] (hh S10) (n + 1) = if v10 < v9 then ex X d 164 158 [.ref 29, .int y1, .int y2, .int y3, .int y4, .int y5, w6] [] (hh S10) n else ex X d 164 126 [.ref 29, .int y1, .int y2, .int y3, .int y4, .int y5, w6] [] (hh S10) n := rfl
theorem B_164_21 {X : Nat × (Nat → Int32)} {d : Nat} (n : Nat) (y1 : Int32) (y2 : Int32) (y3 : Int32) (y4 : Int32) (y5 : Int32) (w6 : Value) (S10 : St) : ex X d 164 158 [.ref 29, .int y1, .int y2, .int y3, .int y4, .int y5, w6] [] (hh S10) (n + 5) = if (1 : Int32) = 0 then ex X d 164 175 [.ref 29, .int y1, .int y2, .int y3, .int y4, .int y5, .int 1] [] (hh S10) n else ex X d 164 170 [.ref 29, .int y1, .int y2, .int y3, .int y4, .int y5, .int 1] [] (hh S10) n := rfl
theorem B_164_22 {X : Nat × (Nat → Int32)} {d : Nat} (n : Nat) (y1 : Int32) (y2 : Int32) (y3 : Int32) (y4 : Int32) (y5 : Int32) (S10 : St) : ex X d 164 170 [.ref 29, .int y1, .int y2, .int y3, .int y4, .int y5, .int 1] [] (hh S10) (n + 5) = ex X d 164 79 [.ref 29, .int y1, .int y2, .int y3, .int y5, .int (y5 + 1), .int 1] [] (hh S10) n := rfl
theorem B_164_23 {X : Nat × (Nat → Int32)} {d : Nat} (n : Nat) (y1 : Int32) (y2 : Int32) (y3 : Int32) (y4 : Int32) (y5 : Int32) (w6 : Value) (v10 : Int32) (v9 : Int32) (S10 : St) : ex X d 164 123 [.ref 29, .int y1, .int y2, .int y3, .int y4, .int y5, w6] [.int v10, .int v9] (hh S10) (n + 1) = if v10 < v9 then ex X d 164 158 [.ref 29, .int y1, .int y2, .int y3, .int y4, .int y5, w6] [] (hh S10) n else ex X d 164 126 [.ref 29, .int y1, .int y2, .int y3, .int y4, .int y5, w6] [] (hh S10) n := rfl
theorem B_164_24 {X : Nat × (Nat → Int32)} {d : Nat} (n : Nat) (y1 : Int32) (y2 : Int32) (y3 : Int32) (y4 : Int32) (y5 : Int32) (w6 : Value) (S10 : St) : ex X (d + 1) 164 126 [.ref 29, .int y1, .int y2, .int y3, .int y4, .int y5, w6] [] (hh S10) (n + 3) = (match ex X d 154 0 [.ref 29, .int y5] [] (hh S10) n with | some (v, h') => ex X (d + 1) 164 132 [.ref 29, .int y1, .int y2, .int y3, .int y4, .int y5, w6] (v.toList ++ []) h' n | none => none) := rfl
theorem B_164_25 {X : Nat × (Nat → Int32)} {d : Nat} (n : Nat) (y1 : Int32) (y2 : Int32) (y3 : Int32) (y4 : Int32) (y5 : Int32) (w6 : Value) (v12 : Int32) (S12 : St) : ex X (d + 1) 164 132 [.ref 29, .int y1, .int y2, .int y3, .int y4, .int y5, w6] [.int v12] (hh S12) (n + 3) = (match ex X d 154 0 [.ref 29, .int y4] [] (hh S12) n with | some (v, h') => ex X (d + 1) 164 138 [.ref 29, .int y1, .int y2, .int y3, .int y4, .int y5, w6] (v.toList ++ [.int v12]) h' n | none => none) := rfl
theorem B_164_26 {X : Nat × (Nat → Int32)} {d : Nat} (n : Nat) (y1 : Int32) (y2 : Int32) (y3 : Int32) (y4 : Int32) (y5 : Int32) (w6 : Value) (v13 : Int32) (v12 : Int32) (S13 : St) : ex X d 164 138 [.ref 29, .int y1, .int y2, .int y3, .int y4, .int y5, w6] [.int v13, .int v12] (hh S13) (n + 1) = if v12 = v13 then ex X d 164 141 [.ref 29, .int y1, .int y2, .int y3, .int y4, .int y5, w6] [] (hh S13) n else ex X d 164 162 [.ref 29, .int y1, .int y2, .int y3, .int y4, .int y5, w6] [] (hh S13) n := rfl
theorem B_164_27 {X : Nat × (Nat → Int32)} {d : Nat} (n : Nat) (y1 : Int32) (y2 : Int32) (y3 : Int32) (y4 : Int32) (y5 : Int32) (w6 : Value) (S13 : St) : ex X d 164 141 [.ref 29, .int y1, .int y2, .int y3, .int y4, .int y5, w6] [] (hh S13) (n + 4) = if (kd 43).1 = 0 ∧ xa_in y5 (kd 43).2 then ex X d 164 148 [.ref 29, .int y1, .int y2, .int y3, .int y4, .int y5, w6] [.int (S13.1 43 (y5).toNatClampNeg)] (hh S13) n else none := rfl
theorem B_164_28 {X : Nat × (Nat → Int32)} {d : Nat} (n : Nat) (y1 : Int32) (y2 : Int32) (y3 : Int32) (y4 : Int32) (y5 : Int32) (w6 : Value) (S13 : St) : ex X d 164 148 [.ref 29, .int y1, .int y2, .int y3, .int y4, .int y5, w6] [.int (S13.1 43 (y5).toNatClampNeg)] (hh S13) (n + 4) = if (kd 43).1 = 0 ∧ xa_in y4 (kd 43).2 then ex X d 164 155 [.ref 29, .int y1, .int y2, .int y3, .int y4, .int y5, w6] [.int (S13.1 43 (y4).toNatClampNeg), .int (S13.1 43 (y5).toNatClampNeg)] (hh S13) n else none := rfl
theorem B_164_29 {X : Nat × (Nat → Int32)} {d : Nat} (n : Nat) (y1 : Int32) (y2 : Int32) (y3 : Int32) (y4 : Int32) (y5 : Int32) (w6 : Value) (S13 : St) : ex X d 164 155 [.ref 29, .int y1, .int y2, .int y3, .int y4, .int y5, w6] [.int (S13.1 43 (y4).toNatClampNeg), .int (S13.1 43 (y5).toNatClampNeg)] (hh S13) (n + 1) = if (S13.1 43 (y5).toNatClampNeg) < (S13.1 43 (y4).toNatClampNeg) then ex X d 164 162 [.ref 29, .int y1, .int y2, .int y3, .int y4, .int y5, w6] [] (hh S13) n else ex X d 164 158 [.ref 29, .int y1, .int y2, .int y3, .int y4, .int y5, w6] [] (hh S13) n := rfl
theorem B_164_30 {X : Nat × (Nat → Int32)} {d : Nat} (n : Nat) (y1 : Int32) (y2 : Int32) (y3 : Int32) (y4 : Int32) (y5 : Int32) (w6 : Value) (S13 : St) : ex X d 164 162 [.ref 29, .int y1, .int y2, .int y3, .int y4, .int y5, w6] [] (hh S13) (n + 4) = if (0 : Int32) = 0 then ex X d 164 175 [.ref 29, .int y1, .int y2, .int y3, .int y4, .int y5, .int 0] [] (hh S13) n else ex X d 164 170 [.ref 29, .int y1, .int y2, .int y3, .int y4, .int y5, .int 0] [] (hh S13) n := rfl
theorem B_164_31 {X : Nat × (Nat → Int32)} {d : Nat} (n : Nat) (y1 : Int32) (y2 : Int32) (y3 : Int32) (y4 : Int32) (y5 : Int32) (S13 : St) : ex X d 164 175 [.ref 29, .int y1, .int y2, .int y3, .int y4, .int y5, .int 0] [] (hh S13) (n + 4) = ex X d 164 79 [.ref 29, .int y1, .int y2, .int y3, .int y4, .int (y5 + 1), .int 0] [] (hh S13) n := rfl
theorem B_164_32 {X : Nat × (Nat → Int32)} {d : Nat} (n : Nat) (y1 : Int32) (y2 : Int32) (y3 : Int32) (y4 : Int32) (y5 : Int32) (w6 : Value) (S13 : St) : ex X d 164 155 [.ref 29, .int y1, .int y2, .int y3, .int y4, .int y5, w6] [.int (S13.1 43 (y4).toNatClampNeg), .int (S13.1 43 (y5).toNatClampNeg)] (hh S13) (n + 1) = if (S13.1 43 (y5).toNatClampNeg) < (S13.1 43 (y4).toNatClampNeg) then ex X d 164 162 [.ref 29, .int y1, .int y2, .int y3, .int y4, .int y5, w6] [] (hh S13) n else ex X d 164 158 [.ref 29, .int y1, .int y2, .int y3, .int y4, .int y5, w6] [] (hh S13) n := rfl
theorem B_164_33 {X : Nat × (Nat → Int32)} {d : Nat} (n : Nat) (y1 : Int32) (y2 : Int32) (y3 : Int32) (y4 : Int32) (y5 : Int32) (w6 : Value) (S13 : St) : ex X d 164 158 [.ref 29, .int y1, .int y2, .int y3, .int y4, .int y5, w6] [] (hh S13) (n + 5) = if (1 : Int32) = 0 then ex X d 164 175 [.ref 29, .int y1, .int y2, .int y3, .int y4, .int y5, .int 1] [] (hh S13) n else ex X d 164 170 [.ref 29, .int y1, .int y2, .int y3, .int y4, .int y5, .int 1] [] (hh S13) n := rfl
theorem B_164_34 {X : Nat × (Nat → Int32)} {d : Nat} (n : Nat) (y1 : Int32) (y2 : Int32) (y3 : Int32) (y4 : Int32) (y5 : Int32) (S13 : St) : ex X d 164 170 [.ref 29, .int y1, .int y2, .int y3, .int y4, .int y5, .int 1] [] (hh S13) (n + 5) = ex X d 164 79 [.ref 29, .int y1, .int y2, .int y3, .int y5, .int (y5 + 1), .int 1] [] (hh S13) n := rfl
theorem B_164_35 {X : Nat × (Nat → Int32)} {d : Nat} (n : Nat) (y1 : Int32) (y2 : Int32) (y3 : Int32) (y4 : Int32) (y5 : Int32) (w6 : Value) (v13 : Int32) (v12 : Int32) (S13 : St) : ex X d 164 138 [.ref 29, .int y1, .int y2, .int y3, .int y4, .int y5, w6] [.int v13, .int v12] (hh S13) (n + 1) = if v12 = v13 then ex X d 164 141 [.ref 29, .int y1, .int y2, .int y3, .int y4, .int y5, w6] [] (hh S13) n else ex X d 164 162 [.ref 29, .int y1, .int y2, .int y3, .int y4, .int y5, w6] [] (hh S13) n := rfl
theorem B_164_36 {X : Nat × (Nat → Int32)} {d : Nat} (n : Nat) (y1 : Int32) (y2 : Int32) (y3 : Int32) (y4 : Int32) (y5 : Int32) (w6 : Value) (S13 : St) : ex X d 164 162 [.ref 29, .int y1, .int y2, .int y3, .int y4, .int y5, w6] [] (hh S13) (n + 4) = if (0 : Int32) = 0 then ex X d 164 175 [.ref 29, .int y1, .int y2, .int y3, .int y4, .int y5, .int 0] [] (hh S13) n else ex X d 164 170 [.ref 29, .int y1, .int y2, .int y3, .int y4, .int y5, .int 0] [] (hh S13) n := rfl
theorem B_164_37 {X : Nat × (Nat → Int32)} {d : Nat} (n : Nat) (y1 : Int32) (y2 : Int32) (y3 : Int32) (y4 : Int32) (y5 : Int32) (S13 : St) : ex X d 164 175 [.ref 29, .int y1, .int y2, .int y3, .int y4, .int y5, .int 0] [] (hh S13) (n + 4) = ex X d 164 79 [.ref 29, .int y1, .int y2, .int y3, .int y4, .int (y5 + 1), .int 0] [] (hh S13) n := rfl
set_option maxRecDepth 200000 in
theorem TL_164_0 {X : Nat × (Nat → Int32)} : ∀ (n : Nat) (S : St) (y1 : Int32) (y2 : Int32) (y3 : Int32) (y4 : Int32) (y5 : Int32) (r : Int32) (S' : St), GL_164_0 n S y1 y2 y3 y4 y5 = some (r, S') → ∀ (w6 : Value), Ev X 1 164 79 [.ref 29, .int y1, .int y2, .int y3, .int y4, .int y5, w6] [] (hh S) (xI r, hh S') := by
  intro n
  induction n with
  | zero => intro S y1 y2 y3 y4 y5 r S' hG; simp [GL_164_0] at hG
  | succ n ih =>
    intro S y1 y2 y3 y4 y5 r S' hG w6
    rw [GL_164_0] at hG
    by_cases c1 : 4 ≤ y5
    · rw [if_pos c1] at hG
      refine Ev.t (c := 4 ≤ y5) (p1 := 185) (L1 := [.ref 29, .int y1, .int y2, .int y3, .int y4, .int y5, w6]) (s1 := []) (h1 := hh S) (p2 := 85) (L2 := [.ref 29, .int y1, .int y2, .int y3, .int y4, .int y5, w6]) (s2 := []) (h2 := hh S) 3 (fun n => B_164_1 n y1 y2 y3 y4 y5 w6 S) c1 ?_
      by_cases c2 : 0 ≤ y4
      · rw [if_pos c2] at hG
        refine Ev.t (c := 0 ≤ y4) (p1 := 204) (L1 := [.ref 29, .int y1, .int y2, .int y3, .int y4, .int y5, w6]) (s1 := []) (h1 := hh S) (p2 := 190) (L2 := [.ref 29, .int y1, .int y2, .int y3, .int y4, .int y5, w6]) (s2 := []) (h2 := hh S) 2 (fun n => B_164_2 n y1 y2 y3 y4 y5 w6 S) c2 ?_
        obtain ⟨e1, e2⟩ := Prod.mk.inj (Option.some.inj hG)
        subst e1
        subst e2
        exact Ev.r 4 (fun n => rfl)
      · rw [if_neg c2] at hG
        refine Ev.f (c := 0 ≤ y4) (p1 := 204) (L1 := [.ref 29, .int y1, .int y2, .int y3, .int y4, .int y5, w6]) (s1 := []) (h1 := hh S) (p2 := 190) (L2 := [.ref 29, .int y1, .int y2, .int y3, .int y4, .int y5, w6]) (s2 := []) (h2 := hh S) 2 (fun n => B_164_3 n y1 y2 y3 y4 y5 w6 S) c2 ?_
        by_cases g3 : xa_in ((16 * y2) + y1) 192
        rotate_left
        · rw [if_neg g3] at hG; cases hG
        rw [if_pos g3] at hG
        refine Ev.g (c := (kd 30).1 = 0 ∧ xa_in ((16 * y2) + y1) (kd 30).2) (p1 := 201) (L1 := [.ref 29, .int y1, .int y2, .int y3, .int y4, .int y5, w6]) (s1 := [.int (S.1 30 (((16 * y2) + y1)).toNatClampNeg)]) (h1 := hh S) 8 (fun n => B_164_4 n y1 y2 y3 y4 y5 w6 S) (⟨rfl, g3⟩) ?_
        obtain ⟨e1, e2⟩ := Prod.mk.inj (Option.some.inj hG)
        subst e1
        subst e2
        exact Ev.r 2 (fun n => rfl)
    · rw [if_neg c1] at hG
      refine Ev.f (c := 4 ≤ y5) (p1 := 185) (L1 := [.ref 29, .int y1, .int y2, .int y3, .int y4, .int y5, w6]) (s1 := []) (h1 := hh S) (p2 := 85) (L2 := [.ref 29, .int y1, .int y2, .int y3, .int y4, .int y5, w6]) (s2 := []) (h2 := hh S) 3 (fun n => B_164_5 n y1 y2 y3 y4 y5 w6 S) c1 ?_
      rcases h4 : G_165 S y5 y1 y2 with _ | ⟨v4, S4⟩
      · rw [h4] at hG; cases hG
      rw [h4] at hG
      dsimp only at hG
      refine Ev.c (a := 165) (A := [.ref 29, .int y5, .int y1, .int y2]) (h1 := hh S) (pc' := 93) (L' := [.ref 29, .int y1, .int y2, .int y3, .int y4, .int y5, w6]) (rest := []) (r1 := some (.int v4)) (h2 := hh S4) 5 (fun n => B_164_6 n y1 y2 y3 y4 y5 w6 S) (Ev.up (by decide) (T_165 S y5 y1 y2 _ _ h4)) ?_
      show Ev X _ 164 93 [.ref 29, .int y1, .int y2, .int y3, .int y4, .int y5, w6] [.int v4] (hh S4) _
      by_cases c5 : v4 = 0
      · rw [if_pos c5] at hG
        refine Ev.t (c := v4 = 0) (p1 := 179) (L1 := [.ref 29, .int y1, .int y2, .int y3, .int y4, .int y5, w6]) (s1 := []) (h1 := hh S4) (p2 := 96) (L2 := [.ref 29, .int y1, .int y2, .int y3, .int y4, .int y5, w6]) (s2 := []) (h2 := hh S4) 1 (fun n => B_164_7 n y1 y2 y3 y4 y5 w6 v4 S4) c5 ?_
        exact Ev.b (pc' := 79) (L' := [.ref 29, .int y1, .int y2, .int y3, .int y4, .int (y5 + 1), w6]) (st' := []) (h' := hh S4) 2 (fun n => B_164_8 n y1 y2 y3 y4 y5 w6 S4) (ih S4 y1 y2 y3 y4 (y5 + 1) _ _ hG w6)
      · rw [if_neg c5] at hG
        refine Ev.f (c := v4 = 0) (p1 := 179) (L1 := [.ref 29, .int y1, .int y2, .int y3, .int y4, .int y5, w6]) (s1 := []) (h1 := hh S4) (p2 := 96) (L2 := [.ref 29, .int y1, .int y2, .int y3, .int y4, .int y5, w6]) (s2 := []) (h2 := hh S4) 1 (fun n => B_164_9 n y1 y2 y3 y4 y5 w6 v4 S4) c5 ?_
        rcases h6 : G_154 S4 y5 with _ | ⟨v6, S6⟩
        · rw [h6] at hG; cases hG
        rw [h6] at hG
        dsimp only at hG
        refine Ev.c (a := 154) (A := [.ref 29, .int y5]) (h1 := hh S4) (pc' := 102) (L' := [.ref 29, .int y1, .int y2, .int y3, .int y4, .int y5, w6]) (rest := []) (r1 := some (.int v6)) (h2 := hh S6) 3 (fun n => B_164_10 n y1 y2 y3 y4 y5 w6 S4) (Ev.up (by decide) (T_154 S4 y5 _ _ h6)) ?_
        show Ev X _ 164 102 [.ref 29, .int y1, .int y2, .int y3, .int y4, .int y5, w6] [.int v6] (hh S6) _
        by_cases c7 : v6 < y3
        · rw [if_pos c7] at hG
          refine Ev.t (c := v6 < y3) (p1 := 179) (L1 := [.ref 29, .int y1, .int y2, .int y3, .int y4, .int y5, w6]) (s1 := []) (h1 := hh S6) (p2 := 106) (L2 := [.ref 29, .int y1, .int y2, .int y3, .int y4, .int y5, w6]) (s2 := []) (h2 := hh S6) 2 (fun n => B_164_11 n y1 y2 y3 y4 y5 w6 v6 S6) c7 ?_
          exact Ev.b (pc' := 79) (L' := [.ref 29, .int y1, .int y2, .int y3, .int y4, .int (y5 + 1), w6]) (st' := []) (h' := hh S6) 2 (fun n => B_164_12 n y1 y2 y3 y4 y5 w6 S6) (ih S6 y1 y2 y3 y4 (y5 + 1) _ _ hG w6)
        · rw [if_neg c7] at hG
          refine Ev.f (c := v6 < y3) (p1 := 179) (L1 := [.ref 29, .int y1, .int y2, .int y3, .int y4, .int y5, w6]) (s1 := []) (h1 := hh S6) (p2 := 106) (L2 := [.ref 29, .int y1, .int y2, .int y3, .int y4, .int y5, w6]) (s2 := []) (h2 := hh S6) 2 (fun n => B_164_13 n y1 y2 y3 y4 y5 w6 v6 S6) c7 ?_
          by_cases c8 : y4 < 0
          · rw [if_pos c8] at hG
            refine Ev.t (c := y4 < 0) (p1 := 158) (L1 := [.ref 29, .int y1, .int y2, .int y3, .int y4, .int y5, w6]) (s1 := []) (h1 := hh S6) (p2 := 111) (L2 := [.ref 29, .int y1, .int y2, .int y3, .int y4, .int y5, w6]) (s2 := []) (h2 := hh S6) 2 (fun n => B_164_14 n y1 y2 y3 y4 y5 w6 S6) c8 ?_
            refine Ev.f (c := (1 : Int32) = 0) (p1 := 175) (L1 := [.ref 29, .int y1, .int y2, .int y3, .int y4, .int y5, .int 1]) (s1 := []) (h1 := hh S6) (p2 := 170) (L2 := [.ref 29, .int y1, .int y2, .int y3, .int y4, .int y5, .int 1]) (s2 := []) (h2 := hh S6) 5 (fun n => B_164_15 n y1 y2 y3 y4 y5 w6 S6) (by decide) ?_
            exact Ev.b (pc' := 79) (L' := [.ref 29, .int y1, .int y2, .int y3, .int y5, .int (y5 + 1), .int 1]) (st' := []) (h' := hh S6) 5 (fun n => B_164_16 n y1 y2 y3 y4 y5 S6) (ih S6 y1 y2 y3 y5 (y5 + 1) _ _ hG (.int 1))
          · rw [if_neg c8] at hG
            refine Ev.f (c := y4 < 0) (p1 := 158) (L1 := [.ref 29, .int y1, .int y2, .int y3, .int y4, .int y5, w6]) (s1 := []) (h1 := hh S6) (p2 := 111) (L2 := [.ref 29, .int y1, .int y2, .int y3, .int y4, .int y5, w6]) (s2 := []) (h2 := hh S6) 2 (fun n => B_164_17 n y1 y2 y3 y4 y5 w6 S6) c8 ?_
            rcases h9 : G_154 S6 y5 with _ | ⟨v9, S9⟩
            · rw [h9] at hG; cases hG
            rw [h9] at hG
            dsimp only at hG
            refine Ev.c (a := 154) (A := [.ref 29, .int y5]) (h1 := hh S6) (pc' := 117) (L' := [.ref 29, .int y1, .int y2, .int y3, .int y4, .int y5, w6]) (rest := []) (r1 := some (.int v9)) (h2 := hh S9) 3 (fun n => B_164_18 n y1 y2 y3 y4 y5 w6 S6) (Ev.up (by decide) (T_154 S6 y5 _ _ h9)) ?_
            show Ev X _ 164 117 [.ref 29, .int y1, .int y2, .int y3, .int y4, .int y5, w6] [.int v9] (hh S9) _
            rcases h10 : G_154 S9 y4 with _ | ⟨v10, S10⟩
            · rw [h10] at hG; cases hG
            rw [h10] at hG
            dsimp only at hG
            refine Ev.c (a := 154) (A := [.ref 29, .int y4]) (h1 := hh S9) (pc' := 123) (L' := [.ref 29, .int y1, .int y2, .int y3, .int y4, .int y5, w6]) (rest := [.int v9]) (r1 := some (.int v10)) (h2 := hh S10) 3 (fun n => B_164_19 n y1 y2 y3 y4 y5 w6 v9 S9) (Ev.up (by decide) (T_154 S9 y4 _ _ h10)) ?_
            show Ev X _ 164 123 [.ref 29, .int y1, .int y2, .int y3, .int y4, .int y5, w6] [.int v10, .int v9] (hh S10) _
            by_cases c11 : v10 < v9
            · rw [if_pos c11] at hG
              refine Ev.t (c := v10 < v9) (p1 := 158) (L1 := [.ref 29, .int y1, .int y2, .int y3, .int y4, .int y5, w6]) (s1 := []) (h1 := hh S10) (p2 := 126) (L2 := [.ref 29, .int y1, .int y2, .int y3, .int y4, .int y5, w6]) (s2 := []) (h2 := hh S10) 1 (fun n => B_164_20 n y1 y2 y3 y4 y5 w6 v10 v9 S10) c11 ?_
              refine Ev.f (c := (1 : Int32) = 0) (p1 := 175) (L1 := [.ref 29, .int y1, .int y2, .int y3, .int y4, .int y5, .int 1]) (s1 := []) (h1 := hh S10) (p2 := 170) (L2 := [.ref 29, .int y1, .int y2, .int y3, .int y4, .int y5, .int 1]) (s2 := []) (h2 := hh S10) 5 (fun n => B_164_21 n y1 y2 y3 y4 y5 w6 S10) (by decide) ?_
              exact Ev.b (pc' := 79) (L' := [.ref 29, .int y1, .int y2, .int y3, .int y5, .int (y5 + 1), .int 1]) (st' := []) (h' := hh S10) 5 (fun n => B_164_22 n y1 y2 y3 y4 y5 S10) (ih S10 y1 y2 y3 y5 (y5 + 1) _ _ hG (.int 1))
            · rw [if_neg c11] at hG
              refine Ev.f (c := v10 < v9) (p1 := 158) (L1 := [.ref 29, .int y1, .int y2, .int y3, .int y4, .int y5, w6]) (s1 := []) (h1 := hh S10) (p2 := 126) (L2 := [.ref 29, .int y1, .int y2, .int y3, .int y4, .int y5, w6]) (s2 := []) (h2 := hh S10) 1 (fun n => B_164_23 n y1 y2 y3 y4 y5 w6 v10 v9 S10) c11 ?_
              rcases h12 : G_154 S10 y5 with _ | ⟨v12, S12⟩
              · rw [h12] at hG; cases hG
              rw [h12] at hG
              dsimp only at hG
              refine Ev.c (a := 154) (A := [.ref 29, .int y5]) (h1 := hh S10) (pc' := 132) (L' := [.ref 29, .int y1, .int y2, .int y3, .int y4, .int y5, w6]) (rest := []) (r1 := some (.int v12)) (h2 := hh S12) 3 (fun n => B_164_24 n y1 y2 y3 y4 y5 w6 S10) (Ev.up (by decide) (T_154 S10 y5 _ _ h12)) ?_
              show Ev X _ 164 132 [.ref 29, .int y1, .int y2, .int y3, .int y4, .int y5, w6] [.int v12] (hh S12) _
              rcases h13 : G_154 S12 y4 with _ | ⟨v13, S13⟩
              · rw [h13] at hG; cases hG
              rw [h13] at hG
              dsimp only at hG
              refine Ev.c (a := 154) (A := [.ref 29, .int y4]) (h1 := hh S12) (pc' := 138) (L' := [.ref 29, .int y1, .int y2, .int y3, .int y4, .int y5, w6]) (rest := [.int v12]) (r1 := some (.int v13)) (h2 := hh S13) 3 (fun n => B_164_25 n y1 y2 y3 y4 y5 w6 v12 S12) (Ev.up (by decide) (T_154 S12 y4 _ _ h13)) ?_
              show Ev X _ 164 138 [.ref 29, .int y1, .int y2, .int y3, .int y4, .int y5, w6] [.int v13, .int v12] (hh S13) _
              by_cases c14 : v12 = v13
              · rw [if_pos c14] at hG
                refine Ev.t (c := v12 = v13) (p1 := 141) (L1 := [.ref 29, .int y1, .int y2, .int y3, .int y4, .int y5, w6]) (s1 := []) (h1 := hh S13) (p2 := 162) (L2 := [.ref 29, .int y1, .int y2, .int y3, .int y4, .int y5, w6]) (s2 := []) (h2 := hh S13) 1 (fun n => B_164_26 n y1 y2 y3 y4 y5 w6 v13 v12 S13) c14 ?_
                by_cases g15 : xa_in y5 4
                rotate_left
                · rw [if_neg g15] at hG; cases hG
                rw [if_pos g15] at hG
                refine Ev.g (c := (kd 43).1 = 0 ∧ xa_in y5 (kd 43).2) (p1 := 148) (L1 := [.ref 29, .int y1, .int y2, .int y3, .int y4, .int y5, w6]) (s1 := [.int (S13.1 43 (y5).toNatClampNeg)]) (h1 := hh S13) 4 (fun n => B_164_27 n y1 y2 y3 y4 y5 w6 S13) (⟨rfl, g15⟩) ?_
                by_cases g16 : xa_in y4 4
                rotate_left
                · rw [if_neg g16] at hG; cases hG
                rw [if_pos g16] at hG
                refine Ev.g (c := (kd 43).1 = 0 ∧ xa_in y4 (kd 43).2) (p1 := 155) (L1 := [.ref 29, .int y1, .int y2, .int y3, .int y4, .int y5, w6]) (s1 := [.int (S13.1 43 (y4).toNatClampNeg), .int (S13.1 43 (y5).toNatClampNeg)]) (h1 := hh S13) 4 (fun n => B_164_28 n y1 y2 y3 y4 y5 w6 S13) (⟨rfl, g16⟩) ?_
                by_cases c17 : (S13.1 43 (y5).toNatClampNeg) < (S13.1 43 (y4).toNatClampNeg)
                · rw [if_pos c17] at hG
                  refine Ev.t (c := (S13.1 43 (y5).toNatClampNeg) < (S13.1 43 (y4).toNatClampNeg)) (p1 := 162) (L1 := [.ref 29, .int y1, .int y2, .int y3, .int y4, .int y5, w6]) (s1 := []) (h1 := hh S13) (p2 := 158) (L2 := [.ref 29, .int y1, .int y2, .int y3, .int y4, .int y5, w6]) (s2 := []) (h2 := hh S13) 1 (fun n => B_164_29 n y1 y2 y3 y4 y5 w6 S13) c17 ?_
                  refine Ev.t (c := (0 : Int32) = 0) (p1 := 175) (L1 := [.ref 29, .int y1, .int y2, .int y3, .int y4, .int y5, .int 0]) (s1 := []) (h1 := hh S13) (p2 := 170) (L2 := [.ref 29, .int y1, .int y2, .int y3, .int y4, .int y5, .int 0]) (s2 := []) (h2 := hh S13) 4 (fun n => B_164_30 n y1 y2 y3 y4 y5 w6 S13) (by decide) ?_
                  exact Ev.b (pc' := 79) (L' := [.ref 29, .int y1, .int y2, .int y3, .int y4, .int (y5 + 1), .int 0]) (st' := []) (h' := hh S13) 4 (fun n => B_164_31 n y1 y2 y3 y4 y5 S13) (ih S13 y1 y2 y3 y4 (y5 + 1) _ _ hG (.int 0))
                · rw [if_neg c17] at hG
                  refine Ev.f (c := (S13.1 43 (y5).toNatClampNeg) < (S13.1 43 (y4).toNatClampNeg)) (p1 := 162) (L1 := [.ref 29, .int y1, .int y2, .int y3, .int y4, .int y5, w6]) (s1 := []) (h1 := hh S13) (p2 := 158) (L2 := [.ref 29, .int y1, .int y2, .int y3, .int y4, .int y5, w6]) (s2 := []) (h2 := hh S13) 1 (fun n => B_164_32 n y1 y2 y3 y4 y5 w6 S13) c17 ?_
                  refine Ev.f (c := (1 : Int32) = 0) (p1 := 175) (L1 := [.ref 29, .int y1, .int y2, .int y3, .int y4, .int y5, .int 1]) (s1 := []) (h1 := hh S13) (p2 := 170) (L2 := [.ref 29, .int y1, .int y2, .int y3, .int y4, .int y5, .int 1]) (s2 := []) (h2 := hh S13) 5 (fun n => B_164_33 n y1 y2 y3 y4 y5 w6 S13) (by decide) ?_
                  exact Ev.b (pc' := 79) (L' := [.ref 29, .int y1, .int y2, .int y3, .int y5, .int (y5 + 1), .int 1]) (st' := []) (h' := hh S13) 5 (fun n => B_164_34 n y1 y2 y3 y4 y5 S13) (ih S13 y1 y2 y3 y5 (y5 + 1) _ _ hG (.int 1))
              · rw [if_neg c14] at hG
                refine Ev.f (c := v12 = v13) (p1 := 141) (L1 := [.ref 29, .int y1, .int y2, .int y3, .int y4, .int y5, w6]) (s1 := []) (h1 := hh S13) (p2 := 162) (L2 := [.ref 29, .int y1, .int y2, .int y3, .int y4, .int y5, w6]) (s2 := []) (h2 := hh S13) 1 (fun n => B_164_35 n y1 y2 y3 y4 y5 w6 v13 v12 S13) c14 ?_
                refine Ev.t (c := (0 : Int32) = 0) (p1 := 175) (L1 := [.ref 29, .int y1, .int y2, .int y3, .int y4, .int y5, .int 0]) (s1 := []) (h1 := hh S13) (p2 := 170) (L2 := [.ref 29, .int y1, .int y2, .int y3, .int y4, .int y5, .int 0]) (s2 := []) (h2 := hh S13) 4 (fun n => B_164_36 n y1 y2 y3 y4 y5 w6 S13) (by decide) ?_
                exact Ev.b (pc' := 79) (L' := [.ref 29, .int y1, .int y2, .int y3, .int y4, .int (y5 + 1), .int 0]) (st' := []) (h' := hh S13) 4 (fun n => B_164_37 n y1 y2 y3 y4 y5 S13) (ih S13 y1 y2 y3 y4 (y5 + 1) _ _ hG (.int 0))
def GL_164_1 : Nat → St → Int32 → Int32 → Int32 → Int32 → Option (Int32 × St)
  | 0, _, _, _, _, _ => none
  | n + 1, S, y1, y2, y3, y4 =>
    (if y4 < y2 then
      GL_164_0 xFu S y1 y2 y3 ((-1) : Int32) (0 : Int32)
    else
      (if xa_in ((16 * y4) + y1) 192 then
        (if (S.1 31 (((16 * y4) + y1)).toNatClampNeg) < 4 then
          GL_164_1 n S y1 y2 y3 (y4 + (-1))
        else
          GL_164_1 n S y1 y2 (S.1 31 (((16 * y4) + y1)).toNatClampNeg) (y4 + (-1))
        )
      else none)
    )
theorem B_164_38 {X : Nat × (Nat → Int32)} {d : Nat} (n : Nat) (y1 : Int32) (y2 : Int32) (y3 : Int32) (y4 : Int32) (w5 : Value) (w6 : Value) (S : St) : ex X d 164 28 [.ref 29, .int y1, .int y2, .int y3, .int y4, w5, w6] [] (hh S) (n + 3) = if y4 < y2 then ex X d 164 73 [.ref 29, .int y1, .int y2, .int y3, .int y4, w5, w6] [] (hh S) n else ex X d 164 34 [.ref 29, .int y1, .int y2, .int y3, .int y4, w5, w6] [] (hh S) n := rfl
theorem B_164_39 {X : Nat × (Nat → Int32)} {d : Nat} (n : Nat) (y1 : Int32) (y2 : Int32) (y3 : Int32) (y4 : Int32) (w5 : Value) (w6 : Value) (S : St) : ex X d 164 73 [.ref 29, .int y1, .int y2, .int y3, .int y4, w5, w6] [] (hh S) (n + 4) = ex X d 164 79 [.ref 29, .int y1, .int y2, .int y3, .int (-1), .int 0, w6] [] (hh S) n := rfl
theorem B_164_40 {X : Nat × (Nat → Int32)} {d : Nat} (n : Nat) (y1 : Int32) (y2 : Int32) (y3 : Int32) (y4 : Int32) (w5 : Value) (w6 : Value) (S : St) : ex X d 164 28 [.ref 29, .int y1, .int y2, .int y3, .int y4, w5, w6] [] (hh S) (n + 3) = if y4 < y2 then ex X d 164 73 [.ref 29, .int y1, .int y2, .int y3, .int y4, w5, w6] [] (hh S) n else ex X d 164 34 [.ref 29, .int y1, .int y2, .int y3, .int y4, w5, w6] [] (hh S) n := rfl
theorem B_164_41 {X : Nat × (Nat → Int32)} {d : Nat} (n : Nat) (y1 : Int32) (y2 : Int32) (y3 : Int32) (y4 : Int32) (w5 : Value) (w6 : Value) (S : St) : ex X d 164 34 [.ref 29, .int y1, .int y2, .int y3, .int y4, w5, w6] [] (hh S) (n + 8) = if (kd 31).1 = 0 ∧ xa_in ((16 * y4) + y1) (kd 31).2 then ex X d 164 46 [.ref 29, .int y1, .int y2, .int y3, .int y4, w5, w6] [.int (S.1 31 (((16 * y4) + y1)).toNatClampNeg)] (hh S) n else none := rfl
theorem B_164_42 {X : Nat × (Nat → Int32)} {d : Nat} (n : Nat) (y1 : Int32) (y2 : Int32) (y3 : Int32) (y4 : Int32) (w5 : Value) (w6 : Value) (S : St) : ex X d 164 46 [.ref 29, .int y1, .int y2, .int y3, .int y4, w5, w6] [.int (S.1 31 (((16 * y4) + y1)).toNatClampNeg)] (hh S) (n + 2) = if (S.1 31 (((16 * y4) + y1)).toNatClampNeg) < 4 then ex X d 164 65 [.ref 29, .int y1, .int y2, .int y3, .int y4, w5, w6] [] (hh S) n else ex X d 164 50 [.ref 29, .int y1, .int y2, .int y3, .int y4, w5, w6] [] (hh S) n := rfl
theorem B_164_43 {X : Nat × (Nat → Int32)} {d : Nat} (n : Nat) (y1 : Int32) (y2 : Int32) (y3 : Int32) (y4 : Int32) (w5 : Value) (w6 : Value) (S : St) : ex X d 164 65 [.ref 29, .int y1, .int y2, .int y3, .int y4, w5, w6] [] (hh S) (n + 4) = ex X d 164 28 [.ref 29, .int y1, .int y2, .int y3, .int (y4 + (-1)), w5, w6] [] (hh S) n := rfl
theorem B_164_44 {X : Nat × (Nat → Int32)} {d : Nat} (n : Nat) (y1 : Int32) (y2 : Int32) (y3 : Int32) (y4 : Int32) (w5 : Value) (w6 : Value) (S : St) : ex X d 164 46 [.ref 29, .int y1, .int y2, .int y3, .int y4, w5, w6] [.int (S.1 31 (((16 * y4) + y1)).toNatClampNeg)] (hh S) (n + 2) = if (S.1 31 (((16 * y4) + y1)).toNatClampNeg) < 4 then ex X d 164 65 [.ref 29, .int y1, .int y2, .int y3, .int y4, w5, w6] [] (hh S) n else ex X d 164 50 [.ref 29, .int y1, .int y2, .int y3, .int y4, w5, w6] [] (hh S) n := rfl
theorem B_164_45 {X : Nat × (Nat → Int32)} {d : Nat} (n : Nat) (y1 : Int32) (y2 : Int32) (y3 : Int32) (y4 : Int32) (w5 : Value) (w6 : Value) (S : St) : ex X d 164 50 [.ref 29, .int y1, .int y2, .int y3, .int y4, w5, w6] [] (hh S) (n + 8) = if (kd 31).1 = 0 ∧ xa_in ((16 * y4) + y1) (kd 31).2 then ex X d 164 62 [.ref 29, .int y1, .int y2, .int y3, .int y4, w5, w6] [.int (S.1 31 (((16 * y4) + y1)).toNatClampNeg)] (hh S) n else none := rfl
theorem B_164_46 {X : Nat × (Nat → Int32)} {d : Nat} (n : Nat) (y1 : Int32) (y2 : Int32) (y3 : Int32) (y4 : Int32) (w5 : Value) (w6 : Value) (S : St) : ex X d 164 62 [.ref 29, .int y1, .int y2, .int y3, .int y4, w5, w6] [.int (S.1 31 (((16 * y4) + y1)).toNatClampNeg)] (hh S) (n + 4) = ex X d 164 28 [.ref 29, .int y1, .int y2, .int (S.1 31 (((16 * y4) + y1)).toNatClampNeg), .int (y4 + (-1)), w5, w6] [] (hh S) n := rfl
set_option maxRecDepth 200000 in
theorem TL_164_1 {X : Nat × (Nat → Int32)} : ∀ (n : Nat) (S : St) (y1 : Int32) (y2 : Int32) (y3 : Int32) (y4 : Int32) (r : Int32) (S' : St), GL_164_1 n S y1 y2 y3 y4 = some (r, S') → ∀ (w5 w6 : Value), Ev X 1 164 28 [.ref 29, .int y1, .int y2, .int y3, .int y4, w5, w6] [] (hh S) (xI r, hh S') := by
  intro n
  induction n with
  | zero => intro S y1 y2 y3 y4 r S' hG; simp [GL_164_1] at hG
  | succ n ih =>
    intro S y1 y2 y3 y4 r S' hG w5 w6
    rw [GL_164_1] at hG
    by_cases c18 : y4 < y2
    · rw [if_pos c18] at hG
      refine Ev.t (c := y4 < y2) (p1 := 73) (L1 := [.ref 29, .int y1, .int y2, .int y3, .int y4, w5, w6]) (s1 := []) (h1 := hh S) (p2 := 34) (L2 := [.ref 29, .int y1, .int y2, .int y3, .int y4, w5, w6]) (s2 := []) (h2 := hh S) 3 (fun n => B_164_38 n y1 y2 y3 y4 w5 w6 S) c18 ?_
      exact Ev.b (pc' := 79) (L' := [.ref 29, .int y1, .int y2, .int y3, .int (-1), .int 0, w6]) (st' := []) (h' := hh S) 4 (fun n => B_164_39 n y1 y2 y3 y4 w5 w6 S) (TL_164_0 xFu S y1 y2 y3 ((-1) : Int32) (0 : Int32) _ _ hG w6)
    · rw [if_neg c18] at hG
      refine Ev.f (c := y4 < y2) (p1 := 73) (L1 := [.ref 29, .int y1, .int y2, .int y3, .int y4, w5, w6]) (s1 := []) (h1 := hh S) (p2 := 34) (L2 := [.ref 29, .int y1, .int y2, .int y3, .int y4, w5, w6]) (s2 := []) (h2 := hh S) 3 (fun n => B_164_40 n y1 y2 y3 y4 w5 w6 S) c18 ?_
      by_cases g19 : xa_in ((16 * y4) + y1) 192
      rotate_left
      · rw [if_neg g19] at hG; cases hG
      rw [if_pos g19] at hG
      refine Ev.g (c := (kd 31).1 = 0 ∧ xa_in ((16 * y4) + y1) (kd 31).2) (p1 := 46) (L1 := [.ref 29, .int y1, .int y2, .int y3, .int y4, w5, w6]) (s1 := [.int (S.1 31 (((16 * y4) + y1)).toNatClampNeg)]) (h1 := hh S) 8 (fun n => B_164_41 n y1 y2 y3 y4 w5 w6 S) (⟨rfl, g19⟩) ?_
      by_cases c20 : (S.1 31 (((16 * y4) + y1)).toNatClampNeg) < 4
      · rw [if_pos c20] at hG
        refine Ev.t (c := (S.1 31 (((16 * y4) + y1)).toNatClampNeg) < 4) (p1 := 65) (L1 := [.ref 29, .int y1, .int y2, .int y3, .int y4, w5, w6]) (s1 := []) (h1 := hh S) (p2 := 50) (L2 := [.ref 29, .int y1, .int y2, .int y3, .int y4, w5, w6]) (s2 := []) (h2 := hh S) 2 (fun n => B_164_42 n y1 y2 y3 y4 w5 w6 S) c20 ?_
        exact Ev.b (pc' := 28) (L' := [.ref 29, .int y1, .int y2, .int y3, .int (y4 + (-1)), w5, w6]) (st' := []) (h' := hh S) 4 (fun n => B_164_43 n y1 y2 y3 y4 w5 w6 S) (ih S y1 y2 y3 (y4 + (-1)) _ _ hG w5 w6)
      · rw [if_neg c20] at hG
        refine Ev.f (c := (S.1 31 (((16 * y4) + y1)).toNatClampNeg) < 4) (p1 := 65) (L1 := [.ref 29, .int y1, .int y2, .int y3, .int y4, w5, w6]) (s1 := []) (h1 := hh S) (p2 := 50) (L2 := [.ref 29, .int y1, .int y2, .int y3, .int y4, w5, w6]) (s2 := []) (h2 := hh S) 2 (fun n => B_164_44 n y1 y2 y3 y4 w5 w6 S) c20 ?_
        refine Ev.g (c := (kd 31).1 = 0 ∧ xa_in ((16 * y4) + y1) (kd 31).2) (p1 := 62) (L1 := [.ref 29, .int y1, .int y2, .int y3, .int y4, w5, w6]) (s1 := [.int (S.1 31 (((16 * y4) + y1)).toNatClampNeg)]) (h1 := hh S) 8 (fun n => B_164_45 n y1 y2 y3 y4 w5 w6 S) (⟨rfl, g19⟩) ?_
        exact Ev.b (pc' := 28) (L' := [.ref 29, .int y1, .int y2, .int (S.1 31 (((16 * y4) + y1)).toNatClampNeg), .int (y4 + (-1)), w5, w6]) (st' := []) (h' := hh S) 4 (fun n => B_164_46 n y1 y2 y3 y4 w5 w6 S) (ih S y1 y2 (S.1 31 (((16 * y4) + y1)).toNatClampNeg) (y4 + (-1)) _ _ hG w5 w6)
def G_164 (S : St) (x1 : Int32) (x2 : Int32) : Option (Int32 × St) :=
  (match G_115 S x1 (0 : Int32) (15 : Int32) with
  | none => none
  | some (v21, S21) =>
    (if v21 = 0 then
      (match G_115 S21 x2 (0 : Int32) (11 : Int32) with
      | none => none
      | some (v23, S23) =>
        (if v23 = 0 then
          GL_164_1 xFu S23 x1 x2 (4 : Int32) (11 : Int32)
        else
          some ((-1), S23)
        )
      )
    else
      some ((-1), S21)
    )
  )
theorem B_164_47 {X : Nat × (Nat → Int32)} {d : Nat} (n : Nat) (x1 : Int32) (x2 : Int32) (S : St) : ex X (d + 1) 164 0 [.ref 29, .int x1, .int x2, .retAddr 0, .retAddr 0, .retAddr 0, .retAddr 0] [] (hh S) (n + 4) = (match ex X d 115 0 [.int x1, .int 0, .int 15] [] (hh S) n with | some (v, h') => ex X (d + 1) 164 7 [.ref 29, .int x1, .int x2, .retAddr 0, .retAddr 0, .retAddr 0, .retAddr 0] (v.toList ++ []) h' n | none => none) := rfl
theorem B_164_48 {X : Nat × (Nat → Int32)} {d : Nat} (n : Nat) (x1 : Int32) (x2 : Int32) (v21 : Int32) (S21 : St) : ex X d 164 7 [.ref 29, .int x1, .int x2, .retAddr 0, .retAddr 0, .retAddr 0, .retAddr 0] [.int v21] (hh S21) (n + 1) = if v21 = 0 then ex X d 164 10 [.ref 29, .int x1, .int x2, .retAddr 0, .retAddr 0, .retAddr 0, .retAddr 0] [] (hh S21) n else ex X d 164 20 [.ref 29, .int x1, .int x2, .retAddr 0, .retAddr 0, .retAddr 0, .retAddr 0] [] (hh S21) n := rfl
theorem B_164_49 {X : Nat × (Nat → Int32)} {d : Nat} (n : Nat) (x1 : Int32) (x2 : Int32) (S21 : St) : ex X (d + 1) 164 10 [.ref 29, .int x1, .int x2, .retAddr 0, .retAddr 0, .retAddr 0, .retAddr 0] [] (hh S21) (n + 4) = (match ex X d 115 0 [.int x2, .int 0, .int 11] [] (hh S21) n with | some (v, h') => ex X (d + 1) 164 17 [.ref 29, .int x1, .int x2, .retAddr 0, .retAddr 0, .retAddr 0, .retAddr 0] (v.toList ++ []) h' n | none => none) := rfl
theorem B_164_50 {X : Nat × (Nat → Int32)} {d : Nat} (n : Nat) (x1 : Int32) (x2 : Int32) (v23 : Int32) (S23 : St) : ex X d 164 17 [.ref 29, .int x1, .int x2, .retAddr 0, .retAddr 0, .retAddr 0, .retAddr 0] [.int v23] (hh S23) (n + 1) = if v23 = 0 then ex X d 164 22 [.ref 29, .int x1, .int x2, .retAddr 0, .retAddr 0, .retAddr 0, .retAddr 0] [] (hh S23) n else ex X d 164 20 [.ref 29, .int x1, .int x2, .retAddr 0, .retAddr 0, .retAddr 0, .retAddr 0] [] (hh S23) n := rfl
theorem B_164_51 {X : Nat × (Nat → Int32)} {d : Nat} (n : Nat) (x1 : Int32) (x2 : Int32) (S23 : St) : ex X d 164 22 [.ref 29, .int x1, .int x2, .retAddr 0, .retAddr 0, .retAddr 0, .retAddr 0] [] (hh S23) (n + 4) = ex X d 164 28 [.ref 29, .int x1, .int x2, .int 4, .int 11, .retAddr 0, .retAddr 0] [] (hh S23) n := rfl
theorem B_164_52 {X : Nat × (Nat → Int32)} {d : Nat} (n : Nat) (x1 : Int32) (x2 : Int32) (v23 : Int32) (S23 : St) : ex X d 164 17 [.ref 29, .int x1, .int x2, .retAddr 0, .retAddr 0, .retAddr 0, .retAddr 0] [.int v23] (hh S23) (n + 1) = if v23 = 0 then ex X d 164 22 [.ref 29, .int x1, .int x2, .retAddr 0, .retAddr 0, .retAddr 0, .retAddr 0] [] (hh S23) n else ex X d 164 20 [.ref 29, .int x1, .int x2, .retAddr 0, .retAddr 0, .retAddr 0, .retAddr 0] [] (hh S23) n := rfl
theorem B_164_53 {X : Nat × (Nat → Int32)} {d : Nat} (n : Nat) (x1 : Int32) (x2 : Int32) (v21 : Int32) (S21 : St) : ex X d 164 7 [.ref 29, .int x1, .int x2, .retAddr 0, .retAddr 0, .retAddr 0, .retAddr 0] [.int v21] (hh S21) (n + 1) = if v21 = 0 then ex X d 164 10 [.ref 29, .int x1, .int x2, .retAddr 0, .retAddr 0, .retAddr 0, .retAddr 0] [] (hh S21) n else ex X d 164 20 [.ref 29, .int x1, .int x2, .retAddr 0, .retAddr 0, .retAddr 0, .retAddr 0] [] (hh S21) n := rfl
set_option maxRecDepth 200000 in
theorem T_164 {X : Nat × (Nat → Int32)} (S : St) (x1 : Int32) (x2 : Int32) (r : Int32) (S' : St) (hG : G_164 S x1 x2 = some (r, S')) : Ev X 1 164 0 [.ref 29, .int x1, .int x2, .retAddr 0, .retAddr 0, .retAddr 0, .retAddr 0] [] (hh S) (xI r, hh S') := by
  unfold G_164 at hG
  rcases h21 : G_115 S x1 (0 : Int32) (15 : Int32) with _ | ⟨v21, S21⟩
  · rw [h21] at hG; cases hG
  rw [h21] at hG
  dsimp only at hG
  refine Ev.c (a := 115) (A := [.int x1, .int 0, .int 15]) (h1 := hh S) (pc' := 7) (L' := [.ref 29, .int x1, .int x2, .retAddr 0, .retAddr 0, .retAddr 0, .retAddr 0]) (rest := []) (r1 := some (.int v21)) (h2 := hh S21) 4 (fun n => B_164_47 n x1 x2 S) (Ev.up (by decide) (T_115 S x1 (0 : Int32) (15 : Int32) _ _ h21)) ?_
  show Ev X _ 164 7 [.ref 29, .int x1, .int x2, .retAddr 0, .retAddr 0, .retAddr 0, .retAddr 0] [.int v21] (hh S21) _
  by_cases c22 : v21 = 0
  · rw [if_pos c22] at hG
    refine Ev.t (c := v21 = 0) (p1 := 10) (L1 := [.ref 29, .int x1, .int x2, .retAddr 0, .retAddr 0, .retAddr 0, .retAddr 0]) (s1 := []) (h1 := hh S21) (p2 := 20) (L2 := [.ref 29, .int x1, .int x2, .retAddr 0, .retAddr 0, .retAddr 0, .retAddr 0]) (s2 := []) (h2 := hh S21) 1 (fun n => B_164_48 n x1 x2 v21 S21) c22 ?_
    rcases h23 : G_115 S21 x2 (0 : Int32) (11 : Int32) with _ | ⟨v23, S23⟩
    · rw [h23] at hG; cases hG
    rw [h23] at hG
    dsimp only at hG
    refine Ev.c (a := 115) (A := [.int x2, .int 0, .int 11]) (h1 := hh S21) (pc' := 17) (L' := [.ref 29, .int x1, .int x2, .retAddr 0, .retAddr 0, .retAddr 0, .retAddr 0]) (rest := []) (r1 := some (.int v23)) (h2 := hh S23) 4 (fun n => B_164_49 n x1 x2 S21) (Ev.up (by decide) (T_115 S21 x2 (0 : Int32) (11 : Int32) _ _ h23)) ?_
    show Ev X _ 164 17 [.ref 29, .int x1, .int x2, .retAddr 0, .retAddr 0, .retAddr 0, .retAddr 0] [.int v23] (hh S23) _
    by_cases c24 : v23 = 0
    · rw [if_pos c24] at hG
      refine Ev.t (c := v23 = 0) (p1 := 22) (L1 := [.ref 29, .int x1, .int x2, .retAddr 0, .retAddr 0, .retAddr 0, .retAddr 0]) (s1 := []) (h1 := hh S23) (p2 := 20) (L2 := [.ref 29, .int x1, .int x2, .retAddr 0, .retAddr 0, .retAddr 0, .retAddr 0]) (s2 := []) (h2 := hh S23) 1 (fun n => B_164_50 n x1 x2 v23 S23) c24 ?_
      exact Ev.b (pc' := 28) (L' := [.ref 29, .int x1, .int x2, .int 4, .int 11, .retAddr 0, .retAddr 0]) (st' := []) (h' := hh S23) 4 (fun n => B_164_51 n x1 x2 S23) (TL_164_1 xFu S23 x1 x2 (4 : Int32) (11 : Int32) _ _ hG (.retAddr 0) (.retAddr 0))
    · rw [if_neg c24] at hG
      refine Ev.f (c := v23 = 0) (p1 := 22) (L1 := [.ref 29, .int x1, .int x2, .retAddr 0, .retAddr 0, .retAddr 0, .retAddr 0]) (s1 := []) (h1 := hh S23) (p2 := 20) (L2 := [.ref 29, .int x1, .int x2, .retAddr 0, .retAddr 0, .retAddr 0, .retAddr 0]) (s2 := []) (h2 := hh S23) 1 (fun n => B_164_52 n x1 x2 v23 S23) c24 ?_
      obtain ⟨e1, e2⟩ := Prod.mk.inj (Option.some.inj hG)
      subst e1
      subst e2
      exact Ev.r 2 (fun n => rfl)
  · rw [if_neg c22] at hG
    refine Ev.f (c := v21 = 0) (p1 := 10) (L1 := [.ref 29, .int x1, .int x2, .retAddr 0, .retAddr 0, .retAddr 0, .retAddr 0]) (s1 := []) (h1 := hh S21) (p2 := 20) (L2 := [.ref 29, .int x1, .int x2, .retAddr 0, .retAddr 0, .retAddr 0, .retAddr 0]) (s2 := []) (h2 := hh S21) 1 (fun n => B_164_53 n x1 x2 v21 S21) c22 ?_
    obtain ⟨e1, e2⟩ := Prod.mk.inj (Option.some.inj hG)
    subst e1
    subst e2
    exact Ev.r 2 (fun n => rfl)
