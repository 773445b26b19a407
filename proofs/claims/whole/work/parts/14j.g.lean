/-- 136: SceneCycleModel.paint(II)V -/
def GL_136_0 : Nat → St → Int32 → Int32 → Option (Unit × St)
  | 0, _, _, _ => none
  | n + 1, S, y2, y4 =>
    (if y2 ≤ y4 then
      some ((), S)
    else
      (match G_118 S (0 : Int32) y4 with
      | none => none
      | some (v2, S2) =>
        (match G_118 S2 (0 : Int32) (y4 + 1) with
        | none => none
        | some (v3, S3) =>
          (match G_137 S3 v2 v3 with
          | none => none
          | some (v4, S4) =>
            GL_136_0 n S4 y2 (y4 + 2)
          )
        )
      )
    )
theorem B_136_1 {X : Nat × (Nat → Int32)} {d : Nat} (n : Nat) (w1 : Value) (y2 : Int32) (w3 : Value) (y4 : Int32) (w5 : Value) (w6 : Value) (w7 : Value) (w8 : Value) (S : St) : ex X d 136 99 [.ref 29, w1, .int y2, w3, .int y4, w5, w6, w7, w8] [] (hh S) (n + 3) = if y2 ≤ y4 then ex X d 136 131 [.ref 29, w1, .int y2, w3, .int y4, w5, w6, w7, w8] [] (hh S) n else ex X d 136 105 [.ref 29, w1, .int y2, w3, .int y4, w5, w6, w7, w8] [] (hh S) n := rfl
theorem B_136_2 {X : Nat × (Nat → Int32)} {d : Nat} (n : Nat) (w1 : Value) (y2 : Int32) (w3 : Value) (y4 : Int32) (w5 : Value) (w6 : Value) (w7 : Value) (w8 : Value) (S : St) : ex X d 136 99 [.ref 29, w1, .int y2, w3, .int y4, w5, w6, w7, w8] [] (hh S) (n + 3) = if y2 ≤ y4 then ex X d 136 131 [.ref 29, w1, .int y2, w3, .int y4, w5, w6, w7, w8] [] (hh S) n else ex X d 136 105 [.ref 29, w1, .int y2, w3, .int y4, w5, w6, w7, w8] [] (hh S) n := rfl
theorem B_136_3 {X : Nat × (Nat → Int32)} {d : Nat} (n : Nat) (w1 : Value) (y2 : Int32) (w3 : Value) (y4 : Int32) (w5 : Value) (w6 : Value) (w7 : Value) (w8 : Value) (S : St) : ex X (d + 1) 136 105 [.ref 29, w1, .int y2, w3, .int y4, w5, w6, w7, w8] [] (hh S) (n + 5) = (match ex X d 118 0 [.ref 29, .int 0, .int y4] [] (hh S) n with | some (v, h') => ex X (d + 1) 136 113 [.ref 29, w1, .int y2, w3, .int y4, w5, w6, w7, w8] (v.toList ++ [.ref 29]) h' n | none => none) := rfl
theorem B_136_4 {X : Nat × (Nat → Int32)} {d : Nat} (n : Nat) (w1 : Value) (y2 : Int32) (w3 : Value) (y4 : Int32) (w5 : Value) (w6 : Value) (w7 : Value) (w8 : Value) (v2 : Int32) (S2 : St) : ex X (d + 1) 136 113 [.ref 29, w1, .int y2, w3, .int y4, w5, w6, w7, w8] [.int v2, .ref 29] (hh S2) (n + 6) = (match ex X d 118 0 [.ref 29, .int 0, .int (y4 + 1)] [] (hh S2) n with | some (v, h') => ex X (d + 1) 136 122 [.ref 29, w1, .int y2, w3, .int y4, w5, w6, w7, w8] (v.toList ++ [.int v2, .ref 29]) h' n | none => none) := rfl
theorem B_136_5 {X : Nat × (Nat → Int32)} {d : Nat} (n : Nat) (w1 : Value) (y2 : Int32) (w3 : Value) (y4 : Int32) (w5 : Value) (w6 : Value) (w7 : Value) (w8 : Value) (v3 : Int32) (v2 : Int32) (S3 : St) : ex X (d + 1) 136 122 [.ref 29, w1, .int y2, w3, .int y4, w5, w6, w7, w8] [.int v3, .int v2, .ref 29] (hh S3) (n + 1) = (match ex X d 137 0 [.ref 29, .int v2, .int v3, .retAddr 0, .retAddr 0, .retAddr 0, .retAddr 0, .retAddr 0] [] (hh S3) n with | some (v, h') => ex X (d + 1) 136 125 [.ref 29, w1, .int y2, w3, .int y4, w5, w6, w7, w8] (v.toList ++ []) h' n | none => none) := rfl
theorem B_136_6 {X : Nat × (Nat → Int32)} {d : Nat} (n : Nat) (w1 : Value) (y2 : Int32) (w3 : Value) (y4 : Int32) (w5 : Value) (w6 : Value) (w7 : Value) (w8 : Value) (S4 : St) : ex X d 136 125 [.ref 29, w1, .int y2, w3, .int y4, w5, w6, w7, w8] [] (hh S4) (n + 2) = ex X d 136 99 [.ref 29, w1, .int y2, w3, .int (y4 + 2), w5, w6, w7, w8] [] (hh S4) n := rfl
set_option maxRecDepth 200000 in
theorem TL_136_0 {X : Nat × (Nat → Int32)} : ∀ (n : Nat) (S : St) (y2 : Int32) (y4 : Int32) (r : Unit) (S' : St), GL_136_0 n S y2 y4 = some (r, S') → ∀ (w1 w3 w5 w6 w7 w8 : Value), Ev X 2 136 99 [.ref 29, w1, .int y2, w3, .int y4, w5, w6, w7, w8] [] (hh S) (xV r, hh S') := by
  intro n
  induction n with
  | zero => intro S y2 y4 r S' hG; simp [GL_136_0] at hG
  | succ n ih =>
    intro S y2 y4 r S' hG w1 w3 w5 w6 w7 w8
    rw [GL_136_0] at hG
    by_cases c1 : y2 ≤ y4
    · rw [if_pos c1] at hG
      refine Ev.t (c := y2 ≤ y4) (p1 := 131) (L1 := [.ref 29, w1, .int y2, w3, .int y4, w5, w6, w7, w8]) (s1 := []) (h1 := hh S) (p2 := 105) (L2 := [.ref 29, w1, .int y2, w3, .int y4, w5, w6, w7, w8]) (s2 := []) (h2 := hh S) 3 (fun n => B_136_1 n w1 y2 w3 y4 w5 w6 w7 w8 S) c1 ?_
      obtain ⟨e1, e2⟩ := Prod.mk.inj (Option.some.inj hG)
      subst e1
      subst e2
      exact Ev.r 2 (fun n => rfl)
    · rw [if_neg c1] at hG
      refine Ev.f (c := y2 ≤ y4) (p1 := 131) (L1 := [.ref 29, w1, .int y2, w3, .int y4, w5, w6, w7, w8]) (s1 := []) (h1 := hh S) (p2 := 105) (L2 := [.ref 29, w1, .int y2, w3, .int y4, w5, w6, w7, w8]) (s2 := []) (h2 := hh S) 3 (fun n => B_136_2 n w1 y2 w3 y4 w5 w6 w7 w8 S) c1 ?_
      rcases h2 : G_118 S (0 : Int32) y4 with _ | ⟨v2, S2⟩
      · rw [h2] at hG; cases hG
      rw [h2] at hG
      dsimp only at hG
      refine Ev.c (a := 118) (A := [.ref 29, .int 0, .int y4]) (h1 := hh S) (pc' := 113) (L' := [.ref 29, w1, .int y2, w3, .int y4, w5, w6, w7, w8]) (rest := [.ref 29]) (r1 := some (.int v2)) (h2 := hh S2) 5 (fun n => B_136_3 n w1 y2 w3 y4 w5 w6 w7 w8 S) (Ev.up (by decide) (T_118 S (0 : Int32) y4 _ _ h2)) ?_
      show Ev X _ 136 113 [.ref 29, w1, .int y2, w3, .int y4, w5, w6, w7, w8] [.int v2, .ref 29] (hh S2) _
      rcases h3 : G_118 S2 (0 : Int32) (y4 + 1) with _ | ⟨v3, S3⟩
      · rw [h3] at hG; cases hG
      rw [h3] at hG
      dsimp only at hG
      refine Ev.c (a := 118) (A := [.ref 29, .int 0, .int (y4 + 1)]) (h1 := hh S2) (pc' := 122) (L' := [.ref 29, w1, .int y2, w3, .int y4, w5, w6, w7, w8]) (rest := [.int v2, .ref 29]) (r1 := some (.int v3)) (h2 := hh S3) 6 (fun n => B_136_4 n w1 y2 w3 y4 w5 w6 w7 w8 v2 S2) (Ev.up (by decide) (T_118 S2 (0 : Int32) (y4 + 1) _ _ h3)) ?_
      show Ev X _ 136 122 [.ref 29, w1, .int y2, w3, .int y4, w5, w6, w7, w8] [.int v3, .int v2, .ref 29] (hh S3) _
      rcases h4 : G_137 S3 v2 v3 with _ | ⟨v4, S4⟩
      · rw [h4] at hG; cases hG
      rw [h4] at hG
      dsimp only at hG
      refine Ev.c (a := 137) (A := [.ref 29, .int v2, .int v3, .retAddr 0, .retAddr 0, .retAddr 0, .retAddr 0, .retAddr 0]) (h1 := hh S3) (pc' := 125) (L' := [.ref 29, w1, .int y2, w3, .int y4, w5, w6, w7, w8]) (rest := []) (r1 := none) (h2 := hh S4) 1 (fun n => B_136_5 n w1 y2 w3 y4 w5 w6 w7 w8 v3 v2 S3) (Ev.up (by decide) (T_137 S3 v2 v3 _ _ h4)) ?_
      show Ev X _ 136 125 [.ref 29, w1, .int y2, w3, .int y4, w5, w6, w7, w8] [] (hh S4) _
      exact Ev.b (pc' := 99) (L' := [.ref 29, w1, .int y2, w3, .int (y4 + 2), w5, w6, w7, w8]) (st' := []) (h' := hh S4) 2 (fun n => B_136_6 n w1 y2 w3 y4 w5 w6 w7 w8 S4) (ih S4 y2 (y4 + 2) _ _ hG w1 w3 w5 w6 w7 w8)
def GL_136_1 : Nat → St → Int32 → Int32 → Int32 → Int32 → Int32 → Option (Unit × St)
  | 0, _, _, _, _, _, _ => none
  | n + 1, S, y2, y3, y4, y5, y6 =>
    (if y2 ≤ y6 then
      some ((), S)
    else
      (if y3 = 244 then
        (match G_118 S (0 : Int32) y6 with
        | none => none
        | some (v7, S7) =>
          (match G_118 S7 (0 : Int32) (y6 + 1) with
          | none => none
          | some (v8, S8) =>
            (match G_141 S8 y4 y5 v7 v8 with
            | none => none
            | some (v9, S9) =>
              GL_136_1 n S9 y2 y3 v7 v8 (y6 + 2)
            )
          )
        )
      else
        (match G_118 S (0 : Int32) y6 with
        | none => none
        | some (v10, S10) =>
          (match G_122 S10 (v10 / 16) with
          | none => none
          | some (v11, S11) =>
            (match G_118 S11 (0 : Int32) y6 with
            | none => none
            | some (v12, S12) =>
              (match G_122 S12 (v12 - v12 / 16 * 16) with
              | none => none
              | some (v13, S13) =>
                (match G_141 S13 y4 y5 (y4 + v11) (y5 + v13) with
                | none => none
                | some (v14, S14) =>
                  GL_136_1 n S14 y2 y3 (y4 + v11) (y5 + v13) (y6 + 1)
                )
              )
            )
          )
        )
      )
    )
theorem B_136_7 {X : Nat × (Nat → Int32)} {d : Nat} (n : Nat) (w1 : Value) (y2 : Int32) (y3 : Int32) (y4 : Int32) (y5 : Int32) (y6 : Int32) (w7 : Value) (w8 : Value) (S : St) : ex X d 136 178 [.ref 29, w1, .int y2, .int y3, .int y4, .int y5, .int y6, w7, w8] [] (hh S) (n + 3) = if y2 ≤ y6 then ex X d 136 296 [.ref 29, w1, .int y2, .int y3, .int y4, .int y5, .int y6, w7, w8] [] (hh S) n else ex X d 136 184 [.ref 29, w1, .int y2, .int y3, .int y4, .int y5, .int y6, w7, w8] [] (hh S) n := rfl
theorem B_136_8 {X : Nat × (Nat → Int32)} {d : Nat} (n : Nat) (w1 : Value) (y2 : Int32) (y3 : Int32) (y4 : Int32) (y5 : Int32) (y6 : Int32) (w7 : Value) (w8 : Value) (S : St) : ex X d 136 178 [.ref 29, w1, .int y2, .int y3, .int y4, .int y5, .int y6, w7, w8] [] (hh S) (n + 3) = if y2 ≤ y6 then ex X d 136 296 [.ref 29, w1, .int y2, .int y3, .int y4, .int y5, .int y6, w7, w8] [] (hh S) n else ex X d 136 184 [.ref 29, w1, .int y2, .int y3, .int y4, .int y5, .int y6, w7, w8] [] (hh S) n := rfl
theorem B_136_9 {X : Nat × (Nat → Int32)} {d : Nat} (n : Nat) (w1 : Value) (y2 : Int32) (y3 : Int32) (y4 : Int32) (y5 : Int32) (y6 : Int32) (w7 : Value) (w8 : Value) (S : St) : ex X d 136 184 [.ref 29, w1, .int y2, .int y3, .int y4, .int y5, .int y6, w7, w8] [] (hh S) (n + 3) = if y3 = 244 then ex X d 136 191 [.ref 29, w1, .int y2, .int y3, .int y4, .int y5, .int y6, w7, w8] [] (hh S) n else ex X d 136 201 [.ref 29, w1, .int y2, .int y3, .int y4, .int y5, .int y6, w7, w8] [] (hh S) n := rfl
theorem B_136_10 {X : Nat × (Nat → Int32)} {d : Nat} (n : Nat) (w1 : Value) (y2 : Int32) (y3 : Int32) (y4 : Int32) (y5 : Int32) (y6 : Int32) (w7 : Value) (w8 : Value) (S : St) : ex X (d + 1) 136 191 [.ref 29, w1, .int y2, .int y3, .int y4, .int y5, .int y6, w7, w8] [] (hh S) (n + 4) = (match ex X d 118 0 [.ref 29, .int 0, .int y6] [] (hh S) n with | some (v, h') => ex X (d + 1) 136 198 [.ref 29, w1, .int y2, .int y3, .int y4, .int y5, .int y6, w7, w8] (v.toList ++ []) h' n | none => none) := rfl
theorem B_136_11 {X : Nat × (Nat → Int32)} {d : Nat} (n : Nat) (w1 : Value) (y2 : Int32) (y3 : Int32) (y4 : Int32) (y5 : Int32) (y6 : Int32) (w7 : Value) (w8 : Value) (v7 : Int32) (S7 : St) : ex X d 136 198 [.ref 29, w1, .int y2, .int y3, .int y4, .int y5, .int y6, w7, w8] [.int v7] (hh S7) (n + 5) = if y3 = 244 then ex X d 136 226 [.ref 29, w1, .int y2, .int y3, .int y4, .int y5, .int y6, .int v7, w8] [] (hh S7) n else ex X d 136 238 [.ref 29, w1, .int y2, .int y3, .int y4, .int y5, .int y6, .int v7, w8] [] (hh S7) n := rfl
theorem B_136_12 {X : Nat × (Nat → Int32)} {d : Nat} (n : Nat) (w1 : Value) (y2 : Int32) (y3 : Int32) (y4 : Int32) (y5 : Int32) (y6 : Int32) (v7 : Int32) (w8 : Value) (S7 : St) : ex X (d + 1) 136 226 [.ref 29, w1, .int y2, .int y3, .int y4, .int y5, .int y6, .int v7, w8] [] (hh S7) (n + 6) = (match ex X d 118 0 [.ref 29, .int 0, .int (y6 + 1)] [] (hh S7) n with | some (v, h') => ex X (d + 1) 136 235 [.ref 29, w1, .int y2, .int y3, .int y4, .int y5, .int y6, .int v7, w8] (v.toList ++ []) h' n | none => none) := rfl
theorem B_136_13 {X : Nat × (Nat → Int32)} {d : Nat} (n : Nat) (w1 : Value) (y2 : Int32) (y3 : Int32) (y4 : Int32) (y5 : Int32) (y6 : Int32) (v7 : Int32) (w8 : Value) (v8 : Int32) (S8 : St) : ex X (d + 1) 136 235 [.ref 29, w1, .int y2, .int y3, .int y4, .int y5, .int y6, .int v7, w8] [.int v8] (hh S8) (n + 8) = (match ex X d 141 0 [.ref 29, .int y4, .int y5, .int v7, .int v8, .retAddr 0, .retAddr 0, .retAddr 0, .retAddr 0, .retAddr 0, .retAddr 0] [] (hh S8) n with | some (v, h') => ex X (d + 1) 136 268 [.ref 29, w1, .int y2, .int y3, .int y4, .int y5, .int y6, .int v7, .int v8] (v.toList ++ []) h' n | none => none) := rfl
theorem B_136_14 {X : Nat × (Nat → Int32)} {d : Nat} (n : Nat) (w1 : Value) (y2 : Int32) (y3 : Int32) (y4 : Int32) (y5 : Int32) (y6 : Int32) (v7 : Int32) (v8 : Int32) (S9 : St) : ex X d 136 268 [.ref 29, w1, .int y2, .int y3, .int y4, .int y5, .int y6, .int v7, .int v8] [] (hh S9) (n + 8) = if y3 = 244 then ex X d 136 285 [.ref 29, w1, .int y2, .int y3, .int v7, .int v8, .int y6, .int v7, .int v8] [.int y6] (hh S9) n else ex X d 136 289 [.ref 29, w1, .int y2, .int y3, .int v7, .int v8, .int y6, .int v7, .int v8] [.int y6] (hh S9) n := rfl
theorem B_136_15 {X : Nat × (Nat → Int32)} {d : Nat} (n : Nat) (w1 : Value) (y2 : Int32) (y3 : Int32) (v7 : Int32) (v8 : Int32) (y6 : Int32) (S9 : St) : ex X d 136 285 [.ref 29, w1, .int y2, .int y3, .int v7, .int v8, .int y6, .int v7, .int v8] [.int y6] (hh S9) (n + 5) = ex X d 136 178 [.ref 29, w1, .int y2, .int y3, .int v7, .int v8, .int (y6 + 2), .int v7, .int v8] [] (hh S9) n := rfl
theorem B_136_16 {X : Nat × (Nat → Int32)} {d : Nat} (n : Nat) (w1 : Value) (y2 : Int32) (y3 : Int32) (y4 : Int32) (y5 : Int32) (y6 : Int32) (w7 : Value) (w8 : Value) (S : St) : ex X d 136 184 [.ref 29, w1, .int y2, .int y3, .int y4, .int y5, .int y6, w7, w8] [] (hh S) (n + 3) = if y3 = 244 then ex X d 136 191 [.ref 29, w1, .int y2, .int y3, .int y4, .int y5, .int y6, w7, w8] [] (hh S) n else ex X d 136 201 [.ref 29, w1, .int y2, .int y3, .int y4, .int y5, .int y6, w7, w8] [] (hh S) n := rfl
theorem B_136_17 {X : Nat × (Nat → Int32)} {d : Nat} (n : Nat) (w1 : Value) (y2 : Int32) (y3 : Int32) (y4 : Int32) (y5 : Int32) (y6 : Int32) (w7 : Value) (w8 : Value) (S : St) : ex X (d + 1) 136 201 [.ref 29, w1, .int y2, .int y3, .int y4, .int y5, .int y6, w7, w8] [] (hh S) (n + 5) = (match ex X d 118 0 [.ref 29, .int 0, .int y6] [] (hh S) n with | some (v, h') => ex X (d + 1) 136 210 [.ref 29, w1, .int y2, .int y3, .int y4, .int y5, .int y6, w7, w8] (v.toList ++ [.int y4]) h' n | none => none) := rfl
theorem B_136_18 {X : Nat × (Nat → Int32)} {d : Nat} (n : Nat) (w1 : Value) (y2 : Int32) (y3 : Int32) (y4 : Int32) (y5 : Int32) (y6 : Int32) (w7 : Value) (w8 : Value) (v10 : Int32) (S10 : St) : ex X d 136 210 [.ref 29, w1, .int y2, .int y3, .int y4, .int y5, .int y6, w7, w8] [.int v10, .int y4] (hh S10) (n + 2) = if (16 : Int32) = 0 then none else ex X d 136 213 [.ref 29, w1, .int y2, .int y3, .int y4, .int y5, .int y6, w7, w8] [.int (v10 / 16), .int y4] (hh S10) n := rfl
theorem B_136_19 {X : Nat × (Nat → Int32)} {d : Nat} (n : Nat) (w1 : Value) (y2 : Int32) (y3 : Int32) (y4 : Int32) (y5 : Int32) (y6 : Int32) (w7 : Value) (w8 : Value) (v10 : Int32) (S10 : St) : ex X (d + 1) 136 213 [.ref 29, w1, .int y2, .int y3, .int y4, .int y5, .int y6, w7, w8] [.int (v10 / 16), .int y4] (hh S10) (n + 1) = (match ex X d 122 0 [.int (v10 / 16)] [] (hh S10) n with | some (v, h') => ex X (d + 1) 136 216 [.ref 29, w1, .int y2, .int y3, .int y4, .int y5, .int y6, w7, w8] (v.toList ++ [.int y4]) h' n | none => none) := rfl
theorem B_136_20 {X : Nat × (Nat → Int32)} {d : Nat} (n : Nat) (w1 : Value) (y2 : Int32) (y3 : Int32) (y4 : Int32) (y5 : Int32) (y6 : Int32) (w7 : Value) (w8 : Value) (v11 : Int32) (S11 : St) : ex X d 136 216 [.ref 29, w1, .int y2, .int y3, .int y4, .int y5, .int y6, w7, w8] [.int v11, .int y4] (hh S11) (n + 5) = if y3 = 244 then ex X d 136 226 [.ref 29, w1, .int y2, .int y3, .int y4, .int y5, .int y6, .int (y4 + v11), w8] [] (hh S11) n else ex X d 136 238 [.ref 29, w1, .int y2, .int y3, .int y4, .int y5, .int y6, .int (y4 + v11), w8] [] (hh S11) n := rfl
theorem B_136_21 {X : Nat × (Nat → Int32)} {d : Nat} (n : Nat) (w1 : Value) (y2 : Int32) (y3 : Int32) (y4 : Int32) (y5 : Int32) (y6 : Int32) (v11 : Int32) (w8 : Value) (S11 : St) : ex X (d + 1) 136 238 [.ref 29, w1, .int y2, .int y3, .int y4, .int y5, .int y6, .int (y4 + v11), w8] [] (hh S11) (n + 5) = (match ex X d 118 0 [.ref 29, .int 0, .int y6] [] (hh S11) n with | some (v, h') => ex X (d + 1) 136 247 [.ref 29, w1, .int y2, .int y3, .int y4, .int y5, .int y6, .int (y4 + v11), w8] (v.toList ++ [.int y5]) h' n | none => none) := rfl
theorem B_136_22 {X : Nat × (Nat → Int32)} {d : Nat} (n : Nat) (w1 : Value) (y2 : Int32) (y3 : Int32) (y4 : Int32) (y5 : Int32) (y6 : Int32) (v11 : Int32) (w8 : Value) (v12 : Int32) (S12 : St) : ex X d 136 247 [.ref 29, w1, .int y2, .int y3, .int y4, .int y5, .int y6, .int (y4 + v11), w8] [.int v12, .int y5] (hh S12) (n + 2) = if (16 : Int32) = 0 then none else ex X d 136 250 [.ref 29, w1, .int y2, .int y3, .int y4, .int y5, .int y6, .int (y4 + v11), w8] [.int (v12 - v12 / 16 * 16), .int y5] (hh S12) n := rfl
theorem B_136_23 {X : Nat × (Nat → Int32)} {d : Nat} (n : Nat) (w1 : Value) (y2 : Int32) (y3 : Int32) (y4 : Int32) (y5 : Int32) (y6 : Int32) (v11 : Int32) (w8 : Value) (v12 : Int32) (S12 : St) : ex X (d + 1) 136 250 [.ref 29, w1, .int y2, .int y3, .int y4, .int y5, .int y6, .int (y4 + v11), w8] [.int (v12 - v12 / 16 * 16), .int y5] (hh S12) (n + 1) = (match ex X d 122 0 [.int (v12 - v12 / 16 * 16)] [] (hh S12) n with | some (v, h') => ex X (d + 1) 136 253 [.ref 29, w1, .int y2, .int y3, .int y4, .int y5, .int y6, .int (y4 + v11), w8] (v.toList ++ [.int y5]) h' n | none => none) := rfl
theorem B_136_24 {X : Nat × (Nat → Int32)} {d : Nat} (n : Nat) (w1 : Value) (y2 : Int32) (y3 : Int32) (y4 : Int32) (y5 : Int32) (y6 : Int32) (v11 : Int32) (w8 : Value) (v13 : Int32) (S13 : St) : ex X (d + 1) 136 253 [.ref 29, w1, .int y2, .int y3, .int y4, .int y5, .int y6, .int (y4 + v11), w8] [.int v13, .int y5] (hh S13) (n + 8) = (match ex X d 141 0 [.ref 29, .int y4, .int y5, .int (y4 + v11), .int (y5 + v13), .retAddr 0, .retAddr 0, .retAddr 0, .retAddr 0, .retAddr 0, .retAddr 0] [] (hh S13) n with | some (v, h') => ex X (d + 1) 136 268 [.ref 29, w1, .int y2, .int y3, .int y4, .int y5, .int y6, .int (y4 + v11), .int (y5 + v13)] (v.toList ++ []) h' n | none => none) := rfl
theorem B_136_25 {X : Nat × (Nat → Int32)} {d : Nat} (n : Nat) (w1 : Value) (y2 : Int32) (y3 : Int32) (y4 : Int32) (y5 : Int32) (y6 : Int32) (v11 : Int32) (v13 : Int32) (S14 : St) : ex X d 136 268 [.ref 29, w1, .int y2, .int y3, .int y4, .int y5, .int y6, .int (y4 + v11), .int (y5 + v13)] [] (hh S14) (n + 8) = if y3 = 244 then ex X d 136 285 [.ref 29, w1, .int y2, .int y3, .int (y4 + v11), .int (y5 + v13), .int y6, .int (y4 + v11), .int (y5 + v13)] [.int y6] (hh S14) n else ex X d 136 289 [.ref 29, w1, .int y2, .int y3, .int (y4 + v11), .int (y5 + v13), .int y6, .int (y4 + v11), .int (y5 + v13)] [.int y6] (hh S14) n := rfl
theorem B_136_26 {X : Nat × (Nat → Int32)} {d : Nat} (n : Nat) (w1 : Value) (y2 : Int32) (y3 : Int32) (y4 : Int32) (v11 : Int32) (y5 : Int32) (v13 : Int32) (y6 : Int32) (S14 : St) : ex X d 136 289 [.ref 29, w1, .int y2, .int y3, .int (y4 + v11), .int (y5 + v13), .int y6, .int (y4 + v11), .int (y5 + v13)] [.int y6] (hh S14) (n + 4) = ex X d 136 178 [.ref 29, w1, .int y2, .int y3, .int (y4 + v11), .int (y5 + v13), .int (y6 + 1), .int (y4 + v11), .int (y5 + v13)] [] (hh S14) n := rfl
set_option maxRecDepth 200000 in
theorem TL_136_1 {X : Nat × (Nat → Int32)} : ∀ (n : Nat) (S : St) (y2 : Int32) (y3 : Int32) (y4 : Int32) (y5 : Int32) (y6 : Int32) (r : Unit) (S' : St), GL_136_1 n S y2 y3 y4 y5 y6 = some (r, S') → ∀ (w1 w7 w8 : Value), Ev X 2 136 178 [.ref 29, w1, .int y2, .int y3, .int y4, .int y5, .int y6, w7, w8] [] (hh S) (xV r, hh S') := by
  intro n
  induction n with
  | zero => intro S y2 y3 y4 y5 y6 r S' hG; simp [GL_136_1] at hG
  | succ n ih =>
    intro S y2 y3 y4 y5 y6 r S' hG w1 w7 w8
    rw [GL_136_1] at hG
    by_cases c5 : y2 ≤ y6
    · rw [if_pos c5] at hG
      refine Ev.t (c := y2 ≤ y6) (p1 := 296) (L1 := [.ref 29, w1, .int y2, .int y3, .int y4, .int y5, .int y6, w7, w8]) (s1 := []) (h1 := hh S) (p2 := 184) (L2 := [.ref 29, w1, .int y2, .int y3, .int y4, .int y5, .int y6, w7, w8]) (s2 := []) (h2 := hh S) 3 (fun n => B_136_7 n w1 y2 y3 y4 y5 y6 w7 w8 S) c5 ?_
      obtain ⟨e1, e2⟩ := Prod.mk.inj (Option.some.inj hG)
      subst e1
      subst e2
      exact Ev.r 1 (fun n => rfl)
    · rw [if_neg c5] at hG
      refine Ev.f (c := y2 ≤ y6) (p1 := 296) (L1 := [.ref 29, w1, .int y2, .int y3, .int y4, .int y5, .int y6, w7, w8]) (s1 := []) (h1 := hh S) (p2 := 184) (L2 := [.ref 29, w1, .int y2, .int y3, .int y4, .int y5, .int y6, w7, w8]) (s2 := []) (h2 := hh S) 3 (fun n => B_136_8 n w1 y2 y3 y4 y5 y6 w7 w8 S) c5 ?_
      by_cases c6 : y3 = 244
      · rw [if_pos c6] at hG
        refine Ev.t (c := y3 = 244) (p1 := 191) (L1 := [.ref 29, w1, .int y2, .int y3, .int y4, .int y5, .int y6, w7, w8]) (s1 := []) (h1 := hh S) (p2 := 201) (L2 := [.ref 29, w1, .int y2, .int y3, .int y4, .int y5, .int y6, w7, w8]) (s2 := []) (h2 := hh S) 3 (fun n => B_136_9 n w1 y2 y3 y4 y5 y6 w7 w8 S) c6 ?_
        rcases h7 : G_118 S (0 : Int32) y6 with _ | ⟨v7, S7⟩
        · rw [h7] at hG; cases hG
        rw [h7] at hG
        dsimp only at hG
        refine Ev.c (a := 118) (A := [.ref 29, .int 0, .int y6]) (h1 := hh S) (pc' := 198) (L' := [.ref 29, w1, .int y2, .int y3, .int y4, .int y5, .int y6, w7, w8]) (rest := []) (r1 := some (.int v7)) (h2 := hh S7) 4 (fun n => B_136_10 n w1 y2 y3 y4 y5 y6 w7 w8 S) (Ev.up (by decide) (T_118 S (0 : Int32) y6 _ _ h7)) ?_
        show Ev X _ 136 198 [.ref 29, w1, .int y2, .int y3, .int y4, .int y5, .int y6, w7, w8] [.int v7] (hh S7) _
        refine Ev.t (c := y3 = 244) (p1 := 226) (L1 := [.ref 29, w1, .int y2, .int y3, .int y4, .int y5, .int y6, .int v7, w8]) (s1 := []) (h1 := hh S7) (p2 := 238) (L2 := [.ref 29, w1, .int y2, .int y3, .int y4, .int y5, .int y6, .int v7, w8]) (s2 := []) (h2 := hh S7) 5 (fun n => B_136_11 n w1 y2 y3 y4 y5 y6 w7 w8 v7 S7) c6 ?_
        rcases h8 : G_118 S7 (0 : Int32) (y6 + 1) with _ | ⟨v8, S8⟩
        · rw [h8] at hG; cases hG
        rw [h8] at hG
        dsimp only at hG
        refine Ev.c (a := 118) (A := [.ref 29, .int 0, .int (y6 + 1)]) (h1 := hh S7) (pc' := 235) (L' := [.ref 29, w1, .int y2, .int y3, .int y4, .int y5, .int y6, .int v7, w8]) (rest := []) (r1 := some (.int v8)) (h2 := hh S8) 6 (fun n => B_136_12 n w1 y2 y3 y4 y5 y6 v7 w8 S7) (Ev.up (by decide) (T_118 S7 (0 : Int32) (y6 + 1) _ _ h8)) ?_
        show Ev X _ 136 235 [.ref 29, w1, .int y2, .int y3, .int y4, .int y5, .int y6, .int v7, w8] [.int v8] (hh S8) _
        rcases h9 : G_141 S8 y4 y5 v7 v8 with _ | ⟨v9, S9⟩
        · rw [h9] at hG; cases hG
        rw [h9] at hG
        dsimp only at hG
        refine Ev.c (a := 141) (A := [.ref 29, .int y4, .int y5, .int v7, .int v8, .retAddr 0, .retAddr 0, .retAddr 0, .retAddr 0, .retAddr 0, .retAddr 0]) (h1 := hh S8) (pc' := 268) (L' := [.ref 29, w1, .int y2, .int y3, .int y4, .int y5, .int y6, .int v7, .int v8]) (rest := []) (r1 := none) (h2 := hh S9) 8 (fun n => B_136_13 n w1 y2 y3 y4 y5 y6 v7 w8 v8 S8) (Ev.up (by decide) (T_141 S8 y4 y5 v7 v8 _ _ h9)) ?_
        show Ev X _ 136 268 [.ref 29, w1, .int y2, .int y3, .int y4, .int y5, .int y6, .int v7, .int v8] [] (hh S9) _
        refine Ev.t (c := y3 = 244) (p1 := 285) (L1 := [.ref 29, w1, .int y2, .int y3, .int v7, .int v8, .int y6, .int v7, .int v8]) (s1 := [.int y6]) (h1 := hh S9) (p2 := 289) (L2 := [.ref 29, w1, .int y2, .int y3, .int v7, .int v8, .int y6, .int v7, .int v8]) (s2 := [.int y6]) (h2 := hh S9) 8 (fun n => B_136_14 n w1 y2 y3 y4 y5 y6 v7 v8 S9) c6 ?_
        exact Ev.b (pc' := 178) (L' := [.ref 29, w1, .int y2, .int y3, .int v7, .int v8, .int (y6 + 2), .int v7, .int v8]) (st' := []) (h' := hh S9) 5 (fun n => B_136_15 n w1 y2 y3 v7 v8 y6 S9) (ih S9 y2 y3 v7 v8 (y6 + 2) _ _ hG w1 (.int v7) (.int v8))
      · rw [if_neg c6] at hG
        refine Ev.f (c := y3 = 244) (p1 := 191) (L1 := [.ref 29, w1, .int y2, .int y3, .int y4, .int y5, .int y6, w7, w8]) (s1 := []) (h1 := hh S) (p2 := 201) (L2 := [.ref 29, w1, .int y2, .int y3, .int y4, .int y5, .int y6, w7, w8]) (s2 := []) (h2 := hh S) 3 (fun n => B_136_16 n w1 y2 y3 y4 y5 y6 w7 w8 S) c6 ?_
        rcases h10 : G_118 S (0 : Int32) y6 with _ | ⟨v10, S10⟩
        · rw [h10] at hG; cases hG
        rw [h10] at hG
        dsimp only at hG
        refine Ev.c (a := 118) (A := [.ref 29, .int 0, .int y6]) (h1 := hh S) (pc' := 210) (L' := [.ref 29, w1, .int y2, .int y3, .int y4, .int y5, .int y6, w7, w8]) (rest := [.int y4]) (r1 := some (.int v10)) (h2 := hh S10) 5 (fun n => B_136_17 n w1 y2 y3 y4 y5 y6 w7 w8 S) (Ev.up (by decide) (T_118 S (0 : Int32) y6 _ _ h10)) ?_
        show Ev X _ 136 210 [.ref 29, w1, .int y2, .int y3, .int y4, .int y5, .int y6, w7, w8] [.int v10, .int y4] (hh S10) _
        refine Ev.z (c := (16 : Int32) = 0) (p1 := 213) (L1 := [.ref 29, w1, .int y2, .int y3, .int y4, .int y5, .int y6, w7, w8]) (s1 := [.int (v10 / 16), .int y4]) (h1 := hh S10) 2 (fun n => B_136_18 n w1 y2 y3 y4 y5 y6 w7 w8 v10 S10) (by decide) ?_
        rcases h11 : G_122 S10 (v10 / 16) with _ | ⟨v11, S11⟩
        · rw [h11] at hG; cases hG
        rw [h11] at hG
        dsimp only at hG
        refine Ev.c (a := 122) (A := [.int (v10 / 16)]) (h1 := hh S10) (pc' := 216) (L' := [.ref 29, w1, .int y2, .int y3, .int y4, .int y5, .int y6, w7, w8]) (rest := [.int y4]) (r1 := some (.int v11)) (h2 := hh S11) 1 (fun n => B_136_19 n w1 y2 y3 y4 y5 y6 w7 w8 v10 S10) (Ev.up (by decide) (T_122 S10 (v10 / 16) _ _ h11)) ?_
        show Ev X _ 136 216 [.ref 29, w1, .int y2, .int y3, .int y4, .int y5, .int y6, w7, w8] [.int v11, .int y4] (hh S11) _
        refine Ev.f (c := y3 = 244) (p1 := 226) (L1 := [.ref 29, w1, .int y2, .int y3, .int y4, .int y5, .int y6, .int (y4 + v11), w8]) (s1 := []) (h1 := hh S11) (p2 := 238) (L2 := [.ref 29, w1, .int y2, .int y3, .int y4, .int y5, .int y6, .int (y4 + v11), w8]) (s2 := []) (h2 := hh S11) 5 (fun n => B_136_20 n w1 y2 y3 y4 y5 y6 w7 w8 v11 S11) c6 ?_
        rcases h12 : G_118 S11 (0 : Int32) y6 with _ | ⟨v12, S12⟩
        · rw [h12] at hG; cases hG
        rw [h12] at hG
        dsimp only at hG
        refine Ev.c (a := 118) (A := [.ref 29, .int 0, .int y6]) (h1 := hh S11) (pc' := 247) (L' := [.ref 29, w1, .int y2, .int y3, .int y4, .int y5, .int y6, .int (y4 + v11), w8]) (rest := [.int y5]) (r1 := some (.int v12)) (h2 := hh S12) 5 (fun n => B_136_21 n w1 y2 y3 y4 y5 y6 v11 w8 S11) (Ev.up (by decide) (T_118 S11 (0 : Int32) y6 _ _ h12)) ?_
        show Ev X _ 136 247 [.ref 29, w1, .int y2, .int y3, .int y4, .int y5, .int y6, .int (y4 + v11), w8] [.int v12, .int y5] (hh S12) _
        refine Ev.z (c := (16 : Int32) = 0) (p1 := 250) (L1 := [.ref 29, w1, .int y2, .int y3, .int y4, .int y5, .int y6, .int (y4 + v11), w8]) (s1 := [.int (v12 - v12 / 16 * 16), .int y5]) (h1 := hh S12) 2 (fun n => B_136_22 n w1 y2 y3 y4 y5 y6 v11 w8 v12 S12) (by decide) ?_
        rcases h13 : G_122 S12 (v12 - v12 / 16 * 16) with _ | ⟨v13, S13⟩
        · rw [h13] at hG; cases hG
        rw [h13] at hG
        dsimp only at hG
        refine Ev.c (a := 122) (A := [.int (v12 - v12 / 16 * 16)]) (h1 := hh S12) (pc' := 253) (L' := [.ref 29, w1, .int y2, .int y3, .int y4, .int y5, .int y6, .int (y4 + v11), w8]) (rest := [.int y5]) (r1 := some (.int v13)) (h2 := hh S13) 1 (fun n => B_136_23 n w1 y2 y3 y4 y5 y6 v11 w8 v12 S12) (Ev.up (by decide) (T_122 S12 (v12 - v12 / 16 * 16) _ _ h13)) ?_
        show Ev X _ 136 253 [.ref 29, w1, .int y2, .int y3, .int y4, .int y5, .int y6, .int (y4 + v11), w8] [.int v13, .int y5] (hh S13) _
        rcases h14 : G_141 S13 y4 y5 (y4 + v11) (y5 + v13) with _ | ⟨v14, S14⟩
        · rw [h14] at hG; cases hG
        rw [h14] at hG
        dsimp only at hG
        refine Ev.c (a := 141) (A := [.ref 29, .int y4, .int y5, .int (y4 + v11), .int (y5 + v13), .retAddr 0, .retAddr 0, .retAddr 0, .retAddr 0, .retAddr 0, .retAddr 0]) (h1 := hh S13) (pc' := 268) (L' := [.ref 29, w1, .int y2, .int y3, .int y4, .int y5, .int y6, .int (y4 + v11), .int (y5 + v13)]) (rest := []) (r1 := none) (h2 := hh S14) 8 (fun n => B_136_24 n w1 y2 y3 y4 y5 y6 v11 w8 v13 S13) (Ev.up (by decide) (T_141 S13 y4 y5 (y4 + v11) (y5 + v13) _ _ h14)) ?_
        show Ev X _ 136 268 [.ref 29, w1, .int y2, .int y3, .int y4, .int y5, .int y6, .int (y4 + v11), .int (y5 + v13)] [] (hh S14) _
        refine Ev.f (c := y3 = 244) (p1 := 285) (L1 := [.ref 29, w1, .int y2, .int y3, .int (y4 + v11), .int (y5 + v13), .int y6, .int (y4 + v11), .int (y5 + v13)]) (s1 := [.int y6]) (h1 := hh S14) (p2 := 289) (L2 := [.ref 29, w1, .int y2, .int y3, .int (y4 + v11), .int (y5 + v13), .int y6, .int (y4 + v11), .int (y5 + v13)]) (s2 := [.int y6]) (h2 := hh S14) 8 (fun n => B_136_25 n w1 y2 y3 y4 y5 y6 v11 v13 S14) c6 ?_
        exact Ev.b (pc' := 178) (L' := [.ref 29, w1, .int y2, .int y3, .int (y4 + v11), .int (y5 + v13), .int (y6 + 1), .int (y4 + v11), .int (y5 + v13)]) (st' := []) (h' := hh S14) 4 (fun n => B_136_26 n w1 y2 y3 y4 v11 y5 v13 y6 S14) (ih S14 y2 y3 (y4 + v11) (y5 + v13) (y6 + 1) _ _ hG w1 (.int (y4 + v11)) (.int (y5 + v13)))
def G_136 (S : St) (x1 : Int32) (x2 : Int32) : Option (Unit × St) :=
  (match G_118 S (0 : Int32) x1 with
  | none => none
  | some (v15, S15) =>
    (if v15 = 240 then
      (match G_118 S15 (0 : Int32) (x1 + 1) with
      | none => none
      | some (v17, S17) =>
        some ((), (xa_u S17.1 29 13 v17, S17.2.1, S17.2.2))
      )
    else
      (if v15 = 241 then
        some ((), (xa_u S15.1 29 13 (-1), S15.2.1, S15.2.2))
      else
        (if v15 = 242 then
          (match G_118 S15 (0 : Int32) (x1 + 1) with
          | none => none
          | some (v20, S20) =>
            some ((), (xa_u S20.1 29 14 v20, S20.2.1, S20.2.2))
          )
        else
          (if v15 = 243 then
            some ((), (xa_u S15.1 29 14 (-1), S15.2.1, S15.2.2))
          else
            (if v15 = 246 then
              GL_136_0 xFu S15 x2 (x1 + 1)
            else
              (match G_118 S15 (0 : Int32) (x1 + 1) with
              | none => none
              | some (v23, S23) =>
                (match G_118 S23 (0 : Int32) (x1 + 2) with
                | none => none
                | some (v24, S24) =>
                  (if x2 = (x1 + 3) then
                    (match G_141 S24 v23 v24 v23 v24 with
                    | none => none
                    | some (v26, S26) =>
                      GL_136_1 xFu S26 x2 v15 v23 v24 (x1 + 3)
                    )
                  else
                    GL_136_1 xFu S24 x2 v15 v23 v24 (x1 + 3)
                  )
                )
              )
            )
          )
        )
      )
    )
  )
theorem B_136_27 {X : Nat × (Nat → Int32)} {d : Nat} (n : Nat) (x1 : Int32) (x2 : Int32) (S : St) : ex X (d + 1) 136 0 [.ref 29, .int x1, .int x2, .retAddr 0, .retAddr 0, .retAddr 0, .retAddr 0, .retAddr 0, .retAddr 0] [] (hh S) (n + 4) = (match ex X d 118 0 [.ref 29, .int 0, .int x1] [] (hh S) n with | some (v, h') => ex X (d + 1) 136 6 [.ref 29, .int x1, .int x2, .retAddr 0, .retAddr 0, .retAddr 0, .retAddr 0, .retAddr 0, .retAddr 0] (v.toList ++ []) h' n | none => none) := rfl
theorem B_136_28 {X : Nat × (Nat → Int32)} {d : Nat} (n : Nat) (x1 : Int32) (x2 : Int32) (v15 : Int32) (S15 : St) : ex X d 136 6 [.ref 29, .int x1, .int x2, .retAddr 0, .retAddr 0, .retAddr 0, .retAddr 0, .retAddr 0, .retAddr 0] [.int v15] (hh S15) (n + 4) = if v15 = 240 then ex X d 136 21 [.ref 29, .int x1, .int x2, .int v15, .retAddr 0, .retAddr 0, .retAddr 0, .retAddr 0, .retAddr 0] [] (hh S15) n else ex X d 136 14 [.ref 29, .int x1, .int x2, .int v15, .retAddr 0, .retAddr 0, .retAddr 0, .retAddr 0, .retAddr 0] [] (hh S15) n := rfl
theorem B_136_29 {X : Nat × (Nat → Int32)} {d : Nat} (n : Nat) (x1 : Int32) (x2 : Int32) (v15 : Int32) (S15 : St) : ex X d 136 21 [.ref 29, .int x1, .int x2, .int v15, .retAddr 0, .retAddr 0, .retAddr 0, .retAddr 0, .retAddr 0] [] (hh S15) (n + 4) = if v15 = 240 then ex X d 136 29 [.ref 29, .int x1, .int x2, .int v15, .retAddr 0, .retAddr 0, .retAddr 0, .retAddr 0, .retAddr 0] [.ref 29] (hh S15) n else ex X d 136 40 [.ref 29, .int x1, .int x2, .int v15, .retAddr 0, .retAddr 0, .retAddr 0, .retAddr 0, .retAddr 0] [.ref 29] (hh S15) n := rfl
theorem B_136_30 {X : Nat × (Nat → Int32)} {d : Nat} (n : Nat) (x1 : Int32) (x2 : Int32) (v15 : Int32) (S15 : St) : ex X (d + 1) 136 29 [.ref 29, .int x1, .int x2, .int v15, .retAddr 0, .retAddr 0, .retAddr 0, .retAddr 0, .retAddr 0] [.ref 29] (hh S15) (n + 6) = (match ex X d 118 0 [.ref 29, .int 0, .int (x1 + 1)] [] (hh S15) n with | some (v, h') => ex X (d + 1) 136 37 [.ref 29, .int x1, .int x2, .int v15, .retAddr 0, .retAddr 0, .retAddr 0, .retAddr 0, .retAddr 0] (v.toList ++ [.ref 29]) h' n | none => none) := rfl
theorem B_136_31 {X : Nat × (Nat → Int32)} {d : Nat} (n : Nat) (x1 : Int32) (x2 : Int32) (v15 : Int32) (v17 : Int32) (S17 : St) : ex X d 136 37 [.ref 29, .int x1, .int x2, .int v15, .retAddr 0, .retAddr 0, .retAddr 0, .retAddr 0, .retAddr 0] [.int v17, .ref 29] (hh S17) (n + 2) = if (kd 29).1 = 10 + 8 ∧ (xf_k 8 13 = 0 ∨ (xf_k 8 13 = 1 ∧ (v17 = 0 ∨ v17 = 1))) then ex X d 136 44 [.ref 29, .int x1, .int x2, .int v15, .retAddr 0, .retAddr 0, .retAddr 0, .retAddr 0, .retAddr 0] [] (hh (xa_u S17.1 29 13 v17, S17.2.1, S17.2.2)) n else none := rfl
theorem B_136_32 {X : Nat × (Nat → Int32)} {d : Nat} (n : Nat) (x1 : Int32) (x2 : Int32) (v15 : Int32) (S15 : St) : ex X d 136 6 [.ref 29, .int x1, .int x2, .retAddr 0, .retAddr 0, .retAddr 0, .retAddr 0, .retAddr 0, .retAddr 0] [.int v15] (hh S15) (n + 4) = if v15 = 240 then ex X d 136 21 [.ref 29, .int x1, .int x2, .int v15, .retAddr 0, .retAddr 0, .retAddr 0, .retAddr 0, .retAddr 0] [] (hh S15) n else ex X d 136 14 [.ref 29, .int x1, .int x2, .int v15, .retAddr 0, .retAddr 0, .retAddr 0, .retAddr 0, .retAddr 0] [] (hh S15) n := rfl
theorem B_136_33 {X : Nat × (Nat → Int32)} {d : Nat} (n : Nat) (x1 : Int32) (x2 : Int32) (v15 : Int32) (S15 : St) : ex X d 136 14 [.ref 29, .int x1, .int x2, .int v15, .retAddr 0, .retAddr 0, .retAddr 0, .retAddr 0, .retAddr 0] [] (hh S15) (n + 3) = if v15 = 241 then ex X d 136 21 [.ref 29, .int x1, .int x2, .int v15, .retAddr 0, .retAddr 0, .retAddr 0, .retAddr 0, .retAddr 0] [] (hh S15) n else ex X d 136 47 [.ref 29, .int x1, .int x2, .int v15, .retAddr 0, .retAddr 0, .retAddr 0, .retAddr 0, .retAddr 0] [] (hh S15) n := rfl
theorem B_136_34 {X : Nat × (Nat → Int32)} {d : Nat} (n : Nat) (x1 : Int32) (x2 : Int32) (v15 : Int32) (S15 : St) : ex X d 136 21 [.ref 29, .int x1, .int x2, .int v15, .retAddr 0, .retAddr 0, .retAddr 0, .retAddr 0, .retAddr 0] [] (hh S15) (n + 4) = if v15 = 240 then ex X d 136 29 [.ref 29, .int x1, .int x2, .int v15, .retAddr 0, .retAddr 0, .retAddr 0, .retAddr 0, .retAddr 0] [.ref 29] (hh S15) n else ex X d 136 40 [.ref 29, .int x1, .int x2, .int v15, .retAddr 0, .retAddr 0, .retAddr 0, .retAddr 0, .retAddr 0] [.ref 29] (hh S15) n := rfl
theorem B_136_35 {X : Nat × (Nat → Int32)} {d : Nat} (n : Nat) (x1 : Int32) (x2 : Int32) (v15 : Int32) (S15 : St) : ex X d 136 40 [.ref 29, .int x1, .int x2, .int v15, .retAddr 0, .retAddr 0, .retAddr 0, .retAddr 0, .retAddr 0] [.ref 29] (hh S15) (n + 2) = if (kd 29).1 = 10 + 8 ∧ (xf_k 8 13 = 0 ∨ (xf_k 8 13 = 1 ∧ (((-1) : Int32) = 0 ∨ ((-1) : Int32) = 1))) then ex X d 136 44 [.ref 29, .int x1, .int x2, .int v15, .retAddr 0, .retAddr 0, .retAddr 0, .retAddr 0, .retAddr 0] [] (hh (xa_u S15.1 29 13 (-1), S15.2.1, S15.2.2)) n else none := rfl
theorem B_136_36 {X : Nat × (Nat → Int32)} {d : Nat} (n : Nat) (x1 : Int32) (x2 : Int32) (v15 : Int32) (S15 : St) : ex X d 136 14 [.ref 29, .int x1, .int x2, .int v15, .retAddr 0, .retAddr 0, .retAddr 0, .retAddr 0, .retAddr 0] [] (hh S15) (n + 3) = if v15 = 241 then ex X d 136 21 [.ref 29, .int x1, .int x2, .int v15, .retAddr 0, .retAddr 0, .retAddr 0, .retAddr 0, .retAddr 0] [] (hh S15) n else ex X d 136 47 [.ref 29, .int x1, .int x2, .int v15, .retAddr 0, .retAddr 0, .retAddr 0, .retAddr 0, .retAddr 0] [] (hh S15) n := rfl
theorem B_136_37 {X : Nat × (Nat → Int32)} {d : Nat} (n : Nat) (x1 : Int32) (x2 : Int32) (v15 : Int32) (S15 : St) : ex X d 136 47 [.ref 29, .int x1, .int x2, .int v15, .retAddr 0, .retAddr 0, .retAddr 0, .retAddr 0, .retAddr 0] [] (hh S15) (n + 3) = if v15 = 242 then ex X d 136 61 [.ref 29, .int x1, .int x2, .int v15, .retAddr 0, .retAddr 0, .retAddr 0, .retAddr 0, .retAddr 0] [] (hh S15) n else ex X d 136 54 [.ref 29, .int x1, .int x2, .int v15, .retAddr 0, .retAddr 0, .retAddr 0, .retAddr 0, .retAddr 0] [] (hh S15) n := rfl
theorem B_136_38 {X : Nat × (Nat → Int32)} {d : Nat} (n : Nat) (x1 : Int32) (x2 : Int32) (v15 : Int32) (S15 : St) : ex X d 136 61 [.ref 29, .int x1, .int x2, .int v15, .retAddr 0, .retAddr 0, .retAddr 0, .retAddr 0, .retAddr 0] [] (hh S15) (n + 4) = if v15 = 242 then ex X d 136 69 [.ref 29, .int x1, .int x2, .int v15, .retAddr 0, .retAddr 0, .retAddr 0, .retAddr 0, .retAddr 0] [.ref 29] (hh S15) n else ex X d 136 80 [.ref 29, .int x1, .int x2, .int v15, .retAddr 0, .retAddr 0, .retAddr 0, .retAddr 0, .retAddr 0] [.ref 29] (hh S15) n := rfl
theorem B_136_39 {X : Nat × (Nat → Int32)} {d : Nat} (n : Nat) (x1 : Int32) (x2 : Int32) (v15 : Int32) (S15 : St) : ex X (d + 1) 136 69 [.ref 29, .int x1, .int x2, .int v15, .retAddr 0, .retAddr 0, .retAddr 0, .retAddr 0, .retAddr 0] [.ref 29] (hh S15) (n + 6) = (match ex X d 118 0 [.ref 29, .int 0, .int (x1 + 1)] [] (hh S15) n with | some (v, h') => ex X (d + 1) 136 77 [.ref 29, .int x1, .int x2, .int v15, .retAddr 0, .retAddr 0, .retAddr 0, .retAddr 0, .retAddr 0] (v.toList ++ [.ref 29]) h' n | none => none) := rfl
theorem B_136_40 {X : Nat × (Nat → Int32)} {d : Nat} (n : Nat) (x1 : Int32) (x2 : Int32) (v15 : Int32) (v20 : Int32) (S20 : St) : ex X d 136 77 [.ref 29, .int x1, .int x2, .int v15, .retAddr 0, .retAddr 0, .retAddr 0, .retAddr 0, .retAddr 0] [.int v20, .ref 29] (hh S20) (n + 2) = if (kd 29).1 = 10 + 8 ∧ (xf_k 8 14 = 0 ∨ (xf_k 8 14 = 1 ∧ (v20 = 0 ∨ v20 = 1))) then ex X d 136 84 [.ref 29, .int x1, .int x2, .int v15, .retAddr 0, .retAddr 0, .retAddr 0, .retAddr 0, .retAddr 0] [] (hh (xa_u S20.1 29 14 v20, S20.2.1, S20.2.2)) n else none := rfl
theorem B_136_41 {X : Nat × (Nat → Int32)} {d : Nat} (n : Nat) (x1 : Int32) (x2 : Int32) (v15 : Int32) (S15 : St) : ex X d 136 47 [.ref 29, .int x1, .int x2, .int v15, .retAddr 0, .retAddr 0, .retAddr 0, .retAddr 0, .retAddr 0] [] (hh S15) (n + 3) = if v15 = 242 then ex X d 136 61 [.ref 29, .int x1, .int x2, .int v15, .retAddr 0, .retAddr 0, .retAddr 0, .retAddr 0, .retAddr 0] [] (hh S15) n else ex X d 136 54 [.ref 29, .int x1, .int x2, .int v15, .retAddr 0, .retAddr 0, .retAddr 0, .retAddr 0, .retAddr 0] [] (hh S15) n := rfl
theorem B_136_42 {X : Nat × (Nat → Int32)} {d : Nat} (n : Nat) (x1 : Int32) (x2 : Int32) (v15 : Int32) (S15 : St) : ex X d 136 54 [.ref 29, .int x1, .int x2, .int v15, .retAddr 0, .retAddr 0, .retAddr 0, .retAddr 0, .retAddr 0] [] (hh S15) (n + 3) = if v15 = 243 then ex X d 136 61 [.ref 29, .int x1, .int x2, .int v15, .retAddr 0, .retAddr 0, .retAddr 0, .retAddr 0, .retAddr 0] [] (hh S15) n else ex X d 136 87 [.ref 29, .int x1, .int x2, .int v15, .retAddr 0, .retAddr 0, .retAddr 0, .retAddr 0, .retAddr 0] [] (hh S15) n := rfl
theorem B_136_43 {X : Nat × (Nat → Int32)} {d : Nat} (n : Nat) (x1 : Int32) (x2 : Int32) (v15 : Int32) (S15 : St) : ex X d 136 61 [.ref 29, .int x1, .int x2, .int v15, .retAddr 0, .retAddr 0, .retAddr 0, .retAddr 0, .retAddr 0] [] (hh S15) (n + 4) = if v15 = 242 then ex X d 136 69 [.ref 29, .int x1, .int x2, .int v15, .retAddr 0, .retAddr 0, .retAddr 0, .retAddr 0, .retAddr 0] [.ref 29] (hh S15) n else ex X d 136 80 [.ref 29, .int x1, .int x2, .int v15, .retAddr 0, .retAddr 0, .retAddr 0, .retAddr 0, .retAddr 0] [.ref 29] (hh S15) n := rfl
theorem B_136_44 {X : Nat × (Nat → Int32)} {d : Nat} (n : Nat) (x1 : Int32) (x2 : Int32) (v15 : Int32) (S15 : St) : ex X d 136 80 [.ref 29, .int x1, .int x2, .int v15, .retAddr 0, .retAddr 0, .retAddr 0, .retAddr 0, .retAddr 0] [.ref 29] (hh S15) (n + 2) = if (kd 29).1 = 10 + 8 ∧ (xf_k 8 14 = 0 ∨ (xf_k 8 14 = 1 ∧ (((-1) : Int32) = 0 ∨ ((-1) : Int32) = 1))) then ex X d 136 84 [.ref 29, .int x1, .int x2, .int v15, .retAddr 0, .retAddr 0, .retAddr 0, .retAddr 0, .retAddr 0] [] (hh (xa_u S15.1 29 14 (-1), S15.2.1, S15.2.2)) n else none := rfl
theorem B_136_45 {X : Nat × (Nat → Int32)} {d : Nat} (n : Nat) (x1 : Int32) (x2 : Int32) (v15 : Int32) (S15 : St) : ex X d 136 54 [.ref 29, .int x1, .int x2, .int v15, .retAddr 0, .retAddr 0, .retAddr 0, .retAddr 0, .retAddr 0] [] (hh S15) (n + 3) = if v15 = 243 then ex X d 136 61 [.ref 29, .int x1, .int x2, .int v15, .retAddr 0, .retAddr 0, .retAddr 0, .retAddr 0, .retAddr 0] [] (hh S15) n else ex X d 136 87 [.ref 29, .int x1, .int x2, .int v15, .retAddr 0, .retAddr 0, .retAddr 0, .retAddr 0, .retAddr 0] [] (hh S15) n := rfl
theorem B_136_46 {X : Nat × (Nat → Int32)} {d : Nat} (n : Nat) (x1 : Int32) (x2 : Int32) (v15 : Int32) (S15 : St) : ex X d 136 87 [.ref 29, .int x1, .int x2, .int v15, .retAddr 0, .retAddr 0, .retAddr 0, .retAddr 0, .retAddr 0] [] (hh S15) (n + 3) = if v15 = 246 then ex X d 136 94 [.ref 29, .int x1, .int x2, .int v15, .retAddr 0, .retAddr 0, .retAddr 0, .retAddr 0, .retAddr 0] [] (hh S15) n else ex X d 136 134 [.ref 29, .int x1, .int x2, .int v15, .retAddr 0, .retAddr 0, .retAddr 0, .retAddr 0, .retAddr 0] [] (hh S15) n := rfl
theorem B_136_47 {X : Nat × (Nat → Int32)} {d : Nat} (n : Nat) (x1 : Int32) (x2 : Int32) (v15 : Int32) (S15 : St) : ex X d 136 94 [.ref 29, .int x1, .int x2, .int v15, .retAddr 0, .retAddr 0, .retAddr 0, .retAddr 0, .retAddr 0] [] (hh S15) (n + 4) = ex X d 136 99 [.ref 29, .int x1, .int x2, .int v15, .int (x1 + 1), .retAddr 0, .retAddr 0, .retAddr 0, .retAddr 0] [] (hh S15) n := rfl
theorem B_136_48 {X : Nat × (Nat → Int32)} {d : Nat} (n : Nat) (x1 : Int32) (x2 : Int32) (v15 : Int32) (S15 : St) : ex X d 136 87 [.ref 29, .int x1, .int x2, .int v15, .retAddr 0, .retAddr 0, .retAddr 0, .retAddr 0, .retAddr 0] [] (hh S15) (n + 3) = if v15 = 246 then ex X d 136 94 [.ref 29, .int x1, .int x2, .int v15, .retAddr 0, .retAddr 0, .retAddr 0, .retAddr 0, .retAddr 0] [] (hh S15) n else ex X d 136 134 [.ref 29, .int x1, .int x2, .int v15, .retAddr 0, .retAddr 0, .retAddr 0, .retAddr 0, .retAddr 0] [] (hh S15) n := rfl
theorem B_136_49 {X : Nat × (Nat → Int32)} {d : Nat} (n : Nat) (x1 : Int32) (x2 : Int32) (v15 : Int32) (S15 : St) : ex X (d + 1) 136 134 [.ref 29, .int x1, .int x2, .int v15, .retAddr 0, .retAddr 0, .retAddr 0, .retAddr 0, .retAddr 0] [] (hh S15) (n + 6) = (match ex X d 118 0 [.ref 29, .int 0, .int (x1 + 1)] [] (hh S15) n with | some (v, h') => ex X (d + 1) 136 142 [.ref 29, .int x1, .int x2, .int v15, .retAddr 0, .retAddr 0, .retAddr 0, .retAddr 0, .retAddr 0] (v.toList ++ []) h' n | none => none) := rfl
theorem B_136_50 {X : Nat × (Nat → Int32)} {d : Nat} (n : Nat) (x1 : Int32) (x2 : Int32) (v15 : Int32) (v23 : Int32) (S23 : St) : ex X (d + 1) 136 142 [.ref 29, .int x1, .int x2, .int v15, .retAddr 0, .retAddr 0, .retAddr 0, .retAddr 0, .retAddr 0] [.int v23] (hh S23) (n + 7) = (match ex X d 118 0 [.ref 29, .int 0, .int (x1 + 2)] [] (hh S23) n with | some (v, h') => ex X (d + 1) 136 152 [.ref 29, .int x1, .int x2, .int v15, .int v23, .retAddr 0, .retAddr 0, .retAddr 0, .retAddr 0] (v.toList ++ []) h' n | none => none) := rfl
theorem B_136_51 {X : Nat × (Nat → Int32)} {d : Nat} (n : Nat) (x1 : Int32) (x2 : Int32) (v15 : Int32) (v23 : Int32) (v24 : Int32) (S24 : St) : ex X d 136 152 [.ref 29, .int x1, .int x2, .int v15, .int v23, .retAddr 0, .retAddr 0, .retAddr 0, .retAddr 0] [.int v24] (hh S24) (n + 6) = if x2 = (x1 + 3) then ex X d 136 161 [.ref 29, .int x1, .int x2, .int v15, .int v23, .int v24, .retAddr 0, .retAddr 0, .retAddr 0] [] (hh S24) n else ex X d 136 173 [.ref 29, .int x1, .int x2, .int v15, .int v23, .int v24, .retAddr 0, .retAddr 0, .retAddr 0] [] (hh S24) n := rfl
theorem B_136_52 {X : Nat × (Nat → Int32)} {d : Nat} (n : Nat) (x1 : Int32) (x2 : Int32) (v15 : Int32) (v23 : Int32) (v24 : Int32) (S24 : St) : ex X (d + 1) 136 161 [.ref 29, .int x1, .int x2, .int v15, .int v23, .int v24, .retAddr 0, .retAddr 0, .retAddr 0] [] (hh S24) (n + 6) = (match ex X d 141 0 [.ref 29, .int v23, .int v24, .int v23, .int v24, .retAddr 0, .retAddr 0, .retAddr 0, .retAddr 0, .retAddr 0, .retAddr 0] [] (hh S24) n with | some (v, h') => ex X (d + 1) 136 173 [.ref 29, .int x1, .int x2, .int v15, .int v23, .int v24, .retAddr 0, .retAddr 0, .retAddr 0] (v.toList ++ []) h' n | none => none) := rfl
theorem B_136_53 {X : Nat × (Nat → Int32)} {d : Nat} (n : Nat) (x1 : Int32) (x2 : Int32) (v15 : Int32) (v23 : Int32) (v24 : Int32) (S26 : St) : ex X d 136 173 [.ref 29, .int x1, .int x2, .int v15, .int v23, .int v24, .retAddr 0, .retAddr 0, .retAddr 0] [] (hh S26) (n + 4) = ex X d 136 178 [.ref 29, .int x1, .int x2, .int v15, .int v23, .int v24, .int (x1 + 3), .retAddr 0, .retAddr 0] [] (hh S26) n := rfl
theorem B_136_54 {X : Nat × (Nat → Int32)} {d : Nat} (n : Nat) (x1 : Int32) (x2 : Int32) (v15 : Int32) (v23 : Int32) (v24 : Int32) (S24 : St) : ex X d 136 152 [.ref 29, .int x1, .int x2, .int v15, .int v23, .retAddr 0, .retAddr 0, .retAddr 0, .retAddr 0] [.int v24] (hh S24) (n + 6) = if x2 = (x1 + 3) then ex X d 136 161 [.ref 29, .int x1, .int x2, .int v15, .int v23, .int v24, .retAddr 0, .retAddr 0, .retAddr 0] [] (hh S24) n else ex X d 136 173 [.ref 29, .int x1, .int x2, .int v15, .int v23, .int v24, .retAddr 0, .retAddr 0, .retAddr 0] [] (hh S24) n := rfl
theorem B_136_55 {X : Nat × (Nat → Int32)} {d : Nat} (n : Nat) (x1 : Int32) (x2 : Int32) (v15 : Int32) (v23 : Int32) (v24 : Int32) (S24 : St) : ex X d 136 173 [.ref 29, .int x1, .int x2, .int v15, .int v23, .int v24, .retAddr 0, .retAddr 0, .retAddr 0] [] (hh S24) (n + 4) = ex X d 136 178 [.ref 29, .int x1, .int x2, .int v15, .int v23, .int v24, .int (x1 + 3), .retAddr 0, .retAddr 0] [] (hh S24) n := rfl
set_option maxRecDepth 200000 in
theorem T_136 {X : Nat × (Nat → Int32)} (S : St) (x1 : Int32) (x2 : Int32) (r : Unit) (S' : St) (hG : G_136 S x1 x2 = some (r, S')) : Ev X 2 136 0 [.ref 29, .int x1, .int x2, .retAddr 0, .retAddr 0, .retAddr 0, .retAddr 0, .retAddr 0, .retAddr 0] [] (hh S) (xV r, hh S') := by
  unfold G_136 at hG
  rcases h15 : G_118 S (0 : Int32) x1 with _ | ⟨v15, S15⟩
  · rw [h15] at hG; cases hG
  rw [h15] at hG
  dsimp only at hG
  refine Ev.c (a := 118) (A := [.ref 29, .int 0, .int x1]) (h1 := hh S) (pc' := 6) (L' := [.ref 29, .int x1, .int x2, .retAddr 0, .retAddr 0, .retAddr 0, .retAddr 0, .retAddr 0, .retAddr 0]) (rest := []) (r1 := some (.int v15)) (h2 := hh S15) 4 (fun n => B_136_27 n x1 x2 S) (Ev.up (by decide) (T_118 S (0 : Int32) x1 _ _ h15)) ?_
  show Ev X _ 136 6 [.ref 29, .int x1, .int x2, .retAddr 0, .retAddr 0, .retAddr 0, .retAddr 0, .retAddr 0, .retAddr 0] [.int v15] (hh S15) _
  by_cases c16 : v15 = 240
  · rw [if_pos c16] at hG
    refine Ev.t (c := v15 = 240) (p1 := 21) (L1 := [.ref 29, .int x1, .int x2, .int v15, .retAddr 0, .retAddr 0, .retAddr 0, .retAddr 0, .retAddr 0]) (s1 := []) (h1 := hh S15) (p2 := 14) (L2 := [.ref 29, .int x1, .int x2, .int v15, .retAddr 0, .retAddr 0, .retAddr 0, .retAddr 0, .retAddr 0]) (s2 := []) (h2 := hh S15) 4 (fun n => B_136_28 n x1 x2 v15 S15) c16 ?_
    refine Ev.t (c := v15 = 240) (p1 := 29) (L1 := [.ref 29, .int x1, .int x2, .int v15, .retAddr 0, .retAddr 0, .retAddr 0, .retAddr 0, .retAddr 0]) (s1 := [.ref 29]) (h1 := hh S15) (p2 := 40) (L2 := [.ref 29, .int x1, .int x2, .int v15, .retAddr 0, .retAddr 0, .retAddr 0, .retAddr 0, .retAddr 0]) (s2 := [.ref 29]) (h2 := hh S15) 4 (fun n => B_136_29 n x1 x2 v15 S15) c16 ?_
    rcases h17 : G_118 S15 (0 : Int32) (x1 + 1) with _ | ⟨v17, S17⟩
    · rw [h17] at hG; cases hG
    rw [h17] at hG
    dsimp only at hG
    refine Ev.c (a := 118) (A := [.ref 29, .int 0, .int (x1 + 1)]) (h1 := hh S15) (pc' := 37) (L' := [.ref 29, .int x1, .int x2, .int v15, .retAddr 0, .retAddr 0, .retAddr 0, .retAddr 0, .retAddr 0]) (rest := [.ref 29]) (r1 := some (.int v17)) (h2 := hh S17) 6 (fun n => B_136_30 n x1 x2 v15 S15) (Ev.up (by decide) (T_118 S15 (0 : Int32) (x1 + 1) _ _ h17)) ?_
    show Ev X _ 136 37 [.ref 29, .int x1, .int x2, .int v15, .retAddr 0, .retAddr 0, .retAddr 0, .retAddr 0, .retAddr 0] [.int v17, .ref 29] (hh S17) _
    refine Ev.g (c := (kd 29).1 = 10 + 8 ∧ (xf_k 8 13 = 0 ∨ (xf_k 8 13 = 1 ∧ (v17 = 0 ∨ v17 = 1)))) (p1 := 44) (L1 := [.ref 29, .int x1, .int x2, .int v15, .retAddr 0, .retAddr 0, .retAddr 0, .retAddr 0, .retAddr 0]) (s1 := []) (h1 := hh (xa_u S17.1 29 13 v17, S17.2.1, S17.2.2)) 2 (fun n => B_136_31 n x1 x2 v15 v17 S17) (⟨rfl, Or.inl rfl⟩) ?_
    obtain ⟨e1, e2⟩ := Prod.mk.inj (Option.some.inj hG)
    subst e1
    subst e2
    exact Ev.r 2 (fun n => rfl)
  · rw [if_neg c16] at hG
    refine Ev.f (c := v15 = 240) (p1 := 21) (L1 := [.ref 29, .int x1, .int x2, .int v15, .retAddr 0, .retAddr 0, .retAddr 0, .retAddr 0, .retAddr 0]) (s1 := []) (h1 := hh S15) (p2 := 14) (L2 := [.ref 29, .int x1, .int x2, .int v15, .retAddr 0, .retAddr 0, .retAddr 0, .retAddr 0, .retAddr 0]) (s2 := []) (h2 := hh S15) 4 (fun n => B_136_32 n x1 x2 v15 S15) c16 ?_
    by_cases c18 : v15 = 241
    · rw [if_pos c18] at hG
      refine Ev.t (c := v15 = 241) (p1 := 21) (L1 := [.ref 29, .int x1, .int x2, .int v15, .retAddr 0, .retAddr 0, .retAddr 0, .retAddr 0, .retAddr 0]) (s1 := []) (h1 := hh S15) (p2 := 47) (L2 := [.ref 29, .int x1, .int x2, .int v15, .retAddr 0, .retAddr 0, .retAddr 0, .retAddr 0, .retAddr 0]) (s2 := []) (h2 := hh S15) 3 (fun n => B_136_33 n x1 x2 v15 S15) c18 ?_
      refine Ev.f (c := v15 = 240) (p1 := 29) (L1 := [.ref 29, .int x1, .int x2, .int v15, .retAddr 0, .retAddr 0, .retAddr 0, .retAddr 0, .retAddr 0]) (s1 := [.ref 29]) (h1 := hh S15) (p2 := 40) (L2 := [.ref 29, .int x1, .int x2, .int v15, .retAddr 0, .retAddr 0, .retAddr 0, .retAddr 0, .retAddr 0]) (s2 := [.ref 29]) (h2 := hh S15) 4 (fun n => B_136_34 n x1 x2 v15 S15) c16 ?_
      refine Ev.g (c := (kd 29).1 = 10 + 8 ∧ (xf_k 8 13 = 0 ∨ (xf_k 8 13 = 1 ∧ (((-1) : Int32) = 0 ∨ ((-1) : Int32) = 1)))) (p1 := 44) (L1 := [.ref 29, .int x1, .int x2, .int v15, .retAddr 0, .retAddr 0, .retAddr 0, .retAddr 0, .retAddr 0]) (s1 := []) (h1 := hh (xa_u S15.1 29 13 (-1), S15.2.1, S15.2.2)) 2 (fun n => B_136_35 n x1 x2 v15 S15) (⟨rfl, Or.inl rfl⟩) ?_
      obtain ⟨e1, e2⟩ := Prod.mk.inj (Option.some.inj hG)
      subst e1
      subst e2
      exact Ev.r 2 (fun n => rfl)
    · rw [if_neg c18] at hG
      refine Ev.f (c := v15 = 241) (p1 := 21) (L1 := [.ref 29, .int x1, .int x2, .int v15, .retAddr 0, .retAddr 0, .retAddr 0, .retAddr 0, .retAddr 0]) (s1 := []) (h1 := hh S15) (p2 := 47) (L2 := [.ref 29, .int x1, .int x2, .int v15, .retAddr 0, .retAddr 0, .retAddr 0, .retAddr 0, .retAddr 0]) (s2 := []) (h2 := hh S15) 3 (fun n => B_136_36 n x1 x2 v15 S15) c18 ?_
      by_cases c19 : v15 = 242
      · rw [if_pos c19] at hG
        refine Ev.t (c := v15 = 242) (p1 := 61) (L1 := [.ref 29, .int x1, .int x2, .int v15, .retAddr 0, .retAddr 0, .retAddr 0, .retAddr 0, .retAddr 0]) (s1 := []) (h1 := hh S15) (p2 := 54) (L2 := [.ref 29, .int x1, .int x2, .int v15, .retAddr 0, .retAddr 0, .retAddr 0, .retAddr 0, .retAddr 0]) (s2 := []) (h2 := hh S15) 3 (fun n => B_136_37 n x1 x2 v15 S15) c19 ?_
        refine Ev.t (c := v15 = 242) (p1 := 69) (L1 := [.ref 29, .int x1, .int x2, .int v15, .retAddr 0, .retAddr 0, .retAddr 0, .retAddr 0, .retAddr 0]) (s1 := [.ref 29]) (h1 := hh S15) (p2 := 80) (L2 := [.ref 29, .int x1, .int x2, .int v15, .retAddr 0, .retAddr 0, .retAddr 0, .retAddr 0, .retAddr 0]) (s2 := [.ref 29]) (h2 := hh S15) 4 (fun n => B_136_38 n x1 x2 v15 S15) c19 ?_
        rcases h20 : G_118 S15 (0 : Int32) (x1 + 1) with _ | ⟨v20, S20⟩
        · rw [h20] at hG; cases hG
        rw [h20] at hG
        dsimp only at hG
        refine Ev.c (a := 118) (A := [.ref 29, .int 0, .int (x1 + 1)]) (h1 := hh S15) (pc' := 77) (L' := [.ref 29, .int x1, .int x2, .int v15, .retAddr 0, .retAddr 0, .retAddr 0, .retAddr 0, .retAddr 0]) (rest := [.ref 29]) (r1 := some (.int v20)) (h2 := hh S20) 6 (fun n => B_136_39 n x1 x2 v15 S15) (Ev.up (by decide) (T_118 S15 (0 : Int32) (x1 + 1) _ _ h20)) ?_
        show Ev X _ 136 77 [.ref 29, .int x1, .int x2, .int v15, .retAddr 0, .retAddr 0, .retAddr 0, .retAddr 0, .retAddr 0] [.int v20, .ref 29] (hh S20) _
        refine Ev.g (c := (kd 29).1 = 10 + 8 ∧ (xf_k 8 14 = 0 ∨ (xf_k 8 14 = 1 ∧ (v20 = 0 ∨ v20 = 1)))) (p1 := 84) (L1 := [.ref 29, .int x1, .int x2, .int v15, .retAddr 0, .retAddr 0, .retAddr 0, .retAddr 0, .retAddr 0]) (s1 := []) (h1 := hh (xa_u S20.1 29 14 v20, S20.2.1, S20.2.2)) 2 (fun n => B_136_40 n x1 x2 v15 v20 S20) (⟨rfl, Or.inl rfl⟩) ?_
        obtain ⟨e1, e2⟩ := Prod.mk.inj (Option.some.inj hG)
        subst e1
        subst e2
        exact Ev.r 2 (fun n => rfl)
      · rw [if_neg c19] at hG
        refine Ev.f (c := v15 = 242) (p1 := 61) (L1 := [.ref 29, .int x1, .int x2, .int v15, .retAddr 0, .retAddr 0, .retAddr 0, .retAddr 0, .retAddr 0]) (s1 := []) (h1 := hh S15) (p2 := 54) (L2 := [.ref 29, .int x1, .int x2, .int v15, .retAddr 0, .retAddr 0, .retAddr 0, .retAddr 0, .retAddr 0]) (s2 := []) (h2 := hh S15) 3 (fun n => B_136_41 n x1 x2 v15 S15) c19 ?_
        by_cases c21 : v15 = 243
        · rw [if_pos c21] at hG
          refine Ev.t (c := v15 = 243) (p1 := 61) (L1 := [.ref 29, .int x1, .int x2, .int v15, .retAddr 0, .retAddr 0, .retAddr 0, .retAddr 0, .retAddr 0]) (s1 := []) (h1 := hh S15) (p2 := 87) (L2 := [.ref 29, .int x1, .int x2, .int v15, .retAddr 0, .retAddr 0, .retAddr 0, .retAddr 0, .retAddr 0]) (s2 := []) (h2 := hh S15) 3 (fun n => B_136_42 n x1 x2 v15 S15) c21 ?_
          refine Ev.f (c := v15 = 242) (p1 := 69) (L1 := [.ref 29, .int x1, .int x2, .int v15, .retAddr 0, .retAddr 0, .retAddr 0, .retAddr 0, .retAddr 0]) (s1 := [.ref 29]) (h1 := hh S15) (p2 := 80) (L2 := [.ref 29, .int x1, .int x2, .int v15, .retAddr 0, .retAddr 0, .retAddr 0, .retAddr 0, .retAddr 0]) (s2 := [.ref 29]) (h2 := hh S15) 4 (fun n => B_136_43 n x1 x2 v15 S15) c19 ?_
          refine Ev.g (c := (kd 29).1 = 10 + 8 ∧ (xf_k 8 14 = 0 ∨ (xf_k 8 14 = 1 ∧ (((-1) : Int32) = 0 ∨ ((-1) : Int32) = 1)))) (p1 := 84) (L1 := [.ref 29, .int x1, .int x2, .int v15, .retAddr 0, .retAddr 0, .retAddr 0, .retAddr 0, .retAddr 0]) (s1 := []) (h1 := hh (xa_u S15.1 29 14 (-1), S15.2.1, S15.2.2)) 2 (fun n => B_136_44 n x1 x2 v15 S15) (⟨rfl, Or.inl rfl⟩) ?_
          obtain ⟨e1, e2⟩ := Prod.mk.inj (Option.some.inj hG)
          subst e1
          subst e2
          exact Ev.r 2 (fun n => rfl)
        · rw [if_neg c21] at hG
          refine Ev.f (c := v15 = 243) (p1 := 61) (L1 := [.ref 29, .int x1, .int x2, .int v15, .retAddr 0, .retAddr 0, .retAddr 0, .retAddr 0, .retAddr 0]) (s1 := []) (h1 := hh S15) (p2 := 87) (L2 := [.ref 29, .int x1, .int x2, .int v15, .retAddr 0, .retAddr 0, .retAddr 0, .retAddr 0, .retAddr 0]) (s2 := []) (h2 := hh S15) 3 (fun n => B_136_45 n x1 x2 v15 S15) c21 ?_
          by_cases c22 : v15 = 246
          · rw [if_pos c22] at hG
            refine Ev.t (c := v15 = 246) (p1 := 94) (L1 := [.ref 29, .int x1, .int x2, .int v15, .retAddr 0, .retAddr 0, .retAddr 0, .retAddr 0, .retAddr 0]) (s1 := []) (h1 := hh S15) (p2 := 134) (L2 := [.ref 29, .int x1, .int x2, .int v15, .retAddr 0, .retAddr 0, .retAddr 0, .retAddr 0, .retAddr 0]) (s2 := []) (h2 := hh S15) 3 (fun n => B_136_46 n x1 x2 v15 S15) c22 ?_
            exact Ev.b (pc' := 99) (L' := [.ref 29, .int x1, .int x2, .int v15, .int (x1 + 1), .retAddr 0, .retAddr 0, .retAddr 0, .retAddr 0]) (st' := []) (h' := hh S15) 4 (fun n => B_136_47 n x1 x2 v15 S15) (TL_136_0 xFu S15 x2 (x1 + 1) _ _ hG (.int x1) (.int v15) (.retAddr 0) (.retAddr 0) (.retAddr 0) (.retAddr 0))
          · rw [if_neg c22] at hG
            refine Ev.f (c := v15 = 246) (p1 := 94) (L1 := [.ref 29, .int x1, .int x2, .int v15, .retAddr 0, .retAddr 0, .retAddr 0, .retAddr 0, .retAddr 0]) (s1 := []) (h1 := hh S15) (p2 := 134) (L2 := [.ref 29, .int x1, .int x2, .int v15, .retAddr 0, .retAddr 0, .retAddr 0, .retAddr 0, .retAddr 0]) (s2 := []) (h2 := hh S15) 3 (fun n => B_136_48 n x1 x2 v15 S15) c22 ?_
            rcases h23 : G_118 S15 (0 : Int32) (x1 + 1) with _ | ⟨v23, S23⟩
            · rw [h23] at hG; cases hG
            rw [h23] at hG
            dsimp only at hG
            refine Ev.c (a := 118) (A := [.ref 29, .int 0, .int (x1 + 1)]) (h1 := hh S15) (pc' := 142) (L' := [.ref 29, .int x1, .int x2, .int v15, .retAddr 0, .retAddr 0, .retAddr 0, .retAddr 0, .retAddr 0]) (rest := []) (r1 := some (.int v23)) (h2 := hh S23) 6 (fun n => B_136_49 n x1 x2 v15 S15) (Ev.up (by decide) (T_118 S15 (0 : Int32) (x1 + 1) _ _ h23)) ?_
            show Ev X _ 136 142 [.ref 29, .int x1, .int x2, .int v15, .retAddr 0, .retAddr 0, .retAddr 0, .retAddr 0, .retAddr 0] [.int v23] (hh S23) _
            rcases h24 : G_118 S23 (0 : Int32) (x1 + 2) with _ | ⟨v24, S24⟩
            · rw [h24] at hG; cases hG
            rw [h24] at hG
            dsimp only at hG
            refine Ev.c (a := 118) (A := [.ref 29, .int 0, .int (x1 + 2)]) (h1 := hh S23) (pc' := 152) (L' := [.ref 29, .int x1, .int x2, .int v15, .int v23, .retAddr 0, .retAddr 0, .retAddr 0, .retAddr 0]) (rest := []) (r1 := some (.int v24)) (h2 := hh S24) 7 (fun n => B_136_50 n x1 x2 v15 v23 S23) (Ev.up (by decide) (T_118 S23 (0 : Int32) (x1 + 2) _ _ h24)) ?_
            show Ev X _ 136 152 [.ref 29, .int x1, .int x2, .int v15, .int v23, .retAddr 0, .retAddr 0, .retAddr 0, .retAddr 0] [.int v24] (hh S24) _
            by_cases c25 : x2 = (x1 + 3)
            · rw [if_pos c25] at hG
              refine Ev.t (c := x2 = (x1 + 3)) (p1 := 161) (L1 := [.ref 29, .int x1, .int x2, .int v15, .int v23, .int v24, .retAddr 0, .retAddr 0, .retAddr 0]) (s1 := []) (h1 := hh S24) (p2 := 173) (L2 := [.ref 29, .int x1, .int x2, .int v15, .int v23, .int v24, .retAddr 0, .retAddr 0, .retAddr 0]) (s2 := []) (h2 := hh S24) 6 (fun n => B_136_51 n x1 x2 v15 v23 v24 S24) c25 ?_
              rcases h26 : G_141 S24 v23 v24 v23 v24 with _ | ⟨v26, S26⟩
              · rw [h26] at hG; cases hG
              rw [h26] at hG
              dsimp only at hG
              refine Ev.c (a := 141) (A := [.ref 29, .int v23, .int v24, .int v23, .int v24, .retAddr 0, .retAddr 0, .retAddr 0, .retAddr 0, .retAddr 0, .retAddr 0]) (h1 := hh S24) (pc' := 173) (L' := [.ref 29, .int x1, .int x2, .int v15, .int v23, .int v24, .retAddr 0, .retAddr 0, .retAddr 0]) (rest := []) (r1 := none) (h2 := hh S26) 6 (fun n => B_136_52 n x1 x2 v15 v23 v24 S24) (Ev.up (by decide) (T_141 S24 v23 v24 v23 v24 _ _ h26)) ?_
              show Ev X _ 136 173 [.ref 29, .int x1, .int x2, .int v15, .int v23, .int v24, .retAddr 0, .retAddr 0, .retAddr 0] [] (hh S26) _
              exact Ev.b (pc' := 178) (L' := [.ref 29, .int x1, .int x2, .int v15, .int v23, .int v24, .int (x1 + 3), .retAddr 0, .retAddr 0]) (st' := []) (h' := hh S26) 4 (fun n => B_136_53 n x1 x2 v15 v23 v24 S26) (TL_136_1 xFu S26 x2 v15 v23 v24 (x1 + 3) _ _ hG (.int x1) (.retAddr 0) (.retAddr 0))
            · rw [if_neg c25] at hG
              refine Ev.f (c := x2 = (x1 + 3)) (p1 := 161) (L1 := [.ref 29, .int x1, .int x2, .int v15, .int v23, .int v24, .retAddr 0, .retAddr 0, .retAddr 0]) (s1 := []) (h1 := hh S24) (p2 := 173) (L2 := [.ref 29, .int x1, .int x2, .int v15, .int v23, .int v24, .retAddr 0, .retAddr 0, .retAddr 0]) (s2 := []) (h2 := hh S24) 6 (fun n => B_136_54 n x1 x2 v15 v23 v24 S24) c25 ?_
              exact Ev.b (pc' := 178) (L' := [.ref 29, .int x1, .int x2, .int v15, .int v23, .int v24, .int (x1 + 3), .retAddr 0, .retAddr 0]) (st' := []) (h' := hh S24) 4 (fun n => B_136_55 n x1 x2 v15 v23 v24 S24) (TL_136_1 xFu S24 x2 v15 v23 v24 (x1 + 3) _ _ hG (.int x1) (.retAddr 0) (.retAddr 0))
/-- 135: SceneCycleModel.show()V -/
def GL_135_0 : Nat → St → Int32 → Option (Unit × St)
  | 0, _, _ => none
  | n + 1, S, y1 =>
    (if (S.1 35 ((0 : Int32)).toNatClampNeg) = 0 then
      some ((), S)
    else
      (match G_118 S (0 : Int32) y1 with
      | none => none
      | some (v2, S2) =>
        (if v2 = 255 then
          some ((), S2)
        else
          (match G_119 S2 (0 : Int32) y1 with
          | none => none
          | some (v4, S4) =>
            (match G_136 S4 y1 v4 with
            | none => none
            | some (v5, S5) =>
              GL_135_0 n S5 v4
            )
          )
        )
      )
    )
theorem B_135_1 {X : Nat × (Nat → Int32)} {d : Nat} (n : Nat) (y1 : Int32) (w2 : Value) (S : St) : ex X d 135 6 [.ref 29, .int y1, w2] [] (hh S) (n + 4) = if (kd 35).1 = 1 ∧ xa_in (0 : Int32) (kd 35).2 then ex X d 135 12 [.ref 29, .int y1, w2] [.int (S.1 35 ((0 : Int32)).toNatClampNeg)] (hh S) n else none := rfl
theorem B_135_2 {X : Nat × (Nat → Int32)} {d : Nat} (n : Nat) (y1 : Int32) (w2 : Value) (S : St) : ex X d 135 12 [.ref 29, .int y1, w2] [.int (S.1 35 ((0 : Int32)).toNatClampNeg)] (hh S) (n + 1) = if (S.1 35 ((0 : Int32)).toNatClampNeg) = 0 then ex X d 135 45 [.ref 29, .int y1, w2] [] (hh S) n else ex X d 135 15 [.ref 29, .int y1, w2] [] (hh S) n := rfl
theorem B_135_3 {X : Nat × (Nat → Int32)} {d : Nat} (n : Nat) (y1 : Int32) (w2 : Value) (S : St) : ex X d 135 12 [.ref 29, .int y1, w2] [.int (S.1 35 ((0 : Int32)).toNatClampNeg)] (hh S) (n + 1) = if (S.1 35 ((0 : Int32)).toNatClampNeg) = 0 then ex X d 135 45 [.ref 29, .int y1, w2] [] (hh S) n else ex X d 135 15 [.ref 29, .int y1, w2] [] (hh S) n := rfl
theorem B_135_4 {X : Nat × (Nat → Int32)} {d : Nat} (n : Nat) (y1 : Int32) (w2 : Value) (S : St) : ex X (d + 1) 135 15 [.ref 29, .int y1, w2] [] (hh S) (n + 4) = (match ex X d 118 0 [.ref 29, .int 0, .int y1] [] (hh S) n with | some (v, h') => ex X (d + 1) 135 21 [.ref 29, .int y1, w2] (v.toList ++ []) h' n | none => none) := rfl
theorem B_135_5 {X : Nat × (Nat → Int32)} {d : Nat} (n : Nat) (y1 : Int32) (w2 : Value) (v2 : Int32) (S2 : St) : ex X d 135 21 [.ref 29, .int y1, w2] [.int v2] (hh S2) (n + 2) = if v2 = 255 then ex X d 135 45 [.ref 29, .int y1, w2] [] (hh S2) n else ex X d 135 27 [.ref 29, .int y1, w2] [] (hh S2) n := rfl
theorem B_135_6 {X : Nat × (Nat → Int32)} {d : Nat} (n : Nat) (y1 : Int32) (w2 : Value) (v2 : Int32) (S2 : St) : ex X d 135 21 [.ref 29, .int y1, w2] [.int v2] (hh S2) (n + 2) = if v2 = 255 then ex X d 135 45 [.ref 29, .int y1, w2] [] (hh S2) n else ex X d 135 27 [.ref 29, .int y1, w2] [] (hh S2) n := rfl
theorem B_135_7 {X : Nat × (Nat → Int32)} {d : Nat} (n : Nat) (y1 : Int32) (w2 : Value) (S2 : St) : ex X (d + 1) 135 27 [.ref 29, .int y1, w2] [] (hh S2) (n + 4) = (match ex X d 119 0 [.ref 29, .int 0, .int y1, .retAddr 0, .retAddr 0, .retAddr 0, .retAddr 0] [] (hh S2) n with | some (v, h') => ex X (d + 1) 135 33 [.ref 29, .int y1, w2] (v.toList ++ []) h' n | none => none) := rfl
theorem B_135_8 {X : Nat × (Nat → Int32)} {d : Nat} (n : Nat) (y1 : Int32) (w2 : Value) (v4 : Int32) (S4 : St) : ex X (d + 1) 135 33 [.ref 29, .int y1, w2] [.int v4] (hh S4) (n + 5) = (match ex X d 136 0 [.ref 29, .int y1, .int v4, .retAddr 0, .retAddr 0, .retAddr 0, .retAddr 0, .retAddr 0, .retAddr 0] [] (hh S4) n with | some (v, h') => ex X (d + 1) 135 40 [.ref 29, .int y1, .int v4] (v.toList ++ []) h' n | none => none) := rfl
theorem B_135_9 {X : Nat × (Nat → Int32)} {d : Nat} (n : Nat) (y1 : Int32) (v4 : Int32) (S5 : St) : ex X d 135 40 [.ref 29, .int y1, .int v4] [] (hh S5) (n + 3) = ex X d 135 6 [.ref 29, .int v4, .int v4] [] (hh S5) n := rfl
set_option maxRecDepth 200000 in
theorem TL_135_0 {X : Nat × (Nat → Int32)} : ∀ (n : Nat) (S : St) (y1 : Int32) (r : Unit) (S' : St), GL_135_0 n S y1 = some (r, S') → ∀ (w2 : Value), Ev X 4 135 6 [.ref 29, .int y1, w2] [] (hh S) (xV r, hh S') := by
  intro n
  induction n with
  | zero => intro S y1 r S' hG; simp [GL_135_0] at hG
  | succ n ih =>
    intro S y1 r S' hG w2
    rw [GL_135_0] at hG
    refine Ev.g (c := (kd 35).1 = 1 ∧ xa_in (0 : Int32) (kd 35).2) (p1 := 12) (L1 := [.ref 29, .int y1, w2]) (s1 := [.int (S.1 35 ((0 : Int32)).toNatClampNeg)]) (h1 := hh S) 4 (fun n => B_135_1 n y1 w2 S) (⟨rfl, by decide⟩) ?_
    by_cases c1 : (S.1 35 ((0 : Int32)).toNatClampNeg) = 0
    · rw [if_pos c1] at hG
      refine Ev.t (c := (S.1 35 ((0 : Int32)).toNatClampNeg) = 0) (p1 := 45) (L1 := [.ref 29, .int y1, w2]) (s1 := []) (h1 := hh S) (p2 := 15) (L2 := [.ref 29, .int y1, w2]) (s2 := []) (h2 := hh S) 1 (fun n => B_135_2 n y1 w2 S) c1 ?_
      obtain ⟨e1, e2⟩ := Prod.mk.inj (Option.some.inj hG)
      subst e1
      subst e2
      exact Ev.r 1 (fun n => rfl)
    · rw [if_neg c1] at hG
      refine Ev.f (c := (S.1 35 ((0 : Int32)).toNatClampNeg) = 0) (p1 := 45) (L1 := [.ref 29, .int y1, w2]) (s1 := []) (h1 := hh S) (p2 := 15) (L2 := [.ref 29, .int y1, w2]) (s2 := []) (h2 := hh S) 1 (fun n => B_135_3 n y1 w2 S) c1 ?_
      rcases h2 : G_118 S (0 : Int32) y1 with _ | ⟨v2, S2⟩
      · rw [h2] at hG; cases hG
      rw [h2] at hG
      dsimp only at hG
      refine Ev.c (a := 118) (A := [.ref 29, .int 0, .int y1]) (h1 := hh S) (pc' := 21) (L' := [.ref 29, .int y1, w2]) (rest := []) (r1 := some (.int v2)) (h2 := hh S2) 4 (fun n => B_135_4 n y1 w2 S) (Ev.up (by decide) (T_118 S (0 : Int32) y1 _ _ h2)) ?_
      show Ev X _ 135 21 [.ref 29, .int y1, w2] [.int v2] (hh S2) _
      by_cases c3 : v2 = 255
      · rw [if_pos c3] at hG
        refine Ev.t (c := v2 = 255) (p1 := 45) (L1 := [.ref 29, .int y1, w2]) (s1 := []) (h1 := hh S2) (p2 := 27) (L2 := [.ref 29, .int y1, w2]) (s2 := []) (h2 := hh S2) 2 (fun n => B_135_5 n y1 w2 v2 S2) c3 ?_
        obtain ⟨e1, e2⟩ := Prod.mk.inj (Option.some.inj hG)
        subst e1
        subst e2
        exact Ev.r 1 (fun n => rfl)
      · rw [if_neg c3] at hG
        refine Ev.f (c := v2 = 255) (p1 := 45) (L1 := [.ref 29, .int y1, w2]) (s1 := []) (h1 := hh S2) (p2 := 27) (L2 := [.ref 29, .int y1, w2]) (s2 := []) (h2 := hh S2) 2 (fun n => B_135_6 n y1 w2 v2 S2) c3 ?_
        rcases h4 : G_119 S2 (0 : Int32) y1 with _ | ⟨v4, S4⟩
        · rw [h4] at hG; cases hG
        rw [h4] at hG
        dsimp only at hG
        refine Ev.c (a := 119) (A := [.ref 29, .int 0, .int y1, .retAddr 0, .retAddr 0, .retAddr 0, .retAddr 0]) (h1 := hh S2) (pc' := 33) (L' := [.ref 29, .int y1, w2]) (rest := []) (r1 := some (.int v4)) (h2 := hh S4) 4 (fun n => B_135_7 n y1 w2 S2) (Ev.up (by decide) (T_119 S2 (0 : Int32) y1 _ _ h4)) ?_
        show Ev X _ 135 33 [.ref 29, .int y1, w2] [.int v4] (hh S4) _
        rcases h5 : G_136 S4 y1 v4 with _ | ⟨v5, S5⟩
        · rw [h5] at hG; cases hG
        rw [h5] at hG
        dsimp only at hG
        refine Ev.c (a := 136) (A := [.ref 29, .int y1, .int v4, .retAddr 0, .retAddr 0, .retAddr 0, .retAddr 0, .retAddr 0, .retAddr 0]) (h1 := hh S4) (pc' := 40) (L' := [.ref 29, .int y1, .int v4]) (rest := []) (r1 := none) (h2 := hh S5) 5 (fun n => B_135_8 n y1 w2 v4 S4) (Ev.up (by decide) (T_136 S4 y1 v4 _ _ h5)) ?_
        show Ev X _ 135 40 [.ref 29, .int y1, .int v4] [] (hh S5) _
        exact Ev.b (pc' := 6) (L' := [.ref 29, .int v4, .int v4]) (st' := []) (h' := hh S5) 3 (fun n => B_135_9 n y1 v4 S5) (ih S5 v4 _ _ hG (.int v4))
def G_135 (S : St)  : Option (Unit × St) :=
  (match G_113 S with
  | none => none
  | some (v6, S6) =>
    GL_135_0 xFu S6 (0 : Int32)
  )
theorem B_135_10 {X : Nat × (Nat → Int32)} {d : Nat} (n : Nat) (S : St) : ex X (d + 1) 135 0 [.ref 29, .retAddr 0, .retAddr 0] [] (hh S) (n + 2) = (match ex X d 113 0 [.ref 29, .retAddr 0] [] (hh S) n with | some (v, h') => ex X (d + 1) 135 4 [.ref 29, .retAddr 0, .retAddr 0] (v.toList ++ []) h' n | none => none) := rfl
theorem B_135_11 {X : Nat × (Nat → Int32)} {d : Nat} (n : Nat) (S6 : St) : ex X d 135 4 [.ref 29, .retAddr 0, .retAddr 0] [] (hh S6) (n + 2) = ex X d 135 6 [.ref 29, .int 0, .retAddr 0] [] (hh S6) n := rfl
set_option maxRecDepth 200000 in
theorem T_135 {X : Nat × (Nat → Int32)} (S : St)  (r : Unit) (S' : St) (hG : G_135 S  = some (r, S')) : Ev X 4 135 0 [.ref 29, .retAddr 0, .retAddr 0] [] (hh S) (xV r, hh S') := by
  unfold G_135 at hG
  rcases h6 : G_113 S with _ | ⟨v6, S6⟩
  · rw [h6] at hG; cases hG
  rw [h6] at hG
  dsimp only at hG
  refine Ev.c (a := 113) (A := [.ref 29, .retAddr 0]) (h1 := hh S) (pc' := 4) (L' := [.ref 29, .retAddr 0, .retAddr 0]) (rest := []) (r1 := none) (h2 := hh S6) 2 (fun n => B_135_10 n S) (Ev.up (by decide) (T_113 S  _ _ h6)) ?_
  show Ev X _ 135 4 [.ref 29, .retAddr 0, .retAddr 0] [] (hh S6) _
  exact Ev.b (pc' := 6) (L' := [.ref 29, .int 0, .retAddr 0]) (st' := []) (h' := hh S6) 2 (fun n => B_135_11 n S6) (TL_135_0 xFu S6 (0 : Int32) _ _ hG (.retAddr 0))
/-- 144: SceneCycleModel.aligned(I)V -/
def G_144 (S : St) (x1 : Int32) : Option (Unit × St) :=
  (if xa_in x1 4 then
    (if (S.1 42 (x1).toNatClampNeg) ≤ (16 - (S.1 44 (x1).toNatClampNeg)) then
      some ((), (xa_u S.1 42 ((x1).toNatClampNeg) (S.1 42 (x1).toNatClampNeg), S.2.1, S.2.2))
    else
      some ((), (xa_u S.1 42 ((x1).toNatClampNeg) (16 - (S.1 44 (x1).toNatClampNeg)), S.2.1, S.2.2))
    )
  else none)
theorem B_144_1 {X : Nat × (Nat → Int32)} {d : Nat} (n : Nat) (x1 : Int32) (S : St) : ex X d 144 0 [.ref 29, .int x1] [] (hh S) (n + 7) = if (kd 42).1 = 0 ∧ xa_in x1 (kd 42).2 then ex X d 144 11 [.ref 29, .int x1] [.int (S.1 42 (x1).toNatClampNeg), .int x1, .ref 42] (hh S) n else none := rfl
theorem B_144_2 {X : Nat × (Nat → Int32)} {d : Nat} (n : Nat) (x1 : Int32) (S : St) : ex X d 144 11 [.ref 29, .int x1] [.int (S.1 42 (x1).toNatClampNeg), .int x1, .ref 42] (hh S) (n + 5) = if (kd 44).1 = 0 ∧ xa_in x1 (kd 44).2 then ex X d 144 19 [.ref 29, .int x1] [.int (S.1 44 (x1).toNatClampNeg), .int 16, .int (S.1 42 (x1).toNatClampNeg), .int x1, .ref 42] (hh S) n else none := rfl
theorem B_144_3 {X : Nat × (Nat → Int32)} {d : Nat} (n : Nat) (x1 : Int32) (S : St) : ex X d 144 19 [.ref 29, .int x1] [.int (S.1 44 (x1).toNatClampNeg), .int 16, .int (S.1 42 (x1).toNatClampNeg), .int x1, .ref 42] (hh S) (n + 2) = if (S.1 42 (x1).toNatClampNeg) ≤ (16 - (S.1 44 (x1).toNatClampNeg)) then ex X d 144 35 [.ref 29, .int x1] [.int x1, .ref 42] (hh S) n else ex X d 144 23 [.ref 29, .int x1] [.int x1, .ref 42] (hh S) n := rfl
theorem B_144_4 {X : Nat × (Nat → Int32)} {d : Nat} (n : Nat) (x1 : Int32) (S : St) : ex X d 144 35 [.ref 29, .int x1] [.int x1, .ref 42] (hh S) (n + 4) = if (kd 42).1 = 0 ∧ xa_in x1 (kd 42).2 then ex X d 144 41 [.ref 29, .int x1] [.int (S.1 42 (x1).toNatClampNeg), .int x1, .ref 42] (hh S) n else none := rfl
theorem B_144_5 {X : Nat × (Nat → Int32)} {d : Nat} (n : Nat) (x1 : Int32) (S : St) : ex X d 144 41 [.ref 29, .int x1] [.int (S.1 42 (x1).toNatClampNeg), .int x1, .ref 42] (hh S) (n + 1) = if (kd 42).1 = 0 ∧ xa_in x1 (kd 42).2 then ex X d 144 42 [.ref 29, .int x1] [] (hh (xa_u S.1 42 ((x1).toNatClampNeg) (S.1 42 (x1).toNatClampNeg), S.2.1, S.2.2)) n else none := rfl
theorem B_144_6 {X : Nat × (Nat → Int32)} {d : Nat} (n : Nat) (x1 : Int32) (S : St) : ex X d 144 19 [.ref 29, .int x1] [.int (S.1 44 (x1).toNatClampNeg), .int 16, .int (S.1 42 (x1).toNatClampNeg), .int x1, .ref 42] (hh S) (n + 2) = if (S.1 42 (x1).toNatClampNeg) ≤ (16 - (S.1 44 (x1).toNatClampNeg)) then ex X d 144 35 [.ref 29, .int x1] [.int x1, .ref 42] (hh S) n else ex X d 144 23 [.ref 29, .int x1] [.int x1, .ref 42] (hh S) n := rfl
theorem B_144_7 {X : Nat × (Nat → Int32)} {d : Nat} (n : Nat) (x1 : Int32) (S : St) : ex X d 144 23 [.ref 29, .int x1] [.int x1, .ref 42] (hh S) (n + 5) = if (kd 44).1 = 0 ∧ xa_in x1 (kd 44).2 then ex X d 144 31 [.ref 29, .int x1] [.int (S.1 44 (x1).toNatClampNeg), .int 16, .int x1, .ref 42] (hh S) n else none := rfl
theorem B_144_8 {X : Nat × (Nat → Int32)} {d : Nat} (n : Nat) (x1 : Int32) (S : St) : ex X d 144 31 [.ref 29, .int x1] [.int (S.1 44 (x1).toNatClampNeg), .int 16, .int x1, .ref 42] (hh S) (n + 3) = if (kd 42).1 = 0 ∧ xa_in x1 (kd 42).2 then ex X d 144 42 [.ref 29, .int x1] [] (hh (xa_u S.1 42 ((x1).toNatClampNeg) (16 - (S.1 44 (x1).toNatClampNeg)), S.2.1, S.2.2)) n else none := rfl
set_option maxRecDepth 200000 in
theorem T_144 {X : Nat × (Nat → Int32)} (S : St) (x1 : Int32) (r : Unit) (S' : St) (hG : G_144 S x1 = some (r, S')) : Ev X 0 144 0 [.ref 29, .int x1] [] (hh S) (xV r, hh S') := by
  unfold G_144 at hG
  by_cases g1 : xa_in x1 4
  rotate_left
  · rw [if_neg g1] at hG; cases hG
  rw [if_pos g1] at hG
  refine Ev.g (c := (kd 42).1 = 0 ∧ xa_in x1 (kd 42).2) (p1 := 11) (L1 := [.ref 29, .int x1]) (s1 := [.int (S.1 42 (x1).toNatClampNeg), .int x1, .ref 42]) (h1 := hh S) 7 (fun n => B_144_1 n x1 S) (⟨rfl, g1⟩) ?_
  refine Ev.g (c := (kd 44).1 = 0 ∧ xa_in x1 (kd 44).2) (p1 := 19) (L1 := [.ref 29, .int x1]) (s1 := [.int (S.1 44 (x1).toNatClampNeg), .int 16, .int (S.1 42 (x1).toNatClampNeg), .int x1, .ref 42]) (h1 := hh S) 5 (fun n => B_144_2 n x1 S) (⟨rfl, g1⟩) ?_
  by_cases c2 : (S.1 42 (x1).toNatClampNeg) ≤ (16 - (S.1 44 (x1).toNatClampNeg))
  · rw [if_pos c2] at hG
    refine Ev.t (c := (S.1 42 (x1).toNatClampNeg) ≤ (16 - (S.1 44 (x1).toNatClampNeg))) (p1 := 35) (L1 := [.ref 29, .int x1]) (s1 := [.int x1, .ref 42]) (h1 := hh S) (p2 := 23) (L2 := [.ref 29, .int x1]) (s2 := [.int x1, .ref 42]) (h2 := hh S) 2 (fun n => B_144_3 n x1 S) c2 ?_
    refine Ev.g (c := (kd 42).1 = 0 ∧ xa_in x1 (kd 42).2) (p1 := 41) (L1 := [.ref 29, .int x1]) (s1 := [.int (S.1 42 (x1).toNatClampNeg), .int x1, .ref 42]) (h1 := hh S) 4 (fun n => B_144_4 n x1 S) (⟨rfl, g1⟩) ?_
    refine Ev.g (c := (kd 42).1 = 0 ∧ xa_in x1 (kd 42).2) (p1 := 42) (L1 := [.ref 29, .int x1]) (s1 := []) (h1 := hh (xa_u S.1 42 ((x1).toNatClampNeg) (S.1 42 (x1).toNatClampNeg), S.2.1, S.2.2)) 1 (fun n => B_144_5 n x1 S) (⟨rfl, g1⟩) ?_
    obtain ⟨e1, e2⟩ := Prod.mk.inj (Option.some.inj hG)
    subst e1
    subst e2
    exact Ev.r 1 (fun n => rfl)
  · rw [if_neg c2] at hG
    refine Ev.f (c := (S.1 42 (x1).toNatClampNeg) ≤ (16 - (S.1 44 (x1).toNatClampNeg))) (p1 := 35) (L1 := [.ref 29, .int x1]) (s1 := [.int x1, .ref 42]) (h1 := hh S) (p2 := 23) (L2 := [.ref 29, .int x1]) (s2 := [.int x1, .ref 42]) (h2 := hh S) 2 (fun n => B_144_6 n x1 S) c2 ?_
    refine Ev.g (c := (kd 44).1 = 0 ∧ xa_in x1 (kd 44).2) (p1 := 31) (L1 := [.ref 29, .int x1]) (s1 := [.int (S.1 44 (x1).toNatClampNeg), .int 16, .int x1, .ref 42]) (h1 := hh S) 5 (fun n => B_144_7 n x1 S) (⟨rfl, g1⟩) ?_
    refine Ev.g (c := (kd 42).1 = 0 ∧ xa_in x1 (kd 42).2) (p1 := 42) (L1 := [.ref 29, .int x1]) (s1 := []) (h1 := hh (xa_u S.1 42 ((x1).toNatClampNeg) (16 - (S.1 44 (x1).toNatClampNeg)), S.2.1, S.2.2)) 3 (fun n => B_144_8 n x1 S) (⟨rfl, g1⟩) ?_
    obtain ⟨e1, e2⟩ := Prod.mk.inj (Option.some.inj hG)
    subst e1
    subst e2
    exact Ev.r 1 (fun n => rfl)
/-- 143: SceneCycleModel.doObject(II)V -/
def G_143 (S : St) (x1 : Int32) (x2 : Int32) : Option (Unit × St) :=
  (match G_118 S x1 x2 with
  | none => none
  | some (v1, S1) =>
    (match G_118 S1 x1 (x2 + 1) with
    | none => none
    | some (v2, S2) =>
      (match G_118 S2 x1 (x2 + 2) with
      | none => none
      | some (v3, S3) =>
        (match G_118 S3 x1 (x2 + 3) with
        | none => none
        | some (v4, S4) =>
          (if v1 = 9 then
            (if xa_in v2 4 then
              (match G_144 (xa_u (xa_u (xa_u S4.1 49 ((v2).toNatClampNeg) 1) 42 ((v2).toNatClampNeg) v3) 43 ((v2).toNatClampNeg) v4, S4.2.1, S4.2.2) v2 with
              | none => none
              | some (v7, S7) =>
                some ((), S7)
              )
            else none)
          else
            (if v1 = 10 then
              (if xa_in v2 4 then
                some ((), (xa_u S4.1 49 ((v2).toNatClampNeg) 0, S4.2.1, S4.2.2))
              else none)
            else
              (if v1 = 11 then
                (if xa_in v2 4 then
                  (match G_144 (xa_u (xa_u S4.1 44 ((v2).toNatClampNeg) v3) 45 ((v2).toNatClampNeg) v4, S4.2.1, S4.2.2) v2 with
                  | none => none
                  | some (v12, S12) =>
                    some ((), S12)
                  )
                else none)
              else
                (if v1 = 12 then
                  (if xa_in v2 4 then
                    some ((), (xa_u (xa_u S4.1 47 ((v2).toNatClampNeg) 0) 46 ((v2).toNatClampNeg) v3, S4.2.1, S4.2.2))
                  else none)
                else
                  (if v1 = 13 then
                    (if xa_in v2 4 then
                      (match G_118 (xa_u (xa_u (xa_u S4.1 47 ((v2).toNatClampNeg) 1) 51 ((v2).toNatClampNeg) v3) 52 ((v2).toNatClampNeg) v4, S4.2.1, S4.2.2) x1 (x2 + 4) with
                      | none => none
                      | some (v17, S17) =>
                        some ((), (xa_u S17.1 53 ((v2).toNatClampNeg) v17, S17.2.1, S17.2.2))
                      )
                    else none)
                  else
                    (if v1 = 14 then
                      (if xa_in v2 4 then
                        some ((), (xa_u (xa_u S4.1 47 ((v2).toNatClampNeg) 2) 53 ((v2).toNatClampNeg) v3, S4.2.1, S4.2.2))
                      else none)
                    else
                      (if v1 = 15 then
                        (if xa_in v2 4 then
                          some ((), (xa_u S4.1 47 ((v2).toNatClampNeg) 3, S4.2.1, S4.2.2))
                        else none)
                      else
                        (if v1 = 16 then
                          (if xa_in v2 4 then
                            some ((), (xa_u S4.1 48 ((v2).toNatClampNeg) v3, S4.2.1, S4.2.2))
                          else none)
                        else
                          (if v3 = 1 then
                            (if xa_in v2 4 then
                              some ((), (xa_u S4.1 50 ((v2).toNatClampNeg) 1, S4.2.1, S4.2.2))
                            else none)
                          else
                            (if xa_in v2 4 then
                              some ((), (xa_u S4.1 50 ((v2).toNatClampNeg) 0, S4.2.1, S4.2.2))
                            else none)
                          )
                        )
                      )
                    )
                  )
                )
              )
            )
          )
        )
      )
    )
  )
theorem B_143_1 {X : Nat × (Nat → Int32)} {d : Nat} (n : Nat) (x1 : Int32) (x2 : Int32) (S : St) : ex X (d + 1) 143 0 [.ref 29, .int x1, .int x2, .retAddr 0, .retAddr 0, .retAddr 0, .retAddr 0] [] (hh S) (n + 4) = (match ex X d 118 0 [.ref 29, .int x1, .int x2] [] (hh S) n with | some (v, h') => ex X (d + 1) 143 6 [.ref 29, .int x1, .int x2, .retAddr 0, .retAddr 0, .retAddr 0, .retAddr 0] (v.toList ++ []) h' n | none => none) := rfl
theorem B_143_2 {X : Nat × (Nat → Int32)} {d : Nat} (n : Nat) (x1 : Int32) (x2 : Int32) (v1 : Int32) (S1 : St) : ex X (d + 1) 143 6 [.ref 29, .int x1, .int x2, .retAddr 0, .retAddr 0, .retAddr 0, .retAddr 0] [.int v1] (hh S1) (n + 7) = (match ex X d 118 0 [.ref 29, .int x1, .int (x2 + 1)] [] (hh S1) n with | some (v, h') => ex X (d + 1) 143 15 [.ref 29, .int x1, .int x2, .int v1, .retAddr 0, .retAddr 0, .retAddr 0] (v.toList ++ []) h' n | none => none) := rfl
theorem B_143_3 {X : Nat × (Nat → Int32)} {d : Nat} (n : Nat) (x1 : Int32) (x2 : Int32) (v1 : Int32) (v2 : Int32) (S2 : St) : ex X (d + 1) 143 15 [.ref 29, .int x1, .int x2, .int v1, .retAddr 0, .retAddr 0, .retAddr 0] [.int v2] (hh S2) (n + 7) = (match ex X d 118 0 [.ref 29, .int x1, .int (x2 + 2)] [] (hh S2) n with | some (v, h') => ex X (d + 1) 143 25 [.ref 29, .int x1, .int x2, .int v1, .int v2, .retAddr 0, .retAddr 0] (v.toList ++ []) h' n | none => none) := rfl
theorem B_143_4 {X : Nat × (Nat → Int32)} {d : Nat} (n : Nat) (x1 : Int32) (x2 : Int32) (v1 : Int32) (v2 : Int32) (v3 : Int32) (S3 : St) : ex X (d + 1) 143 25 [.ref 29, .int x1, .int x2, .int v1, .int v2, .retAddr 0, .retAddr 0] [.int v3] (hh S3) (n + 7) = (match ex X d 118 0 [.ref 29, .int x1, .int (x2 + 3)] [] (hh S3) n with | some (v, h') => ex X (d + 1) 143 35 [.ref 29, .int x1, .int x2, .int v1, .int v2, .int v3, .retAddr 0] (v.toList ++ []) h' n | none => none) := rfl
theorem B_143_5 {X : Nat × (Nat → Int32)} {d : Nat} (n : Nat) (x1 : Int32) (x2 : Int32) (v1 : Int32) (v2 : Int32) (v3 : Int32) (v4 : Int32) (S4 : St) : ex X d 143 35 [.ref 29, .int x1, .int x2, .int v1, .int v2, .int v3, .retAddr 0] [.int v4] (hh S4) (n + 4) = if v1 = 9 then ex X d 143 43 [.ref 29, .int x1, .int x2, .int v1, .int v2, .int v3, .int v4] [] (hh S4) n else ex X d 143 78 [.ref 29, .int x1, .int x2, .int v1, .int v2, .int v3, .int v4] [] (hh S4) n := rfl
theorem B_143_6 {X : Nat × (Nat → Int32)} {d : Nat} (n : Nat) (x1 : Int32) (x2 : Int32) (v1 : Int32) (v2 : Int32) (v3 : Int32) (v4 : Int32) (S4 : St) : ex X d 143 43 [.ref 29, .int x1, .int x2, .int v1, .int v2, .int v3, .int v4] [] (hh S4) (n + 5) = if (kd 49).1 = 1 ∧ xa_in v2 (kd 49).2 ∧ ((1 : Int32) = 0 ∨ (1 : Int32) = 1) then ex X d 143 51 [.ref 29, .int x1, .int x2, .int v1, .int v2, .int v3, .int v4] [] (hh (xa_u S4.1 49 ((v2).toNatClampNeg) 1, S4.2.1, S4.2.2)) n else none := rfl
theorem B_143_7 {X : Nat × (Nat → Int32)} {d : Nat} (n : Nat) (x1 : Int32) (x2 : Int32) (v1 : Int32) (v2 : Int32) (v3 : Int32) (v4 : Int32) (S4 : St) : ex X d 143 51 [.ref 29, .int x1, .int x2, .int v1, .int v2, .int v3, .int v4] [] (hh (xa_u S4.1 49 ((v2).toNatClampNeg) 1, S4.2.1, S4.2.2)) (n + 5) = if (kd 42).1 = 0 ∧ xa_in v2 (kd 42).2 then ex X d 143 60 [.ref 29, .int x1, .int x2, .int v1, .int v2, .int v3, .int v4] [] (hh (xa_u (xa_u S4.1 49 ((v2).toNatClampNeg) 1) 42 ((v2).toNatClampNeg) v3, S4.2.1, S4.2.2)) n else none := rfl
theorem B_143_8 {X : Nat × (Nat → Int32)} {d : Nat} (n : Nat) (x1 : Int32) (x2 : Int32) (v1 : Int32) (v2 : Int32) (v3 : Int32) (v4 : Int32) (S4 : St) : ex X d 143 60 [.ref 29, .int x1, .int x2, .int v1, .int v2, .int v3, .int v4] [] (hh (xa_u (xa_u S4.1 49 ((v2).toNatClampNeg) 1) 42 ((v2).toNatClampNeg) v3, S4.2.1, S4.2.2)) (n + 5) = if (kd 43).1 = 0 ∧ xa_in v2 (kd 43).2 then ex X d 143 69 [.ref 29, .int x1, .int x2, .int v1, .int v2, .int v3, .int v4] [] (hh (xa_u (xa_u (xa_u S4.1 49 ((v2).toNatClampNeg) 1) 42 ((v2).toNatClampNeg) v3) 43 ((v2).toNatClampNeg) v4, S4.2.1, S4.2.2)) n else none := rfl
theorem B_143_9 {X : Nat × (Nat → Int32)} {d : Nat} (n : Nat) (x1 : Int32) (x2 : Int32) (v1 : Int32) (v2 : Int32) (v3 : Int32) (v4 : Int32) (S4 : St) : ex X (d + 1) 143 69 [.ref 29, .int x1, .int x2, .int v1, .int v2, .int v3, .int v4] [] (hh (xa_u (xa_u (xa_u S4.1 49 ((v2).toNatClampNeg) 1) 42 ((v2).toNatClampNeg) v3) 43 ((v2).toNatClampNeg) v4, S4.2.1, S4.2.2)) (n + 3) = (match ex X d 144 0 [.ref 29, .int v2] [] (hh (xa_u (xa_u (xa_u S4.1 49 ((v2).toNatClampNeg) 1) 42 ((v2).toNatClampNeg) v3) 43 ((v2).toNatClampNeg) v4, S4.2.1, S4.2.2)) n with | some (v, h') => ex X (d + 1) 143 75 [.ref 29, .int x1, .int x2, .int v1, .int v2, .int v3, .int v4] (v.toList ++ []) h' n | none => none) := rfl
theorem B_143_10 {X : Nat × (Nat → Int32)} {d : Nat} (n : Nat) (x1 : Int32) (x2 : Int32) (v1 : Int32) (v2 : Int32) (v3 : Int32) (v4 : Int32) (S4 : St) : ex X d 143 35 [.ref 29, .int x1, .int x2, .int v1, .int v2, .int v3, .retAddr 0] [.int v4] (hh S4) (n + 4) = if v1 = 9 then ex X d 143 43 [.ref 29, .int x1, .int x2, .int v1, .int v2, .int v3, .int v4] [] (hh S4) n else ex X d 143 78 [.ref 29, .int x1, .int x2, .int v1, .int v2, .int v3, .int v4] [] (hh S4) n := rfl
theorem B_143_11 {X : Nat × (Nat → Int32)} {d : Nat} (n : Nat) (x1 : Int32) (x2 : Int32) (v1 : Int32) (v2 : Int32) (v3 : Int32) (v4 : Int32) (S4 : St) : ex X d 143 78 [.ref 29, .int x1, .int x2, .int v1, .int v2, .int v3, .int v4] [] (hh S4) (n + 3) = if v1 = 10 then ex X d 143 84 [.ref 29, .int x1, .int x2, .int v1, .int v2, .int v3, .int v4] [] (hh S4) n else ex X d 143 95 [.ref 29, .int x1, .int x2, .int v1, .int v2, .int v3, .int v4] [] (hh S4) n := rfl
theorem B_143_12 {X : Nat × (Nat → Int32)} {d : Nat} (n : Nat) (x1 : Int32) (x2 : Int32) (v1 : Int32) (v2 : Int32) (v3 : Int32) (v4 : Int32) (S4 : St) : ex X d 143 84 [.ref 29, .int x1, .int x2, .int v1, .int v2, .int v3, .int v4] [] (hh S4) (n + 5) = if (kd 49).1 = 1 ∧ xa_in v2 (kd 49).2 ∧ ((0 : Int32) = 0 ∨ (0 : Int32) = 1) then ex X d 143 92 [.ref 29, .int x1, .int x2, .int v1, .int v2, .int v3, .int v4] [] (hh (xa_u S4.1 49 ((v2).toNatClampNeg) 0, S4.2.1, S4.2.2)) n else none := rfl
theorem B_143_13 {X : Nat × (Nat → Int32)} {d : Nat} (n : Nat) (x1 : Int32) (x2 : Int32) (v1 : Int32) (v2 : Int32) (v3 : Int32) (v4 : Int32) (S4 : St) : ex X d 143 78 [.ref 29, .int x1, .int x2, .int v1, .int v2, .int v3, .int v4] [] (hh S4) (n + 3) = if v1 = 10 then ex X d 143 84 [.ref 29, .int x1, .int x2, .int v1, .int v2, .int v3, .int v4] [] (hh S4) n else ex X d 143 95 [.ref 29, .int x1, .int x2, .int v1, .int v2, .int v3, .int v4] [] (hh S4) n := rfl
theorem B_143_14 {X : Nat × (Nat → Int32)} {d : Nat} (n : Nat) (x1 : Int32) (x2 : Int32) (v1 : Int32) (v2 : Int32) (v3 : Int32) (v4 : Int32) (S4 : St) : ex X d 143 95 [.ref 29, .int x1, .int x2, .int v1, .int v2, .int v3, .int v4] [] (hh S4) (n + 3) = if v1 = 11 then ex X d 143 101 [.ref 29, .int x1, .int x2, .int v1, .int v2, .int v3, .int v4] [] (hh S4) n else ex X d 143 128 [.ref 29, .int x1, .int x2, .int v1, .int v2, .int v3, .int v4] [] (hh S4) n := rfl
theorem B_143_15 {X : Nat × (Nat → Int32)} {d : Nat} (n : Nat) (x1 : Int32) (x2 : Int32) (v1 : Int32) (v2 : Int32) (v3 : Int32) (v4 : Int32) (S4 : St) : ex X d 143 101 [.ref 29, .int x1, .int x2, .int v1, .int v2, .int v3, .int v4] [] (hh S4) (n + 5) = if (kd 44).1 = 0 ∧ xa_in v2 (kd 44).2 then ex X d 143 110 [.ref 29, .int x1, .int x2, .int v1, .int v2, .int v3, .int v4] [] (hh (xa_u S4.1 44 ((v2).toNatClampNeg) v3, S4.2.1, S4.2.2)) n else none := rfl
theorem B_143_16 {X : Nat × (Nat → Int32)} {d : Nat} (n : Nat) (x1 : Int32) (x2 : Int32) (v1 : Int32) (v2 : Int32) (v3 : Int32) (v4 : Int32) (S4 : St) : ex X d 143 110 [.ref 29, .int x1, .int x2, .int v1, .int v2, .int v3, .int v4] [] (hh (xa_u S4.1 44 ((v2).toNatClampNeg) v3, S4.2.1, S4.2.2)) (n + 5) = if (kd 45).1 = 0 ∧ xa_in v2 (kd 45).2 then ex X d 143 119 [.ref 29, .int x1, .int x2, .int v1, .int v2, .int v3, .int v4] [] (hh (xa_u (xa_u S4.1 44 ((v2).toNatClampNeg) v3) 45 ((v2).toNatClampNeg) v4, S4.2.1, S4.2.2)) n else none := rfl
theorem B_143_17 {X : Nat × (Nat → Int32)} {d : Nat} (n : Nat) (x1 : Int32) (x2 : Int32) (v1 : Int32) (v2 : Int32) (v3 : Int32) (v4 : Int32) (S4 : St) : ex X (d + 1) 143 119 [.ref 29, .int x1, .int x2, .int v1, .int v2, .int v3, .int v4] [] (hh (xa_u (xa_u S4.1 44 ((v2).toNatClampNeg) v3) 45 ((v2).toNatClampNeg) v4, S4.2.1, S4.2.2)) (n + 3) = (match ex X d 144 0 [.ref 29, .int v2] [] (hh (xa_u (xa_u S4.1 44 ((v2).toNatClampNeg) v3) 45 ((v2).toNatClampNeg) v4, S4.2.1, S4.2.2)) n with | some (v, h') => ex X (d + 1) 143 125 [.ref 29, .int x1, .int x2, .int v1, .int v2, .int v3, .int v4] (v.toList ++ []) h' n | none => none) := rfl
theorem B_143_18 {X : Nat × (Nat → Int32)} {d : Nat} (n : Nat) (x1 : Int32) (x2 : Int32) (v1 : Int32) (v2 : Int32) (v3 : Int32) (v4 : Int32) (S4 : St) : ex X d 143 95 [.ref 29, .int x1, .int x2, .int v1, .int v2, .int v3, .int v4] [] (hh S4) (n + 3) = if v1 = 11 then ex X d 143 101 [.ref 29, .int x1, .int x2, .int v1, .int v2, .int v3, .int v4] [] (hh S4) n else ex X d 143 128 [.ref 29, .int x1, .int x2, .int v1, .int v2, .int v3, .int v4] [] (hh S4) n := rfl
theorem B_143_19 {X : Nat × (Nat → Int32)} {d : Nat} (n : Nat) (x1 : Int32) (x2 : Int32) (v1 : Int32) (v2 : Int32) (v3 : Int32) (v4 : Int32) (S4 : St) : ex X d 143 128 [.ref 29, .int x1, .int x2, .int v1, .int v2, .int v3, .int v4] [] (hh S4) (n + 3) = if v1 = 12 then ex X d 143 134 [.ref 29, .int x1, .int x2, .int v1, .int v2, .int v3, .int v4] [] (hh S4) n else ex X d 143 154 [.ref 29, .int x1, .int x2, .int v1, .int v2, .int v3, .int v4] [] (hh S4) n := rfl
theorem B_143_20 {X : Nat × (Nat → Int32)} {d : Nat} (n : Nat) (x1 : Int32) (x2 : Int32) (v1 : Int32) (v2 : Int32) (v3 : Int32) (v4 : Int32) (S4 : St) : ex X d 143 134 [.ref 29, .int x1, .int x2, .int v1, .int v2, .int v3, .int v4] [] (hh S4) (n + 5) = if (kd 47).1 = 0 ∧ xa_in v2 (kd 47).2 then ex X d 143 142 [.ref 29, .int x1, .int x2, .int v1, .int v2, .int v3, .int v4] [] (hh (xa_u S4.1 47 ((v2).toNatClampNeg) 0, S4.2.1, S4.2.2)) n else none := rfl
theorem B_143_21 {X : Nat × (Nat → Int32)} {d : Nat} (n : Nat) (x1 : Int32) (x2 : Int32) (v1 : Int32) (v2 : Int32) (v3 : Int32) (v4 : Int32) (S4 : St) : ex X d 143 142 [.ref 29, .int x1, .int x2, .int v1, .int v2, .int v3, .int v4] [] (hh (xa_u S4.1 47 ((v2).toNatClampNeg) 0, S4.2.1, S4.2.2)) (n + 5) = if (kd 46).1 = 0 ∧ xa_in v2 (kd 46).2 then ex X d 143 151 [.ref 29, .int x1, .int x2, .int v1, .int v2, .int v3, .int v4] [] (hh (xa_u (xa_u S4.1 47 ((v2).toNatClampNeg) 0) 46 ((v2).toNatClampNeg) v3, S4.2.1, S4.2.2)) n else none := rfl
theorem B_143_22 {X : Nat × (Nat → Int32)} {d : Nat} (n : Nat) (x1 : Int32) (x2 : Int32) (v1 : Int32) (v2 : Int32) (v3 : Int32) (v4 : Int32) (S4 : St) : ex X d 143 128 [.ref 29, .int x1, .int x2, .int v1, .int v2, .int v3, .int v4] [] (hh S4) (n + 3) = if v1 = 12 then ex X d 143 134 [.ref 29, .int x1, .int x2, .int v1, .int v2, .int v3, .int v4] [] (hh S4) n else ex X d 143 154 [.ref 29, .int x1, .int x2, .int v1, .int v2, .int v3, .int v4] [] (hh S4) n := rfl
theorem B_143_23 {X : Nat × (Nat → Int32)} {d : Nat} (n : Nat) (x1 : Int32) (x2 : Int32) (v1 : Int32) (v2 : Int32) (v3 : Int32) (v4 : Int32) (S4 : St) : ex X d 143 154 [.ref 29, .int x1, .int x2, .int v1, .int v2, .int v3, .int v4] [] (hh S4) (n + 3) = if v1 = 13 then ex X d 143 160 [.ref 29, .int x1, .int x2, .int v1, .int v2, .int v3, .int v4] [] (hh S4) n else ex X d 143 204 [.ref 29, .int x1, .int x2, .int v1, .int v2, .int v3, .int v4] [] (hh S4) n := rfl
theorem B_143_24 {X : Nat × (Nat → Int32)} {d : Nat} (n : Nat) (x1 : Int32) (x2 : Int32) (v1 : Int32) (v2 : Int32) (v3 : Int32) (v4 : Int32) (S4 : St) : ex X d 143 160 [.ref 29, .int x1, .int x2, .int v1, .int v2, .int v3, .int v4] [] (hh S4) (n + 5) = if (kd 47).1 = 0 ∧ xa_in v2 (kd 47).2 then ex X d 143 168 [.ref 29, .int x1, .int x2, .int v1, .int v2, .int v3, .int v4] [] (hh (xa_u S4.1 47 ((v2).toNatClampNeg) 1, S4.2.1, S4.2.2)) n else none := rfl
theorem B_143_25 {X : Nat × (Nat → Int32)} {d : Nat} (n : Nat) (x1 : Int32) (x2 : Int32) (v1 : Int32) (v2 : Int32) (v3 : Int32) (v4 : Int32) (S4 : St) : ex X d 143 168 [.ref 29, .int x1, .int x2, .int v1, .int v2, .int v3, .int v4] [] (hh (xa_u S4.1 47 ((v2).toNatClampNeg) 1, S4.2.1, S4.2.2)) (n + 5) = if (kd 51).1 = 0 ∧ xa_in v2 (kd 51).2 then ex X d 143 177 [.ref 29, .int x1, .int x2, .int v1, .int v2, .int v3, .int v4] [] (hh (xa_u (xa_u S4.1 47 ((v2).toNatClampNeg) 1) 51 ((v2).toNatClampNeg) v3, S4.2.1, S4.2.2)) n else none := rfl
theorem B_143_26 {X : Nat × (Nat → Int32)} {d : Nat} (n : Nat) (x1 : Int32) (x2 : Int32) (v1 : Int32) (v2 : Int32) (v3 : Int32) (v4 : Int32) (S4 : St) : ex X d 143 177 [.ref 29, .int x1, .int x2, .int v1, .int v2, .int v3, .int v4] [] (hh (xa_u (xa_u S4.1 47 ((v2).toNatClampNeg) 1) 51 ((v2).toNatClampNeg) v3, S4.2.1, S4.2.2)) (n + 5) = if (kd 52).1 = 0 ∧ xa_in v2 (kd 52).2 then ex X d 143 186 [.ref 29, .int x1, .int x2, .int v1, .int v2, .int v3, .int v4] [] (hh (xa_u (xa_u (xa_u S4.1 47 ((v2).toNatClampNeg) 1) 51 ((v2).toNatClampNeg) v3) 52 ((v2).toNatClampNeg) v4, S4.2.1, S4.2.2)) n else none := rfl
theorem B_143_27 {X : Nat × (Nat → Int32)} {d : Nat} (n : Nat) (x1 : Int32) (x2 : Int32) (v1 : Int32) (v2 : Int32) (v3 : Int32) (v4 : Int32) (S4 : St) : ex X (d + 1) 143 186 [.ref 29, .int x1, .int x2, .int v1, .int v2, .int v3, .int v4] [] (hh (xa_u (xa_u (xa_u S4.1 47 ((v2).toNatClampNeg) 1) 51 ((v2).toNatClampNeg) v3) 52 ((v2).toNatClampNeg) v4, S4.2.1, S4.2.2)) (n + 9) = (match ex X d 118 0 [.ref 29, .int x1, .int (x2 + 4)] [] (hh (xa_u (xa_u (xa_u S4.1 47 ((v2).toNatClampNeg) 1) 51 ((v2).toNatClampNeg) v3) 52 ((v2).toNatClampNeg) v4, S4.2.1, S4.2.2)) n with | some (v, h') => ex X (d + 1) 143 200 [.ref 29, .int x1, .int x2, .int v1, .int v2, .int v3, .int v4] (v.toList ++ [.int v2, .ref 53]) h' n | none => none) := rfl
theorem B_143_28 {X : Nat × (Nat → Int32)} {d : Nat} (n : Nat) (x1 : Int32) (x2 : Int32) (v1 : Int32) (v2 : Int32) (v3 : Int32) (v4 : Int32) (v17 : Int32) (S17 : St) : ex X d 143 200 [.ref 29, .int x1, .int x2, .int v1, .int v2, .int v3, .int v4] [.int v17, .int v2, .ref 53] (hh S17) (n + 1) = if (kd 53).1 = 0 ∧ xa_in v2 (kd 53).2 then ex X d 143 201 [.ref 29, .int x1, .int x2, .int v1, .int v2, .int v3, .int v4] [] (hh (xa_u S17.1 53 ((v2).toNatClampNeg) v17, S17.2.1, S17.2.2)) n else none := rfl
theorem B_143_29 {X : Nat × (Nat → Int32)} {d : Nat} (n : Nat) (x1 : Int32) (x2 : Int32) (v1 : Int32) (v2 : Int32) (v3 : Int32) (v4 : Int32) (S4 : St) : ex X d 143 154 [.ref 29, .int x1, .int x2, .int v1, .int v2, .int v3, .int v4] [] (hh S4) (n + 3) = if v1 = 13 then ex X d 143 160 [.ref 29, .int x1, .int x2, .int v1, .int v2, .int v3, .int v4] [] (hh S4) n else ex X d 143 204 [.ref 29, .int x1, .int x2, .int v1, .int v2, .int v3, .int v4] [] (hh S4) n := rfl
theorem B_143_30 {X : Nat × (Nat → Int32)} {d : Nat} (n : Nat) (x1 : Int32) (x2 : Int32) (v1 : Int32) (v2 : Int32) (v3 : Int32) (v4 : Int32) (S4 : St) : ex X d 143 204 [.ref 29, .int x1, .int x2, .int v1, .int v2, .int v3, .int v4] [] (hh S4) (n + 3) = if v1 = 14 then ex X d 143 210 [.ref 29, .int x1, .int x2, .int v1, .int v2, .int v3, .int v4] [] (hh S4) n else ex X d 143 230 [.ref 29, .int x1, .int x2, .int v1, .int v2, .int v3, .int v4] [] (hh S4) n := rfl
theorem B_143_31 {X : Nat × (Nat → Int32)} {d : Nat} (n : Nat) (x1 : Int32) (x2 : Int32) (v1 : Int32) (v2 : Int32) (v3 : Int32) (v4 : Int32) (S4 : St) : ex X d 143 210 [.ref 29, .int x1, .int x2, .int v1, .int v2, .int v3, .int v4] [] (hh S4) (n + 5) = if (kd 47).1 = 0 ∧ xa_in v2 (kd 47).2 then ex X d 143 218 [.ref 29, .int x1, .int x2, .int v1, .int v2, .int v3, .int v4] [] (hh (xa_u S4.1 47 ((v2).toNatClampNeg) 2, S4.2.1, S4.2.2)) n else none := rfl
theorem B_143_32 {X : Nat × (Nat → Int32)} {d : Nat} (n : Nat) (x1 : Int32) (x2 : Int32) (v1 : Int32) (v2 : Int32) (v3 : Int32) (v4 : Int32) (S4 : St) : ex X d 143 218 [.ref 29, .int x1, .int x2, .int v1, .int v2, .int v3, .int v4] [] (hh (xa_u S4.1 47 ((v2).toNatClampNeg) 2, S4.2.1, S4.2.2)) (n + 5) = if (kd 53).1 = 0 ∧ xa_in v2 (kd 53).2 then ex X d 143 227 [.ref 29, .int x1, .int x2, .int v1, .int v2, .int v3, .int v4] [] (hh (xa_u (xa_u S4.1 47 ((v2).toNatClampNeg) 2) 53 ((v2).toNatClampNeg) v3, S4.2.1, S4.2.2)) n else none := rfl
theorem B_143_33 {X : Nat × (Nat → Int32)} {d : Nat} (n : Nat) (x1 : Int32) (x2 : Int32) (v1 : Int32) (v2 : Int32) (v3 : Int32) (v4 : Int32) (S4 : St) : ex X d 143 204 [.ref 29, .int x1, .int x2, .int v1, .int v2, .int v3, .int v4] [] (hh S4) (n + 3) = if v1 = 14 then ex X d 143 210 [.ref 29, .int x1, .int x2, .int v1, .int v2, .int v3, .int v4] [] (hh S4) n else ex X d 143 230 [.ref 29, .int x1, .int x2, .int v1, .int v2, .int v3, .int v4] [] (hh S4) n := rfl
theorem B_143_34 {X : Nat × (Nat → Int32)} {d : Nat} (n : Nat) (x1 : Int32) (x2 : Int32) (v1 : Int32) (v2 : Int32) (v3 : Int32) (v4 : Int32) (S4 : St) : ex X d 143 230 [.ref 29, .int x1, .int x2, .int v1, .int v2, .int v3, .int v4] [] (hh S4) (n + 3) = if v1 = 15 then ex X d 143 236 [.ref 29, .int x1, .int x2, .int v1, .int v2, .int v3, .int v4] [] (hh S4) n else ex X d 143 247 [.ref 29, .int x1, .int x2, .int v1, .int v2, .int v3, .int v4] [] (hh S4) n := rfl
theorem B_143_35 {X : Nat × (Nat → Int32)} {d : Nat} (n : Nat) (x1 : Int32) (x2 : Int32) (v1 : Int32) (v2 : Int32) (v3 : Int32) (v4 : Int32) (S4 : St) : ex X d 143 236 [.ref 29, .int x1, .int x2, .int v1, .int v2, .int v3, .int v4] [] (hh S4) (n + 5) = if (kd 47).1 = 0 ∧ xa_in v2 (kd 47).2 then ex X d 143 244 [.ref 29, .int x1, .int x2, .int v1, .int v2, .int v3, .int v4] [] (hh (xa_u S4.1 47 ((v2).toNatClampNeg) 3, S4.2.1, S4.2.2)) n else none := rfl
theorem B_143_36 {X : Nat × (Nat → Int32)} {d : Nat} (n : Nat) (x1 : Int32) (x2 : Int32) (v1 : Int32) (v2 : Int32) (v3 : Int32) (v4 : Int32) (S4 : St) : ex X d 143 230 [.ref 29, .int x1, .int x2, .int v1, .int v2, .int v3, .int v4] [] (hh S4) (n + 3) = if v1 = 15 then ex X d 143 236 [.ref 29, .int x1, .int x2, .int v1, .int v2, .int v3, .int v4] [] (hh S4) n else ex X d 143 247 [.ref 29, .int x1, .int x2, .int v1, .int v2, .int v3, .int v4] [] (hh S4) n := rfl
theorem B_143_37 {X : Nat × (Nat → Int32)} {d : Nat} (n : Nat) (x1 : Int32) (x2 : Int32) (v1 : Int32) (v2 : Int32) (v3 : Int32) (v4 : Int32) (S4 : St) : ex X d 143 247 [.ref 29, .int x1, .int x2, .int v1, .int v2, .int v3, .int v4] [] (hh S4) (n + 3) = if v1 = 16 then ex X d 143 253 [.ref 29, .int x1, .int x2, .int v1, .int v2, .int v3, .int v4] [] (hh S4) n else ex X d 143 265 [.ref 29, .int x1, .int x2, .int v1, .int v2, .int v3, .int v4] [] (hh S4) n := rfl
theorem B_143_38 {X : Nat × (Nat → Int32)} {d : Nat} (n : Nat) (x1 : Int32) (x2 : Int32) (v1 : Int32) (v2 : Int32) (v3 : Int32) (v4 : Int32) (S4 : St) : ex X d 143 253 [.ref 29, .int x1, .int x2, .int v1, .int v2, .int v3, .int v4] [] (hh S4) (n + 5) = if (kd 48).1 = 0 ∧ xa_in v2 (kd 48).2 then ex X d 143 262 [.ref 29, .int x1, .int x2, .int v1, .int v2, .int v3, .int v4] [] (hh (xa_u S4.1 48 ((v2).toNatClampNeg) v3, S4.2.1, S4.2.2)) n else none := rfl
theorem B_143_39 {X : Nat × (Nat → Int32)} {d : Nat} (n : Nat) (x1 : Int32) (x2 : Int32) (v1 : Int32) (v2 : Int32) (v3 : Int32) (v4 : Int32) (S4 : St) : ex X d 143 247 [.ref 29, .int x1, .int x2, .int v1, .int v2, .int v3, .int v4] [] (hh S4) (n + 3) = if v1 = 16 then ex X d 143 253 [.ref 29, .int x1, .int x2, .int v1, .int v2, .int v3, .int v4] [] (hh S4) n else ex X d 143 265 [.ref 29, .int x1, .int x2, .int v1, .int v2, .int v3, .int v4] [] (hh S4) n := rfl
theorem B_143_40 {X : Nat × (Nat → Int32)} {d : Nat} (n : Nat) (x1 : Int32) (x2 : Int32) (v1 : Int32) (v2 : Int32) (v3 : Int32) (v4 : Int32) (S4 : St) : ex X d 143 265 [.ref 29, .int x1, .int x2, .int v1, .int v2, .int v3, .int v4] [] (hh S4) (n + 6) = if v3 = 1 then ex X d 143 277 [.ref 29, .int x1, .int x2, .int v1, .int v2, .int v3, .int v4] [.int v2, .ref 50] (hh S4) n else ex X d 143 281 [.ref 29, .int x1, .int x2, .int v1, .int v2, .int v3, .int v4] [.int v2, .ref 50] (hh S4) n := rfl
theorem B_143_41 {X : Nat × (Nat → Int32)} {d : Nat} (n : Nat) (x1 : Int32) (x2 : Int32) (v1 : Int32) (v2 : Int32) (v3 : Int32) (v4 : Int32) (S4 : St) : ex X d 143 277 [.ref 29, .int x1, .int x2, .int v1, .int v2, .int v3, .int v4] [.int v2, .ref 50] (hh S4) (n + 3) = if (kd 50).1 = 1 ∧ xa_in v2 (kd 50).2 ∧ ((1 : Int32) = 0 ∨ (1 : Int32) = 1) then ex X d 143 283 [.ref 29, .int x1, .int x2, .int v1, .int v2, .int v3, .int v4] [] (hh (xa_u S4.1 50 ((v2).toNatClampNeg) 1, S4.2.1, S4.2.2)) n else none := rfl
theorem B_143_42 {X : Nat × (Nat → Int32)} {d : Nat} (n : Nat) (x1 : Int32) (x2 : Int32) (v1 : Int32) (v2 : Int32) (v3 : Int32) (v4 : Int32) (S4 : St) : ex X d 143 265 [.ref 29, .int x1, .int x2, .int v1, .int v2, .int v3, .int v4] [] (hh S4) (n + 6) = if v3 = 1 then ex X d 143 277 [.ref 29, .int x1, .int x2, .int v1, .int v2, .int v3, .int v4] [.int v2, .ref 50] (hh S4) n else ex X d 143 281 [.ref 29, .int x1, .int x2, .int v1, .int v2, .int v3, .int v4] [.int v2, .ref 50] (hh S4) n := rfl
theorem B_143_43 {X : Nat × (Nat → Int32)} {d : Nat} (n : Nat) (x1 : Int32) (x2 : Int32) (v1 : Int32) (v2 : Int32) (v3 : Int32) (v4 : Int32) (S4 : St) : ex X d 143 281 [.ref 29, .int x1, .int x2, .int v1, .int v2, .int v3, .int v4] [.int v2, .ref 50] (hh S4) (n + 2) = if (kd 50).1 = 1 ∧ xa_in v2 (kd 50).2 ∧ ((0 : Int32) = 0 ∨ (0 : Int32) = 1) then ex X d 143 283 [.ref 29, .int x1, .int x2, .int v1, .int v2, .int v3, .int v4] [] (hh (xa_u S4.1 50 ((v2).toNatClampNeg) 0, S4.2.1, S4.2.2)) n else none := rfl
set_option maxRecDepth 200000 in
theorem T_143 {X : Nat × (Nat → Int32)} (S : St) (x1 : Int32) (x2 : Int32) (r : Unit) (S' : St) (hG : G_143 S x1 x2 = some (r, S')) : Ev X 1 143 0 [.ref 29, .int x1, .int x2, .retAddr 0, .retAddr 0, .retAddr 0, .retAddr 0] [] (hh S) (xV r, hh S') := by
  unfold G_143 at hG
  rcases h1 : G_118 S x1 x2 with _ | ⟨v1, S1⟩
  · rw [h1] at hG; cases hG
  rw [h1] at hG
  dsimp only at hG
  refine Ev.c (a := 118) (A := [.ref 29, .int x1, .int x2]) (h1 := hh S) (pc' := 6) (L' := [.ref 29, .int x1, .int x2, .retAddr 0, .retAddr 0, .retAddr 0, .retAddr 0]) (rest := []) (r1 := some (.int v1)) (h2 := hh S1) 4 (fun n => B_143_1 n x1 x2 S) (Ev.up (by decide) (T_118 S x1 x2 _ _ h1)) ?_
  show Ev X _ 143 6 [.ref 29, .int x1, .int x2, .retAddr 0, .retAddr 0, .retAddr 0, .retAddr 0] [.int v1] (hh S1) _
  rcases h2 : G_118 S1 x1 (x2 + 1) with _ | ⟨v2, S2⟩
  · rw [h2] at hG; cases hG
  rw [h2] at hG
  dsimp only at hG
  refine Ev.c (a := 118) (A := [.ref 29, .int x1, .int (x2 + 1)]) (h1 := hh S1) (pc' := 15) (L' := [.ref 29, .int x1, .int x2, .int v1, .retAddr 0, .retAddr 0, .retAddr 0]) (rest := []) (r1 := some (.int v2)) (h2 := hh S2) 7 (fun n => B_143_2 n x1 x2 v1 S1) (Ev.up (by decide) (T_118 S1 x1 (x2 + 1) _ _ h2)) ?_
  show Ev X _ 143 15 [.ref 29, .int x1, .int x2, .int v1, .retAddr 0, .retAddr 0, .retAddr 0] [.int v2] (hh S2) _
  rcases h3 : G_118 S2 x1 (x2 + 2) with _ | ⟨v3, S3⟩
  · rw [h3] at hG; cases hG
  rw [h3] at hG
  dsimp only at hG
  refine Ev.c (a := 118) (A := [.ref 29, .int x1, .int (x2 + 2)]) (h1 := hh S2) (pc' := 25) (L' := [.ref 29, .int x1, .int x2, .int v1, .int v2, .retAddr 0, .retAddr 0]) (rest := []) (r1 := some (.int v3)) (h2 := hh S3) 7 (fun n => B_143_3 n x1 x2 v1 v2 S2) (Ev.up (by decide) (T_118 S2 x1 (x2 + 2) _ _ h3)) ?_
  show Ev X _ 143 25 [.ref 29, .int x1, .int x2, .int v1, .int v2, .retAddr 0, .retAddr 0] [.int v3] (hh S3) _
  rcases h4 : G_118 S3 x1 (x2 + 3) with _ | ⟨v4, S4⟩
  · rw [h4] at hG; cases hG
  rw [h4] at hG
  dsimp only at hG
  refine Ev.c (a := 118) (A := [.ref 29, .int x1, .int (x2 + 3)]) (h1 := hh S3) (pc' := 35) (L' := [.ref 29, .int x1, .int x2, .int v1, .int v2, .int v3, .retAddr 0]) (rest := []) (r1 := some (.int v4)) (h2 := hh S4) 7 (fun n => B_143_4 n x1 x2 v1 v2 v3 S3) (Ev.up (by decide) (T_118 S3 x1 (x2 + 3) _ _ h4)) ?_
  show Ev X _ 143 35 [.ref 29, .int x1, .int x2, .int v1, .int v2, .int v3, .retAddr 0] [.int v4] (hh S4) _
  by_cases c5 : v1 = 9
  · rw [if_pos c5] at hG
    refine Ev.t (c := v1 = 9) (p1 := 43) (L1 := [.ref 29, .int x1, .int x2, .int v1, .int v2, .int v3, .int v4]) (s1 := []) (h1 := hh S4) (p2 := 78) (L2 := [.ref 29, .int x1, .int x2, .int v1, .int v2, .int v3, .int v4]) (s2 := []) (h2 := hh S4) 4 (fun n => B_143_5 n x1 x2 v1 v2 v3 v4 S4) c5 ?_
    by_cases g6 : xa_in v2 4
    rotate_left
    · rw [if_neg g6] at hG; cases hG
    rw [if_pos g6] at hG
    refine Ev.g (c := (kd 49).1 = 1 ∧ xa_in v2 (kd 49).2 ∧ ((1 : Int32) = 0 ∨ (1 : Int32) = 1)) (p1 := 51) (L1 := [.ref 29, .int x1, .int x2, .int v1, .int v2, .int v3, .int v4]) (s1 := []) (h1 := hh (xa_u S4.1 49 ((v2).toNatClampNeg) 1, S4.2.1, S4.2.2)) 5 (fun n => B_143_6 n x1 x2 v1 v2 v3 v4 S4) (⟨rfl, g6, by decide⟩) ?_
    refine Ev.g (c := (kd 42).1 = 0 ∧ xa_in v2 (kd 42).2) (p1 := 60) (L1 := [.ref 29, .int x1, .int x2, .int v1, .int v2, .int v3, .int v4]) (s1 := []) (h1 := hh (xa_u (xa_u S4.1 49 ((v2).toNatClampNeg) 1) 42 ((v2).toNatClampNeg) v3, S4.2.1, S4.2.2)) 5 (fun n => B_143_7 n x1 x2 v1 v2 v3 v4 S4) (⟨rfl, g6⟩) ?_
    refine Ev.g (c := (kd 43).1 = 0 ∧ xa_in v2 (kd 43).2) (p1 := 69) (L1 := [.ref 29, .int x1, .int x2, .int v1, .int v2, .int v3, .int v4]) (s1 := []) (h1 := hh (xa_u (xa_u (xa_u S4.1 49 ((v2).toNatClampNeg) 1) 42 ((v2).toNatClampNeg) v3) 43 ((v2).toNatClampNeg) v4, S4.2.1, S4.2.2)) 5 (fun n => B_143_8 n x1 x2 v1 v2 v3 v4 S4) (⟨rfl, g6⟩) ?_
    rcases h7 : G_144 (xa_u (xa_u (xa_u S4.1 49 ((v2).toNatClampNeg) 1) 42 ((v2).toNatClampNeg) v3) 43 ((v2).toNatClampNeg) v4, S4.2.1, S4.2.2) v2 with _ | ⟨v7, S7⟩
    · rw [h7] at hG; cases hG
    rw [h7] at hG
    dsimp only at hG
    refine Ev.c (a := 144) (A := [.ref 29, .int v2]) (h1 := hh (xa_u (xa_u (xa_u S4.1 49 ((v2).toNatClampNeg) 1) 42 ((v2).toNatClampNeg) v3) 43 ((v2).toNatClampNeg) v4, S4.2.1, S4.2.2)) (pc' := 75) (L' := [.ref 29, .int x1, .int x2, .int v1, .int v2, .int v3, .int v4]) (rest := []) (r1 := none) (h2 := hh S7) 3 (fun n => B_143_9 n x1 x2 v1 v2 v3 v4 S4) (Ev.up (by decide) (T_144 (xa_u (xa_u (xa_u S4.1 49 ((v2).toNatClampNeg) 1) 42 ((v2).toNatClampNeg) v3) 43 ((v2).toNatClampNeg) v4, S4.2.1, S4.2.2) v2 _ _ h7)) ?_
    show Ev X _ 143 75 [.ref 29, .int x1, .int x2, .int v1, .int v2, .int v3, .int v4] [] (hh S7) _
    obtain ⟨e1, e2⟩ := Prod.mk.inj (Option.some.inj hG)
    subst e1
    subst e2
    exact Ev.r 2 (fun n => rfl)
  · rw [if_neg c5] at hG
    refine Ev.f (c := v1 = 9) (p1 := 43) (L1 := [.ref 29, .int x1, .int x2, .int v1, .int v2, .int v3, .int v4]) (s1 := []) (h1 := hh S4) (p2 := 78) (L2 := [.ref 29, .int x1, .int x2, .int v1, .int v2, .int v3, .int v4]) (s2 := []) (h2 := hh S4) 4 (fun n => B_143_10 n x1 x2 v1 v2 v3 v4 S4) c5 ?_
    by_cases c8 : v1 = 10
    · rw [if_pos c8] at hG
      refine Ev.t (c := v1 = 10) (p1 := 84) (L1 := [.ref 29, .int x1, .int x2, .int v1, .int v2, .int v3, .int v4]) (s1 := []) (h1 := hh S4) (p2 := 95) (L2 := [.ref 29, .int x1, .int x2, .int v1, .int v2, .int v3, .int v4]) (s2 := []) (h2 := hh S4) 3 (fun n => B_143_11 n x1 x2 v1 v2 v3 v4 S4) c8 ?_
      by_cases g9 : xa_in v2 4
      rotate_left
      · rw [if_neg g9] at hG; cases hG
      rw [if_pos g9] at hG
      refine Ev.g (c := (kd 49).1 = 1 ∧ xa_in v2 (kd 49).2 ∧ ((0 : Int32) = 0 ∨ (0 : Int32) = 1)) (p1 := 92) (L1 := [.ref 29, .int x1, .int x2, .int v1, .int v2, .int v3, .int v4]) (s1 := []) (h1 := hh (xa_u S4.1 49 ((v2).toNatClampNeg) 0, S4.2.1, S4.2.2)) 5 (fun n => B_143_12 n x1 x2 v1 v2 v3 v4 S4) (⟨rfl, g9, by decide⟩) ?_
      obtain ⟨e1, e2⟩ := Prod.mk.inj (Option.some.inj hG)
      subst e1
      subst e2
      exact Ev.r 2 (fun n => rfl)
    · rw [if_neg c8] at hG
      refine Ev.f (c := v1 = 10) (p1 := 84) (L1 := [.ref 29, .int x1, .int x2, .int v1, .int v2, .int v3, .int v4]) (s1 := []) (h1 := hh S4) (p2 := 95) (L2 := [.ref 29, .int x1, .int x2, .int v1, .int v2, .int v3, .int v4]) (s2 := []) (h2 := hh S4) 3 (fun n => B_143_13 n x1 x2 v1 v2 v3 v4 S4) c8 ?_
      by_cases c10 : v1 = 11
      · rw [if_pos c10] at hG
        refine Ev.t (c := v1 = 11) (p1 := 101) (L1 := [.ref 29, .int x1, .int x2, .int v1, .int v2, .int v3, .int v4]) (s1 := []) (h1 := hh S4) (p2 := 128) (L2 := [.ref 29, .int x1, .int x2, .int v1, .int v2, .int v3, .int v4]) (s2 := []) (h2 := hh S4) 3 (fun n => B_143_14 n x1 x2 v1 v2 v3 v4 S4) c10 ?_
        by_cases g11 : xa_in v2 4
        rotate_left
        · rw [if_neg g11] at hG; cases hG
        rw [if_pos g11] at hG
        refine Ev.g (c := (kd 44).1 = 0 ∧ xa_in v2 (kd 44).2) (p1 := 110) (L1 := [.ref 29, .int x1, .int x2, .int v1, .int v2, .int v3, .int v4]) (s1 := []) (h1 := hh (xa_u S4.1 44 ((v2).toNatClampNeg) v3, S4.2.1, S4.2.2)) 5 (fun n => B_143_15 n x1 x2 v1 v2 v3 v4 S4) (⟨rfl, g11⟩) ?_
        refine Ev.g (c := (kd 45).1 = 0 ∧ xa_in v2 (kd 45).2) (p1 := 119) (L1 := [.ref 29, .int x1, .int x2, .int v1, .int v2, .int v3, .int v4]) (s1 := []) (h1 := hh (xa_u (xa_u S4.1 44 ((v2).toNatClampNeg) v3) 45 ((v2).toNatClampNeg) v4, S4.2.1, S4.2.2)) 5 (fun n => B_143_16 n x1 x2 v1 v2 v3 v4 S4) (⟨rfl, g11⟩) ?_
        rcases h12 : G_144 (xa_u (xa_u S4.1 44 ((v2).toNatClampNeg) v3) 45 ((v2).toNatClampNeg) v4, S4.2.1, S4.2.2) v2 with _ | ⟨v12, S12⟩
        · rw [h12] at hG; cases hG
        rw [h12] at hG
        dsimp only at hG
        refine Ev.c (a := 144) (A := [.ref 29, .int v2]) (h1 := hh (xa_u (xa_u S4.1 44 ((v2).toNatClampNeg) v3) 45 ((v2).toNatClampNeg) v4, S4.2.1, S4.2.2)) (pc' := 125) (L' := [.ref 29, .int x1, .int x2, .int v1, .int v2, .int v3, .int v4]) (rest := []) (r1 := none) (h2 := hh S12) 3 (fun n => B_143_17 n x1 x2 v1 v2 v3 v4 S4) (Ev.up (by decide) (T_144 (xa_u (xa_u S4.1 44 ((v2).toNatClampNeg) v3) 45 ((v2).toNatClampNeg) v4, S4.2.1, S4.2.2) v2 _ _ h12)) ?_
        show Ev X _ 143 125 [.ref 29, .int x1, .int x2, .int v1, .int v2, .int v3, .int v4] [] (hh S12) _
        obtain ⟨e1, e2⟩ := Prod.mk.inj (Option.some.inj hG)
        subst e1
        subst e2
        exact Ev.r 2 (fun n => rfl)
      · rw [if_neg c10] at hG
        refine Ev.f (c := v1 = 11) (p1 := 101) (L1 := [.ref 29, .int x1, .int x2, .int v1, .int v2, .int v3, .int v4]) (s1 := []) (h1 := hh S4) (p2 := 128) (L2 := [.ref 29, .int x1, .int x2, .int v1, .int v2, .int v3, .int v4]) (s2 := []) (h2 := hh S4) 3 (fun n => B_143_18 n x1 x2 v1 v2 v3 v4 S4) c10 ?_
        by_cases c13 : v1 = 12
        · rw [if_pos c13] at hG
          refine Ev.t (c := v1 = 12) (p1 := 134) (L1 := [.ref 29, .int x1, .int x2, .int v1, .int v2, .int v3, .int v4]) (s1 := []) (h1 := hh S4) (p2 := 154) (L2 := [.ref 29, .int x1, .int x2, .int v1, .int v2, .int v3, .int v4]) (s2 := []) (h2 := hh S4) 3 (fun n => B_143_19 n x1 x2 v1 v2 v3 v4 S4) c13 ?_
          by_cases g14 : xa_in v2 4
          rotate_left
          · rw [if_neg g14] at hG; cases hG
          rw [if_pos g14] at hG
          refine Ev.g (c := (kd 47).1 = 0 ∧ xa_in v2 (kd 47).2) (p1 := 142) (L1 := [.ref 29, .int x1, .int x2, .int v1, .int v2, .int v3, .int v4]) (s1 := []) (h1 := hh (xa_u S4.1 47 ((v2).toNatClampNeg) 0, S4.2.1, S4.2.2)) 5 (fun n => B_143_20 n x1 x2 v1 v2 v3 v4 S4) (⟨rfl, g14⟩) ?_
          refine Ev.g (c := (kd 46).1 = 0 ∧ xa_in v2 (kd 46).2) (p1 := 151) (L1 := [.ref 29, .int x1, .int x2, .int v1, .int v2, .int v3, .int v4]) (s1 := []) (h1 := hh (xa_u (xa_u S4.1 47 ((v2).toNatClampNeg) 0) 46 ((v2).toNatClampNeg) v3, S4.2.1, S4.2.2)) 5 (fun n => B_143_21 n x1 x2 v1 v2 v3 v4 S4) (⟨rfl, g14⟩) ?_
          obtain ⟨e1, e2⟩ := Prod.mk.inj (Option.some.inj hG)
          subst e1
          subst e2
          exact Ev.r 2 (fun n => rfl)
        · rw [if_neg c13] at hG
          refine Ev.f (c := v1 = 12) (p1 := 134) (L1 := [.ref 29, .int x1, .int x2, .int v1, .int v2, .int v3, .int v4]) (s1 := []) (h1 := hh S4) (p2 := 154) (L2 := [.ref 29, .int x1, .int x2, .int v1, .int v2, .int v3, .int v4]) (s2 := []) (h2 := hh S4) 3 (fun n => B_143_22 n x1 x2 v1 v2 v3 v4 S4) c13 ?_
          by_cases c15 : v1 = 13
          · rw [if_pos c15] at hG
            refine Ev.t (c := v1 = 13) (p1 := 160) (L1 := [.ref 29, .int x1, .int x2, .int v1, .int v2, .int v3, .int v4]) (s1 := []) (h1 := hh S4) (p2 := 204) (L2 := [.ref 29, .int x1, .int x2, .int v1, .int v2, .int v3, .int v4]) (s2 := []) (h2 := hh S4) 3 (fun n => B_143_23 n x1 x2 v1 v2 v3 v4 S4) c15 ?_
            by_cases g16 : xa_in v2 4
            rotate_left
            · rw [if_neg g16] at hG; cases hG
            rw [if_pos g16] at hG
            refine Ev.g (c := (kd 47).1 = 0 ∧ xa_in v2 (kd 47).2) (p1 := 168) (L1 := [.ref 29, .int x1, .int x2, .int v1, .int v2, .int v3, .int v4]) (s1 := []) (h1 := hh (xa_u S4.1 47 ((v2).toNatClampNeg) 1, S4.2.1, S4.2.2)) 5 (fun n => B_143_24 n x1 x2 v1 v2 v3 v4 S4) (⟨rfl, g16⟩) ?_
            refine Ev.g (c := (kd 51).1 = 0 ∧ xa_in v2 (kd 51).2) (p1 := 177) (L1 := [.ref 29, .int x1, .int x2, .int v1, .int v2, .int v3, .int v4]) (s1 := []) (h1 := hh (xa_u (xa_u S4.1 47 ((v2).toNatClampNeg) 1) 51 ((v2).toNatClampNeg) v3, S4.2.1, S4.2.2)) 5 (fun n => B_143_25 n x1 x2 v1 v2 v3 v4 S4) (⟨rfl, g16⟩) ?_
            refine Ev.g (c := (kd 52).1 = 0 ∧ xa_in v2 (kd 52).2) (p1 := 186) (L1 := [.ref 29, .int x1, .int x2, .int v1, .int v2, .int v3, .int v4]) (s1 := []) (h1 := hh (xa_u (xa_u (xa_u S4.1 47 ((v2).toNatClampNeg) 1) 51 ((v2).toNatClampNeg) v3) 52 ((v2).toNatClampNeg) v4, S4.2.1, S4.2.2)) 5 (fun n => B_143_26 n x1 x2 v1 v2 v3 v4 S4) (⟨rfl, g16⟩) ?_
            rcases h17 : G_118 (xa_u (xa_u (xa_u S4.1 47 ((v2).toNatClampNeg) 1) 51 ((v2).toNatClampNeg) v3) 52 ((v2).toNatClampNeg) v4, S4.2.1, S4.2.2) x1 (x2 + 4) with _ | ⟨v17, S17⟩
            · rw [h17] at hG; cases hG
            rw [h17] at hG
            dsimp only at hG
            refine Ev.c (a := 118) (A := [.ref 29, .int x1, .int (x2 + 4)]) (h1 := hh (xa_u (xa_u (xa_u S4.1 47 ((v2).toNatClampNeg) 1) 51 ((v2).toNatClampNeg) v3) 52 ((v2).toNatClampNeg) v4, S4.2.1, S4.2.2)) (pc' := 200) (L' := [.ref 29, .int x1, .int x2, .int v1, .int v2, .int v3, .int v4]) (rest := [.int v2, .ref 53]) (r1 := some (.int v17)) (h2 := hh S17) 9 (fun n => B_143_27 n x1 x2 v1 v2 v3 v4 S4) (Ev.up (by decide) (T_118 (xa_u (xa_u (xa_u S4.1 47 ((v2).toNatClampNeg) 1) 51 ((v2).toNatClampNeg) v3) 52 ((v2).toNatClampNeg) v4, S4.2.1, S4.2.2) x1 (x2 + 4) _ _ h17)) ?_
            show Ev X _ 143 200 [.ref 29, .int x1, .int x2, .int v1, .int v2, .int v3, .int v4] [.int v17, .int v2, .ref 53] (hh S17) _
            refine Ev.g (c := (kd 53).1 = 0 ∧ xa_in v2 (kd 53).2) (p1 := 201) (L1 := [.ref 29, .int x1, .int x2, .int v1, .int v2, .int v3, .int v4]) (s1 := []) (h1 := hh (xa_u S17.1 53 ((v2).toNatClampNeg) v17, S17.2.1, S17.2.2)) 1 (fun n => B_143_28 n x1 x2 v1 v2 v3 v4 v17 S17) (⟨rfl, g16⟩) ?_
            obtain ⟨e1, e2⟩ := Prod.mk.inj (Option.some.inj hG)
            subst e1
            subst e2
            exact Ev.r 2 (fun n => rfl)
          · rw [if_neg c15] at hG
            refine Ev.f (c := v1 = 13) (p1 := 160) (L1 := [.ref 29, .int x1, .int x2, .int v1, .int v2, .int v3, .int v4]) (s1 := []) (h1 := hh S4) (p2 := 204) (L2 := [.ref 29, .int x1, .int x2, .int v1, .int v2, .int v3, .int v4]) (s2 := []) (h2 := hh S4) 3 (fun n => B_143_29 n x1 x2 v1 v2 v3 v4 S4) c15 ?_
            by_cases c18 : v1 = 14
            · rw [if_pos c18] at hG
              refine Ev.t (c := v1 = 14) (p1 := 210) (L1 := [.ref 29, .int x1, .int x2, .int v1, .int v2, .int v3, .int v4]) (s1 := []) (h1 := hh S4) (p2 := 230) (L2 := [.ref 29, .int x1, .int x2, .int v1, .int v2, .int v3, .int v4]) (s2 := []) (h2 := hh S4) 3 (fun n => B_143_30 n x1 x2 v1 v2 v3 v4 S4) c18 ?_
              by_cases g19 : xa_in v2 4
              rotate_left
              · rw [if_neg g19] at hG; cases hG
              rw [if_pos g19] at hG
              refine Ev.g (c := (kd 47).1 = 0 ∧ xa_in v2 (kd 47).2) (p1 := 218) (L1 := [.ref 29, .int x1, .int x2, .int v1, .int v2, .int v3, .int v4]) (s1 := []) (h1 := hh (xa_u S4.1 47 ((v2).toNatClampNeg) 2, S4.2.1, S4.2.2)) 5 (fun n => B_143_31 n x1 x2 v1 v2 v3 v4 S4) (⟨rfl, g19⟩) ?_
              refine Ev.g (c := (kd 53).1 = 0 ∧ xa_in v2 (kd 53).2) (p1 := 227) (L1 := [.ref 29, .int x1, .int x2, .int v1, .int v2, .int v3, .int v4]) (s1 := []) (h1 := hh (xa_u (xa_u S4.1 47 ((v2).toNatClampNeg) 2) 53 ((v2).toNatClampNeg) v3, S4.2.1, S4.2.2)) 5 (fun n => B_143_32 n x1 x2 v1 v2 v3 v4 S4) (⟨rfl, g19⟩) ?_
              obtain ⟨e1, e2⟩ := Prod.mk.inj (Option.some.inj hG)
              subst e1
              subst e2
              exact Ev.r 2 (fun n => rfl)
            · rw [if_neg c18] at hG
              refine Ev.f (c := v1 = 14) (p1 := 210) (L1 := [.ref 29, .int x1, .int x2, .int v1, .int v2, .int v3, .int v4]) (s1 := []) (h1 := hh S4) (p2 := 230) (L2 := [.ref 29, .int x1, .int x2, .int v1, .int v2, .int v3, .int v4]) (s2 := []) (h2 := hh S4) 3 (fun n => B_143_33 n x1 x2 v1 v2 v3 v4 S4) c18 ?_
              by_cases c20 : v1 = 15
              · rw [if_pos c20] at hG
                refine Ev.t (c := v1 = 15) (p1 := 236) (L1 := [.ref 29, .int x1, .int x2, .int v1, .int v2, .int v3, .int v4]) (s1 := []) (h1 := hh S4) (p2 := 247) (L2 := [.ref 29, .int x1, .int x2, .int v1, .int v2, .int v3, .int v4]) (s2 := []) (h2 := hh S4) 3 (fun n => B_143_34 n x1 x2 v1 v2 v3 v4 S4) c20 ?_
                by_cases g21 : xa_in v2 4
                rotate_left
                · rw [if_neg g21] at hG; cases hG
                rw [if_pos g21] at hG
                refine Ev.g (c := (kd 47).1 = 0 ∧ xa_in v2 (kd 47).2) (p1 := 244) (L1 := [.ref 29, .int x1, .int x2, .int v1, .int v2, .int v3, .int v4]) (s1 := []) (h1 := hh (xa_u S4.1 47 ((v2).toNatClampNeg) 3, S4.2.1, S4.2.2)) 5 (fun n => B_143_35 n x1 x2 v1 v2 v3 v4 S4) (⟨rfl, g21⟩) ?_
                obtain ⟨e1, e2⟩ := Prod.mk.inj (Option.some.inj hG)
                subst e1
                subst e2
                exact Ev.r 2 (fun n => rfl)
              · rw [if_neg c20] at hG
                refine Ev.f (c := v1 = 15) (p1 := 236) (L1 := [.ref 29, .int x1, .int x2, .int v1, .int v2, .int v3, .int v4]) (s1 := []) (h1 := hh S4) (p2 := 247) (L2 := [.ref 29, .int x1, .int x2, .int v1, .int v2, .int v3, .int v4]) (s2 := []) (h2 := hh S4) 3 (fun n => B_143_36 n x1 x2 v1 v2 v3 v4 S4) c20 ?_
                by_cases c22 : v1 = 16
                · rw [if_pos c22] at hG
                  refine Ev.t (c := v1 = 16) (p1 := 253) (L1 := [.ref 29, .int x1, .int x2, .int v1, .int v2, .int v3, .int v4]) (s1 := []) (h1 := hh S4) (p2 := 265) (L2 := [.ref 29, .int x1, .int x2, .int v1, .int v2, .int v3, .int v4]) (s2 := []) (h2 := hh S4) 3 (fun n => B_143_37 n x1 x2 v1 v2 v3 v4 S4) c22 ?_
                  by_cases g23 : xa_in v2 4
                  rotate_left
                  · rw [if_neg g23] at hG; cases hG
                  rw [if_pos g23] at hG
                  refine Ev.g (c := (kd 48).1 = 0 ∧ xa_in v2 (kd 48).2) (p1 := 262) (L1 := [.ref 29, .int x1, .int x2, .int v1, .int v2, .int v3, .int v4]) (s1 := []) (h1 := hh (xa_u S4.1 48 ((v2).toNatClampNeg) v3, S4.2.1, S4.2.2)) 5 (fun n => B_143_38 n x1 x2 v1 v2 v3 v4 S4) (⟨rfl, g23⟩) ?_
                  obtain ⟨e1, e2⟩ := Prod.mk.inj (Option.some.inj hG)
                  subst e1
                  subst e2
                  exact Ev.r 2 (fun n => rfl)
                · rw [if_neg c22] at hG
                  refine Ev.f (c := v1 = 16) (p1 := 253) (L1 := [.ref 29, .int x1, .int x2, .int v1, .int v2, .int v3, .int v4]) (s1 := []) (h1 := hh S4) (p2 := 265) (L2 := [.ref 29, .int x1, .int x2, .int v1, .int v2, .int v3, .int v4]) (s2 := []) (h2 := hh S4) 3 (fun n => B_143_39 n x1 x2 v1 v2 v3 v4 S4) c22 ?_
                  by_cases c24 : v3 = 1
                  · rw [if_pos c24] at hG
                    refine Ev.t (c := v3 = 1) (p1 := 277) (L1 := [.ref 29, .int x1, .int x2, .int v1, .int v2, .int v3, .int v4]) (s1 := [.int v2, .ref 50]) (h1 := hh S4) (p2 := 281) (L2 := [.ref 29, .int x1, .int x2, .int v1, .int v2, .int v3, .int v4]) (s2 := [.int v2, .ref 50]) (h2 := hh S4) 6 (fun n => B_143_40 n x1 x2 v1 v2 v3 v4 S4) c24 ?_
                    by_cases g25 : xa_in v2 4
                    rotate_left
                    · rw [if_neg g25] at hG; cases hG
                    rw [if_pos g25] at hG
                    refine Ev.g (c := (kd 50).1 = 1 ∧ xa_in v2 (kd 50).2 ∧ ((1 : Int32) = 0 ∨ (1 : Int32) = 1)) (p1 := 283) (L1 := [.ref 29, .int x1, .int x2, .int v1, .int v2, .int v3, .int v4]) (s1 := []) (h1 := hh (xa_u S4.1 50 ((v2).toNatClampNeg) 1, S4.2.1, S4.2.2)) 3 (fun n => B_143_41 n x1 x2 v1 v2 v3 v4 S4) (⟨rfl, g25, by decide⟩) ?_
                    obtain ⟨e1, e2⟩ := Prod.mk.inj (Option.some.inj hG)
                    subst e1
                    subst e2
                    exact Ev.r 1 (fun n => rfl)
                  · rw [if_neg c24] at hG
                    refine Ev.f (c := v3 = 1) (p1 := 277) (L1 := [.ref 29, .int x1, .int x2, .int v1, .int v2, .int v3, .int v4]) (s1 := [.int v2, .ref 50]) (h1 := hh S4) (p2 := 281) (L2 := [.ref 29, .int x1, .int x2, .int v1, .int v2, .int v3, .int v4]) (s2 := [.int v2, .ref 50]) (h2 := hh S4) 6 (fun n => B_143_42 n x1 x2 v1 v2 v3 v4 S4) c24 ?_
                    by_cases g26 : xa_in v2 4
                    rotate_left
                    · rw [if_neg g26] at hG; cases hG
                    rw [if_pos g26] at hG
                    refine Ev.g (c := (kd 50).1 = 1 ∧ xa_in v2 (kd 50).2 ∧ ((0 : Int32) = 0 ∨ (0 : Int32) = 1)) (p1 := 283) (L1 := [.ref 29, .int x1, .int x2, .int v1, .int v2, .int v3, .int v4]) (s1 := []) (h1 := hh (xa_u S4.1 50 ((v2).toNatClampNeg) 0, S4.2.1, S4.2.2)) 2 (fun n => B_143_43 n x1 x2 v1 v2 v3 v4 S4) (⟨rfl, g26, by decide⟩) ?_
                    obtain ⟨e1, e2⟩ := Prod.mk.inj (Option.some.inj hG)
                    subst e1
                    subst e2
                    exact Ev.r 1 (fun n => rfl)
/-- 131: SceneCycleModel.step()I -/
def G_131 (S : St)  : Option (Int32 × St) :=
  (if xa_in ((S.1 29 34) - 1) 4 then
    (match G_118 S (S.1 55 (((S.1 29 34) - 1)).toNatClampNeg) (S.1 56 (((S.1 29 34) - 1)).toNatClampNeg) with
    | none => none
    | some (v2, S2) =>
      (match G_124 S2 (S.1 55 (((S.1 29 34) - 1)).toNatClampNeg) (S.1 56 (((S.1 29 34) - 1)).toNatClampNeg) with
      | none => none
      | some (v3, S3) =>
        (match G_118 S3 (S.1 55 (((S.1 29 34) - 1)).toNatClampNeg) ((S.1 56 (((S.1 29 34) - 1)).toNatClampNeg) + 1) with
        | none => none
        | some (v4, S4) =>
          (if xa_in ((S4.1 29 34) - 1) 4 then
            (if v2 = 0 then
              some (0, (xa_u (xa_u S4.1 56 ((((S4.1 29 34) - 1)).toNatClampNeg) v3) 29 34 (((xa_u S4.1 56 ((((S4.1 29 34) - 1)).toNatClampNeg) v3) 29 34) - 1), S4.2.1, S4.2.2))
            else
              (if 6 ≤ v2 then
                (if v2 = 6 then
                  (if xa_in v4 4 then
                    (if ((xa_u S4.1 56 ((((S4.1 29 34) - 1)).toNatClampNeg) v3) 35 (v4).toNatClampNeg) = 0 then
                      (if v2 = 7 then
                        (match G_128 (xa_u S4.1 56 ((((S4.1 29 34) - 1)).toNatClampNeg) v3, S4.2.1, S4.2.2) (S.1 55 (((S.1 29 34) - 1)).toNatClampNeg) (S.1 56 (((S.1 29 34) - 1)).toNatClampNeg) v3 with
                        | none => none
                        | some (v12, S12) =>
                          (if xa_in (((xa_u S4.1 56 ((((S4.1 29 34) - 1)).toNatClampNeg) v3) 29 34) - 1) 4 then
                            some (0, (xa_u S12.1 56 (((((xa_u S4.1 56 ((((S4.1 29 34) - 1)).toNatClampNeg) v3) 29 34) - 1)).toNatClampNeg) v12, S12.2.1, S12.2.2))
                          else none)
                        )
                      else
                        (if v2 = 8 then
                          (match G_133 (xa_u S4.1 56 ((((S4.1 29 34) - 1)).toNatClampNeg) v3, S4.2.1, S4.2.2) (S.1 55 (((S.1 29 34) - 1)).toNatClampNeg) ((S.1 56 (((S.1 29 34) - 1)).toNatClampNeg) + 1) with
                          | none => none
                          | some (v15, S15) =>
                            (if v15 = 0 then
                              (match G_128 S15 (S.1 55 (((S.1 29 34) - 1)).toNatClampNeg) (S.1 56 (((S.1 29 34) - 1)).toNatClampNeg) v3 with
                              | none => none
                              | some (v17, S17) =>
                                (if xa_in ((S15.1 29 34) - 1) 4 then
                                  some (0, (xa_u S17.1 56 ((((S15.1 29 34) - 1)).toNatClampNeg) v17, S17.2.1, S17.2.2))
                                else none)
                              )
                            else
                              (if v2 = 18 then
                                (match G_135 S15 with
                                | none => none
                                | some (v20, S20) =>
                                  some (0, S20)
                                )
                              else
                                (if v2 ≤ 8 then
                                  some (0, S15)
                                else
                                  (match G_143 S15 (S.1 55 (((S.1 29 34) - 1)).toNatClampNeg) (S.1 56 (((S.1 29 34) - 1)).toNatClampNeg) with
                                  | none => none
                                  | some (v22, S22) =>
                                    some (0, S22)
                                  )
                                )
                              )
                            )
                          )
                        else
                          (if v2 = 18 then
                            (match G_135 (xa_u S4.1 56 ((((S4.1 29 34) - 1)).toNatClampNeg) v3, S4.2.1, S4.2.2) with
                            | none => none
                            | some (v24, S24) =>
                              some (0, S24)
                            )
                          else
                            (if v2 ≤ 8 then
                              some (0, (xa_u S4.1 56 ((((S4.1 29 34) - 1)).toNatClampNeg) v3, S4.2.1, S4.2.2))
                            else
                              (match G_143 (xa_u S4.1 56 ((((S4.1 29 34) - 1)).toNatClampNeg) v3, S4.2.1, S4.2.2) (S.1 55 (((S.1 29 34) - 1)).toNatClampNeg) (S.1 56 (((S.1 29 34) - 1)).toNatClampNeg) with
                              | none => none
                              | some (v26, S26) =>
                                some (0, S26)
                              )
                            )
                          )
                        )
                      )
                    else
                      (if ((xa_u S4.1 56 ((((S4.1 29 34) - 1)).toNatClampNeg) v3) 29 34) = 4 then
                        some ((-3), (xa_u S4.1 56 ((((S4.1 29 34) - 1)).toNatClampNeg) v3, S4.2.1, S4.2.2))
                      else
                        (if xa_in ((xa_u S4.1 56 ((((S4.1 29 34) - 1)).toNatClampNeg) v3) 29 34) 4 then
                          (if xa_in ((xa_u (xa_u S4.1 56 ((((S4.1 29 34) - 1)).toNatClampNeg) v3) 55 ((((xa_u S4.1 56 ((((S4.1 29 34) - 1)).toNatClampNeg) v3) 29 34)).toNatClampNeg) v4) 29 34) 4 then
                            some (0, (xa_u (xa_u (xa_u (xa_u S4.1 56 ((((S4.1 29 34) - 1)).toNatClampNeg) v3) 55 ((((xa_u S4.1 56 ((((S4.1 29 34) - 1)).toNatClampNeg) v3) 29 34)).toNatClampNeg) v4) 56 ((((xa_u (xa_u S4.1 56 ((((S4.1 29 34) - 1)).toNatClampNeg) v3) 55 ((((xa_u S4.1 56 ((((S4.1 29 34) - 1)).toNatClampNeg) v3) 29 34)).toNatClampNeg) v4) 29 34)).toNatClampNeg) 0) 29 34 (((xa_u (xa_u (xa_u S4.1 56 ((((S4.1 29 34) - 1)).toNatClampNeg) v3) 55 ((((xa_u S4.1 56 ((((S4.1 29 34) - 1)).toNatClampNeg) v3) 29 34)).toNatClampNeg) v4) 56 ((((xa_u (xa_u S4.1 56 ((((S4.1 29 34) - 1)).toNatClampNeg) v3) 55 ((((xa_u S4.1 56 ((((S4.1 29 34) - 1)).toNatClampNeg) v3) 29 34)).toNatClampNeg) v4) 29 34)).toNatClampNeg) 0) 29 34) + 1), S4.2.1, S4.2.2))
                          else none)
                        else none)
                      )
                    )
                  else none)
                else
                  (if v2 = 7 then
                    (match G_128 (xa_u S4.1 56 ((((S4.1 29 34) - 1)).toNatClampNeg) v3, S4.2.1, S4.2.2) (S.1 55 (((S.1 29 34) - 1)).toNatClampNeg) (S.1 56 (((S.1 29 34) - 1)).toNatClampNeg) v3 with
                    | none => none
                    | some (v31, S31) =>
                      (if xa_in (((xa_u S4.1 56 ((((S4.1 29 34) - 1)).toNatClampNeg) v3) 29 34) - 1) 4 then
                        some (0, (xa_u S31.1 56 (((((xa_u S4.1 56 ((((S4.1 29 34) - 1)).toNatClampNeg) v3) 29 34) - 1)).toNatClampNeg) v31, S31.2.1, S31.2.2))
                      else none)
                    )
                  else
                    (if v2 = 8 then
                      (match G_133 (xa_u S4.1 56 ((((S4.1 29 34) - 1)).toNatClampNeg) v3, S4.2.1, S4.2.2) (S.1 55 (((S.1 29 34) - 1)).toNatClampNeg) ((S.1 56 (((S.1 29 34) - 1)).toNatClampNeg) + 1) with
                      | none => none
                      | some (v34, S34) =>
                        (if v34 = 0 then
                          (match G_128 S34 (S.1 55 (((S.1 29 34) - 1)).toNatClampNeg) (S.1 56 (((S.1 29 34) - 1)).toNatClampNeg) v3 with
                          | none => none
                          | some (v36, S36) =>
                            (if xa_in ((S34.1 29 34) - 1) 4 then
                              some (0, (xa_u S36.1 56 ((((S34.1 29 34) - 1)).toNatClampNeg) v36, S36.2.1, S36.2.2))
                            else none)
                          )
                        else
                          (if v2 = 18 then
                            (match G_135 S34 with
                            | none => none
                            | some (v39, S39) =>
                              some (0, S39)
                            )
                          else
                            (if v2 ≤ 8 then
                              some (0, S34)
                            else
                              (match G_143 S34 (S.1 55 (((S.1 29 34) - 1)).toNatClampNeg) (S.1 56 (((S.1 29 34) - 1)).toNatClampNeg) with
                              | none => none
                              | some (v41, S41) =>
                                some (0, S41)
                              )
                            )
                          )
                        )
                      )
                    else
                      (if v2 = 18 then
                        (match G_135 (xa_u S4.1 56 ((((S4.1 29 34) - 1)).toNatClampNeg) v3, S4.2.1, S4.2.2) with
                        | none => none
                        | some (v43, S43) =>
                          some (0, S43)
                        )
                      else
                        (if v2 ≤ 8 then
                          some (0, (xa_u S4.1 56 ((((S4.1 29 34) - 1)).toNatClampNeg) v3, S4.2.1, S4.2.2))
                        else
                          (match G_143 (xa_u S4.1 56 ((((S4.1 29 34) - 1)).toNatClampNeg) v3, S4.2.1, S4.2.2) (S.1 55 (((S.1 29 34) - 1)).toNatClampNeg) (S.1 56 (((S.1 29 34) - 1)).toNatClampNeg) with
                          | none => none
                          | some (v45, S45) =>
                            some (0, S45)
                          )
                        )
                      )
                    )
                  )
                )
              else
                (match G_118 (xa_u S4.1 56 ((((S4.1 29 34) - 1)).toNatClampNeg) v3, S4.2.1, S4.2.2) (S.1 55 (((S.1 29 34) - 1)).toNatClampNeg) ((S.1 56 (((S.1 29 34) - 1)).toNatClampNeg) + 2) with
                | none => none
                | some (v46, S46) =>
                  (match G_132 S46 v2 v4 v46 with
                  | none => none
                  | some (v47, S47) =>
                    some (0, S47)
                  )
                )
              )
            )
          else none)
        )
      )
    )
  else none)
theorem B_131_1 {X : Nat × (Nat → Int32)} {d : Nat} (n : Nat) (S : St) : ex X d 131 0 [.ref 29, .retAddr 0, .retAddr 0, .retAddr 0, .retAddr 0, .retAddr 0] [] (hh S) (n + 7) = if (kd 55).1 = 0 ∧ xa_in ((S.1 29 34) - 1) (kd 55).2 then ex X d 131 11 [.ref 29, .retAddr 0, .retAddr 0, .retAddr 0, .retAddr 0, .retAddr 0] [.int (S.1 55 (((S.1 29 34) - 1)).toNatClampNeg)] (hh S) n else none := rfl
theorem B_131_2 {X : Nat × (Nat → Int32)} {d : Nat} (n : Nat) (S : St) : ex X d 131 11 [.ref 29, .retAddr 0, .retAddr 0, .retAddr 0, .retAddr 0, .retAddr 0] [.int (S.1 55 (((S.1 29 34) - 1)).toNatClampNeg)] (hh S) (n + 8) = if (kd 56).1 = 0 ∧ xa_in ((S.1 29 34) - 1) (kd 56).2 then ex X d 131 23 [.ref 29, .int (S.1 55 (((S.1 29 34) - 1)).toNatClampNeg), .retAddr 0, .retAddr 0, .retAddr 0, .retAddr 0] [.int (S.1 56 (((S.1 29 34) - 1)).toNatClampNeg)] (hh S) n else none := rfl
theorem B_131_3 {X : Nat × (Nat → Int32)} {d : Nat} (n : Nat) (S : St) : ex X (d + 1) 131 23 [.ref 29, .int (S.1 55 (((S.1 29 34) - 1)).toNatClampNeg), .retAddr 0, .retAddr 0, .retAddr 0, .retAddr 0] [.int (S.1 56 (((S.1 29 34) - 1)).toNatClampNeg)] (hh S) (n + 5) = (match ex X d 118 0 [.ref 29, .int (S.1 55 (((S.1 29 34) - 1)).toNatClampNeg), .int (S.1 56 (((S.1 29 34) - 1)).toNatClampNeg)] [] (hh S) n with | some (v, h') => ex X (d + 1) 131 30 [.ref 29, .int (S.1 55 (((S.1 29 34) - 1)).toNatClampNeg), .int (S.1 56 (((S.1 29 34) - 1)).toNatClampNeg), .retAddr 0, .retAddr 0, .retAddr 0] (v.toList ++ []) h' n | none => none) := rfl
theorem B_131_4 {X : Nat × (Nat → Int32)} {d : Nat} (n : Nat) (S : St) (v2 : Int32) (S2 : St) : ex X (d + 1) 131 30 [.ref 29, .int (S.1 55 (((S.1 29 34) - 1)).toNatClampNeg), .int (S.1 56 (((S.1 29 34) - 1)).toNatClampNeg), .retAddr 0, .retAddr 0, .retAddr 0] [.int v2] (hh S2) (n + 5) = (match ex X d 124 0 [.ref 29, .int (S.1 55 (((S.1 29 34) - 1)).toNatClampNeg), .int (S.1 56 (((S.1 29 34) - 1)).toNatClampNeg), .retAddr 0, .retAddr 0] [] (hh S2) n with | some (v, h') => ex X (d + 1) 131 37 [.ref 29, .int (S.1 55 (((S.1 29 34) - 1)).toNatClampNeg), .int (S.1 56 (((S.1 29 34) - 1)).toNatClampNeg), .int v2, .retAddr 0, .retAddr 0] (v.toList ++ []) h' n | none => none) := rfl
theorem B_131_5 {X : Nat × (Nat → Int32)} {d : Nat} (n : Nat) (S : St) (v2 : Int32) (v3 : Int32) (S3 : St) : ex X (d + 1) 131 37 [.ref 29, .int (S.1 55 (((S.1 29 34) - 1)).toNatClampNeg), .int (S.1 56 (((S.1 29 34) - 1)).toNatClampNeg), .int v2, .retAddr 0, .retAddr 0] [.int v3] (hh S3) (n + 7) = (match ex X d 118 0 [.ref 29, .int (S.1 55 (((S.1 29 34) - 1)).toNatClampNeg), .int ((S.1 56 (((S.1 29 34) - 1)).toNatClampNeg) + 1)] [] (hh S3) n with | some (v, h') => ex X (d + 1) 131 47 [.ref 29, .int (S.1 55 (((S.1 29 34) - 1)).toNatClampNeg), .int (S.1 56 (((S.1 29 34) - 1)).toNatClampNeg), .int v2, .int v3, .retAddr 0] (v.toList ++ []) h' n | none => none) := rfl
theorem B_131_6 {X : Nat × (Nat → Int32)} {d : Nat} (n : Nat) (S : St) (v2 : Int32) (v3 : Int32) (v4 : Int32) (S4 : St) : ex X d 131 47 [.ref 29, .int (S.1 55 (((S.1 29 34) - 1)).toNatClampNeg), .int (S.1 56 (((S.1 29 34) - 1)).toNatClampNeg), .int v2, .int v3, .retAddr 0] [.int v4] (hh S4) (n + 9) = if (kd 56).1 = 0 ∧ xa_in ((S4.1 29 34) - 1) (kd 56).2 then ex X d 131 62 [.ref 29, .int (S.1 55 (((S.1 29 34) - 1)).toNatClampNeg), .int (S.1 56 (((S.1 29 34) - 1)).toNatClampNeg), .int v2, .int v3, .int v4] [] (hh (xa_u S4.1 56 ((((S4.1 29 34) - 1)).toNatClampNeg) v3, S4.2.1, S4.2.2)) n else none := rfl
theorem B_131_7 {X : Nat × (Nat → Int32)} {d : Nat} (n : Nat) (S : St) (v2 : Int32) (v3 : Int32) (v4 : Int32) (S4 : St) : ex X d 131 62 [.ref 29, .int (S.1 55 (((S.1 29 34) - 1)).toNatClampNeg), .int (S.1 56 (((S.1 29 34) - 1)).toNatClampNeg), .int v2, .int v3, .int v4] [] (hh (xa_u S4.1 56 ((((S4.1 29 34) - 1)).toNatClampNeg) v3, S4.2.1, S4.2.2)) (n + 2) = if v2 = 0 then ex X d 131 66 [.ref 29, .int (S.1 55 (((S.1 29 34) - 1)).toNatClampNeg), .int (S.1 56 (((S.1 29 34) - 1)).toNatClampNeg), .int v2, .int v3, .int v4] [] (hh (xa_u S4.1 56 ((((S4.1 29 34) - 1)).toNatClampNeg) v3, S4.2.1, S4.2.2)) n else ex X d 131 79 [.ref 29, .int (S.1 55 (((S.1 29 34) - 1)).toNatClampNeg), .int (S.1 56 (((S.1 29 34) - 1)).toNatClampNeg), .int v2, .int v3, .int v4] [] (hh (xa_u S4.1 56 ((((S4.1 29 34) - 1)).toNatClampNeg) v3, S4.2.1, S4.2.2)) n := rfl
theorem B_131_8 {X : Nat × (Nat → Int32)} {d : Nat} (n : Nat) (S : St) (v2 : Int32) (v3 : Int32) (v4 : Int32) (S4 : St) : ex X d 131 66 [.ref 29, .int (S.1 55 (((S.1 29 34) - 1)).toNatClampNeg), .int (S.1 56 (((S.1 29 34) - 1)).toNatClampNeg), .int v2, .int v3, .int v4] [] (hh (xa_u S4.1 56 ((((S4.1 29 34) - 1)).toNatClampNeg) v3, S4.2.1, S4.2.2)) (n + 6) = if (kd 29).1 = 10 + 8 ∧ (xf_k 8 34 = 0 ∨ (xf_k 8 34 = 1 ∧ ((((xa_u S4.1 56 ((((S4.1 29 34) - 1)).toNatClampNeg) v3) 29 34) - 1) = 0 ∨ (((xa_u S4.1 56 ((((S4.1 29 34) - 1)).toNatClampNeg) v3) 29 34) - 1) = 1))) then ex X d 131 76 [.ref 29, .int (S.1 55 (((S.1 29 34) - 1)).toNatClampNeg), .int (S.1 56 (((S.1 29 34) - 1)).toNatClampNeg), .int v2, .int v3, .int v4] [] (hh (xa_u (xa_u S4.1 56 ((((S4.1 29 34) - 1)).toNatClampNeg) v3) 29 34 (((xa_u S4.1 56 ((((S4.1 29 34) - 1)).toNatClampNeg) v3) 29 34) - 1), S4.2.1, S4.2.2)) n else none := rfl
theorem B_131_9 {X : Nat × (Nat → Int32)} {d : Nat} (n : Nat) (S : St) (v2 : Int32) (v3 : Int32) (v4 : Int32) (S4 : St) : ex X d 131 62 [.ref 29, .int (S.1 55 (((S.1 29 34) - 1)).toNatClampNeg), .int (S.1 56 (((S.1 29 34) - 1)).toNatClampNeg), .int v2, .int v3, .int v4] [] (hh (xa_u S4.1 56 ((((S4.1 29 34) - 1)).toNatClampNeg) v3, S4.2.1, S4.2.2)) (n + 2) = if v2 = 0 then ex X d 131 66 [.ref 29, .int (S.1 55 (((S.1 29 34) - 1)).toNatClampNeg), .int (S.1 56 (((S.1 29 34) - 1)).toNatClampNeg), .int v2, .int v3, .int v4] [] (hh (xa_u S4.1 56 ((((S4.1 29 34) - 1)).toNatClampNeg) v3, S4.2.1, S4.2.2)) n else ex X d 131 79 [.ref 29, .int (S.1 55 (((S.1 29 34) - 1)).toNatClampNeg), .int (S.1 56 (((S.1 29 34) - 1)).toNatClampNeg), .int v2, .int v3, .int v4] [] (hh (xa_u S4.1 56 ((((S4.1 29 34) - 1)).toNatClampNeg) v3, S4.2.1, S4.2.2)) n := rfl
theorem B_131_10 {X : Nat × (Nat → Int32)} {d : Nat} (n : Nat) (S : St) (v2 : Int32) (v3 : Int32) (v4 : Int32) (S4 : St) : ex X d 131 79 [.ref 29, .int (S.1 55 (((S.1 29 34) - 1)).toNatClampNeg), .int (S.1 56 (((S.1 29 34) - 1)).toNatClampNeg), .int v2, .int v3, .int v4] [] (hh (xa_u S4.1 56 ((((S4.1 29 34) - 1)).toNatClampNeg) v3, S4.2.1, S4.2.2)) (n + 3) = if 6 ≤ v2 then ex X d 131 103 [.ref 29, .int (S.1 55 (((S.1 29 34) - 1)).toNatClampNeg), .int (S.1 56 (((S.1 29 34) - 1)).toNatClampNeg), .int v2, .int v3, .int v4] [] (hh (xa_u S4.1 56 ((((S4.1 29 34) - 1)).toNatClampNeg) v3, S4.2.1, S4.2.2)) n else ex X d 131 85 [.ref 29, .int (S.1 55 (((S.1 29 34) - 1)).toNatClampNeg), .int (S.1 56 (((S.1 29 34) - 1)).toNatClampNeg), .int v2, .int v3, .int v4] [] (hh (xa_u S4.1 56 ((((S4.1 29 34) - 1)).toNatClampNeg) v3, S4.2.1, S4.2.2)) n := rfl
theorem B_131_11 {X : Nat × (Nat → Int32)} {d : Nat} (n : Nat) (S : St) (v2 : Int32) (v3 : Int32) (v4 : Int32) (S4 : St) : ex X d 131 103 [.ref 29, .int (S.1 55 (((S.1 29 34) - 1)).toNatClampNeg), .int (S.1 56 (((S.1 29 34) - 1)).toNatClampNeg), .int v2, .int v3, .int v4] [] (hh (xa_u S4.1 56 ((((S4.1 29 34) - 1)).toNatClampNeg) v3, S4.2.1, S4.2.2)) (n + 3) = if v2 = 6 then ex X d 131 109 [.ref 29, .int (S.1 55 (((S.1 29 34) - 1)).toNatClampNeg), .int (S.1 56 (((S.1 29 34) - 1)).toNatClampNeg), .int v2, .int v3, .int v4] [] (hh (xa_u S4.1 56 ((((S4.1 29 34) - 1)).toNatClampNeg) v3, S4.2.1, S4.2.2)) n else ex X d 131 164 [.ref 29, .int (S.1 55 (((S.1 29 34) - 1)).toNatClampNeg), .int (S.1 56 (((S.1 29 34) - 1)).toNatClampNeg), .int v2, .int v3, .int v4] [] (hh (xa_u S4.1 56 ((((S4.1 29 34) - 1)).toNatClampNeg) v3, S4.2.1, S4.2.2)) n := rfl
theorem B_131_12 {X : Nat × (Nat → Int32)} {d : Nat} (n : Nat) (S : St) (v2 : Int32) (v3 : Int32) (v4 : Int32) (S4 : St) : ex X d 131 109 [.ref 29, .int (S.1 55 (((S.1 29 34) - 1)).toNatClampNeg), .int (S.1 56 (((S.1 29 34) - 1)).toNatClampNeg), .int v2, .int v3, .int v4] [] (hh (xa_u S4.1 56 ((((S4.1 29 34) - 1)).toNatClampNeg) v3, S4.2.1, S4.2.2)) (n + 4) = if (kd 35).1 = 1 ∧ xa_in v4 (kd 35).2 then ex X d 131 116 [.ref 29, .int (S.1 55 (((S.1 29 34) - 1)).toNatClampNeg), .int (S.1 56 (((S.1 29 34) - 1)).toNatClampNeg), .int v2, .int v3, .int v4] [.int ((xa_u S4.1 56 ((((S4.1 29 34) - 1)).toNatClampNeg) v3) 35 (v4).toNatClampNeg)] (hh (xa_u S4.1 56 ((((S4.1 29 34) - 1)).toNatClampNeg) v3, S4.2.1, S4.2.2)) n else none := rfl
theorem B_131_13 {X : Nat × (Nat → Int32)} {d : Nat} (n : Nat) (S : St) (v2 : Int32) (v3 : Int32) (v4 : Int32) (S4 : St) : ex X d 131 116 [.ref 29, .int (S.1 55 (((S.1 29 34) - 1)).toNatClampNeg), .int (S.1 56 (((S.1 29 34) - 1)).toNatClampNeg), .int v2, .int v3, .int v4] [.int ((xa_u S4.1 56 ((((S4.1 29 34) - 1)).toNatClampNeg) v3) 35 (v4).toNatClampNeg)] (hh (xa_u S4.1 56 ((((S4.1 29 34) - 1)).toNatClampNeg) v3, S4.2.1, S4.2.2)) (n + 1) = if ((xa_u S4.1 56 ((((S4.1 29 34) - 1)).toNatClampNeg) v3) 35 (v4).toNatClampNeg) = 0 then ex X d 131 164 [.ref 29, .int (S.1 55 (((S.1 29 34) - 1)).toNatClampNeg), .int (S.1 56 (((S.1 29 34) - 1)).toNatClampNeg), .int v2, .int v3, .int v4] [] (hh (xa_u S4.1 56 ((((S4.1 29 34) - 1)).toNatClampNeg) v3, S4.2.1, S4.2.2)) n else ex X d 131 119 [.ref 29, .int (S.1 55 (((S.1 29 34) - 1)).toNatClampNeg), .int (S.1 56 (((S.1 29 34) - 1)).toNatClampNeg), .int v2, .int v3, .int v4] [] (hh (xa_u S4.1 56 ((((S4.1 29 34) - 1)).toNatClampNeg) v3, S4.2.1, S4.2.2)) n := rfl
theorem B_131_14 {X : Nat × (Nat → Int32)} {d : Nat} (n : Nat) (S : St) (v2 : Int32) (v3 : Int32) (v4 : Int32) (S4 : St) : ex X d 131 164 [.ref 29, .int (S.1 55 (((S.1 29 34) - 1)).toNatClampNeg), .int (S.1 56 (((S.1 29 34) - 1)).toNatClampNeg), .int v2, .int v3, .int v4] [] (hh (xa_u S4.1 56 ((((S4.1 29 34) - 1)).toNatClampNeg) v3, S4.2.1, S4.2.2)) (n + 3) = if v2 = 7 then ex X d 131 187 [.ref 29, .int (S.1 55 (((S.1 29 34) - 1)).toNatClampNeg), .int (S.1 56 (((S.1 29 34) - 1)).toNatClampNeg), .int v2, .int v3, .int v4] [] (hh (xa_u S4.1 56 ((((S4.1 29 34) - 1)).toNatClampNeg) v3, S4.2.1, S4.2.2)) n else ex X d 131 170 [.ref 29, .int (S.1 55 (((S.1 29 34) - 1)).toNatClampNeg), .int (S.1 56 (((S.1 29 34) - 1)).toNatClampNeg), .int v2, .int v3, .int v4] [] (hh (xa_u S4.1 56 ((((S4.1 29 34) - 1)).toNatClampNeg) v3, S4.2.1, S4.2.2)) n := rfl
theorem B_131_15 {X : Nat × (Nat → Int32)} {d : Nat} (n : Nat) (S : St) (v2 : Int32) (v3 : Int32) (v4 : Int32) (S4 : St) : ex X (d + 1) 131 187 [.ref 29, .int (S.1 55 (((S.1 29 34) - 1)).toNatClampNeg), .int (S.1 56 (((S.1 29 34) - 1)).toNatClampNeg), .int v2, .int v3, .int v4] [] (hh (xa_u S4.1 56 ((((S4.1 29 34) - 1)).toNatClampNeg) v3, S4.2.1, S4.2.2)) (n + 11) = (match ex X d 128 0 [.ref 29, .int (S.1 55 (((S.1 29 34) - 1)).toNatClampNeg), .int (S.1 56 (((S.1 29 34) - 1)).toNatClampNeg), .int v3, .retAddr 0, .retAddr 0] [] (hh (xa_u S4.1 56 ((((S4.1 29 34) - 1)).toNatClampNeg) v3, S4.2.1, S4.2.2)) n with | some (v, h') => ex X (d + 1) 131 205 [.ref 29, .int (S.1 55 (((S.1 29 34) - 1)).toNatClampNeg), .int (S.1 56 (((S.1 29 34) - 1)).toNatClampNeg), .int v2, .int v3, .int v4] (v.toList ++ [.int (((xa_u S4.1 56 ((((S4.1 29 34) - 1)).toNatClampNeg) v3) 29 34) - 1), .ref 56]) h' n | none => none) := rfl
theorem B_131_16 {X : Nat × (Nat → Int32)} {d : Nat} (n : Nat) (S : St) (v2 : Int32) (v3 : Int32) (v4 : Int32) (v12 : Int32) (S4 : St) (S12 : St) : ex X d 131 205 [.ref 29, .int (S.1 55 (((S.1 29 34) - 1)).toNatClampNeg), .int (S.1 56 (((S.1 29 34) - 1)).toNatClampNeg), .int v2, .int v3, .int v4] [.int v12, .int (((xa_u S4.1 56 ((((S4.1 29 34) - 1)).toNatClampNeg) v3) 29 34) - 1), .ref 56] (hh S12) (n + 1) = if (kd 56).1 = 0 ∧ xa_in (((xa_u S4.1 56 ((((S4.1 29 34) - 1)).toNatClampNeg) v3) 29 34) - 1) (kd 56).2 then ex X d 131 206 [.ref 29, .int (S.1 55 (((S.1 29 34) - 1)).toNatClampNeg), .int (S.1 56 (((S.1 29 34) - 1)).toNatClampNeg), .int v2, .int v3, .int v4] [] (hh (xa_u S12.1 56 (((((xa_u S4.1 56 ((((S4.1 29 34) - 1)).toNatClampNeg) v3) 29 34) - 1)).toNatClampNeg) v12, S12.2.1, S12.2.2)) n else none := rfl
theorem B_131_17 {X : Nat × (Nat → Int32)} {d : Nat} (n : Nat) (S : St) (v2 : Int32) (v3 : Int32) (v4 : Int32) (S4 : St) : ex X d 131 164 [.ref 29, .int (S.1 55 (((S.1 29 34) - 1)).toNatClampNeg), .int (S.1 56 (((S.1 29 34) - 1)).toNatClampNeg), .int v2, .int v3, .int v4] [] (hh (xa_u S4.1 56 ((((S4.1 29 34) - 1)).toNatClampNeg) v3, S4.2.1, S4.2.2)) (n + 3) = if v2 = 7 then ex X d 131 187 [.ref 29, .int (S.1 55 (((S.1 29 34) - 1)).toNatClampNeg), .int (S.1 56 (((S.1 29 34) - 1)).toNatClampNeg), .int v2, .int v3, .int v4] [] (hh (xa_u S4.1 56 ((((S4.1 29 34) - 1)).toNatClampNeg) v3, S4.2.1, S4.2.2)) n else ex X d 131 170 [.ref 29, .int (S.1 55 (((S.1 29 34) - 1)).toNatClampNeg), .int (S.1 56 (((S.1 29 34) - 1)).toNatClampNeg), .int v2, .int v3, .int v4] [] (hh (xa_u S4.1 56 ((((S4.1 29 34) - 1)).toNatClampNeg) v3, S4.2.1, S4.2.2)) n := rfl
theorem B_131_18 {X : Nat × (Nat → Int32)} {d : Nat} (n : Nat) (S : St) (v2 : Int32) (v3 : Int32) (v4 : Int32) (S4 : St) : ex X d 131 170 [.ref 29, .int (S.1 55 (((S.1 29 34) - 1)).toNatClampNeg), .int (S.1 56 (((S.1 29 34) - 1)).toNatClampNeg), .int v2, .int v3, .int v4] [] (hh (xa_u S4.1 56 ((((S4.1 29 34) - 1)).toNatClampNeg) v3, S4.2.1, S4.2.2)) (n + 3) = if v2 = 8 then ex X d 131 176 [.ref 29, .int (S.1 55 (((S.1 29 34) - 1)).toNatClampNeg), .int (S.1 56 (((S.1 29 34) - 1)).toNatClampNeg), .int v2, .int v3, .int v4] [] (hh (xa_u S4.1 56 ((((S4.1 29 34) - 1)).toNatClampNeg) v3, S4.2.1, S4.2.2)) n else ex X d 131 209 [.ref 29, .int (S.1 55 (((S.1 29 34) - 1)).toNatClampNeg), .int (S.1 56 (((S.1 29 34) - 1)).toNatClampNeg), .int v2, .int v3, .int v4] [] (hh (xa_u S4.1 56 ((((S4.1 29 34) - 1)).toNatClampNeg) v3, S4.2.1, S4.2.2)) n := rfl
theorem B_131_19 {X : Nat × (Nat → Int32)} {d : Nat} (n : Nat) (S : St) (v2 : Int32) (v3 : Int32) (v4 : Int32) (S4 : St) : ex X (d + 1) 131 176 [.ref 29, .int (S.1 55 (((S.1 29 34) - 1)).toNatClampNeg), .int (S.1 56 (((S.1 29 34) - 1)).toNatClampNeg), .int v2, .int v3, .int v4] [] (hh (xa_u S4.1 56 ((((S4.1 29 34) - 1)).toNatClampNeg) v3, S4.2.1, S4.2.2)) (n + 6) = (match ex X d 133 0 [.ref 29, .int (S.1 55 (((S.1 29 34) - 1)).toNatClampNeg), .int ((S.1 56 (((S.1 29 34) - 1)).toNatClampNeg) + 1), .retAddr 0, .retAddr 0, .retAddr 0, .retAddr 0] [] (hh (xa_u S4.1 56 ((((S4.1 29 34) - 1)).toNatClampNeg) v3, S4.2.1, S4.2.2)) n with | some (v, h') => ex X (d + 1) 131 184 [.ref 29, .int (S.1 55 (((S.1 29 34) - 1)).toNatClampNeg), .int (S.1 56 (((S.1 29 34) - 1)).toNatClampNeg), .int v2, .int v3, .int v4] (v.toList ++ []) h' n | none => none) := rfl
theorem B_131_20 {X : Nat × (Nat → Int32)} {d : Nat} (n : Nat) (S : St) (v2 : Int32) (v3 : Int32) (v4 : Int32) (v15 : Int32) (S15 : St) : ex X d 131 184 [.ref 29, .int (S.1 55 (((S.1 29 34) - 1)).toNatClampNeg), .int (S.1 56 (((S.1 29 34) - 1)).toNatClampNeg), .int v2, .int v3, .int v4] [.int v15] (hh S15) (n + 1) = if v15 = 0 then ex X d 131 187 [.ref 29, .int (S.1 55 (((S.1 29 34) - 1)).toNatClampNeg), .int (S.1 56 (((S.1 29 34) - 1)).toNatClampNeg), .int v2, .int v3, .int v4] [] (hh S15) n else ex X d 131 209 [.ref 29, .int (S.1 55 (((S.1 29 34) - 1)).toNatClampNeg), .int (S.1 56 (((S.1 29 34) - 1)).toNatClampNeg), .int v2, .int v3, .int v4] [] (hh S15) n := rfl
theorem B_131_21 {X : Nat × (Nat → Int32)} {d : Nat} (n : Nat) (S : St) (v2 : Int32) (v3 : Int32) (v4 : Int32) (S15 : St) : ex X (d + 1) 131 187 [.ref 29, .int (S.1 55 (((S.1 29 34) - 1)).toNatClampNeg), .int (S.1 56 (((S.1 29 34) - 1)).toNatClampNeg), .int v2, .int v3, .int v4] [] (hh S15) (n + 11) = (match ex X d 128 0 [.ref 29, .int (S.1 55 (((S.1 29 34) - 1)).toNatClampNeg), .int (S.1 56 (((S.1 29 34) - 1)).toNatClampNeg), .int v3, .retAddr 0, .retAddr 0] [] (hh S15) n with | some (v, h') => ex X (d + 1) 131 205 [.ref 29, .int (S.1 55 (((S.1 29 34) - 1)).toNatClampNeg), .int (S.1 56 (((S.1 29 34) - 1)).toNatClampNeg), .int v2, .int v3, .int v4] (v.toList ++ [.int ((S15.1 29 34) - 1), .ref 56]) h' n | none => none) := rfl
theorem B_131_22 {X : Nat × (Nat → Int32)} {d : Nat} (n : Nat) (S : St) (v2 : Int32) (v3 : Int32) (v4 : Int32) (v17 : Int32) (S15 : St) (S17 : St) : ex X d 131 205 [.ref 29, .int (S.1 55 (((S.1 29 34) - 1)).toNatClampNeg), .int (S.1 56 (((S.1 29 34) - 1)).toNatClampNeg), .int v2, .int v3, .int v4] [.int v17, .int ((S15.1 29 34) - 1), .ref 56] (hh S17) (n + 1) = if (kd 56).1 = 0 ∧ xa_in ((S15.1 29 34) - 1) (kd 56).2 then ex X d 131 206 [.ref 29, .int (S.1 55 (((S.1 29 34) - 1)).toNatClampNeg), .int (S.1 56 (((S.1 29 34) - 1)).toNatClampNeg), .int v2, .int v3, .int v4] [] (hh (xa_u S17.1 56 ((((S15.1 29 34) - 1)).toNatClampNeg) v17, S17.2.1, S17.2.2)) n else none := rfl
theorem B_131_23 {X : Nat × (Nat → Int32)} {d : Nat} (n : Nat) (S : St) (v2 : Int32) (v3 : Int32) (v4 : Int32) (v15 : Int32) (S15 : St) : ex X d 131 184 [.ref 29, .int (S.1 55 (((S.1 29 34) - 1)).toNatClampNeg), .int (S.1 56 (((S.1 29 34) - 1)).toNatClampNeg), .int v2, .int v3, .int v4] [.int v15] (hh S15) (n + 1) = if v15 = 0 then ex X d 131 187 [.ref 29, .int (S.1 55 (((S.1 29 34) - 1)).toNatClampNeg), .int (S.1 56 (((S.1 29 34) - 1)).toNatClampNeg), .int v2, .int v3, .int v4] [] (hh S15) n else ex X d 131 209 [.ref 29, .int (S.1 55 (((S.1 29 34) - 1)).toNatClampNeg), .int (S.1 56 (((S.1 29 34) - 1)).toNatClampNeg), .int v2, .int v3, .int v4] [] (hh S15) n := rfl
theorem B_131_24 {X : Nat × (Nat → Int32)} {d : Nat} (n : Nat) (S : St) (v2 : Int32) (v3 : Int32) (v4 : Int32) (S15 : St) : ex X d 131 209 [.ref 29, .int (S.1 55 (((S.1 29 34) - 1)).toNatClampNeg), .int (S.1 56 (((S.1 29 34) - 1)).toNatClampNeg), .int v2, .int v3, .int v4] [] (hh S15) (n + 3) = if v2 = 18 then ex X d 131 215 [.ref 29, .int (S.1 55 (((S.1 29 34) - 1)).toNatClampNeg), .int (S.1 56 (((S.1 29 34) - 1)).toNatClampNeg), .int v2, .int v3, .int v4] [] (hh S15) n else ex X d 131 222 [.ref 29, .int (S.1 55 (((S.1 29 34) - 1)).toNatClampNeg), .int (S.1 56 (((S.1 29 34) - 1)).toNatClampNeg), .int v2, .int v3, .int v4] [] (hh S15) n := rfl
theorem B_131_25 {X : Nat × (Nat → Int32)} {d : Nat} (n : Nat) (S : St) (v2 : Int32) (v3 : Int32) (v4 : Int32) (S15 : St) : ex X (d + 1) 131 215 [.ref 29, .int (S.1 55 (((S.1 29 34) - 1)).toNatClampNeg), .int (S.1 56 (((S.1 29 34) - 1)).toNatClampNeg), .int v2, .int v3, .int v4] [] (hh S15) (n + 2) = (match ex X d 135 0 [.ref 29, .retAddr 0, .retAddr 0] [] (hh S15) n with | some (v, h') => ex X (d + 1) 131 219 [.ref 29, .int (S.1 55 (((S.1 29 34) - 1)).toNatClampNeg), .int (S.1 56 (((S.1 29 34) - 1)).toNatClampNeg), .int v2, .int v3, .int v4] (v.toList ++ []) h' n | none => none) := rfl
theorem B_131_26 {X : Nat × (Nat → Int32)} {d : Nat} (n : Nat) (S : St) (v2 : Int32) (v3 : Int32) (v4 : Int32) (S15 : St) : ex X d 131 209 [.ref 29, .int (S.1 55 (((S.1 29 34) - 1)).toNatClampNeg), .int (S.1 56 (((S.1 29 34) - 1)).toNatClampNeg), .int v2, .int v3, .int v4] [] (hh S15) (n + 3) = if v2 = 18 then ex X d 131 215 [.ref 29, .int (S.1 55 (((S.1 29 34) - 1)).toNatClampNeg), .int (S.1 56 (((S.1 29 34) - 1)).toNatClampNeg), .int v2, .int v3, .int v4] [] (hh S15) n else ex X d 131 222 [.ref 29, .int (S.1 55 (((S.1 29 34) - 1)).toNatClampNeg), .int (S.1 56 (((S.1 29 34) - 1)).toNatClampNeg), .int v2, .int v3, .int v4] [] (hh S15) n := rfl
theorem B_131_27 {X : Nat × (Nat → Int32)} {d : Nat} (n : Nat) (S : St) (v2 : Int32) (v3 : Int32) (v4 : Int32) (S15 : St) : ex X d 131 222 [.ref 29, .int (S.1 55 (((S.1 29 34) - 1)).toNatClampNeg), .int (S.1 56 (((S.1 29 34) - 1)).toNatClampNeg), .int v2, .int v3, .int v4] [] (hh S15) (n + 3) = if v2 ≤ 8 then ex X d 131 234 [.ref 29, .int (S.1 55 (((S.1 29 34) - 1)).toNatClampNeg), .int (S.1 56 (((S.1 29 34) - 1)).toNatClampNeg), .int v2, .int v3, .int v4] [] (hh S15) n else ex X d 131 228 [.ref 29, .int (S.1 55 (((S.1 29 34) - 1)).toNatClampNeg), .int (S.1 56 (((S.1 29 34) - 1)).toNatClampNeg), .int v2, .int v3, .int v4] [] (hh S15) n := rfl
theorem B_131_28 {X : Nat × (Nat → Int32)} {d : Nat} (n : Nat) (S : St) (v2 : Int32) (v3 : Int32) (v4 : Int32) (S15 : St) : ex X d 131 222 [.ref 29, .int (S.1 55 (((S.1 29 34) - 1)).toNatClampNeg), .int (S.1 56 (((S.1 29 34) - 1)).toNatClampNeg), .int v2, .int v3, .int v4] [] (hh S15) (n + 3) = if v2 ≤ 8 then ex X d 131 234 [.ref 29, .int (S.1 55 (((S.1 29 34) - 1)).toNatClampNeg), .int (S.1 56 (((S.1 29 34) - 1)).toNatClampNeg), .int v2, .int v3, .int v4] [] (hh S15) n else ex X d 131 228 [.ref 29, .int (S.1 55 (((S.1 29 34) - 1)).toNatClampNeg), .int (S.1 56 (((S.1 29 34) - 1)).toNatClampNeg), .int v2, .int v3, .int v4] [] (hh S15) n := rfl
theorem B_131_29 {X : Nat × (Nat → Int32)} {d : Nat} (n : Nat) (S : St) (v2 : Int32) (v3 : Int32) (v4 : Int32) (S15 : St) : ex X (d + 1) 131 228 [.ref 29, .int (S.1 55 (((S.1 29 34) - 1)).toNatClampNeg), .int (S.1 56 (((S.1 29 34) - 1)).toNatClampNeg), .int v2, .int v3, .int v4] [] (hh S15) (n + 4) = (match ex X d 143 0 [.ref 29, .int (S.1 55 (((S.1 29 34) - 1)).toNatClampNeg), .int (S.1 56 (((S.1 29 34) - 1)).toNatClampNeg), .retAddr 0, .retAddr 0, .retAddr 0, .retAddr 0] [] (hh S15) n with | some (v, h') => ex X (d + 1) 131 234 [.ref 29, .int (S.1 55 (((S.1 29 34) - 1)).toNatClampNeg), .int (S.1 56 (((S.1 29 34) - 1)).toNatClampNeg), .int v2, .int v3, .int v4] (v.toList ++ []) h' n | none => none) := rfl
theorem B_131_30 {X : Nat × (Nat → Int32)} {d : Nat} (n : Nat) (S : St) (v2 : Int32) (v3 : Int32) (v4 : Int32) (S4 : St) : ex X d 131 170 [.ref 29, .int (S.1 55 (((S.1 29 34) - 1)).toNatClampNeg), .int (S.1 56 (((S.1 29 34) - 1)).toNatClampNeg), .int v2, .int v3, .int v4] [] (hh (xa_u S4.1 56 ((((S4.1 29 34) - 1)).toNatClampNeg) v3, S4.2.1, S4.2.2)) (n + 3) = if v2 = 8 then ex X d 131 176 [.ref 29, .int (S.1 55 (((S.1 29 34) - 1)).toNatClampNeg), .int (S.1 56 (((S.1 29 34) - 1)).toNatClampNeg), .int v2, .int v3, .int v4] [] (hh (xa_u S4.1 56 ((((S4.1 29 34) - 1)).toNatClampNeg) v3, S4.2.1, S4.2.2)) n else ex X d 131 209 [.ref 29, .int (S.1 55 (((S.1 29 34) - 1)).toNatClampNeg), .int (S.1 56 (((S.1 29 34) - 1)).toNatClampNeg), .int v2, .int v3, .int v4] [] (hh (xa_u S4.1 56 ((((S4.1 29 34) - 1)).toNatClampNeg) v3, S4.2.1, S4.2.2)) n := rfl
theorem B_131_31 {X : Nat × (Nat → Int32)} {d : Nat} (n : Nat) (S : St) (v2 : Int32) (v3 : Int32) (v4 : Int32) (S4 : St) : ex X d 131 209 [.ref 29, .int (S.1 55 (((S.1 29 34) - 1)).toNatClampNeg), .int (S.1 56 (((S.1 29 34) - 1)).toNatClampNeg), .int v2, .int v3, .int v4] [] (hh (xa_u S4.1 56 ((((S4.1 29 34) - 1)).toNatClampNeg) v3, S4.2.1, S4.2.2)) (n + 3) = if v2 = 18 then ex X d 131 215 [.ref 29, .int (S.1 55 (((S.1 29 34) - 1)).toNatClampNeg), .int (S.1 56 (((S.1 29 34) - 1)).toNatClampNeg), .int v2, .int v3, .int v4] [] (hh (xa_u S4.1 56 ((((S4.1 29 34) - 1)).toNatClampNeg) v3, S4.2.1, S4.2.2)) n else ex X d 131 222 [.ref 29, .int (S.1 55 (((S.1 29 34) - 1)).toNatClampNeg), .int (S.1 56 (((S.1 29 34) - 1)).toNatClampNeg), .int v2, .int v3, .int v4] [] (hh (xa_u S4.1 56 ((((S4.1 29 34) - 1)).toNatClampNeg) v3, S4.2.1, S4.2.2)) n := rfl
theorem B_131_32 {X : Nat × (Nat → Int32)} {d : Nat} (n : Nat) (S : St) (v2 : Int32) (v3 : Int32) (v4 : Int32) (S4 : St) : ex X (d + 1) 131 215 [.ref 29, .int (S.1 55 (((S.1 29 34) - 1)).toNatClampNeg), .int (S.1 56 (((S.1 29 34) - 1)).toNatClampNeg), .int v2, .int v3, .int v4] [] (hh (xa_u S4.1 56 ((((S4.1 29 34) - 1)).toNatClampNeg) v3, S4.2.1, S4.2.2)) (n + 2) = (match ex X d 135 0 [.ref 29, .retAddr 0, .retAddr 0] [] (hh (xa_u S4.1 56 ((((S4.1 29 34) - 1)).toNatClampNeg) v3, S4.2.1, S4.2.2)) n with | some (v, h') => ex X (d + 1) 131 219 [.ref 29, .int (S.1 55 (((S.1 29 34) - 1)).toNatClampNeg), .int (S.1 56 (((S.1 29 34) - 1)).toNatClampNeg), .int v2, .int v3, .int v4] (v.toList ++ []) h' n | none => none) := rfl
theorem B_131_33 {X : Nat × (Nat → Int32)} {d : Nat} (n : Nat) (S : St) (v2 : Int32) (v3 : Int32) (v4 : Int32) (S4 : St) : ex X d 131 209 [.ref 29, .int (S.1 55 (((S.1 29 34) - 1)).toNatClampNeg), .int (S.1 56 (((S.1 29 34) - 1)).toNatClampNeg), .int v2, .int v3, .int v4] [] (hh (xa_u S4.1 56 ((((S4.1 29 34) - 1)).toNatClampNeg) v3, S4.2.1, S4.2.2)) (n + 3) = if v2 = 18 then ex X d 131 215 [.ref 29, .int (S.1 55 (((S.1 29 34) - 1)).toNatClampNeg), .int (S.1 56 (((S.1 29 34) - 1)).toNatClampNeg), .int v2, .int v3, .int v4] [] (hh (xa_u S4.1 56 ((((S4.1 29 34) - 1)).toNatClampNeg) v3, S4.2.1, S4.2.2)) n else ex X d 131 222 [.ref 29, .int (S.1 55 (((S.1 29 34) - 1)).toNatClampNeg), .int (S.1 56 (((S.1 29 34) - 1)).toNatClampNeg), .int v2, .int v3, .int v4] [] (hh (xa_u S4.1 56 ((((S4.1 29 34) - 1)).toNatClampNeg) v3, S4.2.1, S4.2.2)) n := rfl
theorem B_131_34 {X : Nat × (Nat → Int32)} {d : Nat} (n : Nat) (S : St) (v2 : Int32) (v3 : Int32) (v4 : Int32) (S4 : St) : ex X d 131 222 [.ref 29, .int (S.1 55 (((S.1 29 34) - 1)).toNatClampNeg), .int (S.1 56 (((S.1 29 34) - 1)).toNatClampNeg), .int v2, .int v3, .int v4] [] (hh (xa_u S4.1 56 ((((S4.1 29 34) - 1)).toNatClampNeg) v3, S4.2.1, S4.2.2)) (n + 3) = if v2 ≤ 8 then ex X d 131 234 [.ref 29, .int (S.1 55 (((S.1 29 34) - 1)).toNatClampNeg), .int (S.1 56 (((S.1 29 34) - 1)).toNatClampNeg), .int v2, .int v3, .int v4] [] (hh (xa_u S4.1 56 ((((S4.1 29 34) - 1)).toNatClampNeg) v3, S4.2.1, S4.2.2)) n else ex X d 131 228 [.ref 29, .int (S.1 55 (((S.1 29 34) - 1)).toNatClampNeg), .int (S.1 56 (((S.1 29 34) - 1)).toNatClampNeg), .int v2, .int v3, .int v4] [] (hh (xa_u S4.1 56 ((((S4.1 29 34) - 1)).toNatClampNeg) v3, S4.2.1, S4.2.2)) n := rfl
theorem B_131_35 {X : Nat × (Nat → Int32)} {d : Nat} (n : Nat) (S : St) (v2 : Int32) (v3 : Int32) (v4 : Int32) (S4 : St) : ex X d 131 222 [.ref 29, .int (S.1 55 (((S.1 29 34) - 1)).toNatClampNeg), .int (S.1 56 (((S.1 29 34) - 1)).toNatClampNeg), .int v2, .int v3, .int v4] [] (hh (xa_u S4.1 56 ((((S4.1 29 34) - 1)).toNatClampNeg) v3, S4.2.1, S4.2.2)) (n + 3) = if v2 ≤ 8 then ex X d 131 234 [.ref 29, .int (S.1 55 (((S.1 29 34) - 1)).toNatClampNeg), .int (S.1 56 (((S.1 29 34) - 1)).toNatClampNeg), .int v2, .int v3, .int v4] [] (hh (xa_u S4.1 56 ((((S4.1 29 34) - 1)).toNatClampNeg) v3, S4.2.1, S4.2.2)) n else ex X d 131 228 [.ref 29, .int (S.1 55 (((S.1 29 34) - 1)).toNatClampNeg), .int (S.1 56 (((S.1 29 34) - 1)).toNatClampNeg), .int v2, .int v3, .int v4] [] (hh (xa_u S4.1 56 ((((S4.1 29 34) - 1)).toNatClampNeg) v3, S4.2.1, S4.2.2)) n := rfl
theorem B_131_36 {X : Nat × (Nat → Int32)} {d : Nat} (n : Nat) (S : St) (v2 : Int32) (v3 : Int32) (v4 : Int32) (S4 : St) : ex X (d + 1) 131 228 [.ref 29, .int (S.1 55 (((S.1 29 34) - 1)).toNatClampNeg), .int (S.1 56 (((S.1 29 34) - 1)).toNatClampNeg), .int v2, .int v3, .int v4] [] (hh (xa_u S4.1 56 ((((S4.1 29 34) - 1)).toNatClampNeg) v3, S4.2.1, S4.2.2)) (n + 4) = (match ex X d 143 0 [.ref 29, .int (S.1 55 (((S.1 29 34) - 1)).toNatClampNeg), .int (S.1 56 (((S.1 29 34) - 1)).toNatClampNeg), .retAddr 0, .retAddr 0, .retAddr 0, .retAddr 0] [] (hh (xa_u S4.1 56 ((((S4.1 29 34) - 1)).toNatClampNeg) v3, S4.2.1, S4.2.2)) n with | some (v, h') => ex X (d + 1) 131 234 [.ref 29, .int (S.1 55 (((S.1 29 34) - 1)).toNatClampNeg), .int (S.1 56 (((S.1 29 34) - 1)).toNatClampNeg), .int v2, .int v3, .int v4] (v.toList ++ []) h' n | none => none) := rfl
theorem B_131_37 {X : Nat × (Nat → Int32)} {d : Nat} (n : Nat) (S : St) (v2 : Int32) (v3 : Int32) (v4 : Int32) (S4 : St) : ex X d 131 116 [.ref 29, .int (S.1 55 (((S.1 29 34) - 1)).toNatClampNeg), .int (S.1 56 (((S.1 29 34) - 1)).toNatClampNeg), .int v2, .int v3, .int v4] [.int ((xa_u S4.1 56 ((((S4.1 29 34) - 1)).toNatClampNeg) v3) 35 (v4).toNatClampNeg)] (hh (xa_u S4.1 56 ((((S4.1 29 34) - 1)).toNatClampNeg) v3, S4.2.1, S4.2.2)) (n + 1) = if ((xa_u S4.1 56 ((((S4.1 29 34) - 1)).toNatClampNeg) v3) 35 (v4).toNatClampNeg) = 0 then ex X d 131 164 [.ref 29, .int (S.1 55 (((S.1 29 34) - 1)).toNatClampNeg), .int (S.1 56 (((S.1 29 34) - 1)).toNatClampNeg), .int v2, .int v3, .int v4] [] (hh (xa_u S4.1 56 ((((S4.1 29 34) - 1)).toNatClampNeg) v3, S4.2.1, S4.2.2)) n else ex X d 131 119 [.ref 29, .int (S.1 55 (((S.1 29 34) - 1)).toNatClampNeg), .int (S.1 56 (((S.1 29 34) - 1)).toNatClampNeg), .int v2, .int v3, .int v4] [] (hh (xa_u S4.1 56 ((((S4.1 29 34) - 1)).toNatClampNeg) v3, S4.2.1, S4.2.2)) n := rfl
theorem B_131_38 {X : Nat × (Nat → Int32)} {d : Nat} (n : Nat) (S : St) (v2 : Int32) (v3 : Int32) (v4 : Int32) (S4 : St) : ex X d 131 119 [.ref 29, .int (S.1 55 (((S.1 29 34) - 1)).toNatClampNeg), .int (S.1 56 (((S.1 29 34) - 1)).toNatClampNeg), .int v2, .int v3, .int v4] [] (hh (xa_u S4.1 56 ((((S4.1 29 34) - 1)).toNatClampNeg) v3, S4.2.1, S4.2.2)) (n + 4) = if ((xa_u S4.1 56 ((((S4.1 29 34) - 1)).toNatClampNeg) v3) 29 34) = 4 then ex X d 131 127 [.ref 29, .int (S.1 55 (((S.1 29 34) - 1)).toNatClampNeg), .int (S.1 56 (((S.1 29 34) - 1)).toNatClampNeg), .int v2, .int v3, .int v4] [] (hh (xa_u S4.1 56 ((((S4.1 29 34) - 1)).toNatClampNeg) v3, S4.2.1, S4.2.2)) n else ex X d 131 130 [.ref 29, .int (S.1 55 (((S.1 29 34) - 1)).toNatClampNeg), .int (S.1 56 (((S.1 29 34) - 1)).toNatClampNeg), .int v2, .int v3, .int v4] [] (hh (xa_u S4.1 56 ((((S4.1 29 34) - 1)).toNatClampNeg) v3, S4.2.1, S4.2.2)) n := rfl
theorem B_131_39 {X : Nat × (Nat → Int32)} {d : Nat} (n : Nat) (S : St) (v2 : Int32) (v3 : Int32) (v4 : Int32) (S4 : St) : ex X d 131 119 [.ref 29, .int (S.1 55 (((S.1 29 34) - 1)).toNatClampNeg), .int (S.1 56 (((S.1 29 34) - 1)).toNatClampNeg), .int v2, .int v3, .int v4] [] (hh (xa_u S4.1 56 ((((S4.1 29 34) - 1)).toNatClampNeg) v3, S4.2.1, S4.2.2)) (n + 4) = if ((xa_u S4.1 56 ((((S4.1 29 34) - 1)).toNatClampNeg) v3) 29 34) = 4 then ex X d 131 127 [.ref 29, .int (S.1 55 (((S.1 29 34) - 1)).toNatClampNeg), .int (S.1 56 (((S.1 29 34) - 1)).toNatClampNeg), .int v2, .int v3, .int v4] [] (hh (xa_u S4.1 56 ((((S4.1 29 34) - 1)).toNatClampNeg) v3, S4.2.1, S4.2.2)) n else ex X d 131 130 [.ref 29, .int (S.1 55 (((S.1 29 34) - 1)).toNatClampNeg), .int (S.1 56 (((S.1 29 34) - 1)).toNatClampNeg), .int v2, .int v3, .int v4] [] (hh (xa_u S4.1 56 ((((S4.1 29 34) - 1)).toNatClampNeg) v3, S4.2.1, S4.2.2)) n := rfl
theorem B_131_40 {X : Nat × (Nat → Int32)} {d : Nat} (n : Nat) (S : St) (v2 : Int32) (v3 : Int32) (v4 : Int32) (S4 : St) : ex X d 131 130 [.ref 29, .int (S.1 55 (((S.1 29 34) - 1)).toNatClampNeg), .int (S.1 56 (((S.1 29 34) - 1)).toNatClampNeg), .int v2, .int v3, .int v4] [] (hh (xa_u S4.1 56 ((((S4.1 29 34) - 1)).toNatClampNeg) v3, S4.2.1, S4.2.2)) (n + 6) = if (kd 55).1 = 0 ∧ xa_in ((xa_u S4.1 56 ((((S4.1 29 34) - 1)).toNatClampNeg) v3) 29 34) (kd 55).2 then ex X d 131 141 [.ref 29, .int (S.1 55 (((S.1 29 34) - 1)).toNatClampNeg), .int (S.1 56 (((S.1 29 34) - 1)).toNatClampNeg), .int v2, .int v3, .int v4] [] (hh (xa_u (xa_u S4.1 56 ((((S4.1 29 34) - 1)).toNatClampNeg) v3) 55 ((((xa_u S4.1 56 ((((S4.1 29 34) - 1)).toNatClampNeg) v3) 29 34)).toNatClampNeg) v4, S4.2.1, S4.2.2)) n else none := rfl
theorem B_131_41 {X : Nat × (Nat → Int32)} {d : Nat} (n : Nat) (S : St) (v2 : Int32) (v3 : Int32) (v4 : Int32) (S4 : St) : ex X d 131 141 [.ref 29, .int (S.1 55 (((S.1 29 34) - 1)).toNatClampNeg), .int (S.1 56 (((S.1 29 34) - 1)).toNatClampNeg), .int v2, .int v3, .int v4] [] (hh (xa_u (xa_u S4.1 56 ((((S4.1 29 34) - 1)).toNatClampNeg) v3) 55 ((((xa_u S4.1 56 ((((S4.1 29 34) - 1)).toNatClampNeg) v3) 29 34)).toNatClampNeg) v4, S4.2.1, S4.2.2)) (n + 6) = if (kd 56).1 = 0 ∧ xa_in ((xa_u (xa_u S4.1 56 ((((S4.1 29 34) - 1)).toNatClampNeg) v3) 55 ((((xa_u S4.1 56 ((((S4.1 29 34) - 1)).toNatClampNeg) v3) 29 34)).toNatClampNeg) v4) 29 34) (kd 56).2 then ex X d 131 151 [.ref 29, .int (S.1 55 (((S.1 29 34) - 1)).toNatClampNeg), .int (S.1 56 (((S.1 29 34) - 1)).toNatClampNeg), .int v2, .int v3, .int v4] [] (hh (xa_u (xa_u (xa_u S4.1 56 ((((S4.1 29 34) - 1)).toNatClampNeg) v3) 55 ((((xa_u S4.1 56 ((((S4.1 29 34) - 1)).toNatClampNeg) v3) 29 34)).toNatClampNeg) v4) 56 ((((xa_u (xa_u S4.1 56 ((((S4.1 29 34) - 1)).toNatClampNeg) v3) 55 ((((xa_u S4.1 56 ((((S4.1 29 34) - 1)).toNatClampNeg) v3) 29 34)).toNatClampNeg) v4) 29 34)).toNatClampNeg) 0, S4.2.1, S4.2.2)) n else none := rfl
theorem B_131_42 {X : Nat × (Nat → Int32)} {d : Nat} (n : Nat) (S : St) (v2 : Int32) (v3 : Int32) (v4 : Int32) (S4 : St) : ex X d 131 151 [.ref 29, .int (S.1 55 (((S.1 29 34) - 1)).toNatClampNeg), .int (S.1 56 (((S.1 29 34) - 1)).toNatClampNeg), .int v2, .int v3, .int v4] [] (hh (xa_u (xa_u (xa_u S4.1 56 ((((S4.1 29 34) - 1)).toNatClampNeg) v3) 55 ((((xa_u S4.1 56 ((((S4.1 29 34) - 1)).toNatClampNeg) v3) 29 34)).toNatClampNeg) v4) 56 ((((xa_u (xa_u S4.1 56 ((((S4.1 29 34) - 1)).toNatClampNeg) v3) 55 ((((xa_u S4.1 56 ((((S4.1 29 34) - 1)).toNatClampNeg) v3) 29 34)).toNatClampNeg) v4) 29 34)).toNatClampNeg) 0, S4.2.1, S4.2.2)) (n + 6) = if (kd 29).1 = 10 + 8 ∧ (xf_k 8 34 = 0 ∨ (xf_k 8 34 = 1 ∧ ((((xa_u (xa_u (xa_u S4.1 56 ((((S4.1 29 34) - 1)).toNatClampNeg) v3) 55 ((((xa_u S4.1 56 ((((S4.1 29 34) - 1)).toNatClampNeg) v3) 29 34)).toNatClampNeg) v4) 56 ((((xa_u (xa_u S4.1 56 ((((S4.1 29 34) - 1)).toNatClampNeg) v3) 55 ((((xa_u S4.1 56 ((((S4.1 29 34) - 1)).toNatClampNeg) v3) 29 34)).toNatClampNeg) v4) 29 34)).toNatClampNeg) 0) 29 34) + 1) = 0 ∨ (((xa_u (xa_u (xa_u S4.1 56 ((((S4.1 29 34) - 1)).toNatClampNeg) v3) 55 ((((xa_u S4.1 56 ((((S4.1 29 34) - 1)).toNatClampNeg) v3) 29 34)).toNatClampNeg) v4) 56 ((((xa_u (xa_u S4.1 56 ((((S4.1 29 34) - 1)).toNatClampNeg) v3) 55 ((((xa_u S4.1 56 ((((S4.1 29 34) - 1)).toNatClampNeg) v3) 29 34)).toNatClampNeg) v4) 29 34)).toNatClampNeg) 0) 29 34) + 1) = 1))) then ex X d 131 161 [.ref 29, .int (S.1 55 (((S.1 29 34) - 1)).toNatClampNeg), .int (S.1 56 (((S.1 29 34) - 1)).toNatClampNeg), .int v2, .int v3, .int v4] [] (hh (xa_u (xa_u (xa_u (xa_u S4.1 56 ((((S4.1 29 34) - 1)).toNatClampNeg) v3) 55 ((((xa_u S4.1 56 ((((S4.1 29 34) - 1)).toNatClampNeg) v3) 29 34)).toNatClampNeg) v4) 56 ((((xa_u (xa_u S4.1 56 ((((S4.1 29 34) - 1)).toNatClampNeg) v3) 55 ((((xa_u S4.1 56 ((((S4.1 29 34) - 1)).toNatClampNeg) v3) 29 34)).toNatClampNeg) v4) 29 34)).toNatClampNeg) 0) 29 34 (((xa_u (xa_u (xa_u S4.1 56 ((((S4.1 29 34) - 1)).toNatClampNeg) v3) 55 ((((xa_u S4.1 56 ((((S4.1 29 34) - 1)).toNatClampNeg) v3) 29 34)).toNatClampNeg) v4) 56 ((((xa_u (xa_u S4.1 56 ((((S4.1 29 34) - 1)).toNatClampNeg) v3) 55 ((((xa_u S4.1 56 ((((S4.1 29 34) - 1)).toNatClampNeg) v3) 29 34)).toNatClampNeg) v4) 29 34)).toNatClampNeg) 0) 29 34) + 1), S4.2.1, S4.2.2)) n else none := rfl
theorem B_131_43 {X : Nat × (Nat → Int32)} {d : Nat} (n : Nat) (S : St) (v2 : Int32) (v3 : Int32) (v4 : Int32) (S4 : St) : ex X d 131 103 [.ref 29, .int (S.1 55 (((S.1 29 34) - 1)).toNatClampNeg), .int (S.1 56 (((S.1 29 34) - 1)).toNatClampNeg), .int v2, .int v3, .int v4] [] (hh (xa_u S4.1 56 ((((S4.1 29 34) - 1)).toNatClampNeg) v3, S4.2.1, S4.2.2)) (n + 3) = if v2 = 6 then ex X d 131 109 [.ref 29, .int (S.1 55 (((S.1 29 34) - 1)).toNatClampNeg), .int (S.1 56 (((S.1 29 34) - 1)).toNatClampNeg), .int v2, .int v3, .int v4] [] (hh (xa_u S4.1 56 ((((S4.1 29 34) - 1)).toNatClampNeg) v3, S4.2.1, S4.2.2)) n else ex X d 131 164 [.ref 29, .int (S.1 55 (((S.1 29 34) - 1)).toNatClampNeg), .int (S.1 56 (((S.1 29 34) - 1)).toNatClampNeg), .int v2, .int v3, .int v4] [] (hh (xa_u S4.1 56 ((((S4.1 29 34) - 1)).toNatClampNeg) v3, S4.2.1, S4.2.2)) n := rfl
theorem B_131_44 {X : Nat × (Nat → Int32)} {d : Nat} (n : Nat) (S : St) (v2 : Int32) (v3 : Int32) (v4 : Int32) (S4 : St) : ex X d 131 164 [.ref 29, .int (S.1 55 (((S.1 29 34) - 1)).toNatClampNeg), .int (S.1 56 (((S.1 29 34) - 1)).toNatClampNeg), .int v2, .int v3, .int v4] [] (hh (xa_u S4.1 56 ((((S4.1 29 34) - 1)).toNatClampNeg) v3, S4.2.1, S4.2.2)) (n + 3) = if v2 = 7 then ex X d 131 187 [.ref 29, .int (S.1 55 (((S.1 29 34) - 1)).toNatClampNeg), .int (S.1 56 (((S.1 29 34) - 1)).toNatClampNeg), .int v2, .int v3, .int v4] [] (hh (xa_u S4.1 56 ((((S4.1 29 34) - 1)).toNatClampNeg) v3, S4.2.1, S4.2.2)) n else ex X d 131 170 [.ref 29, .int (S.1 55 (((S.1 29 34) - 1)).toNatClampNeg), .int (S.1 56 (((S.1 29 34) - 1)).toNatClampNeg), .int v2, .int v3, .int v4] [] (hh (xa_u S4.1 56 ((((S4.1 29 34) - 1)).toNatClampNeg) v3, S4.2.1, S4.2.2)) n := rfl
theorem B_131_45 {X : Nat × (Nat → Int32)} {d : Nat} (n : Nat) (S : St) (v2 : Int32) (v3 : Int32) (v4 : Int32) (S4 : St) : ex X (d + 1) 131 187 [.ref 29, .int (S.1 55 (((S.1 29 34) - 1)).toNatClampNeg), .int (S.1 56 (((S.1 29 34) - 1)).toNatClampNeg), .int v2, .int v3, .int v4] [] (hh (xa_u S4.1 56 ((((S4.1 29 34) - 1)).toNatClampNeg) v3, S4.2.1, S4.2.2)) (n + 11) = (match ex X d 128 0 [.ref 29, .int (S.1 55 (((S.1 29 34) - 1)).toNatClampNeg), .int (S.1 56 (((S.1 29 34) - 1)).toNatClampNeg), .int v3, .retAddr 0, .retAddr 0] [] (hh (xa_u S4.1 56 ((((S4.1 29 34) - 1)).toNatClampNeg) v3, S4.2.1, S4.2.2)) n with | some (v, h') => ex X (d + 1) 131 205 [.ref 29, .int (S.1 55 (((S.1 29 34) - 1)).toNatClampNeg), .int (S.1 56 (((S.1 29 34) - 1)).toNatClampNeg), .int v2, .int v3, .int v4] (v.toList ++ [.int (((xa_u S4.1 56 ((((S4.1 29 34) - 1)).toNatClampNeg) v3) 29 34) - 1), .ref 56]) h' n | none => none) := rfl
theorem B_131_46 {X : Nat × (Nat → Int32)} {d : Nat} (n : Nat) (S : St) (v2 : Int32) (v3 : Int32) (v4 : Int32) (v31 : Int32) (S4 : St) (S31 : St) : ex X d 131 205 [.ref 29, .int (S.1 55 (((S.1 29 34) - 1)).toNatClampNeg), .int (S.1 56 (((S.1 29 34) - 1)).toNatClampNeg), .int v2, .int v3, .int v4] [.int v31, .int (((xa_u S4.1 56 ((((S4.1 29 34) - 1)).toNatClampNeg) v3) 29 34) - 1), .ref 56] (hh S31) (n + 1) = if (kd 56).1 = 0 ∧ xa_in (((xa_u S4.1 56 ((((S4.1 29 34) - 1)).toNatClampNeg) v3) 29 34) - 1) (kd 56).2 then ex X d 131 206 [.ref 29, .int (S.1 55 (((S.1 29 34) - 1)).toNatClampNeg), .int (S.1 56 (((S.1 29 34) - 1)).toNatClampNeg), .int v2, .int v3, .int v4] [] (hh (xa_u S31.1 56 (((((xa_u S4.1 56 ((((S4.1 29 34) - 1)).toNatClampNeg) v3) 29 34) - 1)).toNatClampNeg) v31, S31.2.1, S31.2.2)) n else none := rfl
theorem B_131_47 {X : Nat × (Nat → Int32)} {d : Nat} (n : Nat) (S : St) (v2 : Int32) (v3 : Int32) (v4 : Int32) (S4 : St) : ex X d 131 164 [.ref 29, .int (S.1 55 (((S.1 29 34) - 1)).toNatClampNeg), .int (S.1 56 (((S.1 29 34) - 1)).toNatClampNeg), .int v2, .int v3, .int v4] [] (hh (xa_u S4.1 56 ((((S4.1 29 34) - 1)).toNatClampNeg) v3, S4.2.1, S4.2.2)) (n + 3) = if v2 = 7 then ex X d 131 187 [.ref 29, .int (S.1 55 (((S.1 29 34) - 1)).toNatClampNeg), .int (S.1 56 (((S.1 29 34) - 1)).toNatClampNeg), .int v2, .int v3, .int v4] [] (hh (xa_u S4.1 56 ((((S4.1 29 34) - 1)).toNatClampNeg) v3, S4.2.1, S4.2.2)) n else ex X d 131 170 [.ref 29, .int (S.1 55 (((S.1 29 34) - 1)).toNatClampNeg), .int (S.1 56 (((S.1 29 34) - 1)).toNatClampNeg), .int v2, .int v3, .int v4] [] (hh (xa_u S4.1 56 ((((S4.1 29 34) - 1)).toNatClampNeg) v3, S4.2.1, S4.2.2)) n := rfl
theorem B_131_48 {X : Nat × (Nat → Int32)} {d : Nat} (n : Nat) (S : St) (v2 : Int32) (v3 : Int32) (v4 : Int32) (S4 : St) : ex X d 131 170 [.ref 29, .int (S.1 55 (((S.1 29 34) - 1)).toNatClampNeg), .int (S.1 56 (((S.1 29 34) - 1)).toNatClampNeg), .int v2, .int v3, .int v4] [] (hh (xa_u S4.1 56 ((((S4.1 29 34) - 1)).toNatClampNeg) v3, S4.2.1, S4.2.2)) (n + 3) = if v2 = 8 then ex X d 131 176 [.ref 29, .int (S.1 55 (((S.1 29 34) - 1)).toNatClampNeg), .int (S.1 56 (((S.1 29 34) - 1)).toNatClampNeg), .int v2, .int v3, .int v4] [] (hh (xa_u S4.1 56 ((((S4.1 29 34) - 1)).toNatClampNeg) v3, S4.2.1, S4.2.2)) n else ex X d 131 209 [.ref 29, .int (S.1 55 (((S.1 29 34) - 1)).toNatClampNeg), .int (S.1 56 (((S.1 29 34) - 1)).toNatClampNeg), .int v2, .int v3, .int v4] [] (hh (xa_u S4.1 56 ((((S4.1 29 34) - 1)).toNatClampNeg) v3, S4.2.1, S4.2.2)) n := rfl
theorem B_131_49 {X : Nat × (Nat → Int32)} {d : Nat} (n : Nat) (S : St) (v2 : Int32) (v3 : Int32) (v4 : Int32) (S4 : St) : ex X (d + 1) 131 176 [.ref 29, .int (S.1 55 (((S.1 29 34) - 1)).toNatClampNeg), .int (S.1 56 (((S.1 29 34) - 1)).toNatClampNeg), .int v2, .int v3, .int v4] [] (hh (xa_u S4.1 56 ((((S4.1 29 34) - 1)).toNatClampNeg) v3, S4.2.1, S4.2.2)) (n + 6) = (match ex X d 133 0 [.ref 29, .int (S.1 55 (((S.1 29 34) - 1)).toNatClampNeg), .int ((S.1 56 (((S.1 29 34) - 1)).toNatClampNeg) + 1), .retAddr 0, .retAddr 0, .retAddr 0, .retAddr 0] [] (hh (xa_u S4.1 56 ((((S4.1 29 34) - 1)).toNatClampNeg) v3, S4.2.1, S4.2.2)) n with | some (v, h') => ex X (d + 1) 131 184 [.ref 29, .int (S.1 55 (((S.1 29 34) - 1)).toNatClampNeg), .int (S.1 56 (((S.1 29 34) - 1)).toNatClampNeg), .int v2, .int v3, .int v4] (v.toList ++ []) h' n | none => none) := rfl
theorem B_131_50 {X : Nat × (Nat → Int32)} {d : Nat} (n : Nat) (S : St) (v2 : Int32) (v3 : Int32) (v4 : Int32) (v34 : Int32) (S34 : St) : ex X d 131 184 [.ref 29, .int (S.1 55 (((S.1 29 34) - 1)).toNatClampNeg), .int (S.1 56 (((S.1 29 34) - 1)).toNatClampNeg), .int v2, .int v3, .int v4] [.int v34] (hh S34) (n + 1) = if v34 = 0 then ex X d 131 187 [.ref 29, .int (S.1 55 (((S.1 29 34) - 1)).toNatClampNeg), .int (S.1 56 (((S.1 29 34) - 1)).toNatClampNeg), .int v2, .int v3, .int v4] [] (hh S34) n else ex X d 131 209 [.ref 29, .int (S.1 55 (((S.1 29 34) - 1)).toNatClampNeg), .int (S.1 56 (((S.1 29 34) - 1)).toNatClampNeg), .int v2, .int v3, .int v4] [] (hh S34) n := rfl
theorem B_131_51 {X : Nat × (Nat → Int32)} {d : Nat} (n : Nat) (S : St) (v2 : Int32) (v3 : Int32) (v4 : Int32) (S34 : St) : ex X (d + 1) 131 187 [.ref 29, .int (S.1 55 (((S.1 29 34) - 1)).toNatClampNeg), .int (S.1 56 (((S.1 29 34) - 1)).toNatClampNeg), .int v2, .int v3, .int v4] [] (hh S34) (n + 11) = (match ex X d 128 0 [.ref 29, .int (S.1 55 (((S.1 29 34) - 1)).toNatClampNeg), .int (S.1 56 (((S.1 29 34) - 1)).toNatClampNeg), .int v3, .retAddr 0, .retAddr 0] [] (hh S34) n with | some (v, h') => ex X (d + 1) 131 205 [.ref 29, .int (S.1 55 (((S.1 29 34) - 1)).toNatClampNeg), .int (S.1 56 (((S.1 29 34) - 1)).toNatClampNeg), .int v2, .int v3, .int v4] (v.toList ++ [.int ((S34.1 29 34) - 1), .ref 56]) h' n | none => none) := rfl
theorem B_131_52 {X : Nat × (Nat → Int32)} {d : Nat} (n : Nat) (S : St) (v2 : Int32) (v3 : Int32) (v4 : Int32) (v36 : Int32) (S34 : St) (S36 : St) : ex X d 131 205 [.ref 29, .int (S.1 55 (((S.1 29 34) - 1)).toNatClampNeg), .int (S.1 56 (((S.1 29 34) - 1)).toNatClampNeg), .int v2, .int v3, .int v4] [.int v36, .int ((S34.1 29 34) - 1), .ref 56] (hh S36) (n + 1) = if (kd 56).1 = 0 ∧ xa_in ((S34.1 29 34) - 1) (kd 56).2 then ex X d 131 206 [.ref 29, .int (S.1 55 (((S.1 29 34) - 1)).toNatClampNeg), .int (S.1 56 (((S.1 29 34) - 1)).toNatClampNeg), .int v2, .int v3, .int v4] [] (hh (xa_u S36.1 56 ((((S34.1 29 34) - 1)).toNatClampNeg) v36, S36.2.1, S36.2.2)) n else none := rfl
theorem B_131_53 {X : Nat × (Nat → Int32)} {d : Nat} (n : Nat) (S : St) (v2 : Int32) (v3 : Int32) (v4 : Int32) (v34 : Int32) (S34 : St) : ex X d 131 184 [.ref 29, .int (S.1 55 (((S.1 29 34) - 1)).toNatClampNeg), .int (S.1 56 (((S.1 29 34) - 1)).toNatClampNeg), .int v2, .int v3, .int v4] [.int v34] (hh S34) (n + 1) = if v34 = 0 then ex X d 131 187 [.ref 29, .int (S.1 55 (((S.1 29 34) - 1)).toNatClampNeg), .int (S.1 56 (((S.1 29 34) - 1)).toNatClampNeg), .int v2, .int v3, .int v4] [] (hh S34) n else ex X d 131 209 [.ref 29, .int (S.1 55 (((S.1 29 34) - 1)).toNatClampNeg), .int (S.1 56 (((S.1 29 34) - 1)).toNatClampNeg), .int v2, .int v3, .int v4] [] (hh S34) n := rfl
theorem B_131_54 {X : Nat × (Nat → Int32)} {d : Nat} (n : Nat) (S : St) (v2 : Int32) (v3 : Int32) (v4 : Int32) (S34 : St) : ex X d 131 209 [.ref 29, .int (S.1 55 (((S.1 29 34) - 1)).toNatClampNeg), .int (S.1 56 (((S.1 29 34) - 1)).toNatClampNeg), .int v2, .int v3, .int v4] [] (hh S34) (n + 3) = if v2 = 18 then ex X d 131 215 [.ref 29, .int (S.1 55 (((S.1 29 34) - 1)).toNatClampNeg), .int (S.1 56 (((S.1 29 34) - 1)).toNatClampNeg), .int v2, .int v3, .int v4] [] (hh S34) n else ex X d 131 222 [.ref 29, .int (S.1 55 (((S.1 29 34) - 1)).toNatClampNeg), .int (S.1 56 (((S.1 29 34) - 1)).toNatClampNeg), .int v2, .int v3, .int v4] [] (hh S34) n := rfl
theorem B_131_55 {X : Nat × (Nat → Int32)} {d : Nat} (n : Nat) (S : St) (v2 : Int32) (v3 : Int32) (v4 : Int32) (S34 : St) : ex X (d + 1) 131 215 [.ref 29, .int (S.1 55 (((S.1 29 34) - 1)).toNatClampNeg), .int (S.1 56 (((S.1 29 34) - 1)).toNatClampNeg), .int v2, .int v3, .int v4] [] (hh S34) (n + 2) = (match ex X d 135 0 [.ref 29, .retAddr 0, .retAddr 0] [] (hh S34) n with | some (v, h') => ex X (d + 1) 131 219 [.ref 29, .int (S.1 55 (((S.1 29 34) - 1)).toNatClampNeg), .int (S.1 56 (((S.1 29 34) - 1)).toNatClampNeg), .int v2, .int v3, .int v4] (v.toList ++ []) h' n | none => none) := rfl
theorem B_131_56 {X : Nat × (Nat → Int32)} {d : Nat} (n : Nat) (S : St) (v2 : Int32) (v3 : Int32) (v4 : Int32) (S34 : St) : ex X d 131 209 [.ref 29, .int (S.1 55 (((S.1 29 34) - 1)).toNatClampNeg), .int (S.1 56 (((S.1 29 34) - 1)).toNatClampNeg), .int v2, .int v3, .int v4] [] (hh S34) (n + 3) = if v2 = 18 then ex X d 131 215 [.ref 29, .int (S.1 55 (((S.1 29 34) - 1)).toNatClampNeg), .int (S.1 56 (((S.1 29 34) - 1)).toNatClampNeg), .int v2, .int v3, .int v4] [] (hh S34) n else ex X d 131 222 [.ref 29, .int (S.1 55 (((S.1 29 34) - 1)).toNatClampNeg), .int (S.1 56 (((S.1 29 34) - 1)).toNatClampNeg), .int v2, .int v3, .int v4] [] (hh S34) n := rfl
theorem B_131_57 {X : Nat × (Nat → Int32)} {d : Nat} (n : Nat) (S : St) (v2 : Int32) (v3 : Int32) (v4 : Int32) (S34 : St) : ex X d 131 222 [.ref 29, .int (S.1 55 (((S.1 29 34) - 1)).toNatClampNeg), .int (S.1 56 (((S.1 29 34) - 1)).toNatClampNeg), .int v2, .int v3, .int v4] [] (hh S34) (n + 3) = if v2 ≤ 8 then ex X d 131 234 [.ref 29, .int (S.1 55 (((S.1 29 34) - 1)).toNatClampNeg), .int (S.1 56 (((S.1 29 34) - 1)).toNatClampNeg), .int v2, .int v3, .int v4] [] (hh S34) n else ex X d 131 228 [.ref 29, .int (S.1 55 (((S.1 29 34) - 1)).toNatClampNeg), .int (S.1 56 (((S.1 29 34) - 1)).toNatClampNeg), .int v2, .int v3, .int v4] [] (hh S34) n := rfl
theorem B_131_58 {X : Nat × (Nat → Int32)} {d : Nat} (n : Nat) (S : St) (v2 : Int32) (v3 : Int32) (v4 : Int32) (S34 : St) : ex X d 131 222 [.ref 29, .int (S.1 55 (((S.1 29 34) - 1)).toNatClampNeg), .int (S.1 56 (((S.1 29 34) - 1)).toNatClampNeg), .int v2, .int v3, .int v4] [] (hh S34) (n + 3) = if v2 ≤ 8 then ex X d 131 234 [.ref 29, .int (S.1 55 (((S.1 29 34) - 1)).toNatClampNeg), .int (S.1 56 (((S.1 29 34) - 1)).toNatClampNeg), .int v2, .int v3, .int v4] [] (hh S34) n else ex X d 131 228 [.ref 29, .int (S.1 55 (((S.1 29 34) - 1)).toNatClampNeg), .int (S.1 56 (((S.1 29 34) - 1)).toNatClampNeg), .int v2, .int v3, .int v4] [] (hh S34) n := rfl
theorem B_131_59 {X : Nat × (Nat → Int32)} {d : Nat} (n : Nat) (S : St) (v2 : Int32) (v3 : Int32) (v4 : Int32) (S34 : St) : ex X (d + 1) 131 228 [.ref 29, .int (S.1 55 (((S.1 29 34) - 1)).toNatClampNeg), .int (S.1 56 (((S.1 29 34) - 1)).toNatClampNeg), .int v2, .int v3, .int v4] [] (hh S34) (n + 4) = (match ex X d 143 0 [.ref 29, .int (S.1 55 (((S.1 29 34) - 1)).toNatClampNeg), .int (S.1 56 (((S.1 29 34) - 1)).toNatClampNeg), .retAddr 0, .retAddr 0, .retAddr 0, .retAddr 0] [] (hh S34) n with | some (v, h') => ex X (d + 1) 131 234 [.ref 29, .int (S.1 55 (((S.1 29 34) - 1)).toNatClampNeg), .int (S.1 56 (((S.1 29 34) - 1)).toNatClampNeg), .int v2, .int v3, .int v4] (v.toList ++ []) h' n | none => none) := rfl
theorem B_131_60 {X : Nat × (Nat → Int32)} {d : Nat} (n : Nat) (S : St) (v2 : Int32) (v3 : Int32) (v4 : Int32) (S4 : St) : ex X d 131 170 [.ref 29, .int (S.1 55 (((S.1 29 34) - 1)).toNatClampNeg), .int (S.1 56 (((S.1 29 34) - 1)).toNatClampNeg), .int v2, .int v3, .int v4] [] (hh (xa_u S4.1 56 ((((S4.1 29 34) - 1)).toNatClampNeg) v3, S4.2.1, S4.2.2)) (n + 3) = if v2 = 8 then ex X d 131 176 [.ref 29, .int (S.1 55 (((S.1 29 34) - 1)).toNatClampNeg), .int (S.1 56 (((S.1 29 34) - 1)).toNatClampNeg), .int v2, .int v3, .int v4] [] (hh (xa_u S4.1 56 ((((S4.1 29 34) - 1)).toNatClampNeg) v3, S4.2.1, S4.2.2)) n else ex X d 131 209 [.ref 29, .int (S.1 55 (((S.1 29 34) - 1)).toNatClampNeg), .int (S.1 56 (((S.1 29 34) - 1)).toNatClampNeg), .int v2, .int v3, .int v4] [] (hh (xa_u S4.1 56 ((((S4.1 29 34) - 1)).toNatClampNeg) v3, S4.2.1, S4.2.2)) n := rfl
theorem B_131_61 {X : Nat × (Nat → Int32)} {d : Nat} (n : Nat) (S : St) (v2 : Int32) (v3 : Int32) (v4 : Int32) (S4 : St) : ex X d 131 209 [.ref 29, .int (S.1 55 (((S.1 29 34) - 1)).toNatClampNeg), .int (S.1 56 (((S.1 29 34) - 1)).toNatClampNeg), .int v2, .int v3, .int v4] [] (hh (xa_u S4.1 56 ((((S4.1 29 34) - 1)).toNatClampNeg) v3, S4.2.1, S4.2.2)) (n + 3) = if v2 = 18 then ex X d 131 215 [.ref 29, .int (S.1 55 (((S.1 29 34) - 1)).toNatClampNeg), .int (S.1 56 (((S.1 29 34) - 1)).toNatClampNeg), .int v2, .int v3, .int v4] [] (hh (xa_u S4.1 56 ((((S4.1 29 34) - 1)).toNatClampNeg) v3, S4.2.1, S4.2.2)) n else ex X d 131 222 [.ref 29, .int (S.1 55 (((S.1 29 34) - 1)).toNatClampNeg), .int (S.1 56 (((S.1 29 34) - 1)).toNatClampNeg), .int v2, .int v3, .int v4] [] (hh (xa_u S4.1 56 ((((S4.1 29 34) - 1)).toNatClampNeg) v3, S4.2.1, S4.2.2)) n := rfl
theorem B_131_62 {X : Nat × (Nat → Int32)} {d : Nat} (n : Nat) (S : St) (v2 : Int32) (v3 : Int32) (v4 : Int32) (S4 : St) : ex X (d + 1) 131 215 [.ref 29, .int (S.1 55 (((S.1 29 34) - 1)).toNatClampNeg), .int (S.1 56 (((S.1 29 34) - 1)).toNatClampNeg), .int v2, .int v3, .int v4] [] (hh (xa_u S4.1 56 ((((S4.1 29 34) - 1)).toNatClampNeg) v3, S4.2.1, S4.2.2)) (n + 2) = (match ex X d 135 0 [.ref 29, .retAddr 0, .retAddr 0] [] (hh (xa_u S4.1 56 ((((S4.1 29 34) - 1)).toNatClampNeg) v3, S4.2.1, S4.2.2)) n with | some (v, h') => ex X (d + 1) 131 219 [.ref 29, .int (S.1 55 (((S.1 29 34) - 1)).toNatClampNeg), .int (S.1 56 (((S.1 29 34) - 1)).toNatClampNeg), .int v2, .int v3, .int v4] (v.toList ++ []) h' n | none => none) := rfl
theorem B_131_63 {X : Nat × (Nat → Int32)} {d : Nat} (n : Nat) (S : St) (v2 : Int32) (v3 : Int32) (v4 : Int32) (S4 : St) : ex X d 131 209 [.ref 29, .int (S.1 55 (((S.1 29 34) - 1)).toNatClampNeg), .int (S.1 56 (((S.1 29 34) - 1)).toNatClampNeg), .int v2, .int v3, .int v4] [] (hh (xa_u S4.1 56 ((((S4.1 29 34) - 1)).toNatClampNeg) v3, S4.2.1, S4.2.2)) (n + 3) = if v2 = 18 then ex X d 131 215 [.ref 29, .int (S.1 55 (((S.1 29 34) - 1)).toNatClampNeg), .int (S.1 56 (((S.1 29 34) - 1)).toNatClampNeg), .int v2, .int v3, .int v4] [] (hh (xa_u S4.1 56 ((((S4.1 29 34) - 1)).toNatClampNeg) v3, S4.2.1, S4.2.2)) n else ex X d 131 222 [.ref 29, .int (S.1 55 (((S.1 29 34) - 1)).toNatClampNeg), .int (S.1 56 (((S.1 29 34) - 1)).toNatClampNeg), .int v2, .int v3, .int v4] [] (hh (xa_u S4.1 56 ((((S4.1 29 34) - 1)).toNatClampNeg) v3, S4.2.1, S4.2.2)) n := rfl
theorem B_131_64 {X : Nat × (Nat → Int32)} {d : Nat} (n : Nat) (S : St) (v2 : Int32) (v3 : Int32) (v4 : Int32) (S4 : St) : ex X d 131 222 [.ref 29, .int (S.1 55 (((S.1 29 34) - 1)).toNatClampNeg), .int (S.1 56 (((S.1 29 34) - 1)).toNatClampNeg), .int v2, .int v3, .int v4] [] (hh (xa_u S4.1 56 ((((S4.1 29 34) - 1)).toNatClampNeg) v3, S4.2.1, S4.2.2)) (n + 3) = if v2 ≤ 8 then ex X d 131 234 [.ref 29, .int (S.1 55 (((S.1 29 34) - 1)).toNatClampNeg), .int (S.1 56 (((S.1 29 34) - 1)).toNatClampNeg), .int v2, .int v3, .int v4] [] (hh (xa_u S4.1 56 ((((S4.1 29 34) - 1)).toNatClampNeg) v3, S4.2.1, S4.2.2)) n else ex X d 131 228 [.ref 29, .int (S.1 55 (((S.1 29 34) - 1)).toNatClampNeg), .int (S.1 56 (((S.1 29 34) - 1)).toNatClampNeg), .int v2, .int v3, .int v4] [] (hh (xa_u S4.1 56 ((((S4.1 29 34) - 1)).toNatClampNeg) v3, S4.2.1, S4.2.2)) n := rfl
theorem B_131_65 {X : Nat × (Nat → Int32)} {d : Nat} (n : Nat) (S : St) (v2 : Int32) (v3 : Int32) (v4 : Int32) (S4 : St) : ex X d 131 222 [.ref 29, .int (S.1 55 (((S.1 29 34) - 1)).toNatClampNeg), .int (S.1 56 (((S.1 29 34) - 1)).toNatClampNeg), .int v2, .int v3, .int v4] [] (hh (xa_u S4.1 56 ((((S4.1 29 34) - 1)).toNatClampNeg) v3, S4.2.1, S4.2.2)) (n + 3) = if v2 ≤ 8 then ex X d 131 234 [.ref 29, .int (S.1 55 (((S.1 29 34) - 1)).toNatClampNeg), .int (S.1 56 (((S.1 29 34) - 1)).toNatClampNeg), .int v2, .int v3, .int v4] [] (hh (xa_u S4.1 56 ((((S4.1 29 34) - 1)).toNatClampNeg) v3, S4.2.1, S4.2.2)) n else ex X d 131 228 [.ref 29, .int (S.1 55 (((S.1 29 34) - 1)).toNatClampNeg), .int (S.1 56 (((S.1 29 34) - 1)).toNatClampNeg), .int v2, .int v3, .int v4] [] (hh (xa_u S4.1 56 ((((S4.1 29 34) - 1)).toNatClampNeg) v3, S4.2.1, S4.2.2)) n := rfl
theorem B_131_66 {X : Nat × (Nat → Int32)} {d : Nat} (n : Nat) (S : St) (v2 : Int32) (v3 : Int32) (v4 : Int32) (S4 : St) : ex X (d + 1) 131 228 [.ref 29, .int (S.1 55 (((S.1 29 34) - 1)).toNatClampNeg), .int (S.1 56 (((S.1 29 34) - 1)).toNatClampNeg), .int v2, .int v3, .int v4] [] (hh (xa_u S4.1 56 ((((S4.1 29 34) - 1)).toNatClampNeg) v3, S4.2.1, S4.2.2)) (n + 4) = (match ex X d 143 0 [.ref 29, .int (S.1 55 (((S.1 29 34) - 1)).toNatClampNeg), .int (S.1 56 (((S.1 29 34) - 1)).toNatClampNeg), .retAddr 0, .retAddr 0, .retAddr 0, .retAddr 0] [] (hh (xa_u S4.1 56 ((((S4.1 29 34) - 1)).toNatClampNeg) v3, S4.2.1, S4.2.2)) n with | some (v, h') => ex X (d + 1) 131 234 [.ref 29, .int (S.1 55 (((S.1 29 34) - 1)).toNatClampNeg), .int (S.1 56 (((S.1 29 34) - 1)).toNatClampNeg), .int v2, .int v3, .int v4] (v.toList ++ []) h' n | none => none) := rfl
theorem B_131_67 {X : Nat × (Nat → Int32)} {d : Nat} (n : Nat) (S : St) (v2 : Int32) (v3 : Int32) (v4 : Int32) (S4 : St) : ex X d 131 79 [.ref 29, .int (S.1 55 (((S.1 29 34) - 1)).toNatClampNeg), .int (S.1 56 (((S.1 29 34) - 1)).toNatClampNeg), .int v2, .int v3, .int v4] [] (hh (xa_u S4.1 56 ((((S4.1 29 34) - 1)).toNatClampNeg) v3, S4.2.1, S4.2.2)) (n + 3) = if 6 ≤ v2 then ex X d 131 103 [.ref 29, .int (S.1 55 (((S.1 29 34) - 1)).toNatClampNeg), .int (S.1 56 (((S.1 29 34) - 1)).toNatClampNeg), .int v2, .int v3, .int v4] [] (hh (xa_u S4.1 56 ((((S4.1 29 34) - 1)).toNatClampNeg) v3, S4.2.1, S4.2.2)) n else ex X d 131 85 [.ref 29, .int (S.1 55 (((S.1 29 34) - 1)).toNatClampNeg), .int (S.1 56 (((S.1 29 34) - 1)).toNatClampNeg), .int v2, .int v3, .int v4] [] (hh (xa_u S4.1 56 ((((S4.1 29 34) - 1)).toNatClampNeg) v3, S4.2.1, S4.2.2)) n := rfl
theorem B_131_68 {X : Nat × (Nat → Int32)} {d : Nat} (n : Nat) (S : St) (v2 : Int32) (v3 : Int32) (v4 : Int32) (S4 : St) : ex X (d + 1) 131 85 [.ref 29, .int (S.1 55 (((S.1 29 34) - 1)).toNatClampNeg), .int (S.1 56 (((S.1 29 34) - 1)).toNatClampNeg), .int v2, .int v3, .int v4] [] (hh (xa_u S4.1 56 ((((S4.1 29 34) - 1)).toNatClampNeg) v3, S4.2.1, S4.2.2)) (n + 9) = (match ex X d 118 0 [.ref 29, .int (S.1 55 (((S.1 29 34) - 1)).toNatClampNeg), .int ((S.1 56 (((S.1 29 34) - 1)).toNatClampNeg) + 2)] [] (hh (xa_u S4.1 56 ((((S4.1 29 34) - 1)).toNatClampNeg) v3, S4.2.1, S4.2.2)) n with | some (v, h') => ex X (d + 1) 131 97 [.ref 29, .int (S.1 55 (((S.1 29 34) - 1)).toNatClampNeg), .int (S.1 56 (((S.1 29 34) - 1)).toNatClampNeg), .int v2, .int v3, .int v4] (v.toList ++ [.int v4, .int v2, .ref 29]) h' n | none => none) := rfl
theorem B_131_69 {X : Nat × (Nat → Int32)} {d : Nat} (n : Nat) (S : St) (v2 : Int32) (v3 : Int32) (v4 : Int32) (v46 : Int32) (S46 : St) : ex X (d + 1) 131 97 [.ref 29, .int (S.1 55 (((S.1 29 34) - 1)).toNatClampNeg), .int (S.1 56 (((S.1 29 34) - 1)).toNatClampNeg), .int v2, .int v3, .int v4] [.int v46, .int v4, .int v2, .ref 29] (hh S46) (n + 1) = (match ex X d 132 0 [.ref 29, .int v2, .int v4, .int v46] [] (hh S46) n with | some (v, h') => ex X (d + 1) 131 100 [.ref 29, .int (S.1 55 (((S.1 29 34) - 1)).toNatClampNeg), .int (S.1 56 (((S.1 29 34) - 1)).toNatClampNeg), .int v2, .int v3, .int v4] (v.toList ++ []) h' n | none => none) := rfl
set_option maxRecDepth 200000 in
theorem T_131 {X : Nat × (Nat → Int32)} (S : St)  (r : Int32) (S' : St) (hG : G_131 S  = some (r, S')) : Ev X 6 131 0 [.ref 29, .retAddr 0, .retAddr 0, .retAddr 0, .retAddr 0, .retAddr 0] [] (hh S) (xI r, hh S') := by
  unfold G_131 at hG
  by_cases g1 : xa_in ((S.1 29 34) - 1) 4
  rotate_left
  · rw [if_neg g1] at hG; cases hG
  rw [if_pos g1] at hG
  refine Ev.g (c := (kd 55).1 = 0 ∧ xa_in ((S.1 29 34) - 1) (kd 55).2) (p1 := 11) (L1 := [.ref 29, .retAddr 0, .retAddr 0, .retAddr 0, .retAddr 0, .retAddr 0]) (s1 := [.int (S.1 55 (((S.1 29 34) - 1)).toNatClampNeg)]) (h1 := hh S) 7 (fun n => B_131_1 n S) (⟨rfl, g1⟩) ?_
  refine Ev.g (c := (kd 56).1 = 0 ∧ xa_in ((S.1 29 34) - 1) (kd 56).2) (p1 := 23) (L1 := [.ref 29, .int (S.1 55 (((S.1 29 34) - 1)).toNatClampNeg), .retAddr 0, .retAddr 0, .retAddr 0, .retAddr 0]) (s1 := [.int (S.1 56 (((S.1 29 34) - 1)).toNatClampNeg)]) (h1 := hh S) 8 (fun n => B_131_2 n S) (⟨rfl, g1⟩) ?_
  rcases h2 : G_118 S (S.1 55 (((S.1 29 34) - 1)).toNatClampNeg) (S.1 56 (((S.1 29 34) - 1)).toNatClampNeg) with _ | ⟨v2, S2⟩
  · rw [h2] at hG; cases hG
  rw [h2] at hG
  dsimp only at hG
  refine Ev.c (a := 118) (A := [.ref 29, .int (S.1 55 (((S.1 29 34) - 1)).toNatClampNeg), .int (S.1 56 (((S.1 29 34) - 1)).toNatClampNeg)]) (h1 := hh S) (pc' := 30) (L' := [.ref 29, .int (S.1 55 (((S.1 29 34) - 1)).toNatClampNeg), .int (S.1 56 (((S.1 29 34) - 1)).toNatClampNeg), .retAddr 0, .retAddr 0, .retAddr 0]) (rest := []) (r1 := some (.int v2)) (h2 := hh S2) 5 (fun n => B_131_3 n S) (Ev.up (by decide) (T_118 S (S.1 55 (((S.1 29 34) - 1)).toNatClampNeg) (S.1 56 (((S.1 29 34) - 1)).toNatClampNeg) _ _ h2)) ?_
  show Ev X _ 131 30 [.ref 29, .int (S.1 55 (((S.1 29 34) - 1)).toNatClampNeg), .int (S.1 56 (((S.1 29 34) - 1)).toNatClampNeg), .retAddr 0, .retAddr 0, .retAddr 0] [.int v2] (hh S2) _
  rcases h3 : G_124 S2 (S.1 55 (((S.1 29 34) - 1)).toNatClampNeg) (S.1 56 (((S.1 29 34) - 1)).toNatClampNeg) with _ | ⟨v3, S3⟩
  · rw [h3] at hG; cases hG
  rw [h3] at hG
  dsimp only at hG
  refine Ev.c (a := 124) (A := [.ref 29, .int (S.1 55 (((S.1 29 34) - 1)).toNatClampNeg), .int (S.1 56 (((S.1 29 34) - 1)).toNatClampNeg), .retAddr 0, .retAddr 0]) (h1 := hh S2) (pc' := 37) (L' := [.ref 29, .int (S.1 55 (((S.1 29 34) - 1)).toNatClampNeg), .int (S.1 56 (((S.1 29 34) - 1)).toNatClampNeg), .int v2, .retAddr 0, .retAddr 0]) (rest := []) (r1 := some (.int v3)) (h2 := hh S3) 5 (fun n => B_131_4 n S v2 S2) (Ev.up (by decide) (T_124 S2 (S.1 55 (((S.1 29 34) - 1)).toNatClampNeg) (S.1 56 (((S.1 29 34) - 1)).toNatClampNeg) _ _ h3)) ?_
  show Ev X _ 131 37 [.ref 29, .int (S.1 55 (((S.1 29 34) - 1)).toNatClampNeg), .int (S.1 56 (((S.1 29 34) - 1)).toNatClampNeg), .int v2, .retAddr 0, .retAddr 0] [.int v3] (hh S3) _
  rcases h4 : G_118 S3 (S.1 55 (((S.1 29 34) - 1)).toNatClampNeg) ((S.1 56 (((S.1 29 34) - 1)).toNatClampNeg) + 1) with _ | ⟨v4, S4⟩
  · rw [h4] at hG; cases hG
  rw [h4] at hG
  dsimp only at hG
  refine Ev.c (a := 118) (A := [.ref 29, .int (S.1 55 (((S.1 29 34) - 1)).toNatClampNeg), .int ((S.1 56 (((S.1 29 34) - 1)).toNatClampNeg) + 1)]) (h1 := hh S3) (pc' := 47) (L' := [.ref 29, .int (S.1 55 (((S.1 29 34) - 1)).toNatClampNeg), .int (S.1 56 (((S.1 29 34) - 1)).toNatClampNeg), .int v2, .int v3, .retAddr 0]) (rest := []) (r1 := some (.int v4)) (h2 := hh S4) 7 (fun n => B_131_5 n S v2 v3 S3) (Ev.up (by decide) (T_118 S3 (S.1 55 (((S.1 29 34) - 1)).toNatClampNeg) ((S.1 56 (((S.1 29 34) - 1)).toNatClampNeg) + 1) _ _ h4)) ?_
  show Ev X _ 131 47 [.ref 29, .int (S.1 55 (((S.1 29 34) - 1)).toNatClampNeg), .int (S.1 56 (((S.1 29 34) - 1)).toNatClampNeg), .int v2, .int v3, .retAddr 0] [.int v4] (hh S4) _
  by_cases g5 : xa_in ((S4.1 29 34) - 1) 4
  rotate_left
  · rw [if_neg g5] at hG; cases hG
  rw [if_pos g5] at hG
  refine Ev.g (c := (kd 56).1 = 0 ∧ xa_in ((S4.1 29 34) - 1) (kd 56).2) (p1 := 62) (L1 := [.ref 29, .int (S.1 55 (((S.1 29 34) - 1)).toNatClampNeg), .int (S.1 56 (((S.1 29 34) - 1)).toNatClampNeg), .int v2, .int v3, .int v4]) (s1 := []) (h1 := hh (xa_u S4.1 56 ((((S4.1 29 34) - 1)).toNatClampNeg) v3, S4.2.1, S4.2.2)) 9 (fun n => B_131_6 n S v2 v3 v4 S4) (⟨rfl, g5⟩) ?_
  by_cases c6 : v2 = 0
  · rw [if_pos c6] at hG
    refine Ev.t (c := v2 = 0) (p1 := 66) (L1 := [.ref 29, .int (S.1 55 (((S.1 29 34) - 1)).toNatClampNeg), .int (S.1 56 (((S.1 29 34) - 1)).toNatClampNeg), .int v2, .int v3, .int v4]) (s1 := []) (h1 := hh (xa_u S4.1 56 ((((S4.1 29 34) - 1)).toNatClampNeg) v3, S4.2.1, S4.2.2)) (p2 := 79) (L2 := [.ref 29, .int (S.1 55 (((S.1 29 34) - 1)).toNatClampNeg), .int (S.1 56 (((S.1 29 34) - 1)).toNatClampNeg), .int v2, .int v3, .int v4]) (s2 := []) (h2 := hh (xa_u S4.1 56 ((((S4.1 29 34) - 1)).toNatClampNeg) v3, S4.2.1, S4.2.2)) 2 (fun n => B_131_7 n S v2 v3 v4 S4) c6 ?_
    refine Ev.g (c := (kd 29).1 = 10 + 8 ∧ (xf_k 8 34 = 0 ∨ (xf_k 8 34 = 1 ∧ ((((xa_u S4.1 56 ((((S4.1 29 34) - 1)).toNatClampNeg) v3) 29 34) - 1) = 0 ∨ (((xa_u S4.1 56 ((((S4.1 29 34) - 1)).toNatClampNeg) v3) 29 34) - 1) = 1)))) (p1 := 76) (L1 := [.ref 29, .int (S.1 55 (((S.1 29 34) - 1)).toNatClampNeg), .int (S.1 56 (((S.1 29 34) - 1)).toNatClampNeg), .int v2, .int v3, .int v4]) (s1 := []) (h1 := hh (xa_u (xa_u S4.1 56 ((((S4.1 29 34) - 1)).toNatClampNeg) v3) 29 34 (((xa_u S4.1 56 ((((S4.1 29 34) - 1)).toNatClampNeg) v3) 29 34) - 1), S4.2.1, S4.2.2)) 6 (fun n => B_131_8 n S v2 v3 v4 S4) (⟨rfl, Or.inl rfl⟩) ?_
    obtain ⟨e1, e2⟩ := Prod.mk.inj (Option.some.inj hG)
    subst e1
    subst e2
    exact Ev.r 3 (fun n => rfl)
  · rw [if_neg c6] at hG
    refine Ev.f (c := v2 = 0) (p1 := 66) (L1 := [.ref 29, .int (S.1 55 (((S.1 29 34) - 1)).toNatClampNeg), .int (S.1 56 (((S.1 29 34) - 1)).toNatClampNeg), .int v2, .int v3, .int v4]) (s1 := []) (h1 := hh (xa_u S4.1 56 ((((S4.1 29 34) - 1)).toNatClampNeg) v3, S4.2.1, S4.2.2)) (p2 := 79) (L2 := [.ref 29, .int (S.1 55 (((S.1 29 34) - 1)).toNatClampNeg), .int (S.1 56 (((S.1 29 34) - 1)).toNatClampNeg), .int v2, .int v3, .int v4]) (s2 := []) (h2 := hh (xa_u S4.1 56 ((((S4.1 29 34) - 1)).toNatClampNeg) v3, S4.2.1, S4.2.2)) 2 (fun n => B_131_9 n S v2 v3 v4 S4) c6 ?_
    by_cases c7 : 6 ≤ v2
    · rw [if_pos c7] at hG
      refine Ev.t (c := 6 ≤ v2) (p1 := 103) (L1 := [.ref 29, .int (S.1 55 (((S.1 29 34) - 1)).toNatClampNeg), .int (S.1 56 (((S.1 29 34) - 1)).toNatClampNeg), .int v2, .int v3, .int v4]) (s1 := []) (h1 := hh (xa_u S4.1 56 ((((S4.1 29 34) - 1)).toNatClampNeg) v3, S4.2.1, S4.2.2)) (p2 := 85) (L2 := [.ref 29, .int (S.1 55 (((S.1 29 34) - 1)).toNatClampNeg), .int (S.1 56 (((S.1 29 34) - 1)).toNatClampNeg), .int v2, .int v3, .int v4]) (s2 := []) (h2 := hh (xa_u S4.1 56 ((((S4.1 29 34) - 1)).toNatClampNeg) v3, S4.2.1, S4.2.2)) 3 (fun n => B_131_10 n S v2 v3 v4 S4) c7 ?_
      by_cases c8 : v2 = 6
      · rw [if_pos c8] at hG
        refine Ev.t (c := v2 = 6) (p1 := 109) (L1 := [.ref 29, .int (S.1 55 (((S.1 29 34) - 1)).toNatClampNeg), .int (S.1 56 (((S.1 29 34) - 1)).toNatClampNeg), .int v2, .int v3, .int v4]) (s1 := []) (h1 := hh (xa_u S4.1 56 ((((S4.1 29 34) - 1)).toNatClampNeg) v3, S4.2.1, S4.2.2)) (p2 := 164) (L2 := [.ref 29, .int (S.1 55 (((S.1 29 34) - 1)).toNatClampNeg), .int (S.1 56 (((S.1 29 34) - 1)).toNatClampNeg), .int v2, .int v3, .int v4]) (s2 := []) (h2 := hh (xa_u S4.1 56 ((((S4.1 29 34) - 1)).toNatClampNeg) v3, S4.2.1, S4.2.2)) 3 (fun n => B_131_11 n S v2 v3 v4 S4) c8 ?_
        by_cases g9 : xa_in v4 4
        rotate_left
        · rw [if_neg g9] at hG; cases hG
        rw [if_pos g9] at hG
        refine Ev.g (c := (kd 35).1 = 1 ∧ xa_in v4 (kd 35).2) (p1 := 116) (L1 := [.ref 29, .int (S.1 55 (((S.1 29 34) - 1)).toNatClampNeg), .int (S.1 56 (((S.1 29 34) - 1)).toNatClampNeg), .int v2, .int v3, .int v4]) (s1 := [.int ((xa_u S4.1 56 ((((S4.1 29 34) - 1)).toNatClampNeg) v3) 35 (v4).toNatClampNeg)]) (h1 := hh (xa_u S4.1 56 ((((S4.1 29 34) - 1)).toNatClampNeg) v3, S4.2.1, S4.2.2)) 4 (fun n => B_131_12 n S v2 v3 v4 S4) (⟨rfl, g9⟩) ?_
        by_cases c10 : ((xa_u S4.1 56 ((((S4.1 29 34) - 1)).toNatClampNeg) v3) 35 (v4).toNatClampNeg) = 0
        · rw [if_pos c10] at hG
          refine Ev.t (c := ((xa_u S4.1 56 ((((S4.1 29 34) - 1)).toNatClampNeg) v3) 35 (v4).toNatClampNeg) = 0) (p1 := 164) (L1 := [.ref 29, .int (S.1 55 (((S.1 29 34) - 1)).toNatClampNeg), .int (S.1 56 (((S.1 29 34) - 1)).toNatClampNeg), .int v2, .int v3, .int v4]) (s1 := []) (h1 := hh (xa_u S4.1 56 ((((S4.1 29 34) - 1)).toNatClampNeg) v3, S4.2.1, S4.2.2)) (p2 := 119) (L2 := [.ref 29, .int (S.1 55 (((S.1 29 34) - 1)).toNatClampNeg), .int (S.1 56 (((S.1 29 34) - 1)).toNatClampNeg), .int v2, .int v3, .int v4]) (s2 := []) (h2 := hh (xa_u S4.1 56 ((((S4.1 29 34) - 1)).toNatClampNeg) v3, S4.2.1, S4.2.2)) 1 (fun n => B_131_13 n S v2 v3 v4 S4) c10 ?_
          by_cases c11 : v2 = 7
          · rw [if_pos c11] at hG
            refine Ev.t (c := v2 = 7) (p1 := 187) (L1 := [.ref 29, .int (S.1 55 (((S.1 29 34) - 1)).toNatClampNeg), .int (S.1 56 (((S.1 29 34) - 1)).toNatClampNeg), .int v2, .int v3, .int v4]) (s1 := []) (h1 := hh (xa_u S4.1 56 ((((S4.1 29 34) - 1)).toNatClampNeg) v3, S4.2.1, S4.2.2)) (p2 := 170) (L2 := [.ref 29, .int (S.1 55 (((S.1 29 34) - 1)).toNatClampNeg), .int (S.1 56 (((S.1 29 34) - 1)).toNatClampNeg), .int v2, .int v3, .int v4]) (s2 := []) (h2 := hh (xa_u S4.1 56 ((((S4.1 29 34) - 1)).toNatClampNeg) v3, S4.2.1, S4.2.2)) 3 (fun n => B_131_14 n S v2 v3 v4 S4) c11 ?_
            rcases h12 : G_128 (xa_u S4.1 56 ((((S4.1 29 34) - 1)).toNatClampNeg) v3, S4.2.1, S4.2.2) (S.1 55 (((S.1 29 34) - 1)).toNatClampNeg) (S.1 56 (((S.1 29 34) - 1)).toNatClampNeg) v3 with _ | ⟨v12, S12⟩
            · rw [h12] at hG; cases hG
            rw [h12] at hG
            dsimp only at hG
            refine Ev.c (a := 128) (A := [.ref 29, .int (S.1 55 (((S.1 29 34) - 1)).toNatClampNeg), .int (S.1 56 (((S.1 29 34) - 1)).toNatClampNeg), .int v3, .retAddr 0, .retAddr 0]) (h1 := hh (xa_u S4.1 56 ((((S4.1 29 34) - 1)).toNatClampNeg) v3, S4.2.1, S4.2.2)) (pc' := 205) (L' := [.ref 29, .int (S.1 55 (((S.1 29 34) - 1)).toNatClampNeg), .int (S.1 56 (((S.1 29 34) - 1)).toNatClampNeg), .int v2, .int v3, .int v4]) (rest := [.int (((xa_u S4.1 56 ((((S4.1 29 34) - 1)).toNatClampNeg) v3) 29 34) - 1), .ref 56]) (r1 := some (.int v12)) (h2 := hh S12) 11 (fun n => B_131_15 n S v2 v3 v4 S4) (Ev.up (by decide) (T_128 (xa_u S4.1 56 ((((S4.1 29 34) - 1)).toNatClampNeg) v3, S4.2.1, S4.2.2) (S.1 55 (((S.1 29 34) - 1)).toNatClampNeg) (S.1 56 (((S.1 29 34) - 1)).toNatClampNeg) v3 _ _ h12)) ?_
            show Ev X _ 131 205 [.ref 29, .int (S.1 55 (((S.1 29 34) - 1)).toNatClampNeg), .int (S.1 56 (((S.1 29 34) - 1)).toNatClampNeg), .int v2, .int v3, .int v4] [.int v12, .int (((xa_u S4.1 56 ((((S4.1 29 34) - 1)).toNatClampNeg) v3) 29 34) - 1), .ref 56] (hh S12) _
            by_cases g13 : xa_in (((xa_u S4.1 56 ((((S4.1 29 34) - 1)).toNatClampNeg) v3) 29 34) - 1) 4
            rotate_left
            · rw [if_neg g13] at hG; cases hG
            rw [if_pos g13] at hG
            refine Ev.g (c := (kd 56).1 = 0 ∧ xa_in (((xa_u S4.1 56 ((((S4.1 29 34) - 1)).toNatClampNeg) v3) 29 34) - 1) (kd 56).2) (p1 := 206) (L1 := [.ref 29, .int (S.1 55 (((S.1 29 34) - 1)).toNatClampNeg), .int (S.1 56 (((S.1 29 34) - 1)).toNatClampNeg), .int v2, .int v3, .int v4]) (s1 := []) (h1 := hh (xa_u S12.1 56 (((((xa_u S4.1 56 ((((S4.1 29 34) - 1)).toNatClampNeg) v3) 29 34) - 1)).toNatClampNeg) v12, S12.2.1, S12.2.2)) 1 (fun n => B_131_16 n S v2 v3 v4 v12 S4 S12) (⟨rfl, g13⟩) ?_
            obtain ⟨e1, e2⟩ := Prod.mk.inj (Option.some.inj hG)
            subst e1
            subst e2
            exact Ev.r 3 (fun n => rfl)
          · rw [if_neg c11] at hG
            refine Ev.f (c := v2 = 7) (p1 := 187) (L1 := [.ref 29, .int (S.1 55 (((S.1 29 34) - 1)).toNatClampNeg), .int (S.1 56 (((S.1 29 34) - 1)).toNatClampNeg), .int v2, .int v3, .int v4]) (s1 := []) (h1 := hh (xa_u S4.1 56 ((((S4.1 29 34) - 1)).toNatClampNeg) v3, S4.2.1, S4.2.2)) (p2 := 170) (L2 := [.ref 29, .int (S.1 55 (((S.1 29 34) - 1)).toNatClampNeg), .int (S.1 56 (((S.1 29 34) - 1)).toNatClampNeg), .int v2, .int v3, .int v4]) (s2 := []) (h2 := hh (xa_u S4.1 56 ((((S4.1 29 34) - 1)).toNatClampNeg) v3, S4.2.1, S4.2.2)) 3 (fun n => B_131_17 n S v2 v3 v4 S4) c11 ?_
            by_cases c14 : v2 = 8
            · rw [if_pos c14] at hG
              refine Ev.t (c := v2 = 8) (p1 := 176) (L1 := [.ref 29, .int (S.1 55 (((S.1 29 34) - 1)).toNatClampNeg), .int (S.1 56 (((S.1 29 34) - 1)).toNatClampNeg), .int v2, .int v3, .int v4]) (s1 := []) (h1 := hh (xa_u S4.1 56 ((((S4.1 29 34) - 1)).toNatClampNeg) v3, S4.2.1, S4.2.2)) (p2 := 209) (L2 := [.ref 29, .int (S.1 55 (((S.1 29 34) - 1)).toNatClampNeg), .int (S.1 56 (((S.1 29 34) - 1)).toNatClampNeg), .int v2, .int v3, .int v4]) (s2 := []) (h2 := hh (xa_u S4.1 56 ((((S4.1 29 34) - 1)).toNatClampNeg) v3, S4.2.1, S4.2.2)) 3 (fun n => B_131_18 n S v2 v3 v4 S4) c14 ?_
              rcases h15 : G_133 (xa_u S4.1 56 ((((S4.1 29 34) - 1)).toNatClampNeg) v3, S4.2.1, S4.2.2) (S.1 55 (((S.1 29 34) - 1)).toNatClampNeg) ((S.1 56 (((S.1 29 34) - 1)).toNatClampNeg) + 1) with _ | ⟨v15, S15⟩
              · rw [h15] at hG; cases hG
              rw [h15] at hG
              dsimp only at hG
              refine Ev.c (a := 133) (A := [.ref 29, .int (S.1 55 (((S.1 29 34) - 1)).toNatClampNeg), .int ((S.1 56 (((S.1 29 34) - 1)).toNatClampNeg) + 1), .retAddr 0, .retAddr 0, .retAddr 0, .retAddr 0]) (h1 := hh (xa_u S4.1 56 ((((S4.1 29 34) - 1)).toNatClampNeg) v3, S4.2.1, S4.2.2)) (pc' := 184) (L' := [.ref 29, .int (S.1 55 (((S.1 29 34) - 1)).toNatClampNeg), .int (S.1 56 (((S.1 29 34) - 1)).toNatClampNeg), .int v2, .int v3, .int v4]) (rest := []) (r1 := some (.int v15)) (h2 := hh S15) 6 (fun n => B_131_19 n S v2 v3 v4 S4) (Ev.up (by decide) (T_133 (xa_u S4.1 56 ((((S4.1 29 34) - 1)).toNatClampNeg) v3, S4.2.1, S4.2.2) (S.1 55 (((S.1 29 34) - 1)).toNatClampNeg) ((S.1 56 (((S.1 29 34) - 1)).toNatClampNeg) + 1) _ _ h15)) ?_
              show Ev X _ 131 184 [.ref 29, .int (S.1 55 (((S.1 29 34) - 1)).toNatClampNeg), .int (S.1 56 (((S.1 29 34) - 1)).toNatClampNeg), .int v2, .int v3, .int v4] [.int v15] (hh S15) _
              by_cases c16 : v15 = 0
              · rw [if_pos c16] at hG
                refine Ev.t (c := v15 = 0) (p1 := 187) (L1 := [.ref 29, .int (S.1 55 (((S.1 29 34) - 1)).toNatClampNeg), .int (S.1 56 (((S.1 29 34) - 1)).toNatClampNeg), .int v2, .int v3, .int v4]) (s1 := []) (h1 := hh S15) (p2 := 209) (L2 := [.ref 29, .int (S.1 55 (((S.1 29 34) - 1)).toNatClampNeg), .int (S.1 56 (((S.1 29 34) - 1)).toNatClampNeg), .int v2, .int v3, .int v4]) (s2 := []) (h2 := hh S15) 1 (fun n => B_131_20 n S v2 v3 v4 v15 S15) c16 ?_
                rcases h17 : G_128 S15 (S.1 55 (((S.1 29 34) - 1)).toNatClampNeg) (S.1 56 (((S.1 29 34) - 1)).toNatClampNeg) v3 with _ | ⟨v17, S17⟩
                · rw [h17] at hG; cases hG
                rw [h17] at hG
                dsimp only at hG
                refine Ev.c (a := 128) (A := [.ref 29, .int (S.1 55 (((S.1 29 34) - 1)).toNatClampNeg), .int (S.1 56 (((S.1 29 34) - 1)).toNatClampNeg), .int v3, .retAddr 0, .retAddr 0]) (h1 := hh S15) (pc' := 205) (L' := [.ref 29, .int (S.1 55 (((S.1 29 34) - 1)).toNatClampNeg), .int (S.1 56 (((S.1 29 34) - 1)).toNatClampNeg), .int v2, .int v3, .int v4]) (rest := [.int ((S15.1 29 34) - 1), .ref 56]) (r1 := some (.int v17)) (h2 := hh S17) 11 (fun n => B_131_21 n S v2 v3 v4 S15) (Ev.up (by decide) (T_128 S15 (S.1 55 (((S.1 29 34) - 1)).toNatClampNeg) (S.1 56 (((S.1 29 34) - 1)).toNatClampNeg) v3 _ _ h17)) ?_
                show Ev X _ 131 205 [.ref 29, .int (S.1 55 (((S.1 29 34) - 1)).toNatClampNeg), .int (S.1 56 (((S.1 29 34) - 1)).toNatClampNeg), .int v2, .int v3, .int v4] [.int v17, .int ((S15.1 29 34) - 1), .ref 56] (hh S17) _
                by_cases g18 : xa_in ((S15.1 29 34) - 1) 4
                rotate_left
                · rw [if_neg g18] at hG; cases hG
                rw [if_pos g18] at hG
                refine Ev.g (c := (kd 56).1 = 0 ∧ xa_in ((S15.1 29 34) - 1) (kd 56).2) (p1 := 206) (L1 := [.ref 29, .int (S.1 55 (((S.1 29 34) - 1)).toNatClampNeg), .int (S.1 56 (((S.1 29 34) - 1)).toNatClampNeg), .int v2, .int v3, .int v4]) (s1 := []) (h1 := hh (xa_u S17.1 56 ((((S15.1 29 34) - 1)).toNatClampNeg) v17, S17.2.1, S17.2.2)) 1 (fun n => B_131_22 n S v2 v3 v4 v17 S15 S17) (⟨rfl, g18⟩) ?_
                obtain ⟨e1, e2⟩ := Prod.mk.inj (Option.some.inj hG)
                subst e1
                subst e2
                exact Ev.r 3 (fun n => rfl)
              · rw [if_neg c16] at hG
                refine Ev.f (c := v15 = 0) (p1 := 187) (L1 := [.ref 29, .int (S.1 55 (((S.1 29 34) - 1)).toNatClampNeg), .int (S.1 56 (((S.1 29 34) - 1)).toNatClampNeg), .int v2, .int v3, .int v4]) (s1 := []) (h1 := hh S15) (p2 := 209) (L2 := [.ref 29, .int (S.1 55 (((S.1 29 34) - 1)).toNatClampNeg), .int (S.1 56 (((S.1 29 34) - 1)).toNatClampNeg), .int v2, .int v3, .int v4]) (s2 := []) (h2 := hh S15) 1 (fun n => B_131_23 n S v2 v3 v4 v15 S15) c16 ?_
                by_cases c19 : v2 = 18
                · rw [if_pos c19] at hG
                  refine Ev.t (c := v2 = 18) (p1 := 215) (L1 := [.ref 29, .int (S.1 55 (((S.1 29 34) - 1)).toNatClampNeg), .int (S.1 56 (((S.1 29 34) - 1)).toNatClampNeg), .int v2, .int v3, .int v4]) (s1 := []) (h1 := hh S15) (p2 := 222) (L2 := [.ref 29, .int (S.1 55 (((S.1 29 34) - 1)).toNatClampNeg), .int (S.1 56 (((S.1 29 34) - 1)).toNatClampNeg), .int v2, .int v3, .int v4]) (s2 := []) (h2 := hh S15) 3 (fun n => B_131_24 n S v2 v3 v4 S15) c19 ?_
                  rcases h20 : G_135 S15 with _ | ⟨v20, S20⟩
                  · rw [h20] at hG; cases hG
                  rw [h20] at hG
                  dsimp only at hG
                  refine Ev.c (a := 135) (A := [.ref 29, .retAddr 0, .retAddr 0]) (h1 := hh S15) (pc' := 219) (L' := [.ref 29, .int (S.1 55 (((S.1 29 34) - 1)).toNatClampNeg), .int (S.1 56 (((S.1 29 34) - 1)).toNatClampNeg), .int v2, .int v3, .int v4]) (rest := []) (r1 := none) (h2 := hh S20) 2 (fun n => B_131_25 n S v2 v3 v4 S15) (Ev.up (by decide) (T_135 S15  _ _ h20)) ?_
                  show Ev X _ 131 219 [.ref 29, .int (S.1 55 (((S.1 29 34) - 1)).toNatClampNeg), .int (S.1 56 (((S.1 29 34) - 1)).toNatClampNeg), .int v2, .int v3, .int v4] [] (hh S20) _
                  obtain ⟨e1, e2⟩ := Prod.mk.inj (Option.some.inj hG)
                  subst e1
                  subst e2
                  exact Ev.r 3 (fun n => rfl)
                · rw [if_neg c19] at hG
                  refine Ev.f (c := v2 = 18) (p1 := 215) (L1 := [.ref 29, .int (S.1 55 (((S.1 29 34) - 1)).toNatClampNeg), .int (S.1 56 (((S.1 29 34) - 1)).toNatClampNeg), .int v2, .int v3, .int v4]) (s1 := []) (h1 := hh S15) (p2 := 222) (L2 := [.ref 29, .int (S.1 55 (((S.1 29 34) - 1)).toNatClampNeg), .int (S.1 56 (((S.1 29 34) - 1)).toNatClampNeg), .int v2, .int v3, .int v4]) (s2 := []) (h2 := hh S15) 3 (fun n => B_131_26 n S v2 v3 v4 S15) c19 ?_
                  by_cases c21 : v2 ≤ 8
                  · rw [if_pos c21] at hG
                    refine Ev.t (c := v2 ≤ 8) (p1 := 234) (L1 := [.ref 29, .int (S.1 55 (((S.1 29 34) - 1)).toNatClampNeg), .int (S.1 56 (((S.1 29 34) - 1)).toNatClampNeg), .int v2, .int v3, .int v4]) (s1 := []) (h1 := hh S15) (p2 := 228) (L2 := [.ref 29, .int (S.1 55 (((S.1 29 34) - 1)).toNatClampNeg), .int (S.1 56 (((S.1 29 34) - 1)).toNatClampNeg), .int v2, .int v3, .int v4]) (s2 := []) (h2 := hh S15) 3 (fun n => B_131_27 n S v2 v3 v4 S15) c21 ?_
                    obtain ⟨e1, e2⟩ := Prod.mk.inj (Option.some.inj hG)
                    subst e1
                    subst e2
                    exact Ev.r 2 (fun n => rfl)
                  · rw [if_neg c21] at hG
                    refine Ev.f (c := v2 ≤ 8) (p1 := 234) (L1 := [.ref 29, .int (S.1 55 (((S.1 29 34) - 1)).toNatClampNeg), .int (S.1 56 (((S.1 29 34) - 1)).toNatClampNeg), .int v2, .int v3, .int v4]) (s1 := []) (h1 := hh S15) (p2 := 228) (L2 := [.ref 29, .int (S.1 55 (((S.1 29 34) - 1)).toNatClampNeg), .int (S.1 56 (((S.1 29 34) - 1)).toNatClampNeg), .int v2, .int v3, .int v4]) (s2 := []) (h2 := hh S15) 3 (fun n => B_131_28 n S v2 v3 v4 S15) c21 ?_
                    rcases h22 : G_143 S15 (S.1 55 (((S.1 29 34) - 1)).toNatClampNeg) (S.1 56 (((S.1 29 34) - 1)).toNatClampNeg) with _ | ⟨v22, S22⟩
                    · rw [h22] at hG; cases hG
                    rw [h22] at hG
                    dsimp only at hG
                    refine Ev.c (a := 143) (A := [.ref 29, .int (S.1 55 (((S.1 29 34) - 1)).toNatClampNeg), .int (S.1 56 (((S.1 29 34) - 1)).toNatClampNeg), .retAddr 0, .retAddr 0, .retAddr 0, .retAddr 0]) (h1 := hh S15) (pc' := 234) (L' := [.ref 29, .int (S.1 55 (((S.1 29 34) - 1)).toNatClampNeg), .int (S.1 56 (((S.1 29 34) - 1)).toNatClampNeg), .int v2, .int v3, .int v4]) (rest := []) (r1 := none) (h2 := hh S22) 4 (fun n => B_131_29 n S v2 v3 v4 S15) (Ev.up (by decide) (T_143 S15 (S.1 55 (((S.1 29 34) - 1)).toNatClampNeg) (S.1 56 (((S.1 29 34) - 1)).toNatClampNeg) _ _ h22)) ?_
                    show Ev X _ 131 234 [.ref 29, .int (S.1 55 (((S.1 29 34) - 1)).toNatClampNeg), .int (S.1 56 (((S.1 29 34) - 1)).toNatClampNeg), .int v2, .int v3, .int v4] [] (hh S22) _
                    obtain ⟨e1, e2⟩ := Prod.mk.inj (Option.some.inj hG)
                    subst e1
                    subst e2
                    exact Ev.r 2 (fun n => rfl)
            · rw [if_neg c14] at hG
              refine Ev.f (c := v2 = 8) (p1 := 176) (L1 := [.ref 29, .int (S.1 55 (((S.1 29 34) - 1)).toNatClampNeg), .int (S.1 56 (((S.1 29 34) - 1)).toNatClampNeg), .int v2, .int v3, .int v4]) (s1 := []) (h1 := hh (xa_u S4.1 56 ((((S4.1 29 34) - 1)).toNatClampNeg) v3, S4.2.1, S4.2.2)) (p2 := 209) (L2 := [.ref 29, .int (S.1 55 (((S.1 29 34) - 1)).toNatClampNeg), .int (S.1 56 (((S.1 29 34) - 1)).toNatClampNeg), .int v2, .int v3, .int v4]) (s2 := []) (h2 := hh (xa_u S4.1 56 ((((S4.1 29 34) - 1)).toNatClampNeg) v3, S4.2.1, S4.2.2)) 3 (fun n => B_131_30 n S v2 v3 v4 S4) c14 ?_
              by_cases c23 : v2 = 18
              · rw [if_pos c23] at hG
                refine Ev.t (c := v2 = 18) (p1 := 215) (L1 := [.ref 29, .int (S.1 55 (((S.1 29 34) - 1)).toNatClampNeg), .int (S.1 56 (((S.1 29 34) - 1)).toNatClampNeg), .int v2, .int v3, .int v4]) (s1 := []) (h1 := hh (xa_u S4.1 56 ((((S4.1 29 34) - 1)).toNatClampNeg) v3, S4.2.1, S4.2.2)) (p2 := 222) (L2 := [.ref 29, .int (S.1 55 (((S.1 29 34) - 1)).toNatClampNeg), .int (S.1 56 (((S.1 29 34) - 1)).toNatClampNeg), .int v2, .int v3, .int v4]) (s2 := []) (h2 := hh (xa_u S4.1 56 ((((S4.1 29 34) - 1)).toNatClampNeg) v3, S4.2.1, S4.2.2)) 3 (fun n => B_131_31 n S v2 v3 v4 S4) c23 ?_
                rcases h24 : G_135 (xa_u S4.1 56 ((((S4.1 29 34) - 1)).toNatClampNeg) v3, S4.2.1, S4.2.2) with _ | ⟨v24, S24⟩
                · rw [h24] at hG; cases hG
                rw [h24] at hG
                dsimp only at hG
                refine Ev.c (a := 135) (A := [.ref 29, .retAddr 0, .retAddr 0]) (h1 := hh (xa_u S4.1 56 ((((S4.1 29 34) - 1)).toNatClampNeg) v3, S4.2.1, S4.2.2)) (pc' := 219) (L' := [.ref 29, .int (S.1 55 (((S.1 29 34) - 1)).toNatClampNeg), .int (S.1 56 (((S.1 29 34) - 1)).toNatClampNeg), .int v2, .int v3, .int v4]) (rest := []) (r1 := none) (h2 := hh S24) 2 (fun n => B_131_32 n S v2 v3 v4 S4) (Ev.up (by decide) (T_135 (xa_u S4.1 56 ((((S4.1 29 34) - 1)).toNatClampNeg) v3, S4.2.1, S4.2.2)  _ _ h24)) ?_
                show Ev X _ 131 219 [.ref 29, .int (S.1 55 (((S.1 29 34) - 1)).toNatClampNeg), .int (S.1 56 (((S.1 29 34) - 1)).toNatClampNeg), .int v2, .int v3, .int v4] [] (hh S24) _
                obtain ⟨e1, e2⟩ := Prod.mk.inj (Option.some.inj hG)
                subst e1
                subst e2
                exact Ev.r 3 (fun n => rfl)
              · rw [if_neg c23] at hG
                refine Ev.f (c := v2 = 18) (p1 := 215) (L1 := [.ref 29, .int (S.1 55 (((S.1 29 34) - 1)).toNatClampNeg), .int (S.1 56 (((S.1 29 34) - 1)).toNatClampNeg), .int v2, .int v3, .int v4]) (s1 := []) (h1 := hh (xa_u S4.1 56 ((((S4.1 29 34) - 1)).toNatClampNeg) v3, S4.2.1, S4.2.2)) (p2 := 222) (L2 := [.ref 29, .int (S.1 55 (((S.1 29 34) - 1)).toNatClampNeg), .int (S.1 56 (((S.1 29 34) - 1)).toNatClampNeg), .int v2, .int v3, .int v4]) (s2 := []) (h2 := hh (xa_u S4.1 56 ((((S4.1 29 34) - 1)).toNatClampNeg) v3, S4.2.1, S4.2.2)) 3 (fun n => B_131_33 n S v2 v3 v4 S4) c23 ?_
                by_cases c25 : v2 ≤ 8
                · rw [if_pos c25] at hG
                  refine Ev.t (c := v2 ≤ 8) (p1 := 234) (L1 := [.ref 29, .int (S.1 55 (((S.1 29 34) - 1)).toNatClampNeg), .int (S.1 56 (((S.1 29 34) - 1)).toNatClampNeg), .int v2, .int v3, .int v4]) (s1 := []) (h1 := hh (xa_u S4.1 56 ((((S4.1 29 34) - 1)).toNatClampNeg) v3, S4.2.1, S4.2.2)) (p2 := 228) (L2 := [.ref 29, .int (S.1 55 (((S.1 29 34) - 1)).toNatClampNeg), .int (S.1 56 (((S.1 29 34) - 1)).toNatClampNeg), .int v2, .int v3, .int v4]) (s2 := []) (h2 := hh (xa_u S4.1 56 ((((S4.1 29 34) - 1)).toNatClampNeg) v3, S4.2.1, S4.2.2)) 3 (fun n => B_131_34 n S v2 v3 v4 S4) c25 ?_
                  obtain ⟨e1, e2⟩ := Prod.mk.inj (Option.some.inj hG)
                  subst e1
                  subst e2
                  exact Ev.r 2 (fun n => rfl)
                · rw [if_neg c25] at hG
                  refine Ev.f (c := v2 ≤ 8) (p1 := 234) (L1 := [.ref 29, .int (S.1 55 (((S.1 29 34) - 1)).toNatClampNeg), .int (S.1 56 (((S.1 29 34) - 1)).toNatClampNeg), .int v2, .int v3, .int v4]) (s1 := []) (h1 := hh (xa_u S4.1 56 ((((S4.1 29 34) - 1)).toNatClampNeg) v3, S4.2.1, S4.2.2)) (p2 := 228) (L2 := [.ref 29, .int (S.1 55 (((S.1 29 34) - 1)).toNatClampNeg), .int (S.1 56 (((S.1 29 34) - 1)).toNatClampNeg), .int v2, .int v3, .int v4]) (s2 := []) (h2 := hh (xa_u S4.1 56 ((((S4.1 29 34) - 1)).toNatClampNeg) v3, S4.2.1, S4.2.2)) 3 (fun n => B_131_35 n S v2 v3 v4 S4) c25 ?_
                  rcases h26 : G_143 (xa_u S4.1 56 ((((S4.1 29 34) - 1)).toNatClampNeg) v3, S4.2.1, S4.2.2) (S.1 55 (((S.1 29 34) - 1)).toNatClampNeg) (S.1 56 (((S.1 29 34) - 1)).toNatClampNeg) with _ | ⟨v26, S26⟩
                  · rw [h26] at hG; cases hG
                  rw [h26] at hG
                  dsimp only at hG
                  refine Ev.c (a := 143) (A := [.ref 29, .int (S.1 55 (((S.1 29 34) - 1)).toNatClampNeg), .int (S.1 56 (((S.1 29 34) - 1)).toNatClampNeg), .retAddr 0, .retAddr 0, .retAddr 0, .retAddr 0]) (h1 := hh (xa_u S4.1 56 ((((S4.1 29 34) - 1)).toNatClampNeg) v3, S4.2.1, S4.2.2)) (pc' := 234) (L' := [.ref 29, .int (S.1 55 (((S.1 29 34) - 1)).toNatClampNeg), .int (S.1 56 (((S.1 29 34) - 1)).toNatClampNeg), .int v2, .int v3, .int v4]) (rest := []) (r1 := none) (h2 := hh S26) 4 (fun n => B_131_36 n S v2 v3 v4 S4) (Ev.up (by decide) (T_143 (xa_u S4.1 56 ((((S4.1 29 34) - 1)).toNatClampNeg) v3, S4.2.1, S4.2.2) (S.1 55 (((S.1 29 34) - 1)).toNatClampNeg) (S.1 56 (((S.1 29 34) - 1)).toNatClampNeg) _ _ h26)) ?_
                  show Ev X _ 131 234 [.ref 29, .int (S.1 55 (((S.1 29 34) - 1)).toNatClampNeg), .int (S.1 56 (((S.1 29 34) - 1)).toNatClampNeg), .int v2, .int v3, .int v4] [] (hh S26) _
                  obtain ⟨e1, e2⟩ := Prod.mk.inj (Option.some.inj hG)
                  subst e1
                  subst e2
                  exact Ev.r 2 (fun n => rfl)
        · rw [if_neg c10] at hG
          refine Ev.f (c := ((xa_u S4.1 56 ((((S4.1 29 34) - 1)).toNatClampNeg) v3) 35 (v4).toNatClampNeg) = 0) (p1 := 164) (L1 := [.ref 29, .int (S.1 55 (((S.1 29 34) - 1)).toNatClampNeg), .int (S.1 56 (((S.1 29 34) - 1)).toNatClampNeg), .int v2, .int v3, .int v4]) (s1 := []) (h1 := hh (xa_u S4.1 56 ((((S4.1 29 34) - 1)).toNatClampNeg) v3, S4.2.1, S4.2.2)) (p2 := 119) (L2 := [.ref 29, .int (S.1 55 (((S.1 29 34) - 1)).toNatClampNeg), .int (S.1 56 (((S.1 29 34) - 1)).toNatClampNeg), .int v2, .int v3, .int v4]) (s2 := []) (h2 := hh (xa_u S4.1 56 ((((S4.1 29 34) - 1)).toNatClampNeg) v3, S4.2.1, S4.2.2)) 1 (fun n => B_131_37 n S v2 v3 v4 S4) c10 ?_
          by_cases c27 : ((xa_u S4.1 56 ((((S4.1 29 34) - 1)).toNatClampNeg) v3) 29 34) = 4
          · rw [if_pos c27] at hG
            refine Ev.t (c := ((xa_u S4.1 56 ((((S4.1 29 34) - 1)).toNatClampNeg) v3) 29 34) = 4) (p1 := 127) (L1 := [.ref 29, .int (S.1 55 (((S.1 29 34) - 1)).toNatClampNeg), .int (S.1 56 (((S.1 29 34) - 1)).toNatClampNeg), .int v2, .int v3, .int v4]) (s1 := []) (h1 := hh (xa_u S4.1 56 ((((S4.1 29 34) - 1)).toNatClampNeg) v3, S4.2.1, S4.2.2)) (p2 := 130) (L2 := [.ref 29, .int (S.1 55 (((S.1 29 34) - 1)).toNatClampNeg), .int (S.1 56 (((S.1 29 34) - 1)).toNatClampNeg), .int v2, .int v3, .int v4]) (s2 := []) (h2 := hh (xa_u S4.1 56 ((((S4.1 29 34) - 1)).toNatClampNeg) v3, S4.2.1, S4.2.2)) 4 (fun n => B_131_38 n S v2 v3 v4 S4) c27 ?_
            obtain ⟨e1, e2⟩ := Prod.mk.inj (Option.some.inj hG)
            subst e1
            subst e2
            exact Ev.r 2 (fun n => rfl)
          · rw [if_neg c27] at hG
            refine Ev.f (c := ((xa_u S4.1 56 ((((S4.1 29 34) - 1)).toNatClampNeg) v3) 29 34) = 4) (p1 := 127) (L1 := [.ref 29, .int (S.1 55 (((S.1 29 34) - 1)).toNatClampNeg), .int (S.1 56 (((S.1 29 34) - 1)).toNatClampNeg), .int v2, .int v3, .int v4]) (s1 := []) (h1 := hh (xa_u S4.1 56 ((((S4.1 29 34) - 1)).toNatClampNeg) v3, S4.2.1, S4.2.2)) (p2 := 130) (L2 := [.ref 29, .int (S.1 55 (((S.1 29 34) - 1)).toNatClampNeg), .int (S.1 56 (((S.1 29 34) - 1)).toNatClampNeg), .int v2, .int v3, .int v4]) (s2 := []) (h2 := hh (xa_u S4.1 56 ((((S4.1 29 34) - 1)).toNatClampNeg) v3, S4.2.1, S4.2.2)) 4 (fun n => B_131_39 n S v2 v3 v4 S4) c27 ?_
            by_cases g28 : xa_in ((xa_u S4.1 56 ((((S4.1 29 34) - 1)).toNatClampNeg) v3) 29 34) 4
            rotate_left
            · rw [if_neg g28] at hG; cases hG
            rw [if_pos g28] at hG
            refine Ev.g (c := (kd 55).1 = 0 ∧ xa_in ((xa_u S4.1 56 ((((S4.1 29 34) - 1)).toNatClampNeg) v3) 29 34) (kd 55).2) (p1 := 141) (L1 := [.ref 29, .int (S.1 55 (((S.1 29 34) - 1)).toNatClampNeg), .int (S.1 56 (((S.1 29 34) - 1)).toNatClampNeg), .int v2, .int v3, .int v4]) (s1 := []) (h1 := hh (xa_u (xa_u S4.1 56 ((((S4.1 29 34) - 1)).toNatClampNeg) v3) 55 ((((xa_u S4.1 56 ((((S4.1 29 34) - 1)).toNatClampNeg) v3) 29 34)).toNatClampNeg) v4, S4.2.1, S4.2.2)) 6 (fun n => B_131_40 n S v2 v3 v4 S4) (⟨rfl, g28⟩) ?_
            by_cases g29 : xa_in ((xa_u (xa_u S4.1 56 ((((S4.1 29 34) - 1)).toNatClampNeg) v3) 55 ((((xa_u S4.1 56 ((((S4.1 29 34) - 1)).toNatClampNeg) v3) 29 34)).toNatClampNeg) v4) 29 34) 4
            rotate_left
            · rw [if_neg g29] at hG; cases hG
            rw [if_pos g29] at hG
            refine Ev.g (c := (kd 56).1 = 0 ∧ xa_in ((xa_u (xa_u S4.1 56 ((((S4.1 29 34) - 1)).toNatClampNeg) v3) 55 ((((xa_u S4.1 56 ((((S4.1 29 34) - 1)).toNatClampNeg) v3) 29 34)).toNatClampNeg) v4) 29 34) (kd 56).2) (p1 := 151) (L1 := [.ref 29, .int (S.1 55 (((S.1 29 34) - 1)).toNatClampNeg), .int (S.1 56 (((S.1 29 34) - 1)).toNatClampNeg), .int v2, .int v3, .int v4]) (s1 := []) (h1 := hh (xa_u (xa_u (xa_u S4.1 56 ((((S4.1 29 34) - 1)).toNatClampNeg) v3) 55 ((((xa_u S4.1 56 ((((S4.1 29 34) - 1)).toNatClampNeg) v3) 29 34)).toNatClampNeg) v4) 56 ((((xa_u (xa_u S4.1 56 ((((S4.1 29 34) - 1)).toNatClampNeg) v3) 55 ((((xa_u S4.1 56 ((((S4.1 29 34) - 1)).toNatClampNeg) v3) 29 34)).toNatClampNeg) v4) 29 34)).toNatClampNeg) 0, S4.2.1, S4.2.2)) 6 (fun n => B_131_41 n S v2 v3 v4 S4) (⟨rfl, g29⟩) ?_
            refine Ev.g (c := (kd 29).1 = 10 + 8 ∧ (xf_k 8 34 = 0 ∨ (xf_k 8 34 = 1 ∧ ((((xa_u (xa_u (xa_u S4.1 56 ((((S4.1 29 34) - 1)).toNatClampNeg) v3) 55 ((((xa_u S4.1 56 ((((S4.1 29 34) - 1)).toNatClampNeg) v3) 29 34)).toNatClampNeg) v4) 56 ((((xa_u (xa_u S4.1 56 ((((S4.1 29 34) - 1)).toNatClampNeg) v3) 55 ((((xa_u S4.1 56 ((((S4.1 29 34) - 1)).toNatClampNeg) v3) 29 34)).toNatClampNeg) v4) 29 34)).toNatClampNeg) 0) 29 34) + 1) = 0 ∨ (((xa_u (xa_u (xa_u S4.1 56 ((((S4.1 29 34) - 1)).toNatClampNeg) v3) 55 ((((xa_u S4.1 56 ((((S4.1 29 34) - 1)).toNatClampNeg) v3) 29 34)).toNatClampNeg) v4) 56 ((((xa_u (xa_u S4.1 56 ((((S4.1 29 34) - 1)).toNatClampNeg) v3) 55 ((((xa_u S4.1 56 ((((S4.1 29 34) - 1)).toNatClampNeg) v3) 29 34)).toNatClampNeg) v4) 29 34)).toNatClampNeg) 0) 29 34) + 1) = 1)))) (p1 := 161) (L1 := [.ref 29, .int (S.1 55 (((S.1 29 34) - 1)).toNatClampNeg), .int (S.1 56 (((S.1 29 34) - 1)).toNatClampNeg), .int v2, .int v3, .int v4]) (s1 := []) (h1 := hh (xa_u (xa_u (xa_u (xa_u S4.1 56 ((((S4.1 29 34) - 1)).toNatClampNeg) v3) 55 ((((xa_u S4.1 56 ((((S4.1 29 34) - 1)).toNatClampNeg) v3) 29 34)).toNatClampNeg) v4) 56 ((((xa_u (xa_u S4.1 56 ((((S4.1 29 34) - 1)).toNatClampNeg) v3) 55 ((((xa_u S4.1 56 ((((S4.1 29 34) - 1)).toNatClampNeg) v3) 29 34)).toNatClampNeg) v4) 29 34)).toNatClampNeg) 0) 29 34 (((xa_u (xa_u (xa_u S4.1 56 ((((S4.1 29 34) - 1)).toNatClampNeg) v3) 55 ((((xa_u S4.1 56 ((((S4.1 29 34) - 1)).toNatClampNeg) v3) 29 34)).toNatClampNeg) v4) 56 ((((xa_u (xa_u S4.1 56 ((((S4.1 29 34) - 1)).toNatClampNeg) v3) 55 ((((xa_u S4.1 56 ((((S4.1 29 34) - 1)).toNatClampNeg) v3) 29 34)).toNatClampNeg) v4) 29 34)).toNatClampNeg) 0) 29 34) + 1), S4.2.1, S4.2.2)) 6 (fun n => B_131_42 n S v2 v3 v4 S4) (⟨rfl, Or.inl rfl⟩) ?_
            obtain ⟨e1, e2⟩ := Prod.mk.inj (Option.some.inj hG)
            subst e1
            subst e2
            exact Ev.r 3 (fun n => rfl)
      · rw [if_neg c8] at hG
        refine Ev.f (c := v2 = 6) (p1 := 109) (L1 := [.ref 29, .int (S.1 55 (((S.1 29 34) - 1)).toNatClampNeg), .int (S.1 56 (((S.1 29 34) - 1)).toNatClampNeg), .int v2, .int v3, .int v4]) (s1 := []) (h1 := hh (xa_u S4.1 56 ((((S4.1 29 34) - 1)).toNatClampNeg) v3, S4.2.1, S4.2.2)) (p2 := 164) (L2 := [.ref 29, .int (S.1 55 (((S.1 29 34) - 1)).toNatClampNeg), .int (S.1 56 (((S.1 29 34) - 1)).toNatClampNeg), .int v2, .int v3, .int v4]) (s2 := []) (h2 := hh (xa_u S4.1 56 ((((S4.1 29 34) - 1)).toNatClampNeg) v3, S4.2.1, S4.2.2)) 3 (fun n => B_131_43 n S v2 v3 v4 S4) c8 ?_
        by_cases c30 : v2 = 7
        · rw [if_pos c30] at hG
          refine Ev.t (c := v2 = 7) (p1 := 187) (L1 := [.ref 29, .int (S.1 55 (((S.1 29 34) - 1)).toNatClampNeg), .int (S.1 56 (((S.1 29 34) - 1)).toNatClampNeg), .int v2, .int v3, .int v4]) (s1 := []) (h1 := hh (xa_u S4.1 56 ((((S4.1 29 34) - 1)).toNatClampNeg) v3, S4.2.1, S4.2.2)) (p2 := 170) (L2 := [.ref 29, .int (S.1 55 (((S.1 29 34) - 1)).toNatClampNeg), .int (S.1 56 (((S.1 29 34) - 1)).toNatClampNeg), .int v2, .int v3, .int v4]) (s2 := []) (h2 := hh (xa_u S4.1 56 ((((S4.1 29 34) - 1)).toNatClampNeg) v3, S4.2.1, S4.2.2)) 3 (fun n => B_131_44 n S v2 v3 v4 S4) c30 ?_
          rcases h31 : G_128 (xa_u S4.1 56 ((((S4.1 29 34) - 1)).toNatClampNeg) v3, S4.2.1, S4.2.2) (S.1 55 (((S.1 29 34) - 1)).toNatClampNeg) (S.1 56 (((S.1 29 34) - 1)).toNatClampNeg) v3 with _ | ⟨v31, S31⟩
          · rw [h31] at hG; cases hG
          rw [h31] at hG
          dsimp only at hG
          refine Ev.c (a := 128) (A := [.ref 29, .int (S.1 55 (((S.1 29 34) - 1)).toNatClampNeg), .int (S.1 56 (((S.1 29 34) - 1)).toNatClampNeg), .int v3, .retAddr 0, .retAddr 0]) (h1 := hh (xa_u S4.1 56 ((((S4.1 29 34) - 1)).toNatClampNeg) v3, S4.2.1, S4.2.2)) (pc' := 205) (L' := [.ref 29, .int (S.1 55 (((S.1 29 34) - 1)).toNatClampNeg), .int (S.1 56 (((S.1 29 34) - 1)).toNatClampNeg), .int v2, .int v3, .int v4]) (rest := [.int (((xa_u S4.1 56 ((((S4.1 29 34) - 1)).toNatClampNeg) v3) 29 34) - 1), .ref 56]) (r1 := some (.int v31)) (h2 := hh S31) 11 (fun n => B_131_45 n S v2 v3 v4 S4) (Ev.up (by decide) (T_128 (xa_u S4.1 56 ((((S4.1 29 34) - 1)).toNatClampNeg) v3, S4.2.1, S4.2.2) (S.1 55 (((S.1 29 34) - 1)).toNatClampNeg) (S.1 56 (((S.1 29 34) - 1)).toNatClampNeg) v3 _ _ h31)) ?_
          show Ev X _ 131 205 [.ref 29, .int (S.1 55 (((S.1 29 34) - 1)).toNatClampNeg), .int (S.1 56 (((S.1 29 34) - 1)).toNatClampNeg), .int v2, .int v3, .int v4] [.int v31, .int (((xa_u S4.1 56 ((((S4.1 29 34) - 1)).toNatClampNeg) v3) 29 34) - 1), .ref 56] (hh S31) _
          by_cases g32 : xa_in (((xa_u S4.1 56 ((((S4.1 29 34) - 1)).toNatClampNeg) v3) 29 34) - 1) 4
          rotate_left
          · rw [if_neg g32] at hG; cases hG
          rw [if_pos g32] at hG
          refine Ev.g (c := (kd 56).1 = 0 ∧ xa_in (((xa_u S4.1 56 ((((S4.1 29 34) - 1)).toNatClampNeg) v3) 29 34) - 1) (kd 56).2) (p1 := 206) (L1 := [.ref 29, .int (S.1 55 (((S.1 29 34) - 1)).toNatClampNeg), .int (S.1 56 (((S.1 29 34) - 1)).toNatClampNeg), .int v2, .int v3, .int v4]) (s1 := []) (h1 := hh (xa_u S31.1 56 (((((xa_u S4.1 56 ((((S4.1 29 34) - 1)).toNatClampNeg) v3) 29 34) - 1)).toNatClampNeg) v31, S31.2.1, S31.2.2)) 1 (fun n => B_131_46 n S v2 v3 v4 v31 S4 S31) (⟨rfl, g32⟩) ?_
          obtain ⟨e1, e2⟩ := Prod.mk.inj (Option.some.inj hG)
          subst e1
          subst e2
          exact Ev.r 3 (fun n => rfl)
        · rw [if_neg c30] at hG
          refine Ev.f (c := v2 = 7) (p1 := 187) (L1 := [.ref 29, .int (S.1 55 (((S.1 29 34) - 1)).toNatClampNeg), .int (S.1 56 (((S.1 29 34) - 1)).toNatClampNeg), .int v2, .int v3, .int v4]) (s1 := []) (h1 := hh (xa_u S4.1 56 ((((S4.1 29 34) - 1)).toNatClampNeg) v3, S4.2.1, S4.2.2)) (p2 := 170) (L2 := [.ref 29, .int (S.1 55 (((S.1 29 34) - 1)).toNatClampNeg), .int (S.1 56 (((S.1 29 34) - 1)).toNatClampNeg), .int v2, .int v3, .int v4]) (s2 := []) (h2 := hh (xa_u S4.1 56 ((((S4.1 29 34) - 1)).toNatClampNeg) v3, S4.2.1, S4.2.2)) 3 (fun n => B_131_47 n S v2 v3 v4 S4) c30 ?_
          by_cases c33 : v2 = 8
          · rw [if_pos c33] at hG
            refine Ev.t (c := v2 = 8) (p1 := 176) (L1 := [.ref 29, .int (S.1 55 (((S.1 29 34) - 1)).toNatClampNeg), .int (S.1 56 (((S.1 29 34) - 1)).toNatClampNeg), .int v2, .int v3, .int v4]) (s1 := []) (h1 := hh (xa_u S4.1 56 ((((S4.1 29 34) - 1)).toNatClampNeg) v3, S4.2.1, S4.2.2)) (p2 := 209) (L2 := [.ref 29, .int (S.1 55 (((S.1 29 34) - 1)).toNatClampNeg), .int (S.1 56 (((S.1 29 34) - 1)).toNatClampNeg), .int v2, .int v3, .int v4]) (s2 := []) (h2 := hh (xa_u S4.1 56 ((((S4.1 29 34) - 1)).toNatClampNeg) v3, S4.2.1, S4.2.2)) 3 (fun n => B_131_48 n S v2 v3 v4 S4) c33 ?_
            rcases h34 : G_133 (xa_u S4.1 56 ((((S4.1 29 34) - 1)).toNatClampNeg) v3, S4.2.1, S4.2.2) (S.1 55 (((S.1 29 34) - 1)).toNatClampNeg) ((S.1 56 (((S.1 29 34) - 1)).toNatClampNeg) + 1) with _ | ⟨v34, S34⟩
            · rw [h34] at hG; cases hG
            rw [h34] at hG
            dsimp only at hG
            refine Ev.c (a := 133) (A := [.ref 29, .int (S.1 55 (((S.1 29 34) - 1)).toNatClampNeg), .int ((S.1 56 (((S.1 29 34) - 1)).toNatClampNeg) + 1), .retAddr 0, .retAddr 0, .retAddr 0, .retAddr 0]) (h1 := hh (xa_u S4.1 56 ((((S4.1 29 34) - 1)).toNatClampNeg) v3, S4.2.1, S4.2.2)) (pc' := 184) (L' := [.ref 29, .int (S.1 55 (((S.1 29 34) - 1)).toNatClampNeg), .int (S.1 56 (((S.1 29 34) - 1)).toNatClampNeg), .int v2, .int v3, .int v4]) (rest := []) (r1 := some (.int v34)) (h2 := hh S34) 6 (fun n => B_131_49 n S v2 v3 v4 S4) (Ev.up (by decide) (T_133 (xa_u S4.1 56 ((((S4.1 29 34) - 1)).toNatClampNeg) v3, S4.2.1, S4.2.2) (S.1 55 (((S.1 29 34) - 1)).toNatClampNeg) ((S.1 56 (((S.1 29 34) - 1)).toNatClampNeg) + 1) _ _ h34)) ?_
            show Ev X _ 131 184 [.ref 29, .int (S.1 55 (((S.1 29 34) - 1)).toNatClampNeg), .int (S.1 56 (((S.1 29 34) - 1)).toNatClampNeg), .int v2, .int v3, .int v4] [.int v34] (hh S34) _
            by_cases c35 : v34 = 0
            · rw [if_pos c35] at hG
              refine Ev.t (c := v34 = 0) (p1 := 187) (L1 := [.ref 29, .int (S.1 55 (((S.1 29 34) - 1)).toNatClampNeg), .int (S.1 56 (((S.1 29 34) - 1)).toNatClampNeg), .int v2, .int v3, .int v4]) (s1 := []) (h1 := hh S34) (p2 := 209) (L2 := [.ref 29, .int (S.1 55 (((S.1 29 34) - 1)).toNatClampNeg), .int (S.1 56 (((S.1 29 34) - 1)).toNatClampNeg), .int v2, .int v3, .int v4]) (s2 := []) (h2 := hh S34) 1 (fun n => B_131_50 n S v2 v3 v4 v34 S34) c35 ?_
              rcases h36 : G_128 S34 (S.1 55 (((S.1 29 34) - 1)).toNatClampNeg) (S.1 56 (((S.1 29 34) - 1)).toNatClampNeg) v3 with _ | ⟨v36, S36⟩
              · rw [h36] at hG; cases hG
              rw [h36] at hG
              dsimp only at hG
              refine Ev.c (a := 128) (A := [.ref 29, .int (S.1 55 (((S.1 29 34) - 1)).toNatClampNeg), .int (S.1 56 (((S.1 29 34) - 1)).toNatClampNeg), .int v3, .retAddr 0, .retAddr 0]) (h1 := hh S34) (pc' := 205) (L' := [.ref 29, .int (S.1 55 (((S.1 29 34) - 1)).toNatClampNeg), .int (S.1 56 (((S.1 29 34) - 1)).toNatClampNeg), .int v2, .int v3, .int v4]) (rest := [.int ((S34.1 29 34) - 1), .ref 56]) (r1 := some (.int v36)) (h2 := hh S36) 11 (fun n => B_131_51 n S v2 v3 v4 S34) (Ev.up (by decide) (T_128 S34 (S.1 55 (((S.1 29 34) - 1)).toNatClampNeg) (S.1 56 (((S.1 29 34) - 1)).toNatClampNeg) v3 _ _ h36)) ?_
              show Ev X _ 131 205 [.ref 29, .int (S.1 55 (((S.1 29 34) - 1)).toNatClampNeg), .int (S.1 56 (((S.1 29 34) - 1)).toNatClampNeg), .int v2, .int v3, .int v4] [.int v36, .int ((S34.1 29 34) - 1), .ref 56] (hh S36) _
              by_cases g37 : xa_in ((S34.1 29 34) - 1) 4
              rotate_left
              · rw [if_neg g37] at hG; cases hG
              rw [if_pos g37] at hG
              refine Ev.g (c := (kd 56).1 = 0 ∧ xa_in ((S34.1 29 34) - 1) (kd 56).2) (p1 := 206) (L1 := [.ref 29, .int (S.1 55 (((S.1 29 34) - 1)).toNatClampNeg), .int (S.1 56 (((S.1 29 34) - 1)).toNatClampNeg), .int v2, .int v3, .int v4]) (s1 := []) (h1 := hh (xa_u S36.1 56 ((((S34.1 29 34) - 1)).toNatClampNeg) v36, S36.2.1, S36.2.2)) 1 (fun n => B_131_52 n S v2 v3 v4 v36 S34 S36) (⟨rfl, g37⟩) ?_
              obtain ⟨e1, e2⟩ := Prod.mk.inj (Option.some.inj hG)
              subst e1
              subst e2
              exact Ev.r 3 (fun n => rfl)
            · rw [if_neg c35] at hG
              refine Ev.f (c := v34 = 0) (p1 := 187) (L1 := [.ref 29, .int (S.1 55 (((S.1 29 34) - 1)).toNatClampNeg), .int (S.1 56 (((S.1 29 34) - 1)).toNatClampNeg), .int v2, .int v3, .int v4]) (s1 := []) (h1 := hh S34) (p2 := 209) (L2 := [.ref 29, .int (S.1 55 (((S.1 29 34) - 1)).toNatClampNeg), .int (S.1 56 (((S.1 29 34) - 1)).toNatClampNeg), .int v2, .int v3, .int v4]) (s2 := []) (h2 := hh S34) 1 (fun n => B_131_53 n S v2 v3 v4 v34 S34) c35 ?_
              by_cases c38 : v2 = 18
              · rw [if_pos c38] at hG
                refine Ev.t (c := v2 = 18) (p1 := 215) (L1 := [.ref 29, .int (S.1 55 (((S.1 29 34) - 1)).toNatClampNeg), .int (S.1 56 (((S.1 29 34) - 1)).toNatClampNeg), .int v2, .int v3, .int v4]) (s1 := []) (h1 := hh S34) (p2 := 222) (L2 := [.ref 29, .int (S.1 55 (((S.1 29 34) - 1)).toNatClampNeg), .int (S.1 56 (((S.1 29 34) - 1)).toNatClampNeg), .int v2, .int v3, .int v4]) (s2 := []) (h2 := hh S34) 3 (fun n => B_131_54 n S v2 v3 v4 S34) c38 ?_
                rcases h39 : G_135 S34 with _ | ⟨v39, S39⟩
                · rw [h39] at hG; cases hG
                rw [h39] at hG
                dsimp only at hG
                refine Ev.c (a := 135) (A := [.ref 29, .retAddr 0, .retAddr 0]) (h1 := hh S34) (pc' := 219) (L' := [.ref 29, .int (S.1 55 (((S.1 29 34) - 1)).toNatClampNeg), .int (S.1 56 (((S.1 29 34) - 1)).toNatClampNeg), .int v2, .int v3, .int v4]) (rest := []) (r1 := none) (h2 := hh S39) 2 (fun n => B_131_55 n S v2 v3 v4 S34) (Ev.up (by decide) (T_135 S34  _ _ h39)) ?_
                show Ev X _ 131 219 [.ref 29, .int (S.1 55 (((S.1 29 34) - 1)).toNatClampNeg), .int (S.1 56 (((S.1 29 34) - 1)).toNatClampNeg), .int v2, .int v3, .int v4] [] (hh S39) _
                obtain ⟨e1, e2⟩ := Prod.mk.inj (Option.some.inj hG)
                subst e1
                subst e2
                exact Ev.r 3 (fun n => rfl)
              · rw [if_neg c38] at hG
                refine Ev.f (c := v2 = 18) (p1 := 215) (L1 := [.ref 29, .int (S.1 55 (((S.1 29 34) - 1)).toNatClampNeg), .int (S.1 56 (((S.1 29 34) - 1)).toNatClampNeg), .int v2, .int v3, .int v4]) (s1 := []) (h1 := hh S34) (p2 := 222) (L2 := [.ref 29, .int (S.1 55 (((S.1 29 34) - 1)).toNatClampNeg), .int (S.1 56 (((S.1 29 34) - 1)).toNatClampNeg), .int v2, .int v3, .int v4]) (s2 := []) (h2 := hh S34) 3 (fun n => B_131_56 n S v2 v3 v4 S34) c38 ?_
                by_cases c40 : v2 ≤ 8
                · rw [if_pos c40] at hG
                  refine Ev.t (c := v2 ≤ 8) (p1 := 234) (L1 := [.ref 29, .int (S.1 55 (((S.1 29 34) - 1)).toNatClampNeg), .int (S.1 56 (((S.1 29 34) - 1)).toNatClampNeg), .int v2, .int v3, .int v4]) (s1 := []) (h1 := hh S34) (p2 := 228) (L2 := [.ref 29, .int (S.1 55 (((S.1 29 34) - 1)).toNatClampNeg), .int (S.1 56 (((S.1 29 34) - 1)).toNatClampNeg), .int v2, .int v3, .int v4]) (s2 := []) (h2 := hh S34) 3 (fun n => B_131_57 n S v2 v3 v4 S34) c40 ?_
                  obtain ⟨e1, e2⟩ := Prod.mk.inj (Option.some.inj hG)
                  subst e1
                  subst e2
                  exact Ev.r 2 (fun n => rfl)
                · rw [if_neg c40] at hG
                  refine Ev.f (c := v2 ≤ 8) (p1 := 234) (L1 := [.ref 29, .int (S.1 55 (((S.1 29 34) - 1)).toNatClampNeg), .int (S.1 56 (((S.1 29 34) - 1)).toNatClampNeg), .int v2, .int v3, .int v4]) (s1 := []) (h1 := hh S34) (p2 := 228) (L2 := [.ref 29, .int (S.1 55 (((S.1 29 34) - 1)).toNatClampNeg), .int (S.1 56 (((S.1 29 34) - 1)).toNatClampNeg), .int v2, .int v3, .int v4]) (s2 := []) (h2 := hh S34) 3 (fun n => B_131_58 n S v2 v3 v4 S34) c40 ?_
                  rcases h41 : G_143 S34 (S.1 55 (((S.1 29 34) - 1)).toNatClampNeg) (S.1 56 (((S.1 29 34) - 1)).toNatClampNeg) with _ | ⟨v41, S41⟩
                  · rw [h41] at hG; cases hG
                  rw [h41] at hG
                  dsimp only at hG
                  refine Ev.c (a := 143) (A := [.ref 29, .int (S.1 55 (((S.1 29 34) - 1)).toNatClampNeg), .int (S.1 56 (((S.1 29 34) - 1)).toNatClampNeg), .retAddr 0, .retAddr 0, .retAddr 0, .retAddr 0]) (h1 := hh S34) (pc' := 234) (L' := [.ref 29, .int (S.1 55 (((S.1 29 34) - 1)).toNatClampNeg), .int (S.1 56 (((S.1 29 34) - 1)).toNatClampNeg), .int v2, .int v3, .int v4]) (rest := []) (r1 := none) (h2 := hh S41) 4 (fun n => B_131_59 n S v2 v3 v4 S34) (Ev.up (by decide) (T_143 S34 (S.1 55 (((S.1 29 34) - 1)).toNatClampNeg) (S.1 56 (((S.1 29 34) - 1)).toNatClampNeg) _ _ h41)) ?_
                  show Ev X _ 131 234 [.ref 29, .int (S.1 55 (((S.1 29 34) - 1)).toNatClampNeg), .int (S.1 56 (((S.1 29 34) - 1)).toNatClampNeg), .int v2, .int v3, .int v4] [] (hh S41) _
                  obtain ⟨e1, e2⟩ := Prod.mk.inj (Option.some.inj hG)
                  subst e1
                  subst e2
                  exact Ev.r 2 (fun n => rfl)
          · rw [if_neg c33] at hG
            refine Ev.f (c := v2 = 8) (p1 := 176) (L1 := [.ref 29, .int (S.1 55 (((S.1 29 34) - 1)).toNatClampNeg), .int (S.1 56 (((S.1 29 34) - 1)).toNatClampNeg), .int v2, .int v3, .int v4]) (s1 := []) (h1 := hh (xa_u S4.1 56 ((((S4.1 29 34) - 1)).toNatClampNeg) v3, S4.2.1, S4.2.2)) (p2 := 209) (L2 := [.ref 29, .int (S.1 55 (((S.1 29 34) - 1)).toNatClampNeg), .int (S.1 56 (((S.1 29 34) - 1)).toNatClampNeg), .int v2, .int v3, .int v4]) (s2 := []) (h2 := hh (xa_u S4.1 56 ((((S4.1 29 34) - 1)).toNatClampNeg) v3, S4.2.1, S4.2.2)) 3 (fun n => B_131_60 n S v2 v3 v4 S4) c33 ?_
            by_cases c42 : v2 = 18
            · rw [if_pos c42] at hG
              refine Ev.t (c := v2 = 18) (p1 := 215) (L1 := [.ref 29, .int (S.1 55 (((S.1 29 34) - 1)).toNatClampNeg), .int (S.1 56 (((S.1 29 34) - 1)).toNatClampNeg), .int v2, .int v3, .int v4]) (s1 := []) (h1 := hh (xa_u S4.1 56 ((((S4.1 29 34) - 1)).toNatClampNeg) v3, S4.2.1, S4.2.2)) (p2 := 222) (L2 := [.ref 29, .int (S.1 55 (((S.1 29 34) - 1)).toNatClampNeg), .int (S.1 56 (((S.1 29 34) - 1)).toNatClampNeg), .int v2, .int v3, .int v4]) (s2 := []) (h2 := hh (xa_u S4.1 56 ((((S4.1 29 34) - 1)).toNatClampNeg) v3, S4.2.1, S4.2.2)) 3 (fun n => B_131_61 n S v2 v3 v4 S4) c42 ?_
              rcases h43 : G_135 (xa_u S4.1 56 ((((S4.1 29 34) - 1)).toNatClampNeg) v3, S4.2.1, S4.2.2) with _ | ⟨v43, S43⟩
              · rw [h43] at hG; cases hG
              rw [h43] at hG
              dsimp only at hG
              refine Ev.c (a := 135) (A := [.ref 29, .retAddr 0, .retAddr 0]) (h1 := hh (xa_u S4.1 56 ((((S4.1 29 34) - 1)).toNatClampNeg) v3, S4.2.1, S4.2.2)) (pc' := 219) (L' := [.ref 29, .int (S.1 55 (((S.1 29 34) - 1)).toNatClampNeg), .int (S.1 56 (((S.1 29 34) - 1)).toNatClampNeg), .int v2, .int v3, .int v4]) (rest := []) (r1 := none) (h2 := hh S43) 2 (fun n => B_131_62 n S v2 v3 v4 S4) (Ev.up (by decide) (T_135 (xa_u S4.1 56 ((((S4.1 29 34) - 1)).toNatClampNeg) v3, S4.2.1, S4.2.2)  _ _ h43)) ?_
              show Ev X _ 131 219 [.ref 29, .int (S.1 55 (((S.1 29 34) - 1)).toNatClampNeg), .int (S.1 56 (((S.1 29 34) - 1)).toNatClampNeg), .int v2, .int v3, .int v4] [] (hh S43) _
              obtain ⟨e1, e2⟩ := Prod.mk.inj (Option.some.inj hG)
              subst e1
              subst e2
              exact Ev.r 3 (fun n => rfl)
            · rw [if_neg c42] at hG
              refine Ev.f (c := v2 = 18) (p1 := 215) (L1 := [.ref 29, .int (S.1 55 (((S.1 29 34) - 1)).toNatClampNeg), .int (S.1 56 (((S.1 29 34) - 1)).toNatClampNeg), .int v2, .int v3, .int v4]) (s1 := []) (h1 := hh (xa_u S4.1 56 ((((S4.1 29 34) - 1)).toNatClampNeg) v3, S4.2.1, S4.2.2)) (p2 := 222) (L2 := [.ref 29, .int (S.1 55 (((S.1 29 34) - 1)).toNatClampNeg), .int (S.1 56 (((S.1 29 34) - 1)).toNatClampNeg), .int v2, .int v3, .int v4]) (s2 := []) (h2 := hh (xa_u S4.1 56 ((((S4.1 29 34) - 1)).toNatClampNeg) v3, S4.2.1, S4.2.2)) 3 (fun n => B_131_63 n S v2 v3 v4 S4) c42 ?_
              by_cases c44 : v2 ≤ 8
              · rw [if_pos c44] at hG
                refine Ev.t (c := v2 ≤ 8) (p1 := 234) (L1 := [.ref 29, .int (S.1 55 (((S.1 29 34) - 1)).toNatClampNeg), .int (S.1 56 (((S.1 29 34) - 1)).toNatClampNeg), .int v2, .int v3, .int v4]) (s1 := []) (h1 := hh (xa_u S4.1 56 ((((S4.1 29 34) - 1)).toNatClampNeg) v3, S4.2.1, S4.2.2)) (p2 := 228) (L2 := [.ref 29, .int (S.1 55 (((S.1 29 34) - 1)).toNatClampNeg), .int (S.1 56 (((S.1 29 34) - 1)).toNatClampNeg), .int v2, .int v3, .int v4]) (s2 := []) (h2 := hh (xa_u S4.1 56 ((((S4.1 29 34) - 1)).toNatClampNeg) v3, S4.2.1, S4.2.2)) 3 (fun n => B_131_64 n S v2 v3 v4 S4) c44 ?_
                obtain ⟨e1, e2⟩ := Prod.mk.inj (Option.some.inj hG)
                subst e1
                subst e2
                exact Ev.r 2 (fun n => rfl)
              · rw [if_neg c44] at hG
                refine Ev.f (c := v2 ≤ 8) (p1 := 234) (L1 := [.ref 29, .int (S.1 55 (((S.1 29 34) - 1)).toNatClampNeg), .int (S.1 56 (((S.1 29 34) - 1)).toNatClampNeg), .int v2, .int v3, .int v4]) (s1 := []) (h1 := hh (xa_u S4.1 56 ((((S4.1 29 34) - 1)).toNatClampNeg) v3, S4.2.1, S4.2.2)) (p2 := 228) (L2 := [.ref 29, .int (S.1 55 (((S.1 29 34) - 1)).toNatClampNeg), .int (S.1 56 (((S.1 29 34) - 1)).toNatClampNeg), .int v2, .int v3, .int v4]) (s2 := []) (h2 := hh (xa_u S4.1 56 ((((S4.1 29 34) - 1)).toNatClampNeg) v3, S4.2.1, S4.2.2)) 3 (fun n => B_131_65 n S v2 v3 v4 S4) c44 ?_
                rcases h45 : G_143 (xa_u S4.1 56 ((((S4.1 29 34) - 1)).toNatClampNeg) v3, S4.2.1, S4.2.2) (S.1 55 (((S.1 29 34) - 1)).toNatClampNeg) (S.1 56 (((S.1 29 34) - 1)).toNatClampNeg) with _ | ⟨v45, S45⟩
                · rw [h45] at hG; cases hG
                rw [h45] at hG
                dsimp only at hG
                refine Ev.c (a := 143) (A := [.ref 29, .int (S.1 55 (((S.1 29 34) - 1)).toNatClampNeg), .int (S.1 56 (((S.1 29 34) - 1)).toNatClampNeg), .retAddr 0, .retAddr 0, .retAddr 0, .retAddr 0]) (h1 := hh (xa_u S4.1 56 ((((S4.1 29 34) - 1)).toNatClampNeg) v3, S4.2.1, S4.2.2)) (pc' := 234) (L' := [.ref 29, .int (S.1 55 (((S.1 29 34) - 1)).toNatClampNeg), .int (S.1 56 (((S.1 29 34) - 1)).toNatClampNeg), .int v2, .int v3, .int v4]) (rest := []) (r1 := none) (h2 := hh S45) 4 (fun n => B_131_66 n S v2 v3 v4 S4) (Ev.up (by decide) (T_143 (xa_u S4.1 56 ((((S4.1 29 34) - 1)).toNatClampNeg) v3, S4.2.1, S4.2.2) (S.1 55 (((S.1 29 34) - 1)).toNatClampNeg) (S.1 56 (((S.1 29 34) - 1)).toNatClampNeg) _ _ h45)) ?_
                show Ev X _ 131 234 [.ref 29, .int (S.1 55 (((S.1 29 34) - 1)).toNatClampNeg), .int (S.1 56 (((S.1 29 34) - 1)).toNatClampNeg), .int v2, .int v3, .int v4] [] (hh S45) _
                obtain ⟨e1, e2⟩ := Prod.mk.inj (Option.some.inj hG)
                subst e1
                subst e2
                exact Ev.r 2 (fun n => rfl)
    · rw [if_neg c7] at hG
      refine Ev.f (c := 6 ≤ v2) (p1 := 103) (L1 := [.ref 29, .int (S.1 55 (((S.1 29 34) - 1)).toNatClampNeg), .int (S.1 56 (((S.1 29 34) - 1)).toNatClampNeg), .int v2, .int v3, .int v4]) (s1 := []) (h1 := hh (xa_u S4.1 56 ((((S4.1 29 34) - 1)).toNatClampNeg) v3, S4.2.1, S4.2.2)) (p2 := 85) (L2 := [.ref 29, .int (S.1 55 (((S.1 29 34) - 1)).toNatClampNeg), .int (S.1 56 (((S.1 29 34) - 1)).toNatClampNeg), .int v2, .int v3, .int v4]) (s2 := []) (h2 := hh (xa_u S4.1 56 ((((S4.1 29 34) - 1)).toNatClampNeg) v3, S4.2.1, S4.2.2)) 3 (fun n => B_131_67 n S v2 v3 v4 S4) c7 ?_
      rcases h46 : G_118 (xa_u S4.1 56 ((((S4.1 29 34) - 1)).toNatClampNeg) v3, S4.2.1, S4.2.2) (S.1 55 (((S.1 29 34) - 1)).toNatClampNeg) ((S.1 56 (((S.1 29 34) - 1)).toNatClampNeg) + 2) with _ | ⟨v46, S46⟩
      · rw [h46] at hG; cases hG
      rw [h46] at hG
      dsimp only at hG
      refine Ev.c (a := 118) (A := [.ref 29, .int (S.1 55 (((S.1 29 34) - 1)).toNatClampNeg), .int ((S.1 56 (((S.1 29 34) - 1)).toNatClampNeg) + 2)]) (h1 := hh (xa_u S4.1 56 ((((S4.1 29 34) - 1)).toNatClampNeg) v3, S4.2.1, S4.2.2)) (pc' := 97) (L' := [.ref 29, .int (S.1 55 (((S.1 29 34) - 1)).toNatClampNeg), .int (S.1 56 (((S.1 29 34) - 1)).toNatClampNeg), .int v2, .int v3, .int v4]) (rest := [.int v4, .int v2, .ref 29]) (r1 := some (.int v46)) (h2 := hh S46) 9 (fun n => B_131_68 n S v2 v3 v4 S4) (Ev.up (by decide) (T_118 (xa_u S4.1 56 ((((S4.1 29 34) - 1)).toNatClampNeg) v3, S4.2.1, S4.2.2) (S.1 55 (((S.1 29 34) - 1)).toNatClampNeg) ((S.1 56 (((S.1 29 34) - 1)).toNatClampNeg) + 2) _ _ h46)) ?_
      show Ev X _ 131 97 [.ref 29, .int (S.1 55 (((S.1 29 34) - 1)).toNatClampNeg), .int (S.1 56 (((S.1 29 34) - 1)).toNatClampNeg), .int v2, .int v3, .int v4] [.int v46, .int v4, .int v2, .ref 29] (hh S46) _
      rcases h47 : G_132 S46 v2 v4 v46 with _ | ⟨v47, S47⟩
      · rw [h47] at hG; cases hG
      rw [h47] at hG
      dsimp only at hG
      refine Ev.c (a := 132) (A := [.ref 29, .int v2, .int v4, .int v46]) (h1 := hh S46) (pc' := 100) (L' := [.ref 29, .int (S.1 55 (((S.1 29 34) - 1)).toNatClampNeg), .int (S.1 56 (((S.1 29 34) - 1)).toNatClampNeg), .int v2, .int v3, .int v4]) (rest := []) (r1 := none) (h2 := hh S47) 1 (fun n => B_131_69 n S v2 v3 v4 v46 S46) (Ev.up (by decide) (T_132 S46 v2 v4 v46 _ _ h47)) ?_
      show Ev X _ 131 100 [.ref 29, .int (S.1 55 (((S.1 29 34) - 1)).toNatClampNeg), .int (S.1 56 (((S.1 29 34) - 1)).toNatClampNeg), .int v2, .int v3, .int v4] [] (hh S47) _
      obtain ⟨e1, e2⟩ := Prod.mk.inj (Option.some.inj hG)
      subst e1
      subst e2
      exact Ev.r 3 (fun n => rfl)
/-- 130: SceneCycleModel.runLogics()I -/
def GL_130_0 : Nat → St → Int32 → Option (Int32 × St)
  | 0, _, _ => none
  | n + 1, S, y1 =>
    (if 500 ≤ y1 then
      some (0, S)
    else
      (if (S.1 29 34) ≤ 0 then
        some (0, S)
      else
        (if xa_in ((S.1 29 34) - 1) 4 then
          (if xa_in (S.1 55 (((S.1 29 34) - 1)).toNatClampNeg) 4 then
            (if (S.1 56 (((S.1 29 34) - 1)).toNatClampNeg) = (S.1 34 ((S.1 55 (((S.1 29 34) - 1)).toNatClampNeg)).toNatClampNeg) then
              GL_130_0 n (xa_u S.1 29 34 ((S.1 29 34) - 1), S.2.1, S.2.2) (y1 + 1)
            else
              (if (S.1 29 32) = (S.1 29 0) then
                some ((-2), S)
              else
                (match G_131 (xa_u S.1 29 32 ((S.1 29 32) + 1), S.2.1, S.2.2) with
                | none => none
                | some (v7, S7) =>
                  (if v7 = 0 then
                    GL_130_0 n S7 (y1 + 1)
                  else
                    some (v7, S7)
                  )
                )
              )
            )
          else none)
        else none)
      )
    )
theorem B_130_1 {X : Nat × (Nat → Int32)} {d : Nat} (n : Nat) (y1 : Int32) (w2 : Value) (S : St) : ex X d 130 39 [.ref 29, .int y1, w2] [] (hh S) (n + 3) = if 500 ≤ y1 then ex X d 130 137 [.ref 29, .int y1, w2] [] (hh S) n else ex X d 130 46 [.ref 29, .int y1, w2] [] (hh S) n := rfl
theorem B_130_2 {X : Nat × (Nat → Int32)} {d : Nat} (n : Nat) (y1 : Int32) (w2 : Value) (S : St) : ex X d 130 39 [.ref 29, .int y1, w2] [] (hh S) (n + 3) = if 500 ≤ y1 then ex X d 130 137 [.ref 29, .int y1, w2] [] (hh S) n else ex X d 130 46 [.ref 29, .int y1, w2] [] (hh S) n := rfl
theorem B_130_3 {X : Nat × (Nat → Int32)} {d : Nat} (n : Nat) (y1 : Int32) (w2 : Value) (S : St) : ex X d 130 46 [.ref 29, .int y1, w2] [] (hh S) (n + 3) = if (S.1 29 34) ≤ 0 then ex X d 130 137 [.ref 29, .int y1, w2] [] (hh S) n else ex X d 130 53 [.ref 29, .int y1, w2] [] (hh S) n := rfl
theorem B_130_4 {X : Nat × (Nat → Int32)} {d : Nat} (n : Nat) (y1 : Int32) (w2 : Value) (S : St) : ex X d 130 46 [.ref 29, .int y1, w2] [] (hh S) (n + 3) = if (S.1 29 34) ≤ 0 then ex X d 130 137 [.ref 29, .int y1, w2] [] (hh S) n else ex X d 130 53 [.ref 29, .int y1, w2] [] (hh S) n := rfl
theorem B_130_5 {X : Nat × (Nat → Int32)} {d : Nat} (n : Nat) (y1 : Int32) (w2 : Value) (S : St) : ex X d 130 53 [.ref 29, .int y1, w2] [] (hh S) (n + 7) = if (kd 56).1 = 0 ∧ xa_in ((S.1 29 34) - 1) (kd 56).2 then ex X d 130 64 [.ref 29, .int y1, w2] [.int (S.1 56 (((S.1 29 34) - 1)).toNatClampNeg)] (hh S) n else none := rfl
theorem B_130_6 {X : Nat × (Nat → Int32)} {d : Nat} (n : Nat) (y1 : Int32) (w2 : Value) (S : St) : ex X d 130 64 [.ref 29, .int y1, w2] [.int (S.1 56 (((S.1 29 34) - 1)).toNatClampNeg)] (hh S) (n + 9) = if (kd 55).1 = 0 ∧ xa_in ((S.1 29 34) - 1) (kd 55).2 then ex X d 130 79 [.ref 29, .int y1, w2] [.int (S.1 55 (((S.1 29 34) - 1)).toNatClampNeg), .ref 34, .int (S.1 56 (((S.1 29 34) - 1)).toNatClampNeg)] (hh S) n else none := rfl
theorem B_130_7 {X : Nat × (Nat → Int32)} {d : Nat} (n : Nat) (y1 : Int32) (w2 : Value) (S : St) : ex X d 130 79 [.ref 29, .int y1, w2] [.int (S.1 55 (((S.1 29 34) - 1)).toNatClampNeg), .ref 34, .int (S.1 56 (((S.1 29 34) - 1)).toNatClampNeg)] (hh S) (n + 1) = if (kd 34).1 = 0 ∧ xa_in (S.1 55 (((S.1 29 34) - 1)).toNatClampNeg) (kd 34).2 then ex X d 130 80 [.ref 29, .int y1, w2] [.int (S.1 34 ((S.1 55 (((S.1 29 34) - 1)).toNatClampNeg)).toNatClampNeg), .int (S.1 56 (((S.1 29 34) - 1)).toNatClampNeg)] (hh S) n else none := rfl
theorem B_130_8 {X : Nat × (Nat → Int32)} {d : Nat} (n : Nat) (y1 : Int32) (w2 : Value) (S : St) : ex X d 130 80 [.ref 29, .int y1, w2] [.int (S.1 34 ((S.1 55 (((S.1 29 34) - 1)).toNatClampNeg)).toNatClampNeg), .int (S.1 56 (((S.1 29 34) - 1)).toNatClampNeg)] (hh S) (n + 1) = if (S.1 56 (((S.1 29 34) - 1)).toNatClampNeg) = (S.1 34 ((S.1 55 (((S.1 29 34) - 1)).toNatClampNeg)).toNatClampNeg) then ex X d 130 83 [.ref 29, .int y1, w2] [] (hh S) n else ex X d 130 96 [.ref 29, .int y1, w2] [] (hh S) n := rfl
theorem B_130_9 {X : Nat × (Nat → Int32)} {d : Nat} (n : Nat) (y1 : Int32) (w2 : Value) (S : St) : ex X d 130 83 [.ref 29, .int y1, w2] [] (hh S) (n + 6) = if (kd 29).1 = 10 + 8 ∧ (xf_k 8 34 = 0 ∨ (xf_k 8 34 = 1 ∧ (((S.1 29 34) - 1) = 0 ∨ ((S.1 29 34) - 1) = 1))) then ex X d 130 93 [.ref 29, .int y1, w2] [] (hh (xa_u S.1 29 34 ((S.1 29 34) - 1), S.2.1, S.2.2)) n else none := rfl
theorem B_130_10 {X : Nat × (Nat → Int32)} {d : Nat} (n : Nat) (y1 : Int32) (w2 : Value) (S : St) : ex X d 130 93 [.ref 29, .int y1, w2] [] (hh (xa_u S.1 29 34 ((S.1 29 34) - 1), S.2.1, S.2.2)) (n + 3) = ex X d 130 39 [.ref 29, .int (y1 + 1), w2] [] (hh (xa_u S.1 29 34 ((S.1 29 34) - 1), S.2.1, S.2.2)) n := rfl
theorem B_130_11 {X : Nat × (Nat → Int32)} {d : Nat} (n : Nat) (y1 : Int32) (w2 : Value) (S : St) : ex X d 130 80 [.ref 29, .int y1, w2] [.int (S.1 34 ((S.1 55 (((S.1 29 34) - 1)).toNatClampNeg)).toNatClampNeg), .int (S.1 56 (((S.1 29 34) - 1)).toNatClampNeg)] (hh S) (n + 1) = if (S.1 56 (((S.1 29 34) - 1)).toNatClampNeg) = (S.1 34 ((S.1 55 (((S.1 29 34) - 1)).toNatClampNeg)).toNatClampNeg) then ex X d 130 83 [.ref 29, .int y1, w2] [] (hh S) n else ex X d 130 96 [.ref 29, .int y1, w2] [] (hh S) n := rfl
theorem B_130_12 {X : Nat × (Nat → Int32)} {d : Nat} (n : Nat) (y1 : Int32) (w2 : Value) (S : St) : ex X d 130 96 [.ref 29, .int y1, w2] [] (hh S) (n + 5) = if (S.1 29 32) = (S.1 29 0) then ex X d 130 107 [.ref 29, .int y1, w2] [] (hh S) n else ex X d 130 110 [.ref 29, .int y1, w2] [] (hh S) n := rfl
theorem B_130_13 {X : Nat × (Nat → Int32)} {d : Nat} (n : Nat) (y1 : Int32) (w2 : Value) (S : St) : ex X d 130 96 [.ref 29, .int y1, w2] [] (hh S) (n + 5) = if (S.1 29 32) = (S.1 29 0) then ex X d 130 107 [.ref 29, .int y1, w2] [] (hh S) n else ex X d 130 110 [.ref 29, .int y1, w2] [] (hh S) n := rfl
theorem B_130_14 {X : Nat × (Nat → Int32)} {d : Nat} (n : Nat) (y1 : Int32) (w2 : Value) (S : St) : ex X d 130 110 [.ref 29, .int y1, w2] [] (hh S) (n + 6) = if (kd 29).1 = 10 + 8 ∧ (xf_k 8 32 = 0 ∨ (xf_k 8 32 = 1 ∧ (((S.1 29 32) + 1) = 0 ∨ ((S.1 29 32) + 1) = 1))) then ex X d 130 120 [.ref 29, .int y1, w2] [] (hh (xa_u S.1 29 32 ((S.1 29 32) + 1), S.2.1, S.2.2)) n else none := rfl
theorem B_130_15 {X : Nat × (Nat → Int32)} {d : Nat} (n : Nat) (y1 : Int32) (w2 : Value) (S : St) : ex X (d + 1) 130 120 [.ref 29, .int y1, w2] [] (hh (xa_u S.1 29 32 ((S.1 29 32) + 1), S.2.1, S.2.2)) (n + 2) = (match ex X d 131 0 [.ref 29, .retAddr 0, .retAddr 0, .retAddr 0, .retAddr 0, .retAddr 0] [] (hh (xa_u S.1 29 32 ((S.1 29 32) + 1), S.2.1, S.2.2)) n with | some (v, h') => ex X (d + 1) 130 124 [.ref 29, .int y1, w2] (v.toList ++ []) h' n | none => none) := rfl
theorem B_130_16 {X : Nat × (Nat → Int32)} {d : Nat} (n : Nat) (y1 : Int32) (w2 : Value) (v7 : Int32) (S7 : St) : ex X d 130 124 [.ref 29, .int y1, w2] [.int v7] (hh S7) (n + 3) = if v7 = 0 then ex X d 130 131 [.ref 29, .int y1, .int v7] [] (hh S7) n else ex X d 130 129 [.ref 29, .int y1, .int v7] [] (hh S7) n := rfl
theorem B_130_17 {X : Nat × (Nat → Int32)} {d : Nat} (n : Nat) (y1 : Int32) (v7 : Int32) (S7 : St) : ex X d 130 131 [.ref 29, .int y1, .int v7] [] (hh S7) (n + 2) = ex X d 130 39 [.ref 29, .int (y1 + 1), .int v7] [] (hh S7) n := rfl
theorem B_130_18 {X : Nat × (Nat → Int32)} {d : Nat} (n : Nat) (y1 : Int32) (w2 : Value) (v7 : Int32) (S7 : St) : ex X d 130 124 [.ref 29, .int y1, w2] [.int v7] (hh S7) (n + 3) = if v7 = 0 then ex X d 130 131 [.ref 29, .int y1, .int v7] [] (hh S7) n else ex X d 130 129 [.ref 29, .int y1, .int v7] [] (hh S7) n := rfl
set_option maxRecDepth 200000 in
theorem TL_130_0 {X : Nat × (Nat → Int32)} : ∀ (n : Nat) (S : St) (y1 : Int32) (r : Int32) (S' : St), GL_130_0 n S y1 = some (r, S') → ∀ (w2 : Value), Ev X 7 130 39 [.ref 29, .int y1, w2] [] (hh S) (xI r, hh S') := by
  intro n
  induction n with
  | zero => intro S y1 r S' hG; simp [GL_130_0] at hG
  | succ n ih =>
    intro S y1 r S' hG w2
    rw [GL_130_0] at hG
    by_cases c1 : 500 ≤ y1
    · rw [if_pos c1] at hG
      refine Ev.t (c := 500 ≤ y1) (p1 := 137) (L1 := [.ref 29, .int y1, w2]) (s1 := []) (h1 := hh S) (p2 := 46) (L2 := [.ref 29, .int y1, w2]) (s2 := []) (h2 := hh S) 3 (fun n => B_130_1 n y1 w2 S) c1 ?_
      obtain ⟨e1, e2⟩ := Prod.mk.inj (Option.some.inj hG)
      subst e1
      subst e2
      exact Ev.r 2 (fun n => rfl)
    · rw [if_neg c1] at hG
      refine Ev.f (c := 500 ≤ y1) (p1 := 137) (L1 := [.ref 29, .int y1, w2]) (s1 := []) (h1 := hh S) (p2 := 46) (L2 := [.ref 29, .int y1, w2]) (s2 := []) (h2 := hh S) 3 (fun n => B_130_2 n y1 w2 S) c1 ?_
      by_cases c2 : (S.1 29 34) ≤ 0
      · rw [if_pos c2] at hG
        refine Ev.t (c := (S.1 29 34) ≤ 0) (p1 := 137) (L1 := [.ref 29, .int y1, w2]) (s1 := []) (h1 := hh S) (p2 := 53) (L2 := [.ref 29, .int y1, w2]) (s2 := []) (h2 := hh S) 3 (fun n => B_130_3 n y1 w2 S) c2 ?_
        obtain ⟨e1, e2⟩ := Prod.mk.inj (Option.some.inj hG)
        subst e1
        subst e2
        exact Ev.r 2 (fun n => rfl)
      · rw [if_neg c2] at hG
        refine Ev.f (c := (S.1 29 34) ≤ 0) (p1 := 137) (L1 := [.ref 29, .int y1, w2]) (s1 := []) (h1 := hh S) (p2 := 53) (L2 := [.ref 29, .int y1, w2]) (s2 := []) (h2 := hh S) 3 (fun n => B_130_4 n y1 w2 S) c2 ?_
        by_cases g3 : xa_in ((S.1 29 34) - 1) 4
        rotate_left
        · rw [if_neg g3] at hG; cases hG
        rw [if_pos g3] at hG
        refine Ev.g (c := (kd 56).1 = 0 ∧ xa_in ((S.1 29 34) - 1) (kd 56).2) (p1 := 64) (L1 := [.ref 29, .int y1, w2]) (s1 := [.int (S.1 56 (((S.1 29 34) - 1)).toNatClampNeg)]) (h1 := hh S) 7 (fun n => B_130_5 n y1 w2 S) (⟨rfl, g3⟩) ?_
        refine Ev.g (c := (kd 55).1 = 0 ∧ xa_in ((S.1 29 34) - 1) (kd 55).2) (p1 := 79) (L1 := [.ref 29, .int y1, w2]) (s1 := [.int (S.1 55 (((S.1 29 34) - 1)).toNatClampNeg), .ref 34, .int (S.1 56 (((S.1 29 34) - 1)).toNatClampNeg)]) (h1 := hh S) 9 (fun n => B_130_6 n y1 w2 S) (⟨rfl, g3⟩) ?_
        by_cases g4 : xa_in (S.1 55 (((S.1 29 34) - 1)).toNatClampNeg) 4
        rotate_left
        · rw [if_neg g4] at hG; cases hG
        rw [if_pos g4] at hG
        refine Ev.g (c := (kd 34).1 = 0 ∧ xa_in (S.1 55 (((S.1 29 34) - 1)).toNatClampNeg) (kd 34).2) (p1 := 80) (L1 := [.ref 29, .int y1, w2]) (s1 := [.int (S.1 34 ((S.1 55 (((S.1 29 34) - 1)).toNatClampNeg)).toNatClampNeg), .int (S.1 56 (((S.1 29 34) - 1)).toNatClampNeg)]) (h1 := hh S) 1 (fun n => B_130_7 n y1 w2 S) (⟨rfl, g4⟩) ?_
        by_cases c5 : (S.1 56 (((S.1 29 34) - 1)).toNatClampNeg) = (S.1 34 ((S.1 55 (((S.1 29 34) - 1)).toNatClampNeg)).toNatClampNeg)
        · rw [if_pos c5] at hG
          refine Ev.t (c := (S.1 56 (((S.1 29 34) - 1)).toNatClampNeg) = (S.1 34 ((S.1 55 (((S.1 29 34) - 1)).toNatClampNeg)).toNatClampNeg)) (p1 := 83) (L1 := [.ref 29, .int y1, w2]) (s1 := []) (h1 := hh S) (p2 := 96) (L2 := [.ref 29, .int y1, w2]) (s2 := []) (h2 := hh S) 1 (fun n => B_130_8 n y1 w2 S) c5 ?_
          refine Ev.g (c := (kd 29).1 = 10 + 8 ∧ (xf_k 8 34 = 0 ∨ (xf_k 8 34 = 1 ∧ (((S.1 29 34) - 1) = 0 ∨ ((S.1 29 34) - 1) = 1)))) (p1 := 93) (L1 := [.ref 29, .int y1, w2]) (s1 := []) (h1 := hh (xa_u S.1 29 34 ((S.1 29 34) - 1), S.2.1, S.2.2)) 6 (fun n => B_130_9 n y1 w2 S) (⟨rfl, Or.inl rfl⟩) ?_
          exact Ev.b (pc' := 39) (L' := [.ref 29, .int (y1 + 1), w2]) (st' := []) (h' := hh (xa_u S.1 29 34 ((S.1 29 34) - 1), S.2.1, S.2.2)) 3 (fun n => B_130_10 n y1 w2 S) (ih (xa_u S.1 29 34 ((S.1 29 34) - 1), S.2.1, S.2.2) (y1 + 1) _ _ hG w2)
        · rw [if_neg c5] at hG
          refine Ev.f (c := (S.1 56 (((S.1 29 34) - 1)).toNatClampNeg) = (S.1 34 ((S.1 55 (((S.1 29 34) - 1)).toNatClampNeg)).toNatClampNeg)) (p1 := 83) (L1 := [.ref 29, .int y1, w2]) (s1 := []) (h1 := hh S) (p2 := 96) (L2 := [.ref 29, .int y1, w2]) (s2 := []) (h2 := hh S) 1 (fun n => B_130_11 n y1 w2 S) c5 ?_
          by_cases c6 : (S.1 29 32) = (S.1 29 0)
          · rw [if_pos c6] at hG
            refine Ev.t (c := (S.1 29 32) = (S.1 29 0)) (p1 := 107) (L1 := [.ref 29, .int y1, w2]) (s1 := []) (h1 := hh S) (p2 := 110) (L2 := [.ref 29, .int y1, w2]) (s2 := []) (h2 := hh S) 5 (fun n => B_130_12 n y1 w2 S) c6 ?_
            obtain ⟨e1, e2⟩ := Prod.mk.inj (Option.some.inj hG)
            subst e1
            subst e2
            exact Ev.r 2 (fun n => rfl)
          · rw [if_neg c6] at hG
            refine Ev.f (c := (S.1 29 32) = (S.1 29 0)) (p1 := 107) (L1 := [.ref 29, .int y1, w2]) (s1 := []) (h1 := hh S) (p2 := 110) (L2 := [.ref 29, .int y1, w2]) (s2 := []) (h2 := hh S) 5 (fun n => B_130_13 n y1 w2 S) c6 ?_
            refine Ev.g (c := (kd 29).1 = 10 + 8 ∧ (xf_k 8 32 = 0 ∨ (xf_k 8 32 = 1 ∧ (((S.1 29 32) + 1) = 0 ∨ ((S.1 29 32) + 1) = 1)))) (p1 := 120) (L1 := [.ref 29, .int y1, w2]) (s1 := []) (h1 := hh (xa_u S.1 29 32 ((S.1 29 32) + 1), S.2.1, S.2.2)) 6 (fun n => B_130_14 n y1 w2 S) (⟨rfl, Or.inl rfl⟩) ?_
            rcases h7 : G_131 (xa_u S.1 29 32 ((S.1 29 32) + 1), S.2.1, S.2.2) with _ | ⟨v7, S7⟩
            · rw [h7] at hG; cases hG
            rw [h7] at hG
            dsimp only at hG
            refine Ev.c (a := 131) (A := [.ref 29, .retAddr 0, .retAddr 0, .retAddr 0, .retAddr 0, .retAddr 0]) (h1 := hh (xa_u S.1 29 32 ((S.1 29 32) + 1), S.2.1, S.2.2)) (pc' := 124) (L' := [.ref 29, .int y1, w2]) (rest := []) (r1 := some (.int v7)) (h2 := hh S7) 2 (fun n => B_130_15 n y1 w2 S) (Ev.up (by decide) (T_131 (xa_u S.1 29 32 ((S.1 29 32) + 1), S.2.1, S.2.2)  _ _ h7)) ?_
            show Ev X _ 130 124 [.ref 29, .int y1, w2] [.int v7] (hh S7) _
            by_cases c8 : v7 = 0
            · rw [if_pos c8] at hG
              refine Ev.t (c := v7 = 0) (p1 := 131) (L1 := [.ref 29, .int y1, .int v7]) (s1 := []) (h1 := hh S7) (p2 := 129) (L2 := [.ref 29, .int y1, .int v7]) (s2 := []) (h2 := hh S7) 3 (fun n => B_130_16 n y1 w2 v7 S7) c8 ?_
              exact Ev.b (pc' := 39) (L' := [.ref 29, .int (y1 + 1), .int v7]) (st' := []) (h' := hh S7) 2 (fun n => B_130_17 n y1 v7 S7) (ih S7 (y1 + 1) _ _ hG (.int v7))
            · rw [if_neg c8] at hG
              refine Ev.f (c := v7 = 0) (p1 := 131) (L1 := [.ref 29, .int y1, .int v7]) (s1 := []) (h1 := hh S7) (p2 := 129) (L2 := [.ref 29, .int y1, .int v7]) (s2 := []) (h2 := hh S7) 3 (fun n => B_130_18 n y1 w2 v7 S7) c8 ?_
              obtain ⟨e1, e2⟩ := Prod.mk.inj (Option.some.inj hG)
              subst e1
              subst e2
              exact Ev.r 2 (fun n => rfl)
def G_130 (S : St)  : Option (Int32 × St) :=
  (if (S.1 35 ((1 : Int32)).toNatClampNeg) = 0 then
    GL_130_0 xFu (xa_u (xa_u (xa_u (xa_u S.1 29 34 0) 55 (((0 : Int32)).toNatClampNeg) 1) 56 (((0 : Int32)).toNatClampNeg) 0) 29 32 0, S.2.1, S.2.2) (0 : Int32)
  else
    GL_130_0 xFu (xa_u (xa_u (xa_u (xa_u S.1 29 34 1) 55 (((0 : Int32)).toNatClampNeg) 1) 56 (((0 : Int32)).toNatClampNeg) 0) 29 32 0, S.2.1, S.2.2) (0 : Int32)
  )
theorem B_130_19 {X : Nat × (Nat → Int32)} {d : Nat} (n : Nat) (S : St) : ex X d 130 0 [.ref 29, .retAddr 0, .retAddr 0] [] (hh S) (n + 5) = if (kd 35).1 = 1 ∧ xa_in (1 : Int32) (kd 35).2 then ex X d 130 7 [.ref 29, .retAddr 0, .retAddr 0] [.int (S.1 35 ((1 : Int32)).toNatClampNeg), .ref 29] (hh S) n else none := rfl
theorem B_130_20 {X : Nat × (Nat → Int32)} {d : Nat} (n : Nat) (S : St) : ex X d 130 7 [.ref 29, .retAddr 0, .retAddr 0] [.int (S.1 35 ((1 : Int32)).toNatClampNeg), .ref 29] (hh S) (n + 1) = if (S.1 35 ((1 : Int32)).toNatClampNeg) = 0 then ex X d 130 14 [.ref 29, .retAddr 0, .retAddr 0] [.ref 29] (hh S) n else ex X d 130 10 [.ref 29, .retAddr 0, .retAddr 0] [.ref 29] (hh S) n := rfl
theorem B_130_21 {X : Nat × (Nat → Int32)} {d : Nat} (n : Nat) (S : St) : ex X d 130 14 [.ref 29, .retAddr 0, .retAddr 0] [.ref 29] (hh S) (n + 2) = if (kd 29).1 = 10 + 8 ∧ (xf_k 8 34 = 0 ∨ (xf_k 8 34 = 1 ∧ ((0 : Int32) = 0 ∨ (0 : Int32) = 1))) then ex X d 130 18 [.ref 29, .retAddr 0, .retAddr 0] [] (hh (xa_u S.1 29 34 0, S.2.1, S.2.2)) n else none := rfl
theorem B_130_22 {X : Nat × (Nat → Int32)} {d : Nat} (n : Nat) (S : St) : ex X d 130 18 [.ref 29, .retAddr 0, .retAddr 0] [] (hh (xa_u S.1 29 34 0, S.2.1, S.2.2)) (n + 5) = if (kd 55).1 = 0 ∧ xa_in (0 : Int32) (kd 55).2 then ex X d 130 25 [.ref 29, .retAddr 0, .retAddr 0] [] (hh (xa_u (xa_u S.1 29 34 0) 55 (((0 : Int32)).toNatClampNeg) 1, S.2.1, S.2.2)) n else none := rfl
theorem B_130_23 {X : Nat × (Nat → Int32)} {d : Nat} (n : Nat) (S : St) : ex X d 130 25 [.ref 29, .retAddr 0, .retAddr 0] [] (hh (xa_u (xa_u S.1 29 34 0) 55 (((0 : Int32)).toNatClampNeg) 1, S.2.1, S.2.2)) (n + 5) = if (kd 56).1 = 0 ∧ xa_in (0 : Int32) (kd 56).2 then ex X d 130 32 [.ref 29, .retAddr 0, .retAddr 0] [] (hh (xa_u (xa_u (xa_u S.1 29 34 0) 55 (((0 : Int32)).toNatClampNeg) 1) 56 (((0 : Int32)).toNatClampNeg) 0, S.2.1, S.2.2)) n else none := rfl
theorem B_130_24 {X : Nat × (Nat → Int32)} {d : Nat} (n : Nat) (S : St) : ex X d 130 32 [.ref 29, .retAddr 0, .retAddr 0] [] (hh (xa_u (xa_u (xa_u S.1 29 34 0) 55 (((0 : Int32)).toNatClampNeg) 1) 56 (((0 : Int32)).toNatClampNeg) 0, S.2.1, S.2.2)) (n + 3) = if (kd 29).1 = 10 + 8 ∧ (xf_k 8 32 = 0 ∨ (xf_k 8 32 = 1 ∧ ((0 : Int32) = 0 ∨ (0 : Int32) = 1))) then ex X d 130 37 [.ref 29, .retAddr 0, .retAddr 0] [] (hh (xa_u (xa_u (xa_u (xa_u S.1 29 34 0) 55 (((0 : Int32)).toNatClampNeg) 1) 56 (((0 : Int32)).toNatClampNeg) 0) 29 32 0, S.2.1, S.2.2)) n else none := rfl
theorem B_130_25 {X : Nat × (Nat → Int32)} {d : Nat} (n : Nat) (S : St) : ex X d 130 37 [.ref 29, .retAddr 0, .retAddr 0] [] (hh (xa_u (xa_u (xa_u (xa_u S.1 29 34 0) 55 (((0 : Int32)).toNatClampNeg) 1) 56 (((0 : Int32)).toNatClampNeg) 0) 29 32 0, S.2.1, S.2.2)) (n + 2) = ex X d 130 39 [.ref 29, .int 0, .retAddr 0] [] (hh (xa_u (xa_u (xa_u (xa_u S.1 29 34 0) 55 (((0 : Int32)).toNatClampNeg) 1) 56 (((0 : Int32)).toNatClampNeg) 0) 29 32 0, S.2.1, S.2.2)) n := rfl
theorem B_130_26 {X : Nat × (Nat → Int32)} {d : Nat} (n : Nat) (S : St) : ex X d 130 7 [.ref 29, .retAddr 0, .retAddr 0] [.int (S.1 35 ((1 : Int32)).toNatClampNeg), .ref 29] (hh S) (n + 1) = if (S.1 35 ((1 : Int32)).toNatClampNeg) = 0 then ex X d 130 14 [.ref 29, .retAddr 0, .retAddr 0] [.ref 29] (hh S) n else ex X d 130 10 [.ref 29, .retAddr 0, .retAddr 0] [.ref 29] (hh S) n := rfl
theorem B_130_27 {X : Nat × (Nat → Int32)} {d : Nat} (n : Nat) (S : St) : ex X d 130 10 [.ref 29, .retAddr 0, .retAddr 0] [.ref 29] (hh S) (n + 3) = if (kd 29).1 = 10 + 8 ∧ (xf_k 8 34 = 0 ∨ (xf_k 8 34 = 1 ∧ ((1 : Int32) = 0 ∨ (1 : Int32) = 1))) then ex X d 130 18 [.ref 29, .retAddr 0, .retAddr 0] [] (hh (xa_u S.1 29 34 1, S.2.1, S.2.2)) n else none := rfl
theorem B_130_28 {X : Nat × (Nat → Int32)} {d : Nat} (n : Nat) (S : St) : ex X d 130 18 [.ref 29, .retAddr 0, .retAddr 0] [] (hh (xa_u S.1 29 34 1, S.2.1, S.2.2)) (n + 5) = if (kd 55).1 = 0 ∧ xa_in (0 : Int32) (kd 55).2 then ex X d 130 25 [.ref 29, .retAddr 0, .retAddr 0] [] (hh (xa_u (xa_u S.1 29 34 1) 55 (((0 : Int32)).toNatClampNeg) 1, S.2.1, S.2.2)) n else none := rfl
theorem B_130_29 {X : Nat × (Nat → Int32)} {d : Nat} (n : Nat) (S : St) : ex X d 130 25 [.ref 29, .retAddr 0, .retAddr 0] [] (hh (xa_u (xa_u S.1 29 34 1) 55 (((0 : Int32)).toNatClampNeg) 1, S.2.1, S.2.2)) (n + 5) = if (kd 56).1 = 0 ∧ xa_in (0 : Int32) (kd 56).2 then ex X d 130 32 [.ref 29, .retAddr 0, .retAddr 0] [] (hh (xa_u (xa_u (xa_u S.1 29 34 1) 55 (((0 : Int32)).toNatClampNeg) 1) 56 (((0 : Int32)).toNatClampNeg) 0, S.2.1, S.2.2)) n else none := rfl
theorem B_130_30 {X : Nat × (Nat → Int32)} {d : Nat} (n : Nat) (S : St) : ex X d 130 32 [.ref 29, .retAddr 0, .retAddr 0] [] (hh (xa_u (xa_u (xa_u S.1 29 34 1) 55 (((0 : Int32)).toNatClampNeg) 1) 56 (((0 : Int32)).toNatClampNeg) 0, S.2.1, S.2.2)) (n + 3) = if (kd 29).1 = 10 + 8 ∧ (xf_k 8 32 = 0 ∨ (xf_k 8 32 = 1 ∧ ((0 : Int32) = 0 ∨ (0 : Int32) = 1))) then ex X d 130 37 [.ref 29, .retAddr 0, .retAddr 0] [] (hh (xa_u (xa_u (xa_u (xa_u S.1 29 34 1) 55 (((0 : Int32)).toNatClampNeg) 1) 56 (((0 : Int32)).toNatClampNeg) 0) 29 32 0, S.2.1, S.2.2)) n else none := rfl
theorem B_130_31 {X : Nat × (Nat → Int32)} {d : Nat} (n : Nat) (S : St) : ex X d 130 37 [.ref 29, .retAddr 0, .retAddr 0] [] (hh (xa_u (xa_u (xa_u (xa_u S.1 29 34 1) 55 (((0 : Int32)).toNatClampNeg) 1) 56 (((0 : Int32)).toNatClampNeg) 0) 29 32 0, S.2.1, S.2.2)) (n + 2) = ex X d 130 39 [.ref 29, .int 0, .retAddr 0] [] (hh (xa_u (xa_u (xa_u (xa_u S.1 29 34 1) 55 (((0 : Int32)).toNatClampNeg) 1) 56 (((0 : Int32)).toNatClampNeg) 0) 29 32 0, S.2.1, S.2.2)) n := rfl
set_option maxRecDepth 200000 in
theorem T_130 {X : Nat × (Nat → Int32)} (S : St)  (r : Int32) (S' : St) (hG : G_130 S  = some (r, S')) : Ev X 7 130 0 [.ref 29, .retAddr 0, .retAddr 0] [] (hh S) (xI r, hh S') := by
  unfold G_130 at hG
  refine Ev.g (c := (kd 35).1 = 1 ∧ xa_in (1 : Int32) (kd 35).2) (p1 := 7) (L1 := [.ref 29, .retAddr 0, .retAddr 0]) (s1 := [.int (S.1 35 ((1 : Int32)).toNatClampNeg), .ref 29]) (h1 := hh S) 5 (fun n => B_130_19 n S) (⟨rfl, by decide⟩) ?_
  by_cases c9 : (S.1 35 ((1 : Int32)).toNatClampNeg) = 0
  · rw [if_pos c9] at hG
    refine Ev.t (c := (S.1 35 ((1 : Int32)).toNatClampNeg) = 0) (p1 := 14) (L1 := [.ref 29, .retAddr 0, .retAddr 0]) (s1 := [.ref 29]) (h1 := hh S) (p2 := 10) (L2 := [.ref 29, .retAddr 0, .retAddr 0]) (s2 := [.ref 29]) (h2 := hh S) 1 (fun n => B_130_20 n S) c9 ?_
    refine Ev.g (c := (kd 29).1 = 10 + 8 ∧ (xf_k 8 34 = 0 ∨ (xf_k 8 34 = 1 ∧ ((0 : Int32) = 0 ∨ (0 : Int32) = 1)))) (p1 := 18) (L1 := [.ref 29, .retAddr 0, .retAddr 0]) (s1 := []) (h1 := hh (xa_u S.1 29 34 0, S.2.1, S.2.2)) 2 (fun n => B_130_21 n S) (⟨rfl, Or.inl rfl⟩) ?_
    refine Ev.g (c := (kd 55).1 = 0 ∧ xa_in (0 : Int32) (kd 55).2) (p1 := 25) (L1 := [.ref 29, .retAddr 0, .retAddr 0]) (s1 := []) (h1 := hh (xa_u (xa_u S.1 29 34 0) 55 (((0 : Int32)).toNatClampNeg) 1, S.2.1, S.2.2)) 5 (fun n => B_130_22 n S) (⟨rfl, by decide⟩) ?_
    refine Ev.g (c := (kd 56).1 = 0 ∧ xa_in (0 : Int32) (kd 56).2) (p1 := 32) (L1 := [.ref 29, .retAddr 0, .retAddr 0]) (s1 := []) (h1 := hh (xa_u (xa_u (xa_u S.1 29 34 0) 55 (((0 : Int32)).toNatClampNeg) 1) 56 (((0 : Int32)).toNatClampNeg) 0, S.2.1, S.2.2)) 5 (fun n => B_130_23 n S) (⟨rfl, by decide⟩) ?_
    refine Ev.g (c := (kd 29).1 = 10 + 8 ∧ (xf_k 8 32 = 0 ∨ (xf_k 8 32 = 1 ∧ ((0 : Int32) = 0 ∨ (0 : Int32) = 1)))) (p1 := 37) (L1 := [.ref 29, .retAddr 0, .retAddr 0]) (s1 := []) (h1 := hh (xa_u (xa_u (xa_u (xa_u S.1 29 34 0) 55 (((0 : Int32)).toNatClampNeg) 1) 56 (((0 : Int32)).toNatClampNeg) 0) 29 32 0, S.2.1, S.2.2)) 3 (fun n => B_130_24 n S) (⟨rfl, Or.inl rfl⟩) ?_
    exact Ev.b (pc' := 39) (L' := [.ref 29, .int 0, .retAddr 0]) (st' := []) (h' := hh (xa_u (xa_u (xa_u (xa_u S.1 29 34 0) 55 (((0 : Int32)).toNatClampNeg) 1) 56 (((0 : Int32)).toNatClampNeg) 0) 29 32 0, S.2.1, S.2.2)) 2 (fun n => B_130_25 n S) (TL_130_0 xFu (xa_u (xa_u (xa_u (xa_u S.1 29 34 0) 55 (((0 : Int32)).toNatClampNeg) 1) 56 (((0 : Int32)).toNatClampNeg) 0) 29 32 0, S.2.1, S.2.2) (0 : Int32) _ _ hG (.retAddr 0))
  · rw [if_neg c9] at hG
    refine Ev.f (c := (S.1 35 ((1 : Int32)).toNatClampNeg) = 0) (p1 := 14) (L1 := [.ref 29, .retAddr 0, .retAddr 0]) (s1 := [.ref 29]) (h1 := hh S) (p2 := 10) (L2 := [.ref 29, .retAddr 0, .retAddr 0]) (s2 := [.ref 29]) (h2 := hh S) 1 (fun n => B_130_26 n S) c9 ?_
    refine Ev.g (c := (kd 29).1 = 10 + 8 ∧ (xf_k 8 34 = 0 ∨ (xf_k 8 34 = 1 ∧ ((1 : Int32) = 0 ∨ (1 : Int32) = 1)))) (p1 := 18) (L1 := [.ref 29, .retAddr 0, .retAddr 0]) (s1 := []) (h1 := hh (xa_u S.1 29 34 1, S.2.1, S.2.2)) 3 (fun n => B_130_27 n S) (⟨rfl, Or.inl rfl⟩) ?_
    refine Ev.g (c := (kd 55).1 = 0 ∧ xa_in (0 : Int32) (kd 55).2) (p1 := 25) (L1 := [.ref 29, .retAddr 0, .retAddr 0]) (s1 := []) (h1 := hh (xa_u (xa_u S.1 29 34 1) 55 (((0 : Int32)).toNatClampNeg) 1, S.2.1, S.2.2)) 5 (fun n => B_130_28 n S) (⟨rfl, by decide⟩) ?_
    refine Ev.g (c := (kd 56).1 = 0 ∧ xa_in (0 : Int32) (kd 56).2) (p1 := 32) (L1 := [.ref 29, .retAddr 0, .retAddr 0]) (s1 := []) (h1 := hh (xa_u (xa_u (xa_u S.1 29 34 1) 55 (((0 : Int32)).toNatClampNeg) 1) 56 (((0 : Int32)).toNatClampNeg) 0, S.2.1, S.2.2)) 5 (fun n => B_130_29 n S) (⟨rfl, by decide⟩) ?_
    refine Ev.g (c := (kd 29).1 = 10 + 8 ∧ (xf_k 8 32 = 0 ∨ (xf_k 8 32 = 1 ∧ ((0 : Int32) = 0 ∨ (0 : Int32) = 1)))) (p1 := 37) (L1 := [.ref 29, .retAddr 0, .retAddr 0]) (s1 := []) (h1 := hh (xa_u (xa_u (xa_u (xa_u S.1 29 34 1) 55 (((0 : Int32)).toNatClampNeg) 1) 56 (((0 : Int32)).toNatClampNeg) 0) 29 32 0, S.2.1, S.2.2)) 3 (fun n => B_130_30 n S) (⟨rfl, Or.inl rfl⟩) ?_
    exact Ev.b (pc' := 39) (L' := [.ref 29, .int 0, .retAddr 0]) (st' := []) (h' := hh (xa_u (xa_u (xa_u (xa_u S.1 29 34 1) 55 (((0 : Int32)).toNatClampNeg) 1) 56 (((0 : Int32)).toNatClampNeg) 0) 29 32 0, S.2.1, S.2.2)) 2 (fun n => B_130_31 n S) (TL_130_0 xFu (xa_u (xa_u (xa_u (xa_u S.1 29 34 1) 55 (((0 : Int32)).toNatClampNeg) 1) 56 (((0 : Int32)).toNatClampNeg) 0) 29 32 0, S.2.1, S.2.2) (0 : Int32) _ _ hG (.retAddr 0))
/-- 146: SceneCycleModel.arrive(I)V -/
def G_146 (S : St) (x1 : Int32) : Option (Unit × St) :=
  (if xa_in x1 4 then
    (if xa_in (S.1 53 (x1).toNatClampNeg) 16 then
      some ((), (xa_u (xa_u (xa_u S.1 41 (((S.1 53 (x1).toNatClampNeg)).toNatClampNeg) 1) 47 ((x1).toNatClampNeg) 0) 46 ((x1).toNatClampNeg) 0, S.2.1, S.2.2))
    else none)
  else none)
theorem B_146_1 {X : Nat × (Nat → Int32)} {d : Nat} (n : Nat) (x1 : Int32) (S : St) : ex X d 146 0 [.ref 29, .int x1] [] (hh S) (n + 6) = if (kd 53).1 = 0 ∧ xa_in x1 (kd 53).2 then ex X d 146 10 [.ref 29, .int x1] [.int (S.1 53 (x1).toNatClampNeg), .ref 41] (hh S) n else none := rfl
theorem B_146_2 {X : Nat × (Nat → Int32)} {d : Nat} (n : Nat) (x1 : Int32) (S : St) : ex X d 146 10 [.ref 29, .int x1] [.int (S.1 53 (x1).toNatClampNeg), .ref 41] (hh S) (n + 2) = if (kd 41).1 = 1 ∧ xa_in (S.1 53 (x1).toNatClampNeg) (kd 41).2 ∧ ((1 : Int32) = 0 ∨ (1 : Int32) = 1) then ex X d 146 12 [.ref 29, .int x1] [] (hh (xa_u S.1 41 (((S.1 53 (x1).toNatClampNeg)).toNatClampNeg) 1, S.2.1, S.2.2)) n else none := rfl
theorem B_146_3 {X : Nat × (Nat → Int32)} {d : Nat} (n : Nat) (x1 : Int32) (S : St) : ex X d 146 12 [.ref 29, .int x1] [] (hh (xa_u S.1 41 (((S.1 53 (x1).toNatClampNeg)).toNatClampNeg) 1, S.2.1, S.2.2)) (n + 5) = if (kd 47).1 = 0 ∧ xa_in x1 (kd 47).2 then ex X d 146 19 [.ref 29, .int x1] [] (hh (xa_u (xa_u S.1 41 (((S.1 53 (x1).toNatClampNeg)).toNatClampNeg) 1) 47 ((x1).toNatClampNeg) 0, S.2.1, S.2.2)) n else none := rfl
theorem B_146_4 {X : Nat × (Nat → Int32)} {d : Nat} (n : Nat) (x1 : Int32) (S : St) : ex X d 146 19 [.ref 29, .int x1] [] (hh (xa_u (xa_u S.1 41 (((S.1 53 (x1).toNatClampNeg)).toNatClampNeg) 1) 47 ((x1).toNatClampNeg) 0, S.2.1, S.2.2)) (n + 5) = if (kd 46).1 = 0 ∧ xa_in x1 (kd 46).2 then ex X d 146 26 [.ref 29, .int x1] [] (hh (xa_u (xa_u (xa_u S.1 41 (((S.1 53 (x1).toNatClampNeg)).toNatClampNeg) 1) 47 ((x1).toNatClampNeg) 0) 46 ((x1).toNatClampNeg) 0, S.2.1, S.2.2)) n else none := rfl
set_option maxRecDepth 200000 in
theorem T_146 {X : Nat × (Nat → Int32)} (S : St) (x1 : Int32) (r : Unit) (S' : St) (hG : G_146 S x1 = some (r, S')) : Ev X 0 146 0 [.ref 29, .int x1] [] (hh S) (xV r, hh S') := by
  unfold G_146 at hG
  by_cases g1 : xa_in x1 4
  rotate_left
  · rw [if_neg g1] at hG; cases hG
  rw [if_pos g1] at hG
  refine Ev.g (c := (kd 53).1 = 0 ∧ xa_in x1 (kd 53).2) (p1 := 10) (L1 := [.ref 29, .int x1]) (s1 := [.int (S.1 53 (x1).toNatClampNeg), .ref 41]) (h1 := hh S) 6 (fun n => B_146_1 n x1 S) (⟨rfl, g1⟩) ?_
  by_cases g2 : xa_in (S.1 53 (x1).toNatClampNeg) 16
  rotate_left
  · rw [if_neg g2] at hG; cases hG
  rw [if_pos g2] at hG
  refine Ev.g (c := (kd 41).1 = 1 ∧ xa_in (S.1 53 (x1).toNatClampNeg) (kd 41).2 ∧ ((1 : Int32) = 0 ∨ (1 : Int32) = 1)) (p1 := 12) (L1 := [.ref 29, .int x1]) (s1 := []) (h1 := hh (xa_u S.1 41 (((S.1 53 (x1).toNatClampNeg)).toNatClampNeg) 1, S.2.1, S.2.2)) 2 (fun n => B_146_2 n x1 S) (⟨rfl, g2, by decide⟩) ?_
  refine Ev.g (c := (kd 47).1 = 0 ∧ xa_in x1 (kd 47).2) (p1 := 19) (L1 := [.ref 29, .int x1]) (s1 := []) (h1 := hh (xa_u (xa_u S.1 41 (((S.1 53 (x1).toNatClampNeg)).toNatClampNeg) 1) 47 ((x1).toNatClampNeg) 0, S.2.1, S.2.2)) 5 (fun n => B_146_3 n x1 S) (⟨rfl, g1⟩) ?_
  refine Ev.g (c := (kd 46).1 = 0 ∧ xa_in x1 (kd 46).2) (p1 := 26) (L1 := [.ref 29, .int x1]) (s1 := []) (h1 := hh (xa_u (xa_u (xa_u S.1 41 (((S.1 53 (x1).toNatClampNeg)).toNatClampNeg) 1) 47 ((x1).toNatClampNeg) 0) 46 ((x1).toNatClampNeg) 0, S.2.1, S.2.2)) 5 (fun n => B_146_4 n x1 S) (⟨rfl, g1⟩) ?_
  obtain ⟨e1, e2⟩ := Prod.mk.inj (Option.some.inj hG)
  subst e1
  subst e2
  exact Ev.r 1 (fun n => rfl)
/-- 148: SceneCycleModel.right(I)I -/
def G_148 (S : St) (x0 : Int32) : Option (Int32 × St) :=
  (if x0 < 2 then
    (if x0 < 6 then
      some (0, S)
    else
      some ((-1), S)
    )
  else
    (if 4 < x0 then
      (if x0 < 6 then
        some (0, S)
      else
        some ((-1), S)
      )
    else
      some (1, S)
    )
  )
theorem B_148_1 {X : Nat × (Nat → Int32)} {d : Nat} (n : Nat) (x0 : Int32) (S : St) : ex X d 148 0 [.int x0] [] (hh S) (n + 3) = if x0 < 2 then ex X d 148 14 [.int x0] [] (hh S) n else ex X d 148 5 [.int x0] [] (hh S) n := rfl
theorem B_148_2 {X : Nat × (Nat → Int32)} {d : Nat} (n : Nat) (x0 : Int32) (S : St) : ex X d 148 14 [.int x0] [] (hh S) (n + 3) = if x0 < 6 then ex X d 148 24 [.int x0] [] (hh S) n else ex X d 148 20 [.int x0] [] (hh S) n := rfl
theorem B_148_3 {X : Nat × (Nat → Int32)} {d : Nat} (n : Nat) (x0 : Int32) (S : St) : ex X d 148 14 [.int x0] [] (hh S) (n + 3) = if x0 < 6 then ex X d 148 24 [.int x0] [] (hh S) n else ex X d 148 20 [.int x0] [] (hh S) n := rfl
theorem B_148_4 {X : Nat × (Nat → Int32)} {d : Nat} (n : Nat) (x0 : Int32) (S : St) : ex X d 148 0 [.int x0] [] (hh S) (n + 3) = if x0 < 2 then ex X d 148 14 [.int x0] [] (hh S) n else ex X d 148 5 [.int x0] [] (hh S) n := rfl
theorem B_148_5 {X : Nat × (Nat → Int32)} {d : Nat} (n : Nat) (x0 : Int32) (S : St) : ex X d 148 5 [.int x0] [] (hh S) (n + 3) = if 4 < x0 then ex X d 148 14 [.int x0] [] (hh S) n else ex X d 148 10 [.int x0] [] (hh S) n := rfl
theorem B_148_6 {X : Nat × (Nat → Int32)} {d : Nat} (n : Nat) (x0 : Int32) (S : St) : ex X d 148 14 [.int x0] [] (hh S) (n + 3) = if x0 < 6 then ex X d 148 24 [.int x0] [] (hh S) n else ex X d 148 20 [.int x0] [] (hh S) n := rfl
theorem B_148_7 {X : Nat × (Nat → Int32)} {d : Nat} (n : Nat) (x0 : Int32) (S : St) : ex X d 148 14 [.int x0] [] (hh S) (n + 3) = if x0 < 6 then ex X d 148 24 [.int x0] [] (hh S) n else ex X d 148 20 [.int x0] [] (hh S) n := rfl
theorem B_148_8 {X : Nat × (Nat → Int32)} {d : Nat} (n : Nat) (x0 : Int32) (S : St) : ex X d 148 5 [.int x0] [] (hh S) (n + 3) = if 4 < x0 then ex X d 148 14 [.int x0] [] (hh S) n else ex X d 148 10 [.int x0] [] (hh S) n := rfl
set_option maxRecDepth 200000 in
theorem T_148 {X : Nat × (Nat → Int32)} (S : St) (x0 : Int32) (r : Int32) (S' : St) (hG : G_148 S x0 = some (r, S')) : Ev X 0 148 0 [.int x0] [] (hh S) (xI r, hh S') := by
  unfold G_148 at hG
  by_cases c1 : x0 < 2
  · rw [if_pos c1] at hG
    refine Ev.t (c := x0 < 2) (p1 := 14) (L1 := [.int x0]) (s1 := []) (h1 := hh S) (p2 := 5) (L2 := [.int x0]) (s2 := []) (h2 := hh S) 3 (fun n => B_148_1 n x0 S) c1 ?_
    by_cases c2 : x0 < 6
    · rw [if_pos c2] at hG
      refine Ev.t (c := x0 < 6) (p1 := 24) (L1 := [.int x0]) (s1 := []) (h1 := hh S) (p2 := 20) (L2 := [.int x0]) (s2 := []) (h2 := hh S) 3 (fun n => B_148_2 n x0 S) c2 ?_
      obtain ⟨e1, e2⟩ := Prod.mk.inj (Option.some.inj hG)
      subst e1
      subst e2
      exact Ev.r 2 (fun n => rfl)
    · rw [if_neg c2] at hG
      refine Ev.f (c := x0 < 6) (p1 := 24) (L1 := [.int x0]) (s1 := []) (h1 := hh S) (p2 := 20) (L2 := [.int x0]) (s2 := []) (h2 := hh S) 3 (fun n => B_148_3 n x0 S) c2 ?_
      obtain ⟨e1, e2⟩ := Prod.mk.inj (Option.some.inj hG)
      subst e1
      subst e2
      exact Ev.r 3 (fun n => rfl)
  · rw [if_neg c1] at hG
    refine Ev.f (c := x0 < 2) (p1 := 14) (L1 := [.int x0]) (s1 := []) (h1 := hh S) (p2 := 5) (L2 := [.int x0]) (s2 := []) (h2 := hh S) 3 (fun n => B_148_4 n x0 S) c1 ?_
    by_cases c3 : 4 < x0
    · rw [if_pos c3] at hG
      refine Ev.t (c := 4 < x0) (p1 := 14) (L1 := [.int x0]) (s1 := []) (h1 := hh S) (p2 := 10) (L2 := [.int x0]) (s2 := []) (h2 := hh S) 3 (fun n => B_148_5 n x0 S) c3 ?_
      by_cases c4 : x0 < 6
      · rw [if_pos c4] at hG
        refine Ev.t (c := x0 < 6) (p1 := 24) (L1 := [.int x0]) (s1 := []) (h1 := hh S) (p2 := 20) (L2 := [.int x0]) (s2 := []) (h2 := hh S) 3 (fun n => B_148_6 n x0 S) c4 ?_
        obtain ⟨e1, e2⟩ := Prod.mk.inj (Option.some.inj hG)
        subst e1
        subst e2
        exact Ev.r 2 (fun n => rfl)
      · rw [if_neg c4] at hG
        refine Ev.f (c := x0 < 6) (p1 := 24) (L1 := [.int x0]) (s1 := []) (h1 := hh S) (p2 := 20) (L2 := [.int x0]) (s2 := []) (h2 := hh S) 3 (fun n => B_148_7 n x0 S) c4 ?_
        obtain ⟨e1, e2⟩ := Prod.mk.inj (Option.some.inj hG)
        subst e1
        subst e2
        exact Ev.r 3 (fun n => rfl)
    · rw [if_neg c3] at hG
      refine Ev.f (c := 4 < x0) (p1 := 14) (L1 := [.int x0]) (s1 := []) (h1 := hh S) (p2 := 10) (L2 := [.int x0]) (s2 := []) (h2 := hh S) 3 (fun n => B_148_8 n x0 S) c3 ?_
      obtain ⟨e1, e2⟩ := Prod.mk.inj (Option.some.inj hG)
      subst e1
      subst e2
      exact Ev.r 3 (fun n => rfl)
