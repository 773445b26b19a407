/-- 119: SceneCycleModel.command(II)I -/
def GL_119_0 : Nat → St → Int32 → Int32 → Int32 → Int32 → Int32 → Option (Int32 × St)
  | 0, _, _, _, _, _, _ => none
  | n + 1, S, y1, y3, y4, y5, y6 =>
    (if 0 ≤ (S.1 29 7) then
      some (y6, S)
    else
      (if xa_in y1 4 then
        (if (S.1 34 (y1).toNatClampNeg) ≤ y6 then
          some (y6, S)
        else
          (match G_118 S y1 y6 with
          | none => none
          | some (v4, S4) =>
            (if 240 ≤ v4 then
              some (y6, S4)
            else
              (if y3 = 245 then
                (match G_118 S4 y1 y6 with
                | none => none
                | some (v7, S7) =>
                  (match G_122 S7 (v7 / 16) with
                  | none => none
                  | some (v8, S8) =>
                    (match G_118 S8 y1 y6 with
                    | none => none
                    | some (v9, S9) =>
                      (match G_122 S9 (v9 - v9 / 16 * 16) with
                      | none => none
                      | some (v10, S10) =>
                        (match G_115 S10 (y4 + v8) (0 : Int32) (15 : Int32) with
                        | none => none
                        | some (v11, S11) =>
                          (if v11 = 0 then
                            (match G_115 S11 (y5 + v10) (0 : Int32) (11 : Int32) with
                            | none => none
                            | some (v13, S13) =>
                              (if v13 = 0 then
                                GL_119_0 n (xa_u S13.1 29 7 (-1), S13.2.1, S13.2.2) y1 y3 (y4 + v8) (y5 + v10) (y6 + 1)
                              else
                                GL_119_0 n (xa_u S13.1 29 7 y6, S13.2.1, S13.2.2) y1 y3 (y4 + v8) (y5 + v10) (y6 + 1)
                              )
                            )
                          else
                            GL_119_0 n (xa_u S11.1 29 7 y6, S11.2.1, S11.2.2) y1 y3 (y4 + v8) (y5 + v10) (y6 + 1)
                          )
                        )
                      )
                    )
                  )
                )
              else
                (match G_121 S4 y1 y6 with
                | none => none
                | some (v15, S15) =>
                  GL_119_0 n S15 y1 y3 y4 y5 (y6 + 2)
                )
              )
            )
          )
        )
      else none)
    )
theorem B_119_1 {X : Nat × (Nat → Int32)} {d : Nat} (n : Nat) (y1 : Int32) (w2 : Value) (y3 : Int32) (y4 : Int32) (y5 : Int32) (y6 : Int32) (S : St) : ex X d 119 99 [.ref 29, .int y1, w2, .int y3, .int y4, .int y5, .int y6] [] (hh S) (n + 3) = if 0 ≤ (S.1 29 7) then ex X d 119 224 [.ref 29, .int y1, w2, .int y3, .int y4, .int y5, .int y6] [] (hh S) n else ex X d 119 106 [.ref 29, .int y1, w2, .int y3, .int y4, .int y5, .int y6] [] (hh S) n := rfl
theorem B_119_2 {X : Nat × (Nat → Int32)} {d : Nat} (n : Nat) (y1 : Int32) (w2 : Value) (y3 : Int32) (y4 : Int32) (y5 : Int32) (y6 : Int32) (S : St) : ex X d 119 99 [.ref 29, .int y1, w2, .int y3, .int y4, .int y5, .int y6] [] (hh S) (n + 3) = if 0 ≤ (S.1 29 7) then ex X d 119 224 [.ref 29, .int y1, w2, .int y3, .int y4, .int y5, .int y6] [] (hh S) n else ex X d 119 106 [.ref 29, .int y1, w2, .int y3, .int y4, .int y5, .int y6] [] (hh S) n := rfl
theorem B_119_3 {X : Nat × (Nat → Int32)} {d : Nat} (n : Nat) (y1 : Int32) (w2 : Value) (y3 : Int32) (y4 : Int32) (y5 : Int32) (y6 : Int32) (S : St) : ex X d 119 106 [.ref 29, .int y1, w2, .int y3, .int y4, .int y5, .int y6] [] (hh S) (n + 5) = if (kd 34).1 = 0 ∧ xa_in y1 (kd 34).2 then ex X d 119 114 [.ref 29, .int y1, w2, .int y3, .int y4, .int y5, .int y6] [.int (S.1 34 (y1).toNatClampNeg), .int y6] (hh S) n else none := rfl
theorem B_119_4 {X : Nat × (Nat → Int32)} {d : Nat} (n : Nat) (y1 : Int32) (w2 : Value) (y3 : Int32) (y4 : Int32) (y5 : Int32) (y6 : Int32) (S : St) : ex X d 119 114 [.ref 29, .int y1, w2, .int y3, .int y4, .int y5, .int y6] [.int (S.1 34 (y1).toNatClampNeg), .int y6] (hh S) (n + 1) = if (S.1 34 (y1).toNatClampNeg) ≤ y6 then ex X d 119 224 [.ref 29, .int y1, w2, .int y3, .int y4, .int y5, .int y6] [] (hh S) n else ex X d 119 117 [.ref 29, .int y1, w2, .int y3, .int y4, .int y5, .int y6] [] (hh S) n := rfl
theorem B_119_5 {X : Nat × (Nat → Int32)} {d : Nat} (n : Nat) (y1 : Int32) (w2 : Value) (y3 : Int32) (y4 : Int32) (y5 : Int32) (y6 : Int32) (S : St) : ex X d 119 114 [.ref 29, .int y1, w2, .int y3, .int y4, .int y5, .int y6] [.int (S.1 34 (y1).toNatClampNeg), .int y6] (hh S) (n + 1) = if (S.1 34 (y1).toNatClampNeg) ≤ y6 then ex X d 119 224 [.ref 29, .int y1, w2, .int y3, .int y4, .int y5, .int y6] [] (hh S) n else ex X d 119 117 [.ref 29, .int y1, w2, .int y3, .int y4, .int y5, .int y6] [] (hh S) n := rfl
theorem B_119_6 {X : Nat × (Nat → Int32)} {d : Nat} (n : Nat) (y1 : Int32) (w2 : Value) (y3 : Int32) (y4 : Int32) (y5 : Int32) (y6 : Int32) (S : St) : ex X (d + 1) 119 117 [.ref 29, .int y1, w2, .int y3, .int y4, .int y5, .int y6] [] (hh S) (n + 4) = (match ex X d 118 0 [.ref 29, .int y1, .int y6] [] (hh S) n with | some (v, h') => ex X (d + 1) 119 124 [.ref 29, .int y1, w2, .int y3, .int y4, .int y5, .int y6] (v.toList ++ []) h' n | none => none) := rfl
theorem B_119_7 {X : Nat × (Nat → Int32)} {d : Nat} (n : Nat) (y1 : Int32) (w2 : Value) (y3 : Int32) (y4 : Int32) (y5 : Int32) (y6 : Int32) (v4 : Int32) (S4 : St) : ex X d 119 124 [.ref 29, .int y1, w2, .int y3, .int y4, .int y5, .int y6] [.int v4] (hh S4) (n + 2) = if 240 ≤ v4 then ex X d 119 224 [.ref 29, .int y1, w2, .int y3, .int y4, .int y5, .int y6] [] (hh S4) n else ex X d 119 130 [.ref 29, .int y1, w2, .int y3, .int y4, .int y5, .int y6] [] (hh S4) n := rfl
theorem B_119_8 {X : Nat × (Nat → Int32)} {d : Nat} (n : Nat) (y1 : Int32) (w2 : Value) (y3 : Int32) (y4 : Int32) (y5 : Int32) (y6 : Int32) (v4 : Int32) (S4 : St) : ex X d 119 124 [.ref 29, .int y1, w2, .int y3, .int y4, .int y5, .int y6] [.int v4] (hh S4) (n + 2) = if 240 ≤ v4 then ex X d 119 224 [.ref 29, .int y1, w2, .int y3, .int y4, .int y5, .int y6] [] (hh S4) n else ex X d 119 130 [.ref 29, .int y1, w2, .int y3, .int y4, .int y5, .int y6] [] (hh S4) n := rfl
theorem B_119_9 {X : Nat × (Nat → Int32)} {d : Nat} (n : Nat) (y1 : Int32) (w2 : Value) (y3 : Int32) (y4 : Int32) (y5 : Int32) (y6 : Int32) (S4 : St) : ex X d 119 130 [.ref 29, .int y1, w2, .int y3, .int y4, .int y5, .int y6] [] (hh S4) (n + 3) = if y3 = 245 then ex X d 119 137 [.ref 29, .int y1, w2, .int y3, .int y4, .int y5, .int y6] [] (hh S4) n else ex X d 119 211 [.ref 29, .int y1, w2, .int y3, .int y4, .int y5, .int y6] [] (hh S4) n := rfl
theorem B_119_10 {X : Nat × (Nat → Int32)} {d : Nat} (n : Nat) (y1 : Int32) (w2 : Value) (y3 : Int32) (y4 : Int32) (y5 : Int32) (y6 : Int32) (S4 : St) : ex X (d + 1) 119 137 [.ref 29, .int y1, w2, .int y3, .int y4, .int y5, .int y6] [] (hh S4) (n + 5) = (match ex X d 118 0 [.ref 29, .int y1, .int y6] [] (hh S4) n with | some (v, h') => ex X (d + 1) 119 146 [.ref 29, .int y1, w2, .int y3, .int y4, .int y5, .int y6] (v.toList ++ [.int y4]) h' n | none => none) := rfl
theorem B_119_11 {X : Nat × (Nat → Int32)} {d : Nat} (n : Nat) (y1 : Int32) (w2 : Value) (y3 : Int32) (y4 : Int32) (y5 : Int32) (y6 : Int32) (v7 : Int32) (S7 : St) : ex X d 119 146 [.ref 29, .int y1, w2, .int y3, .int y4, .int y5, .int y6] [.int v7, .int y4] (hh S7) (n + 2) = if (16 : Int32) = 0 then none else ex X d 119 149 [.ref 29, .int y1, w2, .int y3, .int y4, .int y5, .int y6] [.int (v7 / 16), .int y4] (hh S7) n := rfl
theorem B_119_12 {X : Nat × (Nat → Int32)} {d : Nat} (n : Nat) (y1 : Int32) (w2 : Value) (y3 : Int32) (y4 : Int32) (y5 : Int32) (y6 : Int32) (v7 : Int32) (S7 : St) : ex X (d + 1) 119 149 [.ref 29, .int y1, w2, .int y3, .int y4, .int y5, .int y6] [.int (v7 / 16), .int y4] (hh S7) (n + 1) = (match ex X d 122 0 [.int (v7 / 16)] [] (hh S7) n with | some (v, h') => ex X (d + 1) 119 152 [.ref 29, .int y1, w2, .int y3, .int y4, .int y5, .int y6] (v.toList ++ [.int y4]) h' n | none => none) := rfl
theorem B_119_13 {X : Nat × (Nat → Int32)} {d : Nat} (n : Nat) (y1 : Int32) (w2 : Value) (y3 : Int32) (y4 : Int32) (y5 : Int32) (y6 : Int32) (v8 : Int32) (S8 : St) : ex X (d + 1) 119 152 [.ref 29, .int y1, w2, .int y3, .int y4, .int y5, .int y6] [.int v8, .int y4] (hh S8) (n + 7) = (match ex X d 118 0 [.ref 29, .int y1, .int y6] [] (hh S8) n with | some (v, h') => ex X (d + 1) 119 164 [.ref 29, .int y1, w2, .int y3, .int (y4 + v8), .int y5, .int y6] (v.toList ++ [.int y5]) h' n | none => none) := rfl
theorem B_119_14 {X : Nat × (Nat → Int32)} {d : Nat} (n : Nat) (y1 : Int32) (w2 : Value) (y3 : Int32) (y4 : Int32) (v8 : Int32) (y5 : Int32) (y6 : Int32) (v9 : Int32) (S9 : St) : ex X d 119 164 [.ref 29, .int y1, w2, .int y3, .int (y4 + v8), .int y5, .int y6] [.int v9, .int y5] (hh S9) (n + 2) = if (16 : Int32) = 0 then none else ex X d 119 167 [.ref 29, .int y1, w2, .int y3, .int (y4 + v8), .int y5, .int y6] [.int (v9 - v9 / 16 * 16), .int y5] (hh S9) n := rfl
theorem B_119_15 {X : Nat × (Nat → Int32)} {d : Nat} (n : Nat) (y1 : Int32) (w2 : Value) (y3 : Int32) (y4 : Int32) (v8 : Int32) (y5 : Int32) (y6 : Int32) (v9 : Int32) (S9 : St) : ex X (d + 1) 119 167 [.ref 29, .int y1, w2, .int y3, .int (y4 + v8), .int y5, .int y6] [.int (v9 - v9 / 16 * 16), .int y5] (hh S9) (n + 1) = (match ex X d 122 0 [.int (v9 - v9 / 16 * 16)] [] (hh S9) n with | some (v, h') => ex X (d + 1) 119 170 [.ref 29, .int y1, w2, .int y3, .int (y4 + v8), .int y5, .int y6] (v.toList ++ [.int y5]) h' n | none => none) := rfl
theorem B_119_16 {X : Nat × (Nat → Int32)} {d : Nat} (n : Nat) (y1 : Int32) (w2 : Value) (y3 : Int32) (y4 : Int32) (v8 : Int32) (y5 : Int32) (y6 : Int32) (v10 : Int32) (S10 : St) : ex X (d + 1) 119 170 [.ref 29, .int y1, w2, .int y3, .int (y4 + v8), .int y5, .int y6] [.int v10, .int y5] (hh S10) (n + 7) = (match ex X d 115 0 [.int (y4 + v8), .int 0, .int 15] [] (hh S10) n with | some (v, h') => ex X (d + 1) 119 182 [.ref 29, .int y1, w2, .int y3, .int (y4 + v8), .int (y5 + v10), .int y6] (v.toList ++ [.ref 29]) h' n | none => none) := rfl
theorem B_119_17 {X : Nat × (Nat → Int32)} {d : Nat} (n : Nat) (y1 : Int32) (w2 : Value) (y3 : Int32) (y4 : Int32) (v8 : Int32) (y5 : Int32) (v10 : Int32) (y6 : Int32) (v11 : Int32) (S11 : St) : ex X d 119 182 [.ref 29, .int y1, w2, .int y3, .int (y4 + v8), .int (y5 + v10), .int y6] [.int v11, .ref 29] (hh S11) (n + 1) = if v11 = 0 then ex X d 119 185 [.ref 29, .int y1, w2, .int y3, .int (y4 + v8), .int (y5 + v10), .int y6] [.ref 29] (hh S11) n else ex X d 119 196 [.ref 29, .int y1, w2, .int y3, .int (y4 + v8), .int (y5 + v10), .int y6] [.ref 29] (hh S11) n := rfl
theorem B_119_18 {X : Nat × (Nat → Int32)} {d : Nat} (n : Nat) (y1 : Int32) (w2 : Value) (y3 : Int32) (y4 : Int32) (v8 : Int32) (y5 : Int32) (v10 : Int32) (y6 : Int32) (S11 : St) : ex X (d + 1) 119 185 [.ref 29, .int y1, w2, .int y3, .int (y4 + v8), .int (y5 + v10), .int y6] [.ref 29] (hh S11) (n + 4) = (match ex X d 115 0 [.int (y5 + v10), .int 0, .int 11] [] (hh S11) n with | some (v, h') => ex X (d + 1) 119 193 [.ref 29, .int y1, w2, .int y3, .int (y4 + v8), .int (y5 + v10), .int y6] (v.toList ++ [.ref 29]) h' n | none => none) := rfl
theorem B_119_19 {X : Nat × (Nat → Int32)} {d : Nat} (n : Nat) (y1 : Int32) (w2 : Value) (y3 : Int32) (y4 : Int32) (v8 : Int32) (y5 : Int32) (v10 : Int32) (y6 : Int32) (v13 : Int32) (S13 : St) : ex X d 119 193 [.ref 29, .int y1, w2, .int y3, .int (y4 + v8), .int (y5 + v10), .int y6] [.int v13, .ref 29] (hh S13) (n + 1) = if v13 = 0 then ex X d 119 201 [.ref 29, .int y1, w2, .int y3, .int (y4 + v8), .int (y5 + v10), .int y6] [.ref 29] (hh S13) n else ex X d 119 196 [.ref 29, .int y1, w2, .int y3, .int (y4 + v8), .int (y5 + v10), .int y6] [.ref 29] (hh S13) n := rfl
theorem B_119_20 {X : Nat × (Nat → Int32)} {d : Nat} (n : Nat) (y1 : Int32) (w2 : Value) (y3 : Int32) (y4 : Int32) (v8 : Int32) (y5 : Int32) (v10 : Int32) (y6 : Int32) (S13 : St) : ex X d 119 201 [.ref 29, .int y1, w2, .int y3, .int (y4 + v8), .int (y5 + v10), .int y6] [.ref 29] (hh S13) (n + 2) = if (kd 29).1 = 10 + 8 ∧ (xf_k 8 7 = 0 ∨ (xf_k 8 7 = 1 ∧ (((-1) : Int32) = 0 ∨ ((-1) : Int32) = 1))) then ex X d 119 205 [.ref 29, .int y1, w2, .int y3, .int (y4 + v8), .int (y5 + v10), .int y6] [] (hh (xa_u S13.1 29 7 (-1), S13.2.1, S13.2.2)) n else none := rfl
theorem B_119_21 {X : Nat × (Nat → Int32)} {d : Nat} (n : Nat) (y1 : Int32) (w2 : Value) (y3 : Int32) (y4 : Int32) (v8 : Int32) (y5 : Int32) (v10 : Int32) (y6 : Int32) (S13 : St) : ex X d 119 205 [.ref 29, .int y1, w2, .int y3, .int (y4 + v8), .int (y5 + v10), .int y6] [] (hh (xa_u S13.1 29 7 (-1), S13.2.1, S13.2.2)) (n + 2) = ex X d 119 99 [.ref 29, .int y1, w2, .int y3, .int (y4 + v8), .int (y5 + v10), .int (y6 + 1)] [] (hh (xa_u S13.1 29 7 (-1), S13.2.1, S13.2.2)) n := rfl
theorem B_119_22 {X : Nat × (Nat → Int32)} {d : Nat} (n : Nat) (y1 : Int32) (w2 : Value) (y3 : Int32) (y4 : Int32) (v8 : Int32) (y5 : Int32) (v10 : Int32) (y6 : Int32) (v13 : Int32) (S13 : St) : ex X d 119 193 [.ref 29, .int y1, w2, .int y3, .int (y4 + v8), .int (y5 + v10), .int y6] [.int v13, .ref 29] (hh S13) (n + 1) = if v13 = 0 then ex X d 119 201 [.ref 29, .int y1, w2, .int y3, .int (y4 + v8), .int (y5 + v10), .int y6] [.ref 29] (hh S13) n else ex X d 119 196 [.ref 29, .int y1, w2, .int y3, .int (y4 + v8), .int (y5 + v10), .int y6] [.ref 29] (hh S13) n := rfl
theorem B_119_23 {X : Nat × (Nat → Int32)} {d : Nat} (n : Nat) (y1 : Int32) (w2 : Value) (y3 : Int32) (y4 : Int32) (v8 : Int32) (y5 : Int32) (v10 : Int32) (y6 : Int32) (S13 : St) : ex X d 119 196 [.ref 29, .int y1, w2, .int y3, .int (y4 + v8), .int (y5 + v10), .int y6] [.ref 29] (hh S13) (n + 3) = if (kd 29).1 = 10 + 8 ∧ (xf_k 8 7 = 0 ∨ (xf_k 8 7 = 1 ∧ (y6 = 0 ∨ y6 = 1))) then ex X d 119 205 [.ref 29, .int y1, w2, .int y3, .int (y4 + v8), .int (y5 + v10), .int y6] [] (hh (xa_u S13.1 29 7 y6, S13.2.1, S13.2.2)) n else none := rfl
theorem B_119_24 {X : Nat × (Nat → Int32)} {d : Nat} (n : Nat) (y1 : Int32) (w2 : Value) (y3 : Int32) (y4 : Int32) (v8 : Int32) (y5 : Int32) (v10 : Int32) (y6 : Int32) (S13 : St) : ex X d 119 205 [.ref 29, .int y1, w2, .int y3, .int (y4 + v8), .int (y5 + v10), .int y6] [] (hh (xa_u S13.1 29 7 y6, S13.2.1, S13.2.2)) (n + 2) = ex X d 119 99 [.ref 29, .int y1, w2, .int y3, .int (y4 + v8), .int (y5 + v10), .int (y6 + 1)] [] (hh (xa_u S13.1 29 7 y6, S13.2.1, S13.2.2)) n := rfl
theorem B_119_25 {X : Nat × (Nat → Int32)} {d : Nat} (n : Nat) (y1 : Int32) (w2 : Value) (y3 : Int32) (y4 : Int32) (v8 : Int32) (y5 : Int32) (v10 : Int32) (y6 : Int32) (v11 : Int32) (S11 : St) : ex X d 119 182 [.ref 29, .int y1, w2, .int y3, .int (y4 + v8), .int (y5 + v10), .int y6] [.int v11, .ref 29] (hh S11) (n + 1) = if v11 = 0 then ex X d 119 185 [.ref 29, .int y1, w2, .int y3, .int (y4 + v8), .int (y5 + v10), .int y6] [.ref 29] (hh S11) n else ex X d 119 196 [.ref 29, .int y1, w2, .int y3, .int (y4 + v8), .int (y5 + v10), .int y6] [.ref 29] (hh S11) n := rfl
theorem B_119_26 {X : Nat × (Nat → Int32)} {d : Nat} (n : Nat) (y1 : Int32) (w2 : Value) (y3 : Int32) (y4 : Int32) (v8 : Int32) (y5 : Int32) (v10 : Int32) (y6 : Int32) (S11 : St) : ex X d 119 196 [.ref 29, .int y1, w2, .int y3, .int (y4 + v8), .int (y5 + v10), .int y6] [.ref 29] (hh S11) (n + 3) = if (kd 29).1 = 10 + 8 ∧ (xf_k 8 7 = 0 ∨ (xf_k 8 7 = 1 ∧ (y6 = 0 ∨ y6 = 1))) then ex X d 119 205 [.ref 29, .int y1, w2, .int y3, .int (y4 + v8), .int (y5 + v10), .int y6] [] (hh (xa_u S11.1 29 7 y6, S11.2.1, S11.2.2)) n else none := rfl
theorem B_119_27 {X : Nat × (Nat → Int32)} {d : Nat} (n : Nat) (y1 : Int32) (w2 : Value) (y3 : Int32) (y4 : Int32) (v8 : Int32) (y5 : Int32) (v10 : Int32) (y6 : Int32) (S11 : St) : ex X d 119 205 [.ref 29, .int y1, w2, .int y3, .int (y4 + v8), .int (y5 + v10), .int y6] [] (hh (xa_u S11.1 29 7 y6, S11.2.1, S11.2.2)) (n + 2) = ex X d 119 99 [.ref 29, .int y1, w2, .int y3, .int (y4 + v8), .int (y5 + v10), .int (y6 + 1)] [] (hh (xa_u S11.1 29 7 y6, S11.2.1, S11.2.2)) n := rfl
theorem B_119_28 {X : Nat × (Nat → Int32)} {d : Nat} (n : Nat) (y1 : Int32) (w2 : Value) (y3 : Int32) (y4 : Int32) (y5 : Int32) (y6 : Int32) (S4 : St) : ex X d 119 130 [.ref 29, .int y1, w2, .int y3, .int y4, .int y5, .int y6] [] (hh S4) (n + 3) = if y3 = 245 then ex X d 119 137 [.ref 29, .int y1, w2, .int y3, .int y4, .int y5, .int y6] [] (hh S4) n else ex X d 119 211 [.ref 29, .int y1, w2, .int y3, .int y4, .int y5, .int y6] [] (hh S4) n := rfl
theorem B_119_29 {X : Nat × (Nat → Int32)} {d : Nat} (n : Nat) (y1 : Int32) (w2 : Value) (y3 : Int32) (y4 : Int32) (y5 : Int32) (y6 : Int32) (S4 : St) : ex X (d + 1) 119 211 [.ref 29, .int y1, w2, .int y3, .int y4, .int y5, .int y6] [] (hh S4) (n + 4) = (match ex X d 121 0 [.ref 29, .int y1, .int y6] [] (hh S4) n with | some (v, h') => ex X (d + 1) 119 218 [.ref 29, .int y1, w2, .int y3, .int y4, .int y5, .int y6] (v.toList ++ []) h' n | none => none) := rfl
theorem B_119_30 {X : Nat × (Nat → Int32)} {d : Nat} (n : Nat) (y1 : Int32) (w2 : Value) (y3 : Int32) (y4 : Int32) (y5 : Int32) (y6 : Int32) (S15 : St) : ex X d 119 218 [.ref 29, .int y1, w2, .int y3, .int y4, .int y5, .int y6] [] (hh S15) (n + 2) = ex X d 119 99 [.ref 29, .int y1, w2, .int y3, .int y4, .int y5, .int (y6 + 2)] [] (hh S15) n := rfl
set_option maxRecDepth 200000 in
theorem TL_119_0 {X : Nat × (Nat → Int32)} : ∀ (n : Nat) (S : St) (y1 : Int32) (y3 : Int32) (y4 : Int32) (y5 : Int32) (y6 : Int32) (r : Int32) (S' : St), GL_119_0 n S y1 y3 y4 y5 y6 = some (r, S') → ∀ (w2 : Value), Ev X 3 119 99 [.ref 29, .int y1, w2, .int y3, .int y4, .int y5, .int y6] [] (hh S) (xI r, hh S') := by
  intro n
  induction n with
  | zero => intro S y1 y3 y4 y5 y6 r S' hG; simp [GL_119_0] at hG
  | succ n ih =>
    intro S y1 y3 y4 y5 y6 r S' hG w2
    rw [GL_119_0] at hG
    by_cases c1 : 0 ≤ (S.1 29 7)
    · rw [if_pos c1] at hG
      refine Ev.t (c := 0 ≤ (S.1 29 7)) (p1 := 224) (L1 := [.ref 29, .int y1, w2, .int y3, .int y4, .int y5, .int y6]) (s1 := []) (h1 := hh S) (p2 := 106) (L2 := [.ref 29, .int y1, w2, .int y3, .int y4, .int y5, .int y6]) (s2 := []) (h2 := hh S) 3 (fun n => B_119_1 n y1 w2 y3 y4 y5 y6 S) c1 ?_
      obtain ⟨e1, e2⟩ := Prod.mk.inj (Option.some.inj hG)
      subst e1
      subst e2
      exact Ev.r 2 (fun n => rfl)
    · rw [if_neg c1] at hG
      refine Ev.f (c := 0 ≤ (S.1 29 7)) (p1 := 224) (L1 := [.ref 29, .int y1, w2, .int y3, .int y4, .int y5, .int y6]) (s1 := []) (h1 := hh S) (p2 := 106) (L2 := [.ref 29, .int y1, w2, .int y3, .int y4, .int y5, .int y6]) (s2 := []) (h2 := hh S) 3 (fun n => B_119_2 n y1 w2 y3 y4 y5 y6 S) c1 ?_
      by_cases g2 : xa_in y1 4
      rotate_left
      · rw [if_neg g2] at hG; cases hG
      rw [if_pos g2] at hG
      refine Ev.g (c := (kd 34).1 = 0 ∧ xa_in y1 (kd 34).2) (p1 := 114) (L1 := [.ref 29, .int y1, w2, .int y3, .int y4, .int y5, .int y6]) (s1 := [.int (S.1 34 (y1).toNatClampNeg), .int y6]) (h1 := hh S) 5 (fun n => B_119_3 n y1 w2 y3 y4 y5 y6 S) (⟨rfl, g2⟩) ?_
      by_cases c3 : (S.1 34 (y1).toNatClampNeg) ≤ y6
      · rw [if_pos c3] at hG
        refine Ev.t (c := (S.1 34 (y1).toNatClampNeg) ≤ y6) (p1 := 224) (L1 := [.ref 29, .int y1, w2, .int y3, .int y4, .int y5, .int y6]) (s1 := []) (h1 := hh S) (p2 := 117) (L2 := [.ref 29, .int y1, w2, .int y3, .int y4, .int y5, .int y6]) (s2 := []) (h2 := hh S) 1 (fun n => B_119_4 n y1 w2 y3 y4 y5 y6 S) c3 ?_
        obtain ⟨e1, e2⟩ := Prod.mk.inj (Option.some.inj hG)
        subst e1
        subst e2
        exact Ev.r 2 (fun n => rfl)
      · rw [if_neg c3] at hG
        refine Ev.f (c := (S.1 34 (y1).toNatClampNeg) ≤ y6) (p1 := 224) (L1 := [.ref 29, .int y1, w2, .int y3, .int y4, .int y5, .int y6]) (s1 := []) (h1 := hh S) (p2 := 117) (L2 := [.ref 29, .int y1, w2, .int y3, .int y4, .int y5, .int y6]) (s2 := []) (h2 := hh S) 1 (fun n => B_119_5 n y1 w2 y3 y4 y5 y6 S) c3 ?_
        rcases h4 : G_118 S y1 y6 with _ | ⟨v4, S4⟩
        · rw [h4] at hG; cases hG
        rw [h4] at hG
        dsimp only at hG
        refine Ev.c (a := 118) (A := [.ref 29, .int y1, .int y6]) (h1 := hh S) (pc' := 124) (L' := [.ref 29, .int y1, w2, .int y3, .int y4, .int y5, .int y6]) (rest := []) (r1 := some (.int v4)) (h2 := hh S4) 4 (fun n => B_119_6 n y1 w2 y3 y4 y5 y6 S) (Ev.up (by decide) (T_118 S y1 y6 _ _ h4)) ?_
        show Ev X _ 119 124 [.ref 29, .int y1, w2, .int y3, .int y4, .int y5, .int y6] [.int v4] (hh S4) _
        by_cases c5 : 240 ≤ v4
        · rw [if_pos c5] at hG
          refine Ev.t (c := 240 ≤ v4) (p1 := 224) (L1 := [.ref 29, .int y1, w2, .int y3, .int y4, .int y5, .int y6]) (s1 := []) (h1 := hh S4) (p2 := 130) (L2 := [.ref 29, .int y1, w2, .int y3, .int y4, .int y5, .int y6]) (s2 := []) (h2 := hh S4) 2 (fun n => B_119_7 n y1 w2 y3 y4 y5 y6 v4 S4) c5 ?_
          obtain ⟨e1, e2⟩ := Prod.mk.inj (Option.some.inj hG)
          subst e1
          subst e2
          exact Ev.r 2 (fun n => rfl)
        · rw [if_neg c5] at hG
          refine Ev.f (c := 240 ≤ v4) (p1 := 224) (L1 := [.ref 29, .int y1, w2, .int y3, .int y4, .int y5, .int y6]) (s1 := []) (h1 := hh S4) (p2 := 130) (L2 := [.ref 29, .int y1, w2, .int y3, .int y4, .int y5, .int y6]) (s2 := []) (h2 := hh S4) 2 (fun n => B_119_8 n y1 w2 y3 y4 y5 y6 v4 S4) c5 ?_
          by_cases c6 : y3 = 245
          · rw [if_pos c6] at hG
            refine Ev.t (c := y3 = 245) (p1 := 137) (L1 := [.ref 29, .int y1, w2, .int y3, .int y4, .int y5, .int y6]) (s1 := []) (h1 := hh S4) (p2 := 211) (L2 := [.ref 29, .int y1, w2, .int y3, .int y4, .int y5, .int y6]) (s2 := []) (h2 := hh S4) 3 (fun n => B_119_9 n y1 w2 y3 y4 y5 y6 S4) c6 ?_
            rcases h7 : G_118 S4 y1 y6 with _ | ⟨v7, S7⟩
            · rw [h7] at hG; cases hG
            rw [h7] at hG
            dsimp only at hG
            refine Ev.c (a := 118) (A := [.ref 29, .int y1, .int y6]) (h1 := hh S4) (pc' := 146) (L' := [.ref 29, .int y1, w2, .int y3, .int y4, .int y5, .int y6]) (rest := [.int y4]) (r1 := some (.int v7)) (h2 := hh S7) 5 (fun n => B_119_10 n y1 w2 y3 y4 y5 y6 S4) (Ev.up (by decide) (T_118 S4 y1 y6 _ _ h7)) ?_
            show Ev X _ 119 146 [.ref 29, .int y1, w2, .int y3, .int y4, .int y5, .int y6] [.int v7, .int y4] (hh S7) _
            refine Ev.z (c := (16 : Int32) = 0) (p1 := 149) (L1 := [.ref 29, .int y1, w2, .int y3, .int y4, .int y5, .int y6]) (s1 := [.int (v7 / 16), .int y4]) (h1 := hh S7) 2 (fun n => B_119_11 n y1 w2 y3 y4 y5 y6 v7 S7) (by decide) ?_
            rcases h8 : G_122 S7 (v7 / 16) with _ | ⟨v8, S8⟩
            · rw [h8] at hG; cases hG
            rw [h8] at hG
            dsimp only at hG
            refine Ev.c (a := 122) (A := [.int (v7 / 16)]) (h1 := hh S7) (pc' := 152) (L' := [.ref 29, .int y1, w2, .int y3, .int y4, .int y5, .int y6]) (rest := [.int y4]) (r1 := some (.int v8)) (h2 := hh S8) 1 (fun n => B_119_12 n y1 w2 y3 y4 y5 y6 v7 S7) (Ev.up (by decide) (T_122 S7 (v7 / 16) _ _ h8)) ?_
            show Ev X _ 119 152 [.ref 29, .int y1, w2, .int y3, .int y4, .int y5, .int y6] [.int v8, .int y4] (hh S8) _
            rcases h9 : G_118 S8 y1 y6 with _ | ⟨v9, S9⟩
            · rw [h9] at hG; cases hG
            rw [h9] at hG
            dsimp only at hG
            refine Ev.c (a := 118) (A := [.ref 29, .int y1, .int y6]) (h1 := hh S8) (pc' := 164) (L' := [.ref 29, .int y1, w2, .int y3, .int (y4 + v8), .int y5, .int y6]) (rest := [.int y5]) (r1 := some (.int v9)) (h2 := hh S9) 7 (fun n => B_119_13 n y1 w2 y3 y4 y5 y6 v8 S8) (Ev.up (by decide) (T_118 S8 y1 y6 _ _ h9)) ?_
            show Ev X _ 119 164 [.ref 29, .int y1, w2, .int y3, .int (y4 + v8), .int y5, .int y6] [.int v9, .int y5] (hh S9) _
            refine Ev.z (c := (16 : Int32) = 0) (p1 := 167) (L1 := [.ref 29, .int y1, w2, .int y3, .int (y4 + v8), .int y5, .int y6]) (s1 := [.int (v9 - v9 / 16 * 16), .int y5]) (h1 := hh S9) 2 (fun n => B_119_14 n y1 w2 y3 y4 v8 y5 y6 v9 S9) (by decide) ?_
            rcases h10 : G_122 S9 (v9 - v9 / 16 * 16) with _ | ⟨v10, S10⟩
            · rw [h10] at hG; cases hG
            rw [h10] at hG
            dsimp only at hG
            refine Ev.c (a := 122) (A := [.int (v9 - v9 / 16 * 16)]) (h1 := hh S9) (pc' := 170) (L' := [.ref 29, .int y1, w2, .int y3, .int (y4 + v8), .int y5, .int y6]) (rest := [.int y5]) (r1 := some (.int v10)) (h2 := hh S10) 1 (fun n => B_119_15 n y1 w2 y3 y4 v8 y5 y6 v9 S9) (Ev.up (by decide) (T_122 S9 (v9 - v9 / 16 * 16) _ _ h10)) ?_
            show Ev X _ 119 170 [.ref 29, .int y1, w2, .int y3, .int (y4 + v8), .int y5, .int y6] [.int v10, .int y5] (hh S10) _
            rcases h11 : G_115 S10 (y4 + v8) (0 : Int32) (15 : Int32) with _ | ⟨v11, S11⟩
            · rw [h11] at hG; cases hG
            rw [h11] at hG
            dsimp only at hG
            refine Ev.c (a := 115) (A := [.int (y4 + v8), .int 0, .int 15]) (h1 := hh S10) (pc' := 182) (L' := [.ref 29, .int y1, w2, .int y3, .int (y4 + v8), .int (y5 + v10), .int y6]) (rest := [.ref 29]) (r1 := some (.int v11)) (h2 := hh S11) 7 (fun n => B_119_16 n y1 w2 y3 y4 v8 y5 y6 v10 S10) (Ev.up (by decide) (T_115 S10 (y4 + v8) (0 : Int32) (15 : Int32) _ _ h11)) ?_
            show Ev X _ 119 182 [.ref 29, .int y1, w2, .int y3, .int (y4 + v8), .int (y5 + v10), .int y6] [.int v11, .ref 29] (hh S11) _
            by_cases c12 : v11 = 0
            · rw [if_pos c12] at hG
              refine Ev.t (c := v11 = 0) (p1 := 185) (L1 := [.ref 29, .int y1, w2, .int y3, .int (y4 + v8), .int (y5 + v10), .int y6]) (s1 := [.ref 29]) (h1 := hh S11) (p2 := 196) (L2 := [.ref 29, .int y1, w2, .int y3, .int (y4 + v8), .int (y5 + v10), .int y6]) (s2 := [.ref 29]) (h2 := hh S11) 1 (fun n => B_119_17 n y1 w2 y3 y4 v8 y5 v10 y6 v11 S11) c12 ?_
              rcases h13 : G_115 S11 (y5 + v10) (0 : Int32) (11 : Int32) with _ | ⟨v13, S13⟩
              · rw [h13] at hG; cases hG
              rw [h13] at hG
              dsimp only at hG
              refine Ev.c (a := 115) (A := [.int (y5 + v10), .int 0, .int 11]) (h1 := hh S11) (pc' := 193) (L' := [.ref 29, .int y1, w2, .int y3, .int (y4 + v8), .int (y5 + v10), .int y6]) (rest := [.ref 29]) (r1 := some (.int v13)) (h2 := hh S13) 4 (fun n => B_119_18 n y1 w2 y3 y4 v8 y5 v10 y6 S11) (Ev.up (by decide) (T_115 S11 (y5 + v10) (0 : Int32) (11 : Int32) _ _ h13)) ?_
              show Ev X _ 119 193 [.ref 29, .int y1, w2, .int y3, .int (y4 + v8), .int (y5 + v10), .int y6] [.int v13, .ref 29] (hh S13) _
              by_cases c14 : v13 = 0
              · rw [if_pos c14] at hG
                refine Ev.t (c := v13 = 0) (p1 := 201) (L1 := [.ref 29, .int y1, w2, .int y3, .int (y4 + v8), .int (y5 + v10), .int y6]) (s1 := [.ref 29]) (h1 := hh S13) (p2 := 196) (L2 := [.ref 29, .int y1, w2, .int y3, .int (y4 + v8), .int (y5 + v10), .int y6]) (s2 := [.ref 29]) (h2 := hh S13) 1 (fun n => B_119_19 n y1 w2 y3 y4 v8 y5 v10 y6 v13 S13) c14 ?_
                refine Ev.g (c := (kd 29).1 = 10 + 8 ∧ (xf_k 8 7 = 0 ∨ (xf_k 8 7 = 1 ∧ (((-1) : Int32) = 0 ∨ ((-1) : Int32) = 1)))) (p1 := 205) (L1 := [.ref 29, .int y1, w2, .int y3, .int (y4 + v8), .int (y5 + v10), .int y6]) (s1 := []) (h1 := hh (xa_u S13.1 29 7 (-1), S13.2.1, S13.2.2)) 2 (fun n => B_119_20 n y1 w2 y3 y4 v8 y5 v10 y6 S13) (⟨rfl, Or.inl rfl⟩) ?_
                exact Ev.b (pc' := 99) (L' := [.ref 29, .int y1, w2, .int y3, .int (y4 + v8), .int (y5 + v10), .int (y6 + 1)]) (st' := []) (h' := hh (xa_u S13.1 29 7 (-1), S13.2.1, S13.2.2)) 2 (fun n => B_119_21 n y1 w2 y3 y4 v8 y5 v10 y6 S13) (ih (xa_u S13.1 29 7 (-1), S13.2.1, S13.2.2) y1 y3 (y4 + v8) (y5 + v10) (y6 + 1) _ _ hG w2)
              · rw [if_neg c14] at hG
                refine Ev.f (c := v13 = 0) (p1 := 201) (L1 := [.ref 29, .int y1, w2, .int y3, .int (y4 + v8), .int (y5 + v10), .int y6]) (s1 := [.ref 29]) (h1 := hh S13) (p2 := 196) (L2 := [.ref 29, .int y1, w2, .int y3, .int (y4 + v8), .int (y5 + v10), .int y6]) (s2 := [.ref 29]) (h2 := hh S13) 1 (fun n => B_119_22 n y1 w2 y3 y4 v8 y5 v10 y6 v13 S13) c14 ?_
                refine Ev.g (c := (kd 29).1 = 10 + 8 ∧ (xf_k 8 7 = 0 ∨ (xf_k 8 7 = 1 ∧ (y6 = 0 ∨ y6 = 1)))) (p1 := 205) (L1 := [.ref 29, .int y1, w2, .int y3, .int (y4 + v8), .int (y5 + v10), .int y6]) (s1 := []) (h1 := hh (xa_u S13.1 29 7 y6, S13.2.1, S13.2.2)) 3 (fun n => B_119_23 n y1 w2 y3 y4 v8 y5 v10 y6 S13) (⟨rfl, Or.inl rfl⟩) ?_
                exact Ev.b (pc' := 99) (L' := [.ref 29, .int y1, w2, .int y3, .int (y4 + v8), .int (y5 + v10), .int (y6 + 1)]) (st' := []) (h' := hh (xa_u S13.1 29 7 y6, S13.2.1, S13.2.2)) 2 (fun n => B_119_24 n y1 w2 y3 y4 v8 y5 v10 y6 S13) (ih (xa_u S13.1 29 7 y6, S13.2.1, S13.2.2) y1 y3 (y4 + v8) (y5 + v10) (y6 + 1) _ _ hG w2)
            · rw [if_neg c12] at hG
              refine Ev.f (c := v11 = 0) (p1 := 185) (L1 := [.ref 29, .int y1, w2, .int y3, .int (y4 + v8), .int (y5 + v10), .int y6]) (s1 := [.ref 29]) (h1 := hh S11) (p2 := 196) (L2 := [.ref 29, .int y1, w2, .int y3, .int (y4 + v8), .int (y5 + v10), .int y6]) (s2 := [.ref 29]) (h2 := hh S11) 1 (fun n => B_119_25 n y1 w2 y3 y4 v8 y5 v10 y6 v11 S11) c12 ?_
              refine Ev.g (c := (kd 29).1 = 10 + 8 ∧ (xf_k 8 7 = 0 ∨ (xf_k 8 7 = 1 ∧ (y6 = 0 ∨ y6 = 1)))) (p1 := 205) (L1 := [.ref 29, .int y1, w2, .int y3, .int (y4 + v8), .int (y5 + v10), .int y6]) (s1 := []) (h1 := hh (xa_u S11.1 29 7 y6, S11.2.1, S11.2.2)) 3 (fun n => B_119_26 n y1 w2 y3 y4 v8 y5 v10 y6 S11) (⟨rfl, Or.inl rfl⟩) ?_
              exact Ev.b (pc' := 99) (L' := [.ref 29, .int y1, w2, .int y3, .int (y4 + v8), .int (y5 + v10), .int (y6 + 1)]) (st' := []) (h' := hh (xa_u S11.1 29 7 y6, S11.2.1, S11.2.2)) 2 (fun n => B_119_27 n y1 w2 y3 y4 v8 y5 v10 y6 S11) (ih (xa_u S11.1 29 7 y6, S11.2.1, S11.2.2) y1 y3 (y4 + v8) (y5 + v10) (y6 + 1) _ _ hG w2)
          · rw [if_neg c6] at hG
            refine Ev.f (c := y3 = 245) (p1 := 137) (L1 := [.ref 29, .int y1, w2, .int y3, .int y4, .int y5, .int y6]) (s1 := []) (h1 := hh S4) (p2 := 211) (L2 := [.ref 29, .int y1, w2, .int y3, .int y4, .int y5, .int y6]) (s2 := []) (h2 := hh S4) 3 (fun n => B_119_28 n y1 w2 y3 y4 y5 y6 S4) c6 ?_
            rcases h15 : G_121 S4 y1 y6 with _ | ⟨v15, S15⟩
            · rw [h15] at hG; cases hG
            rw [h15] at hG
            dsimp only at hG
            refine Ev.c (a := 121) (A := [.ref 29, .int y1, .int y6]) (h1 := hh S4) (pc' := 218) (L' := [.ref 29, .int y1, w2, .int y3, .int y4, .int y5, .int y6]) (rest := []) (r1 := none) (h2 := hh S15) 4 (fun n => B_119_29 n y1 w2 y3 y4 y5 y6 S4) (Ev.up (by decide) (T_121 S4 y1 y6 _ _ h15)) ?_
            show Ev X _ 119 218 [.ref 29, .int y1, w2, .int y3, .int y4, .int y5, .int y6] [] (hh S15) _
            exact Ev.b (pc' := 99) (L' := [.ref 29, .int y1, w2, .int y3, .int y4, .int y5, .int (y6 + 2)]) (st' := []) (h' := hh S15) 2 (fun n => B_119_30 n y1 w2 y3 y4 y5 y6 S15) (ih S15 y1 y3 y4 y5 (y6 + 2) _ _ hG w2)
def G_119 (S : St) (x1 : Int32) (x2 : Int32) : Option (Int32 × St) :=
  (match G_118 S x1 x2 with
  | none => none
  | some (v16, S16) =>
    (if v16 = 241 then
      some ((x2 + 1), S16)
    else
      (if v16 = 243 then
        some ((x2 + 1), S16)
      else
        (if v16 = 240 then
          (match G_120 S16 x1 (x2 + 1) (0 : Int32) (15 : Int32) with
          | none => none
          | some (v20, S20) =>
            some ((x2 + 2), S20)
          )
        else
          (if v16 = 242 then
            (match G_120 S16 x1 (x2 + 1) (0 : Int32) (15 : Int32) with
            | none => none
            | some (v22, S22) =>
              some ((x2 + 2), S22)
            )
          else
            (match G_120 S16 x1 x2 (244 : Int32) (246 : Int32) with
            | none => none
            | some (v23, S23) =>
              (match G_121 S23 x1 (x2 + 1) with
              | none => none
              | some (v24, S24) =>
                (match G_118 S24 x1 (x2 + 1) with
                | none => none
                | some (v25, S25) =>
                  (match G_118 S25 x1 (x2 + 2) with
                  | none => none
                  | some (v26, S26) =>
                    GL_119_0 xFu S26 x1 v16 v25 v26 (x2 + 3)
                  )
                )
              )
            )
          )
        )
      )
    )
  )
theorem B_119_31 {X : Nat × (Nat → Int32)} {d : Nat} (n : Nat) (x1 : Int32) (x2 : Int32) (S : St) : ex X (d + 1) 119 0 [.ref 29, .int x1, .int x2, .retAddr 0, .retAddr 0, .retAddr 0, .retAddr 0] [] (hh S) (n + 4) = (match ex X d 118 0 [.ref 29, .int x1, .int x2] [] (hh S) n with | some (v, h') => ex X (d + 1) 119 6 [.ref 29, .int x1, .int x2, .retAddr 0, .retAddr 0, .retAddr 0, .retAddr 0] (v.toList ++ []) h' n | none => none) := rfl
theorem B_119_32 {X : Nat × (Nat → Int32)} {d : Nat} (n : Nat) (x1 : Int32) (x2 : Int32) (v16 : Int32) (S16 : St) : ex X d 119 6 [.ref 29, .int x1, .int x2, .retAddr 0, .retAddr 0, .retAddr 0, .retAddr 0] [.int v16] (hh S16) (n + 4) = if v16 = 241 then ex X d 119 21 [.ref 29, .int x1, .int x2, .int v16, .retAddr 0, .retAddr 0, .retAddr 0] [] (hh S16) n else ex X d 119 14 [.ref 29, .int x1, .int x2, .int v16, .retAddr 0, .retAddr 0, .retAddr 0] [] (hh S16) n := rfl
theorem B_119_33 {X : Nat × (Nat → Int32)} {d : Nat} (n : Nat) (x1 : Int32) (x2 : Int32) (v16 : Int32) (S16 : St) : ex X d 119 6 [.ref 29, .int x1, .int x2, .retAddr 0, .retAddr 0, .retAddr 0, .retAddr 0] [.int v16] (hh S16) (n + 4) = if v16 = 241 then ex X d 119 21 [.ref 29, .int x1, .int x2, .int v16, .retAddr 0, .retAddr 0, .retAddr 0] [] (hh S16) n else ex X d 119 14 [.ref 29, .int x1, .int x2, .int v16, .retAddr 0, .retAddr 0, .retAddr 0] [] (hh S16) n := rfl
theorem B_119_34 {X : Nat × (Nat → Int32)} {d : Nat} (n : Nat) (x1 : Int32) (x2 : Int32) (v16 : Int32) (S16 : St) : ex X d 119 14 [.ref 29, .int x1, .int x2, .int v16, .retAddr 0, .retAddr 0, .retAddr 0] [] (hh S16) (n + 3) = if v16 = 243 then ex X d 119 21 [.ref 29, .int x1, .int x2, .int v16, .retAddr 0, .retAddr 0, .retAddr 0] [] (hh S16) n else ex X d 119 25 [.ref 29, .int x1, .int x2, .int v16, .retAddr 0, .retAddr 0, .retAddr 0] [] (hh S16) n := rfl
theorem B_119_35 {X : Nat × (Nat → Int32)} {d : Nat} (n : Nat) (x1 : Int32) (x2 : Int32) (v16 : Int32) (S16 : St) : ex X d 119 14 [.ref 29, .int x1, .int x2, .int v16, .retAddr 0, .retAddr 0, .retAddr 0] [] (hh S16) (n + 3) = if v16 = 243 then ex X d 119 21 [.ref 29, .int x1, .int x2, .int v16, .retAddr 0, .retAddr 0, .retAddr 0] [] (hh S16) n else ex X d 119 25 [.ref 29, .int x1, .int x2, .int v16, .retAddr 0, .retAddr 0, .retAddr 0] [] (hh S16) n := rfl
theorem B_119_36 {X : Nat × (Nat → Int32)} {d : Nat} (n : Nat) (x1 : Int32) (x2 : Int32) (v16 : Int32) (S16 : St) : ex X d 119 25 [.ref 29, .int x1, .int x2, .int v16, .retAddr 0, .retAddr 0, .retAddr 0] [] (hh S16) (n + 3) = if v16 = 240 then ex X d 119 39 [.ref 29, .int x1, .int x2, .int v16, .retAddr 0, .retAddr 0, .retAddr 0] [] (hh S16) n else ex X d 119 32 [.ref 29, .int x1, .int x2, .int v16, .retAddr 0, .retAddr 0, .retAddr 0] [] (hh S16) n := rfl
theorem B_119_37 {X : Nat × (Nat → Int32)} {d : Nat} (n : Nat) (x1 : Int32) (x2 : Int32) (v16 : Int32) (S16 : St) : ex X (d + 1) 119 39 [.ref 29, .int x1, .int x2, .int v16, .retAddr 0, .retAddr 0, .retAddr 0] [] (hh S16) (n + 8) = (match ex X d 120 0 [.ref 29, .int x1, .int (x2 + 1), .int 0, .int 15] [] (hh S16) n with | some (v, h') => ex X (d + 1) 119 50 [.ref 29, .int x1, .int x2, .int v16, .retAddr 0, .retAddr 0, .retAddr 0] (v.toList ++ []) h' n | none => none) := rfl
theorem B_119_38 {X : Nat × (Nat → Int32)} {d : Nat} (n : Nat) (x1 : Int32) (x2 : Int32) (v16 : Int32) (S16 : St) : ex X d 119 25 [.ref 29, .int x1, .int x2, .int v16, .retAddr 0, .retAddr 0, .retAddr 0] [] (hh S16) (n + 3) = if v16 = 240 then ex X d 119 39 [.ref 29, .int x1, .int x2, .int v16, .retAddr 0, .retAddr 0, .retAddr 0] [] (hh S16) n else ex X d 119 32 [.ref 29, .int x1, .int x2, .int v16, .retAddr 0, .retAddr 0, .retAddr 0] [] (hh S16) n := rfl
theorem B_119_39 {X : Nat × (Nat → Int32)} {d : Nat} (n : Nat) (x1 : Int32) (x2 : Int32) (v16 : Int32) (S16 : St) : ex X d 119 32 [.ref 29, .int x1, .int x2, .int v16, .retAddr 0, .retAddr 0, .retAddr 0] [] (hh S16) (n + 3) = if v16 = 242 then ex X d 119 39 [.ref 29, .int x1, .int x2, .int v16, .retAddr 0, .retAddr 0, .retAddr 0] [] (hh S16) n else ex X d 119 54 [.ref 29, .int x1, .int x2, .int v16, .retAddr 0, .retAddr 0, .retAddr 0] [] (hh S16) n := rfl
theorem B_119_40 {X : Nat × (Nat → Int32)} {d : Nat} (n : Nat) (x1 : Int32) (x2 : Int32) (v16 : Int32) (S16 : St) : ex X (d + 1) 119 39 [.ref 29, .int x1, .int x2, .int v16, .retAddr 0, .retAddr 0, .retAddr 0] [] (hh S16) (n + 8) = (match ex X d 120 0 [.ref 29, .int x1, .int (x2 + 1), .int 0, .int 15] [] (hh S16) n with | some (v, h') => ex X (d + 1) 119 50 [.ref 29, .int x1, .int x2, .int v16, .retAddr 0, .retAddr 0, .retAddr 0] (v.toList ++ []) h' n | none => none) := rfl
theorem B_119_41 {X : Nat × (Nat → Int32)} {d : Nat} (n : Nat) (x1 : Int32) (x2 : Int32) (v16 : Int32) (S16 : St) : ex X d 119 32 [.ref 29, .int x1, .int x2, .int v16, .retAddr 0, .retAddr 0, .retAddr 0] [] (hh S16) (n + 3) = if v16 = 242 then ex X d 119 39 [.ref 29, .int x1, .int x2, .int v16, .retAddr 0, .retAddr 0, .retAddr 0] [] (hh S16) n else ex X d 119 54 [.ref 29, .int x1, .int x2, .int v16, .retAddr 0, .retAddr 0, .retAddr 0] [] (hh S16) n := rfl
theorem B_119_42 {X : Nat × (Nat → Int32)} {d : Nat} (n : Nat) (x1 : Int32) (x2 : Int32) (v16 : Int32) (S16 : St) : ex X (d + 1) 119 54 [.ref 29, .int x1, .int x2, .int v16, .retAddr 0, .retAddr 0, .retAddr 0] [] (hh S16) (n + 6) = (match ex X d 120 0 [.ref 29, .int x1, .int x2, .int 244, .int 246] [] (hh S16) n with | some (v, h') => ex X (d + 1) 119 66 [.ref 29, .int x1, .int x2, .int v16, .retAddr 0, .retAddr 0, .retAddr 0] (v.toList ++ []) h' n | none => none) := rfl
theorem B_119_43 {X : Nat × (Nat → Int32)} {d : Nat} (n : Nat) (x1 : Int32) (x2 : Int32) (v16 : Int32) (S23 : St) : ex X (d + 1) 119 66 [.ref 29, .int x1, .int x2, .int v16, .retAddr 0, .retAddr 0, .retAddr 0] [] (hh S23) (n + 6) = (match ex X d 121 0 [.ref 29, .int x1, .int (x2 + 1)] [] (hh S23) n with | some (v, h') => ex X (d + 1) 119 74 [.ref 29, .int x1, .int x2, .int v16, .retAddr 0, .retAddr 0, .retAddr 0] (v.toList ++ []) h' n | none => none) := rfl
theorem B_119_44 {X : Nat × (Nat → Int32)} {d : Nat} (n : Nat) (x1 : Int32) (x2 : Int32) (v16 : Int32) (S24 : St) : ex X (d + 1) 119 74 [.ref 29, .int x1, .int x2, .int v16, .retAddr 0, .retAddr 0, .retAddr 0] [] (hh S24) (n + 6) = (match ex X d 118 0 [.ref 29, .int x1, .int (x2 + 1)] [] (hh S24) n with | some (v, h') => ex X (d + 1) 119 82 [.ref 29, .int x1, .int x2, .int v16, .retAddr 0, .retAddr 0, .retAddr 0] (v.toList ++ []) h' n | none => none) := rfl
theorem B_119_45 {X : Nat × (Nat → Int32)} {d : Nat} (n : Nat) (x1 : Int32) (x2 : Int32) (v16 : Int32) (v25 : Int32) (S25 : St) : ex X (d + 1) 119 82 [.ref 29, .int x1, .int x2, .int v16, .retAddr 0, .retAddr 0, .retAddr 0] [.int v25] (hh S25) (n + 7) = (match ex X d 118 0 [.ref 29, .int x1, .int (x2 + 2)] [] (hh S25) n with | some (v, h') => ex X (d + 1) 119 92 [.ref 29, .int x1, .int x2, .int v16, .int v25, .retAddr 0, .retAddr 0] (v.toList ++ []) h' n | none => none) := rfl
theorem B_119_46 {X : Nat × (Nat → Int32)} {d : Nat} (n : Nat) (x1 : Int32) (x2 : Int32) (v16 : Int32) (v25 : Int32) (v26 : Int32) (S26 : St) : ex X d 119 92 [.ref 29, .int x1, .int x2, .int v16, .int v25, .retAddr 0, .retAddr 0] [.int v26] (hh S26) (n + 5) = ex X d 119 99 [.ref 29, .int x1, .int x2, .int v16, .int v25, .int v26, .int (x2 + 3)] [] (hh S26) n := rfl
set_option maxRecDepth 200000 in
theorem T_119 {X : Nat × (Nat → Int32)} (S : St) (x1 : Int32) (x2 : Int32) (r : Int32) (S' : St) (hG : G_119 S x1 x2 = some (r, S')) : Ev X 3 119 0 [.ref 29, .int x1, .int x2, .retAddr 0, .retAddr 0, .retAddr 0, .retAddr 0] [] (hh S) (xI r, hh S') := by
  unfold G_119 at hG
  rcases h16 : G_118 S x1 x2 with _ | ⟨v16, S16⟩
  · rw [h16] at hG; cases hG
  rw [h16] at hG
  dsimp only at hG
  refine Ev.c (a := 118) (A := [.ref 29, .int x1, .int x2]) (h1 := hh S) (pc' := 6) (L' := [.ref 29, .int x1, .int x2, .retAddr 0, .retAddr 0, .retAddr 0, .retAddr 0]) (rest := []) (r1 := some (.int v16)) (h2 := hh S16) 4 (fun n => B_119_31 n x1 x2 S) (Ev.up (by decide) (T_118 S x1 x2 _ _ h16)) ?_
  show Ev X _ 119 6 [.ref 29, .int x1, .int x2, .retAddr 0, .retAddr 0, .retAddr 0, .retAddr 0] [.int v16] (hh S16) _
  by_cases c17 : v16 = 241
  · rw [if_pos c17] at hG
    refine Ev.t (c := v16 = 241) (p1 := 21) (L1 := [.ref 29, .int x1, .int x2, .int v16, .retAddr 0, .retAddr 0, .retAddr 0]) (s1 := []) (h1 := hh S16) (p2 := 14) (L2 := [.ref 29, .int x1, .int x2, .int v16, .retAddr 0, .retAddr 0, .retAddr 0]) (s2 := []) (h2 := hh S16) 4 (fun n => B_119_32 n x1 x2 v16 S16) c17 ?_
    obtain ⟨e1, e2⟩ := Prod.mk.inj (Option.some.inj hG)
    subst e1
    subst e2
    exact Ev.r 4 (fun n => rfl)
  · rw [if_neg c17] at hG
    refine Ev.f (c := v16 = 241) (p1 := 21) (L1 := [.ref 29, .int x1, .int x2, .int v16, .retAddr 0, .retAddr 0, .retAddr 0]) (s1 := []) (h1 := hh S16) (p2 := 14) (L2 := [.ref 29, .int x1, .int x2, .int v16, .retAddr 0, .retAddr 0, .retAddr 0]) (s2 := []) (h2 := hh S16) 4 (fun n => B_119_33 n x1 x2 v16 S16) c17 ?_
    by_cases c18 : v16 = 243
    · rw [if_pos c18] at hG
      refine Ev.t (c := v16 = 243) (p1 := 21) (L1 := [.ref 29, .int x1, .int x2, .int v16, .retAddr 0, .retAddr 0, .retAddr 0]) (s1 := []) (h1 := hh S16) (p2 := 25) (L2 := [.ref 29, .int x1, .int x2, .int v16, .retAddr 0, .retAddr 0, .retAddr 0]) (s2 := []) (h2 := hh S16) 3 (fun n => B_119_34 n x1 x2 v16 S16) c18 ?_
      obtain ⟨e1, e2⟩ := Prod.mk.inj (Option.some.inj hG)
      subst e1
      subst e2
      exact Ev.r 4 (fun n => rfl)
    · rw [if_neg c18] at hG
      refine Ev.f (c := v16 = 243) (p1 := 21) (L1 := [.ref 29, .int x1, .int x2, .int v16, .retAddr 0, .retAddr 0, .retAddr 0]) (s1 := []) (h1 := hh S16) (p2 := 25) (L2 := [.ref 29, .int x1, .int x2, .int v16, .retAddr 0, .retAddr 0, .retAddr 0]) (s2 := []) (h2 := hh S16) 3 (fun n => B_119_35 n x1 x2 v16 S16) c18 ?_
      by_cases c19 : v16 = 240
      · rw [if_pos c19] at hG
        refine Ev.t (c := v16 = 240) (p1 := 39) (L1 := [.ref 29, .int x1, .int x2, .int v16, .retAddr 0, .retAddr 0, .retAddr 0]) (s1 := []) (h1 := hh S16) (p2 := 32) (L2 := [.ref 29, .int x1, .int x2, .int v16, .retAddr 0, .retAddr 0, .retAddr 0]) (s2 := []) (h2 := hh S16) 3 (fun n => B_119_36 n x1 x2 v16 S16) c19 ?_
        rcases h20 : G_120 S16 x1 (x2 + 1) (0 : Int32) (15 : Int32) with _ | ⟨v20, S20⟩
        · rw [h20] at hG; cases hG
        rw [h20] at hG
        dsimp only at hG
        refine Ev.c (a := 120) (A := [.ref 29, .int x1, .int (x2 + 1), .int 0, .int 15]) (h1 := hh S16) (pc' := 50) (L' := [.ref 29, .int x1, .int x2, .int v16, .retAddr 0, .retAddr 0, .retAddr 0]) (rest := []) (r1 := none) (h2 := hh S20) 8 (fun n => B_119_37 n x1 x2 v16 S16) (Ev.up (by decide) (T_120 S16 x1 (x2 + 1) (0 : Int32) (15 : Int32) _ _ h20)) ?_
        show Ev X _ 119 50 [.ref 29, .int x1, .int x2, .int v16, .retAddr 0, .retAddr 0, .retAddr 0] [] (hh S20) _
        obtain ⟨e1, e2⟩ := Prod.mk.inj (Option.some.inj hG)
        subst e1
        subst e2
        exact Ev.r 4 (fun n => rfl)
      · rw [if_neg c19] at hG
        refine Ev.f (c := v16 = 240) (p1 := 39) (L1 := [.ref 29, .int x1, .int x2, .int v16, .retAddr 0, .retAddr 0, .retAddr 0]) (s1 := []) (h1 := hh S16) (p2 := 32) (L2 := [.ref 29, .int x1, .int x2, .int v16, .retAddr 0, .retAddr 0, .retAddr 0]) (s2 := []) (h2 := hh S16) 3 (fun n => B_119_38 n x1 x2 v16 S16) c19 ?_
        by_cases c21 : v16 = 242
        · rw [if_pos c21] at hG
          refine Ev.t (c := v16 = 242) (p1 := 39) (L1 := [.ref 29, .int x1, .int x2, .int v16, .retAddr 0, .retAddr 0, .retAddr 0]) (s1 := []) (h1 := hh S16) (p2 := 54) (L2 := [.ref 29, .int x1, .int x2, .int v16, .retAddr 0, .retAddr 0, .retAddr 0]) (s2 := []) (h2 := hh S16) 3 (fun n => B_119_39 n x1 x2 v16 S16) c21 ?_
          rcases h22 : G_120 S16 x1 (x2 + 1) (0 : Int32) (15 : Int32) with _ | ⟨v22, S22⟩
          · rw [h22] at hG; cases hG
          rw [h22] at hG
          dsimp only at hG
          refine Ev.c (a := 120) (A := [.ref 29, .int x1, .int (x2 + 1), .int 0, .int 15]) (h1 := hh S16) (pc' := 50) (L' := [.ref 29, .int x1, .int x2, .int v16, .retAddr 0, .retAddr 0, .retAddr 0]) (rest := []) (r1 := none) (h2 := hh S22) 8 (fun n => B_119_40 n x1 x2 v16 S16) (Ev.up (by decide) (T_120 S16 x1 (x2 + 1) (0 : Int32) (15 : Int32) _ _ h22)) ?_
          show Ev X _ 119 50 [.ref 29, .int x1, .int x2, .int v16, .retAddr 0, .retAddr 0, .retAddr 0] [] (hh S22) _
          obtain ⟨e1, e2⟩ := Prod.mk.inj (Option.some.inj hG)
          subst e1
          subst e2
          exact Ev.r 4 (fun n => rfl)
        · rw [if_neg c21] at hG
          refine Ev.f (c := v16 = 242) (p1 := 39) (L1 := [.ref 29, .int x1, .int x2, .int v16, .retAddr 0, .retAddr 0, .retAddr 0]) (s1 := []) (h1 := hh S16) (p2 := 54) (L2 := [.ref 29, .int x1, .int x2, .int v16, .retAddr 0, .retAddr 0, .retAddr 0]) (s2 := []) (h2 := hh S16) 3 (fun n => B_119_41 n x1 x2 v16 S16) c21 ?_
          rcases h23 : G_120 S16 x1 x2 (244 : Int32) (246 : Int32) with _ | ⟨v23, S23⟩
          · rw [h23] at hG; cases hG
          rw [h23] at hG
          dsimp only at hG
          refine Ev.c (a := 120) (A := [.ref 29, .int x1, .int x2, .int 244, .int 246]) (h1 := hh S16) (pc' := 66) (L' := [.ref 29, .int x1, .int x2, .int v16, .retAddr 0, .retAddr 0, .retAddr 0]) (rest := []) (r1 := none) (h2 := hh S23) 6 (fun n => B_119_42 n x1 x2 v16 S16) (Ev.up (by decide) (T_120 S16 x1 x2 (244 : Int32) (246 : Int32) _ _ h23)) ?_
          show Ev X _ 119 66 [.ref 29, .int x1, .int x2, .int v16, .retAddr 0, .retAddr 0, .retAddr 0] [] (hh S23) _
          rcases h24 : G_121 S23 x1 (x2 + 1) with _ | ⟨v24, S24⟩
          · rw [h24] at hG; cases hG
          rw [h24] at hG
          dsimp only at hG
          refine Ev.c (a := 121) (A := [.ref 29, .int x1, .int (x2 + 1)]) (h1 := hh S23) (pc' := 74) (L' := [.ref 29, .int x1, .int x2, .int v16, .retAddr 0, .retAddr 0, .retAddr 0]) (rest := []) (r1 := none) (h2 := hh S24) 6 (fun n => B_119_43 n x1 x2 v16 S23) (Ev.up (by decide) (T_121 S23 x1 (x2 + 1) _ _ h24)) ?_
          show Ev X _ 119 74 [.ref 29, .int x1, .int x2, .int v16, .retAddr 0, .retAddr 0, .retAddr 0] [] (hh S24) _
          rcases h25 : G_118 S24 x1 (x2 + 1) with _ | ⟨v25, S25⟩
          · rw [h25] at hG; cases hG
          rw [h25] at hG
          dsimp only at hG
          refine Ev.c (a := 118) (A := [.ref 29, .int x1, .int (x2 + 1)]) (h1 := hh S24) (pc' := 82) (L' := [.ref 29, .int x1, .int x2, .int v16, .retAddr 0, .retAddr 0, .retAddr 0]) (rest := []) (r1 := some (.int v25)) (h2 := hh S25) 6 (fun n => B_119_44 n x1 x2 v16 S24) (Ev.up (by decide) (T_118 S24 x1 (x2 + 1) _ _ h25)) ?_
          show Ev X _ 119 82 [.ref 29, .int x1, .int x2, .int v16, .retAddr 0, .retAddr 0, .retAddr 0] [.int v25] (hh S25) _
          rcases h26 : G_118 S25 x1 (x2 + 2) with _ | ⟨v26, S26⟩
          · rw [h26] at hG; cases hG
          rw [h26] at hG
          dsimp only at hG
          refine Ev.c (a := 118) (A := [.ref 29, .int x1, .int (x2 + 2)]) (h1 := hh S25) (pc' := 92) (L' := [.ref 29, .int x1, .int x2, .int v16, .int v25, .retAddr 0, .retAddr 0]) (rest := []) (r1 := some (.int v26)) (h2 := hh S26) 7 (fun n => B_119_45 n x1 x2 v16 v25 S25) (Ev.up (by decide) (T_118 S25 x1 (x2 + 2) _ _ h26)) ?_
          show Ev X _ 119 92 [.ref 29, .int x1, .int x2, .int v16, .int v25, .retAddr 0, .retAddr 0] [.int v26] (hh S26) _
          exact Ev.b (pc' := 99) (L' := [.ref 29, .int x1, .int x2, .int v16, .int v25, .int v26, .int (x2 + 3)]) (st' := []) (h' := hh S26) 5 (fun n => B_119_46 n x1 x2 v16 v25 v26 S26) (TL_119_0 xFu S26 x1 v16 v25 v26 (x2 + 3) _ _ hG (.int x2))
/-- 117: SceneCycleModel.loadPicture()I -/
def GL_117_0 : Nat → St → Int32 → Int32 → Option (Int32 × St)
  | 0, _, _, _ => none
  | n + 1, S, y1, y2 =>
    (if 0 ≤ (S.1 29 7) then
      some (y2, S)
    else
      (match G_118 S (0 : Int32) y1 with
      | none => none
      | some (v2, S2) =>
        (if v2 = 255 then
          (if 0 ≤ (S2.1 29 7) then
            some (y2, S2)
          else
            (if (S2.1 34 ((0 : Int32)).toNatClampNeg) ≤ (y1 + 1) then
              some (y2, S2)
            else
              some (y2, (xa_u S2.1 29 7 (y1 + 1), S2.2.1, S2.2.2))
            )
          )
        else
          (match G_119 S2 (0 : Int32) y1 with
          | none => none
          | some (v6, S6) =>
            GL_117_0 n S6 v6 (y2 + 1)
          )
        )
      )
    )
theorem B_117_1 {X : Nat × (Nat → Int32)} {d : Nat} (n : Nat) (y1 : Int32) (y2 : Int32) (S : St) : ex X d 117 4 [.ref 29, .int y1, .int y2] [] (hh S) (n + 3) = if 0 ≤ (S.1 29 7) then ex X d 117 36 [.ref 29, .int y1, .int y2] [] (hh S) n else ex X d 117 11 [.ref 29, .int y1, .int y2] [] (hh S) n := rfl
theorem B_117_2 {X : Nat × (Nat → Int32)} {d : Nat} (n : Nat) (y1 : Int32) (y2 : Int32) (S : St) : ex X d 117 36 [.ref 29, .int y1, .int y2] [] (hh S) (n + 3) = if 0 ≤ (S.1 29 7) then ex X d 117 62 [.ref 29, .int y1, .int y2] [] (hh S) n else ex X d 117 43 [.ref 29, .int y1, .int y2] [] (hh S) n := rfl
theorem B_117_3 {X : Nat × (Nat → Int32)} {d : Nat} (n : Nat) (y1 : Int32) (y2 : Int32) (S : St) : ex X d 117 4 [.ref 29, .int y1, .int y2] [] (hh S) (n + 3) = if 0 ≤ (S.1 29 7) then ex X d 117 36 [.ref 29, .int y1, .int y2] [] (hh S) n else ex X d 117 11 [.ref 29, .int y1, .int y2] [] (hh S) n := rfl
theorem B_117_4 {X : Nat × (Nat → Int32)} {d : Nat} (n : Nat) (y1 : Int32) (y2 : Int32) (S : St) : ex X (d + 1) 117 11 [.ref 29, .int y1, .int y2] [] (hh S) (n + 4) = (match ex X d 118 0 [.ref 29, .int 0, .int y1] [] (hh S) n with | some (v, h') => ex X (d + 1) 117 17 [.ref 29, .int y1, .int y2] (v.toList ++ []) h' n | none => none) := rfl
theorem B_117_5 {X : Nat × (Nat → Int32)} {d : Nat} (n : Nat) (y1 : Int32) (y2 : Int32) (v2 : Int32) (S2 : St) : ex X d 117 17 [.ref 29, .int y1, .int y2] [.int v2] (hh S2) (n + 2) = if v2 = 255 then ex X d 117 36 [.ref 29, .int y1, .int y2] [] (hh S2) n else ex X d 117 23 [.ref 29, .int y1, .int y2] [] (hh S2) n := rfl
theorem B_117_6 {X : Nat × (Nat → Int32)} {d : Nat} (n : Nat) (y1 : Int32) (y2 : Int32) (S2 : St) : ex X d 117 36 [.ref 29, .int y1, .int y2] [] (hh S2) (n + 3) = if 0 ≤ (S2.1 29 7) then ex X d 117 62 [.ref 29, .int y1, .int y2] [] (hh S2) n else ex X d 117 43 [.ref 29, .int y1, .int y2] [] (hh S2) n := rfl
theorem B_117_7 {X : Nat × (Nat → Int32)} {d : Nat} (n : Nat) (y1 : Int32) (y2 : Int32) (S2 : St) : ex X d 117 36 [.ref 29, .int y1, .int y2] [] (hh S2) (n + 3) = if 0 ≤ (S2.1 29 7) then ex X d 117 62 [.ref 29, .int y1, .int y2] [] (hh S2) n else ex X d 117 43 [.ref 29, .int y1, .int y2] [] (hh S2) n := rfl
theorem B_117_8 {X : Nat × (Nat → Int32)} {d : Nat} (n : Nat) (y1 : Int32) (y2 : Int32) (S2 : St) : ex X d 117 43 [.ref 29, .int y1, .int y2] [] (hh S2) (n + 7) = if (kd 34).1 = 0 ∧ xa_in (0 : Int32) (kd 34).2 then ex X d 117 52 [.ref 29, .int y1, .int y2] [.int (S2.1 34 ((0 : Int32)).toNatClampNeg), .int (y1 + 1)] (hh S2) n else none := rfl
theorem B_117_9 {X : Nat × (Nat → Int32)} {d : Nat} (n : Nat) (y1 : Int32) (y2 : Int32) (S2 : St) : ex X d 117 52 [.ref 29, .int y1, .int y2] [.int (S2.1 34 ((0 : Int32)).toNatClampNeg), .int (y1 + 1)] (hh S2) (n + 1) = if (S2.1 34 ((0 : Int32)).toNatClampNeg) ≤ (y1 + 1) then ex X d 117 62 [.ref 29, .int y1, .int y2] [] (hh S2) n else ex X d 117 55 [.ref 29, .int y1, .int y2] [] (hh S2) n := rfl
theorem B_117_10 {X : Nat × (Nat → Int32)} {d : Nat} (n : Nat) (y1 : Int32) (y2 : Int32) (S2 : St) : ex X d 117 52 [.ref 29, .int y1, .int y2] [.int (S2.1 34 ((0 : Int32)).toNatClampNeg), .int (y1 + 1)] (hh S2) (n + 1) = if (S2.1 34 ((0 : Int32)).toNatClampNeg) ≤ (y1 + 1) then ex X d 117 62 [.ref 29, .int y1, .int y2] [] (hh S2) n else ex X d 117 55 [.ref 29, .int y1, .int y2] [] (hh S2) n := rfl
theorem B_117_11 {X : Nat × (Nat → Int32)} {d : Nat} (n : Nat) (y1 : Int32) (y2 : Int32) (S2 : St) : ex X d 117 55 [.ref 29, .int y1, .int y2] [] (hh S2) (n + 5) = if (kd 29).1 = 10 + 8 ∧ (xf_k 8 7 = 0 ∨ (xf_k 8 7 = 1 ∧ ((y1 + 1) = 0 ∨ (y1 + 1) = 1))) then ex X d 117 62 [.ref 29, .int y1, .int y2] [] (hh (xa_u S2.1 29 7 (y1 + 1), S2.2.1, S2.2.2)) n else none := rfl
theorem B_117_12 {X : Nat × (Nat → Int32)} {d : Nat} (n : Nat) (y1 : Int32) (y2 : Int32) (v2 : Int32) (S2 : St) : ex X d 117 17 [.ref 29, .int y1, .int y2] [.int v2] (hh S2) (n + 2) = if v2 = 255 then ex X d 117 36 [.ref 29, .int y1, .int y2] [] (hh S2) n else ex X d 117 23 [.ref 29, .int y1, .int y2] [] (hh S2) n := rfl
theorem B_117_13 {X : Nat × (Nat → Int32)} {d : Nat} (n : Nat) (y1 : Int32) (y2 : Int32) (S2 : St) : ex X (d + 1) 117 23 [.ref 29, .int y1, .int y2] [] (hh S2) (n + 4) = (match ex X d 119 0 [.ref 29, .int 0, .int y1, .retAddr 0, .retAddr 0, .retAddr 0, .retAddr 0] [] (hh S2) n with | some (v, h') => ex X (d + 1) 117 29 [.ref 29, .int y1, .int y2] (v.toList ++ []) h' n | none => none) := rfl
theorem B_117_14 {X : Nat × (Nat → Int32)} {d : Nat} (n : Nat) (y1 : Int32) (y2 : Int32) (v6 : Int32) (S6 : St) : ex X d 117 29 [.ref 29, .int y1, .int y2] [.int v6] (hh S6) (n + 3) = ex X d 117 4 [.ref 29, .int v6, .int (y2 + 1)] [] (hh S6) n := rfl
set_option maxRecDepth 200000 in
theorem TL_117_0 {X : Nat × (Nat → Int32)} : ∀ (n : Nat) (S : St) (y1 : Int32) (y2 : Int32) (r : Int32) (S' : St), GL_117_0 n S y1 y2 = some (r, S') → Ev X 4 117 4 [.ref 29, .int y1, .int y2] [] (hh S) (xI r, hh S') := by
  intro n
  induction n with
  | zero => intro S y1 y2 r S' hG; simp [GL_117_0] at hG
  | succ n ih =>
    intro S y1 y2 r S' hG
    rw [GL_117_0] at hG
    by_cases c1 : 0 ≤ (S.1 29 7)
    · rw [if_pos c1] at hG
      refine Ev.t (c := 0 ≤ (S.1 29 7)) (p1 := 36) (L1 := [.ref 29, .int y1, .int y2]) (s1 := []) (h1 := hh S) (p2 := 11) (L2 := [.ref 29, .int y1, .int y2]) (s2 := []) (h2 := hh S) 3 (fun n => B_117_1 n y1 y2 S) c1 ?_
      refine Ev.t (c := 0 ≤ (S.1 29 7)) (p1 := 62) (L1 := [.ref 29, .int y1, .int y2]) (s1 := []) (h1 := hh S) (p2 := 43) (L2 := [.ref 29, .int y1, .int y2]) (s2 := []) (h2 := hh S) 3 (fun n => B_117_2 n y1 y2 S) c1 ?_
      obtain ⟨e1, e2⟩ := Prod.mk.inj (Option.some.inj hG)
      subst e1
      subst e2
      exact Ev.r 2 (fun n => rfl)
    · rw [if_neg c1] at hG
      refine Ev.f (c := 0 ≤ (S.1 29 7)) (p1 := 36) (L1 := [.ref 29, .int y1, .int y2]) (s1 := []) (h1 := hh S) (p2 := 11) (L2 := [.ref 29, .int y1, .int y2]) (s2 := []) (h2 := hh S) 3 (fun n => B_117_3 n y1 y2 S) c1 ?_
      rcases h2 : G_118 S (0 : Int32) y1 with _ | ⟨v2, S2⟩
      · rw [h2] at hG; cases hG
      rw [h2] at hG
      dsimp only at hG
      refine Ev.c (a := 118) (A := [.ref 29, .int 0, .int y1]) (h1 := hh S) (pc' := 17) (L' := [.ref 29, .int y1, .int y2]) (rest := []) (r1 := some (.int v2)) (h2 := hh S2) 4 (fun n => B_117_4 n y1 y2 S) (Ev.up (by decide) (T_118 S (0 : Int32) y1 _ _ h2)) ?_
      show Ev X _ 117 17 [.ref 29, .int y1, .int y2] [.int v2] (hh S2) _
      by_cases c3 : v2 = 255
      · rw [if_pos c3] at hG
        refine Ev.t (c := v2 = 255) (p1 := 36) (L1 := [.ref 29, .int y1, .int y2]) (s1 := []) (h1 := hh S2) (p2 := 23) (L2 := [.ref 29, .int y1, .int y2]) (s2 := []) (h2 := hh S2) 2 (fun n => B_117_5 n y1 y2 v2 S2) c3 ?_
        by_cases c4 : 0 ≤ (S2.1 29 7)
        · rw [if_pos c4] at hG
          refine Ev.t (c := 0 ≤ (S2.1 29 7)) (p1 := 62) (L1 := [.ref 29, .int y1, .int y2]) (s1 := []) (h1 := hh S2) (p2 := 43) (L2 := [.ref 29, .int y1, .int y2]) (s2 := []) (h2 := hh S2) 3 (fun n => B_117_6 n y1 y2 S2) c4 ?_
          obtain ⟨e1, e2⟩ := Prod.mk.inj (Option.some.inj hG)
          subst e1
          subst e2
          exact Ev.r 2 (fun n => rfl)
        · rw [if_neg c4] at hG
          refine Ev.f (c := 0 ≤ (S2.1 29 7)) (p1 := 62) (L1 := [.ref 29, .int y1, .int y2]) (s1 := []) (h1 := hh S2) (p2 := 43) (L2 := [.ref 29, .int y1, .int y2]) (s2 := []) (h2 := hh S2) 3 (fun n => B_117_7 n y1 y2 S2) c4 ?_
          refine Ev.g (c := (kd 34).1 = 0 ∧ xa_in (0 : Int32) (kd 34).2) (p1 := 52) (L1 := [.ref 29, .int y1, .int y2]) (s1 := [.int (S2.1 34 ((0 : Int32)).toNatClampNeg), .int (y1 + 1)]) (h1 := hh S2) 7 (fun n => B_117_8 n y1 y2 S2) (⟨rfl, by decide⟩) ?_
          by_cases c5 : (S2.1 34 ((0 : Int32)).toNatClampNeg) ≤ (y1 + 1)
          · rw [if_pos c5] at hG
            refine Ev.t (c := (S2.1 34 ((0 : Int32)).toNatClampNeg) ≤ (y1 + 1)) (p1 := 62) (L1 := [.ref 29, .int y1, .int y2]) (s1 := []) (h1 := hh S2) (p2 := 55) (L2 := [.ref 29, .int y1, .int y2]) (s2 := []) (h2 := hh S2) 1 (fun n => B_117_9 n y1 y2 S2) c5 ?_
            obtain ⟨e1, e2⟩ := Prod.mk.inj (Option.some.inj hG)
            subst e1
            subst e2
            exact Ev.r 2 (fun n => rfl)
          · rw [if_neg c5] at hG
            refine Ev.f (c := (S2.1 34 ((0 : Int32)).toNatClampNeg) ≤ (y1 + 1)) (p1 := 62) (L1 := [.ref 29, .int y1, .int y2]) (s1 := []) (h1 := hh S2) (p2 := 55) (L2 := [.ref 29, .int y1, .int y2]) (s2 := []) (h2 := hh S2) 1 (fun n => B_117_10 n y1 y2 S2) c5 ?_
            refine Ev.g (c := (kd 29).1 = 10 + 8 ∧ (xf_k 8 7 = 0 ∨ (xf_k 8 7 = 1 ∧ ((y1 + 1) = 0 ∨ (y1 + 1) = 1)))) (p1 := 62) (L1 := [.ref 29, .int y1, .int y2]) (s1 := []) (h1 := hh (xa_u S2.1 29 7 (y1 + 1), S2.2.1, S2.2.2)) 5 (fun n => B_117_11 n y1 y2 S2) (⟨rfl, Or.inl rfl⟩) ?_
            obtain ⟨e1, e2⟩ := Prod.mk.inj (Option.some.inj hG)
            subst e1
            subst e2
            exact Ev.r 2 (fun n => rfl)
      · rw [if_neg c3] at hG
        refine Ev.f (c := v2 = 255) (p1 := 36) (L1 := [.ref 29, .int y1, .int y2]) (s1 := []) (h1 := hh S2) (p2 := 23) (L2 := [.ref 29, .int y1, .int y2]) (s2 := []) (h2 := hh S2) 2 (fun n => B_117_12 n y1 y2 v2 S2) c3 ?_
        rcases h6 : G_119 S2 (0 : Int32) y1 with _ | ⟨v6, S6⟩
        · rw [h6] at hG; cases hG
        rw [h6] at hG
        dsimp only at hG
        refine Ev.c (a := 119) (A := [.ref 29, .int 0, .int y1, .retAddr 0, .retAddr 0, .retAddr 0, .retAddr 0]) (h1 := hh S2) (pc' := 29) (L' := [.ref 29, .int y1, .int y2]) (rest := []) (r1 := some (.int v6)) (h2 := hh S6) 4 (fun n => B_117_13 n y1 y2 S2) (Ev.up (by decide) (T_119 S2 (0 : Int32) y1 _ _ h6)) ?_
        show Ev X _ 117 29 [.ref 29, .int y1, .int y2] [.int v6] (hh S6) _
        exact Ev.b (pc' := 4) (L' := [.ref 29, .int v6, .int (y2 + 1)]) (st' := []) (h' := hh S6) 3 (fun n => B_117_14 n y1 y2 v6 S6) (ih S6 v6 (y2 + 1) _ _ hG )
def G_117 (S : St)  : Option (Int32 × St) :=
  GL_117_0 xFu S (0 : Int32) (0 : Int32)
theorem B_117_15 {X : Nat × (Nat → Int32)} {d : Nat} (n : Nat) (S : St) : ex X d 117 0 [.ref 29, .retAddr 0, .retAddr 0] [] (hh S) (n + 4) = ex X d 117 4 [.ref 29, .int 0, .int 0] [] (hh S) n := rfl
set_option maxRecDepth 200000 in
theorem T_117 {X : Nat × (Nat → Int32)} (S : St)  (r : Int32) (S' : St) (hG : G_117 S  = some (r, S')) : Ev X 4 117 0 [.ref 29, .retAddr 0, .retAddr 0] [] (hh S) (xI r, hh S') := by
  unfold G_117 at hG
  exact Ev.b (pc' := 4) (L' := [.ref 29, .int 0, .int 0]) (st' := []) (h' := hh S) 4 (fun n => B_117_15 n S) (TL_117_0 xFu S (0 : Int32) (0 : Int32) _ _ hG )
/-- 116: SceneCycleModel.load(I)I -/
def G_116 (S : St) (x1 : Int32) : Option (Int32 × St) :=
  (match G_115 S x1 (0 : Int32) (3 : Int32) with
  | none => none
  | some (v1, S1) =>
    (if v1 = 0 then
      (if xa_in x1 4 then
        (if (S1.1 35 (x1).toNatClampNeg) = 0 then
          (if x1 = 0 then
            (match G_117 (xa_u S1.1 29 7 (-1), S1.2.1, S1.2.2) with
            | none => none
            | some (v6, S6) =>
              (if (S6.1 29 7) < 0 then
                some (v6, (xa_u S6.1 35 ((x1).toNatClampNeg) 1, S6.2.1, S6.2.2))
              else
                some (((-2) - (S6.1 29 7)), S6)
              )
            )
          else
            (match G_123 (xa_u S1.1 29 7 (-1), S1.2.1, S1.2.2) x1 with
            | none => none
            | some (v8, S8) =>
              (if (S8.1 29 7) < 0 then
                some (v8, (xa_u S8.1 35 ((x1).toNatClampNeg) 1, S8.2.1, S8.2.2))
              else
                some (((-2) - (S8.1 29 7)), S8)
              )
            )
          )
        else
          some ((-1), S1)
        )
      else none)
    else
      some ((-1), S1)
    )
  )
theorem B_116_1 {X : Nat × (Nat → Int32)} {d : Nat} (n : Nat) (x1 : Int32) (S : St) : ex X (d + 1) 116 0 [.ref 29, .int x1, .retAddr 0] [] (hh S) (n + 4) = (match ex X d 115 0 [.int x1, .int 0, .int 3] [] (hh S) n with | some (v, h') => ex X (d + 1) 116 6 [.ref 29, .int x1, .retAddr 0] (v.toList ++ []) h' n | none => none) := rfl
theorem B_116_2 {X : Nat × (Nat → Int32)} {d : Nat} (n : Nat) (x1 : Int32) (v1 : Int32) (S1 : St) : ex X d 116 6 [.ref 29, .int x1, .retAddr 0] [.int v1] (hh S1) (n + 1) = if v1 = 0 then ex X d 116 9 [.ref 29, .int x1, .retAddr 0] [] (hh S1) n else ex X d 116 18 [.ref 29, .int x1, .retAddr 0] [] (hh S1) n := rfl
theorem B_116_3 {X : Nat × (Nat → Int32)} {d : Nat} (n : Nat) (x1 : Int32) (S1 : St) : ex X d 116 9 [.ref 29, .int x1, .retAddr 0] [] (hh S1) (n + 4) = if (kd 35).1 = 1 ∧ xa_in x1 (kd 35).2 then ex X d 116 15 [.ref 29, .int x1, .retAddr 0] [.int (S1.1 35 (x1).toNatClampNeg)] (hh S1) n else none := rfl
theorem B_116_4 {X : Nat × (Nat → Int32)} {d : Nat} (n : Nat) (x1 : Int32) (S1 : St) : ex X d 116 15 [.ref 29, .int x1, .retAddr 0] [.int (S1.1 35 (x1).toNatClampNeg)] (hh S1) (n + 1) = if (S1.1 35 (x1).toNatClampNeg) = 0 then ex X d 116 20 [.ref 29, .int x1, .retAddr 0] [] (hh S1) n else ex X d 116 18 [.ref 29, .int x1, .retAddr 0] [] (hh S1) n := rfl
theorem B_116_5 {X : Nat × (Nat → Int32)} {d : Nat} (n : Nat) (x1 : Int32) (S1 : St) : ex X d 116 20 [.ref 29, .int x1, .retAddr 0] [] (hh S1) (n + 3) = if (kd 29).1 = 10 + 8 ∧ (xf_k 8 7 = 0 ∨ (xf_k 8 7 = 1 ∧ (((-1) : Int32) = 0 ∨ ((-1) : Int32) = 1))) then ex X d 116 25 [.ref 29, .int x1, .retAddr 0] [] (hh (xa_u S1.1 29 7 (-1), S1.2.1, S1.2.2)) n else none := rfl
theorem B_116_6 {X : Nat × (Nat → Int32)} {d : Nat} (n : Nat) (x1 : Int32) (S1 : St) : ex X d 116 25 [.ref 29, .int x1, .retAddr 0] [] (hh (xa_u S1.1 29 7 (-1), S1.2.1, S1.2.2)) (n + 2) = if x1 = 0 then ex X d 116 29 [.ref 29, .int x1, .retAddr 0] [] (hh (xa_u S1.1 29 7 (-1), S1.2.1, S1.2.2)) n else ex X d 116 36 [.ref 29, .int x1, .retAddr 0] [] (hh (xa_u S1.1 29 7 (-1), S1.2.1, S1.2.2)) n := rfl
theorem B_116_7 {X : Nat × (Nat → Int32)} {d : Nat} (n : Nat) (x1 : Int32) (S1 : St) : ex X (d + 1) 116 29 [.ref 29, .int x1, .retAddr 0] [] (hh (xa_u S1.1 29 7 (-1), S1.2.1, S1.2.2)) (n + 2) = (match ex X d 117 0 [.ref 29, .retAddr 0, .retAddr 0] [] (hh (xa_u S1.1 29 7 (-1), S1.2.1, S1.2.2)) n with | some (v, h') => ex X (d + 1) 116 33 [.ref 29, .int x1, .retAddr 0] (v.toList ++ []) h' n | none => none) := rfl
theorem B_116_8 {X : Nat × (Nat → Int32)} {d : Nat} (n : Nat) (x1 : Int32) (v6 : Int32) (S6 : St) : ex X d 116 33 [.ref 29, .int x1, .retAddr 0] [.int v6] (hh S6) (n + 5) = if (S6.1 29 7) < 0 then ex X d 116 57 [.ref 29, .int x1, .int v6] [] (hh S6) n else ex X d 116 49 [.ref 29, .int x1, .int v6] [] (hh S6) n := rfl
theorem B_116_9 {X : Nat × (Nat → Int32)} {d : Nat} (n : Nat) (x1 : Int32) (v6 : Int32) (S6 : St) : ex X d 116 57 [.ref 29, .int x1, .int v6] [] (hh S6) (n + 5) = if (kd 35).1 = 1 ∧ xa_in x1 (kd 35).2 ∧ ((1 : Int32) = 0 ∨ (1 : Int32) = 1) then ex X d 116 64 [.ref 29, .int x1, .int v6] [] (hh (xa_u S6.1 35 ((x1).toNatClampNeg) 1, S6.2.1, S6.2.2)) n else none := rfl
theorem B_116_10 {X : Nat × (Nat → Int32)} {d : Nat} (n : Nat) (x1 : Int32) (v6 : Int32) (S6 : St) : ex X d 116 33 [.ref 29, .int x1, .retAddr 0] [.int v6] (hh S6) (n + 5) = if (S6.1 29 7) < 0 then ex X d 116 57 [.ref 29, .int x1, .int v6] [] (hh S6) n else ex X d 116 49 [.ref 29, .int x1, .int v6] [] (hh S6) n := rfl
theorem B_116_11 {X : Nat × (Nat → Int32)} {d : Nat} (n : Nat) (x1 : Int32) (S1 : St) : ex X d 116 25 [.ref 29, .int x1, .retAddr 0] [] (hh (xa_u S1.1 29 7 (-1), S1.2.1, S1.2.2)) (n + 2) = if x1 = 0 then ex X d 116 29 [.ref 29, .int x1, .retAddr 0] [] (hh (xa_u S1.1 29 7 (-1), S1.2.1, S1.2.2)) n else ex X d 116 36 [.ref 29, .int x1, .retAddr 0] [] (hh (xa_u S1.1 29 7 (-1), S1.2.1, S1.2.2)) n := rfl
theorem B_116_12 {X : Nat × (Nat → Int32)} {d : Nat} (n : Nat) (x1 : Int32) (S1 : St) : ex X (d + 1) 116 36 [.ref 29, .int x1, .retAddr 0] [] (hh (xa_u S1.1 29 7 (-1), S1.2.1, S1.2.2)) (n + 3) = (match ex X d 123 0 [.ref 29, .int x1, .retAddr 0, .retAddr 0, .retAddr 0, .retAddr 0, .retAddr 0] [] (hh (xa_u S1.1 29 7 (-1), S1.2.1, S1.2.2)) n with | some (v, h') => ex X (d + 1) 116 41 [.ref 29, .int x1, .retAddr 0] (v.toList ++ []) h' n | none => none) := rfl
theorem B_116_13 {X : Nat × (Nat → Int32)} {d : Nat} (n : Nat) (x1 : Int32) (v8 : Int32) (S8 : St) : ex X d 116 41 [.ref 29, .int x1, .retAddr 0] [.int v8] (hh S8) (n + 4) = if (S8.1 29 7) < 0 then ex X d 116 57 [.ref 29, .int x1, .int v8] [] (hh S8) n else ex X d 116 49 [.ref 29, .int x1, .int v8] [] (hh S8) n := rfl
theorem B_116_14 {X : Nat × (Nat → Int32)} {d : Nat} (n : Nat) (x1 : Int32) (v8 : Int32) (S8 : St) : ex X d 116 57 [.ref 29, .int x1, .int v8] [] (hh S8) (n + 5) = if (kd 35).1 = 1 ∧ xa_in x1 (kd 35).2 ∧ ((1 : Int32) = 0 ∨ (1 : Int32) = 1) then ex X d 116 64 [.ref 29, .int x1, .int v8] [] (hh (xa_u S8.1 35 ((x1).toNatClampNeg) 1, S8.2.1, S8.2.2)) n else none := rfl
theorem B_116_15 {X : Nat × (Nat → Int32)} {d : Nat} (n : Nat) (x1 : Int32) (v8 : Int32) (S8 : St) : ex X d 116 41 [.ref 29, .int x1, .retAddr 0] [.int v8] (hh S8) (n + 4) = if (S8.1 29 7) < 0 then ex X d 116 57 [.ref 29, .int x1, .int v8] [] (hh S8) n else ex X d 116 49 [.ref 29, .int x1, .int v8] [] (hh S8) n := rfl
theorem B_116_16 {X : Nat × (Nat → Int32)} {d : Nat} (n : Nat) (x1 : Int32) (S1 : St) : ex X d 116 15 [.ref 29, .int x1, .retAddr 0] [.int (S1.1 35 (x1).toNatClampNeg)] (hh S1) (n + 1) = if (S1.1 35 (x1).toNatClampNeg) = 0 then ex X d 116 20 [.ref 29, .int x1, .retAddr 0] [] (hh S1) n else ex X d 116 18 [.ref 29, .int x1, .retAddr 0] [] (hh S1) n := rfl
theorem B_116_17 {X : Nat × (Nat → Int32)} {d : Nat} (n : Nat) (x1 : Int32) (v1 : Int32) (S1 : St) : ex X d 116 6 [.ref 29, .int x1, .retAddr 0] [.int v1] (hh S1) (n + 1) = if v1 = 0 then ex X d 116 9 [.ref 29, .int x1, .retAddr 0] [] (hh S1) n else ex X d 116 18 [.ref 29, .int x1, .retAddr 0] [] (hh S1) n := rfl
set_option maxRecDepth 200000 in
theorem T_116 {X : Nat × (Nat → Int32)} (S : St) (x1 : Int32) (r : Int32) (S' : St) (hG : G_116 S x1 = some (r, S')) : Ev X 7 116 0 [.ref 29, .int x1, .retAddr 0] [] (hh S) (xI r, hh S') := by
  unfold G_116 at hG
  rcases h1 : G_115 S x1 (0 : Int32) (3 : Int32) with _ | ⟨v1, S1⟩
  · rw [h1] at hG; cases hG
  rw [h1] at hG
  dsimp only at hG
  refine Ev.c (a := 115) (A := [.int x1, .int 0, .int 3]) (h1 := hh S) (pc' := 6) (L' := [.ref 29, .int x1, .retAddr 0]) (rest := []) (r1 := some (.int v1)) (h2 := hh S1) 4 (fun n => B_116_1 n x1 S) (Ev.up (by decide) (T_115 S x1 (0 : Int32) (3 : Int32) _ _ h1)) ?_
  show Ev X _ 116 6 [.ref 29, .int x1, .retAddr 0] [.int v1] (hh S1) _
  by_cases c2 : v1 = 0
  · rw [if_pos c2] at hG
    refine Ev.t (c := v1 = 0) (p1 := 9) (L1 := [.ref 29, .int x1, .retAddr 0]) (s1 := []) (h1 := hh S1) (p2 := 18) (L2 := [.ref 29, .int x1, .retAddr 0]) (s2 := []) (h2 := hh S1) 1 (fun n => B_116_2 n x1 v1 S1) c2 ?_
    by_cases g3 : xa_in x1 4
    rotate_left
    · rw [if_neg g3] at hG; cases hG
    rw [if_pos g3] at hG
    refine Ev.g (c := (kd 35).1 = 1 ∧ xa_in x1 (kd 35).2) (p1 := 15) (L1 := [.ref 29, .int x1, .retAddr 0]) (s1 := [.int (S1.1 35 (x1).toNatClampNeg)]) (h1 := hh S1) 4 (fun n => B_116_3 n x1 S1) (⟨rfl, g3⟩) ?_
    by_cases c4 : (S1.1 35 (x1).toNatClampNeg) = 0
    · rw [if_pos c4] at hG
      refine Ev.t (c := (S1.1 35 (x1).toNatClampNeg) = 0) (p1 := 20) (L1 := [.ref 29, .int x1, .retAddr 0]) (s1 := []) (h1 := hh S1) (p2 := 18) (L2 := [.ref 29, .int x1, .retAddr 0]) (s2 := []) (h2 := hh S1) 1 (fun n => B_116_4 n x1 S1) c4 ?_
      refine Ev.g (c := (kd 29).1 = 10 + 8 ∧ (xf_k 8 7 = 0 ∨ (xf_k 8 7 = 1 ∧ (((-1) : Int32) = 0 ∨ ((-1) : Int32) = 1)))) (p1 := 25) (L1 := [.ref 29, .int x1, .retAddr 0]) (s1 := []) (h1 := hh (xa_u S1.1 29 7 (-1), S1.2.1, S1.2.2)) 3 (fun n => B_116_5 n x1 S1) (⟨rfl, Or.inl rfl⟩) ?_
      by_cases c5 : x1 = 0
      · rw [if_pos c5] at hG
        refine Ev.t (c := x1 = 0) (p1 := 29) (L1 := [.ref 29, .int x1, .retAddr 0]) (s1 := []) (h1 := hh (xa_u S1.1 29 7 (-1), S1.2.1, S1.2.2)) (p2 := 36) (L2 := [.ref 29, .int x1, .retAddr 0]) (s2 := []) (h2 := hh (xa_u S1.1 29 7 (-1), S1.2.1, S1.2.2)) 2 (fun n => B_116_6 n x1 S1) c5 ?_
        rcases h6 : G_117 (xa_u S1.1 29 7 (-1), S1.2.1, S1.2.2) with _ | ⟨v6, S6⟩
        · rw [h6] at hG; cases hG
        rw [h6] at hG
        dsimp only at hG
        refine Ev.c (a := 117) (A := [.ref 29, .retAddr 0, .retAddr 0]) (h1 := hh (xa_u S1.1 29 7 (-1), S1.2.1, S1.2.2)) (pc' := 33) (L' := [.ref 29, .int x1, .retAddr 0]) (rest := []) (r1 := some (.int v6)) (h2 := hh S6) 2 (fun n => B_116_7 n x1 S1) (Ev.up (by decide) (T_117 (xa_u S1.1 29 7 (-1), S1.2.1, S1.2.2)  _ _ h6)) ?_
        show Ev X _ 116 33 [.ref 29, .int x1, .retAddr 0] [.int v6] (hh S6) _
        by_cases c7 : (S6.1 29 7) < 0
        · rw [if_pos c7] at hG
          refine Ev.t (c := (S6.1 29 7) < 0) (p1 := 57) (L1 := [.ref 29, .int x1, .int v6]) (s1 := []) (h1 := hh S6) (p2 := 49) (L2 := [.ref 29, .int x1, .int v6]) (s2 := []) (h2 := hh S6) 5 (fun n => B_116_8 n x1 v6 S6) c7 ?_
          refine Ev.g (c := (kd 35).1 = 1 ∧ xa_in x1 (kd 35).2 ∧ ((1 : Int32) = 0 ∨ (1 : Int32) = 1)) (p1 := 64) (L1 := [.ref 29, .int x1, .int v6]) (s1 := []) (h1 := hh (xa_u S6.1 35 ((x1).toNatClampNeg) 1, S6.2.1, S6.2.2)) 5 (fun n => B_116_9 n x1 v6 S6) (⟨rfl, g3, by decide⟩) ?_
          obtain ⟨e1, e2⟩ := Prod.mk.inj (Option.some.inj hG)
          subst e1
          subst e2
          exact Ev.r 2 (fun n => rfl)
        · rw [if_neg c7] at hG
          refine Ev.f (c := (S6.1 29 7) < 0) (p1 := 57) (L1 := [.ref 29, .int x1, .int v6]) (s1 := []) (h1 := hh S6) (p2 := 49) (L2 := [.ref 29, .int x1, .int v6]) (s2 := []) (h2 := hh S6) 5 (fun n => B_116_10 n x1 v6 S6) c7 ?_
          obtain ⟨e1, e2⟩ := Prod.mk.inj (Option.some.inj hG)
          subst e1
          subst e2
          exact Ev.r 5 (fun n => rfl)
      · rw [if_neg c5] at hG
        refine Ev.f (c := x1 = 0) (p1 := 29) (L1 := [.ref 29, .int x1, .retAddr 0]) (s1 := []) (h1 := hh (xa_u S1.1 29 7 (-1), S1.2.1, S1.2.2)) (p2 := 36) (L2 := [.ref 29, .int x1, .retAddr 0]) (s2 := []) (h2 := hh (xa_u S1.1 29 7 (-1), S1.2.1, S1.2.2)) 2 (fun n => B_116_11 n x1 S1) c5 ?_
        rcases h8 : G_123 (xa_u S1.1 29 7 (-1), S1.2.1, S1.2.2) x1 with _ | ⟨v8, S8⟩
        · rw [h8] at hG; cases hG
        rw [h8] at hG
        dsimp only at hG
        refine Ev.c (a := 123) (A := [.ref 29, .int x1, .retAddr 0, .retAddr 0, .retAddr 0, .retAddr 0, .retAddr 0]) (h1 := hh (xa_u S1.1 29 7 (-1), S1.2.1, S1.2.2)) (pc' := 41) (L' := [.ref 29, .int x1, .retAddr 0]) (rest := []) (r1 := some (.int v8)) (h2 := hh S8) 3 (fun n => B_116_12 n x1 S1) (Ev.up (by decide) (T_123 (xa_u S1.1 29 7 (-1), S1.2.1, S1.2.2) x1 _ _ h8)) ?_
        show Ev X _ 116 41 [.ref 29, .int x1, .retAddr 0] [.int v8] (hh S8) _
        by_cases c9 : (S8.1 29 7) < 0
        · rw [if_pos c9] at hG
          refine Ev.t (c := (S8.1 29 7) < 0) (p1 := 57) (L1 := [.ref 29, .int x1, .int v8]) (s1 := []) (h1 := hh S8) (p2 := 49) (L2 := [.ref 29, .int x1, .int v8]) (s2 := []) (h2 := hh S8) 4 (fun n => B_116_13 n x1 v8 S8) c9 ?_
          refine Ev.g (c := (kd 35).1 = 1 ∧ xa_in x1 (kd 35).2 ∧ ((1 : Int32) = 0 ∨ (1 : Int32) = 1)) (p1 := 64) (L1 := [.ref 29, .int x1, .int v8]) (s1 := []) (h1 := hh (xa_u S8.1 35 ((x1).toNatClampNeg) 1, S8.2.1, S8.2.2)) 5 (fun n => B_116_14 n x1 v8 S8) (⟨rfl, g3, by decide⟩) ?_
          obtain ⟨e1, e2⟩ := Prod.mk.inj (Option.some.inj hG)
          subst e1
          subst e2
          exact Ev.r 2 (fun n => rfl)
        · rw [if_neg c9] at hG
          refine Ev.f (c := (S8.1 29 7) < 0) (p1 := 57) (L1 := [.ref 29, .int x1, .int v8]) (s1 := []) (h1 := hh S8) (p2 := 49) (L2 := [.ref 29, .int x1, .int v8]) (s2 := []) (h2 := hh S8) 4 (fun n => B_116_15 n x1 v8 S8) c9 ?_
          obtain ⟨e1, e2⟩ := Prod.mk.inj (Option.some.inj hG)
          subst e1
          subst e2
          exact Ev.r 5 (fun n => rfl)
    · rw [if_neg c4] at hG
      refine Ev.f (c := (S1.1 35 (x1).toNatClampNeg) = 0) (p1 := 20) (L1 := [.ref 29, .int x1, .retAddr 0]) (s1 := []) (h1 := hh S1) (p2 := 18) (L2 := [.ref 29, .int x1, .retAddr 0]) (s2 := []) (h2 := hh S1) 1 (fun n => B_116_16 n x1 S1) c4 ?_
      obtain ⟨e1, e2⟩ := Prod.mk.inj (Option.some.inj hG)
      subst e1
      subst e2
      exact Ev.r 2 (fun n => rfl)
  · rw [if_neg c2] at hG
    refine Ev.f (c := v1 = 0) (p1 := 9) (L1 := [.ref 29, .int x1, .retAddr 0]) (s1 := []) (h1 := hh S1) (p2 := 18) (L2 := [.ref 29, .int x1, .retAddr 0]) (s2 := []) (h2 := hh S1) 1 (fun n => B_116_17 n x1 v1 S1) c2 ?_
    obtain ⟨e1, e2⟩ := Prod.mk.inj (Option.some.inj hG)
    subst e1
    subst e2
    exact Ev.r 2 (fun n => rfl)
/-- 132: SceneCycleModel.doVariable(III)V -/
def G_132 (S : St) (x1 : Int32) (x2 : Int32) (x3 : Int32) : Option (Unit × St) :=
  (if x1 = 1 then
    (if xa_in x2 16 then
      some ((), (xa_u S.1 40 ((x2).toNatClampNeg) x3, S.2.1, S.2.2))
    else none)
  else
    (if x1 = 2 then
      (if xa_in x2 16 then
        some ((), (xa_u S.1 40 ((x2).toNatClampNeg) (((S.1 40 (x2).toNatClampNeg) + x3) - ((S.1 40 (x2).toNatClampNeg) + x3) / 256 * 256), S.2.1, S.2.2))
      else none)
    else
      (if x1 = 3 then
        (if xa_in x3 16 then
          (if xa_in x2 16 then
            some ((), (xa_u S.1 40 ((x2).toNatClampNeg) (S.1 40 (x3).toNatClampNeg), S.2.1, S.2.2))
          else none)
        else none)
      else
        (if x1 = 4 then
          (if xa_in x2 16 then
            some ((), (xa_u S.1 41 ((x2).toNatClampNeg) 1, S.2.1, S.2.2))
          else none)
        else
          (if xa_in x2 16 then
            some ((), (xa_u S.1 41 ((x2).toNatClampNeg) 0, S.2.1, S.2.2))
          else none)
        )
      )
    )
  )
theorem B_132_1 {X : Nat × (Nat → Int32)} {d : Nat} (n : Nat) (x1 : Int32) (x2 : Int32) (x3 : Int32) (S : St) : ex X d 132 0 [.ref 29, .int x1, .int x2, .int x3] [] (hh S) (n + 3) = if x1 = 1 then ex X d 132 5 [.ref 29, .int x1, .int x2, .int x3] [] (hh S) n else ex X d 132 15 [.ref 29, .int x1, .int x2, .int x3] [] (hh S) n := rfl
theorem B_132_2 {X : Nat × (Nat → Int32)} {d : Nat} (n : Nat) (x1 : Int32) (x2 : Int32) (x3 : Int32) (S : St) : ex X d 132 5 [.ref 29, .int x1, .int x2, .int x3] [] (hh S) (n + 5) = if (kd 40).1 = 0 ∧ xa_in x2 (kd 40).2 then ex X d 132 12 [.ref 29, .int x1, .int x2, .int x3] [] (hh (xa_u S.1 40 ((x2).toNatClampNeg) x3, S.2.1, S.2.2)) n else none := rfl
theorem B_132_3 {X : Nat × (Nat → Int32)} {d : Nat} (n : Nat) (x1 : Int32) (x2 : Int32) (x3 : Int32) (S : St) : ex X d 132 0 [.ref 29, .int x1, .int x2, .int x3] [] (hh S) (n + 3) = if x1 = 1 then ex X d 132 5 [.ref 29, .int x1, .int x2, .int x3] [] (hh S) n else ex X d 132 15 [.ref 29, .int x1, .int x2, .int x3] [] (hh S) n := rfl
theorem B_132_4 {X : Nat × (Nat → Int32)} {d : Nat} (n : Nat) (x1 : Int32) (x2 : Int32) (x3 : Int32) (S : St) : ex X d 132 15 [.ref 29, .int x1, .int x2, .int x3] [] (hh S) (n + 3) = if x1 = 2 then ex X d 132 20 [.ref 29, .int x1, .int x2, .int x3] [] (hh S) n else ex X d 132 41 [.ref 29, .int x1, .int x2, .int x3] [] (hh S) n := rfl
theorem B_132_5 {X : Nat × (Nat → Int32)} {d : Nat} (n : Nat) (x1 : Int32) (x2 : Int32) (x3 : Int32) (S : St) : ex X d 132 20 [.ref 29, .int x1, .int x2, .int x3] [] (hh S) (n + 7) = if (kd 40).1 = 0 ∧ xa_in x2 (kd 40).2 then ex X d 132 31 [.ref 29, .int x1, .int x2, .int x3] [.int (S.1 40 (x2).toNatClampNeg), .int x2, .ref 40] (hh S) n else none := rfl
theorem B_132_6 {X : Nat × (Nat → Int32)} {d : Nat} (n : Nat) (x1 : Int32) (x2 : Int32) (x3 : Int32) (S : St) : ex X d 132 31 [.ref 29, .int x1, .int x2, .int x3] [.int (S.1 40 (x2).toNatClampNeg), .int x2, .ref 40] (hh S) (n + 4) = if (256 : Int32) = 0 then none else ex X d 132 37 [.ref 29, .int x1, .int x2, .int x3] [.int (((S.1 40 (x2).toNatClampNeg) + x3) - ((S.1 40 (x2).toNatClampNeg) + x3) / 256 * 256), .int x2, .ref 40] (hh S) n := rfl
theorem B_132_7 {X : Nat × (Nat → Int32)} {d : Nat} (n : Nat) (x1 : Int32) (x2 : Int32) (x3 : Int32) (S : St) : ex X d 132 37 [.ref 29, .int x1, .int x2, .int x3] [.int (((S.1 40 (x2).toNatClampNeg) + x3) - ((S.1 40 (x2).toNatClampNeg) + x3) / 256 * 256), .int x2, .ref 40] (hh S) (n + 1) = if (kd 40).1 = 0 ∧ xa_in x2 (kd 40).2 then ex X d 132 38 [.ref 29, .int x1, .int x2, .int x3] [] (hh (xa_u S.1 40 ((x2).toNatClampNeg) (((S.1 40 (x2).toNatClampNeg) + x3) - ((S.1 40 (x2).toNatClampNeg) + x3) / 256 * 256), S.2.1, S.2.2)) n else none := rfl
theorem B_132_8 {X : Nat × (Nat → Int32)} {d : Nat} (n : Nat) (x1 : Int32) (x2 : Int32) (x3 : Int32) (S : St) : ex X d 132 15 [.ref 29, .int x1, .int x2, .int x3] [] (hh S) (n + 3) = if x1 = 2 then ex X d 132 20 [.ref 29, .int x1, .int x2, .int x3] [] (hh S) n else ex X d 132 41 [.ref 29, .int x1, .int x2, .int x3] [] (hh S) n := rfl
theorem B_132_9 {X : Nat × (Nat → Int32)} {d : Nat} (n : Nat) (x1 : Int32) (x2 : Int32) (x3 : Int32) (S : St) : ex X d 132 41 [.ref 29, .int x1, .int x2, .int x3] [] (hh S) (n + 3) = if x1 = 3 then ex X d 132 46 [.ref 29, .int x1, .int x2, .int x3] [] (hh S) n else ex X d 132 61 [.ref 29, .int x1, .int x2, .int x3] [] (hh S) n := rfl
theorem B_132_10 {X : Nat × (Nat → Int32)} {d : Nat} (n : Nat) (x1 : Int32) (x2 : Int32) (x3 : Int32) (S : St) : ex X d 132 46 [.ref 29, .int x1, .int x2, .int x3] [] (hh S) (n + 7) = if (kd 40).1 = 0 ∧ xa_in x3 (kd 40).2 then ex X d 132 57 [.ref 29, .int x1, .int x2, .int x3] [.int (S.1 40 (x3).toNatClampNeg), .int x2, .ref 40] (hh S) n else none := rfl
theorem B_132_11 {X : Nat × (Nat → Int32)} {d : Nat} (n : Nat) (x1 : Int32) (x2 : Int32) (x3 : Int32) (S : St) : ex X d 132 57 [.ref 29, .int x1, .int x2, .int x3] [.int (S.1 40 (x3).toNatClampNeg), .int x2, .ref 40] (hh S) (n + 1) = if (kd 40).1 = 0 ∧ xa_in x2 (kd 40).2 then ex X d 132 58 [.ref 29, .int x1, .int x2, .int x3] [] (hh (xa_u S.1 40 ((x2).toNatClampNeg) (S.1 40 (x3).toNatClampNeg), S.2.1, S.2.2)) n else none := rfl
theorem B_132_12 {X : Nat × (Nat → Int32)} {d : Nat} (n : Nat) (x1 : Int32) (x2 : Int32) (x3 : Int32) (S : St) : ex X d 132 41 [.ref 29, .int x1, .int x2, .int x3] [] (hh S) (n + 3) = if x1 = 3 then ex X d 132 46 [.ref 29, .int x1, .int x2, .int x3] [] (hh S) n else ex X d 132 61 [.ref 29, .int x1, .int x2, .int x3] [] (hh S) n := rfl
theorem B_132_13 {X : Nat × (Nat → Int32)} {d : Nat} (n : Nat) (x1 : Int32) (x2 : Int32) (x3 : Int32) (S : St) : ex X d 132 61 [.ref 29, .int x1, .int x2, .int x3] [] (hh S) (n + 6) = if x1 = 4 then ex X d 132 71 [.ref 29, .int x1, .int x2, .int x3] [.int x2, .ref 41] (hh S) n else ex X d 132 75 [.ref 29, .int x1, .int x2, .int x3] [.int x2, .ref 41] (hh S) n := rfl
theorem B_132_14 {X : Nat × (Nat → Int32)} {d : Nat} (n : Nat) (x1 : Int32) (x2 : Int32) (x3 : Int32) (S : St) : ex X d 132 71 [.ref 29, .int x1, .int x2, .int x3] [.int x2, .ref 41] (hh S) (n + 3) = if (kd 41).1 = 1 ∧ xa_in x2 (kd 41).2 ∧ ((1 : Int32) = 0 ∨ (1 : Int32) = 1) then ex X d 132 77 [.ref 29, .int x1, .int x2, .int x3] [] (hh (xa_u S.1 41 ((x2).toNatClampNeg) 1, S.2.1, S.2.2)) n else none := rfl
theorem B_132_15 {X : Nat × (Nat → Int32)} {d : Nat} (n : Nat) (x1 : Int32) (x2 : Int32) (x3 : Int32) (S : St) : ex X d 132 61 [.ref 29, .int x1, .int x2, .int x3] [] (hh S) (n + 6) = if x1 = 4 then ex X d 132 71 [.ref 29, .int x1, .int x2, .int x3] [.int x2, .ref 41] (hh S) n else ex X d 132 75 [.ref 29, .int x1, .int x2, .int x3] [.int x2, .ref 41] (hh S) n := rfl
theorem B_132_16 {X : Nat × (Nat → Int32)} {d : Nat} (n : Nat) (x1 : Int32) (x2 : Int32) (x3 : Int32) (S : St) : ex X d 132 75 [.ref 29, .int x1, .int x2, .int x3] [.int x2, .ref 41] (hh S) (n + 2) = if (kd 41).1 = 1 ∧ xa_in x2 (kd 41).2 ∧ ((0 : Int32) = 0 ∨ (0 : Int32) = 1) then ex X d 132 77 [.ref 29, .int x1, .int x2, .int x3] [] (hh (xa_u S.1 41 ((x2).toNatClampNeg) 0, S.2.1, S.2.2)) n else none := rfl
set_option maxRecDepth 200000 in
theorem T_132 {X : Nat × (Nat → Int32)} (S : St) (x1 : Int32) (x2 : Int32) (x3 : Int32) (r : Unit) (S' : St) (hG : G_132 S x1 x2 x3 = some (r, S')) : Ev X 0 132 0 [.ref 29, .int x1, .int x2, .int x3] [] (hh S) (xV r, hh S') := by
  unfold G_132 at hG
  by_cases c1 : x1 = 1
  · rw [if_pos c1] at hG
    refine Ev.t (c := x1 = 1) (p1 := 5) (L1 := [.ref 29, .int x1, .int x2, .int x3]) (s1 := []) (h1 := hh S) (p2 := 15) (L2 := [.ref 29, .int x1, .int x2, .int x3]) (s2 := []) (h2 := hh S) 3 (fun n => B_132_1 n x1 x2 x3 S) c1 ?_
    by_cases g2 : xa_in x2 16
    rotate_left
    · rw [if_neg g2] at hG; cases hG
    rw [if_pos g2] at hG
    refine Ev.g (c := (kd 40).1 = 0 ∧ xa_in x2 (kd 40).2) (p1 := 12) (L1 := [.ref 29, .int x1, .int x2, .int x3]) (s1 := []) (h1 := hh (xa_u S.1 40 ((x2).toNatClampNeg) x3, S.2.1, S.2.2)) 5 (fun n => B_132_2 n x1 x2 x3 S) (⟨rfl, g2⟩) ?_
    obtain ⟨e1, e2⟩ := Prod.mk.inj (Option.some.inj hG)
    subst e1
    subst e2
    exact Ev.r 2 (fun n => rfl)
  · rw [if_neg c1] at hG
    refine Ev.f (c := x1 = 1) (p1 := 5) (L1 := [.ref 29, .int x1, .int x2, .int x3]) (s1 := []) (h1 := hh S) (p2 := 15) (L2 := [.ref 29, .int x1, .int x2, .int x3]) (s2 := []) (h2 := hh S) 3 (fun n => B_132_3 n x1 x2 x3 S) c1 ?_
    by_cases c3 : x1 = 2
    · rw [if_pos c3] at hG
      refine Ev.t (c := x1 = 2) (p1 := 20) (L1 := [.ref 29, .int x1, .int x2, .int x3]) (s1 := []) (h1 := hh S) (p2 := 41) (L2 := [.ref 29, .int x1, .int x2, .int x3]) (s2 := []) (h2 := hh S) 3 (fun n => B_132_4 n x1 x2 x3 S) c3 ?_
      by_cases g4 : xa_in x2 16
      rotate_left
      · rw [if_neg g4] at hG; cases hG
      rw [if_pos g4] at hG
      refine Ev.g (c := (kd 40).1 = 0 ∧ xa_in x2 (kd 40).2) (p1 := 31) (L1 := [.ref 29, .int x1, .int x2, .int x3]) (s1 := [.int (S.1 40 (x2).toNatClampNeg), .int x2, .ref 40]) (h1 := hh S) 7 (fun n => B_132_5 n x1 x2 x3 S) (⟨rfl, g4⟩) ?_
      refine Ev.z (c := (256 : Int32) = 0) (p1 := 37) (L1 := [.ref 29, .int x1, .int x2, .int x3]) (s1 := [.int (((S.1 40 (x2).toNatClampNeg) + x3) - ((S.1 40 (x2).toNatClampNeg) + x3) / 256 * 256), .int x2, .ref 40]) (h1 := hh S) 4 (fun n => B_132_6 n x1 x2 x3 S) (by decide) ?_
      refine Ev.g (c := (kd 40).1 = 0 ∧ xa_in x2 (kd 40).2) (p1 := 38) (L1 := [.ref 29, .int x1, .int x2, .int x3]) (s1 := []) (h1 := hh (xa_u S.1 40 ((x2).toNatClampNeg) (((S.1 40 (x2).toNatClampNeg) + x3) - ((S.1 40 (x2).toNatClampNeg) + x3) / 256 * 256), S.2.1, S.2.2)) 1 (fun n => B_132_7 n x1 x2 x3 S) (⟨rfl, g4⟩) ?_
      obtain ⟨e1, e2⟩ := Prod.mk.inj (Option.some.inj hG)
      subst e1
      subst e2
      exact Ev.r 2 (fun n => rfl)
    · rw [if_neg c3] at hG
      refine Ev.f (c := x1 = 2) (p1 := 20) (L1 := [.ref 29, .int x1, .int x2, .int x3]) (s1 := []) (h1 := hh S) (p2 := 41) (L2 := [.ref 29, .int x1, .int x2, .int x3]) (s2 := []) (h2 := hh S) 3 (fun n => B_132_8 n x1 x2 x3 S) c3 ?_
      by_cases c5 : x1 = 3
      · rw [if_pos c5] at hG
        refine Ev.t (c := x1 = 3) (p1 := 46) (L1 := [.ref 29, .int x1, .int x2, .int x3]) (s1 := []) (h1 := hh S) (p2 := 61) (L2 := [.ref 29, .int x1, .int x2, .int x3]) (s2 := []) (h2 := hh S) 3 (fun n => B_132_9 n x1 x2 x3 S) c5 ?_
        by_cases g6 : xa_in x3 16
        rotate_left
        · rw [if_neg g6] at hG; cases hG
        rw [if_pos g6] at hG
        refine Ev.g (c := (kd 40).1 = 0 ∧ xa_in x3 (kd 40).2) (p1 := 57) (L1 := [.ref 29, .int x1, .int x2, .int x3]) (s1 := [.int (S.1 40 (x3).toNatClampNeg), .int x2, .ref 40]) (h1 := hh S) 7 (fun n => B_132_10 n x1 x2 x3 S) (⟨rfl, g6⟩) ?_
        by_cases g7 : xa_in x2 16
        rotate_left
        · rw [if_neg g7] at hG; cases hG
        rw [if_pos g7] at hG
        refine Ev.g (c := (kd 40).1 = 0 ∧ xa_in x2 (kd 40).2) (p1 := 58) (L1 := [.ref 29, .int x1, .int x2, .int x3]) (s1 := []) (h1 := hh (xa_u S.1 40 ((x2).toNatClampNeg) (S.1 40 (x3).toNatClampNeg), S.2.1, S.2.2)) 1 (fun n => B_132_11 n x1 x2 x3 S) (⟨rfl, g7⟩) ?_
        obtain ⟨e1, e2⟩ := Prod.mk.inj (Option.some.inj hG)
        subst e1
        subst e2
        exact Ev.r 2 (fun n => rfl)
      · rw [if_neg c5] at hG
        refine Ev.f (c := x1 = 3) (p1 := 46) (L1 := [.ref 29, .int x1, .int x2, .int x3]) (s1 := []) (h1 := hh S) (p2 := 61) (L2 := [.ref 29, .int x1, .int x2, .int x3]) (s2 := []) (h2 := hh S) 3 (fun n => B_132_12 n x1 x2 x3 S) c5 ?_
        by_cases c8 : x1 = 4
        · rw [if_pos c8] at hG
          refine Ev.t (c := x1 = 4) (p1 := 71) (L1 := [.ref 29, .int x1, .int x2, .int x3]) (s1 := [.int x2, .ref 41]) (h1 := hh S) (p2 := 75) (L2 := [.ref 29, .int x1, .int x2, .int x3]) (s2 := [.int x2, .ref 41]) (h2 := hh S) 6 (fun n => B_132_13 n x1 x2 x3 S) c8 ?_
          by_cases g9 : xa_in x2 16
          rotate_left
          · rw [if_neg g9] at hG; cases hG
          rw [if_pos g9] at hG
          refine Ev.g (c := (kd 41).1 = 1 ∧ xa_in x2 (kd 41).2 ∧ ((1 : Int32) = 0 ∨ (1 : Int32) = 1)) (p1 := 77) (L1 := [.ref 29, .int x1, .int x2, .int x3]) (s1 := []) (h1 := hh (xa_u S.1 41 ((x2).toNatClampNeg) 1, S.2.1, S.2.2)) 3 (fun n => B_132_14 n x1 x2 x3 S) (⟨rfl, g9, by decide⟩) ?_
          obtain ⟨e1, e2⟩ := Prod.mk.inj (Option.some.inj hG)
          subst e1
          subst e2
          exact Ev.r 1 (fun n => rfl)
        · rw [if_neg c8] at hG
          refine Ev.f (c := x1 = 4) (p1 := 71) (L1 := [.ref 29, .int x1, .int x2, .int x3]) (s1 := [.int x2, .ref 41]) (h1 := hh S) (p2 := 75) (L2 := [.ref 29, .int x1, .int x2, .int x3]) (s2 := [.int x2, .ref 41]) (h2 := hh S) 6 (fun n => B_132_15 n x1 x2 x3 S) c8 ?_
          by_cases g10 : xa_in x2 16
          rotate_left
          · rw [if_neg g10] at hG; cases hG
          rw [if_pos g10] at hG
          refine Ev.g (c := (kd 41).1 = 1 ∧ xa_in x2 (kd 41).2 ∧ ((0 : Int32) = 0 ∨ (0 : Int32) = 1)) (p1 := 77) (L1 := [.ref 29, .int x1, .int x2, .int x3]) (s1 := []) (h1 := hh (xa_u S.1 41 ((x2).toNatClampNeg) 0, S.2.1, S.2.2)) 2 (fun n => B_132_16 n x1 x2 x3 S) (⟨rfl, g10, by decide⟩) ?_
          obtain ⟨e1, e2⟩ := Prod.mk.inj (Option.some.inj hG)
          subst e1
          subst e2
          exact Ev.r 1 (fun n => rfl)
/-- 134: SceneCycleModel.holds(II)Z -/
def G_134 (S : St) (x1 : Int32) (x2 : Int32) : Option (Int32 × St) :=
  (match G_118 S x1 (x2 + 1) with
  | none => none
  | some (v1, S1) =>
    (match G_118 S1 x1 (x2 + 2) with
    | none => none
    | some (v2, S2) =>
      (match G_118 S2 x1 x2 with
      | none => none
      | some (v3, S3) =>
        (if v3 = 0 then
          (if xa_in v1 16 then
            (if (S3.1 40 (v1).toNatClampNeg) = v2 then
              some (1, S3)
            else
              some (0, S3)
            )
          else none)
        else
          (if v3 = 1 then
            (if xa_in v1 16 then
              (if v2 ≤ (S3.1 40 (v1).toNatClampNeg) then
                some (0, S3)
              else
                some (1, S3)
              )
            else none)
          else
            (if v3 = 2 then
              (if xa_in v1 16 then
                (if ((S3.1 41 (v1).toNatClampNeg) = 0 ∨ (S3.1 41 (v1).toNatClampNeg) = 1) then some ((S3.1 41 (v1).toNatClampNeg), S3) else none)
              else none)
            else
              (if v3 = 3 then
                (if (S3.1 29 33) = v1 then
                  some (1, S3)
                else
                  some (0, S3)
                )
              else
                (if xa_in v1 4 then
                  (if (S3.1 42 (v1).toNatClampNeg) < v2 then
                    (if (S3.1 49 (v1).toNatClampNeg) = 0 then
                      some (0, S3)
                    else
                      some (0, S3)
                    )
                  else
                    (match G_118 S3 x1 (x2 + 4) with
                    | none => none
                    | some (v18, S18) =>
                      (if v18 < (((S3.1 42 (v1).toNatClampNeg) + (S3.1 44 (v1).toNatClampNeg)) - 1) then
                        (if (S18.1 49 (v1).toNatClampNeg) = 0 then
                          some (0, S18)
                        else
                          some (0, S18)
                        )
                      else
                        (if (S18.1 49 (v1).toNatClampNeg) = 0 then
                          some (0, S18)
                        else
                          (match G_118 S18 x1 (x2 + 3) with
                          | none => none
                          | some (v22, S22) =>
                            (if (S18.1 43 (v1).toNatClampNeg) < v22 then
                              some (0, S22)
                            else
                              (match G_118 S22 x1 (x2 + 5) with
                              | none => none
                              | some (v24, S24) =>
                                (if v24 < (S22.1 43 (v1).toNatClampNeg) then
                                  some (0, S24)
                                else
                                  some (1, S24)
                                )
                              )
                            )
                          )
                        )
                      )
                    )
                  )
                else none)
              )
            )
          )
        )
      )
    )
  )
theorem B_134_1 {X : Nat × (Nat → Int32)} {d : Nat} (n : Nat) (x1 : Int32) (x2 : Int32) (S : St) : ex X (d + 1) 134 0 [.ref 29, .int x1, .int x2, .retAddr 0, .retAddr 0, .retAddr 0] [] (hh S) (n + 6) = (match ex X d 118 0 [.ref 29, .int x1, .int (x2 + 1)] [] (hh S) n with | some (v, h') => ex X (d + 1) 134 8 [.ref 29, .int x1, .int x2, .retAddr 0, .retAddr 0, .retAddr 0] (v.toList ++ []) h' n | none => none) := rfl
theorem B_134_2 {X : Nat × (Nat → Int32)} {d : Nat} (n : Nat) (x1 : Int32) (x2 : Int32) (v1 : Int32) (S1 : St) : ex X (d + 1) 134 8 [.ref 29, .int x1, .int x2, .retAddr 0, .retAddr 0, .retAddr 0] [.int v1] (hh S1) (n + 7) = (match ex X d 118 0 [.ref 29, .int x1, .int (x2 + 2)] [] (hh S1) n with | some (v, h') => ex X (d + 1) 134 17 [.ref 29, .int x1, .int x2, .int v1, .retAddr 0, .retAddr 0] (v.toList ++ []) h' n | none => none) := rfl
theorem B_134_3 {X : Nat × (Nat → Int32)} {d : Nat} (n : Nat) (x1 : Int32) (x2 : Int32) (v1 : Int32) (v2 : Int32) (S2 : St) : ex X (d + 1) 134 17 [.ref 29, .int x1, .int x2, .int v1, .retAddr 0, .retAddr 0] [.int v2] (hh S2) (n + 5) = (match ex X d 118 0 [.ref 29, .int x1, .int x2] [] (hh S2) n with | some (v, h') => ex X (d + 1) 134 25 [.ref 29, .int x1, .int x2, .int v1, .int v2, .retAddr 0] (v.toList ++ []) h' n | none => none) := rfl
theorem B_134_4 {X : Nat × (Nat → Int32)} {d : Nat} (n : Nat) (x1 : Int32) (x2 : Int32) (v1 : Int32) (v2 : Int32) (v3 : Int32) (S3 : St) : ex X d 134 25 [.ref 29, .int x1, .int x2, .int v1, .int v2, .retAddr 0] [.int v3] (hh S3) (n + 1) = xa_sw [(0, 56), (1, 73), (2, 90), (3, 97)] v3 111 (fun t => ex X d 134 t [.ref 29, .int x1, .int x2, .int v1, .int v2, .retAddr 0] [] (hh S3) n) := rfl
theorem B_134_5 {X : Nat × (Nat → Int32)} {d : Nat} (n : Nat) (x1 : Int32) (x2 : Int32) (v1 : Int32) (v2 : Int32) (S3 : St) : ex X d 134 56 [.ref 29, .int x1, .int x2, .int v1, .int v2, .retAddr 0] [] (hh S3) (n + 4) = if (kd 40).1 = 0 ∧ xa_in v1 (kd 40).2 then ex X d 134 62 [.ref 29, .int x1, .int x2, .int v1, .int v2, .retAddr 0] [.int (S3.1 40 (v1).toNatClampNeg)] (hh S3) n else none := rfl
theorem B_134_6 {X : Nat × (Nat → Int32)} {d : Nat} (n : Nat) (x1 : Int32) (x2 : Int32) (v1 : Int32) (v2 : Int32) (S3 : St) : ex X d 134 62 [.ref 29, .int x1, .int x2, .int v1, .int v2, .retAddr 0] [.int (S3.1 40 (v1).toNatClampNeg)] (hh S3) (n + 2) = if (S3.1 40 (v1).toNatClampNeg) = v2 then ex X d 134 67 [.ref 29, .int x1, .int x2, .int v1, .int v2, .retAddr 0] [] (hh S3) n else ex X d 134 71 [.ref 29, .int x1, .int x2, .int v1, .int v2, .retAddr 0] [] (hh S3) n := rfl
theorem B_134_7 {X : Nat × (Nat → Int32)} {d : Nat} (n : Nat) (x1 : Int32) (x2 : Int32) (v1 : Int32) (v2 : Int32) (S3 : St) : ex X d 134 62 [.ref 29, .int x1, .int x2, .int v1, .int v2, .retAddr 0] [.int (S3.1 40 (v1).toNatClampNeg)] (hh S3) (n + 2) = if (S3.1 40 (v1).toNatClampNeg) = v2 then ex X d 134 67 [.ref 29, .int x1, .int x2, .int v1, .int v2, .retAddr 0] [] (hh S3) n else ex X d 134 71 [.ref 29, .int x1, .int x2, .int v1, .int v2, .retAddr 0] [] (hh S3) n := rfl
theorem B_134_8 {X : Nat × (Nat → Int32)} {d : Nat} (n : Nat) (x1 : Int32) (x2 : Int32) (v1 : Int32) (v2 : Int32) (S3 : St) : ex X d 134 73 [.ref 29, .int x1, .int x2, .int v1, .int v2, .retAddr 0] [] (hh S3) (n + 4) = if (kd 40).1 = 0 ∧ xa_in v1 (kd 40).2 then ex X d 134 79 [.ref 29, .int x1, .int x2, .int v1, .int v2, .retAddr 0] [.int (S3.1 40 (v1).toNatClampNeg)] (hh S3) n else none := rfl
theorem B_134_9 {X : Nat × (Nat → Int32)} {d : Nat} (n : Nat) (x1 : Int32) (x2 : Int32) (v1 : Int32) (v2 : Int32) (S3 : St) : ex X d 134 79 [.ref 29, .int x1, .int x2, .int v1, .int v2, .retAddr 0] [.int (S3.1 40 (v1).toNatClampNeg)] (hh S3) (n + 2) = if v2 ≤ (S3.1 40 (v1).toNatClampNeg) then ex X d 134 88 [.ref 29, .int x1, .int x2, .int v1, .int v2, .retAddr 0] [] (hh S3) n else ex X d 134 84 [.ref 29, .int x1, .int x2, .int v1, .int v2, .retAddr 0] [] (hh S3) n := rfl
theorem B_134_10 {X : Nat × (Nat → Int32)} {d : Nat} (n : Nat) (x1 : Int32) (x2 : Int32) (v1 : Int32) (v2 : Int32) (S3 : St) : ex X d 134 79 [.ref 29, .int x1, .int x2, .int v1, .int v2, .retAddr 0] [.int (S3.1 40 (v1).toNatClampNeg)] (hh S3) (n + 2) = if v2 ≤ (S3.1 40 (v1).toNatClampNeg) then ex X d 134 88 [.ref 29, .int x1, .int x2, .int v1, .int v2, .retAddr 0] [] (hh S3) n else ex X d 134 84 [.ref 29, .int x1, .int x2, .int v1, .int v2, .retAddr 0] [] (hh S3) n := rfl
theorem B_134_11 {X : Nat × (Nat → Int32)} {d : Nat} (n : Nat) (x1 : Int32) (x2 : Int32) (v1 : Int32) (v2 : Int32) (S3 : St) : ex X d 134 90 [.ref 29, .int x1, .int x2, .int v1, .int v2, .retAddr 0] [] (hh S3) (n + 4) = if (kd 41).1 = 1 ∧ xa_in v1 (kd 41).2 then ex X d 134 96 [.ref 29, .int x1, .int x2, .int v1, .int v2, .retAddr 0] [.int (S3.1 41 (v1).toNatClampNeg)] (hh S3) n else none := rfl
theorem B_134_12 {X : Nat × (Nat → Int32)} {d : Nat} (n : Nat) (x1 : Int32) (x2 : Int32) (v1 : Int32) (v2 : Int32) (S3 : St) : ex X d 134 97 [.ref 29, .int x1, .int x2, .int v1, .int v2, .retAddr 0] [] (hh S3) (n + 4) = if (S3.1 29 33) = v1 then ex X d 134 105 [.ref 29, .int x1, .int x2, .int v1, .int v2, .retAddr 0] [] (hh S3) n else ex X d 134 109 [.ref 29, .int x1, .int x2, .int v1, .int v2, .retAddr 0] [] (hh S3) n := rfl
theorem B_134_13 {X : Nat × (Nat → Int32)} {d : Nat} (n : Nat) (x1 : Int32) (x2 : Int32) (v1 : Int32) (v2 : Int32) (S3 : St) : ex X d 134 97 [.ref 29, .int x1, .int x2, .int v1, .int v2, .retAddr 0] [] (hh S3) (n + 4) = if (S3.1 29 33) = v1 then ex X d 134 105 [.ref 29, .int x1, .int x2, .int v1, .int v2, .retAddr 0] [] (hh S3) n else ex X d 134 109 [.ref 29, .int x1, .int x2, .int v1, .int v2, .retAddr 0] [] (hh S3) n := rfl
theorem B_134_14 {X : Nat × (Nat → Int32)} {d : Nat} (n : Nat) (x1 : Int32) (x2 : Int32) (v1 : Int32) (v2 : Int32) (S3 : St) : ex X d 134 111 [.ref 29, .int x1, .int x2, .int v1, .int v2, .retAddr 0] [] (hh S3) (n + 4) = if (kd 42).1 = 0 ∧ xa_in v1 (kd 42).2 then ex X d 134 117 [.ref 29, .int x1, .int x2, .int v1, .int v2, .retAddr 0] [.int (S3.1 42 (v1).toNatClampNeg)] (hh S3) n else none := rfl
theorem B_134_15 {X : Nat × (Nat → Int32)} {d : Nat} (n : Nat) (x1 : Int32) (x2 : Int32) (v1 : Int32) (v2 : Int32) (S3 : St) : ex X d 134 117 [.ref 29, .int x1, .int x2, .int v1, .int v2, .retAddr 0] [.int (S3.1 42 (v1).toNatClampNeg)] (hh S3) (n + 2) = if (S3.1 42 (v1).toNatClampNeg) < v2 then ex X d 134 152 [.ref 29, .int x1, .int x2, .int v1, .int v2, .retAddr 0] [] (hh S3) n else ex X d 134 122 [.ref 29, .int x1, .int x2, .int v1, .int v2, .retAddr 0] [] (hh S3) n := rfl
theorem B_134_16 {X : Nat × (Nat → Int32)} {d : Nat} (n : Nat) (x1 : Int32) (x2 : Int32) (v1 : Int32) (v2 : Int32) (S3 : St) : ex X d 134 152 [.ref 29, .int x1, .int x2, .int v1, .int v2, .retAddr 0] [] (hh S3) (n + 6) = if (kd 49).1 = 1 ∧ xa_in v1 (kd 49).2 then ex X d 134 161 [.ref 29, .int x1, .int x2, .int v1, .int v2, .int 0] [.int (S3.1 49 (v1).toNatClampNeg)] (hh S3) n else none := rfl
theorem B_134_17 {X : Nat × (Nat → Int32)} {d : Nat} (n : Nat) (x1 : Int32) (x2 : Int32) (v1 : Int32) (v2 : Int32) (S3 : St) : ex X d 134 161 [.ref 29, .int x1, .int x2, .int v1, .int v2, .int 0] [.int (S3.1 49 (v1).toNatClampNeg)] (hh S3) (n + 1) = if (S3.1 49 (v1).toNatClampNeg) = 0 then ex X d 134 207 [.ref 29, .int x1, .int x2, .int v1, .int v2, .int 0] [] (hh S3) n else ex X d 134 164 [.ref 29, .int x1, .int x2, .int v1, .int v2, .int 0] [] (hh S3) n := rfl
theorem B_134_18 {X : Nat × (Nat → Int32)} {d : Nat} (n : Nat) (x1 : Int32) (x2 : Int32) (v1 : Int32) (v2 : Int32) (S3 : St) : ex X d 134 161 [.ref 29, .int x1, .int x2, .int v1, .int v2, .int 0] [.int (S3.1 49 (v1).toNatClampNeg)] (hh S3) (n + 1) = if (S3.1 49 (v1).toNatClampNeg) = 0 then ex X d 134 207 [.ref 29, .int x1, .int x2, .int v1, .int v2, .int 0] [] (hh S3) n else ex X d 134 164 [.ref 29, .int x1, .int x2, .int v1, .int v2, .int 0] [] (hh S3) n := rfl
theorem B_134_19 {X : Nat × (Nat → Int32)} {d : Nat} (n : Nat) (x1 : Int32) (x2 : Int32) (v1 : Int32) (v2 : Int32) (S3 : St) : ex X d 134 164 [.ref 29, .int x1, .int x2, .int v1, .int v2, .int 0] [] (hh S3) (n + 2) = if (0 : Int32) = 0 then ex X d 134 207 [.ref 29, .int x1, .int x2, .int v1, .int v2, .int 0] [] (hh S3) n else ex X d 134 169 [.ref 29, .int x1, .int x2, .int v1, .int v2, .int 0] [] (hh S3) n := rfl
theorem B_134_20 {X : Nat × (Nat → Int32)} {d : Nat} (n : Nat) (x1 : Int32) (x2 : Int32) (v1 : Int32) (v2 : Int32) (S3 : St) : ex X d 134 117 [.ref 29, .int x1, .int x2, .int v1, .int v2, .retAddr 0] [.int (S3.1 42 (v1).toNatClampNeg)] (hh S3) (n + 2) = if (S3.1 42 (v1).toNatClampNeg) < v2 then ex X d 134 152 [.ref 29, .int x1, .int x2, .int v1, .int v2, .retAddr 0] [] (hh S3) n else ex X d 134 122 [.ref 29, .int x1, .int x2, .int v1, .int v2, .retAddr 0] [] (hh S3) n := rfl
theorem B_134_21 {X : Nat × (Nat → Int32)} {d : Nat} (n : Nat) (x1 : Int32) (x2 : Int32) (v1 : Int32) (v2 : Int32) (S3 : St) : ex X d 134 122 [.ref 29, .int x1, .int x2, .int v1, .int v2, .retAddr 0] [] (hh S3) (n + 4) = if (kd 42).1 = 0 ∧ xa_in v1 (kd 42).2 then ex X d 134 128 [.ref 29, .int x1, .int x2, .int v1, .int v2, .retAddr 0] [.int (S3.1 42 (v1).toNatClampNeg)] (hh S3) n else none := rfl
theorem B_134_22 {X : Nat × (Nat → Int32)} {d : Nat} (n : Nat) (x1 : Int32) (x2 : Int32) (v1 : Int32) (v2 : Int32) (S3 : St) : ex X d 134 128 [.ref 29, .int x1, .int x2, .int v1, .int v2, .retAddr 0] [.int (S3.1 42 (v1).toNatClampNeg)] (hh S3) (n + 4) = if (kd 44).1 = 0 ∧ xa_in v1 (kd 44).2 then ex X d 134 134 [.ref 29, .int x1, .int x2, .int v1, .int v2, .retAddr 0] [.int (S3.1 44 (v1).toNatClampNeg), .int (S3.1 42 (v1).toNatClampNeg)] (hh S3) n else none := rfl
theorem B_134_23 {X : Nat × (Nat → Int32)} {d : Nat} (n : Nat) (x1 : Int32) (x2 : Int32) (v1 : Int32) (v2 : Int32) (S3 : St) : ex X (d + 1) 134 134 [.ref 29, .int x1, .int x2, .int v1, .int v2, .retAddr 0] [.int (S3.1 44 (v1).toNatClampNeg), .int (S3.1 42 (v1).toNatClampNeg)] (hh S3) (n + 9) = (match ex X d 118 0 [.ref 29, .int x1, .int (x2 + 4)] [] (hh S3) n with | some (v, h') => ex X (d + 1) 134 145 [.ref 29, .int x1, .int x2, .int v1, .int v2, .retAddr 0] (v.toList ++ [.int (((S3.1 42 (v1).toNatClampNeg) + (S3.1 44 (v1).toNatClampNeg)) - 1)]) h' n | none => none) := rfl
theorem B_134_24 {X : Nat × (Nat → Int32)} {d : Nat} (n : Nat) (x1 : Int32) (x2 : Int32) (v1 : Int32) (v2 : Int32) (v18 : Int32) (S3 : St) (S18 : St) : ex X d 134 145 [.ref 29, .int x1, .int x2, .int v1, .int v2, .retAddr 0] [.int v18, .int (((S3.1 42 (v1).toNatClampNeg) + (S3.1 44 (v1).toNatClampNeg)) - 1)] (hh S18) (n + 1) = if v18 < (((S3.1 42 (v1).toNatClampNeg) + (S3.1 44 (v1).toNatClampNeg)) - 1) then ex X d 134 152 [.ref 29, .int x1, .int x2, .int v1, .int v2, .retAddr 0] [] (hh S18) n else ex X d 134 148 [.ref 29, .int x1, .int x2, .int v1, .int v2, .retAddr 0] [] (hh S18) n := rfl
theorem B_134_25 {X : Nat × (Nat → Int32)} {d : Nat} (n : Nat) (x1 : Int32) (x2 : Int32) (v1 : Int32) (v2 : Int32) (S18 : St) : ex X d 134 152 [.ref 29, .int x1, .int x2, .int v1, .int v2, .retAddr 0] [] (hh S18) (n + 6) = if (kd 49).1 = 1 ∧ xa_in v1 (kd 49).2 then ex X d 134 161 [.ref 29, .int x1, .int x2, .int v1, .int v2, .int 0] [.int (S18.1 49 (v1).toNatClampNeg)] (hh S18) n else none := rfl
theorem B_134_26 {X : Nat × (Nat → Int32)} {d : Nat} (n : Nat) (x1 : Int32) (x2 : Int32) (v1 : Int32) (v2 : Int32) (S18 : St) : ex X d 134 161 [.ref 29, .int x1, .int x2, .int v1, .int v2, .int 0] [.int (S18.1 49 (v1).toNatClampNeg)] (hh S18) (n + 1) = if (S18.1 49 (v1).toNatClampNeg) = 0 then ex X d 134 207 [.ref 29, .int x1, .int x2, .int v1, .int v2, .int 0] [] (hh S18) n else ex X d 134 164 [.ref 29, .int x1, .int x2, .int v1, .int v2, .int 0] [] (hh S18) n := rfl
theorem B_134_27 {X : Nat × (Nat → Int32)} {d : Nat} (n : Nat) (x1 : Int32) (x2 : Int32) (v1 : Int32) (v2 : Int32) (S18 : St) : ex X d 134 161 [.ref 29, .int x1, .int x2, .int v1, .int v2, .int 0] [.int (S18.1 49 (v1).toNatClampNeg)] (hh S18) (n + 1) = if (S18.1 49 (v1).toNatClampNeg) = 0 then ex X d 134 207 [.ref 29, .int x1, .int x2, .int v1, .int v2, .int 0] [] (hh S18) n else ex X d 134 164 [.ref 29, .int x1, .int x2, .int v1, .int v2, .int 0] [] (hh S18) n := rfl
theorem B_134_28 {X : Nat × (Nat → Int32)} {d : Nat} (n : Nat) (x1 : Int32) (x2 : Int32) (v1 : Int32) (v2 : Int32) (S18 : St) : ex X d 134 164 [.ref 29, .int x1, .int x2, .int v1, .int v2, .int 0] [] (hh S18) (n + 2) = if (0 : Int32) = 0 then ex X d 134 207 [.ref 29, .int x1, .int x2, .int v1, .int v2, .int 0] [] (hh S18) n else ex X d 134 169 [.ref 29, .int x1, .int x2, .int v1, .int v2, .int 0] [] (hh S18) n := rfl
theorem B_134_29 {X : Nat × (Nat → Int32)} {d : Nat} (n : Nat) (x1 : Int32) (x2 : Int32) (v1 : Int32) (v2 : Int32) (v18 : Int32) (S3 : St) (S18 : St) : ex X d 134 145 [.ref 29, .int x1, .int x2, .int v1, .int v2, .retAddr 0] [.int v18, .int (((S3.1 42 (v1).toNatClampNeg) + (S3.1 44 (v1).toNatClampNeg)) - 1)] (hh S18) (n + 1) = if v18 < (((S3.1 42 (v1).toNatClampNeg) + (S3.1 44 (v1).toNatClampNeg)) - 1) then ex X d 134 152 [.ref 29, .int x1, .int x2, .int v1, .int v2, .retAddr 0] [] (hh S18) n else ex X d 134 148 [.ref 29, .int x1, .int x2, .int v1, .int v2, .retAddr 0] [] (hh S18) n := rfl
theorem B_134_30 {X : Nat × (Nat → Int32)} {d : Nat} (n : Nat) (x1 : Int32) (x2 : Int32) (v1 : Int32) (v2 : Int32) (S18 : St) : ex X d 134 148 [.ref 29, .int x1, .int x2, .int v1, .int v2, .retAddr 0] [] (hh S18) (n + 7) = if (kd 49).1 = 1 ∧ xa_in v1 (kd 49).2 then ex X d 134 161 [.ref 29, .int x1, .int x2, .int v1, .int v2, .int 1] [.int (S18.1 49 (v1).toNatClampNeg)] (hh S18) n else none := rfl
theorem B_134_31 {X : Nat × (Nat → Int32)} {d : Nat} (n : Nat) (x1 : Int32) (x2 : Int32) (v1 : Int32) (v2 : Int32) (S18 : St) : ex X d 134 161 [.ref 29, .int x1, .int x2, .int v1, .int v2, .int 1] [.int (S18.1 49 (v1).toNatClampNeg)] (hh S18) (n + 1) = if (S18.1 49 (v1).toNatClampNeg) = 0 then ex X d 134 207 [.ref 29, .int x1, .int x2, .int v1, .int v2, .int 1] [] (hh S18) n else ex X d 134 164 [.ref 29, .int x1, .int x2, .int v1, .int v2, .int 1] [] (hh S18) n := rfl
theorem B_134_32 {X : Nat × (Nat → Int32)} {d : Nat} (n : Nat) (x1 : Int32) (x2 : Int32) (v1 : Int32) (v2 : Int32) (S18 : St) : ex X d 134 161 [.ref 29, .int x1, .int x2, .int v1, .int v2, .int 1] [.int (S18.1 49 (v1).toNatClampNeg)] (hh S18) (n + 1) = if (S18.1 49 (v1).toNatClampNeg) = 0 then ex X d 134 207 [.ref 29, .int x1, .int x2, .int v1, .int v2, .int 1] [] (hh S18) n else ex X d 134 164 [.ref 29, .int x1, .int x2, .int v1, .int v2, .int 1] [] (hh S18) n := rfl
theorem B_134_33 {X : Nat × (Nat → Int32)} {d : Nat} (n : Nat) (x1 : Int32) (x2 : Int32) (v1 : Int32) (v2 : Int32) (S18 : St) : ex X d 134 164 [.ref 29, .int x1, .int x2, .int v1, .int v2, .int 1] [] (hh S18) (n + 2) = if (1 : Int32) = 0 then ex X d 134 207 [.ref 29, .int x1, .int x2, .int v1, .int v2, .int 1] [] (hh S18) n else ex X d 134 169 [.ref 29, .int x1, .int x2, .int v1, .int v2, .int 1] [] (hh S18) n := rfl
theorem B_134_34 {X : Nat × (Nat → Int32)} {d : Nat} (n : Nat) (x1 : Int32) (x2 : Int32) (v1 : Int32) (v2 : Int32) (S18 : St) : ex X d 134 169 [.ref 29, .int x1, .int x2, .int v1, .int v2, .int 1] [] (hh S18) (n + 4) = if (kd 43).1 = 0 ∧ xa_in v1 (kd 43).2 then ex X d 134 175 [.ref 29, .int x1, .int x2, .int v1, .int v2, .int 1] [.int (S18.1 43 (v1).toNatClampNeg)] (hh S18) n else none := rfl
theorem B_134_35 {X : Nat × (Nat → Int32)} {d : Nat} (n : Nat) (x1 : Int32) (x2 : Int32) (v1 : Int32) (v2 : Int32) (S18 : St) : ex X (d + 1) 134 175 [.ref 29, .int x1, .int x2, .int v1, .int v2, .int 1] [.int (S18.1 43 (v1).toNatClampNeg)] (hh S18) (n + 6) = (match ex X d 118 0 [.ref 29, .int x1, .int (x2 + 3)] [] (hh S18) n with | some (v, h') => ex X (d + 1) 134 183 [.ref 29, .int x1, .int x2, .int v1, .int v2, .int 1] (v.toList ++ [.int (S18.1 43 (v1).toNatClampNeg)]) h' n | none => none) := rfl
theorem B_134_36 {X : Nat × (Nat → Int32)} {d : Nat} (n : Nat) (x1 : Int32) (x2 : Int32) (v1 : Int32) (v2 : Int32) (v22 : Int32) (S18 : St) (S22 : St) : ex X d 134 183 [.ref 29, .int x1, .int x2, .int v1, .int v2, .int 1] [.int v22, .int (S18.1 43 (v1).toNatClampNeg)] (hh S22) (n + 1) = if (S18.1 43 (v1).toNatClampNeg) < v22 then ex X d 134 207 [.ref 29, .int x1, .int x2, .int v1, .int v2, .int 1] [] (hh S22) n else ex X d 134 186 [.ref 29, .int x1, .int x2, .int v1, .int v2, .int 1] [] (hh S22) n := rfl
theorem B_134_37 {X : Nat × (Nat → Int32)} {d : Nat} (n : Nat) (x1 : Int32) (x2 : Int32) (v1 : Int32) (v2 : Int32) (v22 : Int32) (S18 : St) (S22 : St) : ex X d 134 183 [.ref 29, .int x1, .int x2, .int v1, .int v2, .int 1] [.int v22, .int (S18.1 43 (v1).toNatClampNeg)] (hh S22) (n + 1) = if (S18.1 43 (v1).toNatClampNeg) < v22 then ex X d 134 207 [.ref 29, .int x1, .int x2, .int v1, .int v2, .int 1] [] (hh S22) n else ex X d 134 186 [.ref 29, .int x1, .int x2, .int v1, .int v2, .int 1] [] (hh S22) n := rfl
theorem B_134_38 {X : Nat × (Nat → Int32)} {d : Nat} (n : Nat) (x1 : Int32) (x2 : Int32) (v1 : Int32) (v2 : Int32) (S22 : St) : ex X d 134 186 [.ref 29, .int x1, .int x2, .int v1, .int v2, .int 1] [] (hh S22) (n + 4) = if (kd 43).1 = 0 ∧ xa_in v1 (kd 43).2 then ex X d 134 192 [.ref 29, .int x1, .int x2, .int v1, .int v2, .int 1] [.int (S22.1 43 (v1).toNatClampNeg)] (hh S22) n else none := rfl
theorem B_134_39 {X : Nat × (Nat → Int32)} {d : Nat} (n : Nat) (x1 : Int32) (x2 : Int32) (v1 : Int32) (v2 : Int32) (S22 : St) : ex X (d + 1) 134 192 [.ref 29, .int x1, .int x2, .int v1, .int v2, .int 1] [.int (S22.1 43 (v1).toNatClampNeg)] (hh S22) (n + 6) = (match ex X d 118 0 [.ref 29, .int x1, .int (x2 + 5)] [] (hh S22) n with | some (v, h') => ex X (d + 1) 134 200 [.ref 29, .int x1, .int x2, .int v1, .int v2, .int 1] (v.toList ++ [.int (S22.1 43 (v1).toNatClampNeg)]) h' n | none => none) := rfl
theorem B_134_40 {X : Nat × (Nat → Int32)} {d : Nat} (n : Nat) (x1 : Int32) (x2 : Int32) (v1 : Int32) (v2 : Int32) (v24 : Int32) (S22 : St) (S24 : St) : ex X d 134 200 [.ref 29, .int x1, .int x2, .int v1, .int v2, .int 1] [.int v24, .int (S22.1 43 (v1).toNatClampNeg)] (hh S24) (n + 1) = if v24 < (S22.1 43 (v1).toNatClampNeg) then ex X d 134 207 [.ref 29, .int x1, .int x2, .int v1, .int v2, .int 1] [] (hh S24) n else ex X d 134 203 [.ref 29, .int x1, .int x2, .int v1, .int v2, .int 1] [] (hh S24) n := rfl
theorem B_134_41 {X : Nat × (Nat → Int32)} {d : Nat} (n : Nat) (x1 : Int32) (x2 : Int32) (v1 : Int32) (v2 : Int32) (v24 : Int32) (S22 : St) (S24 : St) : ex X d 134 200 [.ref 29, .int x1, .int x2, .int v1, .int v2, .int 1] [.int v24, .int (S22.1 43 (v1).toNatClampNeg)] (hh S24) (n + 1) = if v24 < (S22.1 43 (v1).toNatClampNeg) then ex X d 134 207 [.ref 29, .int x1, .int x2, .int v1, .int v2, .int 1] [] (hh S24) n else ex X d 134 203 [.ref 29, .int x1, .int x2, .int v1, .int v2, .int 1] [] (hh S24) n := rfl
set_option maxRecDepth 200000 in
theorem T_134 {X : Nat × (Nat → Int32)} (S : St) (x1 : Int32) (x2 : Int32) (r : Int32) (S' : St) (hG : G_134 S x1 x2 = some (r, S')) : Ev X 1 134 0 [.ref 29, .int x1, .int x2, .retAddr 0, .retAddr 0, .retAddr 0] [] (hh S) (xI r, hh S') := by
  unfold G_134 at hG
  rcases h1 : G_118 S x1 (x2 + 1) with _ | ⟨v1, S1⟩
  · rw [h1] at hG; cases hG
  rw [h1] at hG
  dsimp only at hG
  refine Ev.c (a := 118) (A := [.ref 29, .int x1, .int (x2 + 1)]) (h1 := hh S) (pc' := 8) (L' := [.ref 29, .int x1, .int x2, .retAddr 0, .retAddr 0, .retAddr 0]) (rest := []) (r1 := some (.int v1)) (h2 := hh S1) 6 (fun n => B_134_1 n x1 x2 S) (Ev.up (by decide) (T_118 S x1 (x2 + 1) _ _ h1)) ?_
  show Ev X _ 134 8 [.ref 29, .int x1, .int x2, .retAddr 0, .retAddr 0, .retAddr 0] [.int v1] (hh S1) _
  rcases h2 : G_118 S1 x1 (x2 + 2) with _ | ⟨v2, S2⟩
  · rw [h2] at hG; cases hG
  rw [h2] at hG
  dsimp only at hG
  refine Ev.c (a := 118) (A := [.ref 29, .int x1, .int (x2 + 2)]) (h1 := hh S1) (pc' := 17) (L' := [.ref 29, .int x1, .int x2, .int v1, .retAddr 0, .retAddr 0]) (rest := []) (r1 := some (.int v2)) (h2 := hh S2) 7 (fun n => B_134_2 n x1 x2 v1 S1) (Ev.up (by decide) (T_118 S1 x1 (x2 + 2) _ _ h2)) ?_
  show Ev X _ 134 17 [.ref 29, .int x1, .int x2, .int v1, .retAddr 0, .retAddr 0] [.int v2] (hh S2) _
  rcases h3 : G_118 S2 x1 x2 with _ | ⟨v3, S3⟩
  · rw [h3] at hG; cases hG
  rw [h3] at hG
  dsimp only at hG
  refine Ev.c (a := 118) (A := [.ref 29, .int x1, .int x2]) (h1 := hh S2) (pc' := 25) (L' := [.ref 29, .int x1, .int x2, .int v1, .int v2, .retAddr 0]) (rest := []) (r1 := some (.int v3)) (h2 := hh S3) 5 (fun n => B_134_3 n x1 x2 v1 v2 S2) (Ev.up (by decide) (T_118 S2 x1 x2 _ _ h3)) ?_
  show Ev X _ 134 25 [.ref 29, .int x1, .int x2, .int v1, .int v2, .retAddr 0] [.int v3] (hh S3) _
  refine Ev.sw (ks := [(0, 56), (1, 73), (2, 90), (3, 97)]) (x := v3) (df := 111) (L1 := [.ref 29, .int x1, .int x2, .int v1, .int v2, .retAddr 0]) (s1 := []) (h1 := hh S3) 1 (fun n => B_134_4 n x1 x2 v1 v2 v3 S3) ?_
  by_cases c4 : v3 = 0
  · rw [if_pos c4] at hG
    rw [xa_sw, if_pos c4]
    show Ev X _ 134 56 [.ref 29, .int x1, .int x2, .int v1, .int v2, .retAddr 0] [] (hh S3) _
    by_cases g5 : xa_in v1 16
    rotate_left
    · rw [if_neg g5] at hG; cases hG
    rw [if_pos g5] at hG
    refine Ev.g (c := (kd 40).1 = 0 ∧ xa_in v1 (kd 40).2) (p1 := 62) (L1 := [.ref 29, .int x1, .int x2, .int v1, .int v2, .retAddr 0]) (s1 := [.int (S3.1 40 (v1).toNatClampNeg)]) (h1 := hh S3) 4 (fun n => B_134_5 n x1 x2 v1 v2 S3) (⟨rfl, g5⟩) ?_
    by_cases c6 : (S3.1 40 (v1).toNatClampNeg) = v2
    · rw [if_pos c6] at hG
      refine Ev.t (c := (S3.1 40 (v1).toNatClampNeg) = v2) (p1 := 67) (L1 := [.ref 29, .int x1, .int x2, .int v1, .int v2, .retAddr 0]) (s1 := []) (h1 := hh S3) (p2 := 71) (L2 := [.ref 29, .int x1, .int x2, .int v1, .int v2, .retAddr 0]) (s2 := []) (h2 := hh S3) 2 (fun n => B_134_6 n x1 x2 v1 v2 S3) c6 ?_
      obtain ⟨e1, e2⟩ := Prod.mk.inj (Option.some.inj hG)
      subst e1
      subst e2
      exact Ev.rg (c := (xm_z 134 = 0 ∨ (xm_z 134 = 1 ∧ ((1 : Int32) = 0 ∨ (1 : Int32) = 1)) ∨ (xm_z 134 = 2 ∧ ((1 : Int32)).toInt8.toInt32 = (1 : Int32)) ∨ (xm_z 134 = 3 ∧ ((1 : Int32)).toUInt32.toUInt16.toUInt32.toInt32 = (1 : Int32)))) 3 (fun n => rfl) (Or.inr (Or.inl ⟨rfl, by decide⟩))
    · rw [if_neg c6] at hG
      refine Ev.f (c := (S3.1 40 (v1).toNatClampNeg) = v2) (p1 := 67) (L1 := [.ref 29, .int x1, .int x2, .int v1, .int v2, .retAddr 0]) (s1 := []) (h1 := hh S3) (p2 := 71) (L2 := [.ref 29, .int x1, .int x2, .int v1, .int v2, .retAddr 0]) (s2 := []) (h2 := hh S3) 2 (fun n => B_134_7 n x1 x2 v1 v2 S3) c6 ?_
      obtain ⟨e1, e2⟩ := Prod.mk.inj (Option.some.inj hG)
      subst e1
      subst e2
      exact Ev.rg (c := (xm_z 134 = 0 ∨ (xm_z 134 = 1 ∧ ((0 : Int32) = 0 ∨ (0 : Int32) = 1)) ∨ (xm_z 134 = 2 ∧ ((0 : Int32)).toInt8.toInt32 = (0 : Int32)) ∨ (xm_z 134 = 3 ∧ ((0 : Int32)).toUInt32.toUInt16.toUInt32.toInt32 = (0 : Int32)))) 2 (fun n => rfl) (Or.inr (Or.inl ⟨rfl, by decide⟩))
  rw [if_neg c4] at hG
  rw [xa_sw, if_neg c4]
  by_cases c7 : v3 = 1
  · rw [if_pos c7] at hG
    rw [xa_sw, if_pos c7]
    show Ev X _ 134 73 [.ref 29, .int x1, .int x2, .int v1, .int v2, .retAddr 0] [] (hh S3) _
    by_cases g8 : xa_in v1 16
    rotate_left
    · rw [if_neg g8] at hG; cases hG
    rw [if_pos g8] at hG
    refine Ev.g (c := (kd 40).1 = 0 ∧ xa_in v1 (kd 40).2) (p1 := 79) (L1 := [.ref 29, .int x1, .int x2, .int v1, .int v2, .retAddr 0]) (s1 := [.int (S3.1 40 (v1).toNatClampNeg)]) (h1 := hh S3) 4 (fun n => B_134_8 n x1 x2 v1 v2 S3) (⟨rfl, g8⟩) ?_
    by_cases c9 : v2 ≤ (S3.1 40 (v1).toNatClampNeg)
    · rw [if_pos c9] at hG
      refine Ev.t (c := v2 ≤ (S3.1 40 (v1).toNatClampNeg)) (p1 := 88) (L1 := [.ref 29, .int x1, .int x2, .int v1, .int v2, .retAddr 0]) (s1 := []) (h1 := hh S3) (p2 := 84) (L2 := [.ref 29, .int x1, .int x2, .int v1, .int v2, .retAddr 0]) (s2 := []) (h2 := hh S3) 2 (fun n => B_134_9 n x1 x2 v1 v2 S3) c9 ?_
      obtain ⟨e1, e2⟩ := Prod.mk.inj (Option.some.inj hG)
      subst e1
      subst e2
      exact Ev.rg (c := (xm_z 134 = 0 ∨ (xm_z 134 = 1 ∧ ((0 : Int32) = 0 ∨ (0 : Int32) = 1)) ∨ (xm_z 134 = 2 ∧ ((0 : Int32)).toInt8.toInt32 = (0 : Int32)) ∨ (xm_z 134 = 3 ∧ ((0 : Int32)).toUInt32.toUInt16.toUInt32.toInt32 = (0 : Int32)))) 2 (fun n => rfl) (Or.inr (Or.inl ⟨rfl, by decide⟩))
    · rw [if_neg c9] at hG
      refine Ev.f (c := v2 ≤ (S3.1 40 (v1).toNatClampNeg)) (p1 := 88) (L1 := [.ref 29, .int x1, .int x2, .int v1, .int v2, .retAddr 0]) (s1 := []) (h1 := hh S3) (p2 := 84) (L2 := [.ref 29, .int x1, .int x2, .int v1, .int v2, .retAddr 0]) (s2 := []) (h2 := hh S3) 2 (fun n => B_134_10 n x1 x2 v1 v2 S3) c9 ?_
      obtain ⟨e1, e2⟩ := Prod.mk.inj (Option.some.inj hG)
      subst e1
      subst e2
      exact Ev.rg (c := (xm_z 134 = 0 ∨ (xm_z 134 = 1 ∧ ((1 : Int32) = 0 ∨ (1 : Int32) = 1)) ∨ (xm_z 134 = 2 ∧ ((1 : Int32)).toInt8.toInt32 = (1 : Int32)) ∨ (xm_z 134 = 3 ∧ ((1 : Int32)).toUInt32.toUInt16.toUInt32.toInt32 = (1 : Int32)))) 3 (fun n => rfl) (Or.inr (Or.inl ⟨rfl, by decide⟩))
  rw [if_neg c7] at hG
  rw [xa_sw, if_neg c7]
  by_cases c10 : v3 = 2
  · rw [if_pos c10] at hG
    rw [xa_sw, if_pos c10]
    show Ev X _ 134 90 [.ref 29, .int x1, .int x2, .int v1, .int v2, .retAddr 0] [] (hh S3) _
    by_cases g11 : xa_in v1 16
    rotate_left
    · rw [if_neg g11] at hG; cases hG
    rw [if_pos g11] at hG
    refine Ev.g (c := (kd 41).1 = 1 ∧ xa_in v1 (kd 41).2) (p1 := 96) (L1 := [.ref 29, .int x1, .int x2, .int v1, .int v2, .retAddr 0]) (s1 := [.int (S3.1 41 (v1).toNatClampNeg)]) (h1 := hh S3) 4 (fun n => B_134_11 n x1 x2 v1 v2 S3) (⟨rfl, g11⟩) ?_
    by_cases g12 : ((S3.1 41 (v1).toNatClampNeg) = 0 ∨ (S3.1 41 (v1).toNatClampNeg) = 1)
    rotate_left
    · rw [if_neg g12] at hG; cases hG
    rw [if_pos g12] at hG
    obtain ⟨e1, e2⟩ := Prod.mk.inj (Option.some.inj hG)
    subst e1
    subst e2
    exact Ev.rg (c := (xm_z 134 = 0 ∨ (xm_z 134 = 1 ∧ ((S3.1 41 (v1).toNatClampNeg) = 0 ∨ (S3.1 41 (v1).toNatClampNeg) = 1)) ∨ (xm_z 134 = 2 ∧ ((S3.1 41 (v1).toNatClampNeg)).toInt8.toInt32 = (S3.1 41 (v1).toNatClampNeg)) ∨ (xm_z 134 = 3 ∧ ((S3.1 41 (v1).toNatClampNeg)).toUInt32.toUInt16.toUInt32.toInt32 = (S3.1 41 (v1).toNatClampNeg)))) 1 (fun n => rfl) (Or.inr (Or.inl ⟨rfl, g12⟩))
  rw [if_neg c10] at hG
  rw [xa_sw, if_neg c10]
  by_cases c13 : v3 = 3
  · rw [if_pos c13] at hG
    rw [xa_sw, if_pos c13]
    show Ev X _ 134 97 [.ref 29, .int x1, .int x2, .int v1, .int v2, .retAddr 0] [] (hh S3) _
    by_cases c14 : (S3.1 29 33) = v1
    · rw [if_pos c14] at hG
      refine Ev.t (c := (S3.1 29 33) = v1) (p1 := 105) (L1 := [.ref 29, .int x1, .int x2, .int v1, .int v2, .retAddr 0]) (s1 := []) (h1 := hh S3) (p2 := 109) (L2 := [.ref 29, .int x1, .int x2, .int v1, .int v2, .retAddr 0]) (s2 := []) (h2 := hh S3) 4 (fun n => B_134_12 n x1 x2 v1 v2 S3) c14 ?_
      obtain ⟨e1, e2⟩ := Prod.mk.inj (Option.some.inj hG)
      subst e1
      subst e2
      exact Ev.rg (c := (xm_z 134 = 0 ∨ (xm_z 134 = 1 ∧ ((1 : Int32) = 0 ∨ (1 : Int32) = 1)) ∨ (xm_z 134 = 2 ∧ ((1 : Int32)).toInt8.toInt32 = (1 : Int32)) ∨ (xm_z 134 = 3 ∧ ((1 : Int32)).toUInt32.toUInt16.toUInt32.toInt32 = (1 : Int32)))) 3 (fun n => rfl) (Or.inr (Or.inl ⟨rfl, by decide⟩))
    · rw [if_neg c14] at hG
      refine Ev.f (c := (S3.1 29 33) = v1) (p1 := 105) (L1 := [.ref 29, .int x1, .int x2, .int v1, .int v2, .retAddr 0]) (s1 := []) (h1 := hh S3) (p2 := 109) (L2 := [.ref 29, .int x1, .int x2, .int v1, .int v2, .retAddr 0]) (s2 := []) (h2 := hh S3) 4 (fun n => B_134_13 n x1 x2 v1 v2 S3) c14 ?_
      obtain ⟨e1, e2⟩ := Prod.mk.inj (Option.some.inj hG)
      subst e1
      subst e2
      exact Ev.rg (c := (xm_z 134 = 0 ∨ (xm_z 134 = 1 ∧ ((0 : Int32) = 0 ∨ (0 : Int32) = 1)) ∨ (xm_z 134 = 2 ∧ ((0 : Int32)).toInt8.toInt32 = (0 : Int32)) ∨ (xm_z 134 = 3 ∧ ((0 : Int32)).toUInt32.toUInt16.toUInt32.toInt32 = (0 : Int32)))) 2 (fun n => rfl) (Or.inr (Or.inl ⟨rfl, by decide⟩))
  rw [if_neg c13] at hG
  rw [xa_sw, if_neg c13]
  rw [xa_sw]
  show Ev X _ 134 111 [.ref 29, .int x1, .int x2, .int v1, .int v2, .retAddr 0] [] (hh S3) _
  by_cases g15 : xa_in v1 4
  rotate_left
  · rw [if_neg g15] at hG; cases hG
  rw [if_pos g15] at hG
  refine Ev.g (c := (kd 42).1 = 0 ∧ xa_in v1 (kd 42).2) (p1 := 117) (L1 := [.ref 29, .int x1, .int x2, .int v1, .int v2, .retAddr 0]) (s1 := [.int (S3.1 42 (v1).toNatClampNeg)]) (h1 := hh S3) 4 (fun n => B_134_14 n x1 x2 v1 v2 S3) (⟨rfl, g15⟩) ?_
  by_cases c16 : (S3.1 42 (v1).toNatClampNeg) < v2
  · rw [if_pos c16] at hG
    refine Ev.t (c := (S3.1 42 (v1).toNatClampNeg) < v2) (p1 := 152) (L1 := [.ref 29, .int x1, .int x2, .int v1, .int v2, .retAddr 0]) (s1 := []) (h1 := hh S3) (p2 := 122) (L2 := [.ref 29, .int x1, .int x2, .int v1, .int v2, .retAddr 0]) (s2 := []) (h2 := hh S3) 2 (fun n => B_134_15 n x1 x2 v1 v2 S3) c16 ?_
    refine Ev.g (c := (kd 49).1 = 1 ∧ xa_in v1 (kd 49).2) (p1 := 161) (L1 := [.ref 29, .int x1, .int x2, .int v1, .int v2, .int 0]) (s1 := [.int (S3.1 49 (v1).toNatClampNeg)]) (h1 := hh S3) 6 (fun n => B_134_16 n x1 x2 v1 v2 S3) (⟨rfl, g15⟩) ?_
    by_cases c17 : (S3.1 49 (v1).toNatClampNeg) = 0
    · rw [if_pos c17] at hG
      refine Ev.t (c := (S3.1 49 (v1).toNatClampNeg) = 0) (p1 := 207) (L1 := [.ref 29, .int x1, .int x2, .int v1, .int v2, .int 0]) (s1 := []) (h1 := hh S3) (p2 := 164) (L2 := [.ref 29, .int x1, .int x2, .int v1, .int v2, .int 0]) (s2 := []) (h2 := hh S3) 1 (fun n => B_134_17 n x1 x2 v1 v2 S3) c17 ?_
      obtain ⟨e1, e2⟩ := Prod.mk.inj (Option.some.inj hG)
      subst e1
      subst e2
      exact Ev.rg (c := (xm_z 134 = 0 ∨ (xm_z 134 = 1 ∧ ((0 : Int32) = 0 ∨ (0 : Int32) = 1)) ∨ (xm_z 134 = 2 ∧ ((0 : Int32)).toInt8.toInt32 = (0 : Int32)) ∨ (xm_z 134 = 3 ∧ ((0 : Int32)).toUInt32.toUInt16.toUInt32.toInt32 = (0 : Int32)))) 2 (fun n => rfl) (Or.inr (Or.inl ⟨rfl, by decide⟩))
    · rw [if_neg c17] at hG
      refine Ev.f (c := (S3.1 49 (v1).toNatClampNeg) = 0) (p1 := 207) (L1 := [.ref 29, .int x1, .int x2, .int v1, .int v2, .int 0]) (s1 := []) (h1 := hh S3) (p2 := 164) (L2 := [.ref 29, .int x1, .int x2, .int v1, .int v2, .int 0]) (s2 := []) (h2 := hh S3) 1 (fun n => B_134_18 n x1 x2 v1 v2 S3) c17 ?_
      refine Ev.t (c := (0 : Int32) = 0) (p1 := 207) (L1 := [.ref 29, .int x1, .int x2, .int v1, .int v2, .int 0]) (s1 := []) (h1 := hh S3) (p2 := 169) (L2 := [.ref 29, .int x1, .int x2, .int v1, .int v2, .int 0]) (s2 := []) (h2 := hh S3) 2 (fun n => B_134_19 n x1 x2 v1 v2 S3) (by decide) ?_
      obtain ⟨e1, e2⟩ := Prod.mk.inj (Option.some.inj hG)
      subst e1
      subst e2
      exact Ev.rg (c := (xm_z 134 = 0 ∨ (xm_z 134 = 1 ∧ ((0 : Int32) = 0 ∨ (0 : Int32) = 1)) ∨ (xm_z 134 = 2 ∧ ((0 : Int32)).toInt8.toInt32 = (0 : Int32)) ∨ (xm_z 134 = 3 ∧ ((0 : Int32)).toUInt32.toUInt16.toUInt32.toInt32 = (0 : Int32)))) 2 (fun n => rfl) (Or.inr (Or.inl ⟨rfl, by decide⟩))
  · rw [if_neg c16] at hG
    refine Ev.f (c := (S3.1 42 (v1).toNatClampNeg) < v2) (p1 := 152) (L1 := [.ref 29, .int x1, .int x2, .int v1, .int v2, .retAddr 0]) (s1 := []) (h1 := hh S3) (p2 := 122) (L2 := [.ref 29, .int x1, .int x2, .int v1, .int v2, .retAddr 0]) (s2 := []) (h2 := hh S3) 2 (fun n => B_134_20 n x1 x2 v1 v2 S3) c16 ?_
    refine Ev.g (c := (kd 42).1 = 0 ∧ xa_in v1 (kd 42).2) (p1 := 128) (L1 := [.ref 29, .int x1, .int x2, .int v1, .int v2, .retAddr 0]) (s1 := [.int (S3.1 42 (v1).toNatClampNeg)]) (h1 := hh S3) 4 (fun n => B_134_21 n x1 x2 v1 v2 S3) (⟨rfl, g15⟩) ?_
    refine Ev.g (c := (kd 44).1 = 0 ∧ xa_in v1 (kd 44).2) (p1 := 134) (L1 := [.ref 29, .int x1, .int x2, .int v1, .int v2, .retAddr 0]) (s1 := [.int (S3.1 44 (v1).toNatClampNeg), .int (S3.1 42 (v1).toNatClampNeg)]) (h1 := hh S3) 4 (fun n => B_134_22 n x1 x2 v1 v2 S3) (⟨rfl, g15⟩) ?_
    rcases h18 : G_118 S3 x1 (x2 + 4) with _ | ⟨v18, S18⟩
    · rw [h18] at hG; cases hG
    rw [h18] at hG
    dsimp only at hG
    refine Ev.c (a := 118) (A := [.ref 29, .int x1, .int (x2 + 4)]) (h1 := hh S3) (pc' := 145) (L' := [.ref 29, .int x1, .int x2, .int v1, .int v2, .retAddr 0]) (rest := [.int (((S3.1 42 (v1).toNatClampNeg) + (S3.1 44 (v1).toNatClampNeg)) - 1)]) (r1 := some (.int v18)) (h2 := hh S18) 9 (fun n => B_134_23 n x1 x2 v1 v2 S3) (Ev.up (by decide) (T_118 S3 x1 (x2 + 4) _ _ h18)) ?_
    show Ev X _ 134 145 [.ref 29, .int x1, .int x2, .int v1, .int v2, .retAddr 0] [.int v18, .int (((S3.1 42 (v1).toNatClampNeg) + (S3.1 44 (v1).toNatClampNeg)) - 1)] (hh S18) _
    by_cases c19 : v18 < (((S3.1 42 (v1).toNatClampNeg) + (S3.1 44 (v1).toNatClampNeg)) - 1)
    · rw [if_pos c19] at hG
      refine Ev.t (c := v18 < (((S3.1 42 (v1).toNatClampNeg) + (S3.1 44 (v1).toNatClampNeg)) - 1)) (p1 := 152) (L1 := [.ref 29, .int x1, .int x2, .int v1, .int v2, .retAddr 0]) (s1 := []) (h1 := hh S18) (p2 := 148) (L2 := [.ref 29, .int x1, .int x2, .int v1, .int v2, .retAddr 0]) (s2 := []) (h2 := hh S18) 1 (fun n => B_134_24 n x1 x2 v1 v2 v18 S3 S18) c19 ?_
      refine Ev.g (c := (kd 49).1 = 1 ∧ xa_in v1 (kd 49).2) (p1 := 161) (L1 := [.ref 29, .int x1, .int x2, .int v1, .int v2, .int 0]) (s1 := [.int (S18.1 49 (v1).toNatClampNeg)]) (h1 := hh S18) 6 (fun n => B_134_25 n x1 x2 v1 v2 S18) (⟨rfl, g15⟩) ?_
      by_cases c20 : (S18.1 49 (v1).toNatClampNeg) = 0
      · rw [if_pos c20] at hG
        refine Ev.t (c := (S18.1 49 (v1).toNatClampNeg) = 0) (p1 := 207) (L1 := [.ref 29, .int x1, .int x2, .int v1, .int v2, .int 0]) (s1 := []) (h1 := hh S18) (p2 := 164) (L2 := [.ref 29, .int x1, .int x2, .int v1, .int v2, .int 0]) (s2 := []) (h2 := hh S18) 1 (fun n => B_134_26 n x1 x2 v1 v2 S18) c20 ?_
        obtain ⟨e1, e2⟩ := Prod.mk.inj (Option.some.inj hG)
        subst e1
        subst e2
        exact Ev.rg (c := (xm_z 134 = 0 ∨ (xm_z 134 = 1 ∧ ((0 : Int32) = 0 ∨ (0 : Int32) = 1)) ∨ (xm_z 134 = 2 ∧ ((0 : Int32)).toInt8.toInt32 = (0 : Int32)) ∨ (xm_z 134 = 3 ∧ ((0 : Int32)).toUInt32.toUInt16.toUInt32.toInt32 = (0 : Int32)))) 2 (fun n => rfl) (Or.inr (Or.inl ⟨rfl, by decide⟩))
      · rw [if_neg c20] at hG
        refine Ev.f (c := (S18.1 49 (v1).toNatClampNeg) = 0) (p1 := 207) (L1 := [.ref 29, .int x1, .int x2, .int v1, .int v2, .int 0]) (s1 := []) (h1 := hh S18) (p2 := 164) (L2 := [.ref 29, .int x1, .int x2, .int v1, .int v2, .int 0]) (s2 := []) (h2 := hh S18) 1 (fun n => B_134_27 n x1 x2 v1 v2 S18) c20 ?_
        refine Ev.t (c := (0 : Int32) = 0) (p1 := 207) (L1 := [.ref 29, .int x1, .int x2, .int v1, .int v2, .int 0]) (s1 := []) (h1 := hh S18) (p2 := 169) (L2 := [.ref 29, .int x1, .int x2, .int v1, .int v2, .int 0]) (s2 := []) (h2 := hh S18) 2 (fun n => B_134_28 n x1 x2 v1 v2 S18) (by decide) ?_
        obtain ⟨e1, e2⟩ := Prod.mk.inj (Option.some.inj hG)
        subst e1
        subst e2
        exact Ev.rg (c := (xm_z 134 = 0 ∨ (xm_z 134 = 1 ∧ ((0 : Int32) = 0 ∨ (0 : Int32) = 1)) ∨ (xm_z 134 = 2 ∧ ((0 : Int32)).toInt8.toInt32 = (0 : Int32)) ∨ (xm_z 134 = 3 ∧ ((0 : Int32)).toUInt32.toUInt16.toUInt32.toInt32 = (0 : Int32)))) 2 (fun n => rfl) (Or.inr (Or.inl ⟨rfl, by decide⟩))
    · rw [if_neg c19] at hG
      refine Ev.f (c := v18 < (((S3.1 42 (v1).toNatClampNeg) + (S3.1 44 (v1).toNatClampNeg)) - 1)) (p1 := 152) (L1 := [.ref 29, .int x1, .int x2, .int v1, .int v2, .retAddr 0]) (s1 := []) (h1 := hh S18) (p2 := 148) (L2 := [.ref 29, .int x1, .int x2, .int v1, .int v2, .retAddr 0]) (s2 := []) (h2 := hh S18) 1 (fun n => B_134_29 n x1 x2 v1 v2 v18 S3 S18) c19 ?_
      refine Ev.g (c := (kd 49).1 = 1 ∧ xa_in v1 (kd 49).2) (p1 := 161) (L1 := [.ref 29, .int x1, .int x2, .int v1, .int v2, .int 1]) (s1 := [.int (S18.1 49 (v1).toNatClampNeg)]) (h1 := hh S18) 7 (fun n => B_134_30 n x1 x2 v1 v2 S18) (⟨rfl, g15⟩) ?_
      by_cases c21 : (S18.1 49 (v1).toNatClampNeg) = 0
      · rw [if_pos c21] at hG
        refine Ev.t (c := (S18.1 49 (v1).toNatClampNeg) = 0) (p1 := 207) (L1 := [.ref 29, .int x1, .int x2, .int v1, .int v2, .int 1]) (s1 := []) (h1 := hh S18) (p2 := 164) (L2 := [.ref 29, .int x1, .int x2, .int v1, .int v2, .int 1]) (s2 := []) (h2 := hh S18) 1 (fun n => B_134_31 n x1 x2 v1 v2 S18) c21 ?_
        obtain ⟨e1, e2⟩ := Prod.mk.inj (Option.some.inj hG)
        subst e1
        subst e2
        exact Ev.rg (c := (xm_z 134 = 0 ∨ (xm_z 134 = 1 ∧ ((0 : Int32) = 0 ∨ (0 : Int32) = 1)) ∨ (xm_z 134 = 2 ∧ ((0 : Int32)).toInt8.toInt32 = (0 : Int32)) ∨ (xm_z 134 = 3 ∧ ((0 : Int32)).toUInt32.toUInt16.toUInt32.toInt32 = (0 : Int32)))) 2 (fun n => rfl) (Or.inr (Or.inl ⟨rfl, by decide⟩))
      · rw [if_neg c21] at hG
        refine Ev.f (c := (S18.1 49 (v1).toNatClampNeg) = 0) (p1 := 207) (L1 := [.ref 29, .int x1, .int x2, .int v1, .int v2, .int 1]) (s1 := []) (h1 := hh S18) (p2 := 164) (L2 := [.ref 29, .int x1, .int x2, .int v1, .int v2, .int 1]) (s2 := []) (h2 := hh S18) 1 (fun n => B_134_32 n x1 x2 v1 v2 S18) c21 ?_
        refine Ev.f (c := (1 : Int32) = 0) (p1 := 207) (L1 := [.ref 29, .int x1, .int x2, .int v1, .int v2, .int 1]) (s1 := []) (h1 := hh S18) (p2 := 169) (L2 := [.ref 29, .int x1, .int x2, .int v1, .int v2, .int 1]) (s2 := []) (h2 := hh S18) 2 (fun n => B_134_33 n x1 x2 v1 v2 S18) (by decide) ?_
        refine Ev.g (c := (kd 43).1 = 0 ∧ xa_in v1 (kd 43).2) (p1 := 175) (L1 := [.ref 29, .int x1, .int x2, .int v1, .int v2, .int 1]) (s1 := [.int (S18.1 43 (v1).toNatClampNeg)]) (h1 := hh S18) 4 (fun n => B_134_34 n x1 x2 v1 v2 S18) (⟨rfl, g15⟩) ?_
        rcases h22 : G_118 S18 x1 (x2 + 3) with _ | ⟨v22, S22⟩
        · rw [h22] at hG; cases hG
        rw [h22] at hG
        dsimp only at hG
        refine Ev.c (a := 118) (A := [.ref 29, .int x1, .int (x2 + 3)]) (h1 := hh S18) (pc' := 183) (L' := [.ref 29, .int x1, .int x2, .int v1, .int v2, .int 1]) (rest := [.int (S18.1 43 (v1).toNatClampNeg)]) (r1 := some (.int v22)) (h2 := hh S22) 6 (fun n => B_134_35 n x1 x2 v1 v2 S18) (Ev.up (by decide) (T_118 S18 x1 (x2 + 3) _ _ h22)) ?_
        show Ev X _ 134 183 [.ref 29, .int x1, .int x2, .int v1, .int v2, .int 1] [.int v22, .int (S18.1 43 (v1).toNatClampNeg)] (hh S22) _
        by_cases c23 : (S18.1 43 (v1).toNatClampNeg) < v22
        · rw [if_pos c23] at hG
          refine Ev.t (c := (S18.1 43 (v1).toNatClampNeg) < v22) (p1 := 207) (L1 := [.ref 29, .int x1, .int x2, .int v1, .int v2, .int 1]) (s1 := []) (h1 := hh S22) (p2 := 186) (L2 := [.ref 29, .int x1, .int x2, .int v1, .int v2, .int 1]) (s2 := []) (h2 := hh S22) 1 (fun n => B_134_36 n x1 x2 v1 v2 v22 S18 S22) c23 ?_
          obtain ⟨e1, e2⟩ := Prod.mk.inj (Option.some.inj hG)
          subst e1
          subst e2
          exact Ev.rg (c := (xm_z 134 = 0 ∨ (xm_z 134 = 1 ∧ ((0 : Int32) = 0 ∨ (0 : Int32) = 1)) ∨ (xm_z 134 = 2 ∧ ((0 : Int32)).toInt8.toInt32 = (0 : Int32)) ∨ (xm_z 134 = 3 ∧ ((0 : Int32)).toUInt32.toUInt16.toUInt32.toInt32 = (0 : Int32)))) 2 (fun n => rfl) (Or.inr (Or.inl ⟨rfl, by decide⟩))
        · rw [if_neg c23] at hG
          refine Ev.f (c := (S18.1 43 (v1).toNatClampNeg) < v22) (p1 := 207) (L1 := [.ref 29, .int x1, .int x2, .int v1, .int v2, .int 1]) (s1 := []) (h1 := hh S22) (p2 := 186) (L2 := [.ref 29, .int x1, .int x2, .int v1, .int v2, .int 1]) (s2 := []) (h2 := hh S22) 1 (fun n => B_134_37 n x1 x2 v1 v2 v22 S18 S22) c23 ?_
          refine Ev.g (c := (kd 43).1 = 0 ∧ xa_in v1 (kd 43).2) (p1 := 192) (L1 := [.ref 29, .int x1, .int x2, .int v1, .int v2, .int 1]) (s1 := [.int (S22.1 43 (v1).toNatClampNeg)]) (h1 := hh S22) 4 (fun n => B_134_38 n x1 x2 v1 v2 S22) (⟨rfl, g15⟩) ?_
          rcases h24 : G_118 S22 x1 (x2 + 5) with _ | ⟨v24, S24⟩
          · rw [h24] at hG; cases hG
          rw [h24] at hG
          dsimp only at hG
          refine Ev.c (a := 118) (A := [.ref 29, .int x1, .int (x2 + 5)]) (h1 := hh S22) (pc' := 200) (L' := [.ref 29, .int x1, .int x2, .int v1, .int v2, .int 1]) (rest := [.int (S22.1 43 (v1).toNatClampNeg)]) (r1 := some (.int v24)) (h2 := hh S24) 6 (fun n => B_134_39 n x1 x2 v1 v2 S22) (Ev.up (by decide) (T_118 S22 x1 (x2 + 5) _ _ h24)) ?_
          show Ev X _ 134 200 [.ref 29, .int x1, .int x2, .int v1, .int v2, .int 1] [.int v24, .int (S22.1 43 (v1).toNatClampNeg)] (hh S24) _
          by_cases c25 : v24 < (S22.1 43 (v1).toNatClampNeg)
          · rw [if_pos c25] at hG
            refine Ev.t (c := v24 < (S22.1 43 (v1).toNatClampNeg)) (p1 := 207) (L1 := [.ref 29, .int x1, .int x2, .int v1, .int v2, .int 1]) (s1 := []) (h1 := hh S24) (p2 := 203) (L2 := [.ref 29, .int x1, .int x2, .int v1, .int v2, .int 1]) (s2 := []) (h2 := hh S24) 1 (fun n => B_134_40 n x1 x2 v1 v2 v24 S22 S24) c25 ?_
            obtain ⟨e1, e2⟩ := Prod.mk.inj (Option.some.inj hG)
            subst e1
            subst e2
            exact Ev.rg (c := (xm_z 134 = 0 ∨ (xm_z 134 = 1 ∧ ((0 : Int32) = 0 ∨ (0 : Int32) = 1)) ∨ (xm_z 134 = 2 ∧ ((0 : Int32)).toInt8.toInt32 = (0 : Int32)) ∨ (xm_z 134 = 3 ∧ ((0 : Int32)).toUInt32.toUInt16.toUInt32.toInt32 = (0 : Int32)))) 2 (fun n => rfl) (Or.inr (Or.inl ⟨rfl, by decide⟩))
          · rw [if_neg c25] at hG
            refine Ev.f (c := v24 < (S22.1 43 (v1).toNatClampNeg)) (p1 := 207) (L1 := [.ref 29, .int x1, .int x2, .int v1, .int v2, .int 1]) (s1 := []) (h1 := hh S24) (p2 := 203) (L2 := [.ref 29, .int x1, .int x2, .int v1, .int v2, .int 1]) (s2 := []) (h2 := hh S24) 1 (fun n => B_134_41 n x1 x2 v1 v2 v24 S22 S24) c25 ?_
            obtain ⟨e1, e2⟩ := Prod.mk.inj (Option.some.inj hG)
            subst e1
            subst e2
            exact Ev.rg (c := (xm_z 134 = 0 ∨ (xm_z 134 = 1 ∧ ((1 : Int32) = 0 ∨ (1 : Int32) = 1)) ∨ (xm_z 134 = 2 ∧ ((1 : Int32)).toInt8.toInt32 = (1 : Int32)) ∨ (xm_z 134 = 3 ∧ ((1 : Int32)).toUInt32.toUInt16.toUInt32.toInt32 = (1 : Int32)))) 3 (fun n => rfl) (Or.inr (Or.inl ⟨rfl, by decide⟩))
/-- 133: SceneCycleModel.tested(II)Z -/
def GL_133_0 : Nat → St → Int32 → Int32 → Int32 → Int32 → Option (Int32 × St)
  | 0, _, _, _, _, _ => none
  | n + 1, S, y1, y3, y4, y5 =>
    (if y5 < 0 then
      (if y3 ≤ 0 then
        some (0, S)
      else
        (if (S.1 39 ((0 : Int32)).toNatClampNeg) = 0 then
          some (0, S)
        else
          some (1, S)
        )
      )
    else
      (if xa_in y5 64 then
        (match G_118 S y1 (S.1 38 (y5).toNatClampNeg) with
        | none => none
        | some (v5, S5) =>
          (if 5 ≤ v5 then
            (if v5 = 5 then
              (if xa_in (y4 - 1) 64 then
                (if (S5.1 39 ((y4 - 1)).toNatClampNeg) = 0 then
                  GL_133_0 n (xa_u S5.1 39 (((y4 - 1)).toNatClampNeg) 1, S5.2.1, S5.2.2) y1 y3 y4 (y5 + (-1))
                else
                  GL_133_0 n (xa_u S5.1 39 (((y4 - 1)).toNatClampNeg) 0, S5.2.1, S5.2.2) y1 y3 y4 (y5 + (-1))
                )
              else none)
            else
              xlet (y4 + (-1)) (fun z10 =>
                (if v5 = 6 then
                  (if xa_in (z10 - 1) 64 then
                    (if (S5.1 39 ((z10 - 1)).toNatClampNeg) = 0 then
                      GL_133_0 n (xa_u S5.1 39 (((z10 - 1)).toNatClampNeg) 0, S5.2.1, S5.2.2) y1 y3 z10 (y5 + (-1))
                    else
                      (if xa_in z10 64 then
                        (if (S5.1 39 (z10).toNatClampNeg) = 0 then
                          GL_133_0 n (xa_u S5.1 39 (((z10 - 1)).toNatClampNeg) 0, S5.2.1, S5.2.2) y1 y3 z10 (y5 + (-1))
                        else
                          GL_133_0 n (xa_u S5.1 39 (((z10 - 1)).toNatClampNeg) 1, S5.2.1, S5.2.2) y1 y3 z10 (y5 + (-1))
                        )
                      else none)
                    )
                  else none)
                else
                  (if xa_in (z10 - 1) 64 then
                    (if (S5.1 39 ((z10 - 1)).toNatClampNeg) = 0 then
                      (if xa_in z10 64 then
                        (if (S5.1 39 (z10).toNatClampNeg) = 0 then
                          GL_133_0 n (xa_u S5.1 39 (((z10 - 1)).toNatClampNeg) 0, S5.2.1, S5.2.2) y1 y3 z10 (y5 + (-1))
                        else
                          GL_133_0 n (xa_u S5.1 39 (((z10 - 1)).toNatClampNeg) 1, S5.2.1, S5.2.2) y1 y3 z10 (y5 + (-1))
                        )
                      else none)
                    else
                      GL_133_0 n (xa_u S5.1 39 (((z10 - 1)).toNatClampNeg) 1, S5.2.1, S5.2.2) y1 y3 z10 (y5 + (-1))
                    )
                  else none)
                )
              )
            )
          else
            (match G_134 S5 y1 (S5.1 38 (y5).toNatClampNeg) with
            | none => none
            | some (v20, S20) =>
              (if xa_in y4 64 then
                (if (v20 = 0 ∨ v20 = 1) then
                  GL_133_0 n (xa_u S20.1 39 ((y4).toNatClampNeg) v20, S20.2.1, S20.2.2) y1 y3 (y4 + 1) (y5 + (-1))
                else none)
              else none)
            )
          )
        )
      else none)
    )
theorem B_133_1 {X : Nat × (Nat → Int32)} {d : Nat} (n : Nat) (y1 : Int32) (w2 : Value) (y3 : Int32) (y4 : Int32) (y5 : Int32) (w6 : Value) (S : St) : ex X d 133 18 [.ref 29, .int y1, w2, .int y3, .int y4, .int y5, w6] [] (hh S) (n + 2) = if y5 < 0 then ex X d 133 185 [.ref 29, .int y1, w2, .int y3, .int y4, .int y5, w6] [] (hh S) n else ex X d 133 23 [.ref 29, .int y1, w2, .int y3, .int y4, .int y5, w6] [] (hh S) n := rfl
theorem B_133_2 {X : Nat × (Nat → Int32)} {d : Nat} (n : Nat) (y1 : Int32) (w2 : Value) (y3 : Int32) (y4 : Int32) (y5 : Int32) (w6 : Value) (S : St) : ex X d 133 185 [.ref 29, .int y1, w2, .int y3, .int y4, .int y5, w6] [] (hh S) (n + 2) = if y3 ≤ 0 then ex X d 133 202 [.ref 29, .int y1, w2, .int y3, .int y4, .int y5, w6] [] (hh S) n else ex X d 133 189 [.ref 29, .int y1, w2, .int y3, .int y4, .int y5, w6] [] (hh S) n := rfl
theorem B_133_3 {X : Nat × (Nat → Int32)} {d : Nat} (n : Nat) (y1 : Int32) (w2 : Value) (y3 : Int32) (y4 : Int32) (y5 : Int32) (w6 : Value) (S : St) : ex X d 133 185 [.ref 29, .int y1, w2, .int y3, .int y4, .int y5, w6] [] (hh S) (n + 2) = if y3 ≤ 0 then ex X d 133 202 [.ref 29, .int y1, w2, .int y3, .int y4, .int y5, w6] [] (hh S) n else ex X d 133 189 [.ref 29, .int y1, w2, .int y3, .int y4, .int y5, w6] [] (hh S) n := rfl
theorem B_133_4 {X : Nat × (Nat → Int32)} {d : Nat} (n : Nat) (y1 : Int32) (w2 : Value) (y3 : Int32) (y4 : Int32) (y5 : Int32) (w6 : Value) (S : St) : ex X d 133 189 [.ref 29, .int y1, w2, .int y3, .int y4, .int y5, w6] [] (hh S) (n + 4) = if (kd 39).1 = 1 ∧ xa_in (0 : Int32) (kd 39).2 then ex X d 133 195 [.ref 29, .int y1, w2, .int y3, .int y4, .int y5, w6] [.int (S.1 39 ((0 : Int32)).toNatClampNeg)] (hh S) n else none := rfl
theorem B_133_5 {X : Nat × (Nat → Int32)} {d : Nat} (n : Nat) (y1 : Int32) (w2 : Value) (y3 : Int32) (y4 : Int32) (y5 : Int32) (w6 : Value) (S : St) : ex X d 133 195 [.ref 29, .int y1, w2, .int y3, .int y4, .int y5, w6] [.int (S.1 39 ((0 : Int32)).toNatClampNeg)] (hh S) (n + 1) = if (S.1 39 ((0 : Int32)).toNatClampNeg) = 0 then ex X d 133 202 [.ref 29, .int y1, w2, .int y3, .int y4, .int y5, w6] [] (hh S) n else ex X d 133 198 [.ref 29, .int y1, w2, .int y3, .int y4, .int y5, w6] [] (hh S) n := rfl
theorem B_133_6 {X : Nat × (Nat → Int32)} {d : Nat} (n : Nat) (y1 : Int32) (w2 : Value) (y3 : Int32) (y4 : Int32) (y5 : Int32) (w6 : Value) (S : St) : ex X d 133 195 [.ref 29, .int y1, w2, .int y3, .int y4, .int y5, w6] [.int (S.1 39 ((0 : Int32)).toNatClampNeg)] (hh S) (n + 1) = if (S.1 39 ((0 : Int32)).toNatClampNeg) = 0 then ex X d 133 202 [.ref 29, .int y1, w2, .int y3, .int y4, .int y5, w6] [] (hh S) n else ex X d 133 198 [.ref 29, .int y1, w2, .int y3, .int y4, .int y5, w6] [] (hh S) n := rfl
theorem B_133_7 {X : Nat × (Nat → Int32)} {d : Nat} (n : Nat) (y1 : Int32) (w2 : Value) (y3 : Int32) (y4 : Int32) (y5 : Int32) (w6 : Value) (S : St) : ex X d 133 18 [.ref 29, .int y1, w2, .int y3, .int y4, .int y5, w6] [] (hh S) (n + 2) = if y5 < 0 then ex X d 133 185 [.ref 29, .int y1, w2, .int y3, .int y4, .int y5, w6] [] (hh S) n else ex X d 133 23 [.ref 29, .int y1, w2, .int y3, .int y4, .int y5, w6] [] (hh S) n := rfl
theorem B_133_8 {X : Nat × (Nat → Int32)} {d : Nat} (n : Nat) (y1 : Int32) (w2 : Value) (y3 : Int32) (y4 : Int32) (y5 : Int32) (w6 : Value) (S : St) : ex X d 133 23 [.ref 29, .int y1, w2, .int y3, .int y4, .int y5, w6] [] (hh S) (n + 6) = if (kd 38).1 = 0 ∧ xa_in y5 (kd 38).2 then ex X d 133 32 [.ref 29, .int y1, w2, .int y3, .int y4, .int y5, w6] [.int (S.1 38 (y5).toNatClampNeg), .int y1, .ref 29] (hh S) n else none := rfl
theorem B_133_9 {X : Nat × (Nat → Int32)} {d : Nat} (n : Nat) (y1 : Int32) (w2 : Value) (y3 : Int32) (y4 : Int32) (y5 : Int32) (w6 : Value) (S : St) : ex X (d + 1) 133 32 [.ref 29, .int y1, w2, .int y3, .int y4, .int y5, w6] [.int (S.1 38 (y5).toNatClampNeg), .int y1, .ref 29] (hh S) (n + 1) = (match ex X d 118 0 [.ref 29, .int y1, .int (S.1 38 (y5).toNatClampNeg)] [] (hh S) n with | some (v, h') => ex X (d + 1) 133 35 [.ref 29, .int y1, w2, .int y3, .int y4, .int y5, w6] (v.toList ++ []) h' n | none => none) := rfl
theorem B_133_10 {X : Nat × (Nat → Int32)} {d : Nat} (n : Nat) (y1 : Int32) (w2 : Value) (y3 : Int32) (y4 : Int32) (y5 : Int32) (w6 : Value) (v5 : Int32) (S5 : St) : ex X d 133 35 [.ref 29, .int y1, w2, .int y3, .int y4, .int y5, w6] [.int v5] (hh S5) (n + 4) = if 5 ≤ v5 then ex X d 133 68 [.ref 29, .int y1, w2, .int y3, .int y4, .int y5, .int v5] [] (hh S5) n else ex X d 133 43 [.ref 29, .int y1, w2, .int y3, .int y4, .int y5, .int v5] [] (hh S5) n := rfl
theorem B_133_11 {X : Nat × (Nat → Int32)} {d : Nat} (n : Nat) (y1 : Int32) (w2 : Value) (y3 : Int32) (y4 : Int32) (y5 : Int32) (v5 : Int32) (S5 : St) : ex X d 133 68 [.ref 29, .int y1, w2, .int y3, .int y4, .int y5, .int v5] [] (hh S5) (n + 3) = if v5 = 5 then ex X d 133 74 [.ref 29, .int y1, w2, .int y3, .int y4, .int y5, .int v5] [] (hh S5) n else ex X d 133 103 [.ref 29, .int y1, w2, .int y3, .int y4, .int y5, .int v5] [] (hh S5) n := rfl
theorem B_133_12 {X : Nat × (Nat → Int32)} {d : Nat} (n : Nat) (y1 : Int32) (w2 : Value) (y3 : Int32) (y4 : Int32) (y5 : Int32) (v5 : Int32) (S5 : St) : ex X d 133 74 [.ref 29, .int y1, w2, .int y3, .int y4, .int y5, .int v5] [] (hh S5) (n + 11) = if (kd 39).1 = 1 ∧ xa_in (y4 - 1) (kd 39).2 then ex X d 133 91 [.ref 29, .int y1, w2, .int y3, .int y4, .int y5, .int v5] [.int (S5.1 39 ((y4 - 1)).toNatClampNeg), .int (y4 - 1), .ref 39] (hh S5) n else none := rfl
theorem B_133_13 {X : Nat × (Nat → Int32)} {d : Nat} (n : Nat) (y1 : Int32) (w2 : Value) (y3 : Int32) (y4 : Int32) (y5 : Int32) (v5 : Int32) (S5 : St) : ex X d 133 91 [.ref 29, .int y1, w2, .int y3, .int y4, .int y5, .int v5] [.int (S5.1 39 ((y4 - 1)).toNatClampNeg), .int (y4 - 1), .ref 39] (hh S5) (n + 1) = if (S5.1 39 ((y4 - 1)).toNatClampNeg) = 0 then ex X d 133 94 [.ref 29, .int y1, w2, .int y3, .int y4, .int y5, .int v5] [.int (y4 - 1), .ref 39] (hh S5) n else ex X d 133 98 [.ref 29, .int y1, w2, .int y3, .int y4, .int y5, .int v5] [.int (y4 - 1), .ref 39] (hh S5) n := rfl
theorem B_133_14 {X : Nat × (Nat → Int32)} {d : Nat} (n : Nat) (y1 : Int32) (w2 : Value) (y3 : Int32) (y4 : Int32) (y5 : Int32) (v5 : Int32) (S5 : St) : ex X d 133 94 [.ref 29, .int y1, w2, .int y3, .int y4, .int y5, .int v5] [.int (y4 - 1), .ref 39] (hh S5) (n + 3) = if (kd 39).1 = 1 ∧ xa_in (y4 - 1) (kd 39).2 ∧ ((1 : Int32) = 0 ∨ (1 : Int32) = 1) then ex X d 133 100 [.ref 29, .int y1, w2, .int y3, .int y4, .int y5, .int v5] [] (hh (xa_u S5.1 39 (((y4 - 1)).toNatClampNeg) 1, S5.2.1, S5.2.2)) n else none := rfl
theorem B_133_15 {X : Nat × (Nat → Int32)} {d : Nat} (n : Nat) (y1 : Int32) (w2 : Value) (y3 : Int32) (y4 : Int32) (y5 : Int32) (v5 : Int32) (S5 : St) : ex X d 133 100 [.ref 29, .int y1, w2, .int y3, .int y4, .int y5, .int v5] [] (hh (xa_u S5.1 39 (((y4 - 1)).toNatClampNeg) 1, S5.2.1, S5.2.2)) (n + 3) = ex X d 133 18 [.ref 29, .int y1, w2, .int y3, .int y4, .int (y5 + (-1)), .int v5] [] (hh (xa_u S5.1 39 (((y4 - 1)).toNatClampNeg) 1, S5.2.1, S5.2.2)) n := rfl
theorem B_133_16 {X : Nat × (Nat → Int32)} {d : Nat} (n : Nat) (y1 : Int32) (w2 : Value) (y3 : Int32) (y4 : Int32) (y5 : Int32) (v5 : Int32) (S5 : St) : ex X d 133 91 [.ref 29, .int y1, w2, .int y3, .int y4, .int y5, .int v5] [.int (S5.1 39 ((y4 - 1)).toNatClampNeg), .int (y4 - 1), .ref 39] (hh S5) (n + 1) = if (S5.1 39 ((y4 - 1)).toNatClampNeg) = 0 then ex X d 133 94 [.ref 29, .int y1, w2, .int y3, .int y4, .int y5, .int v5] [.int (y4 - 1), .ref 39] (hh S5) n else ex X d 133 98 [.ref 29, .int y1, w2, .int y3, .int y4, .int y5, .int v5] [.int (y4 - 1), .ref 39] (hh S5) n := rfl
theorem B_133_17 {X : Nat × (Nat → Int32)} {d : Nat} (n : Nat) (y1 : Int32) (w2 : Value) (y3 : Int32) (y4 : Int32) (y5 : Int32) (v5 : Int32) (S5 : St) : ex X d 133 98 [.ref 29, .int y1, w2, .int y3, .int y4, .int y5, .int v5] [.int (y4 - 1), .ref 39] (hh S5) (n + 2) = if (kd 39).1 = 1 ∧ xa_in (y4 - 1) (kd 39).2 ∧ ((0 : Int32) = 0 ∨ (0 : Int32) = 1) then ex X d 133 100 [.ref 29, .int y1, w2, .int y3, .int y4, .int y5, .int v5] [] (hh (xa_u S5.1 39 (((y4 - 1)).toNatClampNeg) 0, S5.2.1, S5.2.2)) n else none := rfl
theorem B_133_18 {X : Nat × (Nat → Int32)} {d : Nat} (n : Nat) (y1 : Int32) (w2 : Value) (y3 : Int32) (y4 : Int32) (y5 : Int32) (v5 : Int32) (S5 : St) : ex X d 133 100 [.ref 29, .int y1, w2, .int y3, .int y4, .int y5, .int v5] [] (hh (xa_u S5.1 39 (((y4 - 1)).toNatClampNeg) 0, S5.2.1, S5.2.2)) (n + 3) = ex X d 133 18 [.ref 29, .int y1, w2, .int y3, .int y4, .int (y5 + (-1)), .int v5] [] (hh (xa_u S5.1 39 (((y4 - 1)).toNatClampNeg) 0, S5.2.1, S5.2.2)) n := rfl
theorem B_133_19 {X : Nat × (Nat → Int32)} {d : Nat} (n : Nat) (y1 : Int32) (w2 : Value) (y3 : Int32) (y4 : Int32) (y5 : Int32) (v5 : Int32) (S5 : St) : ex X d 133 68 [.ref 29, .int y1, w2, .int y3, .int y4, .int y5, .int v5] [] (hh S5) (n + 3) = if v5 = 5 then ex X d 133 74 [.ref 29, .int y1, w2, .int y3, .int y4, .int y5, .int v5] [] (hh S5) n else ex X d 133 103 [.ref 29, .int y1, w2, .int y3, .int y4, .int y5, .int v5] [] (hh S5) n := rfl
theorem B_133_20 {X : Nat × (Nat → Int32)} {d : Nat} (n : Nat) (y1 : Int32) (w2 : Value) (y3 : Int32) (y4 : Int32) (y5 : Int32) (v5 : Int32) (S5 : St) : ex X d 133 103 [.ref 29, .int y1, w2, .int y3, .int y4, .int y5, .int v5] [] (hh S5) (n + 1) = ex X d 133 106 [.ref 29, .int y1, w2, .int y3, .int (y4 + (-1)), .int y5, .int v5] [] (hh S5) n := rfl
theorem B_133_21 {X : Nat × (Nat → Int32)} {d : Nat} (n : Nat) (y1 : Int32) (w2 : Value) (y3 : Int32) (z10 : Int32) (y5 : Int32) (v5 : Int32) (S5 : St) : ex X d 133 106 [.ref 29, .int y1, w2, .int y3, .int z10, .int y5, .int v5] [] (hh S5) (n + 8) = if v5 = 6 then ex X d 133 121 [.ref 29, .int y1, w2, .int y3, .int z10, .int y5, .int v5] [.int (z10 - 1), .ref 39] (hh S5) n else ex X d 133 151 [.ref 29, .int y1, w2, .int y3, .int z10, .int y5, .int v5] [.int (z10 - 1), .ref 39] (hh S5) n := rfl
theorem B_133_22 {X : Nat × (Nat → Int32)} {d : Nat} (n : Nat) (y1 : Int32) (w2 : Value) (y3 : Int32) (z10 : Int32) (y5 : Int32) (v5 : Int32) (S5 : St) : ex X d 133 121 [.ref 29, .int y1, w2, .int y3, .int z10, .int y5, .int v5] [.int (z10 - 1), .ref 39] (hh S5) (n + 6) = if (kd 39).1 = 1 ∧ xa_in (z10 - 1) (kd 39).2 then ex X d 133 130 [.ref 29, .int y1, w2, .int y3, .int z10, .int y5, .int v5] [.int (S5.1 39 ((z10 - 1)).toNatClampNeg), .int (z10 - 1), .ref 39] (hh S5) n else none := rfl
theorem B_133_23 {X : Nat × (Nat → Int32)} {d : Nat} (n : Nat) (y1 : Int32) (w2 : Value) (y3 : Int32) (z10 : Int32) (y5 : Int32) (v5 : Int32) (S5 : St) : ex X d 133 130 [.ref 29, .int y1, w2, .int y3, .int z10, .int y5, .int v5] [.int (S5.1 39 ((z10 - 1)).toNatClampNeg), .int (z10 - 1), .ref 39] (hh S5) (n + 1) = if (S5.1 39 ((z10 - 1)).toNatClampNeg) = 0 then ex X d 133 147 [.ref 29, .int y1, w2, .int y3, .int z10, .int y5, .int v5] [.int (z10 - 1), .ref 39] (hh S5) n else ex X d 133 133 [.ref 29, .int y1, w2, .int y3, .int z10, .int y5, .int v5] [.int (z10 - 1), .ref 39] (hh S5) n := rfl
theorem B_133_24 {X : Nat × (Nat → Int32)} {d : Nat} (n : Nat) (y1 : Int32) (w2 : Value) (y3 : Int32) (z10 : Int32) (y5 : Int32) (v5 : Int32) (S5 : St) : ex X d 133 147 [.ref 29, .int y1, w2, .int y3, .int z10, .int y5, .int v5] [.int (z10 - 1), .ref 39] (hh S5) (n + 3) = if (kd 39).1 = 1 ∧ xa_in (z10 - 1) (kd 39).2 ∧ ((0 : Int32) = 0 ∨ (0 : Int32) = 1) then ex X d 133 179 [.ref 29, .int y1, w2, .int y3, .int z10, .int y5, .int v5] [] (hh (xa_u S5.1 39 (((z10 - 1)).toNatClampNeg) 0, S5.2.1, S5.2.2)) n else none := rfl
theorem B_133_25 {X : Nat × (Nat → Int32)} {d : Nat} (n : Nat) (y1 : Int32) (w2 : Value) (y3 : Int32) (z10 : Int32) (y5 : Int32) (v5 : Int32) (S5 : St) : ex X d 133 179 [.ref 29, .int y1, w2, .int y3, .int z10, .int y5, .int v5] [] (hh (xa_u S5.1 39 (((z10 - 1)).toNatClampNeg) 0, S5.2.1, S5.2.2)) (n + 2) = ex X d 133 18 [.ref 29, .int y1, w2, .int y3, .int z10, .int (y5 + (-1)), .int v5] [] (hh (xa_u S5.1 39 (((z10 - 1)).toNatClampNeg) 0, S5.2.1, S5.2.2)) n := rfl
theorem B_133_26 {X : Nat × (Nat → Int32)} {d : Nat} (n : Nat) (y1 : Int32) (w2 : Value) (y3 : Int32) (z10 : Int32) (y5 : Int32) (v5 : Int32) (S5 : St) : ex X d 133 130 [.ref 29, .int y1, w2, .int y3, .int z10, .int y5, .int v5] [.int (S5.1 39 ((z10 - 1)).toNatClampNeg), .int (z10 - 1), .ref 39] (hh S5) (n + 1) = if (S5.1 39 ((z10 - 1)).toNatClampNeg) = 0 then ex X d 133 147 [.ref 29, .int y1, w2, .int y3, .int z10, .int y5, .int v5] [.int (z10 - 1), .ref 39] (hh S5) n else ex X d 133 133 [.ref 29, .int y1, w2, .int y3, .int z10, .int y5, .int v5] [.int (z10 - 1), .ref 39] (hh S5) n := rfl
theorem B_133_27 {X : Nat × (Nat → Int32)} {d : Nat} (n : Nat) (y1 : Int32) (w2 : Value) (y3 : Int32) (z10 : Int32) (y5 : Int32) (v5 : Int32) (S5 : St) : ex X d 133 133 [.ref 29, .int y1, w2, .int y3, .int z10, .int y5, .int v5] [.int (z10 - 1), .ref 39] (hh S5) (n + 4) = if (kd 39).1 = 1 ∧ xa_in z10 (kd 39).2 then ex X d 133 140 [.ref 29, .int y1, w2, .int y3, .int z10, .int y5, .int v5] [.int (S5.1 39 (z10).toNatClampNeg), .int (z10 - 1), .ref 39] (hh S5) n else none := rfl
theorem B_133_28 {X : Nat × (Nat → Int32)} {d : Nat} (n : Nat) (y1 : Int32) (w2 : Value) (y3 : Int32) (z10 : Int32) (y5 : Int32) (v5 : Int32) (S5 : St) : ex X d 133 140 [.ref 29, .int y1, w2, .int y3, .int z10, .int y5, .int v5] [.int (S5.1 39 (z10).toNatClampNeg), .int (z10 - 1), .ref 39] (hh S5) (n + 1) = if (S5.1 39 (z10).toNatClampNeg) = 0 then ex X d 133 147 [.ref 29, .int y1, w2, .int y3, .int z10, .int y5, .int v5] [.int (z10 - 1), .ref 39] (hh S5) n else ex X d 133 143 [.ref 29, .int y1, w2, .int y3, .int z10, .int y5, .int v5] [.int (z10 - 1), .ref 39] (hh S5) n := rfl
theorem B_133_29 {X : Nat × (Nat → Int32)} {d : Nat} (n : Nat) (y1 : Int32) (w2 : Value) (y3 : Int32) (z10 : Int32) (y5 : Int32) (v5 : Int32) (S5 : St) : ex X d 133 147 [.ref 29, .int y1, w2, .int y3, .int z10, .int y5, .int v5] [.int (z10 - 1), .ref 39] (hh S5) (n + 3) = if (kd 39).1 = 1 ∧ xa_in (z10 - 1) (kd 39).2 ∧ ((0 : Int32) = 0 ∨ (0 : Int32) = 1) then ex X d 133 179 [.ref 29, .int y1, w2, .int y3, .int z10, .int y5, .int v5] [] (hh (xa_u S5.1 39 (((z10 - 1)).toNatClampNeg) 0, S5.2.1, S5.2.2)) n else none := rfl
theorem B_133_30 {X : Nat × (Nat → Int32)} {d : Nat} (n : Nat) (y1 : Int32) (w2 : Value) (y3 : Int32) (z10 : Int32) (y5 : Int32) (v5 : Int32) (S5 : St) : ex X d 133 179 [.ref 29, .int y1, w2, .int y3, .int z10, .int y5, .int v5] [] (hh (xa_u S5.1 39 (((z10 - 1)).toNatClampNeg) 0, S5.2.1, S5.2.2)) (n + 2) = ex X d 133 18 [.ref 29, .int y1, w2, .int y3, .int z10, .int (y5 + (-1)), .int v5] [] (hh (xa_u S5.1 39 (((z10 - 1)).toNatClampNeg) 0, S5.2.1, S5.2.2)) n := rfl
theorem B_133_31 {X : Nat × (Nat → Int32)} {d : Nat} (n : Nat) (y1 : Int32) (w2 : Value) (y3 : Int32) (z10 : Int32) (y5 : Int32) (v5 : Int32) (S5 : St) : ex X d 133 140 [.ref 29, .int y1, w2, .int y3, .int z10, .int y5, .int v5] [.int (S5.1 39 (z10).toNatClampNeg), .int (z10 - 1), .ref 39] (hh S5) (n + 1) = if (S5.1 39 (z10).toNatClampNeg) = 0 then ex X d 133 147 [.ref 29, .int y1, w2, .int y3, .int z10, .int y5, .int v5] [.int (z10 - 1), .ref 39] (hh S5) n else ex X d 133 143 [.ref 29, .int y1, w2, .int y3, .int z10, .int y5, .int v5] [.int (z10 - 1), .ref 39] (hh S5) n := rfl
theorem B_133_32 {X : Nat × (Nat → Int32)} {d : Nat} (n : Nat) (y1 : Int32) (w2 : Value) (y3 : Int32) (z10 : Int32) (y5 : Int32) (v5 : Int32) (S5 : St) : ex X d 133 143 [.ref 29, .int y1, w2, .int y3, .int z10, .int y5, .int v5] [.int (z10 - 1), .ref 39] (hh S5) (n + 3) = if (kd 39).1 = 1 ∧ xa_in (z10 - 1) (kd 39).2 ∧ ((1 : Int32) = 0 ∨ (1 : Int32) = 1) then ex X d 133 179 [.ref 29, .int y1, w2, .int y3, .int z10, .int y5, .int v5] [] (hh (xa_u S5.1 39 (((z10 - 1)).toNatClampNeg) 1, S5.2.1, S5.2.2)) n else none := rfl
theorem B_133_33 {X : Nat × (Nat → Int32)} {d : Nat} (n : Nat) (y1 : Int32) (w2 : Value) (y3 : Int32) (z10 : Int32) (y5 : Int32) (v5 : Int32) (S5 : St) : ex X d 133 179 [.ref 29, .int y1, w2, .int y3, .int z10, .int y5, .int v5] [] (hh (xa_u S5.1 39 (((z10 - 1)).toNatClampNeg) 1, S5.2.1, S5.2.2)) (n + 2) = ex X d 133 18 [.ref 29, .int y1, w2, .int y3, .int z10, .int (y5 + (-1)), .int v5] [] (hh (xa_u S5.1 39 (((z10 - 1)).toNatClampNeg) 1, S5.2.1, S5.2.2)) n := rfl
theorem B_133_34 {X : Nat × (Nat → Int32)} {d : Nat} (n : Nat) (y1 : Int32) (w2 : Value) (y3 : Int32) (z10 : Int32) (y5 : Int32) (v5 : Int32) (S5 : St) : ex X d 133 106 [.ref 29, .int y1, w2, .int y3, .int z10, .int y5, .int v5] [] (hh S5) (n + 8) = if v5 = 6 then ex X d 133 121 [.ref 29, .int y1, w2, .int y3, .int z10, .int y5, .int v5] [.int (z10 - 1), .ref 39] (hh S5) n else ex X d 133 151 [.ref 29, .int y1, w2, .int y3, .int z10, .int y5, .int v5] [.int (z10 - 1), .ref 39] (hh S5) n := rfl
theorem B_133_35 {X : Nat × (Nat → Int32)} {d : Nat} (n : Nat) (y1 : Int32) (w2 : Value) (y3 : Int32) (z10 : Int32) (y5 : Int32) (v5 : Int32) (S5 : St) : ex X d 133 151 [.ref 29, .int y1, w2, .int y3, .int z10, .int y5, .int v5] [.int (z10 - 1), .ref 39] (hh S5) (n + 6) = if (kd 39).1 = 1 ∧ xa_in (z10 - 1) (kd 39).2 then ex X d 133 160 [.ref 29, .int y1, w2, .int y3, .int z10, .int y5, .int v5] [.int (S5.1 39 ((z10 - 1)).toNatClampNeg), .int (z10 - 1), .ref 39] (hh S5) n else none := rfl
theorem B_133_36 {X : Nat × (Nat → Int32)} {d : Nat} (n : Nat) (y1 : Int32) (w2 : Value) (y3 : Int32) (z10 : Int32) (y5 : Int32) (v5 : Int32) (S5 : St) : ex X d 133 160 [.ref 29, .int y1, w2, .int y3, .int z10, .int y5, .int v5] [.int (S5.1 39 ((z10 - 1)).toNatClampNeg), .int (z10 - 1), .ref 39] (hh S5) (n + 1) = if (S5.1 39 ((z10 - 1)).toNatClampNeg) = 0 then ex X d 133 163 [.ref 29, .int y1, w2, .int y3, .int z10, .int y5, .int v5] [.int (z10 - 1), .ref 39] (hh S5) n else ex X d 133 173 [.ref 29, .int y1, w2, .int y3, .int z10, .int y5, .int v5] [.int (z10 - 1), .ref 39] (hh S5) n := rfl
theorem B_133_37 {X : Nat × (Nat → Int32)} {d : Nat} (n : Nat) (y1 : Int32) (w2 : Value) (y3 : Int32) (z10 : Int32) (y5 : Int32) (v5 : Int32) (S5 : St) : ex X d 133 163 [.ref 29, .int y1, w2, .int y3, .int z10, .int y5, .int v5] [.int (z10 - 1), .ref 39] (hh S5) (n + 4) = if (kd 39).1 = 1 ∧ xa_in z10 (kd 39).2 then ex X d 133 170 [.ref 29, .int y1, w2, .int y3, .int z10, .int y5, .int v5] [.int (S5.1 39 (z10).toNatClampNeg), .int (z10 - 1), .ref 39] (hh S5) n else none := rfl
theorem B_133_38 {X : Nat × (Nat → Int32)} {d : Nat} (n : Nat) (y1 : Int32) (w2 : Value) (y3 : Int32) (z10 : Int32) (y5 : Int32) (v5 : Int32) (S5 : St) : ex X d 133 170 [.ref 29, .int y1, w2, .int y3, .int z10, .int y5, .int v5] [.int (S5.1 39 (z10).toNatClampNeg), .int (z10 - 1), .ref 39] (hh S5) (n + 1) = if (S5.1 39 (z10).toNatClampNeg) = 0 then ex X d 133 177 [.ref 29, .int y1, w2, .int y3, .int z10, .int y5, .int v5] [.int (z10 - 1), .ref 39] (hh S5) n else ex X d 133 173 [.ref 29, .int y1, w2, .int y3, .int z10, .int y5, .int v5] [.int (z10 - 1), .ref 39] (hh S5) n := rfl
theorem B_133_39 {X : Nat × (Nat → Int32)} {d : Nat} (n : Nat) (y1 : Int32) (w2 : Value) (y3 : Int32) (z10 : Int32) (y5 : Int32) (v5 : Int32) (S5 : St) : ex X d 133 177 [.ref 29, .int y1, w2, .int y3, .int z10, .int y5, .int v5] [.int (z10 - 1), .ref 39] (hh S5) (n + 2) = if (kd 39).1 = 1 ∧ xa_in (z10 - 1) (kd 39).2 ∧ ((0 : Int32) = 0 ∨ (0 : Int32) = 1) then ex X d 133 179 [.ref 29, .int y1, w2, .int y3, .int z10, .int y5, .int v5] [] (hh (xa_u S5.1 39 (((z10 - 1)).toNatClampNeg) 0, S5.2.1, S5.2.2)) n else none := rfl
theorem B_133_40 {X : Nat × (Nat → Int32)} {d : Nat} (n : Nat) (y1 : Int32) (w2 : Value) (y3 : Int32) (z10 : Int32) (y5 : Int32) (v5 : Int32) (S5 : St) : ex X d 133 179 [.ref 29, .int y1, w2, .int y3, .int z10, .int y5, .int v5] [] (hh (xa_u S5.1 39 (((z10 - 1)).toNatClampNeg) 0, S5.2.1, S5.2.2)) (n + 2) = ex X d 133 18 [.ref 29, .int y1, w2, .int y3, .int z10, .int (y5 + (-1)), .int v5] [] (hh (xa_u S5.1 39 (((z10 - 1)).toNatClampNeg) 0, S5.2.1, S5.2.2)) n := rfl
theorem B_133_41 {X : Nat × (Nat → Int32)} {d : Nat} (n : Nat) (y1 : Int32) (w2 : Value) (y3 : Int32) (z10 : Int32) (y5 : Int32) (v5 : Int32) (S5 : St) : ex X d 133 170 [.ref 29, .int y1, w2, .int y3, .int z10, .int y5, .int v5] [.int (S5.1 39 (z10).toNatClampNeg), .int (z10 - 1), .ref 39] (hh S5) (n + 1) = if (S5.1 39 (z10).toNatClampNeg) = 0 then ex X d 133 177 [.ref 29, .int y1, w2, .int y3, .int z10, .int y5, .int v5] [.int (z10 - 1), .ref 39] (hh S5) n else ex X d 133 173 [.ref 29, .int y1, w2, .int y3, .int z10, .int y5, .int v5] [.int (z10 - 1), .ref 39] (hh S5) n := rfl
theorem B_133_42 {X : Nat × (Nat → Int32)} {d : Nat} (n : Nat) (y1 : Int32) (w2 : Value) (y3 : Int32) (z10 : Int32) (y5 : Int32) (v5 : Int32) (S5 : St) : ex X d 133 173 [.ref 29, .int y1, w2, .int y3, .int z10, .int y5, .int v5] [.int (z10 - 1), .ref 39] (hh S5) (n + 3) = if (kd 39).1 = 1 ∧ xa_in (z10 - 1) (kd 39).2 ∧ ((1 : Int32) = 0 ∨ (1 : Int32) = 1) then ex X d 133 179 [.ref 29, .int y1, w2, .int y3, .int z10, .int y5, .int v5] [] (hh (xa_u S5.1 39 (((z10 - 1)).toNatClampNeg) 1, S5.2.1, S5.2.2)) n else none := rfl
theorem B_133_43 {X : Nat × (Nat → Int32)} {d : Nat} (n : Nat) (y1 : Int32) (w2 : Value) (y3 : Int32) (z10 : Int32) (y5 : Int32) (v5 : Int32) (S5 : St) : ex X d 133 179 [.ref 29, .int y1, w2, .int y3, .int z10, .int y5, .int v5] [] (hh (xa_u S5.1 39 (((z10 - 1)).toNatClampNeg) 1, S5.2.1, S5.2.2)) (n + 2) = ex X d 133 18 [.ref 29, .int y1, w2, .int y3, .int z10, .int (y5 + (-1)), .int v5] [] (hh (xa_u S5.1 39 (((z10 - 1)).toNatClampNeg) 1, S5.2.1, S5.2.2)) n := rfl
theorem B_133_44 {X : Nat × (Nat → Int32)} {d : Nat} (n : Nat) (y1 : Int32) (w2 : Value) (y3 : Int32) (z10 : Int32) (y5 : Int32) (v5 : Int32) (S5 : St) : ex X d 133 160 [.ref 29, .int y1, w2, .int y3, .int z10, .int y5, .int v5] [.int (S5.1 39 ((z10 - 1)).toNatClampNeg), .int (z10 - 1), .ref 39] (hh S5) (n + 1) = if (S5.1 39 ((z10 - 1)).toNatClampNeg) = 0 then ex X d 133 163 [.ref 29, .int y1, w2, .int y3, .int z10, .int y5, .int v5] [.int (z10 - 1), .ref 39] (hh S5) n else ex X d 133 173 [.ref 29, .int y1, w2, .int y3, .int z10, .int y5, .int v5] [.int (z10 - 1), .ref 39] (hh S5) n := rfl
theorem B_133_45 {X : Nat × (Nat → Int32)} {d : Nat} (n : Nat) (y1 : Int32) (w2 : Value) (y3 : Int32) (z10 : Int32) (y5 : Int32) (v5 : Int32) (S5 : St) : ex X d 133 173 [.ref 29, .int y1, w2, .int y3, .int z10, .int y5, .int v5] [.int (z10 - 1), .ref 39] (hh S5) (n + 3) = if (kd 39).1 = 1 ∧ xa_in (z10 - 1) (kd 39).2 ∧ ((1 : Int32) = 0 ∨ (1 : Int32) = 1) then ex X d 133 179 [.ref 29, .int y1, w2, .int y3, .int z10, .int y5, .int v5] [] (hh (xa_u S5.1 39 (((z10 - 1)).toNatClampNeg) 1, S5.2.1, S5.2.2)) n else none := rfl
theorem B_133_46 {X : Nat × (Nat → Int32)} {d : Nat} (n : Nat) (y1 : Int32) (w2 : Value) (y3 : Int32) (z10 : Int32) (y5 : Int32) (v5 : Int32) (S5 : St) : ex X d 133 179 [.ref 29, .int y1, w2, .int y3, .int z10, .int y5, .int v5] [] (hh (xa_u S5.1 39 (((z10 - 1)).toNatClampNeg) 1, S5.2.1, S5.2.2)) (n + 2) = ex X d 133 18 [.ref 29, .int y1, w2, .int y3, .int z10, .int (y5 + (-1)), .int v5] [] (hh (xa_u S5.1 39 (((z10 - 1)).toNatClampNeg) 1, S5.2.1, S5.2.2)) n := rfl
theorem B_133_47 {X : Nat × (Nat → Int32)} {d : Nat} (n : Nat) (y1 : Int32) (w2 : Value) (y3 : Int32) (y4 : Int32) (y5 : Int32) (w6 : Value) (v5 : Int32) (S5 : St) : ex X d 133 35 [.ref 29, .int y1, w2, .int y3, .int y4, .int y5, w6] [.int v5] (hh S5) (n + 4) = if 5 ≤ v5 then ex X d 133 68 [.ref 29, .int y1, w2, .int y3, .int y4, .int y5, .int v5] [] (hh S5) n else ex X d 133 43 [.ref 29, .int y1, w2, .int y3, .int y4, .int y5, .int v5] [] (hh S5) n := rfl
theorem B_133_48 {X : Nat × (Nat → Int32)} {d : Nat} (n : Nat) (y1 : Int32) (w2 : Value) (y3 : Int32) (y4 : Int32) (y5 : Int32) (v5 : Int32) (S5 : St) : ex X d 133 43 [.ref 29, .int y1, w2, .int y3, .int y4, .int y5, .int v5] [] (hh S5) (n + 9) = if (kd 38).1 = 0 ∧ xa_in y5 (kd 38).2 then ex X d 133 58 [.ref 29, .int y1, w2, .int y3, .int y4, .int y5, .int v5] [.int (S5.1 38 (y5).toNatClampNeg), .int y1, .ref 29, .int y4, .ref 39] (hh S5) n else none := rfl
theorem B_133_49 {X : Nat × (Nat → Int32)} {d : Nat} (n : Nat) (y1 : Int32) (w2 : Value) (y3 : Int32) (y4 : Int32) (y5 : Int32) (v5 : Int32) (S5 : St) : ex X (d + 1) 133 58 [.ref 29, .int y1, w2, .int y3, .int y4, .int y5, .int v5] [.int (S5.1 38 (y5).toNatClampNeg), .int y1, .ref 29, .int y4, .ref 39] (hh S5) (n + 1) = (match ex X d 134 0 [.ref 29, .int y1, .int (S5.1 38 (y5).toNatClampNeg), .retAddr 0, .retAddr 0, .retAddr 0] [] (hh S5) n with | some (v, h') => ex X (d + 1) 133 61 [.ref 29, .int y1, w2, .int y3, .int y4, .int y5, .int v5] (v.toList ++ [.int y4, .ref 39]) h' n | none => none) := rfl
theorem B_133_50 {X : Nat × (Nat → Int32)} {d : Nat} (n : Nat) (y1 : Int32) (w2 : Value) (y3 : Int32) (y4 : Int32) (y5 : Int32) (v5 : Int32) (v20 : Int32) (S20 : St) : ex X d 133 61 [.ref 29, .int y1, w2, .int y3, .int y4, .int y5, .int v5] [.int v20, .int y4, .ref 39] (hh S20) (n + 1) = if (kd 39).1 = 1 ∧ xa_in y4 (kd 39).2 ∧ (v20 = 0 ∨ v20 = 1) then ex X d 133 62 [.ref 29, .int y1, w2, .int y3, .int y4, .int y5, .int v5] [] (hh (xa_u S20.1 39 ((y4).toNatClampNeg) v20, S20.2.1, S20.2.2)) n else none := rfl
theorem B_133_51 {X : Nat × (Nat → Int32)} {d : Nat} (n : Nat) (y1 : Int32) (w2 : Value) (y3 : Int32) (y4 : Int32) (y5 : Int32) (v5 : Int32) (S20 : St) (v20 : Int32) : ex X d 133 62 [.ref 29, .int y1, w2, .int y3, .int y4, .int y5, .int v5] [] (hh (xa_u S20.1 39 ((y4).toNatClampNeg) v20, S20.2.1, S20.2.2)) (n + 4) = ex X d 133 18 [.ref 29, .int y1, w2, .int y3, .int (y4 + 1), .int (y5 + (-1)), .int v5] [] (hh (xa_u S20.1 39 ((y4).toNatClampNeg) v20, S20.2.1, S20.2.2)) n := rfl
set_option maxRecDepth 200000 in
theorem TL_133_0 {X : Nat × (Nat → Int32)} : ∀ (n : Nat) (S : St) (y1 : Int32) (y3 : Int32) (y4 : Int32) (y5 : Int32) (r : Int32) (S' : St), GL_133_0 n S y1 y3 y4 y5 = some (r, S') → ∀ (w2 w6 : Value), Ev X 5 133 18 [.ref 29, .int y1, w2, .int y3, .int y4, .int y5, w6] [] (hh S) (xI r, hh S') := by
  intro n
  induction n with
  | zero => intro S y1 y3 y4 y5 r S' hG; simp [GL_133_0] at hG
  | succ n ih =>
    intro S y1 y3 y4 y5 r S' hG w2 w6
    rw [GL_133_0] at hG
    by_cases c1 : y5 < 0
    · rw [if_pos c1] at hG
      refine Ev.t (c := y5 < 0) (p1 := 185) (L1 := [.ref 29, .int y1, w2, .int y3, .int y4, .int y5, w6]) (s1 := []) (h1 := hh S) (p2 := 23) (L2 := [.ref 29, .int y1, w2, .int y3, .int y4, .int y5, w6]) (s2 := []) (h2 := hh S) 2 (fun n => B_133_1 n y1 w2 y3 y4 y5 w6 S) c1 ?_
      by_cases c2 : y3 ≤ 0
      · rw [if_pos c2] at hG
        refine Ev.t (c := y3 ≤ 0) (p1 := 202) (L1 := [.ref 29, .int y1, w2, .int y3, .int y4, .int y5, w6]) (s1 := []) (h1 := hh S) (p2 := 189) (L2 := [.ref 29, .int y1, w2, .int y3, .int y4, .int y5, w6]) (s2 := []) (h2 := hh S) 2 (fun n => B_133_2 n y1 w2 y3 y4 y5 w6 S) c2 ?_
        obtain ⟨e1, e2⟩ := Prod.mk.inj (Option.some.inj hG)
        subst e1
        subst e2
        exact Ev.rg (c := (xm_z 133 = 0 ∨ (xm_z 133 = 1 ∧ ((0 : Int32) = 0 ∨ (0 : Int32) = 1)) ∨ (xm_z 133 = 2 ∧ ((0 : Int32)).toInt8.toInt32 = (0 : Int32)) ∨ (xm_z 133 = 3 ∧ ((0 : Int32)).toUInt32.toUInt16.toUInt32.toInt32 = (0 : Int32)))) 2 (fun n => rfl) (Or.inr (Or.inl ⟨rfl, by decide⟩))
      · rw [if_neg c2] at hG
        refine Ev.f (c := y3 ≤ 0) (p1 := 202) (L1 := [.ref 29, .int y1, w2, .int y3, .int y4, .int y5, w6]) (s1 := []) (h1 := hh S) (p2 := 189) (L2 := [.ref 29, .int y1, w2, .int y3, .int y4, .int y5, w6]) (s2 := []) (h2 := hh S) 2 (fun n => B_133_3 n y1 w2 y3 y4 y5 w6 S) c2 ?_
        refine Ev.g (c := (kd 39).1 = 1 ∧ xa_in (0 : Int32) (kd 39).2) (p1 := 195) (L1 := [.ref 29, .int y1, w2, .int y3, .int y4, .int y5, w6]) (s1 := [.int (S.1 39 ((0 : Int32)).toNatClampNeg)]) (h1 := hh S) 4 (fun n => B_133_4 n y1 w2 y3 y4 y5 w6 S) (⟨rfl, by decide⟩) ?_
        by_cases c3 : (S.1 39 ((0 : Int32)).toNatClampNeg) = 0
        · rw [if_pos c3] at hG
          refine Ev.t (c := (S.1 39 ((0 : Int32)).toNatClampNeg) = 0) (p1 := 202) (L1 := [.ref 29, .int y1, w2, .int y3, .int y4, .int y5, w6]) (s1 := []) (h1 := hh S) (p2 := 198) (L2 := [.ref 29, .int y1, w2, .int y3, .int y4, .int y5, w6]) (s2 := []) (h2 := hh S) 1 (fun n => B_133_5 n y1 w2 y3 y4 y5 w6 S) c3 ?_
          obtain ⟨e1, e2⟩ := Prod.mk.inj (Option.some.inj hG)
          subst e1
          subst e2
          exact Ev.rg (c := (xm_z 133 = 0 ∨ (xm_z 133 = 1 ∧ ((0 : Int32) = 0 ∨ (0 : Int32) = 1)) ∨ (xm_z 133 = 2 ∧ ((0 : Int32)).toInt8.toInt32 = (0 : Int32)) ∨ (xm_z 133 = 3 ∧ ((0 : Int32)).toUInt32.toUInt16.toUInt32.toInt32 = (0 : Int32)))) 2 (fun n => rfl) (Or.inr (Or.inl ⟨rfl, by decide⟩))
        · rw [if_neg c3] at hG
          refine Ev.f (c := (S.1 39 ((0 : Int32)).toNatClampNeg) = 0) (p1 := 202) (L1 := [.ref 29, .int y1, w2, .int y3, .int y4, .int y5, w6]) (s1 := []) (h1 := hh S) (p2 := 198) (L2 := [.ref 29, .int y1, w2, .int y3, .int y4, .int y5, w6]) (s2 := []) (h2 := hh S) 1 (fun n => B_133_6 n y1 w2 y3 y4 y5 w6 S) c3 ?_
          obtain ⟨e1, e2⟩ := Prod.mk.inj (Option.some.inj hG)
          subst e1
          subst e2
          exact Ev.rg (c := (xm_z 133 = 0 ∨ (xm_z 133 = 1 ∧ ((1 : Int32) = 0 ∨ (1 : Int32) = 1)) ∨ (xm_z 133 = 2 ∧ ((1 : Int32)).toInt8.toInt32 = (1 : Int32)) ∨ (xm_z 133 = 3 ∧ ((1 : Int32)).toUInt32.toUInt16.toUInt32.toInt32 = (1 : Int32)))) 3 (fun n => rfl) (Or.inr (Or.inl ⟨rfl, by decide⟩))
    · rw [if_neg c1] at hG
      refine Ev.f (c := y5 < 0) (p1 := 185) (L1 := [.ref 29, .int y1, w2, .int y3, .int y4, .int y5, w6]) (s1 := []) (h1 := hh S) (p2 := 23) (L2 := [.ref 29, .int y1, w2, .int y3, .int y4, .int y5, w6]) (s2 := []) (h2 := hh S) 2 (fun n => B_133_7 n y1 w2 y3 y4 y5 w6 S) c1 ?_
      by_cases g4 : xa_in y5 64
      rotate_left
      · rw [if_neg g4] at hG; cases hG
      rw [if_pos g4] at hG
      refine Ev.g (c := (kd 38).1 = 0 ∧ xa_in y5 (kd 38).2) (p1 := 32) (L1 := [.ref 29, .int y1, w2, .int y3, .int y4, .int y5, w6]) (s1 := [.int (S.1 38 (y5).toNatClampNeg), .int y1, .ref 29]) (h1 := hh S) 6 (fun n => B_133_8 n y1 w2 y3 y4 y5 w6 S) (⟨rfl, g4⟩) ?_
      rcases h5 : G_118 S y1 (S.1 38 (y5).toNatClampNeg) with _ | ⟨v5, S5⟩
      · rw [h5] at hG; cases hG
      rw [h5] at hG
      dsimp only at hG
      refine Ev.c (a := 118) (A := [.ref 29, .int y1, .int (S.1 38 (y5).toNatClampNeg)]) (h1 := hh S) (pc' := 35) (L' := [.ref 29, .int y1, w2, .int y3, .int y4, .int y5, w6]) (rest := []) (r1 := some (.int v5)) (h2 := hh S5) 1 (fun n => B_133_9 n y1 w2 y3 y4 y5 w6 S) (Ev.up (by decide) (T_118 S y1 (S.1 38 (y5).toNatClampNeg) _ _ h5)) ?_
      show Ev X _ 133 35 [.ref 29, .int y1, w2, .int y3, .int y4, .int y5, w6] [.int v5] (hh S5) _
      by_cases c6 : 5 ≤ v5
      · rw [if_pos c6] at hG
        refine Ev.t (c := 5 ≤ v5) (p1 := 68) (L1 := [.ref 29, .int y1, w2, .int y3, .int y4, .int y5, .int v5]) (s1 := []) (h1 := hh S5) (p2 := 43) (L2 := [.ref 29, .int y1, w2, .int y3, .int y4, .int y5, .int v5]) (s2 := []) (h2 := hh S5) 4 (fun n => B_133_10 n y1 w2 y3 y4 y5 w6 v5 S5) c6 ?_
        by_cases c7 : v5 = 5
        · rw [if_pos c7] at hG
          refine Ev.t (c := v5 = 5) (p1 := 74) (L1 := [.ref 29, .int y1, w2, .int y3, .int y4, .int y5, .int v5]) (s1 := []) (h1 := hh S5) (p2 := 103) (L2 := [.ref 29, .int y1, w2, .int y3, .int y4, .int y5, .int v5]) (s2 := []) (h2 := hh S5) 3 (fun n => B_133_11 n y1 w2 y3 y4 y5 v5 S5) c7 ?_
          by_cases g8 : xa_in (y4 - 1) 64
          rotate_left
          · rw [if_neg g8] at hG; cases hG
          rw [if_pos g8] at hG
          refine Ev.g (c := (kd 39).1 = 1 ∧ xa_in (y4 - 1) (kd 39).2) (p1 := 91) (L1 := [.ref 29, .int y1, w2, .int y3, .int y4, .int y5, .int v5]) (s1 := [.int (S5.1 39 ((y4 - 1)).toNatClampNeg), .int (y4 - 1), .ref 39]) (h1 := hh S5) 11 (fun n => B_133_12 n y1 w2 y3 y4 y5 v5 S5) (⟨rfl, g8⟩) ?_
          by_cases c9 : (S5.1 39 ((y4 - 1)).toNatClampNeg) = 0
          · rw [if_pos c9] at hG
            refine Ev.t (c := (S5.1 39 ((y4 - 1)).toNatClampNeg) = 0) (p1 := 94) (L1 := [.ref 29, .int y1, w2, .int y3, .int y4, .int y5, .int v5]) (s1 := [.int (y4 - 1), .ref 39]) (h1 := hh S5) (p2 := 98) (L2 := [.ref 29, .int y1, w2, .int y3, .int y4, .int y5, .int v5]) (s2 := [.int (y4 - 1), .ref 39]) (h2 := hh S5) 1 (fun n => B_133_13 n y1 w2 y3 y4 y5 v5 S5) c9 ?_
            refine Ev.g (c := (kd 39).1 = 1 ∧ xa_in (y4 - 1) (kd 39).2 ∧ ((1 : Int32) = 0 ∨ (1 : Int32) = 1)) (p1 := 100) (L1 := [.ref 29, .int y1, w2, .int y3, .int y4, .int y5, .int v5]) (s1 := []) (h1 := hh (xa_u S5.1 39 (((y4 - 1)).toNatClampNeg) 1, S5.2.1, S5.2.2)) 3 (fun n => B_133_14 n y1 w2 y3 y4 y5 v5 S5) (⟨rfl, g8, by decide⟩) ?_
            exact Ev.b (pc' := 18) (L' := [.ref 29, .int y1, w2, .int y3, .int y4, .int (y5 + (-1)), .int v5]) (st' := []) (h' := hh (xa_u S5.1 39 (((y4 - 1)).toNatClampNeg) 1, S5.2.1, S5.2.2)) 3 (fun n => B_133_15 n y1 w2 y3 y4 y5 v5 S5) (ih (xa_u S5.1 39 (((y4 - 1)).toNatClampNeg) 1, S5.2.1, S5.2.2) y1 y3 y4 (y5 + (-1)) _ _ hG w2 (.int v5))
          · rw [if_neg c9] at hG
            refine Ev.f (c := (S5.1 39 ((y4 - 1)).toNatClampNeg) = 0) (p1 := 94) (L1 := [.ref 29, .int y1, w2, .int y3, .int y4, .int y5, .int v5]) (s1 := [.int (y4 - 1), .ref 39]) (h1 := hh S5) (p2 := 98) (L2 := [.ref 29, .int y1, w2, .int y3, .int y4, .int y5, .int v5]) (s2 := [.int (y4 - 1), .ref 39]) (h2 := hh S5) 1 (fun n => B_133_16 n y1 w2 y3 y4 y5 v5 S5) c9 ?_
            refine Ev.g (c := (kd 39).1 = 1 ∧ xa_in (y4 - 1) (kd 39).2 ∧ ((0 : Int32) = 0 ∨ (0 : Int32) = 1)) (p1 := 100) (L1 := [.ref 29, .int y1, w2, .int y3, .int y4, .int y5, .int v5]) (s1 := []) (h1 := hh (xa_u S5.1 39 (((y4 - 1)).toNatClampNeg) 0, S5.2.1, S5.2.2)) 2 (fun n => B_133_17 n y1 w2 y3 y4 y5 v5 S5) (⟨rfl, g8, by decide⟩) ?_
            exact Ev.b (pc' := 18) (L' := [.ref 29, .int y1, w2, .int y3, .int y4, .int (y5 + (-1)), .int v5]) (st' := []) (h' := hh (xa_u S5.1 39 (((y4 - 1)).toNatClampNeg) 0, S5.2.1, S5.2.2)) 3 (fun n => B_133_18 n y1 w2 y3 y4 y5 v5 S5) (ih (xa_u S5.1 39 (((y4 - 1)).toNatClampNeg) 0, S5.2.1, S5.2.2) y1 y3 y4 (y5 + (-1)) _ _ hG w2 (.int v5))
        · rw [if_neg c7] at hG
          refine Ev.f (c := v5 = 5) (p1 := 74) (L1 := [.ref 29, .int y1, w2, .int y3, .int y4, .int y5, .int v5]) (s1 := []) (h1 := hh S5) (p2 := 103) (L2 := [.ref 29, .int y1, w2, .int y3, .int y4, .int y5, .int v5]) (s2 := []) (h2 := hh S5) 3 (fun n => B_133_19 n y1 w2 y3 y4 y5 v5 S5) c7 ?_
          refine Ev.b (pc' := 106) (L' := [.ref 29, .int y1, w2, .int y3, .int (y4 + (-1)), .int y5, .int v5]) (st' := []) (h' := hh S5) 1 (fun n => B_133_20 n y1 w2 y3 y4 y5 v5 S5) ?_
          rw [xlet] at hG
          generalize (y4 + (-1)) = z10 at hG ⊢
          by_cases c11 : v5 = 6
          · rw [if_pos c11] at hG
            refine Ev.t (c := v5 = 6) (p1 := 121) (L1 := [.ref 29, .int y1, w2, .int y3, .int z10, .int y5, .int v5]) (s1 := [.int (z10 - 1), .ref 39]) (h1 := hh S5) (p2 := 151) (L2 := [.ref 29, .int y1, w2, .int y3, .int z10, .int y5, .int v5]) (s2 := [.int (z10 - 1), .ref 39]) (h2 := hh S5) 8 (fun n => B_133_21 n y1 w2 y3 z10 y5 v5 S5) c11 ?_
            by_cases g12 : xa_in (z10 - 1) 64
            rotate_left
            · rw [if_neg g12] at hG; cases hG
            rw [if_pos g12] at hG
            refine Ev.g (c := (kd 39).1 = 1 ∧ xa_in (z10 - 1) (kd 39).2) (p1 := 130) (L1 := [.ref 29, .int y1, w2, .int y3, .int z10, .int y5, .int v5]) (s1 := [.int (S5.1 39 ((z10 - 1)).toNatClampNeg), .int (z10 - 1), .ref 39]) (h1 := hh S5) 6 (fun n => B_133_22 n y1 w2 y3 z10 y5 v5 S5) (⟨rfl, g12⟩) ?_
            by_cases c13 : (S5.1 39 ((z10 - 1)).toNatClampNeg) = 0
            · rw [if_pos c13] at hG
              refine Ev.t (c := (S5.1 39 ((z10 - 1)).toNatClampNeg) = 0) (p1 := 147) (L1 := [.ref 29, .int y1, w2, .int y3, .int z10, .int y5, .int v5]) (s1 := [.int (z10 - 1), .ref 39]) (h1 := hh S5) (p2 := 133) (L2 := [.ref 29, .int y1, w2, .int y3, .int z10, .int y5, .int v5]) (s2 := [.int (z10 - 1), .ref 39]) (h2 := hh S5) 1 (fun n => B_133_23 n y1 w2 y3 z10 y5 v5 S5) c13 ?_
              refine Ev.g (c := (kd 39).1 = 1 ∧ xa_in (z10 - 1) (kd 39).2 ∧ ((0 : Int32) = 0 ∨ (0 : Int32) = 1)) (p1 := 179) (L1 := [.ref 29, .int y1, w2, .int y3, .int z10, .int y5, .int v5]) (s1 := []) (h1 := hh (xa_u S5.1 39 (((z10 - 1)).toNatClampNeg) 0, S5.2.1, S5.2.2)) 3 (fun n => B_133_24 n y1 w2 y3 z10 y5 v5 S5) (⟨rfl, g12, by decide⟩) ?_
              exact Ev.b (pc' := 18) (L' := [.ref 29, .int y1, w2, .int y3, .int z10, .int (y5 + (-1)), .int v5]) (st' := []) (h' := hh (xa_u S5.1 39 (((z10 - 1)).toNatClampNeg) 0, S5.2.1, S5.2.2)) 2 (fun n => B_133_25 n y1 w2 y3 z10 y5 v5 S5) (ih (xa_u S5.1 39 (((z10 - 1)).toNatClampNeg) 0, S5.2.1, S5.2.2) y1 y3 z10 (y5 + (-1)) _ _ hG w2 (.int v5))
            · rw [if_neg c13] at hG
              refine Ev.f (c := (S5.1 39 ((z10 - 1)).toNatClampNeg) = 0) (p1 := 147) (L1 := [.ref 29, .int y1, w2, .int y3, .int z10, .int y5, .int v5]) (s1 := [.int (z10 - 1), .ref 39]) (h1 := hh S5) (p2 := 133) (L2 := [.ref 29, .int y1, w2, .int y3, .int z10, .int y5, .int v5]) (s2 := [.int (z10 - 1), .ref 39]) (h2 := hh S5) 1 (fun n => B_133_26 n y1 w2 y3 z10 y5 v5 S5) c13 ?_
              by_cases g14 : xa_in z10 64
              rotate_left
              · rw [if_neg g14] at hG; cases hG
              rw [if_pos g14] at hG
              refine Ev.g (c := (kd 39).1 = 1 ∧ xa_in z10 (kd 39).2) (p1 := 140) (L1 := [.ref 29, .int y1, w2, .int y3, .int z10, .int y5, .int v5]) (s1 := [.int (S5.1 39 (z10).toNatClampNeg), .int (z10 - 1), .ref 39]) (h1 := hh S5) 4 (fun n => B_133_27 n y1 w2 y3 z10 y5 v5 S5) (⟨rfl, g14⟩) ?_
              by_cases c15 : (S5.1 39 (z10).toNatClampNeg) = 0
              · rw [if_pos c15] at hG
                refine Ev.t (c := (S5.1 39 (z10).toNatClampNeg) = 0) (p1 := 147) (L1 := [.ref 29, .int y1, w2, .int y3, .int z10, .int y5, .int v5]) (s1 := [.int (z10 - 1), .ref 39]) (h1 := hh S5) (p2 := 143) (L2 := [.ref 29, .int y1, w2, .int y3, .int z10, .int y5, .int v5]) (s2 := [.int (z10 - 1), .ref 39]) (h2 := hh S5) 1 (fun n => B_133_28 n y1 w2 y3 z10 y5 v5 S5) c15 ?_
                refine Ev.g (c := (kd 39).1 = 1 ∧ xa_in (z10 - 1) (kd 39).2 ∧ ((0 : Int32) = 0 ∨ (0 : Int32) = 1)) (p1 := 179) (L1 := [.ref 29, .int y1, w2, .int y3, .int z10, .int y5, .int v5]) (s1 := []) (h1 := hh (xa_u S5.1 39 (((z10 - 1)).toNatClampNeg) 0, S5.2.1, S5.2.2)) 3 (fun n => B_133_29 n y1 w2 y3 z10 y5 v5 S5) (⟨rfl, g12, by decide⟩) ?_
                exact Ev.b (pc' := 18) (L' := [.ref 29, .int y1, w2, .int y3, .int z10, .int (y5 + (-1)), .int v5]) (st' := []) (h' := hh (xa_u S5.1 39 (((z10 - 1)).toNatClampNeg) 0, S5.2.1, S5.2.2)) 2 (fun n => B_133_30 n y1 w2 y3 z10 y5 v5 S5) (ih (xa_u S5.1 39 (((z10 - 1)).toNatClampNeg) 0, S5.2.1, S5.2.2) y1 y3 z10 (y5 + (-1)) _ _ hG w2 (.int v5))
              · rw [if_neg c15] at hG
                refine Ev.f (c := (S5.1 39 (z10).toNatClampNeg) = 0) (p1 := 147) (L1 := [.ref 29, .int y1, w2, .int y3, .int z10, .int y5, .int v5]) (s1 := [.int (z10 - 1), .ref 39]) (h1 := hh S5) (p2 := 143) (L2 := [.ref 29, .int y1, w2, .int y3, .int z10, .int y5, .int v5]) (s2 := [.int (z10 - 1), .ref 39]) (h2 := hh S5) 1 (fun n => B_133_31 n y1 w2 y3 z10 y5 v5 S5) c15 ?_
                refine Ev.g (c := (kd 39).1 = 1 ∧ xa_in (z10 - 1) (kd 39).2 ∧ ((1 : Int32) = 0 ∨ (1 : Int32) = 1)) (p1 := 179) (L1 := [.ref 29, .int y1, w2, .int y3, .int z10, .int y5, .int v5]) (s1 := []) (h1 := hh (xa_u S5.1 39 (((z10 - 1)).toNatClampNeg) 1, S5.2.1, S5.2.2)) 3 (fun n => B_133_32 n y1 w2 y3 z10 y5 v5 S5) (⟨rfl, g12, by decide⟩) ?_
                exact Ev.b (pc' := 18) (L' := [.ref 29, .int y1, w2, .int y3, .int z10, .int (y5 + (-1)), .int v5]) (st' := []) (h' := hh (xa_u S5.1 39 (((z10 - 1)).toNatClampNeg) 1, S5.2.1, S5.2.2)) 2 (fun n => B_133_33 n y1 w2 y3 z10 y5 v5 S5) (ih (xa_u S5.1 39 (((z10 - 1)).toNatClampNeg) 1, S5.2.1, S5.2.2) y1 y3 z10 (y5 + (-1)) _ _ hG w2 (.int v5))
          · rw [if_neg c11] at hG
            refine Ev.f (c := v5 = 6) (p1 := 121) (L1 := [.ref 29, .int y1, w2, .int y3, .int z10, .int y5, .int v5]) (s1 := [.int (z10 - 1), .ref 39]) (h1 := hh S5) (p2 := 151) (L2 := [.ref 29, .int y1, w2, .int y3, .int z10, .int y5, .int v5]) (s2 := [.int (z10 - 1), .ref 39]) (h2 := hh S5) 8 (fun n => B_133_34 n y1 w2 y3 z10 y5 v5 S5) c11 ?_
            by_cases g16 : xa_in (z10 - 1) 64
            rotate_left
            · rw [if_neg g16] at hG; cases hG
            rw [if_pos g16] at hG
            refine Ev.g (c := (kd 39).1 = 1 ∧ xa_in (z10 - 1) (kd 39).2) (p1 := 160) (L1 := [.ref 29, .int y1, w2, .int y3, .int z10, .int y5, .int v5]) (s1 := [.int (S5.1 39 ((z10 - 1)).toNatClampNeg), .int (z10 - 1), .ref 39]) (h1 := hh S5) 6 (fun n => B_133_35 n y1 w2 y3 z10 y5 v5 S5) (⟨rfl, g16⟩) ?_
            by_cases c17 : (S5.1 39 ((z10 - 1)).toNatClampNeg) = 0
            · rw [if_pos c17] at hG
              refine Ev.t (c := (S5.1 39 ((z10 - 1)).toNatClampNeg) = 0) (p1 := 163) (L1 := [.ref 29, .int y1, w2, .int y3, .int z10, .int y5, .int v5]) (s1 := [.int (z10 - 1), .ref 39]) (h1 := hh S5) (p2 := 173) (L2 := [.ref 29, .int y1, w2, .int y3, .int z10, .int y5, .int v5]) (s2 := [.int (z10 - 1), .ref 39]) (h2 := hh S5) 1 (fun n => B_133_36 n y1 w2 y3 z10 y5 v5 S5) c17 ?_
              by_cases g18 : xa_in z10 64
              rotate_left
              · rw [if_neg g18] at hG; cases hG
              rw [if_pos g18] at hG
              refine Ev.g (c := (kd 39).1 = 1 ∧ xa_in z10 (kd 39).2) (p1 := 170) (L1 := [.ref 29, .int y1, w2, .int y3, .int z10, .int y5, .int v5]) (s1 := [.int (S5.1 39 (z10).toNatClampNeg), .int (z10 - 1), .ref 39]) (h1 := hh S5) 4 (fun n => B_133_37 n y1 w2 y3 z10 y5 v5 S5) (⟨rfl, g18⟩) ?_
              by_cases c19 : (S5.1 39 (z10).toNatClampNeg) = 0
              · rw [if_pos c19] at hG
                refine Ev.t (c := (S5.1 39 (z10).toNatClampNeg) = 0) (p1 := 177) (L1 := [.ref 29, .int y1, w2, .int y3, .int z10, .int y5, .int v5]) (s1 := [.int (z10 - 1), .ref 39]) (h1 := hh S5) (p2 := 173) (L2 := [.ref 29, .int y1, w2, .int y3, .int z10, .int y5, .int v5]) (s2 := [.int (z10 - 1), .ref 39]) (h2 := hh S5) 1 (fun n => B_133_38 n y1 w2 y3 z10 y5 v5 S5) c19 ?_
                refine Ev.g (c := (kd 39).1 = 1 ∧ xa_in (z10 - 1) (kd 39).2 ∧ ((0 : Int32) = 0 ∨ (0 : Int32) = 1)) (p1 := 179) (L1 := [.ref 29, .int y1, w2, .int y3, .int z10, .int y5, .int v5]) (s1 := []) (h1 := hh (xa_u S5.1 39 (((z10 - 1)).toNatClampNeg) 0, S5.2.1, S5.2.2)) 2 (fun n => B_133_39 n y1 w2 y3 z10 y5 v5 S5) (⟨rfl, g16, by decide⟩) ?_
                exact Ev.b (pc' := 18) (L' := [.ref 29, .int y1, w2, .int y3, .int z10, .int (y5 + (-1)), .int v5]) (st' := []) (h' := hh (xa_u S5.1 39 (((z10 - 1)).toNatClampNeg) 0, S5.2.1, S5.2.2)) 2 (fun n => B_133_40 n y1 w2 y3 z10 y5 v5 S5) (ih (xa_u S5.1 39 (((z10 - 1)).toNatClampNeg) 0, S5.2.1, S5.2.2) y1 y3 z10 (y5 + (-1)) _ _ hG w2 (.int v5))
              · rw [if_neg c19] at hG
                refine Ev.f (c := (S5.1 39 (z10).toNatClampNeg) = 0) (p1 := 177) (L1 := [.ref 29, .int y1, w2, .int y3, .int z10, .int y5, .int v5]) (s1 := [.int (z10 - 1), .ref 39]) (h1 := hh S5) (p2 := 173) (L2 := [.ref 29, .int y1, w2, .int y3, .int z10, .int y5, .int v5]) (s2 := [.int (z10 - 1), .ref 39]) (h2 := hh S5) 1 (fun n => B_133_41 n y1 w2 y3 z10 y5 v5 S5) c19 ?_
                refine Ev.g (c := (kd 39).1 = 1 ∧ xa_in (z10 - 1) (kd 39).2 ∧ ((1 : Int32) = 0 ∨ (1 : Int32) = 1)) (p1 := 179) (L1 := [.ref 29, .int y1, w2, .int y3, .int z10, .int y5, .int v5]) (s1 := []) (h1 := hh (xa_u S5.1 39 (((z10 - 1)).toNatClampNeg) 1, S5.2.1, S5.2.2)) 3 (fun n => B_133_42 n y1 w2 y3 z10 y5 v5 S5) (⟨rfl, g16, by decide⟩) ?_
                exact Ev.b (pc' := 18) (L' := [.ref 29, .int y1, w2, .int y3, .int z10, .int (y5 + (-1)), .int v5]) (st' := []) (h' := hh (xa_u S5.1 39 (((z10 - 1)).toNatClampNeg) 1, S5.2.1, S5.2.2)) 2 (fun n => B_133_43 n y1 w2 y3 z10 y5 v5 S5) (ih (xa_u S5.1 39 (((z10 - 1)).toNatClampNeg) 1, S5.2.1, S5.2.2) y1 y3 z10 (y5 + (-1)) _ _ hG w2 (.int v5))
            · rw [if_neg c17] at hG
              refine Ev.f (c := (S5.1 39 ((z10 - 1)).toNatClampNeg) = 0) (p1 := 163) (L1 := [.ref 29, .int y1, w2, .int y3, .int z10, .int y5, .int v5]) (s1 := [.int (z10 - 1), .ref 39]) (h1 := hh S5) (p2 := 173) (L2 := [.ref 29, .int y1, w2, .int y3, .int z10, .int y5, .int v5]) (s2 := [.int (z10 - 1), .ref 39]) (h2 := hh S5) 1 (fun n => B_133_44 n y1 w2 y3 z10 y5 v5 S5) c17 ?_
              refine Ev.g (c := (kd 39).1 = 1 ∧ xa_in (z10 - 1) (kd 39).2 ∧ ((1 : Int32) = 0 ∨ (1 : Int32) = 1)) (p1 := 179) (L1 := [.ref 29, .int y1, w2, .int y3, .int z10, .int y5, .int v5]) (s1 := []) (h1 := hh (xa_u S5.1 39 (((z10 - 1)).toNatClampNeg) 1, S5.2.1, S5.2.2)) 3 (fun n => B_133_45 n y1 w2 y3 z10 y5 v5 S5) (⟨rfl, g16, by decide⟩) ?_
              exact Ev.b (pc' := 18) (L' := [.ref 29, .int y1, w2, .int y3, .int z10, .int (y5 + (-1)), .int v5]) (st' := []) (h' := hh (xa_u S5.1 39 (((z10 - 1)).toNatClampNeg) 1, S5.2.1, S5.2.2)) 2 (fun n => B_133_46 n y1 w2 y3 z10 y5 v5 S5) (ih (xa_u S5.1 39 (((z10 - 1)).toNatClampNeg) 1, S5.2.1, S5.2.2) y1 y3 z10 (y5 + (-1)) _ _ hG w2 (.int v5))
      · rw [if_neg c6] at hG
        refine Ev.f (c := 5 ≤ v5) (p1 := 68) (L1 := [.ref 29, .int y1, w2, .int y3, .int y4, .int y5, .int v5]) (s1 := []) (h1 := hh S5) (p2 := 43) (L2 := [.ref 29, .int y1, w2, .int y3, .int y4, .int y5, .int v5]) (s2 := []) (h2 := hh S5) 4 (fun n => B_133_47 n y1 w2 y3 y4 y5 w6 v5 S5) c6 ?_
        refine Ev.g (c := (kd 38).1 = 0 ∧ xa_in y5 (kd 38).2) (p1 := 58) (L1 := [.ref 29, .int y1, w2, .int y3, .int y4, .int y5, .int v5]) (s1 := [.int (S5.1 38 (y5).toNatClampNeg), .int y1, .ref 29, .int y4, .ref 39]) (h1 := hh S5) 9 (fun n => B_133_48 n y1 w2 y3 y4 y5 v5 S5) (⟨rfl, g4⟩) ?_
        rcases h20 : G_134 S5 y1 (S5.1 38 (y5).toNatClampNeg) with _ | ⟨v20, S20⟩
        · rw [h20] at hG; cases hG
        rw [h20] at hG
        dsimp only at hG
        refine Ev.c (a := 134) (A := [.ref 29, .int y1, .int (S5.1 38 (y5).toNatClampNeg), .retAddr 0, .retAddr 0, .retAddr 0]) (h1 := hh S5) (pc' := 61) (L' := [.ref 29, .int y1, w2, .int y3, .int y4, .int y5, .int v5]) (rest := [.int y4, .ref 39]) (r1 := some (.int v20)) (h2 := hh S20) 1 (fun n => B_133_49 n y1 w2 y3 y4 y5 v5 S5) (Ev.up (by decide) (T_134 S5 y1 (S5.1 38 (y5).toNatClampNeg) _ _ h20)) ?_
        show Ev X _ 133 61 [.ref 29, .int y1, w2, .int y3, .int y4, .int y5, .int v5] [.int v20, .int y4, .ref 39] (hh S20) _
        by_cases g21 : xa_in y4 64
        rotate_left
        · rw [if_neg g21] at hG; cases hG
        rw [if_pos g21] at hG
        by_cases g22 : (v20 = 0 ∨ v20 = 1)
        rotate_left
        · rw [if_neg g22] at hG; cases hG
        rw [if_pos g22] at hG
        refine Ev.g (c := (kd 39).1 = 1 ∧ xa_in y4 (kd 39).2 ∧ (v20 = 0 ∨ v20 = 1)) (p1 := 62) (L1 := [.ref 29, .int y1, w2, .int y3, .int y4, .int y5, .int v5]) (s1 := []) (h1 := hh (xa_u S20.1 39 ((y4).toNatClampNeg) v20, S20.2.1, S20.2.2)) 1 (fun n => B_133_50 n y1 w2 y3 y4 y5 v5 v20 S20) (⟨rfl, g21, g22⟩) ?_
        exact Ev.b (pc' := 18) (L' := [.ref 29, .int y1, w2, .int y3, .int (y4 + 1), .int (y5 + (-1)), .int v5]) (st' := []) (h' := hh (xa_u S20.1 39 ((y4).toNatClampNeg) v20, S20.2.1, S20.2.2)) 4 (fun n => B_133_51 n y1 w2 y3 y4 y5 v5 S20 v20) (ih (xa_u S20.1 39 ((y4).toNatClampNeg) v20, S20.2.1, S20.2.2) y1 y3 (y4 + 1) (y5 + (-1)) _ _ hG w2 (.int v5))
def G_133 (S : St) (x1 : Int32) (x2 : Int32) : Option (Int32 × St) :=
  (match G_125 S x1 x2 with
  | none => none
  | some (v23, S23) =>
    GL_133_0 xFu S23 x1 v23 (0 : Int32) ((S23.1 29 10) - 1)
  )
theorem B_133_52 {X : Nat × (Nat → Int32)} {d : Nat} (n : Nat) (x1 : Int32) (x2 : Int32) (S : St) : ex X (d + 1) 133 0 [.ref 29, .int x1, .int x2, .retAddr 0, .retAddr 0, .retAddr 0, .retAddr 0] [] (hh S) (n + 4) = (match ex X d 125 0 [.ref 29, .int x1, .int x2, .retAddr 0, .retAddr 0, .retAddr 0] [] (hh S) n with | some (v, h') => ex X (d + 1) 133 6 [.ref 29, .int x1, .int x2, .retAddr 0, .retAddr 0, .retAddr 0, .retAddr 0] (v.toList ++ []) h' n | none => none) := rfl
theorem B_133_53 {X : Nat × (Nat → Int32)} {d : Nat} (n : Nat) (x1 : Int32) (x2 : Int32) (v23 : Int32) (S23 : St) : ex X d 133 6 [.ref 29, .int x1, .int x2, .retAddr 0, .retAddr 0, .retAddr 0, .retAddr 0] [.int v23] (hh S23) (n + 8) = ex X d 133 18 [.ref 29, .int x1, .int x2, .int v23, .int 0, .int ((S23.1 29 10) - 1), .retAddr 0] [] (hh S23) n := rfl
set_option maxRecDepth 200000 in
theorem T_133 {X : Nat × (Nat → Int32)} (S : St) (x1 : Int32) (x2 : Int32) (r : Int32) (S' : St) (hG : G_133 S x1 x2 = some (r, S')) : Ev X 5 133 0 [.ref 29, .int x1, .int x2, .retAddr 0, .retAddr 0, .retAddr 0, .retAddr 0] [] (hh S) (xI r, hh S') := by
  unfold G_133 at hG
  rcases h23 : G_125 S x1 x2 with _ | ⟨v23, S23⟩
  · rw [h23] at hG; cases hG
  rw [h23] at hG
  dsimp only at hG
  refine Ev.c (a := 125) (A := [.ref 29, .int x1, .int x2, .retAddr 0, .retAddr 0, .retAddr 0]) (h1 := hh S) (pc' := 6) (L' := [.ref 29, .int x1, .int x2, .retAddr 0, .retAddr 0, .retAddr 0, .retAddr 0]) (rest := []) (r1 := some (.int v23)) (h2 := hh S23) 4 (fun n => B_133_52 n x1 x2 S) (Ev.up (by decide) (T_125 S x1 x2 _ _ h23)) ?_
  show Ev X _ 133 6 [.ref 29, .int x1, .int x2, .retAddr 0, .retAddr 0, .retAddr 0, .retAddr 0] [.int v23] (hh S23) _
  exact Ev.b (pc' := 18) (L' := [.ref 29, .int x1, .int x2, .int v23, .int 0, .int ((S23.1 29 10) - 1), .retAddr 0]) (st' := []) (h' := hh S23) 8 (fun n => B_133_53 n x1 x2 v23 S23) (TL_133_0 xFu S23 x1 v23 (0 : Int32) ((S23.1 29 10) - 1) _ _ hG (.int x2) (.retAddr 0))
/-- 138: SceneCycleModel.open(IZ)Z -/
def G_138 (S : St) (x1 : Int32) (x2 : Int32) : Option (Int32 × St) :=
  (if x2 = 0 then
    (if xa_in x1 192 then
      (if (S.1 31 (x1).toNatClampNeg) = 4 then
        some (1, S)
      else
        some (0, S)
      )
    else none)
  else
    (if xa_in x1 192 then
      (if (S.1 30 (x1).toNatClampNeg) = 15 then
        some (1, S)
      else
        some (0, S)
      )
    else none)
  )
theorem B_138_1 {X : Nat × (Nat → Int32)} {d : Nat} (n : Nat) (x1 : Int32) (x2 : Int32) (S : St) : ex X d 138 0 [.ref 29, .int x1, .int x2] [] (hh S) (n + 2) = if x2 = 0 then ex X d 138 23 [.ref 29, .int x1, .int x2] [] (hh S) n else ex X d 138 4 [.ref 29, .int x1, .int x2] [] (hh S) n := rfl
theorem B_138_2 {X : Nat × (Nat → Int32)} {d : Nat} (n : Nat) (x1 : Int32) (x2 : Int32) (S : St) : ex X d 138 23 [.ref 29, .int x1, .int x2] [] (hh S) (n + 4) = if (kd 31).1 = 0 ∧ xa_in x1 (kd 31).2 then ex X d 138 29 [.ref 29, .int x1, .int x2] [.int (S.1 31 (x1).toNatClampNeg)] (hh S) n else none := rfl
theorem B_138_3 {X : Nat × (Nat → Int32)} {d : Nat} (n : Nat) (x1 : Int32) (x2 : Int32) (S : St) : ex X d 138 29 [.ref 29, .int x1, .int x2] [.int (S.1 31 (x1).toNatClampNeg)] (hh S) (n + 2) = if (S.1 31 (x1).toNatClampNeg) = 4 then ex X d 138 33 [.ref 29, .int x1, .int x2] [] (hh S) n else ex X d 138 37 [.ref 29, .int x1, .int x2] [] (hh S) n := rfl
theorem B_138_4 {X : Nat × (Nat → Int32)} {d : Nat} (n : Nat) (x1 : Int32) (x2 : Int32) (S : St) : ex X d 138 29 [.ref 29, .int x1, .int x2] [.int (S.1 31 (x1).toNatClampNeg)] (hh S) (n + 2) = if (S.1 31 (x1).toNatClampNeg) = 4 then ex X d 138 33 [.ref 29, .int x1, .int x2] [] (hh S) n else ex X d 138 37 [.ref 29, .int x1, .int x2] [] (hh S) n := rfl
theorem B_138_5 {X : Nat × (Nat → Int32)} {d : Nat} (n : Nat) (x1 : Int32) (x2 : Int32) (S : St) : ex X d 138 0 [.ref 29, .int x1, .int x2] [] (hh S) (n + 2) = if x2 = 0 then ex X d 138 23 [.ref 29, .int x1, .int x2] [] (hh S) n else ex X d 138 4 [.ref 29, .int x1, .int x2] [] (hh S) n := rfl
theorem B_138_6 {X : Nat × (Nat → Int32)} {d : Nat} (n : Nat) (x1 : Int32) (x2 : Int32) (S : St) : ex X d 138 4 [.ref 29, .int x1, .int x2] [] (hh S) (n + 4) = if (kd 30).1 = 0 ∧ xa_in x1 (kd 30).2 then ex X d 138 10 [.ref 29, .int x1, .int x2] [.int (S.1 30 (x1).toNatClampNeg)] (hh S) n else none := rfl
theorem B_138_7 {X : Nat × (Nat → Int32)} {d : Nat} (n : Nat) (x1 : Int32) (x2 : Int32) (S : St) : ex X d 138 10 [.ref 29, .int x1, .int x2] [.int (S.1 30 (x1).toNatClampNeg)] (hh S) (n + 2) = if (S.1 30 (x1).toNatClampNeg) = 15 then ex X d 138 15 [.ref 29, .int x1, .int x2] [] (hh S) n else ex X d 138 19 [.ref 29, .int x1, .int x2] [] (hh S) n := rfl
theorem B_138_8 {X : Nat × (Nat → Int32)} {d : Nat} (n : Nat) (x1 : Int32) (x2 : Int32) (S : St) : ex X d 138 10 [.ref 29, .int x1, .int x2] [.int (S.1 30 (x1).toNatClampNeg)] (hh S) (n + 2) = if (S.1 30 (x1).toNatClampNeg) = 15 then ex X d 138 15 [.ref 29, .int x1, .int x2] [] (hh S) n else ex X d 138 19 [.ref 29, .int x1, .int x2] [] (hh S) n := rfl
set_option maxRecDepth 200000 in
theorem T_138 {X : Nat × (Nat → Int32)} (S : St) (x1 : Int32) (x2 : Int32) (r : Int32) (S' : St) (hG : G_138 S x1 x2 = some (r, S')) : Ev X 0 138 0 [.ref 29, .int x1, .int x2] [] (hh S) (xI r, hh S') := by
  unfold G_138 at hG
  by_cases c1 : x2 = 0
  · rw [if_pos c1] at hG
    refine Ev.t (c := x2 = 0) (p1 := 23) (L1 := [.ref 29, .int x1, .int x2]) (s1 := []) (h1 := hh S) (p2 := 4) (L2 := [.ref 29, .int x1, .int x2]) (s2 := []) (h2 := hh S) 2 (fun n => B_138_1 n x1 x2 S) c1 ?_
    by_cases g2 : xa_in x1 192
    rotate_left
    · rw [if_neg g2] at hG; cases hG
    rw [if_pos g2] at hG
    refine Ev.g (c := (kd 31).1 = 0 ∧ xa_in x1 (kd 31).2) (p1 := 29) (L1 := [.ref 29, .int x1, .int x2]) (s1 := [.int (S.1 31 (x1).toNatClampNeg)]) (h1 := hh S) 4 (fun n => B_138_2 n x1 x2 S) (⟨rfl, g2⟩) ?_
    by_cases c3 : (S.1 31 (x1).toNatClampNeg) = 4
    · rw [if_pos c3] at hG
      refine Ev.t (c := (S.1 31 (x1).toNatClampNeg) = 4) (p1 := 33) (L1 := [.ref 29, .int x1, .int x2]) (s1 := []) (h1 := hh S) (p2 := 37) (L2 := [.ref 29, .int x1, .int x2]) (s2 := []) (h2 := hh S) 2 (fun n => B_138_3 n x1 x2 S) c3 ?_
      obtain ⟨e1, e2⟩ := Prod.mk.inj (Option.some.inj hG)
      subst e1
      subst e2
      exact Ev.rg (c := (xm_z 138 = 0 ∨ (xm_z 138 = 1 ∧ ((1 : Int32) = 0 ∨ (1 : Int32) = 1)) ∨ (xm_z 138 = 2 ∧ ((1 : Int32)).toInt8.toInt32 = (1 : Int32)) ∨ (xm_z 138 = 3 ∧ ((1 : Int32)).toUInt32.toUInt16.toUInt32.toInt32 = (1 : Int32)))) 3 (fun n => rfl) (Or.inr (Or.inl ⟨rfl, by decide⟩))
    · rw [if_neg c3] at hG
      refine Ev.f (c := (S.1 31 (x1).toNatClampNeg) = 4) (p1 := 33) (L1 := [.ref 29, .int x1, .int x2]) (s1 := []) (h1 := hh S) (p2 := 37) (L2 := [.ref 29, .int x1, .int x2]) (s2 := []) (h2 := hh S) 2 (fun n => B_138_4 n x1 x2 S) c3 ?_
      obtain ⟨e1, e2⟩ := Prod.mk.inj (Option.some.inj hG)
      subst e1
      subst e2
      exact Ev.rg (c := (xm_z 138 = 0 ∨ (xm_z 138 = 1 ∧ ((0 : Int32) = 0 ∨ (0 : Int32) = 1)) ∨ (xm_z 138 = 2 ∧ ((0 : Int32)).toInt8.toInt32 = (0 : Int32)) ∨ (xm_z 138 = 3 ∧ ((0 : Int32)).toUInt32.toUInt16.toUInt32.toInt32 = (0 : Int32)))) 2 (fun n => rfl) (Or.inr (Or.inl ⟨rfl, by decide⟩))
  · rw [if_neg c1] at hG
    refine Ev.f (c := x2 = 0) (p1 := 23) (L1 := [.ref 29, .int x1, .int x2]) (s1 := []) (h1 := hh S) (p2 := 4) (L2 := [.ref 29, .int x1, .int x2]) (s2 := []) (h2 := hh S) 2 (fun n => B_138_5 n x1 x2 S) c1 ?_
    by_cases g4 : xa_in x1 192
    rotate_left
    · rw [if_neg g4] at hG; cases hG
    rw [if_pos g4] at hG
    refine Ev.g (c := (kd 30).1 = 0 ∧ xa_in x1 (kd 30).2) (p1 := 10) (L1 := [.ref 29, .int x1, .int x2]) (s1 := [.int (S.1 30 (x1).toNatClampNeg)]) (h1 := hh S) 4 (fun n => B_138_6 n x1 x2 S) (⟨rfl, g4⟩) ?_
    by_cases c5 : (S.1 30 (x1).toNatClampNeg) = 15
    · rw [if_pos c5] at hG
      refine Ev.t (c := (S.1 30 (x1).toNatClampNeg) = 15) (p1 := 15) (L1 := [.ref 29, .int x1, .int x2]) (s1 := []) (h1 := hh S) (p2 := 19) (L2 := [.ref 29, .int x1, .int x2]) (s2 := []) (h2 := hh S) 2 (fun n => B_138_7 n x1 x2 S) c5 ?_
      obtain ⟨e1, e2⟩ := Prod.mk.inj (Option.some.inj hG)
      subst e1
      subst e2
      exact Ev.rg (c := (xm_z 138 = 0 ∨ (xm_z 138 = 1 ∧ ((1 : Int32) = 0 ∨ (1 : Int32) = 1)) ∨ (xm_z 138 = 2 ∧ ((1 : Int32)).toInt8.toInt32 = (1 : Int32)) ∨ (xm_z 138 = 3 ∧ ((1 : Int32)).toUInt32.toUInt16.toUInt32.toInt32 = (1 : Int32)))) 3 (fun n => rfl) (Or.inr (Or.inl ⟨rfl, by decide⟩))
    · rw [if_neg c5] at hG
      refine Ev.f (c := (S.1 30 (x1).toNatClampNeg) = 15) (p1 := 15) (L1 := [.ref 29, .int x1, .int x2]) (s1 := []) (h1 := hh S) (p2 := 19) (L2 := [.ref 29, .int x1, .int x2]) (s2 := []) (h2 := hh S) 2 (fun n => B_138_8 n x1 x2 S) c5 ?_
      obtain ⟨e1, e2⟩ := Prod.mk.inj (Option.some.inj hG)
      subst e1
      subst e2
      exact Ev.rg (c := (xm_z 138 = 0 ∨ (xm_z 138 = 1 ∧ ((0 : Int32) = 0 ∨ (0 : Int32) = 1)) ∨ (xm_z 138 = 2 ∧ ((0 : Int32)).toInt8.toInt32 = (0 : Int32)) ∨ (xm_z 138 = 3 ∧ ((0 : Int32)).toUInt32.toUInt16.toUInt32.toInt32 = (0 : Int32)))) 3 (fun n => rfl) (Or.inr (Or.inl ⟨rfl, by decide⟩))
