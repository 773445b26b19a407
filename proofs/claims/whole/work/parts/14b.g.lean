/-- 29: SceneCycle$PictureReader.take(I)Z -/
def G_29 (S : St) (x0 : Nat) (x1 : Int32) : Option (Int32 × St) :=
  (if (kd x0).1 = 10 + 2 then
    (if ((xa_u S.1 x0 2 0) x0 0) = 255 then
      some (0, (xa_u S.1 x0 2 0, S.2.1, S.2.2))
    else
      (if x1 < 240 then
        (if ((xa_u S.1 x0 2 0) x0 0) = 240 then
          (match G_32 (xa_u S.1 x0 2 0, S.2.1, S.2.2) x0 x1 with
          | none => none
          | some (v5, S5) =>
            (if (v5 = 0 ∨ v5 = 1) then some (v5, S5) else none)
          )
        else
          (if ((xa_u S.1 x0 2 0) x0 0) = 242 then
            (match G_32 (xa_u S.1 x0 2 0, S.2.1, S.2.2) x0 x1 with
            | none => none
            | some (v8, S8) =>
              (if (v8 = 0 ∨ v8 = 1) then some (v8, S8) else none)
            )
          else
            (if ((xa_u S.1 x0 2 0) x0 0) = 244 then
              (match G_33 (xa_u S.1 x0 2 0, S.2.1, S.2.2) x0 x1 with
              | none => none
              | some (v11, S11) =>
                (if (v11 = 0 ∨ v11 = 1) then some (v11, S11) else none)
              )
            else
              (if ((xa_u S.1 x0 2 0) x0 0) = 245 then
                (if 2 ≤ ((xa_u S.1 x0 2 0) x0 8) then
                  (match G_35 (xa_u S.1 x0 2 0, S.2.1, S.2.2) x0 x1 with
                  | none => none
                  | some (v15, S15) =>
                    (if (v15 = 0 ∨ v15 = 1) then some (v15, S15) else none)
                  )
                else
                  (match G_33 (xa_u S.1 x0 2 0, S.2.1, S.2.2) x0 x1 with
                  | none => none
                  | some (v17, S17) =>
                    (if (v17 = 0 ∨ v17 = 1) then some (v17, S17) else none)
                  )
                )
              else
                (if ((xa_u S.1 x0 2 0) x0 0) = 246 then
                  (match G_33 (xa_u S.1 x0 2 0, S.2.1, S.2.2) x0 x1 with
                  | none => none
                  | some (v20, S20) =>
                    (if (v20 = 0 ∨ v20 = 1) then some (v20, S20) else none)
                  )
                else
                  some (0, (xa_u S.1 x0 2 0, S.2.1, S.2.2))
                )
              )
            )
          )
        )
      else
        (match G_30 (xa_u S.1 x0 2 0, S.2.1, S.2.2) x0 with
        | none => none
        | some (v22, S22) =>
          (if v22 = 0 then
            (if (S22.1 x0 0) = 240 then
              (match G_32 S22 x0 x1 with
              | none => none
              | some (v25, S25) =>
                (if (v25 = 0 ∨ v25 = 1) then some (v25, S25) else none)
              )
            else
              (if (S22.1 x0 0) = 242 then
                (match G_32 S22 x0 x1 with
                | none => none
                | some (v28, S28) =>
                  (if (v28 = 0 ∨ v28 = 1) then some (v28, S28) else none)
                )
              else
                (if (S22.1 x0 0) = 244 then
                  (match G_33 S22 x0 x1 with
                  | none => none
                  | some (v31, S31) =>
                    (if (v31 = 0 ∨ v31 = 1) then some (v31, S31) else none)
                  )
                else
                  (if (S22.1 x0 0) = 245 then
                    (if 2 ≤ (S22.1 x0 8) then
                      (match G_35 S22 x0 x1 with
                      | none => none
                      | some (v35, S35) =>
                        (if (v35 = 0 ∨ v35 = 1) then some (v35, S35) else none)
                      )
                    else
                      (match G_33 S22 x0 x1 with
                      | none => none
                      | some (v37, S37) =>
                        (if (v37 = 0 ∨ v37 = 1) then some (v37, S37) else none)
                      )
                    )
                  else
                    (if (S22.1 x0 0) = 246 then
                      (match G_33 S22 x0 x1 with
                      | none => none
                      | some (v40, S40) =>
                        (if (v40 = 0 ∨ v40 = 1) then some (v40, S40) else none)
                      )
                    else
                      some (0, S22)
                    )
                  )
                )
              )
            )
          else
            (match G_31 S22 x0 x1 with
            | none => none
            | some (v42, S42) =>
              (if (v42 = 0 ∨ v42 = 1) then some (v42, S42) else none)
            )
          )
        )
      )
    )
  else none)
theorem B_29_1 {X : Nat × (Nat → Int32)} {d : Nat} (n : Nat) (x0 : Nat) (x1 : Int32) (S : St) : ex X d 29 0 [.ref x0, .int x1] [] (hh S) (n + 3) = if (kd x0).1 = 10 + 2 ∧ (xf_k 2 2 = 0 ∨ (xf_k 2 2 = 1 ∧ ((0 : Int32) = 0 ∨ (0 : Int32) = 1))) then ex X d 29 5 [.ref x0, .int x1] [] (hh (xa_u S.1 x0 2 0, S.2.1, S.2.2)) n else none := rfl
theorem B_29_2 {X : Nat × (Nat → Int32)} {d : Nat} (n : Nat) (x0 : Nat) (x1 : Int32) (S : St) : ex X d 29 5 [.ref x0, .int x1] [] (hh (xa_u S.1 x0 2 0, S.2.1, S.2.2)) (n + 2) = if (kd x0).1 = 10 + 2 then ex X d 29 9 [.ref x0, .int x1] [.int ((xa_u S.1 x0 2 0) x0 0)] (hh (xa_u S.1 x0 2 0, S.2.1, S.2.2)) n else none := rfl
theorem B_29_3 {X : Nat × (Nat → Int32)} {d : Nat} (n : Nat) (x0 : Nat) (x1 : Int32) (S : St) : ex X d 29 9 [.ref x0, .int x1] [.int ((xa_u S.1 x0 2 0) x0 0)] (hh (xa_u S.1 x0 2 0, S.2.1, S.2.2)) (n + 2) = if ((xa_u S.1 x0 2 0) x0 0) = 255 then ex X d 29 15 [.ref x0, .int x1] [] (hh (xa_u S.1 x0 2 0, S.2.1, S.2.2)) n else ex X d 29 17 [.ref x0, .int x1] [] (hh (xa_u S.1 x0 2 0, S.2.1, S.2.2)) n := rfl
theorem B_29_4 {X : Nat × (Nat → Int32)} {d : Nat} (n : Nat) (x0 : Nat) (x1 : Int32) (S : St) : ex X d 29 9 [.ref x0, .int x1] [.int ((xa_u S.1 x0 2 0) x0 0)] (hh (xa_u S.1 x0 2 0, S.2.1, S.2.2)) (n + 2) = if ((xa_u S.1 x0 2 0) x0 0) = 255 then ex X d 29 15 [.ref x0, .int x1] [] (hh (xa_u S.1 x0 2 0, S.2.1, S.2.2)) n else ex X d 29 17 [.ref x0, .int x1] [] (hh (xa_u S.1 x0 2 0, S.2.1, S.2.2)) n := rfl
theorem B_29_5 {X : Nat × (Nat → Int32)} {d : Nat} (n : Nat) (x0 : Nat) (x1 : Int32) (S : St) : ex X d 29 17 [.ref x0, .int x1] [] (hh (xa_u S.1 x0 2 0, S.2.1, S.2.2)) (n + 3) = if x1 < 240 then ex X d 29 37 [.ref x0, .int x1] [] (hh (xa_u S.1 x0 2 0, S.2.1, S.2.2)) n else ex X d 29 24 [.ref x0, .int x1] [] (hh (xa_u S.1 x0 2 0, S.2.1, S.2.2)) n := rfl
theorem B_29_6 {X : Nat × (Nat → Int32)} {d : Nat} (n : Nat) (x0 : Nat) (x1 : Int32) (S : St) : ex X d 29 37 [.ref x0, .int x1] [] (hh (xa_u S.1 x0 2 0, S.2.1, S.2.2)) (n + 2) = if (kd x0).1 = 10 + 2 then ex X d 29 41 [.ref x0, .int x1] [.int ((xa_u S.1 x0 2 0) x0 0)] (hh (xa_u S.1 x0 2 0, S.2.1, S.2.2)) n else none := rfl
theorem B_29_7 {X : Nat × (Nat → Int32)} {d : Nat} (n : Nat) (x0 : Nat) (x1 : Int32) (S : St) : ex X d 29 41 [.ref x0, .int x1] [.int ((xa_u S.1 x0 2 0) x0 0)] (hh (xa_u S.1 x0 2 0, S.2.1, S.2.2)) (n + 1) = xa_sw [(240, 84), (242, 84), (244, 90), (245, 96), (246, 90)] ((xa_u S.1 x0 2 0) x0 0) 118 (fun t => ex X d 29 t [.ref x0, .int x1] [] (hh (xa_u S.1 x0 2 0, S.2.1, S.2.2)) n) := rfl
theorem B_29_8 {X : Nat × (Nat → Int32)} {d : Nat} (n : Nat) (x0 : Nat) (x1 : Int32) (S : St) : ex X (d + 1) 29 84 [.ref x0, .int x1] [] (hh (xa_u S.1 x0 2 0, S.2.1, S.2.2)) (n + 3) = if (xm_o 32 = 200 ∧ 2000 ≤ x0 ∧ x0 < 2000 + xS_n) ∨ (xm_o 32 ≠ 200 ∧ (kd x0).1 = 10 + xm_o 32) then (match ex X d 32 0 [.ref x0, .int x1] [] (hh (xa_u S.1 x0 2 0, S.2.1, S.2.2)) n with | some (v, h') => ex X (d + 1) 29 89 [.ref x0, .int x1] (v.toList ++ []) h' n | none => none) else none := rfl
theorem B_29_9 {X : Nat × (Nat → Int32)} {d : Nat} (n : Nat) (x0 : Nat) (x1 : Int32) (S : St) : ex X (d + 1) 29 84 [.ref x0, .int x1] [] (hh (xa_u S.1 x0 2 0, S.2.1, S.2.2)) (n + 3) = if (xm_o 32 = 200 ∧ 2000 ≤ x0 ∧ x0 < 2000 + xS_n) ∨ (xm_o 32 ≠ 200 ∧ (kd x0).1 = 10 + xm_o 32) then (match ex X d 32 0 [.ref x0, .int x1] [] (hh (xa_u S.1 x0 2 0, S.2.1, S.2.2)) n with | some (v, h') => ex X (d + 1) 29 89 [.ref x0, .int x1] (v.toList ++ []) h' n | none => none) else none := rfl
theorem B_29_10 {X : Nat × (Nat → Int32)} {d : Nat} (n : Nat) (x0 : Nat) (x1 : Int32) (S : St) : ex X (d + 1) 29 90 [.ref x0, .int x1] [] (hh (xa_u S.1 x0 2 0, S.2.1, S.2.2)) (n + 3) = if (xm_o 33 = 200 ∧ 2000 ≤ x0 ∧ x0 < 2000 + xS_n) ∨ (xm_o 33 ≠ 200 ∧ (kd x0).1 = 10 + xm_o 33) then (match ex X d 33 0 [.ref x0, .int x1] [] (hh (xa_u S.1 x0 2 0, S.2.1, S.2.2)) n with | some (v, h') => ex X (d + 1) 29 95 [.ref x0, .int x1] (v.toList ++ []) h' n | none => none) else none := rfl
theorem B_29_11 {X : Nat × (Nat → Int32)} {d : Nat} (n : Nat) (x0 : Nat) (x1 : Int32) (S : St) : ex X d 29 96 [.ref x0, .int x1] [] (hh (xa_u S.1 x0 2 0, S.2.1, S.2.2)) (n + 2) = if (kd x0).1 = 10 + 2 then ex X d 29 100 [.ref x0, .int x1] [.int ((xa_u S.1 x0 2 0) x0 8)] (hh (xa_u S.1 x0 2 0, S.2.1, S.2.2)) n else none := rfl
theorem B_29_12 {X : Nat × (Nat → Int32)} {d : Nat} (n : Nat) (x0 : Nat) (x1 : Int32) (S : St) : ex X d 29 100 [.ref x0, .int x1] [.int ((xa_u S.1 x0 2 0) x0 8)] (hh (xa_u S.1 x0 2 0, S.2.1, S.2.2)) (n + 2) = if 2 ≤ ((xa_u S.1 x0 2 0) x0 8) then ex X d 29 112 [.ref x0, .int x1] [] (hh (xa_u S.1 x0 2 0, S.2.1, S.2.2)) n else ex X d 29 104 [.ref x0, .int x1] [] (hh (xa_u S.1 x0 2 0, S.2.1, S.2.2)) n := rfl
theorem B_29_13 {X : Nat × (Nat → Int32)} {d : Nat} (n : Nat) (x0 : Nat) (x1 : Int32) (S : St) : ex X (d + 1) 29 112 [.ref x0, .int x1] [] (hh (xa_u S.1 x0 2 0, S.2.1, S.2.2)) (n + 3) = if (xm_o 35 = 200 ∧ 2000 ≤ x0 ∧ x0 < 2000 + xS_n) ∨ (xm_o 35 ≠ 200 ∧ (kd x0).1 = 10 + xm_o 35) then (match ex X d 35 0 [.ref x0, .int x1] [] (hh (xa_u S.1 x0 2 0, S.2.1, S.2.2)) n with | some (v, h') => ex X (d + 1) 29 117 [.ref x0, .int x1] (v.toList ++ []) h' n | none => none) else none := rfl
theorem B_29_14 {X : Nat × (Nat → Int32)} {d : Nat} (n : Nat) (x0 : Nat) (x1 : Int32) (S : St) : ex X d 29 100 [.ref x0, .int x1] [.int ((xa_u S.1 x0 2 0) x0 8)] (hh (xa_u S.1 x0 2 0, S.2.1, S.2.2)) (n + 2) = if 2 ≤ ((xa_u S.1 x0 2 0) x0 8) then ex X d 29 112 [.ref x0, .int x1] [] (hh (xa_u S.1 x0 2 0, S.2.1, S.2.2)) n else ex X d 29 104 [.ref x0, .int x1] [] (hh (xa_u S.1 x0 2 0, S.2.1, S.2.2)) n := rfl
theorem B_29_15 {X : Nat × (Nat → Int32)} {d : Nat} (n : Nat) (x0 : Nat) (x1 : Int32) (S : St) : ex X (d + 1) 29 104 [.ref x0, .int x1] [] (hh (xa_u S.1 x0 2 0, S.2.1, S.2.2)) (n + 3) = if (xm_o 33 = 200 ∧ 2000 ≤ x0 ∧ x0 < 2000 + xS_n) ∨ (xm_o 33 ≠ 200 ∧ (kd x0).1 = 10 + xm_o 33) then (match ex X d 33 0 [.ref x0, .int x1] [] (hh (xa_u S.1 x0 2 0, S.2.1, S.2.2)) n with | some (v, h') => ex X (d + 1) 29 109 [.ref x0, .int x1] (v.toList ++ []) h' n | none => none) else none := rfl
theorem B_29_16 {X : Nat × (Nat → Int32)} {d : Nat} (n : Nat) (x0 : Nat) (x1 : Int32) (S : St) : ex X (d + 1) 29 90 [.ref x0, .int x1] [] (hh (xa_u S.1 x0 2 0, S.2.1, S.2.2)) (n + 3) = if (xm_o 33 = 200 ∧ 2000 ≤ x0 ∧ x0 < 2000 + xS_n) ∨ (xm_o 33 ≠ 200 ∧ (kd x0).1 = 10 + xm_o 33) then (match ex X d 33 0 [.ref x0, .int x1] [] (hh (xa_u S.1 x0 2 0, S.2.1, S.2.2)) n with | some (v, h') => ex X (d + 1) 29 95 [.ref x0, .int x1] (v.toList ++ []) h' n | none => none) else none := rfl
theorem B_29_17 {X : Nat × (Nat → Int32)} {d : Nat} (n : Nat) (x0 : Nat) (x1 : Int32) (S : St) : ex X d 29 17 [.ref x0, .int x1] [] (hh (xa_u S.1 x0 2 0, S.2.1, S.2.2)) (n + 3) = if x1 < 240 then ex X d 29 37 [.ref x0, .int x1] [] (hh (xa_u S.1 x0 2 0, S.2.1, S.2.2)) n else ex X d 29 24 [.ref x0, .int x1] [] (hh (xa_u S.1 x0 2 0, S.2.1, S.2.2)) n := rfl
theorem B_29_18 {X : Nat × (Nat → Int32)} {d : Nat} (n : Nat) (x0 : Nat) (x1 : Int32) (S : St) : ex X (d + 1) 29 24 [.ref x0, .int x1] [] (hh (xa_u S.1 x0 2 0, S.2.1, S.2.2)) (n + 2) = if (xm_o 30 = 200 ∧ 2000 ≤ x0 ∧ x0 < 2000 + xS_n) ∨ (xm_o 30 ≠ 200 ∧ (kd x0).1 = 10 + xm_o 30) then (match ex X d 30 0 [.ref x0] [] (hh (xa_u S.1 x0 2 0, S.2.1, S.2.2)) n with | some (v, h') => ex X (d + 1) 29 28 [.ref x0, .int x1] (v.toList ++ []) h' n | none => none) else none := rfl
theorem B_29_19 {X : Nat × (Nat → Int32)} {d : Nat} (n : Nat) (x0 : Nat) (x1 : Int32) (v22 : Int32) (S22 : St) : ex X d 29 28 [.ref x0, .int x1] [.int v22] (hh S22) (n + 1) = if v22 = 0 then ex X d 29 37 [.ref x0, .int x1] [] (hh S22) n else ex X d 29 31 [.ref x0, .int x1] [] (hh S22) n := rfl
theorem B_29_20 {X : Nat × (Nat → Int32)} {d : Nat} (n : Nat) (x0 : Nat) (x1 : Int32) (S22 : St) : ex X d 29 37 [.ref x0, .int x1] [] (hh S22) (n + 2) = if (kd x0).1 = 10 + 2 then ex X d 29 41 [.ref x0, .int x1] [.int (S22.1 x0 0)] (hh S22) n else none := rfl
theorem B_29_21 {X : Nat × (Nat → Int32)} {d : Nat} (n : Nat) (x0 : Nat) (x1 : Int32) (S22 : St) : ex X d 29 41 [.ref x0, .int x1] [.int (S22.1 x0 0)] (hh S22) (n + 1) = xa_sw [(240, 84), (242, 84), (244, 90), (245, 96), (246, 90)] (S22.1 x0 0) 118 (fun t => ex X d 29 t [.ref x0, .int x1] [] (hh S22) n) := rfl
theorem B_29_22 {X : Nat × (Nat → Int32)} {d : Nat} (n : Nat) (x0 : Nat) (x1 : Int32) (S22 : St) : ex X (d + 1) 29 84 [.ref x0, .int x1] [] (hh S22) (n + 3) = if (xm_o 32 = 200 ∧ 2000 ≤ x0 ∧ x0 < 2000 + xS_n) ∨ (xm_o 32 ≠ 200 ∧ (kd x0).1 = 10 + xm_o 32) then (match ex X d 32 0 [.ref x0, .int x1] [] (hh S22) n with | some (v, h') => ex X (d + 1) 29 89 [.ref x0, .int x1] (v.toList ++ []) h' n | none => none) else none := rfl
theorem B_29_23 {X : Nat × (Nat → Int32)} {d : Nat} (n : Nat) (x0 : Nat) (x1 : Int32) (S22 : St) : ex X (d + 1) 29 84 [.ref x0, .int x1] [] (hh S22) (n + 3) = if (xm_o 32 = 200 ∧ 2000 ≤ x0 ∧ x0 < 2000 + xS_n) ∨ (xm_o 32 ≠ 200 ∧ (kd x0).1 = 10 + xm_o 32) then (match ex X d 32 0 [.ref x0, .int x1] [] (hh S22) n with | some (v, h') => ex X (d + 1) 29 89 [.ref x0, .int x1] (v.toList ++ []) h' n | none => none) else none := rfl
theorem B_29_24 {X : Nat × (Nat → Int32)} {d : Nat} (n : Nat) (x0 : Nat) (x1 : Int32) (S22 : St) : ex X (d + 1) 29 90 [.ref x0, .int x1] [] (hh S22) (n + 3) = if (xm_o 33 = 200 ∧ 2000 ≤ x0 ∧ x0 < 2000 + xS_n) ∨ (xm_o 33 ≠ 200 ∧ (kd x0).1 = 10 + xm_o 33) then (match ex X d 33 0 [.ref x0, .int x1] [] (hh S22) n with | some (v, h') => ex X (d + 1) 29 95 [.ref x0, .int x1] (v.toList ++ []) h' n | none => none) else none := rfl
theorem B_29_25 {X : Nat × (Nat → Int32)} {d : Nat} (n : Nat) (x0 : Nat) (x1 : Int32) (S22 : St) : ex X d 29 96 [.ref x0, .int x1] [] (hh S22) (n + 2) = if (kd x0).1 = 10 + 2 then ex X d 29 100 [.ref x0, .int x1] [.int (S22.1 x0 8)] (hh S22) n else none := rfl
theorem B_29_26 {X : Nat × (Nat → Int32)} {d : Nat} (n : Nat) (x0 : Nat) (x1 : Int32) (S22 : St) : ex X d 29 100 [.ref x0, .int x1] [.int (S22.1 x0 8)] (hh S22) (n + 2) = if 2 ≤ (S22.1 x0 8) then ex X d 29 112 [.ref x0, .int x1] [] (hh S22) n else ex X d 29 104 [.ref x0, .int x1] [] (hh S22) n := rfl
theorem B_29_27 {X : Nat × (Nat → Int32)} {d : Nat} (n : Nat) (x0 : Nat) (x1 : Int32) (S22 : St) : ex X (d + 1) 29 112 [.ref x0, .int x1] [] (hh S22) (n + 3) = if (xm_o 35 = 200 ∧ 2000 ≤ x0 ∧ x0 < 2000 + xS_n) ∨ (xm_o 35 ≠ 200 ∧ (kd x0).1 = 10 + xm_o 35) then (match ex X d 35 0 [.ref x0, .int x1] [] (hh S22) n with | some (v, h') => ex X (d + 1) 29 117 [.ref x0, .int x1] (v.toList ++ []) h' n | none => none) else none := rfl
theorem B_29_28 {X : Nat × (Nat → Int32)} {d : Nat} (n : Nat) (x0 : Nat) (x1 : Int32) (S22 : St) : ex X d 29 100 [.ref x0, .int x1] [.int (S22.1 x0 8)] (hh S22) (n + 2) = if 2 ≤ (S22.1 x0 8) then ex X d 29 112 [.ref x0, .int x1] [] (hh S22) n else ex X d 29 104 [.ref x0, .int x1] [] (hh S22) n := rfl
theorem B_29_29 {X : Nat × (Nat → Int32)} {d : Nat} (n : Nat) (x0 : Nat) (x1 : Int32) (S22 : St) : ex X (d + 1) 29 104 [.ref x0, .int x1] [] (hh S22) (n + 3) = if (xm_o 33 = 200 ∧ 2000 ≤ x0 ∧ x0 < 2000 + xS_n) ∨ (xm_o 33 ≠ 200 ∧ (kd x0).1 = 10 + xm_o 33) then (match ex X d 33 0 [.ref x0, .int x1] [] (hh S22) n with | some (v, h') => ex X (d + 1) 29 109 [.ref x0, .int x1] (v.toList ++ []) h' n | none => none) else none := rfl
theorem B_29_30 {X : Nat × (Nat → Int32)} {d : Nat} (n : Nat) (x0 : Nat) (x1 : Int32) (S22 : St) : ex X (d + 1) 29 90 [.ref x0, .int x1] [] (hh S22) (n + 3) = if (xm_o 33 = 200 ∧ 2000 ≤ x0 ∧ x0 < 2000 + xS_n) ∨ (xm_o 33 ≠ 200 ∧ (kd x0).1 = 10 + xm_o 33) then (match ex X d 33 0 [.ref x0, .int x1] [] (hh S22) n with | some (v, h') => ex X (d + 1) 29 95 [.ref x0, .int x1] (v.toList ++ []) h' n | none => none) else none := rfl
theorem B_29_31 {X : Nat × (Nat → Int32)} {d : Nat} (n : Nat) (x0 : Nat) (x1 : Int32) (v22 : Int32) (S22 : St) : ex X d 29 28 [.ref x0, .int x1] [.int v22] (hh S22) (n + 1) = if v22 = 0 then ex X d 29 37 [.ref x0, .int x1] [] (hh S22) n else ex X d 29 31 [.ref x0, .int x1] [] (hh S22) n := rfl
theorem B_29_32 {X : Nat × (Nat → Int32)} {d : Nat} (n : Nat) (x0 : Nat) (x1 : Int32) (S22 : St) : ex X (d + 1) 29 31 [.ref x0, .int x1] [] (hh S22) (n + 3) = if (xm_o 31 = 200 ∧ 2000 ≤ x0 ∧ x0 < 2000 + xS_n) ∨ (xm_o 31 ≠ 200 ∧ (kd x0).1 = 10 + xm_o 31) then (match ex X d 31 0 [.ref x0, .int x1] [] (hh S22) n with | some (v, h') => ex X (d + 1) 29 36 [.ref x0, .int x1] (v.toList ++ []) h' n | none => none) else none := rfl
set_option maxRecDepth 200000 in
theorem T_29 {X : Nat × (Nat → Int32)} (S : St) (x0 : Nat) (x1 : Int32) (r : Int32) (S' : St) (hG : G_29 S x0 x1 = some (r, S')) : Ev X 3 29 0 [.ref x0, .int x1] [] (hh S) (xI r, hh S') := by
  unfold G_29 at hG
  by_cases g1 : (kd x0).1 = 10 + 2
  rotate_left
  · rw [if_neg g1] at hG; cases hG
  rw [if_pos g1] at hG
  refine Ev.g (c := (kd x0).1 = 10 + 2 ∧ (xf_k 2 2 = 0 ∨ (xf_k 2 2 = 1 ∧ ((0 : Int32) = 0 ∨ (0 : Int32) = 1)))) (p1 := 5) (L1 := [.ref x0, .int x1]) (s1 := []) (h1 := hh (xa_u S.1 x0 2 0, S.2.1, S.2.2)) 3 (fun n => B_29_1 n x0 x1 S) (⟨g1, Or.inr ⟨rfl, by decide⟩⟩) ?_
  refine Ev.g (c := (kd x0).1 = 10 + 2) (p1 := 9) (L1 := [.ref x0, .int x1]) (s1 := [.int ((xa_u S.1 x0 2 0) x0 0)]) (h1 := hh (xa_u S.1 x0 2 0, S.2.1, S.2.2)) 2 (fun n => B_29_2 n x0 x1 S) g1 ?_
  by_cases c2 : ((xa_u S.1 x0 2 0) x0 0) = 255
  · rw [if_pos c2] at hG
    refine Ev.t (c := ((xa_u S.1 x0 2 0) x0 0) = 255) (p1 := 15) (L1 := [.ref x0, .int x1]) (s1 := []) (h1 := hh (xa_u S.1 x0 2 0, S.2.1, S.2.2)) (p2 := 17) (L2 := [.ref x0, .int x1]) (s2 := []) (h2 := hh (xa_u S.1 x0 2 0, S.2.1, S.2.2)) 2 (fun n => B_29_3 n x0 x1 S) c2 ?_
    obtain ⟨e1, e2⟩ := Prod.mk.inj (Option.some.inj hG)
    subst e1
    subst e2
    exact Ev.rg (c := (xm_z 29 = 0 ∨ (xm_z 29 = 1 ∧ ((0 : Int32) = 0 ∨ (0 : Int32) = 1)) ∨ (xm_z 29 = 2 ∧ ((0 : Int32)).toInt8.toInt32 = (0 : Int32)) ∨ (xm_z 29 = 3 ∧ ((0 : Int32)).toUInt32.toUInt16.toUInt32.toInt32 = (0 : Int32)))) 2 (fun n => rfl) (Or.inr (Or.inl ⟨rfl, by decide⟩))
  · rw [if_neg c2] at hG
    refine Ev.f (c := ((xa_u S.1 x0 2 0) x0 0) = 255) (p1 := 15) (L1 := [.ref x0, .int x1]) (s1 := []) (h1 := hh (xa_u S.1 x0 2 0, S.2.1, S.2.2)) (p2 := 17) (L2 := [.ref x0, .int x1]) (s2 := []) (h2 := hh (xa_u S.1 x0 2 0, S.2.1, S.2.2)) 2 (fun n => B_29_4 n x0 x1 S) c2 ?_
    by_cases c3 : x1 < 240
    · rw [if_pos c3] at hG
      refine Ev.t (c := x1 < 240) (p1 := 37) (L1 := [.ref x0, .int x1]) (s1 := []) (h1 := hh (xa_u S.1 x0 2 0, S.2.1, S.2.2)) (p2 := 24) (L2 := [.ref x0, .int x1]) (s2 := []) (h2 := hh (xa_u S.1 x0 2 0, S.2.1, S.2.2)) 3 (fun n => B_29_5 n x0 x1 S) c3 ?_
      refine Ev.g (c := (kd x0).1 = 10 + 2) (p1 := 41) (L1 := [.ref x0, .int x1]) (s1 := [.int ((xa_u S.1 x0 2 0) x0 0)]) (h1 := hh (xa_u S.1 x0 2 0, S.2.1, S.2.2)) 2 (fun n => B_29_6 n x0 x1 S) g1 ?_
      refine Ev.sw (ks := [(240, 84), (242, 84), (244, 90), (245, 96), (246, 90)]) (x := ((xa_u S.1 x0 2 0) x0 0)) (df := 118) (L1 := [.ref x0, .int x1]) (s1 := []) (h1 := hh (xa_u S.1 x0 2 0, S.2.1, S.2.2)) 1 (fun n => B_29_7 n x0 x1 S) ?_
      by_cases c4 : ((xa_u S.1 x0 2 0) x0 0) = 240
      · rw [if_pos c4] at hG
        rw [xa_sw, if_pos c4]
        show Ev X _ 29 84 [.ref x0, .int x1] [] (hh (xa_u S.1 x0 2 0, S.2.1, S.2.2)) _
        rcases h5 : G_32 (xa_u S.1 x0 2 0, S.2.1, S.2.2) x0 x1 with _ | ⟨v5, S5⟩
        · rw [h5] at hG; cases hG
        rw [h5] at hG
        dsimp only at hG
        refine Ev.cg (c := (xm_o 32 = 200 ∧ 2000 ≤ x0 ∧ x0 < 2000 + xS_n) ∨ (xm_o 32 ≠ 200 ∧ (kd x0).1 = 10 + xm_o 32)) (a := 32) (A := [.ref x0, .int x1]) (h1 := hh (xa_u S.1 x0 2 0, S.2.1, S.2.2)) (pc' := 89) (L' := [.ref x0, .int x1]) (rest := []) (r1 := some (.int v5)) (h2 := hh S5) 3 (fun n => B_29_8 n x0 x1 S) (Or.inr ⟨by decide, g1⟩) (Ev.up (by decide) (T_32 (xa_u S.1 x0 2 0, S.2.1, S.2.2) x0 x1 _ _ h5)) ?_
        show Ev X _ 29 89 [.ref x0, .int x1] [.int v5] (hh S5) _
        by_cases g6 : (v5 = 0 ∨ v5 = 1)
        rotate_left
        · rw [if_neg g6] at hG; cases hG
        rw [if_pos g6] at hG
        obtain ⟨e1, e2⟩ := Prod.mk.inj (Option.some.inj hG)
        subst e1
        subst e2
        exact Ev.rg (c := (xm_z 29 = 0 ∨ (xm_z 29 = 1 ∧ (v5 = 0 ∨ v5 = 1)) ∨ (xm_z 29 = 2 ∧ (v5).toInt8.toInt32 = v5) ∨ (xm_z 29 = 3 ∧ (v5).toUInt32.toUInt16.toUInt32.toInt32 = v5))) 1 (fun n => rfl) (Or.inr (Or.inl ⟨rfl, g6⟩))
      rw [if_neg c4] at hG
      rw [xa_sw, if_neg c4]
      by_cases c7 : ((xa_u S.1 x0 2 0) x0 0) = 242
      · rw [if_pos c7] at hG
        rw [xa_sw, if_pos c7]
        show Ev X _ 29 84 [.ref x0, .int x1] [] (hh (xa_u S.1 x0 2 0, S.2.1, S.2.2)) _
        rcases h8 : G_32 (xa_u S.1 x0 2 0, S.2.1, S.2.2) x0 x1 with _ | ⟨v8, S8⟩
        · rw [h8] at hG; cases hG
        rw [h8] at hG
        dsimp only at hG
        refine Ev.cg (c := (xm_o 32 = 200 ∧ 2000 ≤ x0 ∧ x0 < 2000 + xS_n) ∨ (xm_o 32 ≠ 200 ∧ (kd x0).1 = 10 + xm_o 32)) (a := 32) (A := [.ref x0, .int x1]) (h1 := hh (xa_u S.1 x0 2 0, S.2.1, S.2.2)) (pc' := 89) (L' := [.ref x0, .int x1]) (rest := []) (r1 := some (.int v8)) (h2 := hh S8) 3 (fun n => B_29_9 n x0 x1 S) (Or.inr ⟨by decide, g1⟩) (Ev.up (by decide) (T_32 (xa_u S.1 x0 2 0, S.2.1, S.2.2) x0 x1 _ _ h8)) ?_
        show Ev X _ 29 89 [.ref x0, .int x1] [.int v8] (hh S8) _
        by_cases g9 : (v8 = 0 ∨ v8 = 1)
        rotate_left
        · rw [if_neg g9] at hG; cases hG
        rw [if_pos g9] at hG
        obtain ⟨e1, e2⟩ := Prod.mk.inj (Option.some.inj hG)
        subst e1
        subst e2
        exact Ev.rg (c := (xm_z 29 = 0 ∨ (xm_z 29 = 1 ∧ (v8 = 0 ∨ v8 = 1)) ∨ (xm_z 29 = 2 ∧ (v8).toInt8.toInt32 = v8) ∨ (xm_z 29 = 3 ∧ (v8).toUInt32.toUInt16.toUInt32.toInt32 = v8))) 1 (fun n => rfl) (Or.inr (Or.inl ⟨rfl, g9⟩))
      rw [if_neg c7] at hG
      rw [xa_sw, if_neg c7]
      by_cases c10 : ((xa_u S.1 x0 2 0) x0 0) = 244
      · rw [if_pos c10] at hG
        rw [xa_sw, if_pos c10]
        show Ev X _ 29 90 [.ref x0, .int x1] [] (hh (xa_u S.1 x0 2 0, S.2.1, S.2.2)) _
        rcases h11 : G_33 (xa_u S.1 x0 2 0, S.2.1, S.2.2) x0 x1 with _ | ⟨v11, S11⟩
        · rw [h11] at hG; cases hG
        rw [h11] at hG
        dsimp only at hG
        refine Ev.cg (c := (xm_o 33 = 200 ∧ 2000 ≤ x0 ∧ x0 < 2000 + xS_n) ∨ (xm_o 33 ≠ 200 ∧ (kd x0).1 = 10 + xm_o 33)) (a := 33) (A := [.ref x0, .int x1]) (h1 := hh (xa_u S.1 x0 2 0, S.2.1, S.2.2)) (pc' := 95) (L' := [.ref x0, .int x1]) (rest := []) (r1 := some (.int v11)) (h2 := hh S11) 3 (fun n => B_29_10 n x0 x1 S) (Or.inr ⟨by decide, g1⟩) (Ev.up (by decide) (T_33 (xa_u S.1 x0 2 0, S.2.1, S.2.2) x0 x1 _ _ h11)) ?_
        show Ev X _ 29 95 [.ref x0, .int x1] [.int v11] (hh S11) _
        by_cases g12 : (v11 = 0 ∨ v11 = 1)
        rotate_left
        · rw [if_neg g12] at hG; cases hG
        rw [if_pos g12] at hG
        obtain ⟨e1, e2⟩ := Prod.mk.inj (Option.some.inj hG)
        subst e1
        subst e2
        exact Ev.rg (c := (xm_z 29 = 0 ∨ (xm_z 29 = 1 ∧ (v11 = 0 ∨ v11 = 1)) ∨ (xm_z 29 = 2 ∧ (v11).toInt8.toInt32 = v11) ∨ (xm_z 29 = 3 ∧ (v11).toUInt32.toUInt16.toUInt32.toInt32 = v11))) 1 (fun n => rfl) (Or.inr (Or.inl ⟨rfl, g12⟩))
      rw [if_neg c10] at hG
      rw [xa_sw, if_neg c10]
      by_cases c13 : ((xa_u S.1 x0 2 0) x0 0) = 245
      · rw [if_pos c13] at hG
        rw [xa_sw, if_pos c13]
        show Ev X _ 29 96 [.ref x0, .int x1] [] (hh (xa_u S.1 x0 2 0, S.2.1, S.2.2)) _
        refine Ev.g (c := (kd x0).1 = 10 + 2) (p1 := 100) (L1 := [.ref x0, .int x1]) (s1 := [.int ((xa_u S.1 x0 2 0) x0 8)]) (h1 := hh (xa_u S.1 x0 2 0, S.2.1, S.2.2)) 2 (fun n => B_29_11 n x0 x1 S) g1 ?_
        by_cases c14 : 2 ≤ ((xa_u S.1 x0 2 0) x0 8)
        · rw [if_pos c14] at hG
          refine Ev.t (c := 2 ≤ ((xa_u S.1 x0 2 0) x0 8)) (p1 := 112) (L1 := [.ref x0, .int x1]) (s1 := []) (h1 := hh (xa_u S.1 x0 2 0, S.2.1, S.2.2)) (p2 := 104) (L2 := [.ref x0, .int x1]) (s2 := []) (h2 := hh (xa_u S.1 x0 2 0, S.2.1, S.2.2)) 2 (fun n => B_29_12 n x0 x1 S) c14 ?_
          rcases h15 : G_35 (xa_u S.1 x0 2 0, S.2.1, S.2.2) x0 x1 with _ | ⟨v15, S15⟩
          · rw [h15] at hG; cases hG
          rw [h15] at hG
          dsimp only at hG
          refine Ev.cg (c := (xm_o 35 = 200 ∧ 2000 ≤ x0 ∧ x0 < 2000 + xS_n) ∨ (xm_o 35 ≠ 200 ∧ (kd x0).1 = 10 + xm_o 35)) (a := 35) (A := [.ref x0, .int x1]) (h1 := hh (xa_u S.1 x0 2 0, S.2.1, S.2.2)) (pc' := 117) (L' := [.ref x0, .int x1]) (rest := []) (r1 := some (.int v15)) (h2 := hh S15) 3 (fun n => B_29_13 n x0 x1 S) (Or.inr ⟨by decide, g1⟩) (Ev.up (by decide) (T_35 (xa_u S.1 x0 2 0, S.2.1, S.2.2) x0 x1 _ _ h15)) ?_
          show Ev X _ 29 117 [.ref x0, .int x1] [.int v15] (hh S15) _
          by_cases g16 : (v15 = 0 ∨ v15 = 1)
          rotate_left
          · rw [if_neg g16] at hG; cases hG
          rw [if_pos g16] at hG
          obtain ⟨e1, e2⟩ := Prod.mk.inj (Option.some.inj hG)
          subst e1
          subst e2
          exact Ev.rg (c := (xm_z 29 = 0 ∨ (xm_z 29 = 1 ∧ (v15 = 0 ∨ v15 = 1)) ∨ (xm_z 29 = 2 ∧ (v15).toInt8.toInt32 = v15) ∨ (xm_z 29 = 3 ∧ (v15).toUInt32.toUInt16.toUInt32.toInt32 = v15))) 1 (fun n => rfl) (Or.inr (Or.inl ⟨rfl, g16⟩))
        · rw [if_neg c14] at hG
          refine Ev.f (c := 2 ≤ ((xa_u S.1 x0 2 0) x0 8)) (p1 := 112) (L1 := [.ref x0, .int x1]) (s1 := []) (h1 := hh (xa_u S.1 x0 2 0, S.2.1, S.2.2)) (p2 := 104) (L2 := [.ref x0, .int x1]) (s2 := []) (h2 := hh (xa_u S.1 x0 2 0, S.2.1, S.2.2)) 2 (fun n => B_29_14 n x0 x1 S) c14 ?_
          rcases h17 : G_33 (xa_u S.1 x0 2 0, S.2.1, S.2.2) x0 x1 with _ | ⟨v17, S17⟩
          · rw [h17] at hG; cases hG
          rw [h17] at hG
          dsimp only at hG
          refine Ev.cg (c := (xm_o 33 = 200 ∧ 2000 ≤ x0 ∧ x0 < 2000 + xS_n) ∨ (xm_o 33 ≠ 200 ∧ (kd x0).1 = 10 + xm_o 33)) (a := 33) (A := [.ref x0, .int x1]) (h1 := hh (xa_u S.1 x0 2 0, S.2.1, S.2.2)) (pc' := 109) (L' := [.ref x0, .int x1]) (rest := []) (r1 := some (.int v17)) (h2 := hh S17) 3 (fun n => B_29_15 n x0 x1 S) (Or.inr ⟨by decide, g1⟩) (Ev.up (by decide) (T_33 (xa_u S.1 x0 2 0, S.2.1, S.2.2) x0 x1 _ _ h17)) ?_
          show Ev X _ 29 109 [.ref x0, .int x1] [.int v17] (hh S17) _
          by_cases g18 : (v17 = 0 ∨ v17 = 1)
          rotate_left
          · rw [if_neg g18] at hG; cases hG
          rw [if_pos g18] at hG
          obtain ⟨e1, e2⟩ := Prod.mk.inj (Option.some.inj hG)
          subst e1
          subst e2
          exact Ev.rg (c := (xm_z 29 = 0 ∨ (xm_z 29 = 1 ∧ (v17 = 0 ∨ v17 = 1)) ∨ (xm_z 29 = 2 ∧ (v17).toInt8.toInt32 = v17) ∨ (xm_z 29 = 3 ∧ (v17).toUInt32.toUInt16.toUInt32.toInt32 = v17))) 2 (fun n => rfl) (Or.inr (Or.inl ⟨rfl, g18⟩))
      rw [if_neg c13] at hG
      rw [xa_sw, if_neg c13]
      by_cases c19 : ((xa_u S.1 x0 2 0) x0 0) = 246
      · rw [if_pos c19] at hG
        rw [xa_sw, if_pos c19]
        show Ev X _ 29 90 [.ref x0, .int x1] [] (hh (xa_u S.1 x0 2 0, S.2.1, S.2.2)) _
        rcases h20 : G_33 (xa_u S.1 x0 2 0, S.2.1, S.2.2) x0 x1 with _ | ⟨v20, S20⟩
        · rw [h20] at hG; cases hG
        rw [h20] at hG
        dsimp only at hG
        refine Ev.cg (c := (xm_o 33 = 200 ∧ 2000 ≤ x0 ∧ x0 < 2000 + xS_n) ∨ (xm_o 33 ≠ 200 ∧ (kd x0).1 = 10 + xm_o 33)) (a := 33) (A := [.ref x0, .int x1]) (h1 := hh (xa_u S.1 x0 2 0, S.2.1, S.2.2)) (pc' := 95) (L' := [.ref x0, .int x1]) (rest := []) (r1 := some (.int v20)) (h2 := hh S20) 3 (fun n => B_29_16 n x0 x1 S) (Or.inr ⟨by decide, g1⟩) (Ev.up (by decide) (T_33 (xa_u S.1 x0 2 0, S.2.1, S.2.2) x0 x1 _ _ h20)) ?_
        show Ev X _ 29 95 [.ref x0, .int x1] [.int v20] (hh S20) _
        by_cases g21 : (v20 = 0 ∨ v20 = 1)
        rotate_left
        · rw [if_neg g21] at hG; cases hG
        rw [if_pos g21] at hG
        obtain ⟨e1, e2⟩ := Prod.mk.inj (Option.some.inj hG)
        subst e1
        subst e2
        exact Ev.rg (c := (xm_z 29 = 0 ∨ (xm_z 29 = 1 ∧ (v20 = 0 ∨ v20 = 1)) ∨ (xm_z 29 = 2 ∧ (v20).toInt8.toInt32 = v20) ∨ (xm_z 29 = 3 ∧ (v20).toUInt32.toUInt16.toUInt32.toInt32 = v20))) 1 (fun n => rfl) (Or.inr (Or.inl ⟨rfl, g21⟩))
      rw [if_neg c19] at hG
      rw [xa_sw, if_neg c19]
      rw [xa_sw]
      show Ev X _ 29 118 [.ref x0, .int x1] [] (hh (xa_u S.1 x0 2 0, S.2.1, S.2.2)) _
      obtain ⟨e1, e2⟩ := Prod.mk.inj (Option.some.inj hG)
      subst e1
      subst e2
      exact Ev.rg (c := (xm_z 29 = 0 ∨ (xm_z 29 = 1 ∧ ((0 : Int32) = 0 ∨ (0 : Int32) = 1)) ∨ (xm_z 29 = 2 ∧ ((0 : Int32)).toInt8.toInt32 = (0 : Int32)) ∨ (xm_z 29 = 3 ∧ ((0 : Int32)).toUInt32.toUInt16.toUInt32.toInt32 = (0 : Int32)))) 2 (fun n => rfl) (Or.inr (Or.inl ⟨rfl, by decide⟩))
    · rw [if_neg c3] at hG
      refine Ev.f (c := x1 < 240) (p1 := 37) (L1 := [.ref x0, .int x1]) (s1 := []) (h1 := hh (xa_u S.1 x0 2 0, S.2.1, S.2.2)) (p2 := 24) (L2 := [.ref x0, .int x1]) (s2 := []) (h2 := hh (xa_u S.1 x0 2 0, S.2.1, S.2.2)) 3 (fun n => B_29_17 n x0 x1 S) c3 ?_
      rcases h22 : G_30 (xa_u S.1 x0 2 0, S.2.1, S.2.2) x0 with _ | ⟨v22, S22⟩
      · rw [h22] at hG; cases hG
      rw [h22] at hG
      dsimp only at hG
      refine Ev.cg (c := (xm_o 30 = 200 ∧ 2000 ≤ x0 ∧ x0 < 2000 + xS_n) ∨ (xm_o 30 ≠ 200 ∧ (kd x0).1 = 10 + xm_o 30)) (a := 30) (A := [.ref x0]) (h1 := hh (xa_u S.1 x0 2 0, S.2.1, S.2.2)) (pc' := 28) (L' := [.ref x0, .int x1]) (rest := []) (r1 := some (.int v22)) (h2 := hh S22) 2 (fun n => B_29_18 n x0 x1 S) (Or.inr ⟨by decide, g1⟩) (Ev.up (by decide) (T_30 (xa_u S.1 x0 2 0, S.2.1, S.2.2) x0 _ _ h22)) ?_
      show Ev X _ 29 28 [.ref x0, .int x1] [.int v22] (hh S22) _
      by_cases c23 : v22 = 0
      · rw [if_pos c23] at hG
        refine Ev.t (c := v22 = 0) (p1 := 37) (L1 := [.ref x0, .int x1]) (s1 := []) (h1 := hh S22) (p2 := 31) (L2 := [.ref x0, .int x1]) (s2 := []) (h2 := hh S22) 1 (fun n => B_29_19 n x0 x1 v22 S22) c23 ?_
        refine Ev.g (c := (kd x0).1 = 10 + 2) (p1 := 41) (L1 := [.ref x0, .int x1]) (s1 := [.int (S22.1 x0 0)]) (h1 := hh S22) 2 (fun n => B_29_20 n x0 x1 S22) g1 ?_
        refine Ev.sw (ks := [(240, 84), (242, 84), (244, 90), (245, 96), (246, 90)]) (x := (S22.1 x0 0)) (df := 118) (L1 := [.ref x0, .int x1]) (s1 := []) (h1 := hh S22) 1 (fun n => B_29_21 n x0 x1 S22) ?_
        by_cases c24 : (S22.1 x0 0) = 240
        · rw [if_pos c24] at hG
          rw [xa_sw, if_pos c24]
          show Ev X _ 29 84 [.ref x0, .int x1] [] (hh S22) _
          rcases h25 : G_32 S22 x0 x1 with _ | ⟨v25, S25⟩
          · rw [h25] at hG; cases hG
          rw [h25] at hG
          dsimp only at hG
          refine Ev.cg (c := (xm_o 32 = 200 ∧ 2000 ≤ x0 ∧ x0 < 2000 + xS_n) ∨ (xm_o 32 ≠ 200 ∧ (kd x0).1 = 10 + xm_o 32)) (a := 32) (A := [.ref x0, .int x1]) (h1 := hh S22) (pc' := 89) (L' := [.ref x0, .int x1]) (rest := []) (r1 := some (.int v25)) (h2 := hh S25) 3 (fun n => B_29_22 n x0 x1 S22) (Or.inr ⟨by decide, g1⟩) (Ev.up (by decide) (T_32 S22 x0 x1 _ _ h25)) ?_
          show Ev X _ 29 89 [.ref x0, .int x1] [.int v25] (hh S25) _
          by_cases g26 : (v25 = 0 ∨ v25 = 1)
          rotate_left
          · rw [if_neg g26] at hG; cases hG
          rw [if_pos g26] at hG
          obtain ⟨e1, e2⟩ := Prod.mk.inj (Option.some.inj hG)
          subst e1
          subst e2
          exact Ev.rg (c := (xm_z 29 = 0 ∨ (xm_z 29 = 1 ∧ (v25 = 0 ∨ v25 = 1)) ∨ (xm_z 29 = 2 ∧ (v25).toInt8.toInt32 = v25) ∨ (xm_z 29 = 3 ∧ (v25).toUInt32.toUInt16.toUInt32.toInt32 = v25))) 1 (fun n => rfl) (Or.inr (Or.inl ⟨rfl, g26⟩))
        rw [if_neg c24] at hG
        rw [xa_sw, if_neg c24]
        by_cases c27 : (S22.1 x0 0) = 242
        · rw [if_pos c27] at hG
          rw [xa_sw, if_pos c27]
          show Ev X _ 29 84 [.ref x0, .int x1] [] (hh S22) _
          rcases h28 : G_32 S22 x0 x1 with _ | ⟨v28, S28⟩
          · rw [h28] at hG; cases hG
          rw [h28] at hG
          dsimp only at hG
          refine Ev.cg (c := (xm_o 32 = 200 ∧ 2000 ≤ x0 ∧ x0 < 2000 + xS_n) ∨ (xm_o 32 ≠ 200 ∧ (kd x0).1 = 10 + xm_o 32)) (a := 32) (A := [.ref x0, .int x1]) (h1 := hh S22) (pc' := 89) (L' := [.ref x0, .int x1]) (rest := []) (r1 := some (.int v28)) (h2 := hh S28) 3 (fun n => B_29_23 n x0 x1 S22) (Or.inr ⟨by decide, g1⟩) (Ev.up (by decide) (T_32 S22 x0 x1 _ _ h28)) ?_
          show Ev X _ 29 89 [.ref x0, .int x1] [.int v28] (hh S28) _
          by_cases g29 : (v28 = 0 ∨ v28 = 1)
          rotate_left
          · rw [if_neg g29] at hG; cases hG
          rw [if_pos g29] at hG
          obtain ⟨e1, e2⟩ := Prod.mk.inj (Option.some.inj hG)
          subst e1
          subst e2
          exact Ev.rg (c := (xm_z 29 = 0 ∨ (xm_z 29 = 1 ∧ (v28 = 0 ∨ v28 = 1)) ∨ (xm_z 29 = 2 ∧ (v28).toInt8.toInt32 = v28) ∨ (xm_z 29 = 3 ∧ (v28).toUInt32.toUInt16.toUInt32.toInt32 = v28))) 1 (fun n => rfl) (Or.inr (Or.inl ⟨rfl, g29⟩))
        rw [if_neg c27] at hG
        rw [xa_sw, if_neg c27]
        by_cases c30 : (S22.1 x0 0) = 244
        · rw [if_pos c30] at hG
          rw [xa_sw, if_pos c30]
          show Ev X _ 29 90 [.ref x0, .int x1] [] (hh S22) _
          rcases h31 : G_33 S22 x0 x1 with _ | ⟨v31, S31⟩
          · rw [h31] at hG; cases hG
          rw [h31] at hG
          dsimp only at hG
          refine Ev.cg (c := (xm_o 33 = 200 ∧ 2000 ≤ x0 ∧ x0 < 2000 + xS_n) ∨ (xm_o 33 ≠ 200 ∧ (kd x0).1 = 10 + xm_o 33)) (a := 33) (A := [.ref x0, .int x1]) (h1 := hh S22) (pc' := 95) (L' := [.ref x0, .int x1]) (rest := []) (r1 := some (.int v31)) (h2 := hh S31) 3 (fun n => B_29_24 n x0 x1 S22) (Or.inr ⟨by decide, g1⟩) (Ev.up (by decide) (T_33 S22 x0 x1 _ _ h31)) ?_
          show Ev X _ 29 95 [.ref x0, .int x1] [.int v31] (hh S31) _
          by_cases g32 : (v31 = 0 ∨ v31 = 1)
          rotate_left
          · rw [if_neg g32] at hG; cases hG
          rw [if_pos g32] at hG
          obtain ⟨e1, e2⟩ := Prod.mk.inj (Option.some.inj hG)
          subst e1
          subst e2
          exact Ev.rg (c := (xm_z 29 = 0 ∨ (xm_z 29 = 1 ∧ (v31 = 0 ∨ v31 = 1)) ∨ (xm_z 29 = 2 ∧ (v31).toInt8.toInt32 = v31) ∨ (xm_z 29 = 3 ∧ (v31).toUInt32.toUInt16.toUInt32.toInt32 = v31))) 1 (fun n => rfl) (Or.inr (Or.inl ⟨rfl, g32⟩))
        rw [if_neg c30] at hG
        rw [xa_sw, if_neg c30]
        by_cases c33 : (S22.1 x0 0) = 245
        · rw [if_pos c33] at hG
          rw [xa_sw, if_pos c33]
          show Ev X _ 29 96 [.ref x0, .int x1] [] (hh S22) _
          refine Ev.g (c := (kd x0).1 = 10 + 2) (p1 := 100) (L1 := [.ref x0, .int x1]) (s1 := [.int (S22.1 x0 8)]) (h1 := hh S22) 2 (fun n => B_29_25 n x0 x1 S22) g1 ?_
          by_cases c34 : 2 ≤ (S22.1 x0 8)
          · rw [if_pos c34] at hG
            refine Ev.t (c := 2 ≤ (S22.1 x0 8)) (p1 := 112) (L1 := [.ref x0, .int x1]) (s1 := []) (h1 := hh S22) (p2 := 104) (L2 := [.ref x0, .int x1]) (s2 := []) (h2 := hh S22) 2 (fun n => B_29_26 n x0 x1 S22) c34 ?_
            rcases h35 : G_35 S22 x0 x1 with _ | ⟨v35, S35⟩
            · rw [h35] at hG; cases hG
            rw [h35] at hG
            dsimp only at hG
            refine Ev.cg (c := (xm_o 35 = 200 ∧ 2000 ≤ x0 ∧ x0 < 2000 + xS_n) ∨ (xm_o 35 ≠ 200 ∧ (kd x0).1 = 10 + xm_o 35)) (a := 35) (A := [.ref x0, .int x1]) (h1 := hh S22) (pc' := 117) (L' := [.ref x0, .int x1]) (rest := []) (r1 := some (.int v35)) (h2 := hh S35) 3 (fun n => B_29_27 n x0 x1 S22) (Or.inr ⟨by decide, g1⟩) (Ev.up (by decide) (T_35 S22 x0 x1 _ _ h35)) ?_
            show Ev X _ 29 117 [.ref x0, .int x1] [.int v35] (hh S35) _
            by_cases g36 : (v35 = 0 ∨ v35 = 1)
            rotate_left
            · rw [if_neg g36] at hG; cases hG
            rw [if_pos g36] at hG
            obtain ⟨e1, e2⟩ := Prod.mk.inj (Option.some.inj hG)
            subst e1
            subst e2
            exact Ev.rg (c := (xm_z 29 = 0 ∨ (xm_z 29 = 1 ∧ (v35 = 0 ∨ v35 = 1)) ∨ (xm_z 29 = 2 ∧ (v35).toInt8.toInt32 = v35) ∨ (xm_z 29 = 3 ∧ (v35).toUInt32.toUInt16.toUInt32.toInt32 = v35))) 1 (fun n => rfl) (Or.inr (Or.inl ⟨rfl, g36⟩))
          · rw [if_neg c34] at hG
            refine Ev.f (c := 2 ≤ (S22.1 x0 8)) (p1 := 112) (L1 := [.ref x0, .int x1]) (s1 := []) (h1 := hh S22) (p2 := 104) (L2 := [.ref x0, .int x1]) (s2 := []) (h2 := hh S22) 2 (fun n => B_29_28 n x0 x1 S22) c34 ?_
            rcases h37 : G_33 S22 x0 x1 with _ | ⟨v37, S37⟩
            · rw [h37] at hG; cases hG
            rw [h37] at hG
            dsimp only at hG
            refine Ev.cg (c := (xm_o 33 = 200 ∧ 2000 ≤ x0 ∧ x0 < 2000 + xS_n) ∨ (xm_o 33 ≠ 200 ∧ (kd x0).1 = 10 + xm_o 33)) (a := 33) (A := [.ref x0, .int x1]) (h1 := hh S22) (pc' := 109) (L' := [.ref x0, .int x1]) (rest := []) (r1 := some (.int v37)) (h2 := hh S37) 3 (fun n => B_29_29 n x0 x1 S22) (Or.inr ⟨by decide, g1⟩) (Ev.up (by decide) (T_33 S22 x0 x1 _ _ h37)) ?_
            show Ev X _ 29 109 [.ref x0, .int x1] [.int v37] (hh S37) _
            by_cases g38 : (v37 = 0 ∨ v37 = 1)
            rotate_left
            · rw [if_neg g38] at hG; cases hG
            rw [if_pos g38] at hG
            obtain ⟨e1, e2⟩ := Prod.mk.inj (Option.some.inj hG)
            subst e1
            subst e2
            exact Ev.rg (c := (xm_z 29 = 0 ∨ (xm_z 29 = 1 ∧ (v37 = 0 ∨ v37 = 1)) ∨ (xm_z 29 = 2 ∧ (v37).toInt8.toInt32 = v37) ∨ (xm_z 29 = 3 ∧ (v37).toUInt32.toUInt16.toUInt32.toInt32 = v37))) 2 (fun n => rfl) (Or.inr (Or.inl ⟨rfl, g38⟩))
        rw [if_neg c33] at hG
        rw [xa_sw, if_neg c33]
        by_cases c39 : (S22.1 x0 0) = 246
        · rw [if_pos c39] at hG
          rw [xa_sw, if_pos c39]
          show Ev X _ 29 90 [.ref x0, .int x1] [] (hh S22) _
          rcases h40 : G_33 S22 x0 x1 with _ | ⟨v40, S40⟩
          · rw [h40] at hG; cases hG
          rw [h40] at hG
          dsimp only at hG
          refine Ev.cg (c := (xm_o 33 = 200 ∧ 2000 ≤ x0 ∧ x0 < 2000 + xS_n) ∨ (xm_o 33 ≠ 200 ∧ (kd x0).1 = 10 + xm_o 33)) (a := 33) (A := [.ref x0, .int x1]) (h1 := hh S22) (pc' := 95) (L' := [.ref x0, .int x1]) (rest := []) (r1 := some (.int v40)) (h2 := hh S40) 3 (fun n => B_29_30 n x0 x1 S22) (Or.inr ⟨by decide, g1⟩) (Ev.up (by decide) (T_33 S22 x0 x1 _ _ h40)) ?_
          show Ev X _ 29 95 [.ref x0, .int x1] [.int v40] (hh S40) _
          by_cases g41 : (v40 = 0 ∨ v40 = 1)
          rotate_left
          · rw [if_neg g41] at hG; cases hG
          rw [if_pos g41] at hG
          obtain ⟨e1, e2⟩ := Prod.mk.inj (Option.some.inj hG)
          subst e1
          subst e2
          exact Ev.rg (c := (xm_z 29 = 0 ∨ (xm_z 29 = 1 ∧ (v40 = 0 ∨ v40 = 1)) ∨ (xm_z 29 = 2 ∧ (v40).toInt8.toInt32 = v40) ∨ (xm_z 29 = 3 ∧ (v40).toUInt32.toUInt16.toUInt32.toInt32 = v40))) 1 (fun n => rfl) (Or.inr (Or.inl ⟨rfl, g41⟩))
        rw [if_neg c39] at hG
        rw [xa_sw, if_neg c39]
        rw [xa_sw]
        show Ev X _ 29 118 [.ref x0, .int x1] [] (hh S22) _
        obtain ⟨e1, e2⟩ := Prod.mk.inj (Option.some.inj hG)
        subst e1
        subst e2
        exact Ev.rg (c := (xm_z 29 = 0 ∨ (xm_z 29 = 1 ∧ ((0 : Int32) = 0 ∨ (0 : Int32) = 1)) ∨ (xm_z 29 = 2 ∧ ((0 : Int32)).toInt8.toInt32 = (0 : Int32)) ∨ (xm_z 29 = 3 ∧ ((0 : Int32)).toUInt32.toUInt16.toUInt32.toInt32 = (0 : Int32)))) 2 (fun n => rfl) (Or.inr (Or.inl ⟨rfl, by decide⟩))
      · rw [if_neg c23] at hG
        refine Ev.f (c := v22 = 0) (p1 := 37) (L1 := [.ref x0, .int x1]) (s1 := []) (h1 := hh S22) (p2 := 31) (L2 := [.ref x0, .int x1]) (s2 := []) (h2 := hh S22) 1 (fun n => B_29_31 n x0 x1 v22 S22) c23 ?_
        rcases h42 : G_31 S22 x0 x1 with _ | ⟨v42, S42⟩
        · rw [h42] at hG; cases hG
        rw [h42] at hG
        dsimp only at hG
        refine Ev.cg (c := (xm_o 31 = 200 ∧ 2000 ≤ x0 ∧ x0 < 2000 + xS_n) ∨ (xm_o 31 ≠ 200 ∧ (kd x0).1 = 10 + xm_o 31)) (a := 31) (A := [.ref x0, .int x1]) (h1 := hh S22) (pc' := 36) (L' := [.ref x0, .int x1]) (rest := []) (r1 := some (.int v42)) (h2 := hh S42) 3 (fun n => B_29_32 n x0 x1 S22) (Or.inr ⟨by decide, g1⟩) (Ev.up (by decide) (T_31 S22 x0 x1 _ _ h42)) ?_
        show Ev X _ 29 36 [.ref x0, .int x1] [.int v42] (hh S42) _
        by_cases g43 : (v42 = 0 ∨ v42 = 1)
        rotate_left
        · rw [if_neg g43] at hG; cases hG
        rw [if_pos g43] at hG
        obtain ⟨e1, e2⟩ := Prod.mk.inj (Option.some.inj hG)
        subst e1
        subst e2
        exact Ev.rg (c := (xm_z 29 = 0 ∨ (xm_z 29 = 1 ∧ (v42 = 0 ∨ v42 = 1)) ∨ (xm_z 29 = 2 ∧ (v42).toInt8.toInt32 = v42) ∨ (xm_z 29 = 3 ∧ (v42).toUInt32.toUInt16.toUInt32.toInt32 = v42))) 1 (fun n => rfl) (Or.inr (Or.inl ⟨rfl, g43⟩))
/-- 27: SceneCycle$PictureReader.check(LSceneCycle$Resource;)I -/
def GL_27_0 : Nat → St → Nat → Nat → Int32 → Option (Int32 × St)
  | 0, _, _, _, _ => none
  | n + 1, S, y0, y1, y2 =>
    (if (kd y1).1 = 10 + 1 then
      (if (S.1 y1 1) ≤ y2 then
        (if (kd y0).1 = 10 + 2 then
          (if (S.1 y0 0) = 255 then
            some ((S.1 y0 9), S)
          else
            some (((-2) - (S.1 y1 1)), S)
          )
        else none)
      else
        (match G_25 S y1 y2 with
        | none => none
        | some (v5, S5) =>
          (if (kd y0).1 = 10 + 2 then
            (match G_29 S5 y0 v5 with
            | none => none
            | some (v6, S6) =>
              (if v6 = 0 then
                some (((-2) - y2), S6)
              else
                GL_27_0 n S6 y0 y1 (y2 + 1)
              )
            )
          else none)
        )
      )
    else none)
theorem B_27_1 {X : Nat × (Nat → Int32)} {d : Nat} (n : Nat) (y0 : Nat) (y1 : Nat) (y2 : Int32) (S : St) : ex X d 27 6 [.ref y0, .ref y1, .int y2] [] (hh S) (n + 3) = if (kd y1).1 = 10 + 1 then ex X d 27 11 [.ref y0, .ref y1, .int y2] [.int (S.1 y1 1), .int y2] (hh S) n else none := rfl
theorem B_27_2 {X : Nat × (Nat → Int32)} {d : Nat} (n : Nat) (y0 : Nat) (y1 : Nat) (y2 : Int32) (S : St) : ex X d 27 11 [.ref y0, .ref y1, .int y2] [.int (S.1 y1 1), .int y2] (hh S) (n + 1) = if (S.1 y1 1) ≤ y2 then ex X d 27 37 [.ref y0, .ref y1, .int y2] [] (hh S) n else ex X d 27 14 [.ref y0, .ref y1, .int y2] [] (hh S) n := rfl
theorem B_27_3 {X : Nat × (Nat → Int32)} {d : Nat} (n : Nat) (y0 : Nat) (y1 : Nat) (y2 : Int32) (S : St) : ex X d 27 37 [.ref y0, .ref y1, .int y2] [] (hh S) (n + 2) = if (kd y0).1 = 10 + 2 then ex X d 27 41 [.ref y0, .ref y1, .int y2] [.int (S.1 y0 0)] (hh S) n else none := rfl
theorem B_27_4 {X : Nat × (Nat → Int32)} {d : Nat} (n : Nat) (y0 : Nat) (y1 : Nat) (y2 : Int32) (S : St) : ex X d 27 41 [.ref y0, .ref y1, .int y2] [.int (S.1 y0 0)] (hh S) (n + 2) = if (S.1 y0 0) = 255 then ex X d 27 47 [.ref y0, .ref y1, .int y2] [] (hh S) n else ex X d 27 54 [.ref y0, .ref y1, .int y2] [] (hh S) n := rfl
theorem B_27_5 {X : Nat × (Nat → Int32)} {d : Nat} (n : Nat) (y0 : Nat) (y1 : Nat) (y2 : Int32) (S : St) : ex X d 27 47 [.ref y0, .ref y1, .int y2] [] (hh S) (n + 2) = if (kd y0).1 = 10 + 2 then ex X d 27 51 [.ref y0, .ref y1, .int y2] [.int (S.1 y0 9)] (hh S) n else none := rfl
theorem B_27_6 {X : Nat × (Nat → Int32)} {d : Nat} (n : Nat) (y0 : Nat) (y1 : Nat) (y2 : Int32) (S : St) : ex X d 27 41 [.ref y0, .ref y1, .int y2] [.int (S.1 y0 0)] (hh S) (n + 2) = if (S.1 y0 0) = 255 then ex X d 27 47 [.ref y0, .ref y1, .int y2] [] (hh S) n else ex X d 27 54 [.ref y0, .ref y1, .int y2] [] (hh S) n := rfl
theorem B_27_7 {X : Nat × (Nat → Int32)} {d : Nat} (n : Nat) (y0 : Nat) (y1 : Nat) (y2 : Int32) (S : St) : ex X d 27 54 [.ref y0, .ref y1, .int y2] [] (hh S) (n + 3) = if (kd y1).1 = 10 + 1 then ex X d 27 60 [.ref y0, .ref y1, .int y2] [.int (S.1 y1 1), .int (-2)] (hh S) n else none := rfl
theorem B_27_8 {X : Nat × (Nat → Int32)} {d : Nat} (n : Nat) (y0 : Nat) (y1 : Nat) (y2 : Int32) (S : St) : ex X d 27 11 [.ref y0, .ref y1, .int y2] [.int (S.1 y1 1), .int y2] (hh S) (n + 1) = if (S.1 y1 1) ≤ y2 then ex X d 27 37 [.ref y0, .ref y1, .int y2] [] (hh S) n else ex X d 27 14 [.ref y0, .ref y1, .int y2] [] (hh S) n := rfl
theorem B_27_9 {X : Nat × (Nat → Int32)} {d : Nat} (n : Nat) (y0 : Nat) (y1 : Nat) (y2 : Int32) (S : St) : ex X (d + 1) 27 14 [.ref y0, .ref y1, .int y2] [] (hh S) (n + 4) = if (xm_o 25 = 200 ∧ 2000 ≤ y1 ∧ y1 < 2000 + xS_n) ∨ (xm_o 25 ≠ 200 ∧ (kd y1).1 = 10 + xm_o 25) then (match ex X d 25 0 [.ref y1, .int y2] [] (hh S) n with | some (v, h') => ex X (d + 1) 27 20 [.ref y0, .ref y1, .int y2] (v.toList ++ [.ref y0]) h' n | none => none) else none := rfl
theorem B_27_10 {X : Nat × (Nat → Int32)} {d : Nat} (n : Nat) (y0 : Nat) (y1 : Nat) (y2 : Int32) (v5 : Int32) (S5 : St) : ex X (d + 1) 27 20 [.ref y0, .ref y1, .int y2] [.int v5, .ref y0] (hh S5) (n + 1) = if (xm_o 29 = 200 ∧ 2000 ≤ y0 ∧ y0 < 2000 + xS_n) ∨ (xm_o 29 ≠ 200 ∧ (kd y0).1 = 10 + xm_o 29) then (match ex X d 29 0 [.ref y0, .int v5] [] (hh S5) n with | some (v, h') => ex X (d + 1) 27 23 [.ref y0, .ref y1, .int y2] (v.toList ++ []) h' n | none => none) else none := rfl
theorem B_27_11 {X : Nat × (Nat → Int32)} {d : Nat} (n : Nat) (y0 : Nat) (y1 : Nat) (y2 : Int32) (v6 : Int32) (S6 : St) : ex X d 27 23 [.ref y0, .ref y1, .int y2] [.int v6] (hh S6) (n + 1) = if v6 = 0 then ex X d 27 26 [.ref y0, .ref y1, .int y2] [] (hh S6) n else ex X d 27 31 [.ref y0, .ref y1, .int y2] [] (hh S6) n := rfl
theorem B_27_12 {X : Nat × (Nat → Int32)} {d : Nat} (n : Nat) (y0 : Nat) (y1 : Nat) (y2 : Int32) (v6 : Int32) (S6 : St) : ex X d 27 23 [.ref y0, .ref y1, .int y2] [.int v6] (hh S6) (n + 1) = if v6 = 0 then ex X d 27 26 [.ref y0, .ref y1, .int y2] [] (hh S6) n else ex X d 27 31 [.ref y0, .ref y1, .int y2] [] (hh S6) n := rfl
theorem B_27_13 {X : Nat × (Nat → Int32)} {d : Nat} (n : Nat) (y0 : Nat) (y1 : Nat) (y2 : Int32) (S6 : St) : ex X d 27 31 [.ref y0, .ref y1, .int y2] [] (hh S6) (n + 2) = ex X d 27 6 [.ref y0, .ref y1, .int (y2 + 1)] [] (hh S6) n := rfl
set_option maxRecDepth 200000 in
theorem TL_27_0 {X : Nat × (Nat → Int32)} : ∀ (n : Nat) (S : St) (y0 : Nat) (y1 : Nat) (y2 : Int32) (r : Int32) (S' : St), GL_27_0 n S y0 y1 y2 = some (r, S') → Ev X 4 27 6 [.ref y0, .ref y1, .int y2] [] (hh S) (xI r, hh S') := by
  intro n
  induction n with
  | zero => intro S y0 y1 y2 r S' hG; simp [GL_27_0] at hG
  | succ n ih =>
    intro S y0 y1 y2 r S' hG
    rw [GL_27_0] at hG
    by_cases g1 : (kd y1).1 = 10 + 1
    rotate_left
    · rw [if_neg g1] at hG; cases hG
    rw [if_pos g1] at hG
    refine Ev.g (c := (kd y1).1 = 10 + 1) (p1 := 11) (L1 := [.ref y0, .ref y1, .int y2]) (s1 := [.int (S.1 y1 1), .int y2]) (h1 := hh S) 3 (fun n => B_27_1 n y0 y1 y2 S) g1 ?_
    by_cases c2 : (S.1 y1 1) ≤ y2
    · rw [if_pos c2] at hG
      refine Ev.t (c := (S.1 y1 1) ≤ y2) (p1 := 37) (L1 := [.ref y0, .ref y1, .int y2]) (s1 := []) (h1 := hh S) (p2 := 14) (L2 := [.ref y0, .ref y1, .int y2]) (s2 := []) (h2 := hh S) 1 (fun n => B_27_2 n y0 y1 y2 S) c2 ?_
      by_cases g3 : (kd y0).1 = 10 + 2
      rotate_left
      · rw [if_neg g3] at hG; cases hG
      rw [if_pos g3] at hG
      refine Ev.g (c := (kd y0).1 = 10 + 2) (p1 := 41) (L1 := [.ref y0, .ref y1, .int y2]) (s1 := [.int (S.1 y0 0)]) (h1 := hh S) 2 (fun n => B_27_3 n y0 y1 y2 S) g3 ?_
      by_cases c4 : (S.1 y0 0) = 255
      · rw [if_pos c4] at hG
        refine Ev.t (c := (S.1 y0 0) = 255) (p1 := 47) (L1 := [.ref y0, .ref y1, .int y2]) (s1 := []) (h1 := hh S) (p2 := 54) (L2 := [.ref y0, .ref y1, .int y2]) (s2 := []) (h2 := hh S) 2 (fun n => B_27_4 n y0 y1 y2 S) c4 ?_
        refine Ev.g (c := (kd y0).1 = 10 + 2) (p1 := 51) (L1 := [.ref y0, .ref y1, .int y2]) (s1 := [.int (S.1 y0 9)]) (h1 := hh S) 2 (fun n => B_27_5 n y0 y1 y2 S) g3 ?_
        obtain ⟨e1, e2⟩ := Prod.mk.inj (Option.some.inj hG)
        subst e1
        subst e2
        exact Ev.r 2 (fun n => rfl)
      · rw [if_neg c4] at hG
        refine Ev.f (c := (S.1 y0 0) = 255) (p1 := 47) (L1 := [.ref y0, .ref y1, .int y2]) (s1 := []) (h1 := hh S) (p2 := 54) (L2 := [.ref y0, .ref y1, .int y2]) (s2 := []) (h2 := hh S) 2 (fun n => B_27_6 n y0 y1 y2 S) c4 ?_
        refine Ev.g (c := (kd y1).1 = 10 + 1) (p1 := 60) (L1 := [.ref y0, .ref y1, .int y2]) (s1 := [.int (S.1 y1 1), .int (-2)]) (h1 := hh S) 3 (fun n => B_27_7 n y0 y1 y2 S) g1 ?_
        obtain ⟨e1, e2⟩ := Prod.mk.inj (Option.some.inj hG)
        subst e1
        subst e2
        exact Ev.r 2 (fun n => rfl)
    · rw [if_neg c2] at hG
      refine Ev.f (c := (S.1 y1 1) ≤ y2) (p1 := 37) (L1 := [.ref y0, .ref y1, .int y2]) (s1 := []) (h1 := hh S) (p2 := 14) (L2 := [.ref y0, .ref y1, .int y2]) (s2 := []) (h2 := hh S) 1 (fun n => B_27_8 n y0 y1 y2 S) c2 ?_
      rcases h5 : G_25 S y1 y2 with _ | ⟨v5, S5⟩
      · rw [h5] at hG; cases hG
      rw [h5] at hG
      dsimp only at hG
      refine Ev.cg (c := (xm_o 25 = 200 ∧ 2000 ≤ y1 ∧ y1 < 2000 + xS_n) ∨ (xm_o 25 ≠ 200 ∧ (kd y1).1 = 10 + xm_o 25)) (a := 25) (A := [.ref y1, .int y2]) (h1 := hh S) (pc' := 20) (L' := [.ref y0, .ref y1, .int y2]) (rest := [.ref y0]) (r1 := some (.int v5)) (h2 := hh S5) 4 (fun n => B_27_9 n y0 y1 y2 S) (Or.inr ⟨by decide, g1⟩) (Ev.up (by decide) (T_25 S y1 y2 _ _ h5)) ?_
      show Ev X _ 27 20 [.ref y0, .ref y1, .int y2] [.int v5, .ref y0] (hh S5) _
      by_cases g7 : (kd y0).1 = 10 + 2
      rotate_left
      · rw [if_neg g7] at hG; cases hG
      rw [if_pos g7] at hG
      rcases h6 : G_29 S5 y0 v5 with _ | ⟨v6, S6⟩
      · rw [h6] at hG; cases hG
      rw [h6] at hG
      dsimp only at hG
      refine Ev.cg (c := (xm_o 29 = 200 ∧ 2000 ≤ y0 ∧ y0 < 2000 + xS_n) ∨ (xm_o 29 ≠ 200 ∧ (kd y0).1 = 10 + xm_o 29)) (a := 29) (A := [.ref y0, .int v5]) (h1 := hh S5) (pc' := 23) (L' := [.ref y0, .ref y1, .int y2]) (rest := []) (r1 := some (.int v6)) (h2 := hh S6) 1 (fun n => B_27_10 n y0 y1 y2 v5 S5) (Or.inr ⟨by decide, g7⟩) (Ev.up (by decide) (T_29 S5 y0 v5 _ _ h6)) ?_
      show Ev X _ 27 23 [.ref y0, .ref y1, .int y2] [.int v6] (hh S6) _
      by_cases c8 : v6 = 0
      · rw [if_pos c8] at hG
        refine Ev.t (c := v6 = 0) (p1 := 26) (L1 := [.ref y0, .ref y1, .int y2]) (s1 := []) (h1 := hh S6) (p2 := 31) (L2 := [.ref y0, .ref y1, .int y2]) (s2 := []) (h2 := hh S6) 1 (fun n => B_27_11 n y0 y1 y2 v6 S6) c8 ?_
        obtain ⟨e1, e2⟩ := Prod.mk.inj (Option.some.inj hG)
        subst e1
        subst e2
        exact Ev.r 4 (fun n => rfl)
      · rw [if_neg c8] at hG
        refine Ev.f (c := v6 = 0) (p1 := 26) (L1 := [.ref y0, .ref y1, .int y2]) (s1 := []) (h1 := hh S6) (p2 := 31) (L2 := [.ref y0, .ref y1, .int y2]) (s2 := []) (h2 := hh S6) 1 (fun n => B_27_12 n y0 y1 y2 v6 S6) c8 ?_
        exact Ev.b (pc' := 6) (L' := [.ref y0, .ref y1, .int (y2 + 1)]) (st' := []) (h' := hh S6) 2 (fun n => B_27_13 n y0 y1 y2 S6) (ih S6 y0 y1 (y2 + 1) _ _ hG )
def G_27 (S : St) (x0 : Nat) (x1 : Nat) : Option (Int32 × St) :=
  (if (kd x0).1 = 10 + 2 then
    (match G_28 S x0 with
    | none => none
    | some (v9, S9) =>
      GL_27_0 xFu S9 x0 x1 (0 : Int32)
    )
  else none)
theorem B_27_14 {X : Nat × (Nat → Int32)} {d : Nat} (n : Nat) (x0 : Nat) (x1 : Nat) (S : St) : ex X (d + 1) 27 0 [.ref x0, .ref x1, .retAddr 0] [] (hh S) (n + 2) = if (xm_o 28 = 200 ∧ 2000 ≤ x0 ∧ x0 < 2000 + xS_n) ∨ (xm_o 28 ≠ 200 ∧ (kd x0).1 = 10 + xm_o 28) then (match ex X d 28 0 [.ref x0] [] (hh S) n with | some (v, h') => ex X (d + 1) 27 4 [.ref x0, .ref x1, .retAddr 0] (v.toList ++ []) h' n | none => none) else none := rfl
theorem B_27_15 {X : Nat × (Nat → Int32)} {d : Nat} (n : Nat) (x0 : Nat) (x1 : Nat) (S9 : St) : ex X d 27 4 [.ref x0, .ref x1, .retAddr 0] [] (hh S9) (n + 2) = ex X d 27 6 [.ref x0, .ref x1, .int 0] [] (hh S9) n := rfl
set_option maxRecDepth 200000 in
theorem T_27 {X : Nat × (Nat → Int32)} (S : St) (x0 : Nat) (x1 : Nat) (r : Int32) (S' : St) (hG : G_27 S x0 x1 = some (r, S')) : Ev X 4 27 0 [.ref x0, .ref x1, .retAddr 0] [] (hh S) (xI r, hh S') := by
  unfold G_27 at hG
  by_cases g10 : (kd x0).1 = 10 + 2
  rotate_left
  · rw [if_neg g10] at hG; cases hG
  rw [if_pos g10] at hG
  rcases h9 : G_28 S x0 with _ | ⟨v9, S9⟩
  · rw [h9] at hG; cases hG
  rw [h9] at hG
  dsimp only at hG
  refine Ev.cg (c := (xm_o 28 = 200 ∧ 2000 ≤ x0 ∧ x0 < 2000 + xS_n) ∨ (xm_o 28 ≠ 200 ∧ (kd x0).1 = 10 + xm_o 28)) (a := 28) (A := [.ref x0]) (h1 := hh S) (pc' := 4) (L' := [.ref x0, .ref x1, .retAddr 0]) (rest := []) (r1 := none) (h2 := hh S9) 2 (fun n => B_27_14 n x0 x1 S) (Or.inr ⟨by decide, g10⟩) (Ev.up (by decide) (T_28 S x0 _ _ h9)) ?_
  show Ev X _ 27 4 [.ref x0, .ref x1, .retAddr 0] [] (hh S9) _
  exact Ev.b (pc' := 6) (L' := [.ref x0, .ref x1, .int 0]) (st' := []) (h' := hh S9) 2 (fun n => B_27_15 n x0 x1 S9) (TL_27_0 xFu S9 x0 x1 (0 : Int32) _ _ hG )
/-- 39: SceneCycle$Screen.setPen()V -/
def G_39 (S : St)  : Option (Unit × St) :=
  (if (S.1 6 0) = 240 then
    some ((), (xa_u S.1 2 5 (S.1 6 1), S.2.1, S.2.2))
  else
    (if (S.1 6 0) = 241 then
      some ((), (xa_u S.1 2 5 (-1), S.2.1, S.2.2))
    else
      (if (S.1 6 0) = 242 then
        some ((), (xa_u S.1 2 6 (S.1 6 1), S.2.1, S.2.2))
      else
        (if (S.1 6 0) = 243 then
          some ((), (xa_u S.1 2 6 (-1), S.2.1, S.2.2))
        else
          some ((), S)
        )
      )
    )
  )
theorem B_39_1 {X : Nat × (Nat → Int32)} {d : Nat} (n : Nat) (S : St) : ex X d 39 0 [.ref 2] [] (hh S) (n + 4) = xa_sw [(240, 36), (241, 50), (242, 58), (243, 72)] (S.1 6 0) 80 (fun t => ex X d 39 t [.ref 2] [] (hh S) n) := rfl
theorem B_39_2 {X : Nat × (Nat → Int32)} {d : Nat} (n : Nat) (S : St) : ex X d 39 36 [.ref 2] [] (hh S) (n + 5) = if (kd 2).1 = 10 + 3 ∧ (xf_k 3 5 = 0 ∨ (xf_k 3 5 = 1 ∧ ((S.1 6 1) = 0 ∨ (S.1 6 1) = 1))) then ex X d 39 47 [.ref 2] [] (hh (xa_u S.1 2 5 (S.1 6 1), S.2.1, S.2.2)) n else none := rfl
theorem B_39_3 {X : Nat × (Nat → Int32)} {d : Nat} (n : Nat) (S : St) : ex X d 39 50 [.ref 2] [] (hh S) (n + 3) = if (kd 2).1 = 10 + 3 ∧ (xf_k 3 5 = 0 ∨ (xf_k 3 5 = 1 ∧ (((-1) : Int32) = 0 ∨ ((-1) : Int32) = 1))) then ex X d 39 55 [.ref 2] [] (hh (xa_u S.1 2 5 (-1), S.2.1, S.2.2)) n else none := rfl
theorem B_39_4 {X : Nat × (Nat → Int32)} {d : Nat} (n : Nat) (S : St) : ex X d 39 58 [.ref 2] [] (hh S) (n + 5) = if (kd 2).1 = 10 + 3 ∧ (xf_k 3 6 = 0 ∨ (xf_k 3 6 = 1 ∧ ((S.1 6 1) = 0 ∨ (S.1 6 1) = 1))) then ex X d 39 69 [.ref 2] [] (hh (xa_u S.1 2 6 (S.1 6 1), S.2.1, S.2.2)) n else none := rfl
theorem B_39_5 {X : Nat × (Nat → Int32)} {d : Nat} (n : Nat) (S : St) : ex X d 39 72 [.ref 2] [] (hh S) (n + 3) = if (kd 2).1 = 10 + 3 ∧ (xf_k 3 6 = 0 ∨ (xf_k 3 6 = 1 ∧ (((-1) : Int32) = 0 ∨ ((-1) : Int32) = 1))) then ex X d 39 77 [.ref 2] [] (hh (xa_u S.1 2 6 (-1), S.2.1, S.2.2)) n else none := rfl
set_option maxRecDepth 200000 in
theorem T_39 {X : Nat × (Nat → Int32)} (S : St)  (r : Unit) (S' : St) (hG : G_39 S  = some (r, S')) : Ev X 0 39 0 [.ref 2] [] (hh S) (xV r, hh S') := by
  unfold G_39 at hG
  refine Ev.sw (ks := [(240, 36), (241, 50), (242, 58), (243, 72)]) (x := (S.1 6 0)) (df := 80) (L1 := [.ref 2]) (s1 := []) (h1 := hh S) 4 (fun n => B_39_1 n S) ?_
  by_cases c1 : (S.1 6 0) = 240
  · rw [if_pos c1] at hG
    rw [xa_sw, if_pos c1]
    show Ev X _ 39 36 [.ref 2] [] (hh S) _
    refine Ev.g (c := (kd 2).1 = 10 + 3 ∧ (xf_k 3 5 = 0 ∨ (xf_k 3 5 = 1 ∧ ((S.1 6 1) = 0 ∨ (S.1 6 1) = 1)))) (p1 := 47) (L1 := [.ref 2]) (s1 := []) (h1 := hh (xa_u S.1 2 5 (S.1 6 1), S.2.1, S.2.2)) 5 (fun n => B_39_2 n S) (⟨rfl, Or.inl rfl⟩) ?_
    obtain ⟨e1, e2⟩ := Prod.mk.inj (Option.some.inj hG)
    subst e1
    subst e2
    exact Ev.r 2 (fun n => rfl)
  rw [if_neg c1] at hG
  rw [xa_sw, if_neg c1]
  by_cases c2 : (S.1 6 0) = 241
  · rw [if_pos c2] at hG
    rw [xa_sw, if_pos c2]
    show Ev X _ 39 50 [.ref 2] [] (hh S) _
    refine Ev.g (c := (kd 2).1 = 10 + 3 ∧ (xf_k 3 5 = 0 ∨ (xf_k 3 5 = 1 ∧ (((-1) : Int32) = 0 ∨ ((-1) : Int32) = 1)))) (p1 := 55) (L1 := [.ref 2]) (s1 := []) (h1 := hh (xa_u S.1 2 5 (-1), S.2.1, S.2.2)) 3 (fun n => B_39_3 n S) (⟨rfl, Or.inl rfl⟩) ?_
    obtain ⟨e1, e2⟩ := Prod.mk.inj (Option.some.inj hG)
    subst e1
    subst e2
    exact Ev.r 2 (fun n => rfl)
  rw [if_neg c2] at hG
  rw [xa_sw, if_neg c2]
  by_cases c3 : (S.1 6 0) = 242
  · rw [if_pos c3] at hG
    rw [xa_sw, if_pos c3]
    show Ev X _ 39 58 [.ref 2] [] (hh S) _
    refine Ev.g (c := (kd 2).1 = 10 + 3 ∧ (xf_k 3 6 = 0 ∨ (xf_k 3 6 = 1 ∧ ((S.1 6 1) = 0 ∨ (S.1 6 1) = 1)))) (p1 := 69) (L1 := [.ref 2]) (s1 := []) (h1 := hh (xa_u S.1 2 6 (S.1 6 1), S.2.1, S.2.2)) 5 (fun n => B_39_4 n S) (⟨rfl, Or.inl rfl⟩) ?_
    obtain ⟨e1, e2⟩ := Prod.mk.inj (Option.some.inj hG)
    subst e1
    subst e2
    exact Ev.r 2 (fun n => rfl)
  rw [if_neg c3] at hG
  rw [xa_sw, if_neg c3]
  by_cases c4 : (S.1 6 0) = 243
  · rw [if_pos c4] at hG
    rw [xa_sw, if_pos c4]
    show Ev X _ 39 72 [.ref 2] [] (hh S) _
    refine Ev.g (c := (kd 2).1 = 10 + 3 ∧ (xf_k 3 6 = 0 ∨ (xf_k 3 6 = 1 ∧ (((-1) : Int32) = 0 ∨ ((-1) : Int32) = 1)))) (p1 := 77) (L1 := [.ref 2]) (s1 := []) (h1 := hh (xa_u S.1 2 6 (-1), S.2.1, S.2.2)) 3 (fun n => B_39_5 n S) (⟨rfl, Or.inl rfl⟩) ?_
    obtain ⟨e1, e2⟩ := Prod.mk.inj (Option.some.inj hG)
    subst e1
    subst e2
    exact Ev.r 2 (fun n => rfl)
  rw [if_neg c4] at hG
  rw [xa_sw, if_neg c4]
  rw [xa_sw]
  show Ev X _ 39 80 [.ref 2] [] (hh S) _
  obtain ⟨e1, e2⟩ := Prod.mk.inj (Option.some.inj hG)
  subst e1
  subst e2
  exact Ev.r 1 (fun n => rfl)
/-- 43: SceneCycle$Screen.draw(I)V -/
def G_43 (S : St) (x1 : Int32) : Option (Unit × St) :=
  (if x1 < 0 then
    some ((), S)
  else
    (if x1 < 192 then
      (if (S.1 2 5) = (-1) then
        (if (S.1 2 6) = (-1) then
          some ((), S)
        else
          (if xa_in x1 192 then
            some ((), (xa_u S.1 4 ((x1).toNatClampNeg) (S.1 2 6), S.2.1, S.2.2))
          else none)
        )
      else
        (if xa_in x1 192 then
          (if ((xa_u S.1 3 ((x1).toNatClampNeg) (S.1 2 5)) 2 6) = (-1) then
            some ((), (xa_u S.1 3 ((x1).toNatClampNeg) (S.1 2 5), S.2.1, S.2.2))
          else
            some ((), (xa_u (xa_u S.1 3 ((x1).toNatClampNeg) (S.1 2 5)) 4 ((x1).toNatClampNeg) ((xa_u S.1 3 ((x1).toNatClampNeg) (S.1 2 5)) 2 6), S.2.1, S.2.2))
          )
        else none)
      )
    else
      some ((), S)
    )
  )
theorem B_43_1 {X : Nat × (Nat → Int32)} {d : Nat} (n : Nat) (x1 : Int32) (S : St) : ex X d 43 0 [.ref 2, .int x1] [] (hh S) (n + 2) = if x1 < 0 then ex X d 43 11 [.ref 2, .int x1] [] (hh S) n else ex X d 43 4 [.ref 2, .int x1] [] (hh S) n := rfl
theorem B_43_2 {X : Nat × (Nat → Int32)} {d : Nat} (n : Nat) (x1 : Int32) (S : St) : ex X d 43 0 [.ref 2, .int x1] [] (hh S) (n + 2) = if x1 < 0 then ex X d 43 11 [.ref 2, .int x1] [] (hh S) n else ex X d 43 4 [.ref 2, .int x1] [] (hh S) n := rfl
theorem B_43_3 {X : Nat × (Nat → Int32)} {d : Nat} (n : Nat) (x1 : Int32) (S : St) : ex X d 43 4 [.ref 2, .int x1] [] (hh S) (n + 3) = if x1 < 192 then ex X d 43 12 [.ref 2, .int x1] [] (hh S) n else ex X d 43 11 [.ref 2, .int x1] [] (hh S) n := rfl
theorem B_43_4 {X : Nat × (Nat → Int32)} {d : Nat} (n : Nat) (x1 : Int32) (S : St) : ex X d 43 12 [.ref 2, .int x1] [] (hh S) (n + 4) = if (S.1 2 5) = (-1) then ex X d 43 30 [.ref 2, .int x1] [] (hh S) n else ex X d 43 20 [.ref 2, .int x1] [] (hh S) n := rfl
theorem B_43_5 {X : Nat × (Nat → Int32)} {d : Nat} (n : Nat) (x1 : Int32) (S : St) : ex X d 43 30 [.ref 2, .int x1] [] (hh S) (n + 4) = if (S.1 2 6) = (-1) then ex X d 43 48 [.ref 2, .int x1] [] (hh S) n else ex X d 43 38 [.ref 2, .int x1] [] (hh S) n := rfl
theorem B_43_6 {X : Nat × (Nat → Int32)} {d : Nat} (n : Nat) (x1 : Int32) (S : St) : ex X d 43 30 [.ref 2, .int x1] [] (hh S) (n + 4) = if (S.1 2 6) = (-1) then ex X d 43 48 [.ref 2, .int x1] [] (hh S) n else ex X d 43 38 [.ref 2, .int x1] [] (hh S) n := rfl
theorem B_43_7 {X : Nat × (Nat → Int32)} {d : Nat} (n : Nat) (x1 : Int32) (S : St) : ex X d 43 38 [.ref 2, .int x1] [] (hh S) (n + 6) = if (kd 4).1 = 0 ∧ xa_in x1 (kd 4).2 then ex X d 43 48 [.ref 2, .int x1] [] (hh (xa_u S.1 4 ((x1).toNatClampNeg) (S.1 2 6), S.2.1, S.2.2)) n else none := rfl
theorem B_43_8 {X : Nat × (Nat → Int32)} {d : Nat} (n : Nat) (x1 : Int32) (S : St) : ex X d 43 12 [.ref 2, .int x1] [] (hh S) (n + 4) = if (S.1 2 5) = (-1) then ex X d 43 30 [.ref 2, .int x1] [] (hh S) n else ex X d 43 20 [.ref 2, .int x1] [] (hh S) n := rfl
theorem B_43_9 {X : Nat × (Nat → Int32)} {d : Nat} (n : Nat) (x1 : Int32) (S : St) : ex X d 43 20 [.ref 2, .int x1] [] (hh S) (n + 6) = if (kd 3).1 = 0 ∧ xa_in x1 (kd 3).2 then ex X d 43 30 [.ref 2, .int x1] [] (hh (xa_u S.1 3 ((x1).toNatClampNeg) (S.1 2 5), S.2.1, S.2.2)) n else none := rfl
theorem B_43_10 {X : Nat × (Nat → Int32)} {d : Nat} (n : Nat) (x1 : Int32) (S : St) : ex X d 43 30 [.ref 2, .int x1] [] (hh (xa_u S.1 3 ((x1).toNatClampNeg) (S.1 2 5), S.2.1, S.2.2)) (n + 4) = if ((xa_u S.1 3 ((x1).toNatClampNeg) (S.1 2 5)) 2 6) = (-1) then ex X d 43 48 [.ref 2, .int x1] [] (hh (xa_u S.1 3 ((x1).toNatClampNeg) (S.1 2 5), S.2.1, S.2.2)) n else ex X d 43 38 [.ref 2, .int x1] [] (hh (xa_u S.1 3 ((x1).toNatClampNeg) (S.1 2 5), S.2.1, S.2.2)) n := rfl
theorem B_43_11 {X : Nat × (Nat → Int32)} {d : Nat} (n : Nat) (x1 : Int32) (S : St) : ex X d 43 30 [.ref 2, .int x1] [] (hh (xa_u S.1 3 ((x1).toNatClampNeg) (S.1 2 5), S.2.1, S.2.2)) (n + 4) = if ((xa_u S.1 3 ((x1).toNatClampNeg) (S.1 2 5)) 2 6) = (-1) then ex X d 43 48 [.ref 2, .int x1] [] (hh (xa_u S.1 3 ((x1).toNatClampNeg) (S.1 2 5), S.2.1, S.2.2)) n else ex X d 43 38 [.ref 2, .int x1] [] (hh (xa_u S.1 3 ((x1).toNatClampNeg) (S.1 2 5), S.2.1, S.2.2)) n := rfl
theorem B_43_12 {X : Nat × (Nat → Int32)} {d : Nat} (n : Nat) (x1 : Int32) (S : St) : ex X d 43 38 [.ref 2, .int x1] [] (hh (xa_u S.1 3 ((x1).toNatClampNeg) (S.1 2 5), S.2.1, S.2.2)) (n + 6) = if (kd 4).1 = 0 ∧ xa_in x1 (kd 4).2 then ex X d 43 48 [.ref 2, .int x1] [] (hh (xa_u (xa_u S.1 3 ((x1).toNatClampNeg) (S.1 2 5)) 4 ((x1).toNatClampNeg) ((xa_u S.1 3 ((x1).toNatClampNeg) (S.1 2 5)) 2 6), S.2.1, S.2.2)) n else none := rfl
theorem B_43_13 {X : Nat × (Nat → Int32)} {d : Nat} (n : Nat) (x1 : Int32) (S : St) : ex X d 43 4 [.ref 2, .int x1] [] (hh S) (n + 3) = if x1 < 192 then ex X d 43 12 [.ref 2, .int x1] [] (hh S) n else ex X d 43 11 [.ref 2, .int x1] [] (hh S) n := rfl
set_option maxRecDepth 200000 in
theorem T_43 {X : Nat × (Nat → Int32)} (S : St) (x1 : Int32) (r : Unit) (S' : St) (hG : G_43 S x1 = some (r, S')) : Ev X 0 43 0 [.ref 2, .int x1] [] (hh S) (xV r, hh S') := by
  unfold G_43 at hG
  by_cases c1 : x1 < 0
  · rw [if_pos c1] at hG
    refine Ev.t (c := x1 < 0) (p1 := 11) (L1 := [.ref 2, .int x1]) (s1 := []) (h1 := hh S) (p2 := 4) (L2 := [.ref 2, .int x1]) (s2 := []) (h2 := hh S) 2 (fun n => B_43_1 n x1 S) c1 ?_
    obtain ⟨e1, e2⟩ := Prod.mk.inj (Option.some.inj hG)
    subst e1
    subst e2
    exact Ev.r 1 (fun n => rfl)
  · rw [if_neg c1] at hG
    refine Ev.f (c := x1 < 0) (p1 := 11) (L1 := [.ref 2, .int x1]) (s1 := []) (h1 := hh S) (p2 := 4) (L2 := [.ref 2, .int x1]) (s2 := []) (h2 := hh S) 2 (fun n => B_43_2 n x1 S) c1 ?_
    by_cases c2 : x1 < 192
    · rw [if_pos c2] at hG
      refine Ev.t (c := x1 < 192) (p1 := 12) (L1 := [.ref 2, .int x1]) (s1 := []) (h1 := hh S) (p2 := 11) (L2 := [.ref 2, .int x1]) (s2 := []) (h2 := hh S) 3 (fun n => B_43_3 n x1 S) c2 ?_
      by_cases c3 : (S.1 2 5) = (-1)
      · rw [if_pos c3] at hG
        refine Ev.t (c := (S.1 2 5) = (-1)) (p1 := 30) (L1 := [.ref 2, .int x1]) (s1 := []) (h1 := hh S) (p2 := 20) (L2 := [.ref 2, .int x1]) (s2 := []) (h2 := hh S) 4 (fun n => B_43_4 n x1 S) c3 ?_
        by_cases c4 : (S.1 2 6) = (-1)
        · rw [if_pos c4] at hG
          refine Ev.t (c := (S.1 2 6) = (-1)) (p1 := 48) (L1 := [.ref 2, .int x1]) (s1 := []) (h1 := hh S) (p2 := 38) (L2 := [.ref 2, .int x1]) (s2 := []) (h2 := hh S) 4 (fun n => B_43_5 n x1 S) c4 ?_
          obtain ⟨e1, e2⟩ := Prod.mk.inj (Option.some.inj hG)
          subst e1
          subst e2
          exact Ev.r 1 (fun n => rfl)
        · rw [if_neg c4] at hG
          refine Ev.f (c := (S.1 2 6) = (-1)) (p1 := 48) (L1 := [.ref 2, .int x1]) (s1 := []) (h1 := hh S) (p2 := 38) (L2 := [.ref 2, .int x1]) (s2 := []) (h2 := hh S) 4 (fun n => B_43_6 n x1 S) c4 ?_
          by_cases g5 : xa_in x1 192
          rotate_left
          · rw [if_neg g5] at hG; cases hG
          rw [if_pos g5] at hG
          refine Ev.g (c := (kd 4).1 = 0 ∧ xa_in x1 (kd 4).2) (p1 := 48) (L1 := [.ref 2, .int x1]) (s1 := []) (h1 := hh (xa_u S.1 4 ((x1).toNatClampNeg) (S.1 2 6), S.2.1, S.2.2)) 6 (fun n => B_43_7 n x1 S) (⟨rfl, g5⟩) ?_
          obtain ⟨e1, e2⟩ := Prod.mk.inj (Option.some.inj hG)
          subst e1
          subst e2
          exact Ev.r 1 (fun n => rfl)
      · rw [if_neg c3] at hG
        refine Ev.f (c := (S.1 2 5) = (-1)) (p1 := 30) (L1 := [.ref 2, .int x1]) (s1 := []) (h1 := hh S) (p2 := 20) (L2 := [.ref 2, .int x1]) (s2 := []) (h2 := hh S) 4 (fun n => B_43_8 n x1 S) c3 ?_
        by_cases g6 : xa_in x1 192
        rotate_left
        · rw [if_neg g6] at hG; cases hG
        rw [if_pos g6] at hG
        refine Ev.g (c := (kd 3).1 = 0 ∧ xa_in x1 (kd 3).2) (p1 := 30) (L1 := [.ref 2, .int x1]) (s1 := []) (h1 := hh (xa_u S.1 3 ((x1).toNatClampNeg) (S.1 2 5), S.2.1, S.2.2)) 6 (fun n => B_43_9 n x1 S) (⟨rfl, g6⟩) ?_
        by_cases c7 : ((xa_u S.1 3 ((x1).toNatClampNeg) (S.1 2 5)) 2 6) = (-1)
        · rw [if_pos c7] at hG
          refine Ev.t (c := ((xa_u S.1 3 ((x1).toNatClampNeg) (S.1 2 5)) 2 6) = (-1)) (p1 := 48) (L1 := [.ref 2, .int x1]) (s1 := []) (h1 := hh (xa_u S.1 3 ((x1).toNatClampNeg) (S.1 2 5), S.2.1, S.2.2)) (p2 := 38) (L2 := [.ref 2, .int x1]) (s2 := []) (h2 := hh (xa_u S.1 3 ((x1).toNatClampNeg) (S.1 2 5), S.2.1, S.2.2)) 4 (fun n => B_43_10 n x1 S) c7 ?_
          obtain ⟨e1, e2⟩ := Prod.mk.inj (Option.some.inj hG)
          subst e1
          subst e2
          exact Ev.r 1 (fun n => rfl)
        · rw [if_neg c7] at hG
          refine Ev.f (c := ((xa_u S.1 3 ((x1).toNatClampNeg) (S.1 2 5)) 2 6) = (-1)) (p1 := 48) (L1 := [.ref 2, .int x1]) (s1 := []) (h1 := hh (xa_u S.1 3 ((x1).toNatClampNeg) (S.1 2 5), S.2.1, S.2.2)) (p2 := 38) (L2 := [.ref 2, .int x1]) (s2 := []) (h2 := hh (xa_u S.1 3 ((x1).toNatClampNeg) (S.1 2 5), S.2.1, S.2.2)) 4 (fun n => B_43_11 n x1 S) c7 ?_
          refine Ev.g (c := (kd 4).1 = 0 ∧ xa_in x1 (kd 4).2) (p1 := 48) (L1 := [.ref 2, .int x1]) (s1 := []) (h1 := hh (xa_u (xa_u S.1 3 ((x1).toNatClampNeg) (S.1 2 5)) 4 ((x1).toNatClampNeg) ((xa_u S.1 3 ((x1).toNatClampNeg) (S.1 2 5)) 2 6), S.2.1, S.2.2)) 6 (fun n => B_43_12 n x1 S) (⟨rfl, g6⟩) ?_
          obtain ⟨e1, e2⟩ := Prod.mk.inj (Option.some.inj hG)
          subst e1
          subst e2
          exact Ev.r 1 (fun n => rfl)
    · rw [if_neg c2] at hG
      refine Ev.f (c := x1 < 192) (p1 := 12) (L1 := [.ref 2, .int x1]) (s1 := []) (h1 := hh S) (p2 := 11) (L2 := [.ref 2, .int x1]) (s2 := []) (h2 := hh S) 3 (fun n => B_43_13 n x1 S) c2 ?_
      obtain ⟨e1, e2⟩ := Prod.mk.inj (Option.some.inj hG)
      subst e1
      subst e2
      exact Ev.r 1 (fun n => rfl)
/-- 42: SceneCycle$Screen.reach([IIII)V -/
def G_42 (S : St) (x1 : Nat) (x2 : Int32) (x3 : Int32) (x4 : Int32) : Option (Unit × St) :=
  (match G_100 S x3 x4 with
  | none => none
  | some (v1, S1) =>
    (if v1 = 0 then
      some ((), S1)
    else
      (if (S1.1 2 3) < 192 then
        (if (kd x1).1 = 0 ∧ xa_in ((x4 * 16) + x3) (kd x1).2 then
          (if (S1.1 x1 (((x4 * 16) + x3)).toNatClampNeg) = x2 then
            (if xa_in (S1.1 2 3) 192 then
              (match G_43 (xa_u (xa_u S1.1 5 (((S1.1 2 3)).toNatClampNeg) ((x4 * 16) + x3)) 2 3 (((xa_u S1.1 5 (((S1.1 2 3)).toNatClampNeg) ((x4 * 16) + x3)) 2 3) + 1), S1.2.1, S1.2.2) ((x4 * 16) + x3) with
              | none => none
              | some (v7, S7) =>
                some ((), S7)
              )
            else none)
          else
            some ((), S1)
          )
        else none)
      else
        some ((), S1)
      )
    )
  )
theorem B_42_1 {X : Nat × (Nat → Int32)} {d : Nat} (n : Nat) (x1 : Nat) (x2 : Int32) (x3 : Int32) (x4 : Int32) (S : St) : ex X (d + 1) 42 0 [.ref 2, .ref x1, .int x2, .int x3, .int x4, .retAddr 0] [] (hh S) (n + 3) = (match ex X d 100 0 [.int x3, .int x4] [] (hh S) n with | some (v, h') => ex X (d + 1) 42 6 [.ref 2, .ref x1, .int x2, .int x3, .int x4, .retAddr 0] (v.toList ++ []) h' n | none => none) := rfl
theorem B_42_2 {X : Nat × (Nat → Int32)} {d : Nat} (n : Nat) (x1 : Nat) (x2 : Int32) (x3 : Int32) (x4 : Int32) (v1 : Int32) (S1 : St) : ex X d 42 6 [.ref 2, .ref x1, .int x2, .int x3, .int x4, .retAddr 0] [.int v1] (hh S1) (n + 1) = if v1 = 0 then ex X d 42 19 [.ref 2, .ref x1, .int x2, .int x3, .int x4, .retAddr 0] [] (hh S1) n else ex X d 42 9 [.ref 2, .ref x1, .int x2, .int x3, .int x4, .retAddr 0] [] (hh S1) n := rfl
theorem B_42_3 {X : Nat × (Nat → Int32)} {d : Nat} (n : Nat) (x1 : Nat) (x2 : Int32) (x3 : Int32) (x4 : Int32) (v1 : Int32) (S1 : St) : ex X d 42 6 [.ref 2, .ref x1, .int x2, .int x3, .int x4, .retAddr 0] [.int v1] (hh S1) (n + 1) = if v1 = 0 then ex X d 42 19 [.ref 2, .ref x1, .int x2, .int x3, .int x4, .retAddr 0] [] (hh S1) n else ex X d 42 9 [.ref 2, .ref x1, .int x2, .int x3, .int x4, .retAddr 0] [] (hh S1) n := rfl
theorem B_42_4 {X : Nat × (Nat → Int32)} {d : Nat} (n : Nat) (x1 : Nat) (x2 : Int32) (x3 : Int32) (x4 : Int32) (S1 : St) : ex X d 42 9 [.ref 2, .ref x1, .int x2, .int x3, .int x4, .retAddr 0] [] (hh S1) (n + 4) = if (S1.1 2 3) < 192 then ex X d 42 20 [.ref 2, .ref x1, .int x2, .int x3, .int x4, .retAddr 0] [] (hh S1) n else ex X d 42 19 [.ref 2, .ref x1, .int x2, .int x3, .int x4, .retAddr 0] [] (hh S1) n := rfl
theorem B_42_5 {X : Nat × (Nat → Int32)} {d : Nat} (n : Nat) (x1 : Nat) (x2 : Int32) (x3 : Int32) (x4 : Int32) (S1 : St) : ex X d 42 33 [.ref 2, .ref x1, .int x2, .int x3, .int x4, .int ((x4 * 16) + x3)] [.int (S1.1 x1 (((x4 * 16) + x3)).toNatClampNeg)] (hh S1) (n + 2) = if (S1.1 x1 (((x4 * 16) + x3)).toNatClampNeg) = x2 then ex X d 42 37 [.ref 2, .ref x1, .int x2, .int x3, .int x4, .int ((x4 * 16) + x3)] [] (hh S1) n else ex X d 42 64 [.ref 2, .ref x1, .int x2, .int x3, .int x4, .int ((x4 * 16) + x3)] [] (hh S1) n := rfl
theorem B_42_6 {X : Nat × (Nat → Int32)} {d : Nat} (n : Nat) (x1 : Nat) (x2 : Int32) (x3 : Int32) (x4 : Int32) (S1 : St) : ex X d 42 37 [.ref 2, .ref x1, .int x2, .int x3, .int x4, .int ((x4 * 16) + x3)] [] (hh S1) (n + 6) = if (kd 5).1 = 0 ∧ xa_in (S1.1 2 3) (kd 5).2 then ex X d 42 48 [.ref 2, .ref x1, .int x2, .int x3, .int x4, .int ((x4 * 16) + x3)] [] (hh (xa_u S1.1 5 (((S1.1 2 3)).toNatClampNeg) ((x4 * 16) + x3), S1.2.1, S1.2.2)) n else none := rfl
theorem B_42_7 {X : Nat × (Nat → Int32)} {d : Nat} (n : Nat) (x1 : Nat) (x2 : Int32) (x3 : Int32) (x4 : Int32) (S1 : St) : ex X d 42 48 [.ref 2, .ref x1, .int x2, .int x3, .int x4, .int ((x4 * 16) + x3)] [] (hh (xa_u S1.1 5 (((S1.1 2 3)).toNatClampNeg) ((x4 * 16) + x3), S1.2.1, S1.2.2)) (n + 6) = if (kd 2).1 = 10 + 3 ∧ (xf_k 3 3 = 0 ∨ (xf_k 3 3 = 1 ∧ ((((xa_u S1.1 5 (((S1.1 2 3)).toNatClampNeg) ((x4 * 16) + x3)) 2 3) + 1) = 0 ∨ (((xa_u S1.1 5 (((S1.1 2 3)).toNatClampNeg) ((x4 * 16) + x3)) 2 3) + 1) = 1))) then ex X d 42 58 [.ref 2, .ref x1, .int x2, .int x3, .int x4, .int ((x4 * 16) + x3)] [] (hh (xa_u (xa_u S1.1 5 (((S1.1 2 3)).toNatClampNeg) ((x4 * 16) + x3)) 2 3 (((xa_u S1.1 5 (((S1.1 2 3)).toNatClampNeg) ((x4 * 16) + x3)) 2 3) + 1), S1.2.1, S1.2.2)) n else none := rfl
theorem B_42_8 {X : Nat × (Nat → Int32)} {d : Nat} (n : Nat) (x1 : Nat) (x2 : Int32) (x3 : Int32) (x4 : Int32) (S1 : St) : ex X (d + 1) 42 58 [.ref 2, .ref x1, .int x2, .int x3, .int x4, .int ((x4 * 16) + x3)] [] (hh (xa_u (xa_u S1.1 5 (((S1.1 2 3)).toNatClampNeg) ((x4 * 16) + x3)) 2 3 (((xa_u S1.1 5 (((S1.1 2 3)).toNatClampNeg) ((x4 * 16) + x3)) 2 3) + 1), S1.2.1, S1.2.2)) (n + 3) = (match ex X d 43 0 [.ref 2, .int ((x4 * 16) + x3)] [] (hh (xa_u (xa_u S1.1 5 (((S1.1 2 3)).toNatClampNeg) ((x4 * 16) + x3)) 2 3 (((xa_u S1.1 5 (((S1.1 2 3)).toNatClampNeg) ((x4 * 16) + x3)) 2 3) + 1), S1.2.1, S1.2.2)) n with | some (v, h') => ex X (d + 1) 42 64 [.ref 2, .ref x1, .int x2, .int x3, .int x4, .int ((x4 * 16) + x3)] (v.toList ++ []) h' n | none => none) := rfl
theorem B_42_9 {X : Nat × (Nat → Int32)} {d : Nat} (n : Nat) (x1 : Nat) (x2 : Int32) (x3 : Int32) (x4 : Int32) (S1 : St) : ex X d 42 33 [.ref 2, .ref x1, .int x2, .int x3, .int x4, .int ((x4 * 16) + x3)] [.int (S1.1 x1 (((x4 * 16) + x3)).toNatClampNeg)] (hh S1) (n + 2) = if (S1.1 x1 (((x4 * 16) + x3)).toNatClampNeg) = x2 then ex X d 42 37 [.ref 2, .ref x1, .int x2, .int x3, .int x4, .int ((x4 * 16) + x3)] [] (hh S1) n else ex X d 42 64 [.ref 2, .ref x1, .int x2, .int x3, .int x4, .int ((x4 * 16) + x3)] [] (hh S1) n := rfl
theorem B_42_10 {X : Nat × (Nat → Int32)} {d : Nat} (n : Nat) (x1 : Nat) (x2 : Int32) (x3 : Int32) (x4 : Int32) (S1 : St) : ex X d 42 9 [.ref 2, .ref x1, .int x2, .int x3, .int x4, .retAddr 0] [] (hh S1) (n + 4) = if (S1.1 2 3) < 192 then ex X d 42 20 [.ref 2, .ref x1, .int x2, .int x3, .int x4, .retAddr 0] [] (hh S1) n else ex X d 42 19 [.ref 2, .ref x1, .int x2, .int x3, .int x4, .retAddr 0] [] (hh S1) n := rfl
set_option maxRecDepth 200000 in
theorem T_42 {X : Nat × (Nat → Int32)} (S : St) (x1 : Nat) (x2 : Int32) (x3 : Int32) (x4 : Int32) (r : Unit) (S' : St) (hG : G_42 S x1 x2 x3 x4 = some (r, S')) : Ev X 1 42 0 [.ref 2, .ref x1, .int x2, .int x3, .int x4, .retAddr 0] [] (hh S) (xV r, hh S') := by
  unfold G_42 at hG
  rcases h1 : G_100 S x3 x4 with _ | ⟨v1, S1⟩
  · rw [h1] at hG; cases hG
  rw [h1] at hG
  dsimp only at hG
  refine Ev.c (a := 100) (A := [.int x3, .int x4]) (h1 := hh S) (pc' := 6) (L' := [.ref 2, .ref x1, .int x2, .int x3, .int x4, .retAddr 0]) (rest := []) (r1 := some (.int v1)) (h2 := hh S1) 3 (fun n => B_42_1 n x1 x2 x3 x4 S) (Ev.up (by decide) (T_100 S x3 x4 _ _ h1)) ?_
  show Ev X _ 42 6 [.ref 2, .ref x1, .int x2, .int x3, .int x4, .retAddr 0] [.int v1] (hh S1) _
  by_cases c2 : v1 = 0
  · rw [if_pos c2] at hG
    refine Ev.t (c := v1 = 0) (p1 := 19) (L1 := [.ref 2, .ref x1, .int x2, .int x3, .int x4, .retAddr 0]) (s1 := []) (h1 := hh S1) (p2 := 9) (L2 := [.ref 2, .ref x1, .int x2, .int x3, .int x4, .retAddr 0]) (s2 := []) (h2 := hh S1) 1 (fun n => B_42_2 n x1 x2 x3 x4 v1 S1) c2 ?_
    obtain ⟨e1, e2⟩ := Prod.mk.inj (Option.some.inj hG)
    subst e1
    subst e2
    exact Ev.r 1 (fun n => rfl)
  · rw [if_neg c2] at hG
    refine Ev.f (c := v1 = 0) (p1 := 19) (L1 := [.ref 2, .ref x1, .int x2, .int x3, .int x4, .retAddr 0]) (s1 := []) (h1 := hh S1) (p2 := 9) (L2 := [.ref 2, .ref x1, .int x2, .int x3, .int x4, .retAddr 0]) (s2 := []) (h2 := hh S1) 1 (fun n => B_42_3 n x1 x2 x3 x4 v1 S1) c2 ?_
    by_cases c3 : (S1.1 2 3) < 192
    · rw [if_pos c3] at hG
      refine Ev.t (c := (S1.1 2 3) < 192) (p1 := 20) (L1 := [.ref 2, .ref x1, .int x2, .int x3, .int x4, .retAddr 0]) (s1 := []) (h1 := hh S1) (p2 := 19) (L2 := [.ref 2, .ref x1, .int x2, .int x3, .int x4, .retAddr 0]) (s2 := []) (h2 := hh S1) 4 (fun n => B_42_4 n x1 x2 x3 x4 S1) c3 ?_
      by_cases g4 : (kd x1).1 = 0 ∧ xa_in ((x4 * 16) + x3) (kd x1).2
      rotate_left
      · rw [if_neg g4] at hG; cases hG
      rw [if_pos g4] at hG
      refine Ev.ga (c := (kd x1).1 = 0 ∧ xa_in ((x4 * 16) + x3) (kd x1).2) (p1 := 33) (L1 := [.ref 2, .ref x1, .int x2, .int x3, .int x4, .int ((x4 * 16) + x3)]) (s1 := [.int (S1.1 x1 (((x4 * 16) + x3)).toNatClampNeg)]) (h1 := hh S1) 9 (fun n => rfl) (kd_ne g4.1) g4 ?_
      by_cases c5 : (S1.1 x1 (((x4 * 16) + x3)).toNatClampNeg) = x2
      · rw [if_pos c5] at hG
        refine Ev.t (c := (S1.1 x1 (((x4 * 16) + x3)).toNatClampNeg) = x2) (p1 := 37) (L1 := [.ref 2, .ref x1, .int x2, .int x3, .int x4, .int ((x4 * 16) + x3)]) (s1 := []) (h1 := hh S1) (p2 := 64) (L2 := [.ref 2, .ref x1, .int x2, .int x3, .int x4, .int ((x4 * 16) + x3)]) (s2 := []) (h2 := hh S1) 2 (fun n => B_42_5 n x1 x2 x3 x4 S1) c5 ?_
        by_cases g6 : xa_in (S1.1 2 3) 192
        rotate_left
        · rw [if_neg g6] at hG; cases hG
        rw [if_pos g6] at hG
        refine Ev.g (c := (kd 5).1 = 0 ∧ xa_in (S1.1 2 3) (kd 5).2) (p1 := 48) (L1 := [.ref 2, .ref x1, .int x2, .int x3, .int x4, .int ((x4 * 16) + x3)]) (s1 := []) (h1 := hh (xa_u S1.1 5 (((S1.1 2 3)).toNatClampNeg) ((x4 * 16) + x3), S1.2.1, S1.2.2)) 6 (fun n => B_42_6 n x1 x2 x3 x4 S1) (⟨rfl, g6⟩) ?_
        refine Ev.g (c := (kd 2).1 = 10 + 3 ∧ (xf_k 3 3 = 0 ∨ (xf_k 3 3 = 1 ∧ ((((xa_u S1.1 5 (((S1.1 2 3)).toNatClampNeg) ((x4 * 16) + x3)) 2 3) + 1) = 0 ∨ (((xa_u S1.1 5 (((S1.1 2 3)).toNatClampNeg) ((x4 * 16) + x3)) 2 3) + 1) = 1)))) (p1 := 58) (L1 := [.ref 2, .ref x1, .int x2, .int x3, .int x4, .int ((x4 * 16) + x3)]) (s1 := []) (h1 := hh (xa_u (xa_u S1.1 5 (((S1.1 2 3)).toNatClampNeg) ((x4 * 16) + x3)) 2 3 (((xa_u S1.1 5 (((S1.1 2 3)).toNatClampNeg) ((x4 * 16) + x3)) 2 3) + 1), S1.2.1, S1.2.2)) 6 (fun n => B_42_7 n x1 x2 x3 x4 S1) (⟨rfl, Or.inl rfl⟩) ?_
        rcases h7 : G_43 (xa_u (xa_u S1.1 5 (((S1.1 2 3)).toNatClampNeg) ((x4 * 16) + x3)) 2 3 (((xa_u S1.1 5 (((S1.1 2 3)).toNatClampNeg) ((x4 * 16) + x3)) 2 3) + 1), S1.2.1, S1.2.2) ((x4 * 16) + x3) with _ | ⟨v7, S7⟩
        · rw [h7] at hG; cases hG
        rw [h7] at hG
        dsimp only at hG
        refine Ev.c (a := 43) (A := [.ref 2, .int ((x4 * 16) + x3)]) (h1 := hh (xa_u (xa_u S1.1 5 (((S1.1 2 3)).toNatClampNeg) ((x4 * 16) + x3)) 2 3 (((xa_u S1.1 5 (((S1.1 2 3)).toNatClampNeg) ((x4 * 16) + x3)) 2 3) + 1), S1.2.1, S1.2.2)) (pc' := 64) (L' := [.ref 2, .ref x1, .int x2, .int x3, .int x4, .int ((x4 * 16) + x3)]) (rest := []) (r1 := none) (h2 := hh S7) 3 (fun n => B_42_8 n x1 x2 x3 x4 S1) (Ev.up (by decide) (T_43 (xa_u (xa_u S1.1 5 (((S1.1 2 3)).toNatClampNeg) ((x4 * 16) + x3)) 2 3 (((xa_u S1.1 5 (((S1.1 2 3)).toNatClampNeg) ((x4 * 16) + x3)) 2 3) + 1), S1.2.1, S1.2.2) ((x4 * 16) + x3) _ _ h7)) ?_
        show Ev X _ 42 64 [.ref 2, .ref x1, .int x2, .int x3, .int x4, .int ((x4 * 16) + x3)] [] (hh S7) _
        obtain ⟨e1, e2⟩ := Prod.mk.inj (Option.some.inj hG)
        subst e1
        subst e2
        exact Ev.r 1 (fun n => rfl)
      · rw [if_neg c5] at hG
        refine Ev.f (c := (S1.1 x1 (((x4 * 16) + x3)).toNatClampNeg) = x2) (p1 := 37) (L1 := [.ref 2, .ref x1, .int x2, .int x3, .int x4, .int ((x4 * 16) + x3)]) (s1 := []) (h1 := hh S1) (p2 := 64) (L2 := [.ref 2, .ref x1, .int x2, .int x3, .int x4, .int ((x4 * 16) + x3)]) (s2 := []) (h2 := hh S1) 2 (fun n => B_42_9 n x1 x2 x3 x4 S1) c5 ?_
        obtain ⟨e1, e2⟩ := Prod.mk.inj (Option.some.inj hG)
        subst e1
        subst e2
        exact Ev.r 1 (fun n => rfl)
    · rw [if_neg c3] at hG
      refine Ev.f (c := (S1.1 2 3) < 192) (p1 := 20) (L1 := [.ref 2, .ref x1, .int x2, .int x3, .int x4, .retAddr 0]) (s1 := []) (h1 := hh S1) (p2 := 19) (L2 := [.ref 2, .ref x1, .int x2, .int x3, .int x4, .retAddr 0]) (s2 := []) (h2 := hh S1) 4 (fun n => B_42_10 n x1 x2 x3 x4 S1) c3 ?_
      obtain ⟨e1, e2⟩ := Prod.mk.inj (Option.some.inj hG)
      subst e1
      subst e2
      exact Ev.r 1 (fun n => rfl)
/-- 41: SceneCycle$Screen.spread([IIII)V -/
def GL_41_0 : Nat → St → Nat → Int32 → Int32 → Option (Unit × St)
  | 0, _, _, _, _ => none
  | n + 1, S, y1, y2, y5 =>
    (if 192 ≤ y5 then
      some ((), S)
    else
      (if (S.1 2 3) ≤ y5 then
        some ((), S)
      else
        (if xa_in y5 192 then
          (match G_42 S y1 y2 (((S.1 5 (y5).toNatClampNeg) - (S.1 5 (y5).toNatClampNeg) / 16 * 16) - 1) ((S.1 5 (y5).toNatClampNeg) / 16) with
          | none => none
          | some (v4, S4) =>
            (match G_42 S4 y1 y2 (((S.1 5 (y5).toNatClampNeg) - (S.1 5 (y5).toNatClampNeg) / 16 * 16) + 1) ((S.1 5 (y5).toNatClampNeg) / 16) with
            | none => none
            | some (v5, S5) =>
              (match G_42 S5 y1 y2 ((S.1 5 (y5).toNatClampNeg) - (S.1 5 (y5).toNatClampNeg) / 16 * 16) (((S.1 5 (y5).toNatClampNeg) / 16) - 1) with
              | none => none
              | some (v6, S6) =>
                (match G_42 S6 y1 y2 ((S.1 5 (y5).toNatClampNeg) - (S.1 5 (y5).toNatClampNeg) / 16 * 16) (((S.1 5 (y5).toNatClampNeg) / 16) + 1) with
                | none => none
                | some (v7, S7) =>
                  GL_41_0 n S7 y1 y2 (y5 + 1)
                )
              )
            )
          )
        else none)
      )
    )
theorem B_41_1 {X : Nat × (Nat → Int32)} {d : Nat} (n : Nat) (y1 : Nat) (y2 : Int32) (w3 : Value) (w4 : Value) (y5 : Int32) (w6 : Value) (w7 : Value) (S : St) : ex X d 41 17 [.ref 2, .ref y1, .int y2, w3, w4, .int y5, w6, w7] [] (hh S) (n + 3) = if 192 ≤ y5 then ex X d 41 112 [.ref 2, .ref y1, .int y2, w3, w4, .int y5, w6, w7] [] (hh S) n else ex X d 41 25 [.ref 2, .ref y1, .int y2, w3, w4, .int y5, w6, w7] [] (hh S) n := rfl
theorem B_41_2 {X : Nat × (Nat → Int32)} {d : Nat} (n : Nat) (y1 : Nat) (y2 : Int32) (w3 : Value) (w4 : Value) (y5 : Int32) (w6 : Value) (w7 : Value) (S : St) : ex X d 41 17 [.ref 2, .ref y1, .int y2, w3, w4, .int y5, w6, w7] [] (hh S) (n + 3) = if 192 ≤ y5 then ex X d 41 112 [.ref 2, .ref y1, .int y2, w3, w4, .int y5, w6, w7] [] (hh S) n else ex X d 41 25 [.ref 2, .ref y1, .int y2, w3, w4, .int y5, w6, w7] [] (hh S) n := rfl
theorem B_41_3 {X : Nat × (Nat → Int32)} {d : Nat} (n : Nat) (y1 : Nat) (y2 : Int32) (w3 : Value) (w4 : Value) (y5 : Int32) (w6 : Value) (w7 : Value) (S : St) : ex X d 41 25 [.ref 2, .ref y1, .int y2, w3, w4, .int y5, w6, w7] [] (hh S) (n + 4) = if (S.1 2 3) ≤ y5 then ex X d 41 112 [.ref 2, .ref y1, .int y2, w3, w4, .int y5, w6, w7] [] (hh S) n else ex X d 41 34 [.ref 2, .ref y1, .int y2, w3, w4, .int y5, w6, w7] [] (hh S) n := rfl
theorem B_41_4 {X : Nat × (Nat → Int32)} {d : Nat} (n : Nat) (y1 : Nat) (y2 : Int32) (w3 : Value) (w4 : Value) (y5 : Int32) (w6 : Value) (w7 : Value) (S : St) : ex X d 41 25 [.ref 2, .ref y1, .int y2, w3, w4, .int y5, w6, w7] [] (hh S) (n + 4) = if (S.1 2 3) ≤ y5 then ex X d 41 112 [.ref 2, .ref y1, .int y2, w3, w4, .int y5, w6, w7] [] (hh S) n else ex X d 41 34 [.ref 2, .ref y1, .int y2, w3, w4, .int y5, w6, w7] [] (hh S) n := rfl
theorem B_41_5 {X : Nat × (Nat → Int32)} {d : Nat} (n : Nat) (y1 : Nat) (y2 : Int32) (w3 : Value) (w4 : Value) (y5 : Int32) (w6 : Value) (w7 : Value) (S : St) : ex X d 41 34 [.ref 2, .ref y1, .int y2, w3, w4, .int y5, w6, w7] [] (hh S) (n + 4) = if (kd 5).1 = 0 ∧ xa_in y5 (kd 5).2 then ex X d 41 41 [.ref 2, .ref y1, .int y2, w3, w4, .int y5, w6, w7] [.int (S.1 5 (y5).toNatClampNeg)] (hh S) n else none := rfl
theorem B_41_6 {X : Nat × (Nat → Int32)} {d : Nat} (n : Nat) (y1 : Nat) (y2 : Int32) (w3 : Value) (w4 : Value) (y5 : Int32) (w6 : Value) (w7 : Value) (S : St) : ex X d 41 41 [.ref 2, .ref y1, .int y2, w3, w4, .int y5, w6, w7] [.int (S.1 5 (y5).toNatClampNeg)] (hh S) (n + 2) = if (16 : Int32) = 0 then none else ex X d 41 44 [.ref 2, .ref y1, .int y2, w3, w4, .int y5, w6, w7] [.int ((S.1 5 (y5).toNatClampNeg) - (S.1 5 (y5).toNatClampNeg) / 16 * 16)] (hh S) n := rfl
theorem B_41_7 {X : Nat × (Nat → Int32)} {d : Nat} (n : Nat) (y1 : Nat) (y2 : Int32) (w3 : Value) (w4 : Value) (y5 : Int32) (w6 : Value) (w7 : Value) (S : St) : ex X d 41 44 [.ref 2, .ref y1, .int y2, w3, w4, .int y5, w6, w7] [.int ((S.1 5 (y5).toNatClampNeg) - (S.1 5 (y5).toNatClampNeg) / 16 * 16)] (hh S) (n + 5) = if (kd 5).1 = 0 ∧ xa_in y5 (kd 5).2 then ex X d 41 53 [.ref 2, .ref y1, .int y2, w3, w4, .int y5, .int ((S.1 5 (y5).toNatClampNeg) - (S.1 5 (y5).toNatClampNeg) / 16 * 16), w7] [.int (S.1 5 (y5).toNatClampNeg)] (hh S) n else none := rfl
theorem B_41_8 {X : Nat × (Nat → Int32)} {d : Nat} (n : Nat) (y1 : Nat) (y2 : Int32) (w3 : Value) (w4 : Value) (y5 : Int32) (S : St) (w7 : Value) : ex X d 41 53 [.ref 2, .ref y1, .int y2, w3, w4, .int y5, .int ((S.1 5 (y5).toNatClampNeg) - (S.1 5 (y5).toNatClampNeg) / 16 * 16), w7] [.int (S.1 5 (y5).toNatClampNeg)] (hh S) (n + 2) = if (16 : Int32) = 0 then none else ex X d 41 56 [.ref 2, .ref y1, .int y2, w3, w4, .int y5, .int ((S.1 5 (y5).toNatClampNeg) - (S.1 5 (y5).toNatClampNeg) / 16 * 16), w7] [.int ((S.1 5 (y5).toNatClampNeg) / 16)] (hh S) n := rfl
theorem B_41_9 {X : Nat × (Nat → Int32)} {d : Nat} (n : Nat) (y1 : Nat) (y2 : Int32) (w3 : Value) (w4 : Value) (y5 : Int32) (S : St) (w7 : Value) : ex X (d + 1) 41 56 [.ref 2, .ref y1, .int y2, w3, w4, .int y5, .int ((S.1 5 (y5).toNatClampNeg) - (S.1 5 (y5).toNatClampNeg) / 16 * 16), w7] [.int ((S.1 5 (y5).toNatClampNeg) / 16)] (hh S) (n + 9) = (match ex X d 42 0 [.ref 2, .ref y1, .int y2, .int (((S.1 5 (y5).toNatClampNeg) - (S.1 5 (y5).toNatClampNeg) / 16 * 16) - 1), .int ((S.1 5 (y5).toNatClampNeg) / 16), .retAddr 0] [] (hh S) n with | some (v, h') => ex X (d + 1) 41 70 [.ref 2, .ref y1, .int y2, w3, w4, .int y5, .int ((S.1 5 (y5).toNatClampNeg) - (S.1 5 (y5).toNatClampNeg) / 16 * 16), .int ((S.1 5 (y5).toNatClampNeg) / 16)] (v.toList ++ []) h' n | none => none) := rfl
theorem B_41_10 {X : Nat × (Nat → Int32)} {d : Nat} (n : Nat) (y1 : Nat) (y2 : Int32) (w3 : Value) (w4 : Value) (y5 : Int32) (S : St) (S4 : St) : ex X (d + 1) 41 70 [.ref 2, .ref y1, .int y2, w3, w4, .int y5, .int ((S.1 5 (y5).toNatClampNeg) - (S.1 5 (y5).toNatClampNeg) / 16 * 16), .int ((S.1 5 (y5).toNatClampNeg) / 16)] [] (hh S4) (n + 8) = (match ex X d 42 0 [.ref 2, .ref y1, .int y2, .int (((S.1 5 (y5).toNatClampNeg) - (S.1 5 (y5).toNatClampNeg) / 16 * 16) + 1), .int ((S.1 5 (y5).toNatClampNeg) / 16), .retAddr 0] [] (hh S4) n with | some (v, h') => ex X (d + 1) 41 82 [.ref 2, .ref y1, .int y2, w3, w4, .int y5, .int ((S.1 5 (y5).toNatClampNeg) - (S.1 5 (y5).toNatClampNeg) / 16 * 16), .int ((S.1 5 (y5).toNatClampNeg) / 16)] (v.toList ++ []) h' n | none => none) := rfl
theorem B_41_11 {X : Nat × (Nat → Int32)} {d : Nat} (n : Nat) (y1 : Nat) (y2 : Int32) (w3 : Value) (w4 : Value) (y5 : Int32) (S : St) (S5 : St) : ex X (d + 1) 41 82 [.ref 2, .ref y1, .int y2, w3, w4, .int y5, .int ((S.1 5 (y5).toNatClampNeg) - (S.1 5 (y5).toNatClampNeg) / 16 * 16), .int ((S.1 5 (y5).toNatClampNeg) / 16)] [] (hh S5) (n + 8) = (match ex X d 42 0 [.ref 2, .ref y1, .int y2, .int ((S.1 5 (y5).toNatClampNeg) - (S.1 5 (y5).toNatClampNeg) / 16 * 16), .int (((S.1 5 (y5).toNatClampNeg) / 16) - 1), .retAddr 0] [] (hh S5) n with | some (v, h') => ex X (d + 1) 41 94 [.ref 2, .ref y1, .int y2, w3, w4, .int y5, .int ((S.1 5 (y5).toNatClampNeg) - (S.1 5 (y5).toNatClampNeg) / 16 * 16), .int ((S.1 5 (y5).toNatClampNeg) / 16)] (v.toList ++ []) h' n | none => none) := rfl
theorem B_41_12 {X : Nat × (Nat → Int32)} {d : Nat} (n : Nat) (y1 : Nat) (y2 : Int32) (w3 : Value) (w4 : Value) (y5 : Int32) (S : St) (S6 : St) : ex X (d + 1) 41 94 [.ref 2, .ref y1, .int y2, w3, w4, .int y5, .int ((S.1 5 (y5).toNatClampNeg) - (S.1 5 (y5).toNatClampNeg) / 16 * 16), .int ((S.1 5 (y5).toNatClampNeg) / 16)] [] (hh S6) (n + 8) = (match ex X d 42 0 [.ref 2, .ref y1, .int y2, .int ((S.1 5 (y5).toNatClampNeg) - (S.1 5 (y5).toNatClampNeg) / 16 * 16), .int (((S.1 5 (y5).toNatClampNeg) / 16) + 1), .retAddr 0] [] (hh S6) n with | some (v, h') => ex X (d + 1) 41 106 [.ref 2, .ref y1, .int y2, w3, w4, .int y5, .int ((S.1 5 (y5).toNatClampNeg) - (S.1 5 (y5).toNatClampNeg) / 16 * 16), .int ((S.1 5 (y5).toNatClampNeg) / 16)] (v.toList ++ []) h' n | none => none) := rfl
theorem B_41_13 {X : Nat × (Nat → Int32)} {d : Nat} (n : Nat) (y1 : Nat) (y2 : Int32) (w3 : Value) (w4 : Value) (y5 : Int32) (S : St) (S7 : St) : ex X d 41 106 [.ref 2, .ref y1, .int y2, w3, w4, .int y5, .int ((S.1 5 (y5).toNatClampNeg) - (S.1 5 (y5).toNatClampNeg) / 16 * 16), .int ((S.1 5 (y5).toNatClampNeg) / 16)] [] (hh S7) (n + 2) = ex X d 41 17 [.ref 2, .ref y1, .int y2, w3, w4, .int (y5 + 1), .int ((S.1 5 (y5).toNatClampNeg) - (S.1 5 (y5).toNatClampNeg) / 16 * 16), .int ((S.1 5 (y5).toNatClampNeg) / 16)] [] (hh S7) n := rfl
set_option maxRecDepth 200000 in
theorem TL_41_0 {X : Nat × (Nat → Int32)} : ∀ (n : Nat) (S : St) (y1 : Nat) (y2 : Int32) (y5 : Int32) (r : Unit) (S' : St), GL_41_0 n S y1 y2 y5 = some (r, S') → ∀ (w3 w4 w6 w7 : Value), Ev X 2 41 17 [.ref 2, .ref y1, .int y2, w3, w4, .int y5, w6, w7] [] (hh S) (xV r, hh S') := by
  intro n
  induction n with
  | zero => intro S y1 y2 y5 r S' hG; simp [GL_41_0] at hG
  | succ n ih =>
    intro S y1 y2 y5 r S' hG w3 w4 w6 w7
    rw [GL_41_0] at hG
    by_cases c1 : 192 ≤ y5
    · rw [if_pos c1] at hG
      refine Ev.t (c := 192 ≤ y5) (p1 := 112) (L1 := [.ref 2, .ref y1, .int y2, w3, w4, .int y5, w6, w7]) (s1 := []) (h1 := hh S) (p2 := 25) (L2 := [.ref 2, .ref y1, .int y2, w3, w4, .int y5, w6, w7]) (s2 := []) (h2 := hh S) 3 (fun n => B_41_1 n y1 y2 w3 w4 y5 w6 w7 S) c1 ?_
      obtain ⟨e1, e2⟩ := Prod.mk.inj (Option.some.inj hG)
      subst e1
      subst e2
      exact Ev.r 1 (fun n => rfl)
    · rw [if_neg c1] at hG
      refine Ev.f (c := 192 ≤ y5) (p1 := 112) (L1 := [.ref 2, .ref y1, .int y2, w3, w4, .int y5, w6, w7]) (s1 := []) (h1 := hh S) (p2 := 25) (L2 := [.ref 2, .ref y1, .int y2, w3, w4, .int y5, w6, w7]) (s2 := []) (h2 := hh S) 3 (fun n => B_41_2 n y1 y2 w3 w4 y5 w6 w7 S) c1 ?_
      by_cases c2 : (S.1 2 3) ≤ y5
      · rw [if_pos c2] at hG
        refine Ev.t (c := (S.1 2 3) ≤ y5) (p1 := 112) (L1 := [.ref 2, .ref y1, .int y2, w3, w4, .int y5, w6, w7]) (s1 := []) (h1 := hh S) (p2 := 34) (L2 := [.ref 2, .ref y1, .int y2, w3, w4, .int y5, w6, w7]) (s2 := []) (h2 := hh S) 4 (fun n => B_41_3 n y1 y2 w3 w4 y5 w6 w7 S) c2 ?_
        obtain ⟨e1, e2⟩ := Prod.mk.inj (Option.some.inj hG)
        subst e1
        subst e2
        exact Ev.r 1 (fun n => rfl)
      · rw [if_neg c2] at hG
        refine Ev.f (c := (S.1 2 3) ≤ y5) (p1 := 112) (L1 := [.ref 2, .ref y1, .int y2, w3, w4, .int y5, w6, w7]) (s1 := []) (h1 := hh S) (p2 := 34) (L2 := [.ref 2, .ref y1, .int y2, w3, w4, .int y5, w6, w7]) (s2 := []) (h2 := hh S) 4 (fun n => B_41_4 n y1 y2 w3 w4 y5 w6 w7 S) c2 ?_
        by_cases g3 : xa_in y5 192
        rotate_left
        · rw [if_neg g3] at hG; cases hG
        rw [if_pos g3] at hG
        refine Ev.g (c := (kd 5).1 = 0 ∧ xa_in y5 (kd 5).2) (p1 := 41) (L1 := [.ref 2, .ref y1, .int y2, w3, w4, .int y5, w6, w7]) (s1 := [.int (S.1 5 (y5).toNatClampNeg)]) (h1 := hh S) 4 (fun n => B_41_5 n y1 y2 w3 w4 y5 w6 w7 S) (⟨rfl, g3⟩) ?_
        refine Ev.z (c := (16 : Int32) = 0) (p1 := 44) (L1 := [.ref 2, .ref y1, .int y2, w3, w4, .int y5, w6, w7]) (s1 := [.int ((S.1 5 (y5).toNatClampNeg) - (S.1 5 (y5).toNatClampNeg) / 16 * 16)]) (h1 := hh S) 2 (fun n => B_41_6 n y1 y2 w3 w4 y5 w6 w7 S) (by decide) ?_
        refine Ev.g (c := (kd 5).1 = 0 ∧ xa_in y5 (kd 5).2) (p1 := 53) (L1 := [.ref 2, .ref y1, .int y2, w3, w4, .int y5, .int ((S.1 5 (y5).toNatClampNeg) - (S.1 5 (y5).toNatClampNeg) / 16 * 16), w7]) (s1 := [.int (S.1 5 (y5).toNatClampNeg)]) (h1 := hh S) 5 (fun n => B_41_7 n y1 y2 w3 w4 y5 w6 w7 S) (⟨rfl, g3⟩) ?_
        refine Ev.z (c := (16 : Int32) = 0) (p1 := 56) (L1 := [.ref 2, .ref y1, .int y2, w3, w4, .int y5, .int ((S.1 5 (y5).toNatClampNeg) - (S.1 5 (y5).toNatClampNeg) / 16 * 16), w7]) (s1 := [.int ((S.1 5 (y5).toNatClampNeg) / 16)]) (h1 := hh S) 2 (fun n => B_41_8 n y1 y2 w3 w4 y5 S w7) (by decide) ?_
        rcases h4 : G_42 S y1 y2 (((S.1 5 (y5).toNatClampNeg) - (S.1 5 (y5).toNatClampNeg) / 16 * 16) - 1) ((S.1 5 (y5).toNatClampNeg) / 16) with _ | ⟨v4, S4⟩
        · rw [h4] at hG; cases hG
        rw [h4] at hG
        dsimp only at hG
        refine Ev.c (a := 42) (A := [.ref 2, .ref y1, .int y2, .int (((S.1 5 (y5).toNatClampNeg) - (S.1 5 (y5).toNatClampNeg) / 16 * 16) - 1), .int ((S.1 5 (y5).toNatClampNeg) / 16), .retAddr 0]) (h1 := hh S) (pc' := 70) (L' := [.ref 2, .ref y1, .int y2, w3, w4, .int y5, .int ((S.1 5 (y5).toNatClampNeg) - (S.1 5 (y5).toNatClampNeg) / 16 * 16), .int ((S.1 5 (y5).toNatClampNeg) / 16)]) (rest := []) (r1 := none) (h2 := hh S4) 9 (fun n => B_41_9 n y1 y2 w3 w4 y5 S w7) (Ev.up (by decide) (T_42 S y1 y2 (((S.1 5 (y5).toNatClampNeg) - (S.1 5 (y5).toNatClampNeg) / 16 * 16) - 1) ((S.1 5 (y5).toNatClampNeg) / 16) _ _ h4)) ?_
        show Ev X _ 41 70 [.ref 2, .ref y1, .int y2, w3, w4, .int y5, .int ((S.1 5 (y5).toNatClampNeg) - (S.1 5 (y5).toNatClampNeg) / 16 * 16), .int ((S.1 5 (y5).toNatClampNeg) / 16)] [] (hh S4) _
        rcases h5 : G_42 S4 y1 y2 (((S.1 5 (y5).toNatClampNeg) - (S.1 5 (y5).toNatClampNeg) / 16 * 16) + 1) ((S.1 5 (y5).toNatClampNeg) / 16) with _ | ⟨v5, S5⟩
        · rw [h5] at hG; cases hG
        rw [h5] at hG
        dsimp only at hG
        refine Ev.c (a := 42) (A := [.ref 2, .ref y1, .int y2, .int (((S.1 5 (y5).toNatClampNeg) - (S.1 5 (y5).toNatClampNeg) / 16 * 16) + 1), .int ((S.1 5 (y5).toNatClampNeg) / 16), .retAddr 0]) (h1 := hh S4) (pc' := 82) (L' := [.ref 2, .ref y1, .int y2, w3, w4, .int y5, .int ((S.1 5 (y5).toNatClampNeg) - (S.1 5 (y5).toNatClampNeg) / 16 * 16), .int ((S.1 5 (y5).toNatClampNeg) / 16)]) (rest := []) (r1 := none) (h2 := hh S5) 8 (fun n => B_41_10 n y1 y2 w3 w4 y5 S S4) (Ev.up (by decide) (T_42 S4 y1 y2 (((S.1 5 (y5).toNatClampNeg) - (S.1 5 (y5).toNatClampNeg) / 16 * 16) + 1) ((S.1 5 (y5).toNatClampNeg) / 16) _ _ h5)) ?_
        show Ev X _ 41 82 [.ref 2, .ref y1, .int y2, w3, w4, .int y5, .int ((S.1 5 (y5).toNatClampNeg) - (S.1 5 (y5).toNatClampNeg) / 16 * 16), .int ((S.1 5 (y5).toNatClampNeg) / 16)] [] (hh S5) _
        rcases h6 : G_42 S5 y1 y2 ((S.1 5 (y5).toNatClampNeg) - (S.1 5 (y5).toNatClampNeg) / 16 * 16) (((S.1 5 (y5).toNatClampNeg) / 16) - 1) with _ | ⟨v6, S6⟩
        · rw [h6] at hG; cases hG
        rw [h6] at hG
        dsimp only at hG
        refine Ev.c (a := 42) (A := [.ref 2, .ref y1, .int y2, .int ((S.1 5 (y5).toNatClampNeg) - (S.1 5 (y5).toNatClampNeg) / 16 * 16), .int (((S.1 5 (y5).toNatClampNeg) / 16) - 1), .retAddr 0]) (h1 := hh S5) (pc' := 94) (L' := [.ref 2, .ref y1, .int y2, w3, w4, .int y5, .int ((S.1 5 (y5).toNatClampNeg) - (S.1 5 (y5).toNatClampNeg) / 16 * 16), .int ((S.1 5 (y5).toNatClampNeg) / 16)]) (rest := []) (r1 := none) (h2 := hh S6) 8 (fun n => B_41_11 n y1 y2 w3 w4 y5 S S5) (Ev.up (by decide) (T_42 S5 y1 y2 ((S.1 5 (y5).toNatClampNeg) - (S.1 5 (y5).toNatClampNeg) / 16 * 16) (((S.1 5 (y5).toNatClampNeg) / 16) - 1) _ _ h6)) ?_
        show Ev X _ 41 94 [.ref 2, .ref y1, .int y2, w3, w4, .int y5, .int ((S.1 5 (y5).toNatClampNeg) - (S.1 5 (y5).toNatClampNeg) / 16 * 16), .int ((S.1 5 (y5).toNatClampNeg) / 16)] [] (hh S6) _
        rcases h7 : G_42 S6 y1 y2 ((S.1 5 (y5).toNatClampNeg) - (S.1 5 (y5).toNatClampNeg) / 16 * 16) (((S.1 5 (y5).toNatClampNeg) / 16) + 1) with _ | ⟨v7, S7⟩
        · rw [h7] at hG; cases hG
        rw [h7] at hG
        dsimp only at hG
        refine Ev.c (a := 42) (A := [.ref 2, .ref y1, .int y2, .int ((S.1 5 (y5).toNatClampNeg) - (S.1 5 (y5).toNatClampNeg) / 16 * 16), .int (((S.1 5 (y5).toNatClampNeg) / 16) + 1), .retAddr 0]) (h1 := hh S6) (pc' := 106) (L' := [.ref 2, .ref y1, .int y2, w3, w4, .int y5, .int ((S.1 5 (y5).toNatClampNeg) - (S.1 5 (y5).toNatClampNeg) / 16 * 16), .int ((S.1 5 (y5).toNatClampNeg) / 16)]) (rest := []) (r1 := none) (h2 := hh S7) 8 (fun n => B_41_12 n y1 y2 w3 w4 y5 S S6) (Ev.up (by decide) (T_42 S6 y1 y2 ((S.1 5 (y5).toNatClampNeg) - (S.1 5 (y5).toNatClampNeg) / 16 * 16) (((S.1 5 (y5).toNatClampNeg) / 16) + 1) _ _ h7)) ?_
        show Ev X _ 41 106 [.ref 2, .ref y1, .int y2, w3, w4, .int y5, .int ((S.1 5 (y5).toNatClampNeg) - (S.1 5 (y5).toNatClampNeg) / 16 * 16), .int ((S.1 5 (y5).toNatClampNeg) / 16)] [] (hh S7) _
        exact Ev.b (pc' := 17) (L' := [.ref 2, .ref y1, .int y2, w3, w4, .int (y5 + 1), .int ((S.1 5 (y5).toNatClampNeg) - (S.1 5 (y5).toNatClampNeg) / 16 * 16), .int ((S.1 5 (y5).toNatClampNeg) / 16)]) (st' := []) (h' := hh S7) 2 (fun n => B_41_13 n y1 y2 w3 w4 y5 S S7) (ih S7 y1 y2 (y5 + 1) _ _ hG w3 w4 (.int ((S.1 5 (y5).toNatClampNeg) - (S.1 5 (y5).toNatClampNeg) / 16 * 16)) (.int ((S.1 5 (y5).toNatClampNeg) / 16)))
def G_41 (S : St) (x1 : Nat) (x2 : Int32) (x3 : Int32) (x4 : Int32) : Option (Unit × St) :=
  (match G_42 (xa_u S.1 2 3 0, S.2.1, S.2.2) x1 x2 x3 x4 with
  | none => none
  | some (v8, S8) =>
    GL_41_0 xFu S8 x1 x2 (0 : Int32)
  )
theorem B_41_14 {X : Nat × (Nat → Int32)} {d : Nat} (n : Nat) (x1 : Nat) (x2 : Int32) (x3 : Int32) (x4 : Int32) (S : St) : ex X d 41 0 [.ref 2, .ref x1, .int x2, .int x3, .int x4, .retAddr 0, .retAddr 0, .retAddr 0] [] (hh S) (n + 3) = if (kd 2).1 = 10 + 3 ∧ (xf_k 3 3 = 0 ∨ (xf_k 3 3 = 1 ∧ ((0 : Int32) = 0 ∨ (0 : Int32) = 1))) then ex X d 41 5 [.ref 2, .ref x1, .int x2, .int x3, .int x4, .retAddr 0, .retAddr 0, .retAddr 0] [] (hh (xa_u S.1 2 3 0, S.2.1, S.2.2)) n else none := rfl
theorem B_41_15 {X : Nat × (Nat → Int32)} {d : Nat} (n : Nat) (x1 : Nat) (x2 : Int32) (x3 : Int32) (x4 : Int32) (S : St) : ex X (d + 1) 41 5 [.ref 2, .ref x1, .int x2, .int x3, .int x4, .retAddr 0, .retAddr 0, .retAddr 0] [] (hh (xa_u S.1 2 3 0, S.2.1, S.2.2)) (n + 6) = (match ex X d 42 0 [.ref 2, .ref x1, .int x2, .int x3, .int x4, .retAddr 0] [] (hh (xa_u S.1 2 3 0, S.2.1, S.2.2)) n with | some (v, h') => ex X (d + 1) 41 14 [.ref 2, .ref x1, .int x2, .int x3, .int x4, .retAddr 0, .retAddr 0, .retAddr 0] (v.toList ++ []) h' n | none => none) := rfl
theorem B_41_16 {X : Nat × (Nat → Int32)} {d : Nat} (n : Nat) (x1 : Nat) (x2 : Int32) (x3 : Int32) (x4 : Int32) (S8 : St) : ex X d 41 14 [.ref 2, .ref x1, .int x2, .int x3, .int x4, .retAddr 0, .retAddr 0, .retAddr 0] [] (hh S8) (n + 2) = ex X d 41 17 [.ref 2, .ref x1, .int x2, .int x3, .int x4, .int 0, .retAddr 0, .retAddr 0] [] (hh S8) n := rfl
set_option maxRecDepth 200000 in
theorem T_41 {X : Nat × (Nat → Int32)} (S : St) (x1 : Nat) (x2 : Int32) (x3 : Int32) (x4 : Int32) (r : Unit) (S' : St) (hG : G_41 S x1 x2 x3 x4 = some (r, S')) : Ev X 2 41 0 [.ref 2, .ref x1, .int x2, .int x3, .int x4, .retAddr 0, .retAddr 0, .retAddr 0] [] (hh S) (xV r, hh S') := by
  unfold G_41 at hG
  refine Ev.g (c := (kd 2).1 = 10 + 3 ∧ (xf_k 3 3 = 0 ∨ (xf_k 3 3 = 1 ∧ ((0 : Int32) = 0 ∨ (0 : Int32) = 1)))) (p1 := 5) (L1 := [.ref 2, .ref x1, .int x2, .int x3, .int x4, .retAddr 0, .retAddr 0, .retAddr 0]) (s1 := []) (h1 := hh (xa_u S.1 2 3 0, S.2.1, S.2.2)) 3 (fun n => B_41_14 n x1 x2 x3 x4 S) (⟨rfl, Or.inl rfl⟩) ?_
  rcases h8 : G_42 (xa_u S.1 2 3 0, S.2.1, S.2.2) x1 x2 x3 x4 with _ | ⟨v8, S8⟩
  · rw [h8] at hG; cases hG
  rw [h8] at hG
  dsimp only at hG
  refine Ev.c (a := 42) (A := [.ref 2, .ref x1, .int x2, .int x3, .int x4, .retAddr 0]) (h1 := hh (xa_u S.1 2 3 0, S.2.1, S.2.2)) (pc' := 14) (L' := [.ref 2, .ref x1, .int x2, .int x3, .int x4, .retAddr 0, .retAddr 0, .retAddr 0]) (rest := []) (r1 := none) (h2 := hh S8) 6 (fun n => B_41_15 n x1 x2 x3 x4 S) (Ev.up (by decide) (T_42 (xa_u S.1 2 3 0, S.2.1, S.2.2) x1 x2 x3 x4 _ _ h8)) ?_
  show Ev X _ 41 14 [.ref 2, .ref x1, .int x2, .int x3, .int x4, .retAddr 0, .retAddr 0, .retAddr 0] [] (hh S8) _
  exact Ev.b (pc' := 17) (L' := [.ref 2, .ref x1, .int x2, .int x3, .int x4, .int 0, .retAddr 0, .retAddr 0]) (st' := []) (h' := hh S8) 2 (fun n => B_41_16 n x1 x2 x3 x4 S8) (TL_41_0 xFu S8 x1 x2 (0 : Int32) _ _ hG (.int x3) (.int x4) (.retAddr 0) (.retAddr 0))
/-- 40: SceneCycle$Screen.fill(II)V -/
def G_40 (S : St) (x1 : Int32) (x2 : Int32) : Option (Unit × St) :=
  (if (S.1 2 5) = (-1) then
    (if (S.1 2 6) = (-1) then
      some ((), S)
    else
      (if (S.1 2 6) = 4 then
        some ((), S)
      else
        (match G_41 S 4 (4 : Int32) x1 x2 with
        | none => none
        | some (v4, S4) =>
          some ((), S4)
        )
      )
    )
  else
    (if (S.1 2 5) = 15 then
      some ((), S)
    else
      (match G_41 S 3 (15 : Int32) x1 x2 with
      | none => none
      | some (v6, S6) =>
        some ((), S6)
      )
    )
  )
theorem B_40_1 {X : Nat × (Nat → Int32)} {d : Nat} (n : Nat) (x1 : Int32) (x2 : Int32) (S : St) : ex X d 40 0 [.ref 2, .int x1, .int x2] [] (hh S) (n + 4) = if (S.1 2 5) = (-1) then ex X d 40 32 [.ref 2, .int x1, .int x2] [] (hh S) n else ex X d 40 8 [.ref 2, .int x1, .int x2] [] (hh S) n := rfl
theorem B_40_2 {X : Nat × (Nat → Int32)} {d : Nat} (n : Nat) (x1 : Int32) (x2 : Int32) (S : St) : ex X d 40 32 [.ref 2, .int x1, .int x2] [] (hh S) (n + 4) = if (S.1 2 6) = (-1) then ex X d 40 59 [.ref 2, .int x1, .int x2] [] (hh S) n else ex X d 40 40 [.ref 2, .int x1, .int x2] [] (hh S) n := rfl
theorem B_40_3 {X : Nat × (Nat → Int32)} {d : Nat} (n : Nat) (x1 : Int32) (x2 : Int32) (S : St) : ex X d 40 32 [.ref 2, .int x1, .int x2] [] (hh S) (n + 4) = if (S.1 2 6) = (-1) then ex X d 40 59 [.ref 2, .int x1, .int x2] [] (hh S) n else ex X d 40 40 [.ref 2, .int x1, .int x2] [] (hh S) n := rfl
theorem B_40_4 {X : Nat × (Nat → Int32)} {d : Nat} (n : Nat) (x1 : Int32) (x2 : Int32) (S : St) : ex X d 40 40 [.ref 2, .int x1, .int x2] [] (hh S) (n + 4) = if (S.1 2 6) = 4 then ex X d 40 59 [.ref 2, .int x1, .int x2] [] (hh S) n else ex X d 40 48 [.ref 2, .int x1, .int x2] [] (hh S) n := rfl
theorem B_40_5 {X : Nat × (Nat → Int32)} {d : Nat} (n : Nat) (x1 : Int32) (x2 : Int32) (S : St) : ex X d 40 40 [.ref 2, .int x1, .int x2] [] (hh S) (n + 4) = if (S.1 2 6) = 4 then ex X d 40 59 [.ref 2, .int x1, .int x2] [] (hh S) n else ex X d 40 48 [.ref 2, .int x1, .int x2] [] (hh S) n := rfl
theorem B_40_6 {X : Nat × (Nat → Int32)} {d : Nat} (n : Nat) (x1 : Int32) (x2 : Int32) (S : St) : ex X (d + 1) 40 48 [.ref 2, .int x1, .int x2] [] (hh S) (n + 7) = (match ex X d 41 0 [.ref 2, .ref 4, .int 4, .int x1, .int x2, .retAddr 0, .retAddr 0, .retAddr 0] [] (hh S) n with | some (v, h') => ex X (d + 1) 40 59 [.ref 2, .int x1, .int x2] (v.toList ++ []) h' n | none => none) := rfl
theorem B_40_7 {X : Nat × (Nat → Int32)} {d : Nat} (n : Nat) (x1 : Int32) (x2 : Int32) (S : St) : ex X d 40 0 [.ref 2, .int x1, .int x2] [] (hh S) (n + 4) = if (S.1 2 5) = (-1) then ex X d 40 32 [.ref 2, .int x1, .int x2] [] (hh S) n else ex X d 40 8 [.ref 2, .int x1, .int x2] [] (hh S) n := rfl
theorem B_40_8 {X : Nat × (Nat → Int32)} {d : Nat} (n : Nat) (x1 : Int32) (x2 : Int32) (S : St) : ex X d 40 8 [.ref 2, .int x1, .int x2] [] (hh S) (n + 4) = if (S.1 2 5) = 15 then ex X d 40 59 [.ref 2, .int x1, .int x2] [] (hh S) n else ex X d 40 17 [.ref 2, .int x1, .int x2] [] (hh S) n := rfl
theorem B_40_9 {X : Nat × (Nat → Int32)} {d : Nat} (n : Nat) (x1 : Int32) (x2 : Int32) (S : St) : ex X d 40 8 [.ref 2, .int x1, .int x2] [] (hh S) (n + 4) = if (S.1 2 5) = 15 then ex X d 40 59 [.ref 2, .int x1, .int x2] [] (hh S) n else ex X d 40 17 [.ref 2, .int x1, .int x2] [] (hh S) n := rfl
theorem B_40_10 {X : Nat × (Nat → Int32)} {d : Nat} (n : Nat) (x1 : Int32) (x2 : Int32) (S : St) : ex X (d + 1) 40 17 [.ref 2, .int x1, .int x2] [] (hh S) (n + 7) = (match ex X d 41 0 [.ref 2, .ref 3, .int 15, .int x1, .int x2, .retAddr 0, .retAddr 0, .retAddr 0] [] (hh S) n with | some (v, h') => ex X (d + 1) 40 29 [.ref 2, .int x1, .int x2] (v.toList ++ []) h' n | none => none) := rfl
set_option maxRecDepth 200000 in
theorem T_40 {X : Nat × (Nat → Int32)} (S : St) (x1 : Int32) (x2 : Int32) (r : Unit) (S' : St) (hG : G_40 S x1 x2 = some (r, S')) : Ev X 3 40 0 [.ref 2, .int x1, .int x2] [] (hh S) (xV r, hh S') := by
  unfold G_40 at hG
  by_cases c1 : (S.1 2 5) = (-1)
  · rw [if_pos c1] at hG
    refine Ev.t (c := (S.1 2 5) = (-1)) (p1 := 32) (L1 := [.ref 2, .int x1, .int x2]) (s1 := []) (h1 := hh S) (p2 := 8) (L2 := [.ref 2, .int x1, .int x2]) (s2 := []) (h2 := hh S) 4 (fun n => B_40_1 n x1 x2 S) c1 ?_
    by_cases c2 : (S.1 2 6) = (-1)
    · rw [if_pos c2] at hG
      refine Ev.t (c := (S.1 2 6) = (-1)) (p1 := 59) (L1 := [.ref 2, .int x1, .int x2]) (s1 := []) (h1 := hh S) (p2 := 40) (L2 := [.ref 2, .int x1, .int x2]) (s2 := []) (h2 := hh S) 4 (fun n => B_40_2 n x1 x2 S) c2 ?_
      obtain ⟨e1, e2⟩ := Prod.mk.inj (Option.some.inj hG)
      subst e1
      subst e2
      exact Ev.r 1 (fun n => rfl)
    · rw [if_neg c2] at hG
      refine Ev.f (c := (S.1 2 6) = (-1)) (p1 := 59) (L1 := [.ref 2, .int x1, .int x2]) (s1 := []) (h1 := hh S) (p2 := 40) (L2 := [.ref 2, .int x1, .int x2]) (s2 := []) (h2 := hh S) 4 (fun n => B_40_3 n x1 x2 S) c2 ?_
      by_cases c3 : (S.1 2 6) = 4
      · rw [if_pos c3] at hG
        refine Ev.t (c := (S.1 2 6) = 4) (p1 := 59) (L1 := [.ref 2, .int x1, .int x2]) (s1 := []) (h1 := hh S) (p2 := 48) (L2 := [.ref 2, .int x1, .int x2]) (s2 := []) (h2 := hh S) 4 (fun n => B_40_4 n x1 x2 S) c3 ?_
        obtain ⟨e1, e2⟩ := Prod.mk.inj (Option.some.inj hG)
        subst e1
        subst e2
        exact Ev.r 1 (fun n => rfl)
      · rw [if_neg c3] at hG
        refine Ev.f (c := (S.1 2 6) = 4) (p1 := 59) (L1 := [.ref 2, .int x1, .int x2]) (s1 := []) (h1 := hh S) (p2 := 48) (L2 := [.ref 2, .int x1, .int x2]) (s2 := []) (h2 := hh S) 4 (fun n => B_40_5 n x1 x2 S) c3 ?_
        rcases h4 : G_41 S 4 (4 : Int32) x1 x2 with _ | ⟨v4, S4⟩
        · rw [h4] at hG; cases hG
        rw [h4] at hG
        dsimp only at hG
        refine Ev.c (a := 41) (A := [.ref 2, .ref 4, .int 4, .int x1, .int x2, .retAddr 0, .retAddr 0, .retAddr 0]) (h1 := hh S) (pc' := 59) (L' := [.ref 2, .int x1, .int x2]) (rest := []) (r1 := none) (h2 := hh S4) 7 (fun n => B_40_6 n x1 x2 S) (Ev.up (by decide) (T_41 S 4 (4 : Int32) x1 x2 _ _ h4)) ?_
        show Ev X _ 40 59 [.ref 2, .int x1, .int x2] [] (hh S4) _
        obtain ⟨e1, e2⟩ := Prod.mk.inj (Option.some.inj hG)
        subst e1
        subst e2
        exact Ev.r 1 (fun n => rfl)
  · rw [if_neg c1] at hG
    refine Ev.f (c := (S.1 2 5) = (-1)) (p1 := 32) (L1 := [.ref 2, .int x1, .int x2]) (s1 := []) (h1 := hh S) (p2 := 8) (L2 := [.ref 2, .int x1, .int x2]) (s2 := []) (h2 := hh S) 4 (fun n => B_40_7 n x1 x2 S) c1 ?_
    by_cases c5 : (S.1 2 5) = 15
    · rw [if_pos c5] at hG
      refine Ev.t (c := (S.1 2 5) = 15) (p1 := 59) (L1 := [.ref 2, .int x1, .int x2]) (s1 := []) (h1 := hh S) (p2 := 17) (L2 := [.ref 2, .int x1, .int x2]) (s2 := []) (h2 := hh S) 4 (fun n => B_40_8 n x1 x2 S) c5 ?_
      obtain ⟨e1, e2⟩ := Prod.mk.inj (Option.some.inj hG)
      subst e1
      subst e2
      exact Ev.r 1 (fun n => rfl)
    · rw [if_neg c5] at hG
      refine Ev.f (c := (S.1 2 5) = 15) (p1 := 59) (L1 := [.ref 2, .int x1, .int x2]) (s1 := []) (h1 := hh S) (p2 := 17) (L2 := [.ref 2, .int x1, .int x2]) (s2 := []) (h2 := hh S) 4 (fun n => B_40_9 n x1 x2 S) c5 ?_
      rcases h6 : G_41 S 3 (15 : Int32) x1 x2 with _ | ⟨v6, S6⟩
      · rw [h6] at hG; cases hG
      rw [h6] at hG
      dsimp only at hG
      refine Ev.c (a := 41) (A := [.ref 2, .ref 3, .int 15, .int x1, .int x2, .retAddr 0, .retAddr 0, .retAddr 0]) (h1 := hh S) (pc' := 29) (L' := [.ref 2, .int x1, .int x2]) (rest := []) (r1 := none) (h2 := hh S6) 7 (fun n => B_40_10 n x1 x2 S) (Ev.up (by decide) (T_41 S 3 (15 : Int32) x1 x2 _ _ h6)) ?_
      show Ev X _ 40 29 [.ref 2, .int x1, .int x2] [] (hh S6) _
      obtain ⟨e1, e2⟩ := Prod.mk.inj (Option.some.inj hG)
      subst e1
      subst e2
      exact Ev.r 2 (fun n => rfl)
/-- 44: SceneCycle$Screen.line(IIII)V -/
def GL_44_0 : Nat → St → Int32 → Int32 → Int32 → Int32 → Int32 → Int32 → Option (Unit × St)
  | 0, _, _, _, _, _, _, _ => none
  | n + 1, S, y1, y2, y3, y4, y5, y6 =>
    (if y5 < y6 then
      some ((), S)
    else
      (match G_4 S (((2 * y6) * (y3 - y1)) + y5) (2 * y5) with
      | none => none
      | some (v2, S2) =>
        (match G_4 S2 (((2 * y6) * (y4 - y2)) + y5) (2 * y5) with
        | none => none
        | some (v3, S3) =>
          (match G_43 S3 (((y2 + v3) * 16) + (y1 + v2)) with
          | none => none
          | some (v4, S4) =>
            GL_44_0 n S4 y1 y2 y3 y4 y5 (y6 + 1)
          )
        )
      )
    )
theorem B_44_1 {X : Nat × (Nat → Int32)} {d : Nat} (n : Nat) (y1 : Int32) (y2 : Int32) (y3 : Int32) (y4 : Int32) (y5 : Int32) (y6 : Int32) (w7 : Value) (w8 : Value) (S : St) : ex X d 44 31 [.ref 2, .int y1, .int y2, .int y3, .int y4, .int y5, .int y6, w7, w8] [] (hh S) (n + 3) = if y5 < y6 then ex X d 44 101 [.ref 2, .int y1, .int y2, .int y3, .int y4, .int y5, .int y6, w7, w8] [] (hh S) n else ex X d 44 38 [.ref 2, .int y1, .int y2, .int y3, .int y4, .int y5, .int y6, w7, w8] [] (hh S) n := rfl
theorem B_44_2 {X : Nat × (Nat → Int32)} {d : Nat} (n : Nat) (y1 : Int32) (y2 : Int32) (y3 : Int32) (y4 : Int32) (y5 : Int32) (y6 : Int32) (w7 : Value) (w8 : Value) (S : St) : ex X d 44 31 [.ref 2, .int y1, .int y2, .int y3, .int y4, .int y5, .int y6, w7, w8] [] (hh S) (n + 3) = if y5 < y6 then ex X d 44 101 [.ref 2, .int y1, .int y2, .int y3, .int y4, .int y5, .int y6, w7, w8] [] (hh S) n else ex X d 44 38 [.ref 2, .int y1, .int y2, .int y3, .int y4, .int y5, .int y6, w7, w8] [] (hh S) n := rfl
theorem B_44_3 {X : Nat × (Nat → Int32)} {d : Nat} (n : Nat) (y1 : Int32) (y2 : Int32) (y3 : Int32) (y4 : Int32) (y5 : Int32) (y6 : Int32) (w7 : Value) (w8 : Value) (S : St) : ex X (d + 1) 44 38 [.ref 2, .int y1, .int y2, .int y3, .int y4, .int y5, .int y6, w7, w8] [] (hh S) (n + 14) = (match ex X d 4 0 [.int (((2 * y6) * (y3 - y1)) + y5), .int (2 * y5), .retAddr 0] [] (hh S) n with | some (v, h') => ex X (d + 1) 44 57 [.ref 2, .int y1, .int y2, .int y3, .int y4, .int y5, .int y6, w7, w8] (v.toList ++ [.int y1]) h' n | none => none) := rfl
theorem B_44_4 {X : Nat × (Nat → Int32)} {d : Nat} (n : Nat) (y1 : Int32) (y2 : Int32) (y3 : Int32) (y4 : Int32) (y5 : Int32) (y6 : Int32) (w7 : Value) (w8 : Value) (v2 : Int32) (S2 : St) : ex X (d + 1) 44 57 [.ref 2, .int y1, .int y2, .int y3, .int y4, .int y5, .int y6, w7, w8] [.int v2, .int y1] (hh S2) (n + 16) = (match ex X d 4 0 [.int (((2 * y6) * (y4 - y2)) + y5), .int (2 * y5), .retAddr 0] [] (hh S2) n with | some (v, h') => ex X (d + 1) 44 80 [.ref 2, .int y1, .int y2, .int y3, .int y4, .int y5, .int y6, .int (y1 + v2), w8] (v.toList ++ [.int y2]) h' n | none => none) := rfl
theorem B_44_5 {X : Nat × (Nat → Int32)} {d : Nat} (n : Nat) (y1 : Int32) (y2 : Int32) (y3 : Int32) (y4 : Int32) (y5 : Int32) (y6 : Int32) (v2 : Int32) (w8 : Value) (v3 : Int32) (S3 : St) : ex X (d + 1) 44 80 [.ref 2, .int y1, .int y2, .int y3, .int y4, .int y5, .int y6, .int (y1 + v2), w8] [.int v3, .int y2] (hh S3) (n + 9) = (match ex X d 43 0 [.ref 2, .int (((y2 + v3) * 16) + (y1 + v2))] [] (hh S3) n with | some (v, h') => ex X (d + 1) 44 95 [.ref 2, .int y1, .int y2, .int y3, .int y4, .int y5, .int y6, .int (y1 + v2), .int (y2 + v3)] (v.toList ++ []) h' n | none => none) := rfl
theorem B_44_6 {X : Nat × (Nat → Int32)} {d : Nat} (n : Nat) (y1 : Int32) (y2 : Int32) (y3 : Int32) (y4 : Int32) (y5 : Int32) (y6 : Int32) (v2 : Int32) (v3 : Int32) (S4 : St) : ex X d 44 95 [.ref 2, .int y1, .int y2, .int y3, .int y4, .int y5, .int y6, .int (y1 + v2), .int (y2 + v3)] [] (hh S4) (n + 2) = ex X d 44 31 [.ref 2, .int y1, .int y2, .int y3, .int y4, .int y5, .int (y6 + 1), .int (y1 + v2), .int (y2 + v3)] [] (hh S4) n := rfl
set_option maxRecDepth 200000 in
theorem TL_44_0 {X : Nat × (Nat → Int32)} : ∀ (n : Nat) (S : St) (y1 : Int32) (y2 : Int32) (y3 : Int32) (y4 : Int32) (y5 : Int32) (y6 : Int32) (r : Unit) (S' : St), GL_44_0 n S y1 y2 y3 y4 y5 y6 = some (r, S') → ∀ (w7 w8 : Value), Ev X 1 44 31 [.ref 2, .int y1, .int y2, .int y3, .int y4, .int y5, .int y6, w7, w8] [] (hh S) (xV r, hh S') := by
  intro n
  induction n with
  | zero => intro S y1 y2 y3 y4 y5 y6 r S' hG; simp [GL_44_0] at hG
  | succ n ih =>
    intro S y1 y2 y3 y4 y5 y6 r S' hG w7 w8
    rw [GL_44_0] at hG
    by_cases c1 : y5 < y6
    · rw [if_pos c1] at hG
      refine Ev.t (c := y5 < y6) (p1 := 101) (L1 := [.ref 2, .int y1, .int y2, .int y3, .int y4, .int y5, .int y6, w7, w8]) (s1 := []) (h1 := hh S) (p2 := 38) (L2 := [.ref 2, .int y1, .int y2, .int y3, .int y4, .int y5, .int y6, w7, w8]) (s2 := []) (h2 := hh S) 3 (fun n => B_44_1 n y1 y2 y3 y4 y5 y6 w7 w8 S) c1 ?_
      obtain ⟨e1, e2⟩ := Prod.mk.inj (Option.some.inj hG)
      subst e1
      subst e2
      exact Ev.r 1 (fun n => rfl)
    · rw [if_neg c1] at hG
      refine Ev.f (c := y5 < y6) (p1 := 101) (L1 := [.ref 2, .int y1, .int y2, .int y3, .int y4, .int y5, .int y6, w7, w8]) (s1 := []) (h1 := hh S) (p2 := 38) (L2 := [.ref 2, .int y1, .int y2, .int y3, .int y4, .int y5, .int y6, w7, w8]) (s2 := []) (h2 := hh S) 3 (fun n => B_44_2 n y1 y2 y3 y4 y5 y6 w7 w8 S) c1 ?_
      rcases h2 : G_4 S (((2 * y6) * (y3 - y1)) + y5) (2 * y5) with _ | ⟨v2, S2⟩
      · rw [h2] at hG; cases hG
      rw [h2] at hG
      dsimp only at hG
      refine Ev.c (a := 4) (A := [.int (((2 * y6) * (y3 - y1)) + y5), .int (2 * y5), .retAddr 0]) (h1 := hh S) (pc' := 57) (L' := [.ref 2, .int y1, .int y2, .int y3, .int y4, .int y5, .int y6, w7, w8]) (rest := [.int y1]) (r1 := some (.int v2)) (h2 := hh S2) 14 (fun n => B_44_3 n y1 y2 y3 y4 y5 y6 w7 w8 S) (Ev.up (by decide) (T_4 S (((2 * y6) * (y3 - y1)) + y5) (2 * y5) _ _ h2)) ?_
      show Ev X _ 44 57 [.ref 2, .int y1, .int y2, .int y3, .int y4, .int y5, .int y6, w7, w8] [.int v2, .int y1] (hh S2) _
      rcases h3 : G_4 S2 (((2 * y6) * (y4 - y2)) + y5) (2 * y5) with _ | ⟨v3, S3⟩
      · rw [h3] at hG; cases hG
      rw [h3] at hG
      dsimp only at hG
      refine Ev.c (a := 4) (A := [.int (((2 * y6) * (y4 - y2)) + y5), .int (2 * y5), .retAddr 0]) (h1 := hh S2) (pc' := 80) (L' := [.ref 2, .int y1, .int y2, .int y3, .int y4, .int y5, .int y6, .int (y1 + v2), w8]) (rest := [.int y2]) (r1 := some (.int v3)) (h2 := hh S3) 16 (fun n => B_44_4 n y1 y2 y3 y4 y5 y6 w7 w8 v2 S2) (Ev.up (by decide) (T_4 S2 (((2 * y6) * (y4 - y2)) + y5) (2 * y5) _ _ h3)) ?_
      show Ev X _ 44 80 [.ref 2, .int y1, .int y2, .int y3, .int y4, .int y5, .int y6, .int (y1 + v2), w8] [.int v3, .int y2] (hh S3) _
      rcases h4 : G_43 S3 (((y2 + v3) * 16) + (y1 + v2)) with _ | ⟨v4, S4⟩
      · rw [h4] at hG; cases hG
      rw [h4] at hG
      dsimp only at hG
      refine Ev.c (a := 43) (A := [.ref 2, .int (((y2 + v3) * 16) + (y1 + v2))]) (h1 := hh S3) (pc' := 95) (L' := [.ref 2, .int y1, .int y2, .int y3, .int y4, .int y5, .int y6, .int (y1 + v2), .int (y2 + v3)]) (rest := []) (r1 := none) (h2 := hh S4) 9 (fun n => B_44_5 n y1 y2 y3 y4 y5 y6 v2 w8 v3 S3) (Ev.up (by decide) (T_43 S3 (((y2 + v3) * 16) + (y1 + v2)) _ _ h4)) ?_
      show Ev X _ 44 95 [.ref 2, .int y1, .int y2, .int y3, .int y4, .int y5, .int y6, .int (y1 + v2), .int (y2 + v3)] [] (hh S4) _
      exact Ev.b (pc' := 31) (L' := [.ref 2, .int y1, .int y2, .int y3, .int y4, .int y5, .int (y6 + 1), .int (y1 + v2), .int (y2 + v3)]) (st' := []) (h' := hh S4) 2 (fun n => B_44_6 n y1 y2 y3 y4 y5 y6 v2 v3 S4) (ih S4 y1 y2 y3 y4 y5 (y6 + 1) _ _ hG (.int (y1 + v2)) (.int (y2 + v3)))
def G_44 (S : St) (x1 : Int32) (x2 : Int32) (x3 : Int32) (x4 : Int32) : Option (Unit × St) :=
  (match G_3 S (x3 - x1) with
  | none => none
  | some (v5, S5) =>
    (match G_3 S5 (x4 - x2) with
    | none => none
    | some (v6, S6) =>
      (match G_2 S6 v5 v6 with
      | none => none
      | some (v7, S7) =>
        (match G_43 S7 ((x2 * 16) + x1) with
        | none => none
        | some (v8, S8) =>
          GL_44_0 xFu S8 x1 x2 x3 x4 v7 (1 : Int32)
        )
      )
    )
  )
theorem B_44_7 {X : Nat × (Nat → Int32)} {d : Nat} (n : Nat) (x1 : Int32) (x2 : Int32) (x3 : Int32) (x4 : Int32) (S : St) : ex X (d + 1) 44 0 [.ref 2, .int x1, .int x2, .int x3, .int x4, .retAddr 0, .retAddr 0, .retAddr 0, .retAddr 0] [] (hh S) (n + 4) = (match ex X d 3 0 [.int (x3 - x1)] [] (hh S) n with | some (v, h') => ex X (d + 1) 44 6 [.ref 2, .int x1, .int x2, .int x3, .int x4, .retAddr 0, .retAddr 0, .retAddr 0, .retAddr 0] (v.toList ++ []) h' n | none => none) := rfl
theorem B_44_8 {X : Nat × (Nat → Int32)} {d : Nat} (n : Nat) (x1 : Int32) (x2 : Int32) (x3 : Int32) (x4 : Int32) (v5 : Int32) (S5 : St) : ex X (d + 1) 44 6 [.ref 2, .int x1, .int x2, .int x3, .int x4, .retAddr 0, .retAddr 0, .retAddr 0, .retAddr 0] [.int v5] (hh S5) (n + 4) = (match ex X d 3 0 [.int (x4 - x2)] [] (hh S5) n with | some (v, h') => ex X (d + 1) 44 13 [.ref 2, .int x1, .int x2, .int x3, .int x4, .retAddr 0, .retAddr 0, .retAddr 0, .retAddr 0] (v.toList ++ [.int v5]) h' n | none => none) := rfl
theorem B_44_9 {X : Nat × (Nat → Int32)} {d : Nat} (n : Nat) (x1 : Int32) (x2 : Int32) (x3 : Int32) (x4 : Int32) (v6 : Int32) (v5 : Int32) (S6 : St) : ex X (d + 1) 44 13 [.ref 2, .int x1, .int x2, .int x3, .int x4, .retAddr 0, .retAddr 0, .retAddr 0, .retAddr 0] [.int v6, .int v5] (hh S6) (n + 1) = (match ex X d 2 0 [.int v5, .int v6] [] (hh S6) n with | some (v, h') => ex X (d + 1) 44 16 [.ref 2, .int x1, .int x2, .int x3, .int x4, .retAddr 0, .retAddr 0, .retAddr 0, .retAddr 0] (v.toList ++ []) h' n | none => none) := rfl
theorem B_44_10 {X : Nat × (Nat → Int32)} {d : Nat} (n : Nat) (x1 : Int32) (x2 : Int32) (x3 : Int32) (x4 : Int32) (v7 : Int32) (S7 : St) : ex X (d + 1) 44 16 [.ref 2, .int x1, .int x2, .int x3, .int x4, .retAddr 0, .retAddr 0, .retAddr 0, .retAddr 0] [.int v7] (hh S7) (n + 8) = (match ex X d 43 0 [.ref 2, .int ((x2 * 16) + x1)] [] (hh S7) n with | some (v, h') => ex X (d + 1) 44 28 [.ref 2, .int x1, .int x2, .int x3, .int x4, .int v7, .retAddr 0, .retAddr 0, .retAddr 0] (v.toList ++ []) h' n | none => none) := rfl
theorem B_44_11 {X : Nat × (Nat → Int32)} {d : Nat} (n : Nat) (x1 : Int32) (x2 : Int32) (x3 : Int32) (x4 : Int32) (v7 : Int32) (S8 : St) : ex X d 44 28 [.ref 2, .int x1, .int x2, .int x3, .int x4, .int v7, .retAddr 0, .retAddr 0, .retAddr 0] [] (hh S8) (n + 2) = ex X d 44 31 [.ref 2, .int x1, .int x2, .int x3, .int x4, .int v7, .int 1, .retAddr 0, .retAddr 0] [] (hh S8) n := rfl
set_option maxRecDepth 200000 in
theorem T_44 {X : Nat × (Nat → Int32)} (S : St) (x1 : Int32) (x2 : Int32) (x3 : Int32) (x4 : Int32) (r : Unit) (S' : St) (hG : G_44 S x1 x2 x3 x4 = some (r, S')) : Ev X 1 44 0 [.ref 2, .int x1, .int x2, .int x3, .int x4, .retAddr 0, .retAddr 0, .retAddr 0, .retAddr 0] [] (hh S) (xV r, hh S') := by
  unfold G_44 at hG
  rcases h5 : G_3 S (x3 - x1) with _ | ⟨v5, S5⟩
  · rw [h5] at hG; cases hG
  rw [h5] at hG
  dsimp only at hG
  refine Ev.c (a := 3) (A := [.int (x3 - x1)]) (h1 := hh S) (pc' := 6) (L' := [.ref 2, .int x1, .int x2, .int x3, .int x4, .retAddr 0, .retAddr 0, .retAddr 0, .retAddr 0]) (rest := []) (r1 := some (.int v5)) (h2 := hh S5) 4 (fun n => B_44_7 n x1 x2 x3 x4 S) (Ev.up (by decide) (T_3 S (x3 - x1) _ _ h5)) ?_
  show Ev X _ 44 6 [.ref 2, .int x1, .int x2, .int x3, .int x4, .retAddr 0, .retAddr 0, .retAddr 0, .retAddr 0] [.int v5] (hh S5) _
  rcases h6 : G_3 S5 (x4 - x2) with _ | ⟨v6, S6⟩
  · rw [h6] at hG; cases hG
  rw [h6] at hG
  dsimp only at hG
  refine Ev.c (a := 3) (A := [.int (x4 - x2)]) (h1 := hh S5) (pc' := 13) (L' := [.ref 2, .int x1, .int x2, .int x3, .int x4, .retAddr 0, .retAddr 0, .retAddr 0, .retAddr 0]) (rest := [.int v5]) (r1 := some (.int v6)) (h2 := hh S6) 4 (fun n => B_44_8 n x1 x2 x3 x4 v5 S5) (Ev.up (by decide) (T_3 S5 (x4 - x2) _ _ h6)) ?_
  show Ev X _ 44 13 [.ref 2, .int x1, .int x2, .int x3, .int x4, .retAddr 0, .retAddr 0, .retAddr 0, .retAddr 0] [.int v6, .int v5] (hh S6) _
  rcases h7 : G_2 S6 v5 v6 with _ | ⟨v7, S7⟩
  · rw [h7] at hG; cases hG
  rw [h7] at hG
  dsimp only at hG
  refine Ev.c (a := 2) (A := [.int v5, .int v6]) (h1 := hh S6) (pc' := 16) (L' := [.ref 2, .int x1, .int x2, .int x3, .int x4, .retAddr 0, .retAddr 0, .retAddr 0, .retAddr 0]) (rest := []) (r1 := some (.int v7)) (h2 := hh S7) 1 (fun n => B_44_9 n x1 x2 x3 x4 v6 v5 S6) (Ev.up (by decide) (T_2 S6 v5 v6 _ _ h7)) ?_
  show Ev X _ 44 16 [.ref 2, .int x1, .int x2, .int x3, .int x4, .retAddr 0, .retAddr 0, .retAddr 0, .retAddr 0] [.int v7] (hh S7) _
  rcases h8 : G_43 S7 ((x2 * 16) + x1) with _ | ⟨v8, S8⟩
  · rw [h8] at hG; cases hG
  rw [h8] at hG
  dsimp only at hG
  refine Ev.c (a := 43) (A := [.ref 2, .int ((x2 * 16) + x1)]) (h1 := hh S7) (pc' := 28) (L' := [.ref 2, .int x1, .int x2, .int x3, .int x4, .int v7, .retAddr 0, .retAddr 0, .retAddr 0]) (rest := []) (r1 := none) (h2 := hh S8) 8 (fun n => B_44_10 n x1 x2 x3 x4 v7 S7) (Ev.up (by decide) (T_43 S7 ((x2 * 16) + x1) _ _ h8)) ?_
  show Ev X _ 44 28 [.ref 2, .int x1, .int x2, .int x3, .int x4, .int v7, .retAddr 0, .retAddr 0, .retAddr 0] [] (hh S8) _
  exact Ev.b (pc' := 31) (L' := [.ref 2, .int x1, .int x2, .int x3, .int x4, .int v7, .int 1, .retAddr 0, .retAddr 0]) (st' := []) (h' := hh S8) 2 (fun n => B_44_11 n x1 x2 x3 x4 v7 S8) (TL_44_0 xFu S8 x1 x2 x3 x4 v7 (1 : Int32) _ _ hG (.retAddr 0) (.retAddr 0))
/-- 38: SceneCycle$Screen.show(LSceneCycle$Resource;)V -/
def GL_38_0 : Nat → St → Nat → Int32 → Int32 → Option (Unit × St)
  | 0, _, _, _, _ => none
  | n + 1, S, y1, y2, y3 =>
    (if y2 ≤ y3 then
      some ((), S)
    else
      (if (kd y1).1 = 10 + 1 then
        (match G_25 S y1 y3 with
        | none => none
        | some (v2, S2) =>
          (match G_29 S2 6 v2 with
          | none => none
          | some (v4, S4) =>
            (if (S4.1 6 2) = 0 then
              (match G_39 S4 with
              | none => none
              | some (v6, S6) =>
                GL_38_0 n S6 y1 y2 (y3 + 1)
              )
            else
              (if (S4.1 6 0) = 246 then
                (match G_40 S4 (S4.1 6 5) (S4.1 6 6) with
                | none => none
                | some (v8, S8) =>
                  GL_38_0 n S8 y1 y2 (y3 + 1)
                )
              else
                (match G_44 S4 (S4.1 6 3) (S4.1 6 4) (S4.1 6 5) (S4.1 6 6) with
                | none => none
                | some (v9, S9) =>
                  GL_38_0 n S9 y1 y2 (y3 + 1)
                )
              )
            )
          )
        )
      else none)
    )
theorem B_38_1 {X : Nat × (Nat → Int32)} {d : Nat} (n : Nat) (y1 : Nat) (y2 : Int32) (y3 : Int32) (S : St) : ex X d 38 56 [.ref 2, .ref y1, .int y2, .int y3] [] (hh S) (n + 3) = if y2 ≤ y3 then ex X d 38 163 [.ref 2, .ref y1, .int y2, .int y3] [] (hh S) n else ex X d 38 61 [.ref 2, .ref y1, .int y2, .int y3] [] (hh S) n := rfl
theorem B_38_2 {X : Nat × (Nat → Int32)} {d : Nat} (n : Nat) (y1 : Nat) (y2 : Int32) (y3 : Int32) (S : St) : ex X d 38 56 [.ref 2, .ref y1, .int y2, .int y3] [] (hh S) (n + 3) = if y2 ≤ y3 then ex X d 38 163 [.ref 2, .ref y1, .int y2, .int y3] [] (hh S) n else ex X d 38 61 [.ref 2, .ref y1, .int y2, .int y3] [] (hh S) n := rfl
theorem B_38_3 {X : Nat × (Nat → Int32)} {d : Nat} (n : Nat) (y1 : Nat) (y2 : Int32) (y3 : Int32) (S : St) : ex X (d + 1) 38 61 [.ref 2, .ref y1, .int y2, .int y3] [] (hh S) (n + 5) = if (xm_o 25 = 200 ∧ 2000 ≤ y1 ∧ y1 < 2000 + xS_n) ∨ (xm_o 25 ≠ 200 ∧ (kd y1).1 = 10 + xm_o 25) then (match ex X d 25 0 [.ref y1, .int y3] [] (hh S) n with | some (v, h') => ex X (d + 1) 38 70 [.ref 2, .ref y1, .int y2, .int y3] (v.toList ++ [.ref 6]) h' n | none => none) else none := rfl
theorem B_38_4 {X : Nat × (Nat → Int32)} {d : Nat} (n : Nat) (y1 : Nat) (y2 : Int32) (y3 : Int32) (v2 : Int32) (S2 : St) : ex X (d + 1) 38 70 [.ref 2, .ref y1, .int y2, .int y3] [.int v2, .ref 6] (hh S2) (n + 1) = (match ex X d 29 0 [.ref 6, .int v2] [] (hh S2) n with | some (v, h') => ex X (d + 1) 38 73 [.ref 2, .ref y1, .int y2, .int y3] (v.toList ++ []) h' n | none => none) := rfl
theorem B_38_5 {X : Nat × (Nat → Int32)} {d : Nat} (n : Nat) (y1 : Nat) (y2 : Int32) (y3 : Int32) (v4 : Int32) (S4 : St) : ex X d 38 73 [.ref 2, .ref y1, .int y2, .int y3] [.int v4] (hh S4) (n + 5) = if (S4.1 6 2) = 0 then ex X d 38 84 [.ref 2, .ref y1, .int y2, .int y3] [] (hh S4) n else ex X d 38 91 [.ref 2, .ref y1, .int y2, .int y3] [] (hh S4) n := rfl
theorem B_38_6 {X : Nat × (Nat → Int32)} {d : Nat} (n : Nat) (y1 : Nat) (y2 : Int32) (y3 : Int32) (S4 : St) : ex X (d + 1) 38 84 [.ref 2, .ref y1, .int y2, .int y3] [] (hh S4) (n + 2) = (match ex X d 39 0 [.ref 2] [] (hh S4) n with | some (v, h') => ex X (d + 1) 38 88 [.ref 2, .ref y1, .int y2, .int y3] (v.toList ++ []) h' n | none => none) := rfl
theorem B_38_7 {X : Nat × (Nat → Int32)} {d : Nat} (n : Nat) (y1 : Nat) (y2 : Int32) (y3 : Int32) (S6 : St) : ex X d 38 88 [.ref 2, .ref y1, .int y2, .int y3] [] (hh S6) (n + 3) = ex X d 38 56 [.ref 2, .ref y1, .int y2, .int (y3 + 1)] [] (hh S6) n := rfl
theorem B_38_8 {X : Nat × (Nat → Int32)} {d : Nat} (n : Nat) (y1 : Nat) (y2 : Int32) (y3 : Int32) (v4 : Int32) (S4 : St) : ex X d 38 73 [.ref 2, .ref y1, .int y2, .int y3] [.int v4] (hh S4) (n + 5) = if (S4.1 6 2) = 0 then ex X d 38 84 [.ref 2, .ref y1, .int y2, .int y3] [] (hh S4) n else ex X d 38 91 [.ref 2, .ref y1, .int y2, .int y3] [] (hh S4) n := rfl
theorem B_38_9 {X : Nat × (Nat → Int32)} {d : Nat} (n : Nat) (y1 : Nat) (y2 : Int32) (y3 : Int32) (S4 : St) : ex X d 38 91 [.ref 2, .ref y1, .int y2, .int y3] [] (hh S4) (n + 5) = if (S4.1 6 0) = 246 then ex X d 38 104 [.ref 2, .ref y1, .int y2, .int y3] [] (hh S4) n else ex X d 38 125 [.ref 2, .ref y1, .int y2, .int y3] [] (hh S4) n := rfl
theorem B_38_10 {X : Nat × (Nat → Int32)} {d : Nat} (n : Nat) (y1 : Nat) (y2 : Int32) (y3 : Int32) (S4 : St) : ex X (d + 1) 38 104 [.ref 2, .ref y1, .int y2, .int y3] [] (hh S4) (n + 8) = (match ex X d 40 0 [.ref 2, .int (S4.1 6 5), .int (S4.1 6 6)] [] (hh S4) n with | some (v, h') => ex X (d + 1) 38 122 [.ref 2, .ref y1, .int y2, .int y3] (v.toList ++ []) h' n | none => none) := rfl
theorem B_38_11 {X : Nat × (Nat → Int32)} {d : Nat} (n : Nat) (y1 : Nat) (y2 : Int32) (y3 : Int32) (S8 : St) : ex X d 38 122 [.ref 2, .ref y1, .int y2, .int y3] [] (hh S8) (n + 3) = ex X d 38 56 [.ref 2, .ref y1, .int y2, .int (y3 + 1)] [] (hh S8) n := rfl
theorem B_38_12 {X : Nat × (Nat → Int32)} {d : Nat} (n : Nat) (y1 : Nat) (y2 : Int32) (y3 : Int32) (S4 : St) : ex X d 38 91 [.ref 2, .ref y1, .int y2, .int y3] [] (hh S4) (n + 5) = if (S4.1 6 0) = 246 then ex X d 38 104 [.ref 2, .ref y1, .int y2, .int y3] [] (hh S4) n else ex X d 38 125 [.ref 2, .ref y1, .int y2, .int y3] [] (hh S4) n := rfl
theorem B_38_13 {X : Nat × (Nat → Int32)} {d : Nat} (n : Nat) (y1 : Nat) (y2 : Int32) (y3 : Int32) (S4 : St) : ex X (d + 1) 38 125 [.ref 2, .ref y1, .int y2, .int y3] [] (hh S4) (n + 14) = (match ex X d 44 0 [.ref 2, .int (S4.1 6 3), .int (S4.1 6 4), .int (S4.1 6 5), .int (S4.1 6 6), .retAddr 0, .retAddr 0, .retAddr 0, .retAddr 0] [] (hh S4) n with | some (v, h') => ex X (d + 1) 38 157 [.ref 2, .ref y1, .int y2, .int y3] (v.toList ++ []) h' n | none => none) := rfl
theorem B_38_14 {X : Nat × (Nat → Int32)} {d : Nat} (n : Nat) (y1 : Nat) (y2 : Int32) (y3 : Int32) (S9 : St) : ex X d 38 157 [.ref 2, .ref y1, .int y2, .int y3] [] (hh S9) (n + 2) = ex X d 38 56 [.ref 2, .ref y1, .int y2, .int (y3 + 1)] [] (hh S9) n := rfl
set_option maxRecDepth 200000 in
theorem TL_38_0 {X : Nat × (Nat → Int32)} : ∀ (n : Nat) (S : St) (y1 : Nat) (y2 : Int32) (y3 : Int32) (r : Unit) (S' : St), GL_38_0 n S y1 y2 y3 = some (r, S') → Ev X 4 38 56 [.ref 2, .ref y1, .int y2, .int y3] [] (hh S) (xV r, hh S') := by
  intro n
  induction n with
  | zero => intro S y1 y2 y3 r S' hG; simp [GL_38_0] at hG
  | succ n ih =>
    intro S y1 y2 y3 r S' hG
    rw [GL_38_0] at hG
    by_cases c1 : y2 ≤ y3
    · rw [if_pos c1] at hG
      refine Ev.t (c := y2 ≤ y3) (p1 := 163) (L1 := [.ref 2, .ref y1, .int y2, .int y3]) (s1 := []) (h1 := hh S) (p2 := 61) (L2 := [.ref 2, .ref y1, .int y2, .int y3]) (s2 := []) (h2 := hh S) 3 (fun n => B_38_1 n y1 y2 y3 S) c1 ?_
      obtain ⟨e1, e2⟩ := Prod.mk.inj (Option.some.inj hG)
      subst e1
      subst e2
      exact Ev.r 1 (fun n => rfl)
    · rw [if_neg c1] at hG
      refine Ev.f (c := y2 ≤ y3) (p1 := 163) (L1 := [.ref 2, .ref y1, .int y2, .int y3]) (s1 := []) (h1 := hh S) (p2 := 61) (L2 := [.ref 2, .ref y1, .int y2, .int y3]) (s2 := []) (h2 := hh S) 3 (fun n => B_38_2 n y1 y2 y3 S) c1 ?_
      by_cases g3 : (kd y1).1 = 10 + 1
      rotate_left
      · rw [if_neg g3] at hG; cases hG
      rw [if_pos g3] at hG
      rcases h2 : G_25 S y1 y3 with _ | ⟨v2, S2⟩
      · rw [h2] at hG; cases hG
      rw [h2] at hG
      dsimp only at hG
      refine Ev.cg (c := (xm_o 25 = 200 ∧ 2000 ≤ y1 ∧ y1 < 2000 + xS_n) ∨ (xm_o 25 ≠ 200 ∧ (kd y1).1 = 10 + xm_o 25)) (a := 25) (A := [.ref y1, .int y3]) (h1 := hh S) (pc' := 70) (L' := [.ref 2, .ref y1, .int y2, .int y3]) (rest := [.ref 6]) (r1 := some (.int v2)) (h2 := hh S2) 5 (fun n => B_38_3 n y1 y2 y3 S) (Or.inr ⟨by decide, g3⟩) (Ev.up (by decide) (T_25 S y1 y3 _ _ h2)) ?_
      show Ev X _ 38 70 [.ref 2, .ref y1, .int y2, .int y3] [.int v2, .ref 6] (hh S2) _
      rcases h4 : G_29 S2 6 v2 with _ | ⟨v4, S4⟩
      · rw [h4] at hG; cases hG
      rw [h4] at hG
      dsimp only at hG
      refine Ev.c (a := 29) (A := [.ref 6, .int v2]) (h1 := hh S2) (pc' := 73) (L' := [.ref 2, .ref y1, .int y2, .int y3]) (rest := []) (r1 := some (.int v4)) (h2 := hh S4) 1 (fun n => B_38_4 n y1 y2 y3 v2 S2) (Ev.up (by decide) (T_29 S2 6 v2 _ _ h4)) ?_
      show Ev X _ 38 73 [.ref 2, .ref y1, .int y2, .int y3] [.int v4] (hh S4) _
      by_cases c5 : (S4.1 6 2) = 0
      · rw [if_pos c5] at hG
        refine Ev.t (c := (S4.1 6 2) = 0) (p1 := 84) (L1 := [.ref 2, .ref y1, .int y2, .int y3]) (s1 := []) (h1 := hh S4) (p2 := 91) (L2 := [.ref 2, .ref y1, .int y2, .int y3]) (s2 := []) (h2 := hh S4) 5 (fun n => B_38_5 n y1 y2 y3 v4 S4) c5 ?_
        rcases h6 : G_39 S4 with _ | ⟨v6, S6⟩
        · rw [h6] at hG; cases hG
        rw [h6] at hG
        dsimp only at hG
        refine Ev.c (a := 39) (A := [.ref 2]) (h1 := hh S4) (pc' := 88) (L' := [.ref 2, .ref y1, .int y2, .int y3]) (rest := []) (r1 := none) (h2 := hh S6) 2 (fun n => B_38_6 n y1 y2 y3 S4) (Ev.up (by decide) (T_39 S4  _ _ h6)) ?_
        show Ev X _ 38 88 [.ref 2, .ref y1, .int y2, .int y3] [] (hh S6) _
        exact Ev.b (pc' := 56) (L' := [.ref 2, .ref y1, .int y2, .int (y3 + 1)]) (st' := []) (h' := hh S6) 3 (fun n => B_38_7 n y1 y2 y3 S6) (ih S6 y1 y2 (y3 + 1) _ _ hG )
      · rw [if_neg c5] at hG
        refine Ev.f (c := (S4.1 6 2) = 0) (p1 := 84) (L1 := [.ref 2, .ref y1, .int y2, .int y3]) (s1 := []) (h1 := hh S4) (p2 := 91) (L2 := [.ref 2, .ref y1, .int y2, .int y3]) (s2 := []) (h2 := hh S4) 5 (fun n => B_38_8 n y1 y2 y3 v4 S4) c5 ?_
        by_cases c7 : (S4.1 6 0) = 246
        · rw [if_pos c7] at hG
          refine Ev.t (c := (S4.1 6 0) = 246) (p1 := 104) (L1 := [.ref 2, .ref y1, .int y2, .int y3]) (s1 := []) (h1 := hh S4) (p2 := 125) (L2 := [.ref 2, .ref y1, .int y2, .int y3]) (s2 := []) (h2 := hh S4) 5 (fun n => B_38_9 n y1 y2 y3 S4) c7 ?_
          rcases h8 : G_40 S4 (S4.1 6 5) (S4.1 6 6) with _ | ⟨v8, S8⟩
          · rw [h8] at hG; cases hG
          rw [h8] at hG
          dsimp only at hG
          refine Ev.c (a := 40) (A := [.ref 2, .int (S4.1 6 5), .int (S4.1 6 6)]) (h1 := hh S4) (pc' := 122) (L' := [.ref 2, .ref y1, .int y2, .int y3]) (rest := []) (r1 := none) (h2 := hh S8) 8 (fun n => B_38_10 n y1 y2 y3 S4) (Ev.up (by decide) (T_40 S4 (S4.1 6 5) (S4.1 6 6) _ _ h8)) ?_
          show Ev X _ 38 122 [.ref 2, .ref y1, .int y2, .int y3] [] (hh S8) _
          exact Ev.b (pc' := 56) (L' := [.ref 2, .ref y1, .int y2, .int (y3 + 1)]) (st' := []) (h' := hh S8) 3 (fun n => B_38_11 n y1 y2 y3 S8) (ih S8 y1 y2 (y3 + 1) _ _ hG )
        · rw [if_neg c7] at hG
          refine Ev.f (c := (S4.1 6 0) = 246) (p1 := 104) (L1 := [.ref 2, .ref y1, .int y2, .int y3]) (s1 := []) (h1 := hh S4) (p2 := 125) (L2 := [.ref 2, .ref y1, .int y2, .int y3]) (s2 := []) (h2 := hh S4) 5 (fun n => B_38_12 n y1 y2 y3 S4) c7 ?_
          rcases h9 : G_44 S4 (S4.1 6 3) (S4.1 6 4) (S4.1 6 5) (S4.1 6 6) with _ | ⟨v9, S9⟩
          · rw [h9] at hG; cases hG
          rw [h9] at hG
          dsimp only at hG
          refine Ev.c (a := 44) (A := [.ref 2, .int (S4.1 6 3), .int (S4.1 6 4), .int (S4.1 6 5), .int (S4.1 6 6), .retAddr 0, .retAddr 0, .retAddr 0, .retAddr 0]) (h1 := hh S4) (pc' := 157) (L' := [.ref 2, .ref y1, .int y2, .int y3]) (rest := []) (r1 := none) (h2 := hh S9) 14 (fun n => B_38_13 n y1 y2 y3 S4) (Ev.up (by decide) (T_44 S4 (S4.1 6 3) (S4.1 6 4) (S4.1 6 5) (S4.1 6 6) _ _ h9)) ?_
          show Ev X _ 38 157 [.ref 2, .ref y1, .int y2, .int y3] [] (hh S9) _
          exact Ev.b (pc' := 56) (L' := [.ref 2, .ref y1, .int y2, .int (y3 + 1)]) (st' := []) (h' := hh S9) 2 (fun n => B_38_14 n y1 y2 y3 S9) (ih S9 y1 y2 (y3 + 1) _ _ hG )
def G_38 (S : St) (x1 : Nat) : Option (Unit × St) :=
  (match G_5 S 3 (15 : Int32) with
  | none => none
  | some (v10, S10) =>
    (match G_5 S10 4 (4 : Int32) with
    | none => none
    | some (v11, S11) =>
      (match G_28 (xa_u (xa_u S11.1 2 5 (-1)) 2 6 (-1), S11.2.1, S11.2.2) 6 with
      | none => none
      | some (v12, S12) =>
        (if (kd x1).1 = 10 + 1 then
          (if (S12.1 x1 2) = 0 then
            GL_38_0 xFu S12 x1 (0 : Int32) (0 : Int32)
          else
            GL_38_0 xFu S12 x1 (S12.1 x1 1) (0 : Int32)
          )
        else none)
      )
    )
  )
theorem B_38_15 {X : Nat × (Nat → Int32)} {d : Nat} (n : Nat) (x1 : Nat) (S : St) : ex X (d + 1) 38 0 [.ref 2, .ref x1, .retAddr 0, .retAddr 0] [] (hh S) (n + 4) = (match ex X d 5 0 [.ref 3, .int 15, .retAddr 0, .retAddr 0] [] (hh S) n with | some (v, h') => ex X (d + 1) 38 9 [.ref 2, .ref x1, .retAddr 0, .retAddr 0] (v.toList ++ []) h' n | none => none) := rfl
theorem B_38_16 {X : Nat × (Nat → Int32)} {d : Nat} (n : Nat) (x1 : Nat) (S10 : St) : ex X (d + 1) 38 9 [.ref 2, .ref x1, .retAddr 0, .retAddr 0] [] (hh S10) (n + 4) = (match ex X d 5 0 [.ref 4, .int 4, .retAddr 0, .retAddr 0] [] (hh S10) n with | some (v, h') => ex X (d + 1) 38 17 [.ref 2, .ref x1, .retAddr 0, .retAddr 0] (v.toList ++ []) h' n | none => none) := rfl
theorem B_38_17 {X : Nat × (Nat → Int32)} {d : Nat} (n : Nat) (x1 : Nat) (S11 : St) : ex X d 38 17 [.ref 2, .ref x1, .retAddr 0, .retAddr 0] [] (hh S11) (n + 3) = if (kd 2).1 = 10 + 3 ∧ (xf_k 3 5 = 0 ∨ (xf_k 3 5 = 1 ∧ (((-1) : Int32) = 0 ∨ ((-1) : Int32) = 1))) then ex X d 38 22 [.ref 2, .ref x1, .retAddr 0, .retAddr 0] [] (hh (xa_u S11.1 2 5 (-1), S11.2.1, S11.2.2)) n else none := rfl
theorem B_38_18 {X : Nat × (Nat → Int32)} {d : Nat} (n : Nat) (x1 : Nat) (S11 : St) : ex X d 38 22 [.ref 2, .ref x1, .retAddr 0, .retAddr 0] [] (hh (xa_u S11.1 2 5 (-1), S11.2.1, S11.2.2)) (n + 3) = if (kd 2).1 = 10 + 3 ∧ (xf_k 3 6 = 0 ∨ (xf_k 3 6 = 1 ∧ (((-1) : Int32) = 0 ∨ ((-1) : Int32) = 1))) then ex X d 38 27 [.ref 2, .ref x1, .retAddr 0, .retAddr 0] [] (hh (xa_u (xa_u S11.1 2 5 (-1)) 2 6 (-1), S11.2.1, S11.2.2)) n else none := rfl
theorem B_38_19 {X : Nat × (Nat → Int32)} {d : Nat} (n : Nat) (x1 : Nat) (S11 : St) : ex X (d + 1) 38 27 [.ref 2, .ref x1, .retAddr 0, .retAddr 0] [] (hh (xa_u (xa_u S11.1 2 5 (-1)) 2 6 (-1), S11.2.1, S11.2.2)) (n + 3) = (match ex X d 28 0 [.ref 6] [] (hh (xa_u (xa_u S11.1 2 5 (-1)) 2 6 (-1), S11.2.1, S11.2.2)) n with | some (v, h') => ex X (d + 1) 38 34 [.ref 2, .ref x1, .retAddr 0, .retAddr 0] (v.toList ++ []) h' n | none => none) := rfl
theorem B_38_20 {X : Nat × (Nat → Int32)} {d : Nat} (n : Nat) (x1 : Nat) (S12 : St) : ex X d 38 34 [.ref 2, .ref x1, .retAddr 0, .retAddr 0] [] (hh S12) (n + 4) = if (kd x1).1 = 10 + 1 then ex X d 38 42 [.ref 2, .ref x1, .retAddr 0, .retAddr 0] [.int (S12.1 x1 2)] (hh S12) n else none := rfl
theorem B_38_21 {X : Nat × (Nat → Int32)} {d : Nat} (n : Nat) (x1 : Nat) (S12 : St) : ex X d 38 42 [.ref 2, .ref x1, .retAddr 0, .retAddr 0] [.int (S12.1 x1 2)] (hh S12) (n + 1) = if (S12.1 x1 2) = 0 then ex X d 38 52 [.ref 2, .ref x1, .retAddr 0, .retAddr 0] [] (hh S12) n else ex X d 38 45 [.ref 2, .ref x1, .retAddr 0, .retAddr 0] [] (hh S12) n := rfl
theorem B_38_22 {X : Nat × (Nat → Int32)} {d : Nat} (n : Nat) (x1 : Nat) (S12 : St) : ex X d 38 52 [.ref 2, .ref x1, .retAddr 0, .retAddr 0] [] (hh S12) (n + 4) = ex X d 38 56 [.ref 2, .ref x1, .int 0, .int 0] [] (hh S12) n := rfl
theorem B_38_23 {X : Nat × (Nat → Int32)} {d : Nat} (n : Nat) (x1 : Nat) (S12 : St) : ex X d 38 42 [.ref 2, .ref x1, .retAddr 0, .retAddr 0] [.int (S12.1 x1 2)] (hh S12) (n + 1) = if (S12.1 x1 2) = 0 then ex X d 38 52 [.ref 2, .ref x1, .retAddr 0, .retAddr 0] [] (hh S12) n else ex X d 38 45 [.ref 2, .ref x1, .retAddr 0, .retAddr 0] [] (hh S12) n := rfl
theorem B_38_24 {X : Nat × (Nat → Int32)} {d : Nat} (n : Nat) (x1 : Nat) (S12 : St) : ex X d 38 45 [.ref 2, .ref x1, .retAddr 0, .retAddr 0] [] (hh S12) (n + 2) = if (kd x1).1 = 10 + 1 then ex X d 38 49 [.ref 2, .ref x1, .retAddr 0, .retAddr 0] [.int (S12.1 x1 1)] (hh S12) n else none := rfl
theorem B_38_25 {X : Nat × (Nat → Int32)} {d : Nat} (n : Nat) (x1 : Nat) (S12 : St) : ex X d 38 49 [.ref 2, .ref x1, .retAddr 0, .retAddr 0] [.int (S12.1 x1 1)] (hh S12) (n + 4) = ex X d 38 56 [.ref 2, .ref x1, .int (S12.1 x1 1), .int 0] [] (hh S12) n := rfl
set_option maxRecDepth 200000 in
theorem T_38 {X : Nat × (Nat → Int32)} (S : St) (x1 : Nat) (r : Unit) (S' : St) (hG : G_38 S x1 = some (r, S')) : Ev X 4 38 0 [.ref 2, .ref x1, .retAddr 0, .retAddr 0] [] (hh S) (xV r, hh S') := by
  unfold G_38 at hG
  rcases h10 : G_5 S 3 (15 : Int32) with _ | ⟨v10, S10⟩
  · rw [h10] at hG; cases hG
  rw [h10] at hG
  dsimp only at hG
  refine Ev.c (a := 5) (A := [.ref 3, .int 15, .retAddr 0, .retAddr 0]) (h1 := hh S) (pc' := 9) (L' := [.ref 2, .ref x1, .retAddr 0, .retAddr 0]) (rest := []) (r1 := none) (h2 := hh S10) 4 (fun n => B_38_15 n x1 S) (Ev.up (by decide) (T_5 S 3 (15 : Int32) _ _ h10)) ?_
  show Ev X _ 38 9 [.ref 2, .ref x1, .retAddr 0, .retAddr 0] [] (hh S10) _
  rcases h11 : G_5 S10 4 (4 : Int32) with _ | ⟨v11, S11⟩
  · rw [h11] at hG; cases hG
  rw [h11] at hG
  dsimp only at hG
  refine Ev.c (a := 5) (A := [.ref 4, .int 4, .retAddr 0, .retAddr 0]) (h1 := hh S10) (pc' := 17) (L' := [.ref 2, .ref x1, .retAddr 0, .retAddr 0]) (rest := []) (r1 := none) (h2 := hh S11) 4 (fun n => B_38_16 n x1 S10) (Ev.up (by decide) (T_5 S10 4 (4 : Int32) _ _ h11)) ?_
  show Ev X _ 38 17 [.ref 2, .ref x1, .retAddr 0, .retAddr 0] [] (hh S11) _
  refine Ev.g (c := (kd 2).1 = 10 + 3 ∧ (xf_k 3 5 = 0 ∨ (xf_k 3 5 = 1 ∧ (((-1) : Int32) = 0 ∨ ((-1) : Int32) = 1)))) (p1 := 22) (L1 := [.ref 2, .ref x1, .retAddr 0, .retAddr 0]) (s1 := []) (h1 := hh (xa_u S11.1 2 5 (-1), S11.2.1, S11.2.2)) 3 (fun n => B_38_17 n x1 S11) (⟨rfl, Or.inl rfl⟩) ?_
  refine Ev.g (c := (kd 2).1 = 10 + 3 ∧ (xf_k 3 6 = 0 ∨ (xf_k 3 6 = 1 ∧ (((-1) : Int32) = 0 ∨ ((-1) : Int32) = 1)))) (p1 := 27) (L1 := [.ref 2, .ref x1, .retAddr 0, .retAddr 0]) (s1 := []) (h1 := hh (xa_u (xa_u S11.1 2 5 (-1)) 2 6 (-1), S11.2.1, S11.2.2)) 3 (fun n => B_38_18 n x1 S11) (⟨rfl, Or.inl rfl⟩) ?_
  rcases h12 : G_28 (xa_u (xa_u S11.1 2 5 (-1)) 2 6 (-1), S11.2.1, S11.2.2) 6 with _ | ⟨v12, S12⟩
  · rw [h12] at hG; cases hG
  rw [h12] at hG
  dsimp only at hG
  refine Ev.c (a := 28) (A := [.ref 6]) (h1 := hh (xa_u (xa_u S11.1 2 5 (-1)) 2 6 (-1), S11.2.1, S11.2.2)) (pc' := 34) (L' := [.ref 2, .ref x1, .retAddr 0, .retAddr 0]) (rest := []) (r1 := none) (h2 := hh S12) 3 (fun n => B_38_19 n x1 S11) (Ev.up (by decide) (T_28 (xa_u (xa_u S11.1 2 5 (-1)) 2 6 (-1), S11.2.1, S11.2.2) 6 _ _ h12)) ?_
  show Ev X _ 38 34 [.ref 2, .ref x1, .retAddr 0, .retAddr 0] [] (hh S12) _
  by_cases g13 : (kd x1).1 = 10 + 1
  rotate_left
  · rw [if_neg g13] at hG; cases hG
  rw [if_pos g13] at hG
  refine Ev.g (c := (kd x1).1 = 10 + 1) (p1 := 42) (L1 := [.ref 2, .ref x1, .retAddr 0, .retAddr 0]) (s1 := [.int (S12.1 x1 2)]) (h1 := hh S12) 4 (fun n => B_38_20 n x1 S12) g13 ?_
  by_cases c14 : (S12.1 x1 2) = 0
  · rw [if_pos c14] at hG
    refine Ev.t (c := (S12.1 x1 2) = 0) (p1 := 52) (L1 := [.ref 2, .ref x1, .retAddr 0, .retAddr 0]) (s1 := []) (h1 := hh S12) (p2 := 45) (L2 := [.ref 2, .ref x1, .retAddr 0, .retAddr 0]) (s2 := []) (h2 := hh S12) 1 (fun n => B_38_21 n x1 S12) c14 ?_
    exact Ev.b (pc' := 56) (L' := [.ref 2, .ref x1, .int 0, .int 0]) (st' := []) (h' := hh S12) 4 (fun n => B_38_22 n x1 S12) (TL_38_0 xFu S12 x1 (0 : Int32) (0 : Int32) _ _ hG )
  · rw [if_neg c14] at hG
    refine Ev.f (c := (S12.1 x1 2) = 0) (p1 := 52) (L1 := [.ref 2, .ref x1, .retAddr 0, .retAddr 0]) (s1 := []) (h1 := hh S12) (p2 := 45) (L2 := [.ref 2, .ref x1, .retAddr 0, .retAddr 0]) (s2 := []) (h2 := hh S12) 1 (fun n => B_38_23 n x1 S12) c14 ?_
    refine Ev.g (c := (kd x1).1 = 10 + 1) (p1 := 49) (L1 := [.ref 2, .ref x1, .retAddr 0, .retAddr 0]) (s1 := [.int (S12.1 x1 1)]) (h1 := hh S12) 2 (fun n => B_38_24 n x1 S12) g13 ?_
    exact Ev.b (pc' := 56) (L' := [.ref 2, .ref x1, .int (S12.1 x1 1), .int 0]) (st' := []) (h' := hh S12) 4 (fun n => B_38_25 n x1 S12) (TL_38_0 xFu S12 x1 (S12.1 x1 1) (0 : Int32) _ _ hG )
/-- 46: SceneCycle$Screen.controlAt(II)I -/
def G_46 (S : St) (x1 : Int32) (x2 : Int32) : Option (Int32 × St) :=
  (match G_100 S x1 x2 with
  | none => none
  | some (v1, S1) =>
    (if v1 = 0 then
      some ((-1), S1)
    else
      (if xa_in ((x2 * 16) + x1) 192 then
        some ((S1.1 4 (((x2 * 16) + x1)).toNatClampNeg), S1)
      else none)
    )
  )
theorem B_46_1 {X : Nat × (Nat → Int32)} {d : Nat} (n : Nat) (x1 : Int32) (x2 : Int32) (S : St) : ex X (d + 1) 46 0 [.ref 2, .int x1, .int x2] [] (hh S) (n + 3) = (match ex X d 100 0 [.int x1, .int x2] [] (hh S) n with | some (v, h') => ex X (d + 1) 46 5 [.ref 2, .int x1, .int x2] (v.toList ++ []) h' n | none => none) := rfl
theorem B_46_2 {X : Nat × (Nat → Int32)} {d : Nat} (n : Nat) (x1 : Int32) (x2 : Int32) (v1 : Int32) (S1 : St) : ex X d 46 5 [.ref 2, .int x1, .int x2] [.int v1] (hh S1) (n + 1) = if v1 = 0 then ex X d 46 22 [.ref 2, .int x1, .int x2] [] (hh S1) n else ex X d 46 8 [.ref 2, .int x1, .int x2] [] (hh S1) n := rfl
theorem B_46_3 {X : Nat × (Nat → Int32)} {d : Nat} (n : Nat) (x1 : Int32) (x2 : Int32) (v1 : Int32) (S1 : St) : ex X d 46 5 [.ref 2, .int x1, .int x2] [.int v1] (hh S1) (n + 1) = if v1 = 0 then ex X d 46 22 [.ref 2, .int x1, .int x2] [] (hh S1) n else ex X d 46 8 [.ref 2, .int x1, .int x2] [] (hh S1) n := rfl
theorem B_46_4 {X : Nat × (Nat → Int32)} {d : Nat} (n : Nat) (x1 : Int32) (x2 : Int32) (S1 : St) : ex X d 46 8 [.ref 2, .int x1, .int x2] [] (hh S1) (n + 8) = if (kd 4).1 = 0 ∧ xa_in ((x2 * 16) + x1) (kd 4).2 then ex X d 46 19 [.ref 2, .int x1, .int x2] [.int (S1.1 4 (((x2 * 16) + x1)).toNatClampNeg)] (hh S1) n else none := rfl
set_option maxRecDepth 200000 in
theorem T_46 {X : Nat × (Nat → Int32)} (S : St) (x1 : Int32) (x2 : Int32) (r : Int32) (S' : St) (hG : G_46 S x1 x2 = some (r, S')) : Ev X 1 46 0 [.ref 2, .int x1, .int x2] [] (hh S) (xI r, hh S') := by
  unfold G_46 at hG
  rcases h1 : G_100 S x1 x2 with _ | ⟨v1, S1⟩
  · rw [h1] at hG; cases hG
  rw [h1] at hG
  dsimp only at hG
  refine Ev.c (a := 100) (A := [.int x1, .int x2]) (h1 := hh S) (pc' := 5) (L' := [.ref 2, .int x1, .int x2]) (rest := []) (r1 := some (.int v1)) (h2 := hh S1) 3 (fun n => B_46_1 n x1 x2 S) (Ev.up (by decide) (T_100 S x1 x2 _ _ h1)) ?_
  show Ev X _ 46 5 [.ref 2, .int x1, .int x2] [.int v1] (hh S1) _
  by_cases c2 : v1 = 0
  · rw [if_pos c2] at hG
    refine Ev.t (c := v1 = 0) (p1 := 22) (L1 := [.ref 2, .int x1, .int x2]) (s1 := []) (h1 := hh S1) (p2 := 8) (L2 := [.ref 2, .int x1, .int x2]) (s2 := []) (h2 := hh S1) 1 (fun n => B_46_2 n x1 x2 v1 S1) c2 ?_
    obtain ⟨e1, e2⟩ := Prod.mk.inj (Option.some.inj hG)
    subst e1
    subst e2
    exact Ev.r 2 (fun n => rfl)
  · rw [if_neg c2] at hG
    refine Ev.f (c := v1 = 0) (p1 := 22) (L1 := [.ref 2, .int x1, .int x2]) (s1 := []) (h1 := hh S1) (p2 := 8) (L2 := [.ref 2, .int x1, .int x2]) (s2 := []) (h2 := hh S1) 1 (fun n => B_46_3 n x1 x2 v1 S1) c2 ?_
    by_cases g3 : xa_in ((x2 * 16) + x1) 192
    rotate_left
    · rw [if_neg g3] at hG; cases hG
    rw [if_pos g3] at hG
    refine Ev.g (c := (kd 4).1 = 0 ∧ xa_in ((x2 * 16) + x1) (kd 4).2) (p1 := 19) (L1 := [.ref 2, .int x1, .int x2]) (s1 := [.int (S1.1 4 (((x2 * 16) + x1)).toNatClampNeg)]) (h1 := hh S1) 8 (fun n => B_46_4 n x1 x2 S1) (⟨rfl, g3⟩) ?_
    obtain ⟨e1, e2⟩ := Prod.mk.inj (Option.some.inj hG)
    subst e1
    subst e2
    exact Ev.r 2 (fun n => rfl)
/-- 45: SceneCycle$Screen.countInBase(IIII)I -/
def GL_45_0 : Nat → St → Int32 → Int32 → Int32 → Int32 → Int32 → Int32 → Option (Int32 × St)
  | 0, _, _, _, _, _, _, _ => none
  | n + 1, S, y1, y2, y3, y4, y5, y6 =>
    (if (y2 + y4) ≤ y6 then
      some (y5, S)
    else
      (match G_46 S y6 y3 with
      | none => none
      | some (v2, S2) =>
        (if v2 = y1 then
          GL_45_0 n S2 y1 y2 y3 y4 (y5 + 1) (y6 + 1)
        else
          GL_45_0 n S2 y1 y2 y3 y4 y5 (y6 + 1)
        )
      )
    )
theorem B_45_1 {X : Nat × (Nat → Int32)} {d : Nat} (n : Nat) (y1 : Int32) (y2 : Int32) (y3 : Int32) (y4 : Int32) (y5 : Int32) (y6 : Int32) (S : St) : ex X d 45 6 [.ref 2, .int y1, .int y2, .int y3, .int y4, .int y5, .int y6] [] (hh S) (n + 5) = if (y2 + y4) ≤ y6 then ex X d 45 35 [.ref 2, .int y1, .int y2, .int y3, .int y4, .int y5, .int y6] [] (hh S) n else ex X d 45 15 [.ref 2, .int y1, .int y2, .int y3, .int y4, .int y5, .int y6] [] (hh S) n := rfl
theorem B_45_2 {X : Nat × (Nat → Int32)} {d : Nat} (n : Nat) (y1 : Int32) (y2 : Int32) (y3 : Int32) (y4 : Int32) (y5 : Int32) (y6 : Int32) (S : St) : ex X d 45 6 [.ref 2, .int y1, .int y2, .int y3, .int y4, .int y5, .int y6] [] (hh S) (n + 5) = if (y2 + y4) ≤ y6 then ex X d 45 35 [.ref 2, .int y1, .int y2, .int y3, .int y4, .int y5, .int y6] [] (hh S) n else ex X d 45 15 [.ref 2, .int y1, .int y2, .int y3, .int y4, .int y5, .int y6] [] (hh S) n := rfl
theorem B_45_3 {X : Nat × (Nat → Int32)} {d : Nat} (n : Nat) (y1 : Int32) (y2 : Int32) (y3 : Int32) (y4 : Int32) (y5 : Int32) (y6 : Int32) (S : St) : ex X (d + 1) 45 15 [.ref 2, .int y1, .int y2, .int y3, .int y4, .int y5, .int y6] [] (hh S) (n + 4) = (match ex X d 46 0 [.ref 2, .int y6, .int y3] [] (hh S) n with | some (v, h') => ex X (d + 1) 45 22 [.ref 2, .int y1, .int y2, .int y3, .int y4, .int y5, .int y6] (v.toList ++ []) h' n | none => none) := rfl
theorem B_45_4 {X : Nat × (Nat → Int32)} {d : Nat} (n : Nat) (y1 : Int32) (y2 : Int32) (y3 : Int32) (y4 : Int32) (y5 : Int32) (y6 : Int32) (v2 : Int32) (S2 : St) : ex X d 45 22 [.ref 2, .int y1, .int y2, .int y3, .int y4, .int y5, .int y6] [.int v2] (hh S2) (n + 2) = if v2 = y1 then ex X d 45 26 [.ref 2, .int y1, .int y2, .int y3, .int y4, .int y5, .int y6] [] (hh S2) n else ex X d 45 29 [.ref 2, .int y1, .int y2, .int y3, .int y4, .int y5, .int y6] [] (hh S2) n := rfl
theorem B_45_5 {X : Nat × (Nat → Int32)} {d : Nat} (n : Nat) (y1 : Int32) (y2 : Int32) (y3 : Int32) (y4 : Int32) (y5 : Int32) (y6 : Int32) (S2 : St) : ex X d 45 26 [.ref 2, .int y1, .int y2, .int y3, .int y4, .int y5, .int y6] [] (hh S2) (n + 3) = ex X d 45 6 [.ref 2, .int y1, .int y2, .int y3, .int y4, .int (y5 + 1), .int (y6 + 1)] [] (hh S2) n := rfl
theorem B_45_6 {X : Nat × (Nat → Int32)} {d : Nat} (n : Nat) (y1 : Int32) (y2 : Int32) (y3 : Int32) (y4 : Int32) (y5 : Int32) (y6 : Int32) (v2 : Int32) (S2 : St) : ex X d 45 22 [.ref 2, .int y1, .int y2, .int y3, .int y4, .int y5, .int y6] [.int v2] (hh S2) (n + 2) = if v2 = y1 then ex X d 45 26 [.ref 2, .int y1, .int y2, .int y3, .int y4, .int y5, .int y6] [] (hh S2) n else ex X d 45 29 [.ref 2, .int y1, .int y2, .int y3, .int y4, .int y5, .int y6] [] (hh S2) n := rfl
theorem B_45_7 {X : Nat × (Nat → Int32)} {d : Nat} (n : Nat) (y1 : Int32) (y2 : Int32) (y3 : Int32) (y4 : Int32) (y5 : Int32) (y6 : Int32) (S2 : St) : ex X d 45 29 [.ref 2, .int y1, .int y2, .int y3, .int y4, .int y5, .int y6] [] (hh S2) (n + 2) = ex X d 45 6 [.ref 2, .int y1, .int y2, .int y3, .int y4, .int y5, .int (y6 + 1)] [] (hh S2) n := rfl
set_option maxRecDepth 200000 in
theorem TL_45_0 {X : Nat × (Nat → Int32)} : ∀ (n : Nat) (S : St) (y1 : Int32) (y2 : Int32) (y3 : Int32) (y4 : Int32) (y5 : Int32) (y6 : Int32) (r : Int32) (S' : St), GL_45_0 n S y1 y2 y3 y4 y5 y6 = some (r, S') → Ev X 2 45 6 [.ref 2, .int y1, .int y2, .int y3, .int y4, .int y5, .int y6] [] (hh S) (xI r, hh S') := by
  intro n
  induction n with
  | zero => intro S y1 y2 y3 y4 y5 y6 r S' hG; simp [GL_45_0] at hG
  | succ n ih =>
    intro S y1 y2 y3 y4 y5 y6 r S' hG
    rw [GL_45_0] at hG
    by_cases c1 : (y2 + y4) ≤ y6
    · rw [if_pos c1] at hG
      refine Ev.t (c := (y2 + y4) ≤ y6) (p1 := 35) (L1 := [.ref 2, .int y1, .int y2, .int y3, .int y4, .int y5, .int y6]) (s1 := []) (h1 := hh S) (p2 := 15) (L2 := [.ref 2, .int y1, .int y2, .int y3, .int y4, .int y5, .int y6]) (s2 := []) (h2 := hh S) 5 (fun n => B_45_1 n y1 y2 y3 y4 y5 y6 S) c1 ?_
      obtain ⟨e1, e2⟩ := Prod.mk.inj (Option.some.inj hG)
      subst e1
      subst e2
      exact Ev.r 2 (fun n => rfl)
    · rw [if_neg c1] at hG
      refine Ev.f (c := (y2 + y4) ≤ y6) (p1 := 35) (L1 := [.ref 2, .int y1, .int y2, .int y3, .int y4, .int y5, .int y6]) (s1 := []) (h1 := hh S) (p2 := 15) (L2 := [.ref 2, .int y1, .int y2, .int y3, .int y4, .int y5, .int y6]) (s2 := []) (h2 := hh S) 5 (fun n => B_45_2 n y1 y2 y3 y4 y5 y6 S) c1 ?_
      rcases h2 : G_46 S y6 y3 with _ | ⟨v2, S2⟩
      · rw [h2] at hG; cases hG
      rw [h2] at hG
      dsimp only at hG
      refine Ev.c (a := 46) (A := [.ref 2, .int y6, .int y3]) (h1 := hh S) (pc' := 22) (L' := [.ref 2, .int y1, .int y2, .int y3, .int y4, .int y5, .int y6]) (rest := []) (r1 := some (.int v2)) (h2 := hh S2) 4 (fun n => B_45_3 n y1 y2 y3 y4 y5 y6 S) (Ev.up (by decide) (T_46 S y6 y3 _ _ h2)) ?_
      show Ev X _ 45 22 [.ref 2, .int y1, .int y2, .int y3, .int y4, .int y5, .int y6] [.int v2] (hh S2) _
      by_cases c3 : v2 = y1
      · rw [if_pos c3] at hG
        refine Ev.t (c := v2 = y1) (p1 := 26) (L1 := [.ref 2, .int y1, .int y2, .int y3, .int y4, .int y5, .int y6]) (s1 := []) (h1 := hh S2) (p2 := 29) (L2 := [.ref 2, .int y1, .int y2, .int y3, .int y4, .int y5, .int y6]) (s2 := []) (h2 := hh S2) 2 (fun n => B_45_4 n y1 y2 y3 y4 y5 y6 v2 S2) c3 ?_
        exact Ev.b (pc' := 6) (L' := [.ref 2, .int y1, .int y2, .int y3, .int y4, .int (y5 + 1), .int (y6 + 1)]) (st' := []) (h' := hh S2) 3 (fun n => B_45_5 n y1 y2 y3 y4 y5 y6 S2) (ih S2 y1 y2 y3 y4 (y5 + 1) (y6 + 1) _ _ hG )
      · rw [if_neg c3] at hG
        refine Ev.f (c := v2 = y1) (p1 := 26) (L1 := [.ref 2, .int y1, .int y2, .int y3, .int y4, .int y5, .int y6]) (s1 := []) (h1 := hh S2) (p2 := 29) (L2 := [.ref 2, .int y1, .int y2, .int y3, .int y4, .int y5, .int y6]) (s2 := []) (h2 := hh S2) 2 (fun n => B_45_6 n y1 y2 y3 y4 y5 y6 v2 S2) c3 ?_
        exact Ev.b (pc' := 6) (L' := [.ref 2, .int y1, .int y2, .int y3, .int y4, .int y5, .int (y6 + 1)]) (st' := []) (h' := hh S2) 2 (fun n => B_45_7 n y1 y2 y3 y4 y5 y6 S2) (ih S2 y1 y2 y3 y4 y5 (y6 + 1) _ _ hG )
def G_45 (S : St) (x1 : Int32) (x2 : Int32) (x3 : Int32) (x4 : Int32) : Option (Int32 × St) :=
  GL_45_0 xFu S x1 x2 x3 x4 (0 : Int32) x2
theorem B_45_8 {X : Nat × (Nat → Int32)} {d : Nat} (n : Nat) (x1 : Int32) (x2 : Int32) (x3 : Int32) (x4 : Int32) (S : St) : ex X d 45 0 [.ref 2, .int x1, .int x2, .int x3, .int x4, .retAddr 0, .retAddr 0] [] (hh S) (n + 4) = ex X d 45 6 [.ref 2, .int x1, .int x2, .int x3, .int x4, .int 0, .int x2] [] (hh S) n := rfl
set_option maxRecDepth 200000 in
theorem T_45 {X : Nat × (Nat → Int32)} (S : St) (x1 : Int32) (x2 : Int32) (x3 : Int32) (x4 : Int32) (r : Int32) (S' : St) (hG : G_45 S x1 x2 x3 x4 = some (r, S')) : Ev X 2 45 0 [.ref 2, .int x1, .int x2, .int x3, .int x4, .retAddr 0, .retAddr 0] [] (hh S) (xI r, hh S') := by
  unfold G_45 at hG
  exact Ev.b (pc' := 6) (L' := [.ref 2, .int x1, .int x2, .int x3, .int x4, .int 0, .int x2]) (st' := []) (h' := hh S) 4 (fun n => B_45_8 n x1 x2 x3 x4 S) (TL_45_0 xFu S x1 x2 x3 x4 (0 : Int32) x2 _ _ hG )
/-- 47: SceneCycle$Screen.colourAt(II)I -/
def G_47 (S : St) (x1 : Int32) (x2 : Int32) : Option (Int32 × St) :=
  (match G_100 S x1 x2 with
  | none => none
  | some (v1, S1) =>
    (if v1 = 0 then
      some ((-1), S1)
    else
      (if xa_in ((x2 * 16) + x1) 192 then
        some ((S1.1 3 (((x2 * 16) + x1)).toNatClampNeg), S1)
      else none)
    )
  )
theorem B_47_1 {X : Nat × (Nat → Int32)} {d : Nat} (n : Nat) (x1 : Int32) (x2 : Int32) (S : St) : ex X (d + 1) 47 0 [.ref 2, .int x1, .int x2] [] (hh S) (n + 3) = (match ex X d 100 0 [.int x1, .int x2] [] (hh S) n with | some (v, h') => ex X (d + 1) 47 5 [.ref 2, .int x1, .int x2] (v.toList ++ []) h' n | none => none) := rfl
theorem B_47_2 {X : Nat × (Nat → Int32)} {d : Nat} (n : Nat) (x1 : Int32) (x2 : Int32) (v1 : Int32) (S1 : St) : ex X d 47 5 [.ref 2, .int x1, .int x2] [.int v1] (hh S1) (n + 1) = if v1 = 0 then ex X d 47 22 [.ref 2, .int x1, .int x2] [] (hh S1) n else ex X d 47 8 [.ref 2, .int x1, .int x2] [] (hh S1) n := rfl
theorem B_47_3 {X : Nat × (Nat → Int32)} {d : Nat} (n : Nat) (x1 : Int32) (x2 : Int32) (v1 : Int32) (S1 : St) : ex X d 47 5 [.ref 2, .int x1, .int x2] [.int v1] (hh S1) (n + 1) = if v1 = 0 then ex X d 47 22 [.ref 2, .int x1, .int x2] [] (hh S1) n else ex X d 47 8 [.ref 2, .int x1, .int x2] [] (hh S1) n := rfl
theorem B_47_4 {X : Nat × (Nat → Int32)} {d : Nat} (n : Nat) (x1 : Int32) (x2 : Int32) (S1 : St) : ex X d 47 8 [.ref 2, .int x1, .int x2] [] (hh S1) (n + 8) = if (kd 3).1 = 0 ∧ xa_in ((x2 * 16) + x1) (kd 3).2 then ex X d 47 19 [.ref 2, .int x1, .int x2] [.int (S1.1 3 (((x2 * 16) + x1)).toNatClampNeg)] (hh S1) n else none := rfl
set_option maxRecDepth 200000 in
theorem T_47 {X : Nat × (Nat → Int32)} (S : St) (x1 : Int32) (x2 : Int32) (r : Int32) (S' : St) (hG : G_47 S x1 x2 = some (r, S')) : Ev X 1 47 0 [.ref 2, .int x1, .int x2] [] (hh S) (xI r, hh S') := by
  unfold G_47 at hG
  rcases h1 : G_100 S x1 x2 with _ | ⟨v1, S1⟩
  · rw [h1] at hG; cases hG
  rw [h1] at hG
  dsimp only at hG
  refine Ev.c (a := 100) (A := [.int x1, .int x2]) (h1 := hh S) (pc' := 5) (L' := [.ref 2, .int x1, .int x2]) (rest := []) (r1 := some (.int v1)) (h2 := hh S1) 3 (fun n => B_47_1 n x1 x2 S) (Ev.up (by decide) (T_100 S x1 x2 _ _ h1)) ?_
  show Ev X _ 47 5 [.ref 2, .int x1, .int x2] [.int v1] (hh S1) _
  by_cases c2 : v1 = 0
  · rw [if_pos c2] at hG
    refine Ev.t (c := v1 = 0) (p1 := 22) (L1 := [.ref 2, .int x1, .int x2]) (s1 := []) (h1 := hh S1) (p2 := 8) (L2 := [.ref 2, .int x1, .int x2]) (s2 := []) (h2 := hh S1) 1 (fun n => B_47_2 n x1 x2 v1 S1) c2 ?_
    obtain ⟨e1, e2⟩ := Prod.mk.inj (Option.some.inj hG)
    subst e1
    subst e2
    exact Ev.r 2 (fun n => rfl)
  · rw [if_neg c2] at hG
    refine Ev.f (c := v1 = 0) (p1 := 22) (L1 := [.ref 2, .int x1, .int x2]) (s1 := []) (h1 := hh S1) (p2 := 8) (L2 := [.ref 2, .int x1, .int x2]) (s2 := []) (h2 := hh S1) 1 (fun n => B_47_3 n x1 x2 v1 S1) c2 ?_
    by_cases g3 : xa_in ((x2 * 16) + x1) 192
    rotate_left
    · rw [if_neg g3] at hG; cases hG
    rw [if_pos g3] at hG
    refine Ev.g (c := (kd 3).1 = 0 ∧ xa_in ((x2 * 16) + x1) (kd 3).2) (p1 := 19) (L1 := [.ref 2, .int x1, .int x2]) (s1 := [.int (S1.1 3 (((x2 * 16) + x1)).toNatClampNeg)]) (h1 := hh S1) 8 (fun n => B_47_4 n x1 x2 S1) (⟨rfl, g3⟩) ?_
    obtain ⟨e1, e2⟩ := Prod.mk.inj (Option.some.inj hG)
    subst e1
    subst e2
    exact Ev.r 2 (fun n => rfl)
/-- 48: SceneCycle$Screen.depthAt(II)I -/
def GL_48_0 : Nat → St → Int32 → Int32 → Option (Int32 × St)
  | 0, _, _, _ => none
  | n + 1, S, y1, y3 =>
    (if 12 ≤ y3 then
      some (4, S)
    else
      (match G_46 S y1 y3 with
      | none => none
      | some (v2, S2) =>
        (if v2 < 4 then
          GL_48_0 n S2 y1 (y3 + 1)
        else
          (match G_46 S2 y1 y3 with
          | none => none
          | some (v4, S4) =>
            some (v4, S4)
          )
        )
      )
    )
theorem B_48_1 {X : Nat × (Nat → Int32)} {d : Nat} (n : Nat) (y1 : Int32) (w2 : Value) (y3 : Int32) (S : St) : ex X d 48 2 [.ref 2, .int y1, w2, .int y3] [] (hh S) (n + 3) = if 12 ≤ y3 then ex X d 48 31 [.ref 2, .int y1, w2, .int y3] [] (hh S) n else ex X d 48 8 [.ref 2, .int y1, w2, .int y3] [] (hh S) n := rfl
theorem B_48_2 {X : Nat × (Nat → Int32)} {d : Nat} (n : Nat) (y1 : Int32) (w2 : Value) (y3 : Int32) (S : St) : ex X d 48 2 [.ref 2, .int y1, w2, .int y3] [] (hh S) (n + 3) = if 12 ≤ y3 then ex X d 48 31 [.ref 2, .int y1, w2, .int y3] [] (hh S) n else ex X d 48 8 [.ref 2, .int y1, w2, .int y3] [] (hh S) n := rfl
theorem B_48_3 {X : Nat × (Nat → Int32)} {d : Nat} (n : Nat) (y1 : Int32) (w2 : Value) (y3 : Int32) (S : St) : ex X (d + 1) 48 8 [.ref 2, .int y1, w2, .int y3] [] (hh S) (n + 4) = (match ex X d 46 0 [.ref 2, .int y1, .int y3] [] (hh S) n with | some (v, h') => ex X (d + 1) 48 14 [.ref 2, .int y1, w2, .int y3] (v.toList ++ []) h' n | none => none) := rfl
theorem B_48_4 {X : Nat × (Nat → Int32)} {d : Nat} (n : Nat) (y1 : Int32) (w2 : Value) (y3 : Int32) (v2 : Int32) (S2 : St) : ex X d 48 14 [.ref 2, .int y1, w2, .int y3] [.int v2] (hh S2) (n + 2) = if v2 < 4 then ex X d 48 25 [.ref 2, .int y1, w2, .int y3] [] (hh S2) n else ex X d 48 18 [.ref 2, .int y1, w2, .int y3] [] (hh S2) n := rfl
theorem B_48_5 {X : Nat × (Nat → Int32)} {d : Nat} (n : Nat) (y1 : Int32) (w2 : Value) (y3 : Int32) (S2 : St) : ex X d 48 25 [.ref 2, .int y1, w2, .int y3] [] (hh S2) (n + 2) = ex X d 48 2 [.ref 2, .int y1, w2, .int (y3 + 1)] [] (hh S2) n := rfl
theorem B_48_6 {X : Nat × (Nat → Int32)} {d : Nat} (n : Nat) (y1 : Int32) (w2 : Value) (y3 : Int32) (v2 : Int32) (S2 : St) : ex X d 48 14 [.ref 2, .int y1, w2, .int y3] [.int v2] (hh S2) (n + 2) = if v2 < 4 then ex X d 48 25 [.ref 2, .int y1, w2, .int y3] [] (hh S2) n else ex X d 48 18 [.ref 2, .int y1, w2, .int y3] [] (hh S2) n := rfl
theorem B_48_7 {X : Nat × (Nat → Int32)} {d : Nat} (n : Nat) (y1 : Int32) (w2 : Value) (y3 : Int32) (S2 : St) : ex X (d + 1) 48 18 [.ref 2, .int y1, w2, .int y3] [] (hh S2) (n + 4) = (match ex X d 46 0 [.ref 2, .int y1, .int y3] [] (hh S2) n with | some (v, h') => ex X (d + 1) 48 24 [.ref 2, .int y1, w2, .int y3] (v.toList ++ []) h' n | none => none) := rfl
set_option maxRecDepth 200000 in
theorem TL_48_0 {X : Nat × (Nat → Int32)} : ∀ (n : Nat) (S : St) (y1 : Int32) (y3 : Int32) (r : Int32) (S' : St), GL_48_0 n S y1 y3 = some (r, S') → ∀ (w2 : Value), Ev X 2 48 2 [.ref 2, .int y1, w2, .int y3] [] (hh S) (xI r, hh S') := by
  intro n
  induction n with
  | zero => intro S y1 y3 r S' hG; simp [GL_48_0] at hG
  | succ n ih =>
    intro S y1 y3 r S' hG w2
    rw [GL_48_0] at hG
    by_cases c1 : 12 ≤ y3
    · rw [if_pos c1] at hG
      refine Ev.t (c := 12 ≤ y3) (p1 := 31) (L1 := [.ref 2, .int y1, w2, .int y3]) (s1 := []) (h1 := hh S) (p2 := 8) (L2 := [.ref 2, .int y1, w2, .int y3]) (s2 := []) (h2 := hh S) 3 (fun n => B_48_1 n y1 w2 y3 S) c1 ?_
      obtain ⟨e1, e2⟩ := Prod.mk.inj (Option.some.inj hG)
      subst e1
      subst e2
      exact Ev.r 2 (fun n => rfl)
    · rw [if_neg c1] at hG
      refine Ev.f (c := 12 ≤ y3) (p1 := 31) (L1 := [.ref 2, .int y1, w2, .int y3]) (s1 := []) (h1 := hh S) (p2 := 8) (L2 := [.ref 2, .int y1, w2, .int y3]) (s2 := []) (h2 := hh S) 3 (fun n => B_48_2 n y1 w2 y3 S) c1 ?_
      rcases h2 : G_46 S y1 y3 with _ | ⟨v2, S2⟩
      · rw [h2] at hG; cases hG
      rw [h2] at hG
      dsimp only at hG
      refine Ev.c (a := 46) (A := [.ref 2, .int y1, .int y3]) (h1 := hh S) (pc' := 14) (L' := [.ref 2, .int y1, w2, .int y3]) (rest := []) (r1 := some (.int v2)) (h2 := hh S2) 4 (fun n => B_48_3 n y1 w2 y3 S) (Ev.up (by decide) (T_46 S y1 y3 _ _ h2)) ?_
      show Ev X _ 48 14 [.ref 2, .int y1, w2, .int y3] [.int v2] (hh S2) _
      by_cases c3 : v2 < 4
      · rw [if_pos c3] at hG
        refine Ev.t (c := v2 < 4) (p1 := 25) (L1 := [.ref 2, .int y1, w2, .int y3]) (s1 := []) (h1 := hh S2) (p2 := 18) (L2 := [.ref 2, .int y1, w2, .int y3]) (s2 := []) (h2 := hh S2) 2 (fun n => B_48_4 n y1 w2 y3 v2 S2) c3 ?_
        exact Ev.b (pc' := 2) (L' := [.ref 2, .int y1, w2, .int (y3 + 1)]) (st' := []) (h' := hh S2) 2 (fun n => B_48_5 n y1 w2 y3 S2) (ih S2 y1 (y3 + 1) _ _ hG w2)
      · rw [if_neg c3] at hG
        refine Ev.f (c := v2 < 4) (p1 := 25) (L1 := [.ref 2, .int y1, w2, .int y3]) (s1 := []) (h1 := hh S2) (p2 := 18) (L2 := [.ref 2, .int y1, w2, .int y3]) (s2 := []) (h2 := hh S2) 2 (fun n => B_48_6 n y1 w2 y3 v2 S2) c3 ?_
        rcases h4 : G_46 S2 y1 y3 with _ | ⟨v4, S4⟩
        · rw [h4] at hG; cases hG
        rw [h4] at hG
        dsimp only at hG
        refine Ev.c (a := 46) (A := [.ref 2, .int y1, .int y3]) (h1 := hh S2) (pc' := 24) (L' := [.ref 2, .int y1, w2, .int y3]) (rest := []) (r1 := some (.int v4)) (h2 := hh S4) 4 (fun n => B_48_7 n y1 w2 y3 S2) (Ev.up (by decide) (T_46 S2 y1 y3 _ _ h4)) ?_
        show Ev X _ 48 24 [.ref 2, .int y1, w2, .int y3] [.int v4] (hh S4) _
        obtain ⟨e1, e2⟩ := Prod.mk.inj (Option.some.inj hG)
        subst e1
        subst e2
        exact Ev.r 1 (fun n => rfl)
def G_48 (S : St) (x1 : Int32) (x2 : Int32) : Option (Int32 × St) :=
  GL_48_0 xFu S x1 x2
theorem B_48_8 {X : Nat × (Nat → Int32)} {d : Nat} (n : Nat) (x1 : Int32) (x2 : Int32) (S : St) : ex X d 48 0 [.ref 2, .int x1, .int x2, .retAddr 0] [] (hh S) (n + 2) = ex X d 48 2 [.ref 2, .int x1, .int x2, .int x2] [] (hh S) n := rfl
set_option maxRecDepth 200000 in
theorem T_48 {X : Nat × (Nat → Int32)} (S : St) (x1 : Int32) (x2 : Int32) (r : Int32) (S' : St) (hG : G_48 S x1 x2 = some (r, S')) : Ev X 2 48 0 [.ref 2, .int x1, .int x2, .retAddr 0] [] (hh S) (xI r, hh S') := by
  unfold G_48 at hG
  exact Ev.b (pc' := 2) (L' := [.ref 2, .int x1, .int x2, .int x2]) (st' := []) (h' := hh S) 2 (fun n => B_48_8 n x1 x2 S) (TL_48_0 xFu S x1 x2 _ _ hG (.int x2))
/-- 50: SceneCycle$World.resourceAt(I)LSceneCycle$Resource; -/
def G_50 (S : St) (x1 : Int32) : Option (Option Nat × St) :=
  (if x1 < 0 then
    some (none, S)
  else
    (if 4 ≤ x1 then
      some (none, S)
    else
      (if xa_in x1 4 then
        some (some (15 + 2 * (x1).toNatClampNeg), S)
      else none)
    )
  )
theorem B_50_1 {X : Nat × (Nat → Int32)} {d : Nat} (n : Nat) (x1 : Int32) (S : St) : ex X d 50 0 [.ref 1, .int x1] [] (hh S) (n + 2) = if x1 < 0 then ex X d 50 18 [.ref 1, .int x1] [] (hh S) n else ex X d 50 4 [.ref 1, .int x1] [] (hh S) n := rfl
theorem B_50_2 {X : Nat × (Nat → Int32)} {d : Nat} (n : Nat) (x1 : Int32) (S : St) : ex X d 50 0 [.ref 1, .int x1] [] (hh S) (n + 2) = if x1 < 0 then ex X d 50 18 [.ref 1, .int x1] [] (hh S) n else ex X d 50 4 [.ref 1, .int x1] [] (hh S) n := rfl
theorem B_50_3 {X : Nat × (Nat → Int32)} {d : Nat} (n : Nat) (x1 : Int32) (S : St) : ex X d 50 4 [.ref 1, .int x1] [] (hh S) (n + 3) = if 4 ≤ x1 then ex X d 50 18 [.ref 1, .int x1] [] (hh S) n else ex X d 50 9 [.ref 1, .int x1] [] (hh S) n := rfl
theorem B_50_4 {X : Nat × (Nat → Int32)} {d : Nat} (n : Nat) (x1 : Int32) (S : St) : ex X d 50 4 [.ref 1, .int x1] [] (hh S) (n + 3) = if 4 ≤ x1 then ex X d 50 18 [.ref 1, .int x1] [] (hh S) n else ex X d 50 9 [.ref 1, .int x1] [] (hh S) n := rfl
theorem B_50_5 {X : Nat × (Nat → Int32)} {d : Nat} (n : Nat) (x1 : Int32) (S : St) : ex X d 50 9 [.ref 1, .int x1] [] (hh S) (n + 4) = if (2 ≤ (kd 8).1 ∧ (kd 8).1 < xo_n) ∧ xa_in x1 (kd 8).2 then ex X d 50 15 [.ref 1, .int x1] [va_rf (RC S.2.1 S.2.2 8 (x1).toNatClampNeg)] (hh S) n else none := rfl
set_option maxRecDepth 200000 in
theorem T_50 {X : Nat × (Nat → Int32)} (S : St) (x1 : Int32) (r : Option Nat) (S' : St) (hG : G_50 S x1 = some (r, S')) : Ev X 0 50 0 [.ref 1, .int x1] [] (hh S) (xO r, hh S') := by
  unfold G_50 at hG
  by_cases c1 : x1 < 0
  · rw [if_pos c1] at hG
    refine Ev.t (c := x1 < 0) (p1 := 18) (L1 := [.ref 1, .int x1]) (s1 := []) (h1 := hh S) (p2 := 4) (L2 := [.ref 1, .int x1]) (s2 := []) (h2 := hh S) 2 (fun n => B_50_1 n x1 S) c1 ?_
    obtain ⟨e1, e2⟩ := Prod.mk.inj (Option.some.inj hG)
    subst e1
    subst e2
    exact Ev.r 2 (fun n => rfl)
  · rw [if_neg c1] at hG
    refine Ev.f (c := x1 < 0) (p1 := 18) (L1 := [.ref 1, .int x1]) (s1 := []) (h1 := hh S) (p2 := 4) (L2 := [.ref 1, .int x1]) (s2 := []) (h2 := hh S) 2 (fun n => B_50_2 n x1 S) c1 ?_
    by_cases c2 : 4 ≤ x1
    · rw [if_pos c2] at hG
      refine Ev.t (c := 4 ≤ x1) (p1 := 18) (L1 := [.ref 1, .int x1]) (s1 := []) (h1 := hh S) (p2 := 9) (L2 := [.ref 1, .int x1]) (s2 := []) (h2 := hh S) 3 (fun n => B_50_3 n x1 S) c2 ?_
      obtain ⟨e1, e2⟩ := Prod.mk.inj (Option.some.inj hG)
      subst e1
      subst e2
      exact Ev.r 2 (fun n => rfl)
    · rw [if_neg c2] at hG
      refine Ev.f (c := 4 ≤ x1) (p1 := 18) (L1 := [.ref 1, .int x1]) (s1 := []) (h1 := hh S) (p2 := 9) (L2 := [.ref 1, .int x1]) (s2 := []) (h2 := hh S) 3 (fun n => B_50_4 n x1 S) c2 ?_
      by_cases g3 : xa_in x1 4
      rotate_left
      · rw [if_neg g3] at hG; cases hG
      rw [if_pos g3] at hG
      refine Ev.g (c := (2 ≤ (kd 8).1 ∧ (kd 8).1 < xo_n) ∧ xa_in x1 (kd 8).2) (p1 := 15) (L1 := [.ref 1, .int x1]) (s1 := [va_rf (RC S.2.1 S.2.2 8 (x1).toNatClampNeg)]) (h1 := hh S) 4 (fun n => B_50_5 n x1 S) ⟨⟨by decide, by decide⟩, g3⟩ ?_
      rw [RC_8 (xa_lt (n := 4) g3)]
      show Ev X _ 50 15 [.ref 1, .int x1] [.ref (15 + 2 * (x1).toNatClampNeg)] (hh S) _
      obtain ⟨e1, e2⟩ := Prod.mk.inj (Option.some.inj hG)
      subst e1
      subst e2
      exact Ev.r 2 (fun n => rfl)
/-- 51: SceneCycle$World.setValue(II)Z -/
def G_51 (S : St) (x1 : Int32) (x2 : Int32) : Option (Int32 × St) :=
  (if x1 < 0 then
    some (0, S)
  else
    (if x1 < 16 then
      (if xa_in x1 16 then
        some (1, (xa_u S.1 9 ((x1).toNatClampNeg) x2, S.2.1, S.2.2))
      else none)
    else
      some (0, S)
    )
  )
theorem B_51_1 {X : Nat × (Nat → Int32)} {d : Nat} (n : Nat) (x1 : Int32) (x2 : Int32) (S : St) : ex X d 51 0 [.ref 1, .int x1, .int x2] [] (hh S) (n + 2) = if x1 < 0 then ex X d 51 10 [.ref 1, .int x1, .int x2] [] (hh S) n else ex X d 51 4 [.ref 1, .int x1, .int x2] [] (hh S) n := rfl
theorem B_51_2 {X : Nat × (Nat → Int32)} {d : Nat} (n : Nat) (x1 : Int32) (x2 : Int32) (S : St) : ex X d 51 0 [.ref 1, .int x1, .int x2] [] (hh S) (n + 2) = if x1 < 0 then ex X d 51 10 [.ref 1, .int x1, .int x2] [] (hh S) n else ex X d 51 4 [.ref 1, .int x1, .int x2] [] (hh S) n := rfl
theorem B_51_3 {X : Nat × (Nat → Int32)} {d : Nat} (n : Nat) (x1 : Int32) (x2 : Int32) (S : St) : ex X d 51 4 [.ref 1, .int x1, .int x2] [] (hh S) (n + 3) = if x1 < 16 then ex X d 51 12 [.ref 1, .int x1, .int x2] [] (hh S) n else ex X d 51 10 [.ref 1, .int x1, .int x2] [] (hh S) n := rfl
theorem B_51_4 {X : Nat × (Nat → Int32)} {d : Nat} (n : Nat) (x1 : Int32) (x2 : Int32) (S : St) : ex X d 51 12 [.ref 1, .int x1, .int x2] [] (hh S) (n + 5) = if (kd 9).1 = 0 ∧ xa_in x1 (kd 9).2 then ex X d 51 19 [.ref 1, .int x1, .int x2] [] (hh (xa_u S.1 9 ((x1).toNatClampNeg) x2, S.2.1, S.2.2)) n else none := rfl
theorem B_51_5 {X : Nat × (Nat → Int32)} {d : Nat} (n : Nat) (x1 : Int32) (x2 : Int32) (S : St) : ex X d 51 4 [.ref 1, .int x1, .int x2] [] (hh S) (n + 3) = if x1 < 16 then ex X d 51 12 [.ref 1, .int x1, .int x2] [] (hh S) n else ex X d 51 10 [.ref 1, .int x1, .int x2] [] (hh S) n := rfl
set_option maxRecDepth 200000 in
theorem T_51 {X : Nat × (Nat → Int32)} (S : St) (x1 : Int32) (x2 : Int32) (r : Int32) (S' : St) (hG : G_51 S x1 x2 = some (r, S')) : Ev X 0 51 0 [.ref 1, .int x1, .int x2] [] (hh S) (xI r, hh S') := by
  unfold G_51 at hG
  by_cases c1 : x1 < 0
  · rw [if_pos c1] at hG
    refine Ev.t (c := x1 < 0) (p1 := 10) (L1 := [.ref 1, .int x1, .int x2]) (s1 := []) (h1 := hh S) (p2 := 4) (L2 := [.ref 1, .int x1, .int x2]) (s2 := []) (h2 := hh S) 2 (fun n => B_51_1 n x1 x2 S) c1 ?_
    obtain ⟨e1, e2⟩ := Prod.mk.inj (Option.some.inj hG)
    subst e1
    subst e2
    exact Ev.rg (c := (xm_z 51 = 0 ∨ (xm_z 51 = 1 ∧ ((0 : Int32) = 0 ∨ (0 : Int32) = 1)) ∨ (xm_z 51 = 2 ∧ ((0 : Int32)).toInt8.toInt32 = (0 : Int32)) ∨ (xm_z 51 = 3 ∧ ((0 : Int32)).toUInt32.toUInt16.toUInt32.toInt32 = (0 : Int32)))) 2 (fun n => rfl) (Or.inr (Or.inl ⟨rfl, by decide⟩))
  · rw [if_neg c1] at hG
    refine Ev.f (c := x1 < 0) (p1 := 10) (L1 := [.ref 1, .int x1, .int x2]) (s1 := []) (h1 := hh S) (p2 := 4) (L2 := [.ref 1, .int x1, .int x2]) (s2 := []) (h2 := hh S) 2 (fun n => B_51_2 n x1 x2 S) c1 ?_
    by_cases c2 : x1 < 16
    · rw [if_pos c2] at hG
      refine Ev.t (c := x1 < 16) (p1 := 12) (L1 := [.ref 1, .int x1, .int x2]) (s1 := []) (h1 := hh S) (p2 := 10) (L2 := [.ref 1, .int x1, .int x2]) (s2 := []) (h2 := hh S) 3 (fun n => B_51_3 n x1 x2 S) c2 ?_
      by_cases g3 : xa_in x1 16
      rotate_left
      · rw [if_neg g3] at hG; cases hG
      rw [if_pos g3] at hG
      refine Ev.g (c := (kd 9).1 = 0 ∧ xa_in x1 (kd 9).2) (p1 := 19) (L1 := [.ref 1, .int x1, .int x2]) (s1 := []) (h1 := hh (xa_u S.1 9 ((x1).toNatClampNeg) x2, S.2.1, S.2.2)) 5 (fun n => B_51_4 n x1 x2 S) (⟨rfl, g3⟩) ?_
      obtain ⟨e1, e2⟩ := Prod.mk.inj (Option.some.inj hG)
      subst e1
      subst e2
      exact Ev.rg (c := (xm_z 51 = 0 ∨ (xm_z 51 = 1 ∧ ((1 : Int32) = 0 ∨ (1 : Int32) = 1)) ∨ (xm_z 51 = 2 ∧ ((1 : Int32)).toInt8.toInt32 = (1 : Int32)) ∨ (xm_z 51 = 3 ∧ ((1 : Int32)).toUInt32.toUInt16.toUInt32.toInt32 = (1 : Int32)))) 2 (fun n => rfl) (Or.inr (Or.inl ⟨rfl, by decide⟩))
    · rw [if_neg c2] at hG
      refine Ev.f (c := x1 < 16) (p1 := 12) (L1 := [.ref 1, .int x1, .int x2]) (s1 := []) (h1 := hh S) (p2 := 10) (L2 := [.ref 1, .int x1, .int x2]) (s2 := []) (h2 := hh S) 3 (fun n => B_51_5 n x1 x2 S) c2 ?_
      obtain ⟨e1, e2⟩ := Prod.mk.inj (Option.some.inj hG)
      subst e1
      subst e2
      exact Ev.rg (c := (xm_z 51 = 0 ∨ (xm_z 51 = 1 ∧ ((0 : Int32) = 0 ∨ (0 : Int32) = 1)) ∨ (xm_z 51 = 2 ∧ ((0 : Int32)).toInt8.toInt32 = (0 : Int32)) ∨ (xm_z 51 = 3 ∧ ((0 : Int32)).toUInt32.toUInt16.toUInt32.toInt32 = (0 : Int32)))) 2 (fun n => rfl) (Or.inr (Or.inl ⟨rfl, by decide⟩))
