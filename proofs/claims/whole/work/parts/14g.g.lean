/-- 124: SceneCycleModel.instruction(II)I -/
def G_124 (S : St) (x1 : Int32) (x2 : Int32) : Option (Int32 × St) :=
  (match G_118 S x1 x2 with
  | none => none
  | some (v1, S1) =>
    (match G_120 S1 x1 x2 (0 : Int32) (18 : Int32) with
    | none => none
    | some (v2, S2) =>
      (if v1 < 9 then
        (if v1 = 0 then
          some ((x2 + 1), S2)
        else
          (if v1 = 1 then
            (match G_120 S2 x1 (x2 + 1) (0 : Int32) (15 : Int32) with
            | none => none
            | some (v6, S6) =>
              (match G_120 S6 x1 (x2 + 2) (0 : Int32) (255 : Int32) with
              | none => none
              | some (v7, S7) =>
                some ((x2 + 3), S7)
              )
            )
          else
            (if v1 = 2 then
              (match G_120 S2 x1 (x2 + 1) (0 : Int32) (15 : Int32) with
              | none => none
              | some (v9, S9) =>
                (match G_120 S9 x1 (x2 + 2) (0 : Int32) (255 : Int32) with
                | none => none
                | some (v10, S10) =>
                  some ((x2 + 3), S10)
                )
              )
            else
              (if v1 = 3 then
                (match G_120 S2 x1 (x2 + 1) (0 : Int32) (15 : Int32) with
                | none => none
                | some (v12, S12) =>
                  (match G_120 S12 x1 (x2 + 2) (0 : Int32) (15 : Int32) with
                  | none => none
                  | some (v13, S13) =>
                    some ((x2 + 3), S13)
                  )
                )
              else
                (if v1 = 4 then
                  (match G_120 S2 x1 (x2 + 1) (0 : Int32) (15 : Int32) with
                  | none => none
                  | some (v15, S15) =>
                    some ((x2 + 2), S15)
                  )
                else
                  (if v1 = 5 then
                    (match G_120 S2 x1 (x2 + 1) (0 : Int32) (15 : Int32) with
                    | none => none
                    | some (v17, S17) =>
                      some ((x2 + 2), S17)
                    )
                  else
                    (if v1 = 6 then
                      (match G_120 S2 x1 (x2 + 1) (1 : Int32) (3 : Int32) with
                      | none => none
                      | some (v19, S19) =>
                        some ((x2 + 2), S19)
                      )
                    else
                      (if v1 = 7 then
                        (match G_120 S2 x1 (x2 + 1) (0 : Int32) (255 : Int32) with
                        | none => none
                        | some (v21, S21) =>
                          some ((x2 + 2), S21)
                        )
                      else
                        (if v1 = 8 then
                          (match G_125 S2 x1 (x2 + 1) with
                          | none => none
                          | some (v23, S23) =>
                            (match G_120 S23 x1 v23 (0 : Int32) (255 : Int32) with
                            | none => none
                            | some (v24, S24) =>
                              some ((v23 + 1), S24)
                            )
                          )
                        else
                          (if v1 = 18 then
                            some ((x2 + 1), S2)
                          else
                            (match G_127 S2 x1 x2 v1 with
                            | none => none
                            | some (v26, S26) =>
                              some (v26, S26)
                            )
                          )
                        )
                      )
                    )
                  )
                )
              )
            )
          )
        )
      else
        (if 18 ≤ v1 then
          (if v1 = 0 then
            some ((x2 + 1), S2)
          else
            (if v1 = 1 then
              (match G_120 S2 x1 (x2 + 1) (0 : Int32) (15 : Int32) with
              | none => none
              | some (v30, S30) =>
                (match G_120 S30 x1 (x2 + 2) (0 : Int32) (255 : Int32) with
                | none => none
                | some (v31, S31) =>
                  some ((x2 + 3), S31)
                )
              )
            else
              (if v1 = 2 then
                (match G_120 S2 x1 (x2 + 1) (0 : Int32) (15 : Int32) with
                | none => none
                | some (v33, S33) =>
                  (match G_120 S33 x1 (x2 + 2) (0 : Int32) (255 : Int32) with
                  | none => none
                  | some (v34, S34) =>
                    some ((x2 + 3), S34)
                  )
                )
              else
                (if v1 = 3 then
                  (match G_120 S2 x1 (x2 + 1) (0 : Int32) (15 : Int32) with
                  | none => none
                  | some (v36, S36) =>
                    (match G_120 S36 x1 (x2 + 2) (0 : Int32) (15 : Int32) with
                    | none => none
                    | some (v37, S37) =>
                      some ((x2 + 3), S37)
                    )
                  )
                else
                  (if v1 = 4 then
                    (match G_120 S2 x1 (x2 + 1) (0 : Int32) (15 : Int32) with
                    | none => none
                    | some (v39, S39) =>
                      some ((x2 + 2), S39)
                    )
                  else
                    (if v1 = 5 then
                      (match G_120 S2 x1 (x2 + 1) (0 : Int32) (15 : Int32) with
                      | none => none
                      | some (v41, S41) =>
                        some ((x2 + 2), S41)
                      )
                    else
                      (if v1 = 6 then
                        (match G_120 S2 x1 (x2 + 1) (1 : Int32) (3 : Int32) with
                        | none => none
                        | some (v43, S43) =>
                          some ((x2 + 2), S43)
                        )
                      else
                        (if v1 = 7 then
                          (match G_120 S2 x1 (x2 + 1) (0 : Int32) (255 : Int32) with
                          | none => none
                          | some (v45, S45) =>
                            some ((x2 + 2), S45)
                          )
                        else
                          (if v1 = 8 then
                            (match G_125 S2 x1 (x2 + 1) with
                            | none => none
                            | some (v47, S47) =>
                              (match G_120 S47 x1 v47 (0 : Int32) (255 : Int32) with
                              | none => none
                              | some (v48, S48) =>
                                some ((v47 + 1), S48)
                              )
                            )
                          else
                            (if v1 = 18 then
                              some ((x2 + 1), S2)
                            else
                              (match G_127 S2 x1 x2 v1 with
                              | none => none
                              | some (v50, S50) =>
                                some (v50, S50)
                              )
                            )
                          )
                        )
                      )
                    )
                  )
                )
              )
            )
          )
        else
          (if v1 = 14 then
            (match G_120 S2 x1 (x2 + 1) (1 : Int32) (3 : Int32) with
            | none => none
            | some (v52, S52) =>
              (if v1 = 0 then
                some ((x2 + 1), S52)
              else
                (if v1 = 1 then
                  (match G_120 S52 x1 (x2 + 1) (0 : Int32) (15 : Int32) with
                  | none => none
                  | some (v55, S55) =>
                    (match G_120 S55 x1 (x2 + 2) (0 : Int32) (255 : Int32) with
                    | none => none
                    | some (v56, S56) =>
                      some ((x2 + 3), S56)
                    )
                  )
                else
                  (if v1 = 2 then
                    (match G_120 S52 x1 (x2 + 1) (0 : Int32) (15 : Int32) with
                    | none => none
                    | some (v58, S58) =>
                      (match G_120 S58 x1 (x2 + 2) (0 : Int32) (255 : Int32) with
                      | none => none
                      | some (v59, S59) =>
                        some ((x2 + 3), S59)
                      )
                    )
                  else
                    (if v1 = 3 then
                      (match G_120 S52 x1 (x2 + 1) (0 : Int32) (15 : Int32) with
                      | none => none
                      | some (v61, S61) =>
                        (match G_120 S61 x1 (x2 + 2) (0 : Int32) (15 : Int32) with
                        | none => none
                        | some (v62, S62) =>
                          some ((x2 + 3), S62)
                        )
                      )
                    else
                      (if v1 = 4 then
                        (match G_120 S52 x1 (x2 + 1) (0 : Int32) (15 : Int32) with
                        | none => none
                        | some (v64, S64) =>
                          some ((x2 + 2), S64)
                        )
                      else
                        (if v1 = 5 then
                          (match G_120 S52 x1 (x2 + 1) (0 : Int32) (15 : Int32) with
                          | none => none
                          | some (v66, S66) =>
                            some ((x2 + 2), S66)
                          )
                        else
                          (if v1 = 6 then
                            (match G_120 S52 x1 (x2 + 1) (1 : Int32) (3 : Int32) with
                            | none => none
                            | some (v68, S68) =>
                              some ((x2 + 2), S68)
                            )
                          else
                            (if v1 = 7 then
                              (match G_120 S52 x1 (x2 + 1) (0 : Int32) (255 : Int32) with
                              | none => none
                              | some (v70, S70) =>
                                some ((x2 + 2), S70)
                              )
                            else
                              (if v1 = 8 then
                                (match G_125 S52 x1 (x2 + 1) with
                                | none => none
                                | some (v72, S72) =>
                                  (match G_120 S72 x1 v72 (0 : Int32) (255 : Int32) with
                                  | none => none
                                  | some (v73, S73) =>
                                    some ((v72 + 1), S73)
                                  )
                                )
                              else
                                (if v1 = 18 then
                                  some ((x2 + 1), S52)
                                else
                                  (match G_127 S52 x1 x2 v1 with
                                  | none => none
                                  | some (v75, S75) =>
                                    some (v75, S75)
                                  )
                                )
                              )
                            )
                          )
                        )
                      )
                    )
                  )
                )
              )
            )
          else
            (match G_120 S2 x1 (x2 + 1) (0 : Int32) (3 : Int32) with
            | none => none
            | some (v76, S76) =>
              (if v1 = 0 then
                some ((x2 + 1), S76)
              else
                (if v1 = 1 then
                  (match G_120 S76 x1 (x2 + 1) (0 : Int32) (15 : Int32) with
                  | none => none
                  | some (v79, S79) =>
                    (match G_120 S79 x1 (x2 + 2) (0 : Int32) (255 : Int32) with
                    | none => none
                    | some (v80, S80) =>
                      some ((x2 + 3), S80)
                    )
                  )
                else
                  (if v1 = 2 then
                    (match G_120 S76 x1 (x2 + 1) (0 : Int32) (15 : Int32) with
                    | none => none
                    | some (v82, S82) =>
                      (match G_120 S82 x1 (x2 + 2) (0 : Int32) (255 : Int32) with
                      | none => none
                      | some (v83, S83) =>
                        some ((x2 + 3), S83)
                      )
                    )
                  else
                    (if v1 = 3 then
                      (match G_120 S76 x1 (x2 + 1) (0 : Int32) (15 : Int32) with
                      | none => none
                      | some (v85, S85) =>
                        (match G_120 S85 x1 (x2 + 2) (0 : Int32) (15 : Int32) with
                        | none => none
                        | some (v86, S86) =>
                          some ((x2 + 3), S86)
                        )
                      )
                    else
                      (if v1 = 4 then
                        (match G_120 S76 x1 (x2 + 1) (0 : Int32) (15 : Int32) with
                        | none => none
                        | some (v88, S88) =>
                          some ((x2 + 2), S88)
                        )
                      else
                        (if v1 = 5 then
                          (match G_120 S76 x1 (x2 + 1) (0 : Int32) (15 : Int32) with
                          | none => none
                          | some (v90, S90) =>
                            some ((x2 + 2), S90)
                          )
                        else
                          (if v1 = 6 then
                            (match G_120 S76 x1 (x2 + 1) (1 : Int32) (3 : Int32) with
                            | none => none
                            | some (v92, S92) =>
                              some ((x2 + 2), S92)
                            )
                          else
                            (if v1 = 7 then
                              (match G_120 S76 x1 (x2 + 1) (0 : Int32) (255 : Int32) with
                              | none => none
                              | some (v94, S94) =>
                                some ((x2 + 2), S94)
                              )
                            else
                              (if v1 = 8 then
                                (match G_125 S76 x1 (x2 + 1) with
                                | none => none
                                | some (v96, S96) =>
                                  (match G_120 S96 x1 v96 (0 : Int32) (255 : Int32) with
                                  | none => none
                                  | some (v97, S97) =>
                                    some ((v96 + 1), S97)
                                  )
                                )
                              else
                                (if v1 = 18 then
                                  some ((x2 + 1), S76)
                                else
                                  (match G_127 S76 x1 x2 v1 with
                                  | none => none
                                  | some (v99, S99) =>
                                    some (v99, S99)
                                  )
                                )
                              )
                            )
                          )
                        )
                      )
                    )
                  )
                )
              )
            )
          )
        )
      )
    )
  )
theorem B_124_1 {X : Nat × (Nat → Int32)} {d : Nat} (n : Nat) (x1 : Int32) (x2 : Int32) (S : St) : ex X (d + 1) 124 0 [.ref 29, .int x1, .int x2, .retAddr 0, .retAddr 0] [] (hh S) (n + 4) = (match ex X d 118 0 [.ref 29, .int x1, .int x2] [] (hh S) n with | some (v, h') => ex X (d + 1) 124 6 [.ref 29, .int x1, .int x2, .retAddr 0, .retAddr 0] (v.toList ++ []) h' n | none => none) := rfl
theorem B_124_2 {X : Nat × (Nat → Int32)} {d : Nat} (n : Nat) (x1 : Int32) (x2 : Int32) (v1 : Int32) (S1 : St) : ex X (d + 1) 124 6 [.ref 29, .int x1, .int x2, .retAddr 0, .retAddr 0] [.int v1] (hh S1) (n + 7) = (match ex X d 120 0 [.ref 29, .int x1, .int x2, .int 0, .int 18] [] (hh S1) n with | some (v, h') => ex X (d + 1) 124 16 [.ref 29, .int x1, .int x2, .int v1, .retAddr 0] (v.toList ++ []) h' n | none => none) := rfl
theorem B_124_3 {X : Nat × (Nat → Int32)} {d : Nat} (n : Nat) (x1 : Int32) (x2 : Int32) (v1 : Int32) (S2 : St) : ex X d 124 16 [.ref 29, .int x1, .int x2, .int v1, .retAddr 0] [] (hh S2) (n + 3) = if v1 < 9 then ex X d 124 48 [.ref 29, .int x1, .int x2, .int v1, .retAddr 0] [] (hh S2) n else ex X d 124 22 [.ref 29, .int x1, .int x2, .int v1, .retAddr 0] [] (hh S2) n := rfl
theorem B_124_4 {X : Nat × (Nat → Int32)} {d : Nat} (n : Nat) (x1 : Int32) (x2 : Int32) (v1 : Int32) (S2 : St) : ex X d 124 48 [.ref 29, .int x1, .int x2, .int v1, .retAddr 0] [] (hh S2) (n + 2) = xa_sw [(0, 140), (1, 144), (2, 144), (3, 171), (4, 197), (5, 197), (6, 212), (7, 226), (8, 242), (18, 140)] v1 268 (fun t => ex X d 124 t [.ref 29, .int x1, .int x2, .int v1, .retAddr 0] [] (hh S2) n) := rfl
theorem B_124_5 {X : Nat × (Nat → Int32)} {d : Nat} (n : Nat) (x1 : Int32) (x2 : Int32) (v1 : Int32) (S2 : St) : ex X (d + 1) 124 144 [.ref 29, .int x1, .int x2, .int v1, .retAddr 0] [] (hh S2) (n + 8) = (match ex X d 120 0 [.ref 29, .int x1, .int (x2 + 1), .int 0, .int 15] [] (hh S2) n with | some (v, h') => ex X (d + 1) 124 155 [.ref 29, .int x1, .int x2, .int v1, .retAddr 0] (v.toList ++ []) h' n | none => none) := rfl
theorem B_124_6 {X : Nat × (Nat → Int32)} {d : Nat} (n : Nat) (x1 : Int32) (x2 : Int32) (v1 : Int32) (S6 : St) : ex X (d + 1) 124 155 [.ref 29, .int x1, .int x2, .int v1, .retAddr 0] [] (hh S6) (n + 8) = (match ex X d 120 0 [.ref 29, .int x1, .int (x2 + 2), .int 0, .int 255] [] (hh S6) n with | some (v, h') => ex X (d + 1) 124 167 [.ref 29, .int x1, .int x2, .int v1, .retAddr 0] (v.toList ++ []) h' n | none => none) := rfl
theorem B_124_7 {X : Nat × (Nat → Int32)} {d : Nat} (n : Nat) (x1 : Int32) (x2 : Int32) (v1 : Int32) (S2 : St) : ex X (d + 1) 124 144 [.ref 29, .int x1, .int x2, .int v1, .retAddr 0] [] (hh S2) (n + 8) = (match ex X d 120 0 [.ref 29, .int x1, .int (x2 + 1), .int 0, .int 15] [] (hh S2) n with | some (v, h') => ex X (d + 1) 124 155 [.ref 29, .int x1, .int x2, .int v1, .retAddr 0] (v.toList ++ []) h' n | none => none) := rfl
theorem B_124_8 {X : Nat × (Nat → Int32)} {d : Nat} (n : Nat) (x1 : Int32) (x2 : Int32) (v1 : Int32) (S9 : St) : ex X (d + 1) 124 155 [.ref 29, .int x1, .int x2, .int v1, .retAddr 0] [] (hh S9) (n + 8) = (match ex X d 120 0 [.ref 29, .int x1, .int (x2 + 2), .int 0, .int 255] [] (hh S9) n with | some (v, h') => ex X (d + 1) 124 167 [.ref 29, .int x1, .int x2, .int v1, .retAddr 0] (v.toList ++ []) h' n | none => none) := rfl
theorem B_124_9 {X : Nat × (Nat → Int32)} {d : Nat} (n : Nat) (x1 : Int32) (x2 : Int32) (v1 : Int32) (S2 : St) : ex X (d + 1) 124 171 [.ref 29, .int x1, .int x2, .int v1, .retAddr 0] [] (hh S2) (n + 8) = (match ex X d 120 0 [.ref 29, .int x1, .int (x2 + 1), .int 0, .int 15] [] (hh S2) n with | some (v, h') => ex X (d + 1) 124 182 [.ref 29, .int x1, .int x2, .int v1, .retAddr 0] (v.toList ++ []) h' n | none => none) := rfl
theorem B_124_10 {X : Nat × (Nat → Int32)} {d : Nat} (n : Nat) (x1 : Int32) (x2 : Int32) (v1 : Int32) (S12 : St) : ex X (d + 1) 124 182 [.ref 29, .int x1, .int x2, .int v1, .retAddr 0] [] (hh S12) (n + 8) = (match ex X d 120 0 [.ref 29, .int x1, .int (x2 + 2), .int 0, .int 15] [] (hh S12) n with | some (v, h') => ex X (d + 1) 124 193 [.ref 29, .int x1, .int x2, .int v1, .retAddr 0] (v.toList ++ []) h' n | none => none) := rfl
theorem B_124_11 {X : Nat × (Nat → Int32)} {d : Nat} (n : Nat) (x1 : Int32) (x2 : Int32) (v1 : Int32) (S2 : St) : ex X (d + 1) 124 197 [.ref 29, .int x1, .int x2, .int v1, .retAddr 0] [] (hh S2) (n + 8) = (match ex X d 120 0 [.ref 29, .int x1, .int (x2 + 1), .int 0, .int 15] [] (hh S2) n with | some (v, h') => ex X (d + 1) 124 208 [.ref 29, .int x1, .int x2, .int v1, .retAddr 0] (v.toList ++ []) h' n | none => none) := rfl
theorem B_124_12 {X : Nat × (Nat → Int32)} {d : Nat} (n : Nat) (x1 : Int32) (x2 : Int32) (v1 : Int32) (S2 : St) : ex X (d + 1) 124 197 [.ref 29, .int x1, .int x2, .int v1, .retAddr 0] [] (hh S2) (n + 8) = (match ex X d 120 0 [.ref 29, .int x1, .int (x2 + 1), .int 0, .int 15] [] (hh S2) n with | some (v, h') => ex X (d + 1) 124 208 [.ref 29, .int x1, .int x2, .int v1, .retAddr 0] (v.toList ++ []) h' n | none => none) := rfl
theorem B_124_13 {X : Nat × (Nat → Int32)} {d : Nat} (n : Nat) (x1 : Int32) (x2 : Int32) (v1 : Int32) (S2 : St) : ex X (d + 1) 124 212 [.ref 29, .int x1, .int x2, .int v1, .retAddr 0] [] (hh S2) (n + 8) = (match ex X d 120 0 [.ref 29, .int x1, .int (x2 + 1), .int 1, .int 3] [] (hh S2) n with | some (v, h') => ex X (d + 1) 124 222 [.ref 29, .int x1, .int x2, .int v1, .retAddr 0] (v.toList ++ []) h' n | none => none) := rfl
theorem B_124_14 {X : Nat × (Nat → Int32)} {d : Nat} (n : Nat) (x1 : Int32) (x2 : Int32) (v1 : Int32) (S2 : St) : ex X (d + 1) 124 226 [.ref 29, .int x1, .int x2, .int v1, .retAddr 0] [] (hh S2) (n + 8) = (match ex X d 120 0 [.ref 29, .int x1, .int (x2 + 1), .int 0, .int 255] [] (hh S2) n with | some (v, h') => ex X (d + 1) 124 238 [.ref 29, .int x1, .int x2, .int v1, .retAddr 0] (v.toList ++ []) h' n | none => none) := rfl
theorem B_124_15 {X : Nat × (Nat → Int32)} {d : Nat} (n : Nat) (x1 : Int32) (x2 : Int32) (v1 : Int32) (S2 : St) : ex X (d + 1) 124 242 [.ref 29, .int x1, .int x2, .int v1, .retAddr 0] [] (hh S2) (n + 6) = (match ex X d 125 0 [.ref 29, .int x1, .int (x2 + 1), .retAddr 0, .retAddr 0, .retAddr 0] [] (hh S2) n with | some (v, h') => ex X (d + 1) 124 250 [.ref 29, .int x1, .int x2, .int v1, .retAddr 0] (v.toList ++ []) h' n | none => none) := rfl
theorem B_124_16 {X : Nat × (Nat → Int32)} {d : Nat} (n : Nat) (x1 : Int32) (x2 : Int32) (v1 : Int32) (v23 : Int32) (S23 : St) : ex X (d + 1) 124 250 [.ref 29, .int x1, .int x2, .int v1, .retAddr 0] [.int v23] (hh S23) (n + 7) = (match ex X d 120 0 [.ref 29, .int x1, .int v23, .int 0, .int 255] [] (hh S23) n with | some (v, h') => ex X (d + 1) 124 263 [.ref 29, .int x1, .int x2, .int v1, .int v23] (v.toList ++ []) h' n | none => none) := rfl
theorem B_124_17 {X : Nat × (Nat → Int32)} {d : Nat} (n : Nat) (x1 : Int32) (x2 : Int32) (v1 : Int32) (S2 : St) : ex X (d + 1) 124 268 [.ref 29, .int x1, .int x2, .int v1, .retAddr 0] [] (hh S2) (n + 5) = (match ex X d 127 0 [.ref 29, .int x1, .int x2, .int v1] [] (hh S2) n with | some (v, h') => ex X (d + 1) 124 275 [.ref 29, .int x1, .int x2, .int v1, .retAddr 0] (v.toList ++ []) h' n | none => none) := rfl
theorem B_124_18 {X : Nat × (Nat → Int32)} {d : Nat} (n : Nat) (x1 : Int32) (x2 : Int32) (v1 : Int32) (S2 : St) : ex X d 124 16 [.ref 29, .int x1, .int x2, .int v1, .retAddr 0] [] (hh S2) (n + 3) = if v1 < 9 then ex X d 124 48 [.ref 29, .int x1, .int x2, .int v1, .retAddr 0] [] (hh S2) n else ex X d 124 22 [.ref 29, .int x1, .int x2, .int v1, .retAddr 0] [] (hh S2) n := rfl
theorem B_124_19 {X : Nat × (Nat → Int32)} {d : Nat} (n : Nat) (x1 : Int32) (x2 : Int32) (v1 : Int32) (S2 : St) : ex X d 124 22 [.ref 29, .int x1, .int x2, .int v1, .retAddr 0] [] (hh S2) (n + 3) = if 18 ≤ v1 then ex X d 124 48 [.ref 29, .int x1, .int x2, .int v1, .retAddr 0] [] (hh S2) n else ex X d 124 28 [.ref 29, .int x1, .int x2, .int v1, .retAddr 0] [] (hh S2) n := rfl
theorem B_124_20 {X : Nat × (Nat → Int32)} {d : Nat} (n : Nat) (x1 : Int32) (x2 : Int32) (v1 : Int32) (S2 : St) : ex X d 124 48 [.ref 29, .int x1, .int x2, .int v1, .retAddr 0] [] (hh S2) (n + 2) = xa_sw [(0, 140), (1, 144), (2, 144), (3, 171), (4, 197), (5, 197), (6, 212), (7, 226), (8, 242), (18, 140)] v1 268 (fun t => ex X d 124 t [.ref 29, .int x1, .int x2, .int v1, .retAddr 0] [] (hh S2) n) := rfl
theorem B_124_21 {X : Nat × (Nat → Int32)} {d : Nat} (n : Nat) (x1 : Int32) (x2 : Int32) (v1 : Int32) (S2 : St) : ex X (d + 1) 124 144 [.ref 29, .int x1, .int x2, .int v1, .retAddr 0] [] (hh S2) (n + 8) = (match ex X d 120 0 [.ref 29, .int x1, .int (x2 + 1), .int 0, .int 15] [] (hh S2) n with | some (v, h') => ex X (d + 1) 124 155 [.ref 29, .int x1, .int x2, .int v1, .retAddr 0] (v.toList ++ []) h' n | none => none) := rfl
theorem B_124_22 {X : Nat × (Nat → Int32)} {d : Nat} (n : Nat) (x1 : Int32) (x2 : Int32) (v1 : Int32) (S30 : St) : ex X (d + 1) 124 155 [.ref 29, .int x1, .int x2, .int v1, .retAddr 0] [] (hh S30) (n + 8) = (match ex X d 120 0 [.ref 29, .int x1, .int (x2 + 2), .int 0, .int 255] [] (hh S30) n with | some (v, h') => ex X (d + 1) 124 167 [.ref 29, .int x1, .int x2, .int v1, .retAddr 0] (v.toList ++ []) h' n | none => none) := rfl
theorem B_124_23 {X : Nat × (Nat → Int32)} {d : Nat} (n : Nat) (x1 : Int32) (x2 : Int32) (v1 : Int32) (S2 : St) : ex X (d + 1) 124 144 [.ref 29, .int x1, .int x2, .int v1, .retAddr 0] [] (hh S2) (n + 8) = (match ex X d 120 0 [.ref 29, .int x1, .int (x2 + 1), .int 0, .int 15] [] (hh S2) n with | some (v, h') => ex X (d + 1) 124 155 [.ref 29, .int x1, .int x2, .int v1, .retAddr 0] (v.toList ++ []) h' n | none => none) := rfl
theorem B_124_24 {X : Nat × (Nat → Int32)} {d : Nat} (n : Nat) (x1 : Int32) (x2 : Int32) (v1 : Int32) (S33 : St) : ex X (d + 1) 124 155 [.ref 29, .int x1, .int x2, .int v1, .retAddr 0] [] (hh S33) (n + 8) = (match ex X d 120 0 [.ref 29, .int x1, .int (x2 + 2), .int 0, .int 255] [] (hh S33) n with | some (v, h') => ex X (d + 1) 124 167 [.ref 29, .int x1, .int x2, .int v1, .retAddr 0] (v.toList ++ []) h' n | none => none) := rfl
theorem B_124_25 {X : Nat × (Nat → Int32)} {d : Nat} (n : Nat) (x1 : Int32) (x2 : Int32) (v1 : Int32) (S2 : St) : ex X (d + 1) 124 171 [.ref 29, .int x1, .int x2, .int v1, .retAddr 0] [] (hh S2) (n + 8) = (match ex X d 120 0 [.ref 29, .int x1, .int (x2 + 1), .int 0, .int 15] [] (hh S2) n with | some (v, h') => ex X (d + 1) 124 182 [.ref 29, .int x1, .int x2, .int v1, .retAddr 0] (v.toList ++ []) h' n | none => none) := rfl
theorem B_124_26 {X : Nat × (Nat → Int32)} {d : Nat} (n : Nat) (x1 : Int32) (x2 : Int32) (v1 : Int32) (S36 : St) : ex X (d + 1) 124 182 [.ref 29, .int x1, .int x2, .int v1, .retAddr 0] [] (hh S36) (n + 8) = (match ex X d 120 0 [.ref 29, .int x1, .int (x2 + 2), .int 0, .int 15] [] (hh S36) n with | some (v, h') => ex X (d + 1) 124 193 [.ref 29, .int x1, .int x2, .int v1, .retAddr 0] (v.toList ++ []) h' n | none => none) := rfl
theorem B_124_27 {X : Nat × (Nat → Int32)} {d : Nat} (n : Nat) (x1 : Int32) (x2 : Int32) (v1 : Int32) (S2 : St) : ex X (d + 1) 124 197 [.ref 29, .int x1, .int x2, .int v1, .retAddr 0] [] (hh S2) (n + 8) = (match ex X d 120 0 [.ref 29, .int x1, .int (x2 + 1), .int 0, .int 15] [] (hh S2) n with | some (v, h') => ex X (d + 1) 124 208 [.ref 29, .int x1, .int x2, .int v1, .retAddr 0] (v.toList ++ []) h' n | none => none) := rfl
theorem B_124_28 {X : Nat × (Nat → Int32)} {d : Nat} (n : Nat) (x1 : Int32) (x2 : Int32) (v1 : Int32) (S2 : St) : ex X (d + 1) 124 197 [.ref 29, .int x1, .int x2, .int v1, .retAddr 0] [] (hh S2) (n + 8) = (match ex X d 120 0 [.ref 29, .int x1, .int (x2 + 1), .int 0, .int 15] [] (hh S2) n with | some (v, h') => ex X (d + 1) 124 208 [.ref 29, .int x1, .int x2, .int v1, .retAddr 0] (v.toList ++ []) h' n | none => none) := rfl
theorem B_124_29 {X : Nat × (Nat → Int32)} {d : Nat} (n : Nat) (x1 : Int32) (x2 : Int32) (v1 : Int32) (S2 : St) : ex X (d + 1) 124 212 [.ref 29, .int x1, .int x2, .int v1, .retAddr 0] [] (hh S2) (n + 8) = (match ex X d 120 0 [.ref 29, .int x1, .int (x2 + 1), .int 1, .int 3] [] (hh S2) n with | some (v, h') => ex X (d + 1) 124 222 [.ref 29, .int x1, .int x2, .int v1, .retAddr 0] (v.toList ++ []) h' n | none => none) := rfl
theorem B_124_30 {X : Nat × (Nat → Int32)} {d : Nat} (n : Nat) (x1 : Int32) (x2 : Int32) (v1 : Int32) (S2 : St) : ex X (d + 1) 124 226 [.ref 29, .int x1, .int x2, .int v1, .retAddr 0] [] (hh S2) (n + 8) = (match ex X d 120 0 [.ref 29, .int x1, .int (x2 + 1), .int 0, .int 255] [] (hh S2) n with | some (v, h') => ex X (d + 1) 124 238 [.ref 29, .int x1, .int x2, .int v1, .retAddr 0] (v.toList ++ []) h' n | none => none) := rfl
theorem B_124_31 {X : Nat × (Nat → Int32)} {d : Nat} (n : Nat) (x1 : Int32) (x2 : Int32) (v1 : Int32) (S2 : St) : ex X (d + 1) 124 242 [.ref 29, .int x1, .int x2, .int v1, .retAddr 0] [] (hh S2) (n + 6) = (match ex X d 125 0 [.ref 29, .int x1, .int (x2 + 1), .retAddr 0, .retAddr 0, .retAddr 0] [] (hh S2) n with | some (v, h') => ex X (d + 1) 124 250 [.ref 29, .int x1, .int x2, .int v1, .retAddr 0] (v.toList ++ []) h' n | none => none) := rfl
theorem B_124_32 {X : Nat × (Nat → Int32)} {d : Nat} (n : Nat) (x1 : Int32) (x2 : Int32) (v1 : Int32) (v47 : Int32) (S47 : St) : ex X (d + 1) 124 250 [.ref 29, .int x1, .int x2, .int v1, .retAddr 0] [.int v47] (hh S47) (n + 7) = (match ex X d 120 0 [.ref 29, .int x1, .int v47, .int 0, .int 255] [] (hh S47) n with | some (v, h') => ex X (d + 1) 124 263 [.ref 29, .int x1, .int x2, .int v1, .int v47] (v.toList ++ []) h' n | none => none) := rfl
theorem B_124_33 {X : Nat × (Nat → Int32)} {d : Nat} (n : Nat) (x1 : Int32) (x2 : Int32) (v1 : Int32) (S2 : St) : ex X (d + 1) 124 268 [.ref 29, .int x1, .int x2, .int v1, .retAddr 0] [] (hh S2) (n + 5) = (match ex X d 127 0 [.ref 29, .int x1, .int x2, .int v1] [] (hh S2) n with | some (v, h') => ex X (d + 1) 124 275 [.ref 29, .int x1, .int x2, .int v1, .retAddr 0] (v.toList ++ []) h' n | none => none) := rfl
theorem B_124_34 {X : Nat × (Nat → Int32)} {d : Nat} (n : Nat) (x1 : Int32) (x2 : Int32) (v1 : Int32) (S2 : St) : ex X d 124 22 [.ref 29, .int x1, .int x2, .int v1, .retAddr 0] [] (hh S2) (n + 3) = if 18 ≤ v1 then ex X d 124 48 [.ref 29, .int x1, .int x2, .int v1, .retAddr 0] [] (hh S2) n else ex X d 124 28 [.ref 29, .int x1, .int x2, .int v1, .retAddr 0] [] (hh S2) n := rfl
theorem B_124_35 {X : Nat × (Nat → Int32)} {d : Nat} (n : Nat) (x1 : Int32) (x2 : Int32) (v1 : Int32) (S2 : St) : ex X d 124 28 [.ref 29, .int x1, .int x2, .int v1, .retAddr 0] [] (hh S2) (n + 8) = if v1 = 14 then ex X d 124 39 [.ref 29, .int x1, .int x2, .int v1, .retAddr 0] [.int (x2 + 1), .int x1, .ref 29] (hh S2) n else ex X d 124 43 [.ref 29, .int x1, .int x2, .int v1, .retAddr 0] [.int (x2 + 1), .int x1, .ref 29] (hh S2) n := rfl
theorem B_124_36 {X : Nat × (Nat → Int32)} {d : Nat} (n : Nat) (x1 : Int32) (x2 : Int32) (v1 : Int32) (S2 : St) : ex X (d + 1) 124 39 [.ref 29, .int x1, .int x2, .int v1, .retAddr 0] [.int (x2 + 1), .int x1, .ref 29] (hh S2) (n + 4) = (match ex X d 120 0 [.ref 29, .int x1, .int (x2 + 1), .int 1, .int 3] [] (hh S2) n with | some (v, h') => ex X (d + 1) 124 48 [.ref 29, .int x1, .int x2, .int v1, .retAddr 0] (v.toList ++ []) h' n | none => none) := rfl
theorem B_124_37 {X : Nat × (Nat → Int32)} {d : Nat} (n : Nat) (x1 : Int32) (x2 : Int32) (v1 : Int32) (S52 : St) : ex X d 124 48 [.ref 29, .int x1, .int x2, .int v1, .retAddr 0] [] (hh S52) (n + 2) = xa_sw [(0, 140), (1, 144), (2, 144), (3, 171), (4, 197), (5, 197), (6, 212), (7, 226), (8, 242), (18, 140)] v1 268 (fun t => ex X d 124 t [.ref 29, .int x1, .int x2, .int v1, .retAddr 0] [] (hh S52) n) := rfl
theorem B_124_38 {X : Nat × (Nat → Int32)} {d : Nat} (n : Nat) (x1 : Int32) (x2 : Int32) (v1 : Int32) (S52 : St) : ex X (d + 1) 124 144 [.ref 29, .int x1, .int x2, .int v1, .retAddr 0] [] (hh S52) (n + 8) = (match ex X d 120 0 [.ref 29, .int x1, .int (x2 + 1), .int 0, .int 15] [] (hh S52) n with | some (v, h') => ex X (d + 1) 124 155 [.ref 29, .int x1, .int x2, .int v1, .retAddr 0] (v.toList ++ []) h' n | none => none) := rfl
theorem B_124_39 {X : Nat × (Nat → Int32)} {d : Nat} (n : Nat) (x1 : Int32) (x2 : Int32) (v1 : Int32) (S55 : St) : ex X (d + 1) 124 155 [.ref 29, .int x1, .int x2, .int v1, .retAddr 0] [] (hh S55) (n + 8) = (match ex X d 120 0 [.ref 29, .int x1, .int (x2 + 2), .int 0, .int 255] [] (hh S55) n with | some (v, h') => ex X (d + 1) 124 167 [.ref 29, .int x1, .int x2, .int v1, .retAddr 0] (v.toList ++ []) h' n | none => none) := rfl
theorem B_124_40 {X : Nat × (Nat → Int32)} {d : Nat} (n : Nat) (x1 : Int32) (x2 : Int32) (v1 : Int32) (S52 : St) : ex X (d + 1) 124 144 [.ref 29, .int x1, .int x2, .int v1, .retAddr 0] [] (hh S52) (n + 8) = (match ex X d 120 0 [.ref 29, .int x1, .int (x2 + 1), .int 0, .int 15] [] (hh S52) n with | some (v, h') => ex X (d + 1) 124 155 [.ref 29, .int x1, .int x2, .int v1, .retAddr 0] (v.toList ++ []) h' n | none => none) := rfl
theorem B_124_41 {X : Nat × (Nat → Int32)} {d : Nat} (n : Nat) (x1 : Int32) (x2 : Int32) (v1 : Int32) (S58 : St) : ex X (d + 1) 124 155 [.ref 29, .int x1, .int x2, .int v1, .retAddr 0] [] (hh S58) (n + 8) = (match ex X d 120 0 [.ref 29, .int x1, .int (x2 + 2), .int 0, .int 255] [] (hh S58) n with | some (v, h') => ex X (d + 1) 124 167 [.ref 29, .int x1, .int x2, .int v1, .retAddr 0] (v.toList ++ []) h' n | none => none) := rfl
theorem B_124_42 {X : Nat × (Nat → Int32)} {d : Nat} (n : Nat) (x1 : Int32) (x2 : Int32) (v1 : Int32) (S52 : St) : ex X (d + 1) 124 171 [.ref 29, .int x1, .int x2, .int v1, .retAddr 0] [] (hh S52) (n + 8) = (match ex X d 120 0 [.ref 29, .int x1, .int (x2 + 1), .int 0, .int 15] [] (hh S52) n with | some (v, h') => ex X (d + 1) 124 182 [.ref 29, .int x1, .int x2, .int v1, .retAddr 0] (v.toList ++ []) h' n | none => none) := rfl
theorem B_124_43 {X : Nat × (Nat → Int32)} {d : Nat} (n : Nat) (x1 : Int32) (x2 : Int32) (v1 : Int32) (S61 : St) : ex X (d + 1) 124 182 [.ref 29, .int x1, .int x2, .int v1, .retAddr 0] [] (hh S61) (n + 8) = (match ex X d 120 0 [.ref 29, .int x1, .int (x2 + 2), .int 0, .int 15] [] (hh S61) n with | some (v, h') => ex X (d + 1) 124 193 [.ref 29, .int x1, .int x2, .int v1, .retAddr 0] (v.toList ++ []) h' n | none => none) := rfl
theorem B_124_44 {X : Nat × (Nat → Int32)} {d : Nat} (n : Nat) (x1 : Int32) (x2 : Int32) (v1 : Int32) (S52 : St) : ex X (d + 1) 124 197 [.ref 29, .int x1, .int x2, .int v1, .retAddr 0] [] (hh S52) (n + 8) = (match ex X d 120 0 [.ref 29, .int x1, .int (x2 + 1), .int 0, .int 15] [] (hh S52) n with | some (v, h') => ex X (d + 1) 124 208 [.ref 29, .int x1, .int x2, .int v1, .retAddr 0] (v.toList ++ []) h' n | none => none) := rfl
theorem B_124_45 {X : Nat × (Nat → Int32)} {d : Nat} (n : Nat) (x1 : Int32) (x2 : Int32) (v1 : Int32) (S52 : St) : ex X (d + 1) 124 197 [.ref 29, .int x1, .int x2, .int v1, .retAddr 0] [] (hh S52) (n + 8) = (match ex X d 120 0 [.ref 29, .int x1, .int (x2 + 1), .int 0, .int 15] [] (hh S52) n with | some (v, h') => ex X (d + 1) 124 208 [.ref 29, .int x1, .int x2, .int v1, .retAddr 0] (v.toList ++ []) h' n | none => none) := rfl
theorem B_124_46 {X : Nat × (Nat → Int32)} {d : Nat} (n : Nat) (x1 : Int32) (x2 : Int32) (v1 : Int32) (S52 : St) : ex X (d + 1) 124 212 [.ref 29, .int x1, .int x2, .int v1, .retAddr 0] [] (hh S52) (n + 8) = (match ex X d 120 0 [.ref 29, .int x1, .int (x2 + 1), .int 1, .int 3] [] (hh S52) n with | some (v, h') => ex X (d + 1) 124 222 [.ref 29, .int x1, .int x2, .int v1, .retAddr 0] (v.toList ++ []) h' n | none => none) := rfl
theorem B_124_47 {X : Nat × (Nat → Int32)} {d : Nat} (n : Nat) (x1 : Int32) (x2 : Int32) (v1 : Int32) (S52 : St) : ex X (d + 1) 124 226 [.ref 29, .int x1, .int x2, .int v1, .retAddr 0] [] (hh S52) (n + 8) = (match ex X d 120 0 [.ref 29, .int x1, .int (x2 + 1), .int 0, .int 255] [] (hh S52) n with | some (v, h') => ex X (d + 1) 124 238 [.ref 29, .int x1, .int x2, .int v1, .retAddr 0] (v.toList ++ []) h' n | none => none) := rfl
theorem B_124_48 {X : Nat × (Nat → Int32)} {d : Nat} (n : Nat) (x1 : Int32) (x2 : Int32) (v1 : Int32) (S52 : St) : ex X (d + 1) 124 242 [.ref 29, .int x1, .int x2, .int v1, .retAddr 0] [] (hh S52) (n + 6) = (match ex X d 125 0 [.ref 29, .int x1, .int (x2 + 1), .retAddr 0, .retAddr 0, .retAddr 0] [] (hh S52) n with | some (v, h') => ex X (d + 1) 124 250 [.ref 29, .int x1, .int x2, .int v1, .retAddr 0] (v.toList ++ []) h' n | none => none) := rfl
theorem B_124_49 {X : Nat × (Nat → Int32)} {d : Nat} (n : Nat) (x1 : Int32) (x2 : Int32) (v1 : Int32) (v72 : Int32) (S72 : St) : ex X (d + 1) 124 250 [.ref 29, .int x1, .int x2, .int v1, .retAddr 0] [.int v72] (hh S72) (n + 7) = (match ex X d 120 0 [.ref 29, .int x1, .int v72, .int 0, .int 255] [] (hh S72) n with | some (v, h') => ex X (d + 1) 124 263 [.ref 29, .int x1, .int x2, .int v1, .int v72] (v.toList ++ []) h' n | none => none) := rfl
theorem B_124_50 {X : Nat × (Nat → Int32)} {d : Nat} (n : Nat) (x1 : Int32) (x2 : Int32) (v1 : Int32) (S52 : St) : ex X (d + 1) 124 268 [.ref 29, .int x1, .int x2, .int v1, .retAddr 0] [] (hh S52) (n + 5) = (match ex X d 127 0 [.ref 29, .int x1, .int x2, .int v1] [] (hh S52) n with | some (v, h') => ex X (d + 1) 124 275 [.ref 29, .int x1, .int x2, .int v1, .retAddr 0] (v.toList ++ []) h' n | none => none) := rfl
theorem B_124_51 {X : Nat × (Nat → Int32)} {d : Nat} (n : Nat) (x1 : Int32) (x2 : Int32) (v1 : Int32) (S2 : St) : ex X d 124 28 [.ref 29, .int x1, .int x2, .int v1, .retAddr 0] [] (hh S2) (n + 8) = if v1 = 14 then ex X d 124 39 [.ref 29, .int x1, .int x2, .int v1, .retAddr 0] [.int (x2 + 1), .int x1, .ref 29] (hh S2) n else ex X d 124 43 [.ref 29, .int x1, .int x2, .int v1, .retAddr 0] [.int (x2 + 1), .int x1, .ref 29] (hh S2) n := rfl
theorem B_124_52 {X : Nat × (Nat → Int32)} {d : Nat} (n : Nat) (x1 : Int32) (x2 : Int32) (v1 : Int32) (S2 : St) : ex X (d + 1) 124 43 [.ref 29, .int x1, .int x2, .int v1, .retAddr 0] [.int (x2 + 1), .int x1, .ref 29] (hh S2) (n + 3) = (match ex X d 120 0 [.ref 29, .int x1, .int (x2 + 1), .int 0, .int 3] [] (hh S2) n with | some (v, h') => ex X (d + 1) 124 48 [.ref 29, .int x1, .int x2, .int v1, .retAddr 0] (v.toList ++ []) h' n | none => none) := rfl
theorem B_124_53 {X : Nat × (Nat → Int32)} {d : Nat} (n : Nat) (x1 : Int32) (x2 : Int32) (v1 : Int32) (S76 : St) : ex X d 124 48 [.ref 29, .int x1, .int x2, .int v1, .retAddr 0] [] (hh S76) (n + 2) = xa_sw [(0, 140), (1, 144), (2, 144), (3, 171), (4, 197), (5, 197), (6, 212), (7, 226), (8, 242), (18, 140)] v1 268 (fun t => ex X d 124 t [.ref 29, .int x1, .int x2, .int v1, .retAddr 0] [] (hh S76) n) := rfl
theorem B_124_54 {X : Nat × (Nat → Int32)} {d : Nat} (n : Nat) (x1 : Int32) (x2 : Int32) (v1 : Int32) (S76 : St) : ex X (d + 1) 124 144 [.ref 29, .int x1, .int x2, .int v1, .retAddr 0] [] (hh S76) (n + 8) = (match ex X d 120 0 [.ref 29, .int x1, .int (x2 + 1), .int 0, .int 15] [] (hh S76) n with | some (v, h') => ex X (d + 1) 124 155 [.ref 29, .int x1, .int x2, .int v1, .retAddr 0] (v.toList ++ []) h' n | none => none) := rfl
theorem B_124_55 {X : Nat × (Nat → Int32)} {d : Nat} (n : Nat) (x1 : Int32) (x2 : Int32) (v1 : Int32) (S79 : St) : ex X (d + 1) 124 155 [.ref 29, .int x1, .int x2, .int v1, .retAddr 0] [] (hh S79) (n + 8) = (match ex X d 120 0 [.ref 29, .int x1, .int (x2 + 2), .int 0, .int 255] [] (hh S79) n with | some (v, h') => ex X (d + 1) 124 167 [.ref 29, .int x1, .int x2, .int v1, .retAddr 0] (v.toList ++ []) h' n | none => none) := rfl
theorem B_124_56 {X : Nat × (Nat → Int32)} {d : Nat} (n : Nat) (x1 : Int32) (x2 : Int32) (v1 : Int32) (S76 : St) : ex X (d + 1) 124 144 [.ref 29, .int x1, .int x2, .int v1, .retAddr 0] [] (hh S76) (n + 8) = (match ex X d 120 0 [.ref 29, .int x1, .int (x2 + 1), .int 0, .int 15] [] (hh S76) n with | some (v, h') => ex X (d + 1) 124 155 [.ref 29, .int x1, .int x2, .int v1, .retAddr 0] (v.toList ++ []) h' n | none => none) := rfl
theorem B_124_57 {X : Nat × (Nat → Int32)} {d : Nat} (n : Nat) (x1 : Int32) (x2 : Int32) (v1 : Int32) (S82 : St) : ex X (d + 1) 124 155 [.ref 29, .int x1, .int x2, .int v1, .retAddr 0] [] (hh S82) (n + 8) = (match ex X d 120 0 [.ref 29, .int x1, .int (x2 + 2), .int 0, .int 255] [] (hh S82) n with | some (v, h') => ex X (d + 1) 124 167 [.ref 29, .int x1, .int x2, .int v1, .retAddr 0] (v.toList ++ []) h' n | none => none) := rfl
theorem B_124_58 {X : Nat × (Nat → Int32)} {d : Nat} (n : Nat) (x1 : Int32) (x2 : Int32) (v1 : Int32) (S76 : St) : ex X (d + 1) 124 171 [.ref 29, .int x1, .int x2, .int v1, .retAddr 0] [] (hh S76) (n + 8) = (match ex X d 120 0 [.ref 29, .int x1, .int (x2 + 1), .int 0, .int 15] [] (hh S76) n with | some (v, h') => ex X (d + 1) 124 182 [.ref 29, .int x1, .int x2, .int v1, .retAddr 0] (v.toList ++ []) h' n | none => none) := rfl
theorem B_124_59 {X : Nat × (Nat → Int32)} {d : Nat} (n : Nat) (x1 : Int32) (x2 : Int32) (v1 : Int32) (S85 : St) : ex X (d + 1) 124 182 [.ref 29, .int x1, .int x2, .int v1, .retAddr 0] [] (hh S85) (n + 8) = (match ex X d 120 0 [.ref 29, .int x1, .int (x2 + 2), .int 0, .int 15] [] (hh S85) n with | some (v, h') => ex X (d + 1) 124 193 [.ref 29, .int x1, .int x2, .int v1, .retAddr 0] (v.toList ++ []) h' n | none => none) := rfl
theorem B_124_60 {X : Nat × (Nat → Int32)} {d : Nat} (n : Nat) (x1 : Int32) (x2 : Int32) (v1 : Int32) (S76 : St) : ex X (d + 1) 124 197 [.ref 29, .int x1, .int x2, .int v1, .retAddr 0] [] (hh S76) (n + 8) = (match ex X d 120 0 [.ref 29, .int x1, .int (x2 + 1), .int 0, .int 15] [] (hh S76) n with | some (v, h') => ex X (d + 1) 124 208 [.ref 29, .int x1, .int x2, .int v1, .retAddr 0] (v.toList ++ []) h' n | none => none) := rfl
theorem B_124_61 {X : Nat × (Nat → Int32)} {d : Nat} (n : Nat) (x1 : Int32) (x2 : Int32) (v1 : Int32) (S76 : St) : ex X (d + 1) 124 197 [.ref 29, .int x1, .int x2, .int v1, .retAddr 0] [] (hh S76) (n + 8) = (match ex X d 120 0 [.ref 29, .int x1, .int (x2 + 1), .int 0, .int 15] [] (hh S76) n with | some (v, h') => ex X (d + 1) 124 208 [.ref 29, .int x1, .int x2, .int v1, .retAddr 0] (v.toList ++ []) h' n | none => none) := rfl
theorem B_124_62 {X : Nat × (Nat → Int32)} {d : Nat} (n : Nat) (x1 : Int32) (x2 : Int32) (v1 : Int32) (S76 : St) : ex X (d + 1) 124 212 [.ref 29, .int x1, .int x2, .int v1, .retAddr 0] [] (hh S76) (n + 8) = (match ex X d 120 0 [.ref 29, .int x1, .int (x2 + 1), .int 1, .int 3] [] (hh S76) n with | some (v, h') => ex X (d + 1) 124 222 [.ref 29, .int x1, .int x2, .int v1, .retAddr 0] (v.toList ++ []) h' n | none => none) := rfl
theorem B_124_63 {X : Nat × (Nat → Int32)} {d : Nat} (n : Nat) (x1 : Int32) (x2 : Int32) (v1 : Int32) (S76 : St) : ex X (d + 1) 124 226 [.ref 29, .int x1, .int x2, .int v1, .retAddr 0] [] (hh S76) (n + 8) = (match ex X d 120 0 [.ref 29, .int x1, .int (x2 + 1), .int 0, .int 255] [] (hh S76) n with | some (v, h') => ex X (d + 1) 124 238 [.ref 29, .int x1, .int x2, .int v1, .retAddr 0] (v.toList ++ []) h' n | none => none) := rfl
theorem B_124_64 {X : Nat × (Nat → Int32)} {d : Nat} (n : Nat) (x1 : Int32) (x2 : Int32) (v1 : Int32) (S76 : St) : ex X (d + 1) 124 242 [.ref 29, .int x1, .int x2, .int v1, .retAddr 0] [] (hh S76) (n + 6) = (match ex X d 125 0 [.ref 29, .int x1, .int (x2 + 1), .retAddr 0, .retAddr 0, .retAddr 0] [] (hh S76) n with | some (v, h') => ex X (d + 1) 124 250 [.ref 29, .int x1, .int x2, .int v1, .retAddr 0] (v.toList ++ []) h' n | none => none) := rfl
theorem B_124_65 {X : Nat × (Nat → Int32)} {d : Nat} (n : Nat) (x1 : Int32) (x2 : Int32) (v1 : Int32) (v96 : Int32) (S96 : St) : ex X (d + 1) 124 250 [.ref 29, .int x1, .int x2, .int v1, .retAddr 0] [.int v96] (hh S96) (n + 7) = (match ex X d 120 0 [.ref 29, .int x1, .int v96, .int 0, .int 255] [] (hh S96) n with | some (v, h') => ex X (d + 1) 124 263 [.ref 29, .int x1, .int x2, .int v1, .int v96] (v.toList ++ []) h' n | none => none) := rfl
theorem B_124_66 {X : Nat × (Nat → Int32)} {d : Nat} (n : Nat) (x1 : Int32) (x2 : Int32) (v1 : Int32) (S76 : St) : ex X (d + 1) 124 268 [.ref 29, .int x1, .int x2, .int v1, .retAddr 0] [] (hh S76) (n + 5) = (match ex X d 127 0 [.ref 29, .int x1, .int x2, .int v1] [] (hh S76) n with | some (v, h') => ex X (d + 1) 124 275 [.ref 29, .int x1, .int x2, .int v1, .retAddr 0] (v.toList ++ []) h' n | none => none) := rfl
set_option maxRecDepth 200000 in
theorem T_124 {X : Nat × (Nat → Int32)} (S : St) (x1 : Int32) (x2 : Int32) (r : Int32) (S' : St) (hG : G_124 S x1 x2 = some (r, S')) : Ev X 5 124 0 [.ref 29, .int x1, .int x2, .retAddr 0, .retAddr 0] [] (hh S) (xI r, hh S') := by
  unfold G_124 at hG
  rcases h1 : G_118 S x1 x2 with _ | ⟨v1, S1⟩
  · rw [h1] at hG; cases hG
  rw [h1] at hG
  dsimp only at hG
  refine Ev.c (a := 118) (A := [.ref 29, .int x1, .int x2]) (h1 := hh S) (pc' := 6) (L' := [.ref 29, .int x1, .int x2, .retAddr 0, .retAddr 0]) (rest := []) (r1 := some (.int v1)) (h2 := hh S1) 4 (fun n => B_124_1 n x1 x2 S) (Ev.up (by decide) (T_118 S x1 x2 _ _ h1)) ?_
  show Ev X _ 124 6 [.ref 29, .int x1, .int x2, .retAddr 0, .retAddr 0] [.int v1] (hh S1) _
  rcases h2 : G_120 S1 x1 x2 (0 : Int32) (18 : Int32) with _ | ⟨v2, S2⟩
  · rw [h2] at hG; cases hG
  rw [h2] at hG
  dsimp only at hG
  refine Ev.c (a := 120) (A := [.ref 29, .int x1, .int x2, .int 0, .int 18]) (h1 := hh S1) (pc' := 16) (L' := [.ref 29, .int x1, .int x2, .int v1, .retAddr 0]) (rest := []) (r1 := none) (h2 := hh S2) 7 (fun n => B_124_2 n x1 x2 v1 S1) (Ev.up (by decide) (T_120 S1 x1 x2 (0 : Int32) (18 : Int32) _ _ h2)) ?_
  show Ev X _ 124 16 [.ref 29, .int x1, .int x2, .int v1, .retAddr 0] [] (hh S2) _
  by_cases c3 : v1 < 9
  · rw [if_pos c3] at hG
    refine Ev.t (c := v1 < 9) (p1 := 48) (L1 := [.ref 29, .int x1, .int x2, .int v1, .retAddr 0]) (s1 := []) (h1 := hh S2) (p2 := 22) (L2 := [.ref 29, .int x1, .int x2, .int v1, .retAddr 0]) (s2 := []) (h2 := hh S2) 3 (fun n => B_124_3 n x1 x2 v1 S2) c3 ?_
    refine Ev.sw (ks := [(0, 140), (1, 144), (2, 144), (3, 171), (4, 197), (5, 197), (6, 212), (7, 226), (8, 242), (18, 140)]) (x := v1) (df := 268) (L1 := [.ref 29, .int x1, .int x2, .int v1, .retAddr 0]) (s1 := []) (h1 := hh S2) 2 (fun n => B_124_4 n x1 x2 v1 S2) ?_
    by_cases c4 : v1 = 0
    · rw [if_pos c4] at hG
      rw [xa_sw, if_pos c4]
      show Ev X _ 124 140 [.ref 29, .int x1, .int x2, .int v1, .retAddr 0] [] (hh S2) _
      obtain ⟨e1, e2⟩ := Prod.mk.inj (Option.some.inj hG)
      subst e1
      subst e2
      exact Ev.r 4 (fun n => rfl)
    rw [if_neg c4] at hG
    rw [xa_sw, if_neg c4]
    by_cases c5 : v1 = 1
    · rw [if_pos c5] at hG
      rw [xa_sw, if_pos c5]
      show Ev X _ 124 144 [.ref 29, .int x1, .int x2, .int v1, .retAddr 0] [] (hh S2) _
      rcases h6 : G_120 S2 x1 (x2 + 1) (0 : Int32) (15 : Int32) with _ | ⟨v6, S6⟩
      · rw [h6] at hG; cases hG
      rw [h6] at hG
      dsimp only at hG
      refine Ev.c (a := 120) (A := [.ref 29, .int x1, .int (x2 + 1), .int 0, .int 15]) (h1 := hh S2) (pc' := 155) (L' := [.ref 29, .int x1, .int x2, .int v1, .retAddr 0]) (rest := []) (r1 := none) (h2 := hh S6) 8 (fun n => B_124_5 n x1 x2 v1 S2) (Ev.up (by decide) (T_120 S2 x1 (x2 + 1) (0 : Int32) (15 : Int32) _ _ h6)) ?_
      show Ev X _ 124 155 [.ref 29, .int x1, .int x2, .int v1, .retAddr 0] [] (hh S6) _
      rcases h7 : G_120 S6 x1 (x2 + 2) (0 : Int32) (255 : Int32) with _ | ⟨v7, S7⟩
      · rw [h7] at hG; cases hG
      rw [h7] at hG
      dsimp only at hG
      refine Ev.c (a := 120) (A := [.ref 29, .int x1, .int (x2 + 2), .int 0, .int 255]) (h1 := hh S6) (pc' := 167) (L' := [.ref 29, .int x1, .int x2, .int v1, .retAddr 0]) (rest := []) (r1 := none) (h2 := hh S7) 8 (fun n => B_124_6 n x1 x2 v1 S6) (Ev.up (by decide) (T_120 S6 x1 (x2 + 2) (0 : Int32) (255 : Int32) _ _ h7)) ?_
      show Ev X _ 124 167 [.ref 29, .int x1, .int x2, .int v1, .retAddr 0] [] (hh S7) _
      obtain ⟨e1, e2⟩ := Prod.mk.inj (Option.some.inj hG)
      subst e1
      subst e2
      exact Ev.r 4 (fun n => rfl)
    rw [if_neg c5] at hG
    rw [xa_sw, if_neg c5]
    by_cases c8 : v1 = 2
    · rw [if_pos c8] at hG
      rw [xa_sw, if_pos c8]
      show Ev X _ 124 144 [.ref 29, .int x1, .int x2, .int v1, .retAddr 0] [] (hh S2) _
      rcases h9 : G_120 S2 x1 (x2 + 1) (0 : Int32) (15 : Int32) with _ | ⟨v9, S9⟩
      · rw [h9] at hG; cases hG
      rw [h9] at hG
      dsimp only at hG
      refine Ev.c (a := 120) (A := [.ref 29, .int x1, .int (x2 + 1), .int 0, .int 15]) (h1 := hh S2) (pc' := 155) (L' := [.ref 29, .int x1, .int x2, .int v1, .retAddr 0]) (rest := []) (r1 := none) (h2 := hh S9) 8 (fun n => B_124_7 n x1 x2 v1 S2) (Ev.up (by decide) (T_120 S2 x1 (x2 + 1) (0 : Int32) (15 : Int32) _ _ h9)) ?_
      show Ev X _ 124 155 [.ref 29, .int x1, .int x2, .int v1, .retAddr 0] [] (hh S9) _
      rcases h10 : G_120 S9 x1 (x2 + 2) (0 : Int32) (255 : Int32) with _ | ⟨v10, S10⟩
      · rw [h10] at hG; cases hG
      rw [h10] at hG
      dsimp only at hG
      refine Ev.c (a := 120) (A := [.ref 29, .int x1, .int (x2 + 2), .int 0, .int 255]) (h1 := hh S9) (pc' := 167) (L' := [.ref 29, .int x1, .int x2, .int v1, .retAddr 0]) (rest := []) (r1 := none) (h2 := hh S10) 8 (fun n => B_124_8 n x1 x2 v1 S9) (Ev.up (by decide) (T_120 S9 x1 (x2 + 2) (0 : Int32) (255 : Int32) _ _ h10)) ?_
      show Ev X _ 124 167 [.ref 29, .int x1, .int x2, .int v1, .retAddr 0] [] (hh S10) _
      obtain ⟨e1, e2⟩ := Prod.mk.inj (Option.some.inj hG)
      subst e1
      subst e2
      exact Ev.r 4 (fun n => rfl)
    rw [if_neg c8] at hG
    rw [xa_sw, if_neg c8]
    by_cases c11 : v1 = 3
    · rw [if_pos c11] at hG
      rw [xa_sw, if_pos c11]
      show Ev X _ 124 171 [.ref 29, .int x1, .int x2, .int v1, .retAddr 0] [] (hh S2) _
      rcases h12 : G_120 S2 x1 (x2 + 1) (0 : Int32) (15 : Int32) with _ | ⟨v12, S12⟩
      · rw [h12] at hG; cases hG
      rw [h12] at hG
      dsimp only at hG
      refine Ev.c (a := 120) (A := [.ref 29, .int x1, .int (x2 + 1), .int 0, .int 15]) (h1 := hh S2) (pc' := 182) (L' := [.ref 29, .int x1, .int x2, .int v1, .retAddr 0]) (rest := []) (r1 := none) (h2 := hh S12) 8 (fun n => B_124_9 n x1 x2 v1 S2) (Ev.up (by decide) (T_120 S2 x1 (x2 + 1) (0 : Int32) (15 : Int32) _ _ h12)) ?_
      show Ev X _ 124 182 [.ref 29, .int x1, .int x2, .int v1, .retAddr 0] [] (hh S12) _
      rcases h13 : G_120 S12 x1 (x2 + 2) (0 : Int32) (15 : Int32) with _ | ⟨v13, S13⟩
      · rw [h13] at hG; cases hG
      rw [h13] at hG
      dsimp only at hG
      refine Ev.c (a := 120) (A := [.ref 29, .int x1, .int (x2 + 2), .int 0, .int 15]) (h1 := hh S12) (pc' := 193) (L' := [.ref 29, .int x1, .int x2, .int v1, .retAddr 0]) (rest := []) (r1 := none) (h2 := hh S13) 8 (fun n => B_124_10 n x1 x2 v1 S12) (Ev.up (by decide) (T_120 S12 x1 (x2 + 2) (0 : Int32) (15 : Int32) _ _ h13)) ?_
      show Ev X _ 124 193 [.ref 29, .int x1, .int x2, .int v1, .retAddr 0] [] (hh S13) _
      obtain ⟨e1, e2⟩ := Prod.mk.inj (Option.some.inj hG)
      subst e1
      subst e2
      exact Ev.r 4 (fun n => rfl)
    rw [if_neg c11] at hG
    rw [xa_sw, if_neg c11]
    by_cases c14 : v1 = 4
    · rw [if_pos c14] at hG
      rw [xa_sw, if_pos c14]
      show Ev X _ 124 197 [.ref 29, .int x1, .int x2, .int v1, .retAddr 0] [] (hh S2) _
      rcases h15 : G_120 S2 x1 (x2 + 1) (0 : Int32) (15 : Int32) with _ | ⟨v15, S15⟩
      · rw [h15] at hG; cases hG
      rw [h15] at hG
      dsimp only at hG
      refine Ev.c (a := 120) (A := [.ref 29, .int x1, .int (x2 + 1), .int 0, .int 15]) (h1 := hh S2) (pc' := 208) (L' := [.ref 29, .int x1, .int x2, .int v1, .retAddr 0]) (rest := []) (r1 := none) (h2 := hh S15) 8 (fun n => B_124_11 n x1 x2 v1 S2) (Ev.up (by decide) (T_120 S2 x1 (x2 + 1) (0 : Int32) (15 : Int32) _ _ h15)) ?_
      show Ev X _ 124 208 [.ref 29, .int x1, .int x2, .int v1, .retAddr 0] [] (hh S15) _
      obtain ⟨e1, e2⟩ := Prod.mk.inj (Option.some.inj hG)
      subst e1
      subst e2
      exact Ev.r 4 (fun n => rfl)
    rw [if_neg c14] at hG
    rw [xa_sw, if_neg c14]
    by_cases c16 : v1 = 5
    · rw [if_pos c16] at hG
      rw [xa_sw, if_pos c16]
      show Ev X _ 124 197 [.ref 29, .int x1, .int x2, .int v1, .retAddr 0] [] (hh S2) _
      rcases h17 : G_120 S2 x1 (x2 + 1) (0 : Int32) (15 : Int32) with _ | ⟨v17, S17⟩
      · rw [h17] at hG; cases hG
      rw [h17] at hG
      dsimp only at hG
      refine Ev.c (a := 120) (A := [.ref 29, .int x1, .int (x2 + 1), .int 0, .int 15]) (h1 := hh S2) (pc' := 208) (L' := [.ref 29, .int x1, .int x2, .int v1, .retAddr 0]) (rest := []) (r1 := none) (h2 := hh S17) 8 (fun n => B_124_12 n x1 x2 v1 S2) (Ev.up (by decide) (T_120 S2 x1 (x2 + 1) (0 : Int32) (15 : Int32) _ _ h17)) ?_
      show Ev X _ 124 208 [.ref 29, .int x1, .int x2, .int v1, .retAddr 0] [] (hh S17) _
      obtain ⟨e1, e2⟩ := Prod.mk.inj (Option.some.inj hG)
      subst e1
      subst e2
      exact Ev.r 4 (fun n => rfl)
    rw [if_neg c16] at hG
    rw [xa_sw, if_neg c16]
    by_cases c18 : v1 = 6
    · rw [if_pos c18] at hG
      rw [xa_sw, if_pos c18]
      show Ev X _ 124 212 [.ref 29, .int x1, .int x2, .int v1, .retAddr 0] [] (hh S2) _
      rcases h19 : G_120 S2 x1 (x2 + 1) (1 : Int32) (3 : Int32) with _ | ⟨v19, S19⟩
      · rw [h19] at hG; cases hG
      rw [h19] at hG
      dsimp only at hG
      refine Ev.c (a := 120) (A := [.ref 29, .int x1, .int (x2 + 1), .int 1, .int 3]) (h1 := hh S2) (pc' := 222) (L' := [.ref 29, .int x1, .int x2, .int v1, .retAddr 0]) (rest := []) (r1 := none) (h2 := hh S19) 8 (fun n => B_124_13 n x1 x2 v1 S2) (Ev.up (by decide) (T_120 S2 x1 (x2 + 1) (1 : Int32) (3 : Int32) _ _ h19)) ?_
      show Ev X _ 124 222 [.ref 29, .int x1, .int x2, .int v1, .retAddr 0] [] (hh S19) _
      obtain ⟨e1, e2⟩ := Prod.mk.inj (Option.some.inj hG)
      subst e1
      subst e2
      exact Ev.r 4 (fun n => rfl)
    rw [if_neg c18] at hG
    rw [xa_sw, if_neg c18]
    by_cases c20 : v1 = 7
    · rw [if_pos c20] at hG
      rw [xa_sw, if_pos c20]
      show Ev X _ 124 226 [.ref 29, .int x1, .int x2, .int v1, .retAddr 0] [] (hh S2) _
      rcases h21 : G_120 S2 x1 (x2 + 1) (0 : Int32) (255 : Int32) with _ | ⟨v21, S21⟩
      · rw [h21] at hG; cases hG
      rw [h21] at hG
      dsimp only at hG
      refine Ev.c (a := 120) (A := [.ref 29, .int x1, .int (x2 + 1), .int 0, .int 255]) (h1 := hh S2) (pc' := 238) (L' := [.ref 29, .int x1, .int x2, .int v1, .retAddr 0]) (rest := []) (r1 := none) (h2 := hh S21) 8 (fun n => B_124_14 n x1 x2 v1 S2) (Ev.up (by decide) (T_120 S2 x1 (x2 + 1) (0 : Int32) (255 : Int32) _ _ h21)) ?_
      show Ev X _ 124 238 [.ref 29, .int x1, .int x2, .int v1, .retAddr 0] [] (hh S21) _
      obtain ⟨e1, e2⟩ := Prod.mk.inj (Option.some.inj hG)
      subst e1
      subst e2
      exact Ev.r 4 (fun n => rfl)
    rw [if_neg c20] at hG
    rw [xa_sw, if_neg c20]
    by_cases c22 : v1 = 8
    · rw [if_pos c22] at hG
      rw [xa_sw, if_pos c22]
      show Ev X _ 124 242 [.ref 29, .int x1, .int x2, .int v1, .retAddr 0] [] (hh S2) _
      rcases h23 : G_125 S2 x1 (x2 + 1) with _ | ⟨v23, S23⟩
      · rw [h23] at hG; cases hG
      rw [h23] at hG
      dsimp only at hG
      refine Ev.c (a := 125) (A := [.ref 29, .int x1, .int (x2 + 1), .retAddr 0, .retAddr 0, .retAddr 0]) (h1 := hh S2) (pc' := 250) (L' := [.ref 29, .int x1, .int x2, .int v1, .retAddr 0]) (rest := []) (r1 := some (.int v23)) (h2 := hh S23) 6 (fun n => B_124_15 n x1 x2 v1 S2) (Ev.up (by decide) (T_125 S2 x1 (x2 + 1) _ _ h23)) ?_
      show Ev X _ 124 250 [.ref 29, .int x1, .int x2, .int v1, .retAddr 0] [.int v23] (hh S23) _
      rcases h24 : G_120 S23 x1 v23 (0 : Int32) (255 : Int32) with _ | ⟨v24, S24⟩
      · rw [h24] at hG; cases hG
      rw [h24] at hG
      dsimp only at hG
      refine Ev.c (a := 120) (A := [.ref 29, .int x1, .int v23, .int 0, .int 255]) (h1 := hh S23) (pc' := 263) (L' := [.ref 29, .int x1, .int x2, .int v1, .int v23]) (rest := []) (r1 := none) (h2 := hh S24) 7 (fun n => B_124_16 n x1 x2 v1 v23 S23) (Ev.up (by decide) (T_120 S23 x1 v23 (0 : Int32) (255 : Int32) _ _ h24)) ?_
      show Ev X _ 124 263 [.ref 29, .int x1, .int x2, .int v1, .int v23] [] (hh S24) _
      obtain ⟨e1, e2⟩ := Prod.mk.inj (Option.some.inj hG)
      subst e1
      subst e2
      exact Ev.r 4 (fun n => rfl)
    rw [if_neg c22] at hG
    rw [xa_sw, if_neg c22]
    by_cases c25 : v1 = 18
    · rw [if_pos c25] at hG
      rw [xa_sw, if_pos c25]
      show Ev X _ 124 140 [.ref 29, .int x1, .int x2, .int v1, .retAddr 0] [] (hh S2) _
      obtain ⟨e1, e2⟩ := Prod.mk.inj (Option.some.inj hG)
      subst e1
      subst e2
      exact Ev.r 4 (fun n => rfl)
    rw [if_neg c25] at hG
    rw [xa_sw, if_neg c25]
    rw [xa_sw]
    show Ev X _ 124 268 [.ref 29, .int x1, .int x2, .int v1, .retAddr 0] [] (hh S2) _
    rcases h26 : G_127 S2 x1 x2 v1 with _ | ⟨v26, S26⟩
    · rw [h26] at hG; cases hG
    rw [h26] at hG
    dsimp only at hG
    refine Ev.c (a := 127) (A := [.ref 29, .int x1, .int x2, .int v1]) (h1 := hh S2) (pc' := 275) (L' := [.ref 29, .int x1, .int x2, .int v1, .retAddr 0]) (rest := []) (r1 := some (.int v26)) (h2 := hh S26) 5 (fun n => B_124_17 n x1 x2 v1 S2) (Ev.up (by decide) (T_127 S2 x1 x2 v1 _ _ h26)) ?_
    show Ev X _ 124 275 [.ref 29, .int x1, .int x2, .int v1, .retAddr 0] [.int v26] (hh S26) _
    obtain ⟨e1, e2⟩ := Prod.mk.inj (Option.some.inj hG)
    subst e1
    subst e2
    exact Ev.r 1 (fun n => rfl)
  · rw [if_neg c3] at hG
    refine Ev.f (c := v1 < 9) (p1 := 48) (L1 := [.ref 29, .int x1, .int x2, .int v1, .retAddr 0]) (s1 := []) (h1 := hh S2) (p2 := 22) (L2 := [.ref 29, .int x1, .int x2, .int v1, .retAddr 0]) (s2 := []) (h2 := hh S2) 3 (fun n => B_124_18 n x1 x2 v1 S2) c3 ?_
    by_cases c27 : 18 ≤ v1
    · rw [if_pos c27] at hG
      refine Ev.t (c := 18 ≤ v1) (p1 := 48) (L1 := [.ref 29, .int x1, .int x2, .int v1, .retAddr 0]) (s1 := []) (h1 := hh S2) (p2 := 28) (L2 := [.ref 29, .int x1, .int x2, .int v1, .retAddr 0]) (s2 := []) (h2 := hh S2) 3 (fun n => B_124_19 n x1 x2 v1 S2) c27 ?_
      refine Ev.sw (ks := [(0, 140), (1, 144), (2, 144), (3, 171), (4, 197), (5, 197), (6, 212), (7, 226), (8, 242), (18, 140)]) (x := v1) (df := 268) (L1 := [.ref 29, .int x1, .int x2, .int v1, .retAddr 0]) (s1 := []) (h1 := hh S2) 2 (fun n => B_124_20 n x1 x2 v1 S2) ?_
      by_cases c28 : v1 = 0
      · rw [if_pos c28] at hG
        rw [xa_sw, if_pos c28]
        show Ev X _ 124 140 [.ref 29, .int x1, .int x2, .int v1, .retAddr 0] [] (hh S2) _
        obtain ⟨e1, e2⟩ := Prod.mk.inj (Option.some.inj hG)
        subst e1
        subst e2
        exact Ev.r 4 (fun n => rfl)
      rw [if_neg c28] at hG
      rw [xa_sw, if_neg c28]
      by_cases c29 : v1 = 1
      · rw [if_pos c29] at hG
        rw [xa_sw, if_pos c29]
        show Ev X _ 124 144 [.ref 29, .int x1, .int x2, .int v1, .retAddr 0] [] (hh S2) _
        rcases h30 : G_120 S2 x1 (x2 + 1) (0 : Int32) (15 : Int32) with _ | ⟨v30, S30⟩
        · rw [h30] at hG; cases hG
        rw [h30] at hG
        dsimp only at hG
        refine Ev.c (a := 120) (A := [.ref 29, .int x1, .int (x2 + 1), .int 0, .int 15]) (h1 := hh S2) (pc' := 155) (L' := [.ref 29, .int x1, .int x2, .int v1, .retAddr 0]) (rest := []) (r1 := none) (h2 := hh S30) 8 (fun n => B_124_21 n x1 x2 v1 S2) (Ev.up (by decide) (T_120 S2 x1 (x2 + 1) (0 : Int32) (15 : Int32) _ _ h30)) ?_
        show Ev X _ 124 155 [.ref 29, .int x1, .int x2, .int v1, .retAddr 0] [] (hh S30) _
        rcases h31 : G_120 S30 x1 (x2 + 2) (0 : Int32) (255 : Int32) with _ | ⟨v31, S31⟩
        · rw [h31] at hG; cases hG
        rw [h31] at hG
        dsimp only at hG
        refine Ev.c (a := 120) (A := [.ref 29, .int x1, .int (x2 + 2), .int 0, .int 255]) (h1 := hh S30) (pc' := 167) (L' := [.ref 29, .int x1, .int x2, .int v1, .retAddr 0]) (rest := []) (r1 := none) (h2 := hh S31) 8 (fun n => B_124_22 n x1 x2 v1 S30) (Ev.up (by decide) (T_120 S30 x1 (x2 + 2) (0 : Int32) (255 : Int32) _ _ h31)) ?_
        show Ev X _ 124 167 [.ref 29, .int x1, .int x2, .int v1, .retAddr 0] [] (hh S31) _
        obtain ⟨e1, e2⟩ := Prod.mk.inj (Option.some.inj hG)
        subst e1
        subst e2
        exact Ev.r 4 (fun n => rfl)
      rw [if_neg c29] at hG
      rw [xa_sw, if_neg c29]
      by_cases c32 : v1 = 2
      · rw [if_pos c32] at hG
        rw [xa_sw, if_pos c32]
        show Ev X _ 124 144 [.ref 29, .int x1, .int x2, .int v1, .retAddr 0] [] (hh S2) _
        rcases h33 : G_120 S2 x1 (x2 + 1) (0 : Int32) (15 : Int32) with _ | ⟨v33, S33⟩
        · rw [h33] at hG; cases hG
        rw [h33] at hG
        dsimp only at hG
        refine Ev.c (a := 120) (A := [.ref 29, .int x1, .int (x2 + 1), .int 0, .int 15]) (h1 := hh S2) (pc' := 155) (L' := [.ref 29, .int x1, .int x2, .int v1, .retAddr 0]) (rest := []) (r1 := none) (h2 := hh S33) 8 (fun n => B_124_23 n x1 x2 v1 S2) (Ev.up (by decide) (T_120 S2 x1 (x2 + 1) (0 : Int32) (15 : Int32) _ _ h33)) ?_
        show Ev X _ 124 155 [.ref 29, .int x1, .int x2, .int v1, .retAddr 0] [] (hh S33) _
        rcases h34 : G_120 S33 x1 (x2 + 2) (0 : Int32) (255 : Int32) with _ | ⟨v34, S34⟩
        · rw [h34] at hG; cases hG
        rw [h34] at hG
        dsimp only at hG
        refine Ev.c (a := 120) (A := [.ref 29, .int x1, .int (x2 + 2), .int 0, .int 255]) (h1 := hh S33) (pc' := 167) (L' := [.ref 29, .int x1, .int x2, .int v1, .retAddr 0]) (rest := []) (r1 := none) (h2 := hh S34) 8 (fun n => B_124_24 n x1 x2 v1 S33) (Ev.up (by decide) (T_120 S33 x1 (x2 + 2) (0 : Int32) (255 : Int32) _ _ h34)) ?_
        show Ev X _ 124 167 [.ref 29, .int x1, .int x2, .int v1, .retAddr 0] [] (hh S34) _
        obtain ⟨e1, e2⟩ := Prod.mk.inj (Option.some.inj hG)
        subst e1
        subst e2
        exact Ev.r 4 (fun n => rfl)
      rw [if_neg c32] at hG
      rw [xa_sw, if_neg c32]
      by_cases c35 : v1 = 3
      · rw [if_pos c35] at hG
        rw [xa_sw, if_pos c35]
        show Ev X _ 124 171 [.ref 29, .int x1, .int x2, .int v1, .retAddr 0] [] (hh S2) _
        rcases h36 : G_120 S2 x1 (x2 + 1) (0 : Int32) (15 : Int32) with _ | ⟨v36, S36⟩
        · rw [h36] at hG; cases hG
        rw [h36] at hG
        dsimp only at hG
        refine Ev.c (a := 120) (A := [.ref 29, .int x1, .int (x2 + 1), .int 0, .int 15]) (h1 := hh S2) (pc' := 182) (L' := [.ref 29, .int x1, .int x2, .int v1, .retAddr 0]) (rest := []) (r1 := none) (h2 := hh S36) 8 (fun n => B_124_25 n x1 x2 v1 S2) (Ev.up (by decide) (T_120 S2 x1 (x2 + 1) (0 : Int32) (15 : Int32) _ _ h36)) ?_
        show Ev X _ 124 182 [.ref 29, .int x1, .int x2, .int v1, .retAddr 0] [] (hh S36) _
        rcases h37 : G_120 S36 x1 (x2 + 2) (0 : Int32) (15 : Int32) with _ | ⟨v37, S37⟩
        · rw [h37] at hG; cases hG
        rw [h37] at hG
        dsimp only at hG
        refine Ev.c (a := 120) (A := [.ref 29, .int x1, .int (x2 + 2), .int 0, .int 15]) (h1 := hh S36) (pc' := 193) (L' := [.ref 29, .int x1, .int x2, .int v1, .retAddr 0]) (rest := []) (r1 := none) (h2 := hh S37) 8 (fun n => B_124_26 n x1 x2 v1 S36) (Ev.up (by decide) (T_120 S36 x1 (x2 + 2) (0 : Int32) (15 : Int32) _ _ h37)) ?_
        show Ev X _ 124 193 [.ref 29, .int x1, .int x2, .int v1, .retAddr 0] [] (hh S37) _
        obtain ⟨e1, e2⟩ := Prod.mk.inj (Option.some.inj hG)
        subst e1
        subst e2
        exact Ev.r 4 (fun n => rfl)
      rw [if_neg c35] at hG
      rw [xa_sw, if_neg c35]
      by_cases c38 : v1 = 4
      · rw [if_pos c38] at hG
        rw [xa_sw, if_pos c38]
        show Ev X _ 124 197 [.ref 29, .int x1, .int x2, .int v1, .retAddr 0] [] (hh S2) _
        rcases h39 : G_120 S2 x1 (x2 + 1) (0 : Int32) (15 : Int32) with _ | ⟨v39, S39⟩
        · rw [h39] at hG; cases hG
        rw [h39] at hG
        dsimp only at hG
        refine Ev.c (a := 120) (A := [.ref 29, .int x1, .int (x2 + 1), .int 0, .int 15]) (h1 := hh S2) (pc' := 208) (L' := [.ref 29, .int x1, .int x2, .int v1, .retAddr 0]) (rest := []) (r1 := none) (h2 := hh S39) 8 (fun n => B_124_27 n x1 x2 v1 S2) (Ev.up (by decide) (T_120 S2 x1 (x2 + 1) (0 : Int32) (15 : Int32) _ _ h39)) ?_
        show Ev X _ 124 208 [.ref 29, .int x1, .int x2, .int v1, .retAddr 0] [] (hh S39) _
        obtain ⟨e1, e2⟩ := Prod.mk.inj (Option.some.inj hG)
        subst e1
        subst e2
        exact Ev.r 4 (fun n => rfl)
      rw [if_neg c38] at hG
      rw [xa_sw, if_neg c38]
      by_cases c40 : v1 = 5
      · rw [if_pos c40] at hG
        rw [xa_sw, if_pos c40]
        show Ev X _ 124 197 [.ref 29, .int x1, .int x2, .int v1, .retAddr 0] [] (hh S2) _
        rcases h41 : G_120 S2 x1 (x2 + 1) (0 : Int32) (15 : Int32) with _ | ⟨v41, S41⟩
        · rw [h41] at hG; cases hG
        rw [h41] at hG
        dsimp only at hG
        refine Ev.c (a := 120) (A := [.ref 29, .int x1, .int (x2 + 1), .int 0, .int 15]) (h1 := hh S2) (pc' := 208) (L' := [.ref 29, .int x1, .int x2, .int v1, .retAddr 0]) (rest := []) (r1 := none) (h2 := hh S41) 8 (fun n => B_124_28 n x1 x2 v1 S2) (Ev.up (by decide) (T_120 S2 x1 (x2 + 1) (0 : Int32) (15 : Int32) _ _ h41)) ?_
        show Ev X _ 124 208 [.ref 29, .int x1, .int x2, .int v1, .retAddr 0] [] (hh S41) _
        obtain ⟨e1, e2⟩ := Prod.mk.inj (Option.some.inj hG)
        subst e1
        subst e2
        exact Ev.r 4 (fun n => rfl)
      rw [if_neg c40] at hG
      rw [xa_sw, if_neg c40]
      by_cases c42 : v1 = 6
      · rw [if_pos c42] at hG
        rw [xa_sw, if_pos c42]
        show Ev X _ 124 212 [.ref 29, .int x1, .int x2, .int v1, .retAddr 0] [] (hh S2) _
        rcases h43 : G_120 S2 x1 (x2 + 1) (1 : Int32) (3 : Int32) with _ | ⟨v43, S43⟩
        · rw [h43] at hG; cases hG
        rw [h43] at hG
        dsimp only at hG
        refine Ev.c (a := 120) (A := [.ref 29, .int x1, .int (x2 + 1), .int 1, .int 3]) (h1 := hh S2) (pc' := 222) (L' := [.ref 29, .int x1, .int x2, .int v1, .retAddr 0]) (rest := []) (r1 := none) (h2 := hh S43) 8 (fun n => B_124_29 n x1 x2 v1 S2) (Ev.up (by decide) (T_120 S2 x1 (x2 + 1) (1 : Int32) (3 : Int32) _ _ h43)) ?_
        show Ev X _ 124 222 [.ref 29, .int x1, .int x2, .int v1, .retAddr 0] [] (hh S43) _
        obtain ⟨e1, e2⟩ := Prod.mk.inj (Option.some.inj hG)
        subst e1
        subst e2
        exact Ev.r 4 (fun n => rfl)
      rw [if_neg c42] at hG
      rw [xa_sw, if_neg c42]
      by_cases c44 : v1 = 7
      · rw [if_pos c44] at hG
        rw [xa_sw, if_pos c44]
        show Ev X _ 124 226 [.ref 29, .int x1, .int x2, .int v1, .retAddr 0] [] (hh S2) _
        rcases h45 : G_120 S2 x1 (x2 + 1) (0 : Int32) (255 : Int32) with _ | ⟨v45, S45⟩
        · rw [h45] at hG; cases hG
        rw [h45] at hG
        dsimp only at hG
        refine Ev.c (a := 120) (A := [.ref 29, .int x1, .int (x2 + 1), .int 0, .int 255]) (h1 := hh S2) (pc' := 238) (L' := [.ref 29, .int x1, .int x2, .int v1, .retAddr 0]) (rest := []) (r1 := none) (h2 := hh S45) 8 (fun n => B_124_30 n x1 x2 v1 S2) (Ev.up (by decide) (T_120 S2 x1 (x2 + 1) (0 : Int32) (255 : Int32) _ _ h45)) ?_
        show Ev X _ 124 238 [.ref 29, .int x1, .int x2, .int v1, .retAddr 0] [] (hh S45) _
        obtain ⟨e1, e2⟩ := Prod.mk.inj (Option.some.inj hG)
        subst e1
        subst e2
        exact Ev.r 4 (fun n => rfl)
      rw [if_neg c44] at hG
      rw [xa_sw, if_neg c44]
      by_cases c46 : v1 = 8
      · rw [if_pos c46] at hG
        rw [xa_sw, if_pos c46]
        show Ev X _ 124 242 [.ref 29, .int x1, .int x2, .int v1, .retAddr 0] [] (hh S2) _
        rcases h47 : G_125 S2 x1 (x2 + 1) with _ | ⟨v47, S47⟩
        · rw [h47] at hG; cases hG
        rw [h47] at hG
        dsimp only at hG
        refine Ev.c (a := 125) (A := [.ref 29, .int x1, .int (x2 + 1), .retAddr 0, .retAddr 0, .retAddr 0]) (h1 := hh S2) (pc' := 250) (L' := [.ref 29, .int x1, .int x2, .int v1, .retAddr 0]) (rest := []) (r1 := some (.int v47)) (h2 := hh S47) 6 (fun n => B_124_31 n x1 x2 v1 S2) (Ev.up (by decide) (T_125 S2 x1 (x2 + 1) _ _ h47)) ?_
        show Ev X _ 124 250 [.ref 29, .int x1, .int x2, .int v1, .retAddr 0] [.int v47] (hh S47) _
        rcases h48 : G_120 S47 x1 v47 (0 : Int32) (255 : Int32) with _ | ⟨v48, S48⟩
        · rw [h48] at hG; cases hG
        rw [h48] at hG
        dsimp only at hG
        refine Ev.c (a := 120) (A := [.ref 29, .int x1, .int v47, .int 0, .int 255]) (h1 := hh S47) (pc' := 263) (L' := [.ref 29, .int x1, .int x2, .int v1, .int v47]) (rest := []) (r1 := none) (h2 := hh S48) 7 (fun n => B_124_32 n x1 x2 v1 v47 S47) (Ev.up (by decide) (T_120 S47 x1 v47 (0 : Int32) (255 : Int32) _ _ h48)) ?_
        show Ev X _ 124 263 [.ref 29, .int x1, .int x2, .int v1, .int v47] [] (hh S48) _
        obtain ⟨e1, e2⟩ := Prod.mk.inj (Option.some.inj hG)
        subst e1
        subst e2
        exact Ev.r 4 (fun n => rfl)
      rw [if_neg c46] at hG
      rw [xa_sw, if_neg c46]
      by_cases c49 : v1 = 18
      · rw [if_pos c49] at hG
        rw [xa_sw, if_pos c49]
        show Ev X _ 124 140 [.ref 29, .int x1, .int x2, .int v1, .retAddr 0] [] (hh S2) _
        obtain ⟨e1, e2⟩ := Prod.mk.inj (Option.some.inj hG)
        subst e1
        subst e2
        exact Ev.r 4 (fun n => rfl)
      rw [if_neg c49] at hG
      rw [xa_sw, if_neg c49]
      rw [xa_sw]
      show Ev X _ 124 268 [.ref 29, .int x1, .int x2, .int v1, .retAddr 0] [] (hh S2) _
      rcases h50 : G_127 S2 x1 x2 v1 with _ | ⟨v50, S50⟩
      · rw [h50] at hG; cases hG
      rw [h50] at hG
      dsimp only at hG
      refine Ev.c (a := 127) (A := [.ref 29, .int x1, .int x2, .int v1]) (h1 := hh S2) (pc' := 275) (L' := [.ref 29, .int x1, .int x2, .int v1, .retAddr 0]) (rest := []) (r1 := some (.int v50)) (h2 := hh S50) 5 (fun n => B_124_33 n x1 x2 v1 S2) (Ev.up (by decide) (T_127 S2 x1 x2 v1 _ _ h50)) ?_
      show Ev X _ 124 275 [.ref 29, .int x1, .int x2, .int v1, .retAddr 0] [.int v50] (hh S50) _
      obtain ⟨e1, e2⟩ := Prod.mk.inj (Option.some.inj hG)
      subst e1
      subst e2
      exact Ev.r 1 (fun n => rfl)
    · rw [if_neg c27] at hG
      refine Ev.f (c := 18 ≤ v1) (p1 := 48) (L1 := [.ref 29, .int x1, .int x2, .int v1, .retAddr 0]) (s1 := []) (h1 := hh S2) (p2 := 28) (L2 := [.ref 29, .int x1, .int x2, .int v1, .retAddr 0]) (s2 := []) (h2 := hh S2) 3 (fun n => B_124_34 n x1 x2 v1 S2) c27 ?_
      by_cases c51 : v1 = 14
      · rw [if_pos c51] at hG
        refine Ev.t (c := v1 = 14) (p1 := 39) (L1 := [.ref 29, .int x1, .int x2, .int v1, .retAddr 0]) (s1 := [.int (x2 + 1), .int x1, .ref 29]) (h1 := hh S2) (p2 := 43) (L2 := [.ref 29, .int x1, .int x2, .int v1, .retAddr 0]) (s2 := [.int (x2 + 1), .int x1, .ref 29]) (h2 := hh S2) 8 (fun n => B_124_35 n x1 x2 v1 S2) c51 ?_
        rcases h52 : G_120 S2 x1 (x2 + 1) (1 : Int32) (3 : Int32) with _ | ⟨v52, S52⟩
        · rw [h52] at hG; cases hG
        rw [h52] at hG
        dsimp only at hG
        refine Ev.c (a := 120) (A := [.ref 29, .int x1, .int (x2 + 1), .int 1, .int 3]) (h1 := hh S2) (pc' := 48) (L' := [.ref 29, .int x1, .int x2, .int v1, .retAddr 0]) (rest := []) (r1 := none) (h2 := hh S52) 4 (fun n => B_124_36 n x1 x2 v1 S2) (Ev.up (by decide) (T_120 S2 x1 (x2 + 1) (1 : Int32) (3 : Int32) _ _ h52)) ?_
        show Ev X _ 124 48 [.ref 29, .int x1, .int x2, .int v1, .retAddr 0] [] (hh S52) _
        refine Ev.sw (ks := [(0, 140), (1, 144), (2, 144), (3, 171), (4, 197), (5, 197), (6, 212), (7, 226), (8, 242), (18, 140)]) (x := v1) (df := 268) (L1 := [.ref 29, .int x1, .int x2, .int v1, .retAddr 0]) (s1 := []) (h1 := hh S52) 2 (fun n => B_124_37 n x1 x2 v1 S52) ?_
        by_cases c53 : v1 = 0
        · rw [if_pos c53] at hG
          rw [xa_sw, if_pos c53]
          show Ev X _ 124 140 [.ref 29, .int x1, .int x2, .int v1, .retAddr 0] [] (hh S52) _
          obtain ⟨e1, e2⟩ := Prod.mk.inj (Option.some.inj hG)
          subst e1
          subst e2
          exact Ev.r 4 (fun n => rfl)
        rw [if_neg c53] at hG
        rw [xa_sw, if_neg c53]
        by_cases c54 : v1 = 1
        · rw [if_pos c54] at hG
          rw [xa_sw, if_pos c54]
          show Ev X _ 124 144 [.ref 29, .int x1, .int x2, .int v1, .retAddr 0] [] (hh S52) _
          rcases h55 : G_120 S52 x1 (x2 + 1) (0 : Int32) (15 : Int32) with _ | ⟨v55, S55⟩
          · rw [h55] at hG; cases hG
          rw [h55] at hG
          dsimp only at hG
          refine Ev.c (a := 120) (A := [.ref 29, .int x1, .int (x2 + 1), .int 0, .int 15]) (h1 := hh S52) (pc' := 155) (L' := [.ref 29, .int x1, .int x2, .int v1, .retAddr 0]) (rest := []) (r1 := none) (h2 := hh S55) 8 (fun n => B_124_38 n x1 x2 v1 S52) (Ev.up (by decide) (T_120 S52 x1 (x2 + 1) (0 : Int32) (15 : Int32) _ _ h55)) ?_
          show Ev X _ 124 155 [.ref 29, .int x1, .int x2, .int v1, .retAddr 0] [] (hh S55) _
          rcases h56 : G_120 S55 x1 (x2 + 2) (0 : Int32) (255 : Int32) with _ | ⟨v56, S56⟩
          · rw [h56] at hG; cases hG
          rw [h56] at hG
          dsimp only at hG
          refine Ev.c (a := 120) (A := [.ref 29, .int x1, .int (x2 + 2), .int 0, .int 255]) (h1 := hh S55) (pc' := 167) (L' := [.ref 29, .int x1, .int x2, .int v1, .retAddr 0]) (rest := []) (r1 := none) (h2 := hh S56) 8 (fun n => B_124_39 n x1 x2 v1 S55) (Ev.up (by decide) (T_120 S55 x1 (x2 + 2) (0 : Int32) (255 : Int32) _ _ h56)) ?_
          show Ev X _ 124 167 [.ref 29, .int x1, .int x2, .int v1, .retAddr 0] [] (hh S56) _
          obtain ⟨e1, e2⟩ := Prod.mk.inj (Option.some.inj hG)
          subst e1
          subst e2
          exact Ev.r 4 (fun n => rfl)
        rw [if_neg c54] at hG
        rw [xa_sw, if_neg c54]
        by_cases c57 : v1 = 2
        · rw [if_pos c57] at hG
          rw [xa_sw, if_pos c57]
          show Ev X _ 124 144 [.ref 29, .int x1, .int x2, .int v1, .retAddr 0] [] (hh S52) _
          rcases h58 : G_120 S52 x1 (x2 + 1) (0 : Int32) (15 : Int32) with _ | ⟨v58, S58⟩
          · rw [h58] at hG; cases hG
          rw [h58] at hG
          dsimp only at hG
          refine Ev.c (a := 120) (A := [.ref 29, .int x1, .int (x2 + 1), .int 0, .int 15]) (h1 := hh S52) (pc' := 155) (L' := [.ref 29, .int x1, .int x2, .int v1, .retAddr 0]) (rest := []) (r1 := none) (h2 := hh S58) 8 (fun n => B_124_40 n x1 x2 v1 S52) (Ev.up (by decide) (T_120 S52 x1 (x2 + 1) (0 : Int32) (15 : Int32) _ _ h58)) ?_
          show Ev X _ 124 155 [.ref 29, .int x1, .int x2, .int v1, .retAddr 0] [] (hh S58) _
          rcases h59 : G_120 S58 x1 (x2 + 2) (0 : Int32) (255 : Int32) with _ | ⟨v59, S59⟩
          · rw [h59] at hG; cases hG
          rw [h59] at hG
          dsimp only at hG
          refine Ev.c (a := 120) (A := [.ref 29, .int x1, .int (x2 + 2), .int 0, .int 255]) (h1 := hh S58) (pc' := 167) (L' := [.ref 29, .int x1, .int x2, .int v1, .retAddr 0]) (rest := []) (r1 := none) (h2 := hh S59) 8 (fun n => B_124_41 n x1 x2 v1 S58) (Ev.up (by decide) (T_120 S58 x1 (x2 + 2) (0 : Int32) (255 : Int32) _ _ h59)) ?_
          show Ev X _ 124 167 [.ref 29, .int x1, .int x2, .int v1, .retAddr 0] [] (hh S59) _
          obtain ⟨e1, e2⟩ := Prod.mk.inj (Option.some.inj hG)
          subst e1
          subst e2
          exact Ev.r 4 (fun n => rfl)
        rw [if_neg c57] at hG
        rw [xa_sw, if_neg c57]
        by_cases c60 : v1 = 3
        · rw [if_pos c60] at hG
          rw [xa_sw, if_pos c60]
          show Ev X _ 124 171 [.ref 29, .int x1, .int x2, .int v1, .retAddr 0] [] (hh S52) _
          rcases h61 : G_120 S52 x1 (x2 + 1) (0 : Int32) (15 : Int32) with _ | ⟨v61, S61⟩
          · rw [h61] at hG; cases hG
          rw [h61] at hG
          dsimp only at hG
          refine Ev.c (a := 120) (A := [.ref 29, .int x1, .int (x2 + 1), .int 0, .int 15]) (h1 := hh S52) (pc' := 182) (L' := [.ref 29, .int x1, .int x2, .int v1, .retAddr 0]) (rest := []) (r1 := none) (h2 := hh S61) 8 (fun n => B_124_42 n x1 x2 v1 S52) (Ev.up (by decide) (T_120 S52 x1 (x2 + 1) (0 : Int32) (15 : Int32) _ _ h61)) ?_
          show Ev X _ 124 182 [.ref 29, .int x1, .int x2, .int v1, .retAddr 0] [] (hh S61) _
          rcases h62 : G_120 S61 x1 (x2 + 2) (0 : Int32) (15 : Int32) with _ | ⟨v62, S62⟩
          · rw [h62] at hG; cases hG
          rw [h62] at hG
          dsimp only at hG
          refine Ev.c (a := 120) (A := [.ref 29, .int x1, .int (x2 + 2), .int 0, .int 15]) (h1 := hh S61) (pc' := 193) (L' := [.ref 29, .int x1, .int x2, .int v1, .retAddr 0]) (rest := []) (r1 := none) (h2 := hh S62) 8 (fun n => B_124_43 n x1 x2 v1 S61) (Ev.up (by decide) (T_120 S61 x1 (x2 + 2) (0 : Int32) (15 : Int32) _ _ h62)) ?_
          show Ev X _ 124 193 [.ref 29, .int x1, .int x2, .int v1, .retAddr 0] [] (hh S62) _
          obtain ⟨e1, e2⟩ := Prod.mk.inj (Option.some.inj hG)
          subst e1
          subst e2
          exact Ev.r 4 (fun n => rfl)
        rw [if_neg c60] at hG
        rw [xa_sw, if_neg c60]
        by_cases c63 : v1 = 4
        · rw [if_pos c63] at hG
          rw [xa_sw, if_pos c63]
          show Ev X _ 124 197 [.ref 29, .int x1, .int x2, .int v1, .retAddr 0] [] (hh S52) _
          rcases h64 : G_120 S52 x1 (x2 + 1) (0 : Int32) (15 : Int32) with _ | ⟨v64, S64⟩
          · rw [h64] at hG; cases hG
          rw [h64] at hG
          dsimp only at hG
          refine Ev.c (a := 120) (A := [.ref 29, .int x1, .int (x2 + 1), .int 0, .int 15]) (h1 := hh S52) (pc' := 208) (L' := [.ref 29, .int x1, .int x2, .int v1, .retAddr 0]) (rest := []) (r1 := none) (h2 := hh S64) 8 (fun n => B_124_44 n x1 x2 v1 S52) (Ev.up (by decide) (T_120 S52 x1 (x2 + 1) (0 : Int32) (15 : Int32) _ _ h64)) ?_
          show Ev X _ 124 208 [.ref 29, .int x1, .int x2, .int v1, .retAddr 0] [] (hh S64) _
          obtain ⟨e1, e2⟩ := Prod.mk.inj (Option.some.inj hG)
          subst e1
          subst e2
          exact Ev.r 4 (fun n => rfl)
        rw [if_neg c63] at hG
        rw [xa_sw, if_neg c63]
        by_cases c65 : v1 = 5
        · rw [if_pos c65] at hG
          rw [xa_sw, if_pos c65]
          show Ev X _ 124 197 [.ref 29, .int x1, .int x2, .int v1, .retAddr 0] [] (hh S52) _
          rcases h66 : G_120 S52 x1 (x2 + 1) (0 : Int32) (15 : Int32) with _ | ⟨v66, S66⟩
          · rw [h66] at hG; cases hG
          rw [h66] at hG
          dsimp only at hG
          refine Ev.c (a := 120) (A := [.ref 29, .int x1, .int (x2 + 1), .int 0, .int 15]) (h1 := hh S52) (pc' := 208) (L' := [.ref 29, .int x1, .int x2, .int v1, .retAddr 0]) (rest := []) (r1 := none) (h2 := hh S66) 8 (fun n => B_124_45 n x1 x2 v1 S52) (Ev.up (by decide) (T_120 S52 x1 (x2 + 1) (0 : Int32) (15 : Int32) _ _ h66)) ?_
          show Ev X _ 124 208 [.ref 29, .int x1, .int x2, .int v1, .retAddr 0] [] (hh S66) _
          obtain ⟨e1, e2⟩ := Prod.mk.inj (Option.some.inj hG)
          subst e1
          subst e2
          exact Ev.r 4 (fun n => rfl)
        rw [if_neg c65] at hG
        rw [xa_sw, if_neg c65]
        by_cases c67 : v1 = 6
        · rw [if_pos c67] at hG
          rw [xa_sw, if_pos c67]
          show Ev X _ 124 212 [.ref 29, .int x1, .int x2, .int v1, .retAddr 0] [] (hh S52) _
          rcases h68 : G_120 S52 x1 (x2 + 1) (1 : Int32) (3 : Int32) with _ | ⟨v68, S68⟩
          · rw [h68] at hG; cases hG
          rw [h68] at hG
          dsimp only at hG
          refine Ev.c (a := 120) (A := [.ref 29, .int x1, .int (x2 + 1), .int 1, .int 3]) (h1 := hh S52) (pc' := 222) (L' := [.ref 29, .int x1, .int x2, .int v1, .retAddr 0]) (rest := []) (r1 := none) (h2 := hh S68) 8 (fun n => B_124_46 n x1 x2 v1 S52) (Ev.up (by decide) (T_120 S52 x1 (x2 + 1) (1 : Int32) (3 : Int32) _ _ h68)) ?_
          show Ev X _ 124 222 [.ref 29, .int x1, .int x2, .int v1, .retAddr 0] [] (hh S68) _
          obtain ⟨e1, e2⟩ := Prod.mk.inj (Option.some.inj hG)
          subst e1
          subst e2
          exact Ev.r 4 (fun n => rfl)
        rw [if_neg c67] at hG
        rw [xa_sw, if_neg c67]
        by_cases c69 : v1 = 7
        · rw [if_pos c69] at hG
          rw [xa_sw, if_pos c69]
          show Ev X _ 124 226 [.ref 29, .int x1, .int x2, .int v1, .retAddr 0] [] (hh S52) _
          rcases h70 : G_120 S52 x1 (x2 + 1) (0 : Int32) (255 : Int32) with _ | ⟨v70, S70⟩
          · rw [h70] at hG; cases hG
          rw [h70] at hG
          dsimp only at hG
          refine Ev.c (a := 120) (A := [.ref 29, .int x1, .int (x2 + 1), .int 0, .int 255]) (h1 := hh S52) (pc' := 238) (L' := [.ref 29, .int x1, .int x2, .int v1, .retAddr 0]) (rest := []) (r1 := none) (h2 := hh S70) 8 (fun n => B_124_47 n x1 x2 v1 S52) (Ev.up (by decide) (T_120 S52 x1 (x2 + 1) (0 : Int32) (255 : Int32) _ _ h70)) ?_
          show Ev X _ 124 238 [.ref 29, .int x1, .int x2, .int v1, .retAddr 0] [] (hh S70) _
          obtain ⟨e1, e2⟩ := Prod.mk.inj (Option.some.inj hG)
          subst e1
          subst e2
          exact Ev.r 4 (fun n => rfl)
        rw [if_neg c69] at hG
        rw [xa_sw, if_neg c69]
        by_cases c71 : v1 = 8
        · rw [if_pos c71] at hG
          rw [xa_sw, if_pos c71]
          show Ev X _ 124 242 [.ref 29, .int x1, .int x2, .int v1, .retAddr 0] [] (hh S52) _
          rcases h72 : G_125 S52 x1 (x2 + 1) with _ | ⟨v72, S72⟩
          · rw [h72] at hG; cases hG
          rw [h72] at hG
          dsimp only at hG
          refine Ev.c (a := 125) (A := [.ref 29, .int x1, .int (x2 + 1), .retAddr 0, .retAddr 0, .retAddr 0]) (h1 := hh S52) (pc' := 250) (L' := [.ref 29, .int x1, .int x2, .int v1, .retAddr 0]) (rest := []) (r1 := some (.int v72)) (h2 := hh S72) 6 (fun n => B_124_48 n x1 x2 v1 S52) (Ev.up (by decide) (T_125 S52 x1 (x2 + 1) _ _ h72)) ?_
          show Ev X _ 124 250 [.ref 29, .int x1, .int x2, .int v1, .retAddr 0] [.int v72] (hh S72) _
          rcases h73 : G_120 S72 x1 v72 (0 : Int32) (255 : Int32) with _ | ⟨v73, S73⟩
          · rw [h73] at hG; cases hG
          rw [h73] at hG
          dsimp only at hG
          refine Ev.c (a := 120) (A := [.ref 29, .int x1, .int v72, .int 0, .int 255]) (h1 := hh S72) (pc' := 263) (L' := [.ref 29, .int x1, .int x2, .int v1, .int v72]) (rest := []) (r1 := none) (h2 := hh S73) 7 (fun n => B_124_49 n x1 x2 v1 v72 S72) (Ev.up (by decide) (T_120 S72 x1 v72 (0 : Int32) (255 : Int32) _ _ h73)) ?_
          show Ev X _ 124 263 [.ref 29, .int x1, .int x2, .int v1, .int v72] [] (hh S73) _
          obtain ⟨e1, e2⟩ := Prod.mk.inj (Option.some.inj hG)
          subst e1
          subst e2
          exact Ev.r 4 (fun n => rfl)
        rw [if_neg c71] at hG
        rw [xa_sw, if_neg c71]
        by_cases c74 : v1 = 18
        · rw [if_pos c74] at hG
          rw [xa_sw, if_pos c74]
          show Ev X _ 124 140 [.ref 29, .int x1, .int x2, .int v1, .retAddr 0] [] (hh S52) _
          obtain ⟨e1, e2⟩ := Prod.mk.inj (Option.some.inj hG)
          subst e1
          subst e2
          exact Ev.r 4 (fun n => rfl)
        rw [if_neg c74] at hG
        rw [xa_sw, if_neg c74]
        rw [xa_sw]
        show Ev X _ 124 268 [.ref 29, .int x1, .int x2, .int v1, .retAddr 0] [] (hh S52) _
        rcases h75 : G_127 S52 x1 x2 v1 with _ | ⟨v75, S75⟩
        · rw [h75] at hG; cases hG
        rw [h75] at hG
        dsimp only at hG
        refine Ev.c (a := 127) (A := [.ref 29, .int x1, .int x2, .int v1]) (h1 := hh S52) (pc' := 275) (L' := [.ref 29, .int x1, .int x2, .int v1, .retAddr 0]) (rest := []) (r1 := some (.int v75)) (h2 := hh S75) 5 (fun n => B_124_50 n x1 x2 v1 S52) (Ev.up (by decide) (T_127 S52 x1 x2 v1 _ _ h75)) ?_
        show Ev X _ 124 275 [.ref 29, .int x1, .int x2, .int v1, .retAddr 0] [.int v75] (hh S75) _
        obtain ⟨e1, e2⟩ := Prod.mk.inj (Option.some.inj hG)
        subst e1
        subst e2
        exact Ev.r 1 (fun n => rfl)
      · rw [if_neg c51] at hG
        refine Ev.f (c := v1 = 14) (p1 := 39) (L1 := [.ref 29, .int x1, .int x2, .int v1, .retAddr 0]) (s1 := [.int (x2 + 1), .int x1, .ref 29]) (h1 := hh S2) (p2 := 43) (L2 := [.ref 29, .int x1, .int x2, .int v1, .retAddr 0]) (s2 := [.int (x2 + 1), .int x1, .ref 29]) (h2 := hh S2) 8 (fun n => B_124_51 n x1 x2 v1 S2) c51 ?_
        rcases h76 : G_120 S2 x1 (x2 + 1) (0 : Int32) (3 : Int32) with _ | ⟨v76, S76⟩
        · rw [h76] at hG; cases hG
        rw [h76] at hG
        dsimp only at hG
        refine Ev.c (a := 120) (A := [.ref 29, .int x1, .int (x2 + 1), .int 0, .int 3]) (h1 := hh S2) (pc' := 48) (L' := [.ref 29, .int x1, .int x2, .int v1, .retAddr 0]) (rest := []) (r1 := none) (h2 := hh S76) 3 (fun n => B_124_52 n x1 x2 v1 S2) (Ev.up (by decide) (T_120 S2 x1 (x2 + 1) (0 : Int32) (3 : Int32) _ _ h76)) ?_
        show Ev X _ 124 48 [.ref 29, .int x1, .int x2, .int v1, .retAddr 0] [] (hh S76) _
        refine Ev.sw (ks := [(0, 140), (1, 144), (2, 144), (3, 171), (4, 197), (5, 197), (6, 212), (7, 226), (8, 242), (18, 140)]) (x := v1) (df := 268) (L1 := [.ref 29, .int x1, .int x2, .int v1, .retAddr 0]) (s1 := []) (h1 := hh S76) 2 (fun n => B_124_53 n x1 x2 v1 S76) ?_
        by_cases c77 : v1 = 0
        · rw [if_pos c77] at hG
          rw [xa_sw, if_pos c77]
          show Ev X _ 124 140 [.ref 29, .int x1, .int x2, .int v1, .retAddr 0] [] (hh S76) _
          obtain ⟨e1, e2⟩ := Prod.mk.inj (Option.some.inj hG)
          subst e1
          subst e2
          exact Ev.r 4 (fun n => rfl)
        rw [if_neg c77] at hG
        rw [xa_sw, if_neg c77]
        by_cases c78 : v1 = 1
        · rw [if_pos c78] at hG
          rw [xa_sw, if_pos c78]
          show Ev X _ 124 144 [.ref 29, .int x1, .int x2, .int v1, .retAddr 0] [] (hh S76) _
          rcases h79 : G_120 S76 x1 (x2 + 1) (0 : Int32) (15 : Int32) with _ | ⟨v79, S79⟩
          · rw [h79] at hG; cases hG
          rw [h79] at hG
          dsimp only at hG
          refine Ev.c (a := 120) (A := [.ref 29, .int x1, .int (x2 + 1), .int 0, .int 15]) (h1 := hh S76) (pc' := 155) (L' := [.ref 29, .int x1, .int x2, .int v1, .retAddr 0]) (rest := []) (r1 := none) (h2 := hh S79) 8 (fun n => B_124_54 n x1 x2 v1 S76) (Ev.up (by decide) (T_120 S76 x1 (x2 + 1) (0 : Int32) (15 : Int32) _ _ h79)) ?_
          show Ev X _ 124 155 [.ref 29, .int x1, .int x2, .int v1, .retAddr 0] [] (hh S79) _
          rcases h80 : G_120 S79 x1 (x2 + 2) (0 : Int32) (255 : Int32) with _ | ⟨v80, S80⟩
          · rw [h80] at hG; cases hG
          rw [h80] at hG
          dsimp only at hG
          refine Ev.c (a := 120) (A := [.ref 29, .int x1, .int (x2 + 2), .int 0, .int 255]) (h1 := hh S79) (pc' := 167) (L' := [.ref 29, .int x1, .int x2, .int v1, .retAddr 0]) (rest := []) (r1 := none) (h2 := hh S80) 8 (fun n => B_124_55 n x1 x2 v1 S79) (Ev.up (by decide) (T_120 S79 x1 (x2 + 2) (0 : Int32) (255 : Int32) _ _ h80)) ?_
          show Ev X _ 124 167 [.ref 29, .int x1, .int x2, .int v1, .retAddr 0] [] (hh S80) _
          obtain ⟨e1, e2⟩ := Prod.mk.inj (Option.some.inj hG)
          subst e1
          subst e2
          exact Ev.r 4 (fun n => rfl)
        rw [if_neg c78] at hG
        rw [xa_sw, if_neg c78]
        by_cases c81 : v1 = 2
        · rw [if_pos c81] at hG
          rw [xa_sw, if_pos c81]
          show Ev X _ 124 144 [.ref 29, .int x1, .int x2, .int v1, .retAddr 0] [] (hh S76) _
          rcases h82 : G_120 S76 x1 (x2 + 1) (0 : Int32) (15 : Int32) with _ | ⟨v82, S82⟩
          · rw [h82] at hG; cases hG
          rw [h82] at hG
          dsimp only at hG
          refine Ev.c (a := 120) (A := [.ref 29, .int x1, .int (x2 + 1), .int 0, .int 15]) (h1 := hh S76) (pc' := 155) (L' := [.ref 29, .int x1, .int x2, .int v1, .retAddr 0]) (rest := []) (r1 := none) (h2 := hh S82) 8 (fun n => B_124_56 n x1 x2 v1 S76) (Ev.up (by decide) (T_120 S76 x1 (x2 + 1) (0 : Int32) (15 : Int32) _ _ h82)) ?_
          show Ev X _ 124 155 [.ref 29, .int x1, .int x2, .int v1, .retAddr 0] [] (hh S82) _
          rcases h83 : G_120 S82 x1 (x2 + 2) (0 : Int32) (255 : Int32) with _ | ⟨v83, S83⟩
          · rw [h83] at hG; cases hG
          rw [h83] at hG
          dsimp only at hG
          refine Ev.c (a := 120) (A := [.ref 29, .int x1, .int (x2 + 2), .int 0, .int 255]) (h1 := hh S82) (pc' := 167) (L' := [.ref 29, .int x1, .int x2, .int v1, .retAddr 0]) (rest := []) (r1 := none) (h2 := hh S83) 8 (fun n => B_124_57 n x1 x2 v1 S82) (Ev.up (by decide) (T_120 S82 x1 (x2 + 2) (0 : Int32) (255 : Int32) _ _ h83)) ?_
          show Ev X _ 124 167 [.ref 29, .int x1, .int x2, .int v1, .retAddr 0] [] (hh S83) _
          obtain ⟨e1, e2⟩ := Prod.mk.inj (Option.some.inj hG)
          subst e1
          subst e2
          exact Ev.r 4 (fun n => rfl)
        rw [if_neg c81] at hG
        rw [xa_sw, if_neg c81]
        by_cases c84 : v1 = 3
        · rw [if_pos c84] at hG
          rw [xa_sw, if_pos c84]
          show Ev X _ 124 171 [.ref 29, .int x1, .int x2, .int v1, .retAddr 0] [] (hh S76) _
          rcases h85 : G_120 S76 x1 (x2 + 1) (0 : Int32) (15 : Int32) with _ | ⟨v85, S85⟩
          · rw [h85] at hG; cases hG
          rw [h85] at hG
          dsimp only at hG
          refine Ev.c (a := 120) (A := [.ref 29, .int x1, .int (x2 + 1), .int 0, .int 15]) (h1 := hh S76) (pc' := 182) (L' := [.ref 29, .int x1, .int x2, .int v1, .retAddr 0]) (rest := []) (r1 := none) (h2 := hh S85) 8 (fun n => B_124_58 n x1 x2 v1 S76) (Ev.up (by decide) (T_120 S76 x1 (x2 + 1) (0 : Int32) (15 : Int32) _ _ h85)) ?_
          show Ev X _ 124 182 [.ref 29, .int x1, .int x2, .int v1, .retAddr 0] [] (hh S85) _
          rcases h86 : G_120 S85 x1 (x2 + 2) (0 : Int32) (15 : Int32) with _ | ⟨v86, S86⟩
          · rw [h86] at hG; cases hG
          rw [h86] at hG
          dsimp only at hG
          refine Ev.c (a := 120) (A := [.ref 29, .int x1, .int (x2 + 2), .int 0, .int 15]) (h1 := hh S85) (pc' := 193) (L' := [.ref 29, .int x1, .int x2, .int v1, .retAddr 0]) (rest := []) (r1 := none) (h2 := hh S86) 8 (fun n => B_124_59 n x1 x2 v1 S85) (Ev.up (by decide) (T_120 S85 x1 (x2 + 2) (0 : Int32) (15 : Int32) _ _ h86)) ?_
          show Ev X _ 124 193 [.ref 29, .int x1, .int x2, .int v1, .retAddr 0] [] (hh S86) _
          obtain ⟨e1, e2⟩ := Prod.mk.inj (Option.some.inj hG)
          subst e1
          subst e2
          exact Ev.r 4 (fun n => rfl)
        rw [if_neg c84] at hG
        rw [xa_sw, if_neg c84]
        by_cases c87 : v1 = 4
        · rw [if_pos c87] at hG
          rw [xa_sw, if_pos c87]
          show Ev X _ 124 197 [.ref 29, .int x1, .int x2, .int v1, .retAddr 0] [] (hh S76) _
          rcases h88 : G_120 S76 x1 (x2 + 1) (0 : Int32) (15 : Int32) with _ | ⟨v88, S88⟩
          · rw [h88] at hG; cases hG
          rw [h88] at hG
          dsimp only at hG
          refine Ev.c (a := 120) (A := [.ref 29, .int x1, .int (x2 + 1), .int 0, .int 15]) (h1 := hh S76) (pc' := 208) (L' := [.ref 29, .int x1, .int x2, .int v1, .retAddr 0]) (rest := []) (r1 := none) (h2 := hh S88) 8 (fun n => B_124_60 n x1 x2 v1 S76) (Ev.up (by decide) (T_120 S76 x1 (x2 + 1) (0 : Int32) (15 : Int32) _ _ h88)) ?_
          show Ev X _ 124 208 [.ref 29, .int x1, .int x2, .int v1, .retAddr 0] [] (hh S88) _
          obtain ⟨e1, e2⟩ := Prod.mk.inj (Option.some.inj hG)
          subst e1
          subst e2
          exact Ev.r 4 (fun n => rfl)
        rw [if_neg c87] at hG
        rw [xa_sw, if_neg c87]
        by_cases c89 : v1 = 5
        · rw [if_pos c89] at hG
          rw [xa_sw, if_pos c89]
          show Ev X _ 124 197 [.ref 29, .int x1, .int x2, .int v1, .retAddr 0] [] (hh S76) _
          rcases h90 : G_120 S76 x1 (x2 + 1) (0 : Int32) (15 : Int32) with _ | ⟨v90, S90⟩
          · rw [h90] at hG; cases hG
          rw [h90] at hG
          dsimp only at hG
          refine Ev.c (a := 120) (A := [.ref 29, .int x1, .int (x2 + 1), .int 0, .int 15]) (h1 := hh S76) (pc' := 208) (L' := [.ref 29, .int x1, .int x2, .int v1, .retAddr 0]) (rest := []) (r1 := none) (h2 := hh S90) 8 (fun n => B_124_61 n x1 x2 v1 S76) (Ev.up (by decide) (T_120 S76 x1 (x2 + 1) (0 : Int32) (15 : Int32) _ _ h90)) ?_
          show Ev X _ 124 208 [.ref 29, .int x1, .int x2, .int v1, .retAddr 0] [] (hh S90) _
          obtain ⟨e1, e2⟩ := Prod.mk.inj (Option.some.inj hG)
          subst e1
          subst e2
          exact Ev.r 4 (fun n => rfl)
        rw [if_neg c89] at hG
        rw [xa_sw, if_neg c89]
        by_cases c91 : v1 = 6
        · rw [if_pos c91] at hG
          rw [xa_sw, if_pos c91]
          show Ev X _ 124 212 [.ref 29, .int x1, .int x2, .int v1, .retAddr 0] [] (hh S76) _
          rcases h92 : G_120 S76 x1 (x2 + 1) (1 : Int32) (3 : Int32) with _ | ⟨v92, S92⟩
          · rw [h92] at hG; cases hG
          rw [h92] at hG
          dsimp only at hG
          refine Ev.c (a := 120) (A := [.ref 29, .int x1, .int (x2 + 1), .int 1, .int 3]) (h1 := hh S76) (pc' := 222) (L' := [.ref 29, .int x1, .int x2, .int v1, .retAddr 0]) (rest := []) (r1 := none) (h2 := hh S92) 8 (fun n => B_124_62 n x1 x2 v1 S76) (Ev.up (by decide) (T_120 S76 x1 (x2 + 1) (1 : Int32) (3 : Int32) _ _ h92)) ?_
          show Ev X _ 124 222 [.ref 29, .int x1, .int x2, .int v1, .retAddr 0] [] (hh S92) _
          obtain ⟨e1, e2⟩ := Prod.mk.inj (Option.some.inj hG)
          subst e1
          subst e2
          exact Ev.r 4 (fun n => rfl)
        rw [if_neg c91] at hG
        rw [xa_sw, if_neg c91]
        by_cases c93 : v1 = 7
        · rw [if_pos c93] at hG
          rw [xa_sw, if_pos c93]
          show Ev X _ 124 226 [.ref 29, .int x1, .int x2, .int v1, .retAddr 0] [] (hh S76) _
          rcases h94 : G_120 S76 x1 (x2 + 1) (0 : Int32) (255 : Int32) with _ | ⟨v94, S94⟩
          · rw [h94] at hG; cases hG
          rw [h94] at hG
          dsimp only at hG
          refine Ev.c (a := 120) (A := [.ref 29, .int x1, .int (x2 + 1), .int 0, .int 255]) (h1 := hh S76) (pc' := 238) (L' := [.ref 29, .int x1, .int x2, .int v1, .retAddr 0]) (rest := []) (r1 := none) (h2 := hh S94) 8 (fun n => B_124_63 n x1 x2 v1 S76) (Ev.up (by decide) (T_120 S76 x1 (x2 + 1) (0 : Int32) (255 : Int32) _ _ h94)) ?_
          show Ev X _ 124 238 [.ref 29, .int x1, .int x2, .int v1, .retAddr 0] [] (hh S94) _
          obtain ⟨e1, e2⟩ := Prod.mk.inj (Option.some.inj hG)
          subst e1
          subst e2
          exact Ev.r 4 (fun n => rfl)
        rw [if_neg c93] at hG
        rw [xa_sw, if_neg c93]
        by_cases c95 : v1 = 8
        · rw [if_pos c95] at hG
          rw [xa_sw, if_pos c95]
          show Ev X _ 124 242 [.ref 29, .int x1, .int x2, .int v1, .retAddr 0] [] (hh S76) _
          rcases h96 : G_125 S76 x1 (x2 + 1) with _ | ⟨v96, S96⟩
          · rw [h96] at hG; cases hG
          rw [h96] at hG
          dsimp only at hG
          refine Ev.c (a := 125) (A := [.ref 29, .int x1, .int (x2 + 1), .retAddr 0, .retAddr 0, .retAddr 0]) (h1 := hh S76) (pc' := 250) (L' := [.ref 29, .int x1, .int x2, .int v1, .retAddr 0]) (rest := []) (r1 := some (.int v96)) (h2 := hh S96) 6 (fun n => B_124_64 n x1 x2 v1 S76) (Ev.up (by decide) (T_125 S76 x1 (x2 + 1) _ _ h96)) ?_
          show Ev X _ 124 250 [.ref 29, .int x1, .int x2, .int v1, .retAddr 0] [.int v96] (hh S96) _
          rcases h97 : G_120 S96 x1 v96 (0 : Int32) (255 : Int32) with _ | ⟨v97, S97⟩
          · rw [h97] at hG; cases hG
          rw [h97] at hG
          dsimp only at hG
          refine Ev.c (a := 120) (A := [.ref 29, .int x1, .int v96, .int 0, .int 255]) (h1 := hh S96) (pc' := 263) (L' := [.ref 29, .int x1, .int x2, .int v1, .int v96]) (rest := []) (r1 := none) (h2 := hh S97) 7 (fun n => B_124_65 n x1 x2 v1 v96 S96) (Ev.up (by decide) (T_120 S96 x1 v96 (0 : Int32) (255 : Int32) _ _ h97)) ?_
          show Ev X _ 124 263 [.ref 29, .int x1, .int x2, .int v1, .int v96] [] (hh S97) _
          obtain ⟨e1, e2⟩ := Prod.mk.inj (Option.some.inj hG)
          subst e1
          subst e2
          exact Ev.r 4 (fun n => rfl)
        rw [if_neg c95] at hG
        rw [xa_sw, if_neg c95]
        by_cases c98 : v1 = 18
        · rw [if_pos c98] at hG
          rw [xa_sw, if_pos c98]
          show Ev X _ 124 140 [.ref 29, .int x1, .int x2, .int v1, .retAddr 0] [] (hh S76) _
          obtain ⟨e1, e2⟩ := Prod.mk.inj (Option.some.inj hG)
          subst e1
          subst e2
          exact Ev.r 4 (fun n => rfl)
        rw [if_neg c98] at hG
        rw [xa_sw, if_neg c98]
        rw [xa_sw]
        show Ev X _ 124 268 [.ref 29, .int x1, .int x2, .int v1, .retAddr 0] [] (hh S76) _
        rcases h99 : G_127 S76 x1 x2 v1 with _ | ⟨v99, S99⟩
        · rw [h99] at hG; cases hG
        rw [h99] at hG
        dsimp only at hG
        refine Ev.c (a := 127) (A := [.ref 29, .int x1, .int x2, .int v1]) (h1 := hh S76) (pc' := 275) (L' := [.ref 29, .int x1, .int x2, .int v1, .retAddr 0]) (rest := []) (r1 := some (.int v99)) (h2 := hh S99) 5 (fun n => B_124_66 n x1 x2 v1 S76) (Ev.up (by decide) (T_127 S76 x1 x2 v1 _ _ h99)) ?_
        show Ev X _ 124 275 [.ref 29, .int x1, .int x2, .int v1, .retAddr 0] [.int v99] (hh S99) _
        obtain ⟨e1, e2⟩ := Prod.mk.inj (Option.some.inj hG)
        subst e1
        subst e2
        exact Ev.r 1 (fun n => rfl)
/-- 123: SceneCycleModel.loadLogic(I)I -/
def GL_123_0 : Nat → St → Int32 → Int32 → Int32 → Option (Int32 × St)
  | 0, _, _, _, _ => none
  | n + 1, S, y1, y2, y3 =>
    (if 0 ≤ (S.1 29 7) then
      some (y2, S)
    else
      (if xa_in y1 4 then
        (if (S.1 34 (y1).toNatClampNeg) ≤ y3 then
          some (y2, S)
        else
          (match G_124 S y1 y3 with
          | none => none
          | some (v4, S4) =>
            (match G_128 S4 y1 y3 v4 with
            | none => none
            | some (v5, S5) =>
              (match G_118 S5 y1 y3 with
              | none => none
              | some (v6, S6) =>
                (if v6 = 7 then
                  (if v5 < 0 then
                    GL_123_0 n (xa_u S6.1 29 7 y3, S6.2.1, S6.2.2) y1 y2 v4
                  else
                    (if (S6.1 34 (y1).toNatClampNeg) < v5 then
                      GL_123_0 n (xa_u S6.1 29 7 y3, S6.2.1, S6.2.2) y1 y2 v4
                    else
                      (if xa_in v5 65 then
                        (if (S6.1 36 (v5).toNatClampNeg) = 0 then
                          GL_123_0 n (xa_u S6.1 29 7 y3, S6.2.1, S6.2.2) y1 y2 v4
                        else
                          GL_123_0 n S6 y1 y2 v4
                        )
                      else none)
                    )
                  )
                else
                  (match G_118 S6 y1 y3 with
                  | none => none
                  | some (v12, S12) =>
                    (if v12 = 8 then
                      (if v5 < 0 then
                        GL_123_0 n (xa_u S12.1 29 7 y3, S12.2.1, S12.2.2) y1 y2 v4
                      else
                        (if (S12.1 34 (y1).toNatClampNeg) < v5 then
                          GL_123_0 n (xa_u S12.1 29 7 y3, S12.2.1, S12.2.2) y1 y2 v4
                        else
                          (if xa_in v5 65 then
                            (if (S12.1 36 (v5).toNatClampNeg) = 0 then
                              GL_123_0 n (xa_u S12.1 29 7 y3, S12.2.1, S12.2.2) y1 y2 v4
                            else
                              GL_123_0 n S12 y1 y2 v4
                            )
                          else none)
                        )
                      )
                    else
                      GL_123_0 n S12 y1 y2 v4
                    )
                  )
                )
              )
            )
          )
        )
      else none)
    )
theorem B_123_1 {X : Nat × (Nat → Int32)} {d : Nat} (n : Nat) (y1 : Int32) (y2 : Int32) (y3 : Int32) (w4 : Value) (w5 : Value) (w6 : Value) (S : St) : ex X d 123 87 [.ref 29, .int y1, .int y2, .int y3, w4, w5, w6] [] (hh S) (n + 3) = if 0 ≤ (S.1 29 7) then ex X d 123 193 [.ref 29, .int y1, .int y2, .int y3, w4, w5, w6] [] (hh S) n else ex X d 123 94 [.ref 29, .int y1, .int y2, .int y3, w4, w5, w6] [] (hh S) n := rfl
theorem B_123_2 {X : Nat × (Nat → Int32)} {d : Nat} (n : Nat) (y1 : Int32) (y2 : Int32) (y3 : Int32) (w4 : Value) (w5 : Value) (w6 : Value) (S : St) : ex X d 123 87 [.ref 29, .int y1, .int y2, .int y3, w4, w5, w6] [] (hh S) (n + 3) = if 0 ≤ (S.1 29 7) then ex X d 123 193 [.ref 29, .int y1, .int y2, .int y3, w4, w5, w6] [] (hh S) n else ex X d 123 94 [.ref 29, .int y1, .int y2, .int y3, w4, w5, w6] [] (hh S) n := rfl
theorem B_123_3 {X : Nat × (Nat → Int32)} {d : Nat} (n : Nat) (y1 : Int32) (y2 : Int32) (y3 : Int32) (w4 : Value) (w5 : Value) (w6 : Value) (S : St) : ex X d 123 94 [.ref 29, .int y1, .int y2, .int y3, w4, w5, w6] [] (hh S) (n + 5) = if (kd 34).1 = 0 ∧ xa_in y1 (kd 34).2 then ex X d 123 101 [.ref 29, .int y1, .int y2, .int y3, w4, w5, w6] [.int (S.1 34 (y1).toNatClampNeg), .int y3] (hh S) n else none := rfl
theorem B_123_4 {X : Nat × (Nat → Int32)} {d : Nat} (n : Nat) (y1 : Int32) (y2 : Int32) (y3 : Int32) (w4 : Value) (w5 : Value) (w6 : Value) (S : St) : ex X d 123 101 [.ref 29, .int y1, .int y2, .int y3, w4, w5, w6] [.int (S.1 34 (y1).toNatClampNeg), .int y3] (hh S) (n + 1) = if (S.1 34 (y1).toNatClampNeg) ≤ y3 then ex X d 123 193 [.ref 29, .int y1, .int y2, .int y3, w4, w5, w6] [] (hh S) n else ex X d 123 104 [.ref 29, .int y1, .int y2, .int y3, w4, w5, w6] [] (hh S) n := rfl
theorem B_123_5 {X : Nat × (Nat → Int32)} {d : Nat} (n : Nat) (y1 : Int32) (y2 : Int32) (y3 : Int32) (w4 : Value) (w5 : Value) (w6 : Value) (S : St) : ex X d 123 101 [.ref 29, .int y1, .int y2, .int y3, w4, w5, w6] [.int (S.1 34 (y1).toNatClampNeg), .int y3] (hh S) (n + 1) = if (S.1 34 (y1).toNatClampNeg) ≤ y3 then ex X d 123 193 [.ref 29, .int y1, .int y2, .int y3, w4, w5, w6] [] (hh S) n else ex X d 123 104 [.ref 29, .int y1, .int y2, .int y3, w4, w5, w6] [] (hh S) n := rfl
theorem B_123_6 {X : Nat × (Nat → Int32)} {d : Nat} (n : Nat) (y1 : Int32) (y2 : Int32) (y3 : Int32) (w4 : Value) (w5 : Value) (w6 : Value) (S : St) : ex X (d + 1) 123 104 [.ref 29, .int y1, .int y2, .int y3, w4, w5, w6] [] (hh S) (n + 4) = (match ex X d 124 0 [.ref 29, .int y1, .int y3, .retAddr 0, .retAddr 0] [] (hh S) n with | some (v, h') => ex X (d + 1) 123 110 [.ref 29, .int y1, .int y2, .int y3, w4, w5, w6] (v.toList ++ []) h' n | none => none) := rfl
theorem B_123_7 {X : Nat × (Nat → Int32)} {d : Nat} (n : Nat) (y1 : Int32) (y2 : Int32) (y3 : Int32) (w4 : Value) (w5 : Value) (w6 : Value) (v4 : Int32) (S4 : St) : ex X (d + 1) 123 110 [.ref 29, .int y1, .int y2, .int y3, w4, w5, w6] [.int v4] (hh S4) (n + 6) = (match ex X d 128 0 [.ref 29, .int y1, .int y3, .int v4, .retAddr 0, .retAddr 0] [] (hh S4) n with | some (v, h') => ex X (d + 1) 123 120 [.ref 29, .int y1, .int y2, .int y3, .int v4, w5, w6] (v.toList ++ []) h' n | none => none) := rfl
theorem B_123_8 {X : Nat × (Nat → Int32)} {d : Nat} (n : Nat) (y1 : Int32) (y2 : Int32) (y3 : Int32) (v4 : Int32) (w5 : Value) (w6 : Value) (v5 : Int32) (S5 : St) : ex X (d + 1) 123 120 [.ref 29, .int y1, .int y2, .int y3, .int v4, w5, w6] [.int v5] (hh S5) (n + 5) = (match ex X d 118 0 [.ref 29, .int y1, .int y3] [] (hh S5) n with | some (v, h') => ex X (d + 1) 123 128 [.ref 29, .int y1, .int y2, .int y3, .int v4, .int v5, w6] (v.toList ++ []) h' n | none => none) := rfl
theorem B_123_9 {X : Nat × (Nat → Int32)} {d : Nat} (n : Nat) (y1 : Int32) (y2 : Int32) (y3 : Int32) (v4 : Int32) (v5 : Int32) (w6 : Value) (v6 : Int32) (S6 : St) : ex X d 123 128 [.ref 29, .int y1, .int y2, .int y3, .int v4, .int v5, w6] [.int v6] (hh S6) (n + 2) = if v6 = 7 then ex X d 123 144 [.ref 29, .int y1, .int y2, .int y3, .int v4, .int v5, w6] [] (hh S6) n else ex X d 123 133 [.ref 29, .int y1, .int y2, .int y3, .int v4, .int v5, w6] [] (hh S6) n := rfl
theorem B_123_10 {X : Nat × (Nat → Int32)} {d : Nat} (n : Nat) (y1 : Int32) (y2 : Int32) (y3 : Int32) (v4 : Int32) (v5 : Int32) (w6 : Value) (S6 : St) : ex X d 123 144 [.ref 29, .int y1, .int y2, .int y3, .int v4, .int v5, w6] [] (hh S6) (n + 5) = if (1 : Int32) = 0 then ex X d 123 187 [.ref 29, .int y1, .int y2, .int y3, .int v4, .int v5, .int 1] [] (hh S6) n else ex X d 123 156 [.ref 29, .int y1, .int y2, .int y3, .int v4, .int v5, .int 1] [] (hh S6) n := rfl
theorem B_123_11 {X : Nat × (Nat → Int32)} {d : Nat} (n : Nat) (y1 : Int32) (y2 : Int32) (y3 : Int32) (v4 : Int32) (v5 : Int32) (S6 : St) : ex X d 123 156 [.ref 29, .int y1, .int y2, .int y3, .int v4, .int v5, .int 1] [] (hh S6) (n + 2) = if v5 < 0 then ex X d 123 182 [.ref 29, .int y1, .int y2, .int y3, .int v4, .int v5, .int 1] [] (hh S6) n else ex X d 123 161 [.ref 29, .int y1, .int y2, .int y3, .int v4, .int v5, .int 1] [] (hh S6) n := rfl
theorem B_123_12 {X : Nat × (Nat → Int32)} {d : Nat} (n : Nat) (y1 : Int32) (y2 : Int32) (y3 : Int32) (v4 : Int32) (v5 : Int32) (S6 : St) : ex X d 123 182 [.ref 29, .int y1, .int y2, .int y3, .int v4, .int v5, .int 1] [] (hh S6) (n + 3) = if (kd 29).1 = 10 + 8 ∧ (xf_k 8 7 = 0 ∨ (xf_k 8 7 = 1 ∧ (y3 = 0 ∨ y3 = 1))) then ex X d 123 187 [.ref 29, .int y1, .int y2, .int y3, .int v4, .int v5, .int 1] [] (hh (xa_u S6.1 29 7 y3, S6.2.1, S6.2.2)) n else none := rfl
theorem B_123_13 {X : Nat × (Nat → Int32)} {d : Nat} (n : Nat) (y1 : Int32) (y2 : Int32) (y3 : Int32) (v4 : Int32) (v5 : Int32) (S6 : St) : ex X d 123 187 [.ref 29, .int y1, .int y2, .int y3, .int v4, .int v5, .int 1] [] (hh (xa_u S6.1 29 7 y3, S6.2.1, S6.2.2)) (n + 3) = ex X d 123 87 [.ref 29, .int y1, .int y2, .int v4, .int v4, .int v5, .int 1] [] (hh (xa_u S6.1 29 7 y3, S6.2.1, S6.2.2)) n := rfl
theorem B_123_14 {X : Nat × (Nat → Int32)} {d : Nat} (n : Nat) (y1 : Int32) (y2 : Int32) (y3 : Int32) (v4 : Int32) (v5 : Int32) (S6 : St) : ex X d 123 156 [.ref 29, .int y1, .int y2, .int y3, .int v4, .int v5, .int 1] [] (hh S6) (n + 2) = if v5 < 0 then ex X d 123 182 [.ref 29, .int y1, .int y2, .int y3, .int v4, .int v5, .int 1] [] (hh S6) n else ex X d 123 161 [.ref 29, .int y1, .int y2, .int y3, .int v4, .int v5, .int 1] [] (hh S6) n := rfl
theorem B_123_15 {X : Nat × (Nat → Int32)} {d : Nat} (n : Nat) (y1 : Int32) (y2 : Int32) (y3 : Int32) (v4 : Int32) (v5 : Int32) (S6 : St) : ex X d 123 161 [.ref 29, .int y1, .int y2, .int y3, .int v4, .int v5, .int 1] [] (hh S6) (n + 5) = if (kd 34).1 = 0 ∧ xa_in y1 (kd 34).2 then ex X d 123 169 [.ref 29, .int y1, .int y2, .int y3, .int v4, .int v5, .int 1] [.int (S6.1 34 (y1).toNatClampNeg), .int v5] (hh S6) n else none := rfl
theorem B_123_16 {X : Nat × (Nat → Int32)} {d : Nat} (n : Nat) (y1 : Int32) (y2 : Int32) (y3 : Int32) (v4 : Int32) (v5 : Int32) (S6 : St) : ex X d 123 169 [.ref 29, .int y1, .int y2, .int y3, .int v4, .int v5, .int 1] [.int (S6.1 34 (y1).toNatClampNeg), .int v5] (hh S6) (n + 1) = if (S6.1 34 (y1).toNatClampNeg) < v5 then ex X d 123 182 [.ref 29, .int y1, .int y2, .int y3, .int v4, .int v5, .int 1] [] (hh S6) n else ex X d 123 172 [.ref 29, .int y1, .int y2, .int y3, .int v4, .int v5, .int 1] [] (hh S6) n := rfl
theorem B_123_17 {X : Nat × (Nat → Int32)} {d : Nat} (n : Nat) (y1 : Int32) (y2 : Int32) (y3 : Int32) (v4 : Int32) (v5 : Int32) (S6 : St) : ex X d 123 182 [.ref 29, .int y1, .int y2, .int y3, .int v4, .int v5, .int 1] [] (hh S6) (n + 3) = if (kd 29).1 = 10 + 8 ∧ (xf_k 8 7 = 0 ∨ (xf_k 8 7 = 1 ∧ (y3 = 0 ∨ y3 = 1))) then ex X d 123 187 [.ref 29, .int y1, .int y2, .int y3, .int v4, .int v5, .int 1] [] (hh (xa_u S6.1 29 7 y3, S6.2.1, S6.2.2)) n else none := rfl
theorem B_123_18 {X : Nat × (Nat → Int32)} {d : Nat} (n : Nat) (y1 : Int32) (y2 : Int32) (y3 : Int32) (v4 : Int32) (v5 : Int32) (S6 : St) : ex X d 123 187 [.ref 29, .int y1, .int y2, .int y3, .int v4, .int v5, .int 1] [] (hh (xa_u S6.1 29 7 y3, S6.2.1, S6.2.2)) (n + 3) = ex X d 123 87 [.ref 29, .int y1, .int y2, .int v4, .int v4, .int v5, .int 1] [] (hh (xa_u S6.1 29 7 y3, S6.2.1, S6.2.2)) n := rfl
theorem B_123_19 {X : Nat × (Nat → Int32)} {d : Nat} (n : Nat) (y1 : Int32) (y2 : Int32) (y3 : Int32) (v4 : Int32) (v5 : Int32) (S6 : St) : ex X d 123 169 [.ref 29, .int y1, .int y2, .int y3, .int v4, .int v5, .int 1] [.int (S6.1 34 (y1).toNatClampNeg), .int v5] (hh S6) (n + 1) = if (S6.1 34 (y1).toNatClampNeg) < v5 then ex X d 123 182 [.ref 29, .int y1, .int y2, .int y3, .int v4, .int v5, .int 1] [] (hh S6) n else ex X d 123 172 [.ref 29, .int y1, .int y2, .int y3, .int v4, .int v5, .int 1] [] (hh S6) n := rfl
theorem B_123_20 {X : Nat × (Nat → Int32)} {d : Nat} (n : Nat) (y1 : Int32) (y2 : Int32) (y3 : Int32) (v4 : Int32) (v5 : Int32) (S6 : St) : ex X d 123 172 [.ref 29, .int y1, .int y2, .int y3, .int v4, .int v5, .int 1] [] (hh S6) (n + 4) = if (kd 36).1 = 1 ∧ xa_in v5 (kd 36).2 then ex X d 123 179 [.ref 29, .int y1, .int y2, .int y3, .int v4, .int v5, .int 1] [.int (S6.1 36 (v5).toNatClampNeg)] (hh S6) n else none := rfl
theorem B_123_21 {X : Nat × (Nat → Int32)} {d : Nat} (n : Nat) (y1 : Int32) (y2 : Int32) (y3 : Int32) (v4 : Int32) (v5 : Int32) (S6 : St) : ex X d 123 179 [.ref 29, .int y1, .int y2, .int y3, .int v4, .int v5, .int 1] [.int (S6.1 36 (v5).toNatClampNeg)] (hh S6) (n + 1) = if (S6.1 36 (v5).toNatClampNeg) = 0 then ex X d 123 182 [.ref 29, .int y1, .int y2, .int y3, .int v4, .int v5, .int 1] [] (hh S6) n else ex X d 123 187 [.ref 29, .int y1, .int y2, .int y3, .int v4, .int v5, .int 1] [] (hh S6) n := rfl
theorem B_123_22 {X : Nat × (Nat → Int32)} {d : Nat} (n : Nat) (y1 : Int32) (y2 : Int32) (y3 : Int32) (v4 : Int32) (v5 : Int32) (S6 : St) : ex X d 123 182 [.ref 29, .int y1, .int y2, .int y3, .int v4, .int v5, .int 1] [] (hh S6) (n + 3) = if (kd 29).1 = 10 + 8 ∧ (xf_k 8 7 = 0 ∨ (xf_k 8 7 = 1 ∧ (y3 = 0 ∨ y3 = 1))) then ex X d 123 187 [.ref 29, .int y1, .int y2, .int y3, .int v4, .int v5, .int 1] [] (hh (xa_u S6.1 29 7 y3, S6.2.1, S6.2.2)) n else none := rfl
theorem B_123_23 {X : Nat × (Nat → Int32)} {d : Nat} (n : Nat) (y1 : Int32) (y2 : Int32) (y3 : Int32) (v4 : Int32) (v5 : Int32) (S6 : St) : ex X d 123 187 [.ref 29, .int y1, .int y2, .int y3, .int v4, .int v5, .int 1] [] (hh (xa_u S6.1 29 7 y3, S6.2.1, S6.2.2)) (n + 3) = ex X d 123 87 [.ref 29, .int y1, .int y2, .int v4, .int v4, .int v5, .int 1] [] (hh (xa_u S6.1 29 7 y3, S6.2.1, S6.2.2)) n := rfl
theorem B_123_24 {X : Nat × (Nat → Int32)} {d : Nat} (n : Nat) (y1 : Int32) (y2 : Int32) (y3 : Int32) (v4 : Int32) (v5 : Int32) (S6 : St) : ex X d 123 179 [.ref 29, .int y1, .int y2, .int y3, .int v4, .int v5, .int 1] [.int (S6.1 36 (v5).toNatClampNeg)] (hh S6) (n + 1) = if (S6.1 36 (v5).toNatClampNeg) = 0 then ex X d 123 182 [.ref 29, .int y1, .int y2, .int y3, .int v4, .int v5, .int 1] [] (hh S6) n else ex X d 123 187 [.ref 29, .int y1, .int y2, .int y3, .int v4, .int v5, .int 1] [] (hh S6) n := rfl
theorem B_123_25 {X : Nat × (Nat → Int32)} {d : Nat} (n : Nat) (y1 : Int32) (y2 : Int32) (y3 : Int32) (v4 : Int32) (v5 : Int32) (S6 : St) : ex X d 123 187 [.ref 29, .int y1, .int y2, .int y3, .int v4, .int v5, .int 1] [] (hh S6) (n + 3) = ex X d 123 87 [.ref 29, .int y1, .int y2, .int v4, .int v4, .int v5, .int 1] [] (hh S6) n := rfl
theorem B_123_26 {X : Nat × (Nat → Int32)} {d : Nat} (n : Nat) (y1 : Int32) (y2 : Int32) (y3 : Int32) (v4 : Int32) (v5 : Int32) (w6 : Value) (v6 : Int32) (S6 : St) : ex X d 123 128 [.ref 29, .int y1, .int y2, .int y3, .int v4, .int v5, w6] [.int v6] (hh S6) (n + 2) = if v6 = 7 then ex X d 123 144 [.ref 29, .int y1, .int y2, .int y3, .int v4, .int v5, w6] [] (hh S6) n else ex X d 123 133 [.ref 29, .int y1, .int y2, .int y3, .int v4, .int v5, w6] [] (hh S6) n := rfl
theorem B_123_27 {X : Nat × (Nat → Int32)} {d : Nat} (n : Nat) (y1 : Int32) (y2 : Int32) (y3 : Int32) (v4 : Int32) (v5 : Int32) (w6 : Value) (S6 : St) : ex X (d + 1) 123 133 [.ref 29, .int y1, .int y2, .int y3, .int v4, .int v5, w6] [] (hh S6) (n + 4) = (match ex X d 118 0 [.ref 29, .int y1, .int y3] [] (hh S6) n with | some (v, h') => ex X (d + 1) 123 139 [.ref 29, .int y1, .int y2, .int y3, .int v4, .int v5, w6] (v.toList ++ []) h' n | none => none) := rfl
theorem B_123_28 {X : Nat × (Nat → Int32)} {d : Nat} (n : Nat) (y1 : Int32) (y2 : Int32) (y3 : Int32) (v4 : Int32) (v5 : Int32) (w6 : Value) (v12 : Int32) (S12 : St) : ex X d 123 139 [.ref 29, .int y1, .int y2, .int y3, .int v4, .int v5, w6] [.int v12] (hh S12) (n + 2) = if v12 = 8 then ex X d 123 144 [.ref 29, .int y1, .int y2, .int y3, .int v4, .int v5, w6] [] (hh S12) n else ex X d 123 148 [.ref 29, .int y1, .int y2, .int y3, .int v4, .int v5, w6] [] (hh S12) n := rfl
theorem B_123_29 {X : Nat × (Nat → Int32)} {d : Nat} (n : Nat) (y1 : Int32) (y2 : Int32) (y3 : Int32) (v4 : Int32) (v5 : Int32) (w6 : Value) (S12 : St) : ex X d 123 144 [.ref 29, .int y1, .int y2, .int y3, .int v4, .int v5, w6] [] (hh S12) (n + 5) = if (1 : Int32) = 0 then ex X d 123 187 [.ref 29, .int y1, .int y2, .int y3, .int v4, .int v5, .int 1] [] (hh S12) n else ex X d 123 156 [.ref 29, .int y1, .int y2, .int y3, .int v4, .int v5, .int 1] [] (hh S12) n := rfl
theorem B_123_30 {X : Nat × (Nat → Int32)} {d : Nat} (n : Nat) (y1 : Int32) (y2 : Int32) (y3 : Int32) (v4 : Int32) (v5 : Int32) (S12 : St) : ex X d 123 156 [.ref 29, .int y1, .int y2, .int y3, .int v4, .int v5, .int 1] [] (hh S12) (n + 2) = if v5 < 0 then ex X d 123 182 [.ref 29, .int y1, .int y2, .int y3, .int v4, .int v5, .int 1] [] (hh S12) n else ex X d 123 161 [.ref 29, .int y1, .int y2, .int y3, .int v4, .int v5, .int 1] [] (hh S12) n := rfl
theorem B_123_31 {X : Nat × (Nat → Int32)} {d : Nat} (n : Nat) (y1 : Int32) (y2 : Int32) (y3 : Int32) (v4 : Int32) (v5 : Int32) (S12 : St) : ex X d 123 182 [.ref 29, .int y1, .int y2, .int y3, .int v4, .int v5, .int 1] [] (hh S12) (n + 3) = if (kd 29).1 = 10 + 8 ∧ (xf_k 8 7 = 0 ∨ (xf_k 8 7 = 1 ∧ (y3 = 0 ∨ y3 = 1))) then ex X d 123 187 [.ref 29, .int y1, .int y2, .int y3, .int v4, .int v5, .int 1] [] (hh (xa_u S12.1 29 7 y3, S12.2.1, S12.2.2)) n else none := rfl
theorem B_123_32 {X : Nat × (Nat → Int32)} {d : Nat} (n : Nat) (y1 : Int32) (y2 : Int32) (y3 : Int32) (v4 : Int32) (v5 : Int32) (S12 : St) : ex X d 123 187 [.ref 29, .int y1, .int y2, .int y3, .int v4, .int v5, .int 1] [] (hh (xa_u S12.1 29 7 y3, S12.2.1, S12.2.2)) (n + 3) = ex X d 123 87 [.ref 29, .int y1, .int y2, .int v4, .int v4, .int v5, .int 1] [] (hh (xa_u S12.1 29 7 y3, S12.2.1, S12.2.2)) n := rfl
theorem B_123_33 {X : Nat × (Nat → Int32)} {d : Nat} (n : Nat) (y1 : Int32) (y2 : Int32) (y3 : Int32) (v4 : Int32) (v5 : Int32) (S12 : St) : ex X d 123 156 [.ref 29, .int y1, .int y2, .int y3, .int v4, .int v5, .int 1] [] (hh S12) (n + 2) = if v5 < 0 then ex X d 123 182 [.ref 29, .int y1, .int y2, .int y3, .int v4, .int v5, .int 1] [] (hh S12) n else ex X d 123 161 [.ref 29, .int y1, .int y2, .int y3, .int v4, .int v5, .int 1] [] (hh S12) n := rfl
theorem B_123_34 {X : Nat × (Nat → Int32)} {d : Nat} (n : Nat) (y1 : Int32) (y2 : Int32) (y3 : Int32) (v4 : Int32) (v5 : Int32) (S12 : St) : ex X d 123 161 [.ref 29, .int y1, .int y2, .int y3, .int v4, .int v5, .int 1] [] (hh S12) (n + 5) = if (kd 34).1 = 0 ∧ xa_in y1 (kd 34).2 then ex X d 123 169 [.ref 29, .int y1, .int y2, .int y3, .int v4, .int v5, .int 1] [.int (S12.1 34 (y1).toNatClampNeg), .int v5] (hh S12) n else none := rfl
theorem B_123_35 {X : Nat × (Nat → Int32)} {d : Nat} (n : Nat) (y1 : Int32) (y2 : Int32) (y3 : Int32) (v4 : Int32) (v5 : Int32) (S12 : St) : ex X d 123 169 [.ref 29, .int y1, .int y2, .int y3, .int v4, .int v5, .int 1] [.int (S12.1 34 (y1).toNatClampNeg), .int v5] (hh S12) (n + 1) = if (S12.1 34 (y1).toNatClampNeg) < v5 then ex X d 123 182 [.ref 29, .int y1, .int y2, .int y3, .int v4, .int v5, .int 1] [] (hh S12) n else ex X d 123 172 [.ref 29, .int y1, .int y2, .int y3, .int v4, .int v5, .int 1] [] (hh S12) n := rfl
theorem B_123_36 {X : Nat × (Nat → Int32)} {d : Nat} (n : Nat) (y1 : Int32) (y2 : Int32) (y3 : Int32) (v4 : Int32) (v5 : Int32) (S12 : St) : ex X d 123 182 [.ref 29, .int y1, .int y2, .int y3, .int v4, .int v5, .int 1] [] (hh S12) (n + 3) = if (kd 29).1 = 10 + 8 ∧ (xf_k 8 7 = 0 ∨ (xf_k 8 7 = 1 ∧ (y3 = 0 ∨ y3 = 1))) then ex X d 123 187 [.ref 29, .int y1, .int y2, .int y3, .int v4, .int v5, .int 1] [] (hh (xa_u S12.1 29 7 y3, S12.2.1, S12.2.2)) n else none := rfl
theorem B_123_37 {X : Nat × (Nat → Int32)} {d : Nat} (n : Nat) (y1 : Int32) (y2 : Int32) (y3 : Int32) (v4 : Int32) (v5 : Int32) (S12 : St) : ex X d 123 187 [.ref 29, .int y1, .int y2, .int y3, .int v4, .int v5, .int 1] [] (hh (xa_u S12.1 29 7 y3, S12.2.1, S12.2.2)) (n + 3) = ex X d 123 87 [.ref 29, .int y1, .int y2, .int v4, .int v4, .int v5, .int 1] [] (hh (xa_u S12.1 29 7 y3, S12.2.1, S12.2.2)) n := rfl
theorem B_123_38 {X : Nat × (Nat → Int32)} {d : Nat} (n : Nat) (y1 : Int32) (y2 : Int32) (y3 : Int32) (v4 : Int32) (v5 : Int32) (S12 : St) : ex X d 123 169 [.ref 29, .int y1, .int y2, .int y3, .int v4, .int v5, .int 1] [.int (S12.1 34 (y1).toNatClampNeg), .int v5] (hh S12) (n + 1) = if (S12.1 34 (y1).toNatClampNeg) < v5 then ex X d 123 182 [.ref 29, .int y1, .int y2, .int y3, .int v4, .int v5, .int 1] [] (hh S12) n else ex X d 123 172 [.ref 29, .int y1, .int y2, .int y3, .int v4, .int v5, .int 1] [] (hh S12) n := rfl
theorem B_123_39 {X : Nat × (Nat → Int32)} {d : Nat} (n : Nat) (y1 : Int32) (y2 : Int32) (y3 : Int32) (v4 : Int32) (v5 : Int32) (S12 : St) : ex X d 123 172 [.ref 29, .int y1, .int y2, .int y3, .int v4, .int v5, .int 1] [] (hh S12) (n + 4) = if (kd 36).1 = 1 ∧ xa_in v5 (kd 36).2 then ex X d 123 179 [.ref 29, .int y1, .int y2, .int y3, .int v4, .int v5, .int 1] [.int (S12.1 36 (v5).toNatClampNeg)] (hh S12) n else none := rfl
theorem B_123_40 {X : Nat × (Nat → Int32)} {d : Nat} (n : Nat) (y1 : Int32) (y2 : Int32) (y3 : Int32) (v4 : Int32) (v5 : Int32) (S12 : St) : ex X d 123 179 [.ref 29, .int y1, .int y2, .int y3, .int v4, .int v5, .int 1] [.int (S12.1 36 (v5).toNatClampNeg)] (hh S12) (n + 1) = if (S12.1 36 (v5).toNatClampNeg) = 0 then ex X d 123 182 [.ref 29, .int y1, .int y2, .int y3, .int v4, .int v5, .int 1] [] (hh S12) n else ex X d 123 187 [.ref 29, .int y1, .int y2, .int y3, .int v4, .int v5, .int 1] [] (hh S12) n := rfl
theorem B_123_41 {X : Nat × (Nat → Int32)} {d : Nat} (n : Nat) (y1 : Int32) (y2 : Int32) (y3 : Int32) (v4 : Int32) (v5 : Int32) (S12 : St) : ex X d 123 182 [.ref 29, .int y1, .int y2, .int y3, .int v4, .int v5, .int 1] [] (hh S12) (n + 3) = if (kd 29).1 = 10 + 8 ∧ (xf_k 8 7 = 0 ∨ (xf_k 8 7 = 1 ∧ (y3 = 0 ∨ y3 = 1))) then ex X d 123 187 [.ref 29, .int y1, .int y2, .int y3, .int v4, .int v5, .int 1] [] (hh (xa_u S12.1 29 7 y3, S12.2.1, S12.2.2)) n else none := rfl
theorem B_123_42 {X : Nat × (Nat → Int32)} {d : Nat} (n : Nat) (y1 : Int32) (y2 : Int32) (y3 : Int32) (v4 : Int32) (v5 : Int32) (S12 : St) : ex X d 123 187 [.ref 29, .int y1, .int y2, .int y3, .int v4, .int v5, .int 1] [] (hh (xa_u S12.1 29 7 y3, S12.2.1, S12.2.2)) (n + 3) = ex X d 123 87 [.ref 29, .int y1, .int y2, .int v4, .int v4, .int v5, .int 1] [] (hh (xa_u S12.1 29 7 y3, S12.2.1, S12.2.2)) n := rfl
theorem B_123_43 {X : Nat × (Nat → Int32)} {d : Nat} (n : Nat) (y1 : Int32) (y2 : Int32) (y3 : Int32) (v4 : Int32) (v5 : Int32) (S12 : St) : ex X d 123 179 [.ref 29, .int y1, .int y2, .int y3, .int v4, .int v5, .int 1] [.int (S12.1 36 (v5).toNatClampNeg)] (hh S12) (n + 1) = if (S12.1 36 (v5).toNatClampNeg) = 0 then ex X d 123 182 [.ref 29, .int y1, .int y2, .int y3, .int v4, .int v5, .int 1] [] (hh S12) n else ex X d 123 187 [.ref 29, .int y1, .int y2, .int y3, .int v4, .int v5, .int 1] [] (hh S12) n := rfl
theorem B_123_44 {X : Nat × (Nat → Int32)} {d : Nat} (n : Nat) (y1 : Int32) (y2 : Int32) (y3 : Int32) (v4 : Int32) (v5 : Int32) (S12 : St) : ex X d 123 187 [.ref 29, .int y1, .int y2, .int y3, .int v4, .int v5, .int 1] [] (hh S12) (n + 3) = ex X d 123 87 [.ref 29, .int y1, .int y2, .int v4, .int v4, .int v5, .int 1] [] (hh S12) n := rfl
theorem B_123_45 {X : Nat × (Nat → Int32)} {d : Nat} (n : Nat) (y1 : Int32) (y2 : Int32) (y3 : Int32) (v4 : Int32) (v5 : Int32) (w6 : Value) (v12 : Int32) (S12 : St) : ex X d 123 139 [.ref 29, .int y1, .int y2, .int y3, .int v4, .int v5, w6] [.int v12] (hh S12) (n + 2) = if v12 = 8 then ex X d 123 144 [.ref 29, .int y1, .int y2, .int y3, .int v4, .int v5, w6] [] (hh S12) n else ex X d 123 148 [.ref 29, .int y1, .int y2, .int y3, .int v4, .int v5, w6] [] (hh S12) n := rfl
theorem B_123_46 {X : Nat × (Nat → Int32)} {d : Nat} (n : Nat) (y1 : Int32) (y2 : Int32) (y3 : Int32) (v4 : Int32) (v5 : Int32) (w6 : Value) (S12 : St) : ex X d 123 148 [.ref 29, .int y1, .int y2, .int y3, .int v4, .int v5, w6] [] (hh S12) (n + 4) = if (0 : Int32) = 0 then ex X d 123 187 [.ref 29, .int y1, .int y2, .int y3, .int v4, .int v5, .int 0] [] (hh S12) n else ex X d 123 156 [.ref 29, .int y1, .int y2, .int y3, .int v4, .int v5, .int 0] [] (hh S12) n := rfl
theorem B_123_47 {X : Nat × (Nat → Int32)} {d : Nat} (n : Nat) (y1 : Int32) (y2 : Int32) (y3 : Int32) (v4 : Int32) (v5 : Int32) (S12 : St) : ex X d 123 187 [.ref 29, .int y1, .int y2, .int y3, .int v4, .int v5, .int 0] [] (hh S12) (n + 3) = ex X d 123 87 [.ref 29, .int y1, .int y2, .int v4, .int v4, .int v5, .int 0] [] (hh S12) n := rfl
set_option maxRecDepth 200000 in
theorem TL_123_0 {X : Nat × (Nat → Int32)} : ∀ (n : Nat) (S : St) (y1 : Int32) (y2 : Int32) (y3 : Int32) (r : Int32) (S' : St), GL_123_0 n S y1 y2 y3 = some (r, S') → ∀ (w4 w5 w6 : Value), Ev X 6 123 87 [.ref 29, .int y1, .int y2, .int y3, w4, w5, w6] [] (hh S) (xI r, hh S') := by
  intro n
  induction n with
  | zero => intro S y1 y2 y3 r S' hG; simp [GL_123_0] at hG
  | succ n ih =>
    intro S y1 y2 y3 r S' hG w4 w5 w6
    rw [GL_123_0] at hG
    by_cases c1 : 0 ≤ (S.1 29 7)
    · rw [if_pos c1] at hG
      refine Ev.t (c := 0 ≤ (S.1 29 7)) (p1 := 193) (L1 := [.ref 29, .int y1, .int y2, .int y3, w4, w5, w6]) (s1 := []) (h1 := hh S) (p2 := 94) (L2 := [.ref 29, .int y1, .int y2, .int y3, w4, w5, w6]) (s2 := []) (h2 := hh S) 3 (fun n => B_123_1 n y1 y2 y3 w4 w5 w6 S) c1 ?_
      obtain ⟨e1, e2⟩ := Prod.mk.inj (Option.some.inj hG)
      subst e1
      subst e2
      exact Ev.r 2 (fun n => rfl)
    · rw [if_neg c1] at hG
      refine Ev.f (c := 0 ≤ (S.1 29 7)) (p1 := 193) (L1 := [.ref 29, .int y1, .int y2, .int y3, w4, w5, w6]) (s1 := []) (h1 := hh S) (p2 := 94) (L2 := [.ref 29, .int y1, .int y2, .int y3, w4, w5, w6]) (s2 := []) (h2 := hh S) 3 (fun n => B_123_2 n y1 y2 y3 w4 w5 w6 S) c1 ?_
      by_cases g2 : xa_in y1 4
      rotate_left
      · rw [if_neg g2] at hG; cases hG
      rw [if_pos g2] at hG
      refine Ev.g (c := (kd 34).1 = 0 ∧ xa_in y1 (kd 34).2) (p1 := 101) (L1 := [.ref 29, .int y1, .int y2, .int y3, w4, w5, w6]) (s1 := [.int (S.1 34 (y1).toNatClampNeg), .int y3]) (h1 := hh S) 5 (fun n => B_123_3 n y1 y2 y3 w4 w5 w6 S) (⟨rfl, g2⟩) ?_
      by_cases c3 : (S.1 34 (y1).toNatClampNeg) ≤ y3
      · rw [if_pos c3] at hG
        refine Ev.t (c := (S.1 34 (y1).toNatClampNeg) ≤ y3) (p1 := 193) (L1 := [.ref 29, .int y1, .int y2, .int y3, w4, w5, w6]) (s1 := []) (h1 := hh S) (p2 := 104) (L2 := [.ref 29, .int y1, .int y2, .int y3, w4, w5, w6]) (s2 := []) (h2 := hh S) 1 (fun n => B_123_4 n y1 y2 y3 w4 w5 w6 S) c3 ?_
        obtain ⟨e1, e2⟩ := Prod.mk.inj (Option.some.inj hG)
        subst e1
        subst e2
        exact Ev.r 2 (fun n => rfl)
      · rw [if_neg c3] at hG
        refine Ev.f (c := (S.1 34 (y1).toNatClampNeg) ≤ y3) (p1 := 193) (L1 := [.ref 29, .int y1, .int y2, .int y3, w4, w5, w6]) (s1 := []) (h1 := hh S) (p2 := 104) (L2 := [.ref 29, .int y1, .int y2, .int y3, w4, w5, w6]) (s2 := []) (h2 := hh S) 1 (fun n => B_123_5 n y1 y2 y3 w4 w5 w6 S) c3 ?_
        rcases h4 : G_124 S y1 y3 with _ | ⟨v4, S4⟩
        · rw [h4] at hG; cases hG
        rw [h4] at hG
        dsimp only at hG
        refine Ev.c (a := 124) (A := [.ref 29, .int y1, .int y3, .retAddr 0, .retAddr 0]) (h1 := hh S) (pc' := 110) (L' := [.ref 29, .int y1, .int y2, .int y3, w4, w5, w6]) (rest := []) (r1 := some (.int v4)) (h2 := hh S4) 4 (fun n => B_123_6 n y1 y2 y3 w4 w5 w6 S) (Ev.up (by decide) (T_124 S y1 y3 _ _ h4)) ?_
        show Ev X _ 123 110 [.ref 29, .int y1, .int y2, .int y3, w4, w5, w6] [.int v4] (hh S4) _
        rcases h5 : G_128 S4 y1 y3 v4 with _ | ⟨v5, S5⟩
        · rw [h5] at hG; cases hG
        rw [h5] at hG
        dsimp only at hG
        refine Ev.c (a := 128) (A := [.ref 29, .int y1, .int y3, .int v4, .retAddr 0, .retAddr 0]) (h1 := hh S4) (pc' := 120) (L' := [.ref 29, .int y1, .int y2, .int y3, .int v4, w5, w6]) (rest := []) (r1 := some (.int v5)) (h2 := hh S5) 6 (fun n => B_123_7 n y1 y2 y3 w4 w5 w6 v4 S4) (Ev.up (by decide) (T_128 S4 y1 y3 v4 _ _ h5)) ?_
        show Ev X _ 123 120 [.ref 29, .int y1, .int y2, .int y3, .int v4, w5, w6] [.int v5] (hh S5) _
        rcases h6 : G_118 S5 y1 y3 with _ | ⟨v6, S6⟩
        · rw [h6] at hG; cases hG
        rw [h6] at hG
        dsimp only at hG
        refine Ev.c (a := 118) (A := [.ref 29, .int y1, .int y3]) (h1 := hh S5) (pc' := 128) (L' := [.ref 29, .int y1, .int y2, .int y3, .int v4, .int v5, w6]) (rest := []) (r1 := some (.int v6)) (h2 := hh S6) 5 (fun n => B_123_8 n y1 y2 y3 v4 w5 w6 v5 S5) (Ev.up (by decide) (T_118 S5 y1 y3 _ _ h6)) ?_
        show Ev X _ 123 128 [.ref 29, .int y1, .int y2, .int y3, .int v4, .int v5, w6] [.int v6] (hh S6) _
        by_cases c7 : v6 = 7
        · rw [if_pos c7] at hG
          refine Ev.t (c := v6 = 7) (p1 := 144) (L1 := [.ref 29, .int y1, .int y2, .int y3, .int v4, .int v5, w6]) (s1 := []) (h1 := hh S6) (p2 := 133) (L2 := [.ref 29, .int y1, .int y2, .int y3, .int v4, .int v5, w6]) (s2 := []) (h2 := hh S6) 2 (fun n => B_123_9 n y1 y2 y3 v4 v5 w6 v6 S6) c7 ?_
          refine Ev.f (c := (1 : Int32) = 0) (p1 := 187) (L1 := [.ref 29, .int y1, .int y2, .int y3, .int v4, .int v5, .int 1]) (s1 := []) (h1 := hh S6) (p2 := 156) (L2 := [.ref 29, .int y1, .int y2, .int y3, .int v4, .int v5, .int 1]) (s2 := []) (h2 := hh S6) 5 (fun n => B_123_10 n y1 y2 y3 v4 v5 w6 S6) (by decide) ?_
          by_cases c8 : v5 < 0
          · rw [if_pos c8] at hG
            refine Ev.t (c := v5 < 0) (p1 := 182) (L1 := [.ref 29, .int y1, .int y2, .int y3, .int v4, .int v5, .int 1]) (s1 := []) (h1 := hh S6) (p2 := 161) (L2 := [.ref 29, .int y1, .int y2, .int y3, .int v4, .int v5, .int 1]) (s2 := []) (h2 := hh S6) 2 (fun n => B_123_11 n y1 y2 y3 v4 v5 S6) c8 ?_
            refine Ev.g (c := (kd 29).1 = 10 + 8 ∧ (xf_k 8 7 = 0 ∨ (xf_k 8 7 = 1 ∧ (y3 = 0 ∨ y3 = 1)))) (p1 := 187) (L1 := [.ref 29, .int y1, .int y2, .int y3, .int v4, .int v5, .int 1]) (s1 := []) (h1 := hh (xa_u S6.1 29 7 y3, S6.2.1, S6.2.2)) 3 (fun n => B_123_12 n y1 y2 y3 v4 v5 S6) (⟨rfl, Or.inl rfl⟩) ?_
            exact Ev.b (pc' := 87) (L' := [.ref 29, .int y1, .int y2, .int v4, .int v4, .int v5, .int 1]) (st' := []) (h' := hh (xa_u S6.1 29 7 y3, S6.2.1, S6.2.2)) 3 (fun n => B_123_13 n y1 y2 y3 v4 v5 S6) (ih (xa_u S6.1 29 7 y3, S6.2.1, S6.2.2) y1 y2 v4 _ _ hG (.int v4) (.int v5) (.int 1))
          · rw [if_neg c8] at hG
            refine Ev.f (c := v5 < 0) (p1 := 182) (L1 := [.ref 29, .int y1, .int y2, .int y3, .int v4, .int v5, .int 1]) (s1 := []) (h1 := hh S6) (p2 := 161) (L2 := [.ref 29, .int y1, .int y2, .int y3, .int v4, .int v5, .int 1]) (s2 := []) (h2 := hh S6) 2 (fun n => B_123_14 n y1 y2 y3 v4 v5 S6) c8 ?_
            refine Ev.g (c := (kd 34).1 = 0 ∧ xa_in y1 (kd 34).2) (p1 := 169) (L1 := [.ref 29, .int y1, .int y2, .int y3, .int v4, .int v5, .int 1]) (s1 := [.int (S6.1 34 (y1).toNatClampNeg), .int v5]) (h1 := hh S6) 5 (fun n => B_123_15 n y1 y2 y3 v4 v5 S6) (⟨rfl, g2⟩) ?_
            by_cases c9 : (S6.1 34 (y1).toNatClampNeg) < v5
            · rw [if_pos c9] at hG
              refine Ev.t (c := (S6.1 34 (y1).toNatClampNeg) < v5) (p1 := 182) (L1 := [.ref 29, .int y1, .int y2, .int y3, .int v4, .int v5, .int 1]) (s1 := []) (h1 := hh S6) (p2 := 172) (L2 := [.ref 29, .int y1, .int y2, .int y3, .int v4, .int v5, .int 1]) (s2 := []) (h2 := hh S6) 1 (fun n => B_123_16 n y1 y2 y3 v4 v5 S6) c9 ?_
              refine Ev.g (c := (kd 29).1 = 10 + 8 ∧ (xf_k 8 7 = 0 ∨ (xf_k 8 7 = 1 ∧ (y3 = 0 ∨ y3 = 1)))) (p1 := 187) (L1 := [.ref 29, .int y1, .int y2, .int y3, .int v4, .int v5, .int 1]) (s1 := []) (h1 := hh (xa_u S6.1 29 7 y3, S6.2.1, S6.2.2)) 3 (fun n => B_123_17 n y1 y2 y3 v4 v5 S6) (⟨rfl, Or.inl rfl⟩) ?_
              exact Ev.b (pc' := 87) (L' := [.ref 29, .int y1, .int y2, .int v4, .int v4, .int v5, .int 1]) (st' := []) (h' := hh (xa_u S6.1 29 7 y3, S6.2.1, S6.2.2)) 3 (fun n => B_123_18 n y1 y2 y3 v4 v5 S6) (ih (xa_u S6.1 29 7 y3, S6.2.1, S6.2.2) y1 y2 v4 _ _ hG (.int v4) (.int v5) (.int 1))
            · rw [if_neg c9] at hG
              refine Ev.f (c := (S6.1 34 (y1).toNatClampNeg) < v5) (p1 := 182) (L1 := [.ref 29, .int y1, .int y2, .int y3, .int v4, .int v5, .int 1]) (s1 := []) (h1 := hh S6) (p2 := 172) (L2 := [.ref 29, .int y1, .int y2, .int y3, .int v4, .int v5, .int 1]) (s2 := []) (h2 := hh S6) 1 (fun n => B_123_19 n y1 y2 y3 v4 v5 S6) c9 ?_
              by_cases g10 : xa_in v5 65
              rotate_left
              · rw [if_neg g10] at hG; cases hG
              rw [if_pos g10] at hG
              refine Ev.g (c := (kd 36).1 = 1 ∧ xa_in v5 (kd 36).2) (p1 := 179) (L1 := [.ref 29, .int y1, .int y2, .int y3, .int v4, .int v5, .int 1]) (s1 := [.int (S6.1 36 (v5).toNatClampNeg)]) (h1 := hh S6) 4 (fun n => B_123_20 n y1 y2 y3 v4 v5 S6) (⟨rfl, g10⟩) ?_
              by_cases c11 : (S6.1 36 (v5).toNatClampNeg) = 0
              · rw [if_pos c11] at hG
                refine Ev.t (c := (S6.1 36 (v5).toNatClampNeg) = 0) (p1 := 182) (L1 := [.ref 29, .int y1, .int y2, .int y3, .int v4, .int v5, .int 1]) (s1 := []) (h1 := hh S6) (p2 := 187) (L2 := [.ref 29, .int y1, .int y2, .int y3, .int v4, .int v5, .int 1]) (s2 := []) (h2 := hh S6) 1 (fun n => B_123_21 n y1 y2 y3 v4 v5 S6) c11 ?_
                refine Ev.g (c := (kd 29).1 = 10 + 8 ∧ (xf_k 8 7 = 0 ∨ (xf_k 8 7 = 1 ∧ (y3 = 0 ∨ y3 = 1)))) (p1 := 187) (L1 := [.ref 29, .int y1, .int y2, .int y3, .int v4, .int v5, .int 1]) (s1 := []) (h1 := hh (xa_u S6.1 29 7 y3, S6.2.1, S6.2.2)) 3 (fun n => B_123_22 n y1 y2 y3 v4 v5 S6) (⟨rfl, Or.inl rfl⟩) ?_
                exact Ev.b (pc' := 87) (L' := [.ref 29, .int y1, .int y2, .int v4, .int v4, .int v5, .int 1]) (st' := []) (h' := hh (xa_u S6.1 29 7 y3, S6.2.1, S6.2.2)) 3 (fun n => B_123_23 n y1 y2 y3 v4 v5 S6) (ih (xa_u S6.1 29 7 y3, S6.2.1, S6.2.2) y1 y2 v4 _ _ hG (.int v4) (.int v5) (.int 1))
              · rw [if_neg c11] at hG
                refine Ev.f (c := (S6.1 36 (v5).toNatClampNeg) = 0) (p1 := 182) (L1 := [.ref 29, .int y1, .int y2, .int y3, .int v4, .int v5, .int 1]) (s1 := []) (h1 := hh S6) (p2 := 187) (L2 := [.ref 29, .int y1, .int y2, .int y3, .int v4, .int v5, .int 1]) (s2 := []) (h2 := hh S6) 1 (fun n => B_123_24 n y1 y2 y3 v4 v5 S6) c11 ?_
                exact Ev.b (pc' := 87) (L' := [.ref 29, .int y1, .int y2, .int v4, .int v4, .int v5, .int 1]) (st' := []) (h' := hh S6) 3 (fun n => B_123_25 n y1 y2 y3 v4 v5 S6) (ih S6 y1 y2 v4 _ _ hG (.int v4) (.int v5) (.int 1))
        · rw [if_neg c7] at hG
          refine Ev.f (c := v6 = 7) (p1 := 144) (L1 := [.ref 29, .int y1, .int y2, .int y3, .int v4, .int v5, w6]) (s1 := []) (h1 := hh S6) (p2 := 133) (L2 := [.ref 29, .int y1, .int y2, .int y3, .int v4, .int v5, w6]) (s2 := []) (h2 := hh S6) 2 (fun n => B_123_26 n y1 y2 y3 v4 v5 w6 v6 S6) c7 ?_
          rcases h12 : G_118 S6 y1 y3 with _ | ⟨v12, S12⟩
          · rw [h12] at hG; cases hG
          rw [h12] at hG
          dsimp only at hG
          refine Ev.c (a := 118) (A := [.ref 29, .int y1, .int y3]) (h1 := hh S6) (pc' := 139) (L' := [.ref 29, .int y1, .int y2, .int y3, .int v4, .int v5, w6]) (rest := []) (r1 := some (.int v12)) (h2 := hh S12) 4 (fun n => B_123_27 n y1 y2 y3 v4 v5 w6 S6) (Ev.up (by decide) (T_118 S6 y1 y3 _ _ h12)) ?_
          show Ev X _ 123 139 [.ref 29, .int y1, .int y2, .int y3, .int v4, .int v5, w6] [.int v12] (hh S12) _
          by_cases c13 : v12 = 8
          · rw [if_pos c13] at hG
            refine Ev.t (c := v12 = 8) (p1 := 144) (L1 := [.ref 29, .int y1, .int y2, .int y3, .int v4, .int v5, w6]) (s1 := []) (h1 := hh S12) (p2 := 148) (L2 := [.ref 29, .int y1, .int y2, .int y3, .int v4, .int v5, w6]) (s2 := []) (h2 := hh S12) 2 (fun n => B_123_28 n y1 y2 y3 v4 v5 w6 v12 S12) c13 ?_
            refine Ev.f (c := (1 : Int32) = 0) (p1 := 187) (L1 := [.ref 29, .int y1, .int y2, .int y3, .int v4, .int v5, .int 1]) (s1 := []) (h1 := hh S12) (p2 := 156) (L2 := [.ref 29, .int y1, .int y2, .int y3, .int v4, .int v5, .int 1]) (s2 := []) (h2 := hh S12) 5 (fun n => B_123_29 n y1 y2 y3 v4 v5 w6 S12) (by decide) ?_
            by_cases c14 : v5 < 0
            · rw [if_pos c14] at hG
              refine Ev.t (c := v5 < 0) (p1 := 182) (L1 := [.ref 29, .int y1, .int y2, .int y3, .int v4, .int v5, .int 1]) (s1 := []) (h1 := hh S12) (p2 := 161) (L2 := [.ref 29, .int y1, .int y2, .int y3, .int v4, .int v5, .int 1]) (s2 := []) (h2 := hh S12) 2 (fun n => B_123_30 n y1 y2 y3 v4 v5 S12) c14 ?_
              refine Ev.g (c := (kd 29).1 = 10 + 8 ∧ (xf_k 8 7 = 0 ∨ (xf_k 8 7 = 1 ∧ (y3 = 0 ∨ y3 = 1)))) (p1 := 187) (L1 := [.ref 29, .int y1, .int y2, .int y3, .int v4, .int v5, .int 1]) (s1 := []) (h1 := hh (xa_u S12.1 29 7 y3, S12.2.1, S12.2.2)) 3 (fun n => B_123_31 n y1 y2 y3 v4 v5 S12) (⟨rfl, Or.inl rfl⟩) ?_
              exact Ev.b (pc' := 87) (L' := [.ref 29, .int y1, .int y2, .int v4, .int v4, .int v5, .int 1]) (st' := []) (h' := hh (xa_u S12.1 29 7 y3, S12.2.1, S12.2.2)) 3 (fun n => B_123_32 n y1 y2 y3 v4 v5 S12) (ih (xa_u S12.1 29 7 y3, S12.2.1, S12.2.2) y1 y2 v4 _ _ hG (.int v4) (.int v5) (.int 1))
            · rw [if_neg c14] at hG
              refine Ev.f (c := v5 < 0) (p1 := 182) (L1 := [.ref 29, .int y1, .int y2, .int y3, .int v4, .int v5, .int 1]) (s1 := []) (h1 := hh S12) (p2 := 161) (L2 := [.ref 29, .int y1, .int y2, .int y3, .int v4, .int v5, .int 1]) (s2 := []) (h2 := hh S12) 2 (fun n => B_123_33 n y1 y2 y3 v4 v5 S12) c14 ?_
              refine Ev.g (c := (kd 34).1 = 0 ∧ xa_in y1 (kd 34).2) (p1 := 169) (L1 := [.ref 29, .int y1, .int y2, .int y3, .int v4, .int v5, .int 1]) (s1 := [.int (S12.1 34 (y1).toNatClampNeg), .int v5]) (h1 := hh S12) 5 (fun n => B_123_34 n y1 y2 y3 v4 v5 S12) (⟨rfl, g2⟩) ?_
              by_cases c15 : (S12.1 34 (y1).toNatClampNeg) < v5
              · rw [if_pos c15] at hG
                refine Ev.t (c := (S12.1 34 (y1).toNatClampNeg) < v5) (p1 := 182) (L1 := [.ref 29, .int y1, .int y2, .int y3, .int v4, .int v5, .int 1]) (s1 := []) (h1 := hh S12) (p2 := 172) (L2 := [.ref 29, .int y1, .int y2, .int y3, .int v4, .int v5, .int 1]) (s2 := []) (h2 := hh S12) 1 (fun n => B_123_35 n y1 y2 y3 v4 v5 S12) c15 ?_
                refine Ev.g (c := (kd 29).1 = 10 + 8 ∧ (xf_k 8 7 = 0 ∨ (xf_k 8 7 = 1 ∧ (y3 = 0 ∨ y3 = 1)))) (p1 := 187) (L1 := [.ref 29, .int y1, .int y2, .int y3, .int v4, .int v5, .int 1]) (s1 := []) (h1 := hh (xa_u S12.1 29 7 y3, S12.2.1, S12.2.2)) 3 (fun n => B_123_36 n y1 y2 y3 v4 v5 S12) (⟨rfl, Or.inl rfl⟩) ?_
                exact Ev.b (pc' := 87) (L' := [.ref 29, .int y1, .int y2, .int v4, .int v4, .int v5, .int 1]) (st' := []) (h' := hh (xa_u S12.1 29 7 y3, S12.2.1, S12.2.2)) 3 (fun n => B_123_37 n y1 y2 y3 v4 v5 S12) (ih (xa_u S12.1 29 7 y3, S12.2.1, S12.2.2) y1 y2 v4 _ _ hG (.int v4) (.int v5) (.int 1))
              · rw [if_neg c15] at hG
                refine Ev.f (c := (S12.1 34 (y1).toNatClampNeg) < v5) (p1 := 182) (L1 := [.ref 29, .int y1, .int y2, .int y3, .int v4, .int v5, .int 1]) (s1 := []) (h1 := hh S12) (p2 := 172) (L2 := [.ref 29, .int y1, .int y2, .int y3, .int v4, .int v5, .int 1]) (s2 := []) (h2 := hh S12) 1 (fun n => B_123_38 n y1 y2 y3 v4 v5 S12) c15 ?_
                by_cases g16 : xa_in v5 65
                rotate_left
                · rw [if_neg g16] at hG; cases hG
                rw [if_pos g16] at hG
                refine Ev.g (c := (kd 36).1 = 1 ∧ xa_in v5 (kd 36).2) (p1 := 179) (L1 := [.ref 29, .int y1, .int y2, .int y3, .int v4, .int v5, .int 1]) (s1 := [.int (S12.1 36 (v5).toNatClampNeg)]) (h1 := hh S12) 4 (fun n => B_123_39 n y1 y2 y3 v4 v5 S12) (⟨rfl, g16⟩) ?_
                by_cases c17 : (S12.1 36 (v5).toNatClampNeg) = 0
                · rw [if_pos c17] at hG
                  refine Ev.t (c := (S12.1 36 (v5).toNatClampNeg) = 0) (p1 := 182) (L1 := [.ref 29, .int y1, .int y2, .int y3, .int v4, .int v5, .int 1]) (s1 := []) (h1 := hh S12) (p2 := 187) (L2 := [.ref 29, .int y1, .int y2, .int y3, .int v4, .int v5, .int 1]) (s2 := []) (h2 := hh S12) 1 (fun n => B_123_40 n y1 y2 y3 v4 v5 S12) c17 ?_
                  refine Ev.g (c := (kd 29).1 = 10 + 8 ∧ (xf_k 8 7 = 0 ∨ (xf_k 8 7 = 1 ∧ (y3 = 0 ∨ y3 = 1)))) (p1 := 187) (L1 := [.ref 29, .int y1, .int y2, .int y3, .int v4, .int v5, .int 1]) (s1 := []) (h1 := hh (xa_u S12.1 29 7 y3, S12.2.1, S12.2.2)) 3 (fun n => B_123_41 n y1 y2 y3 v4 v5 S12) (⟨rfl, Or.inl rfl⟩) ?_
                  exact Ev.b (pc' := 87) (L' := [.ref 29, .int y1, .int y2, .int v4, .int v4, .int v5, .int 1]) (st' := []) (h' := hh (xa_u S12.1 29 7 y3, S12.2.1, S12.2.2)) 3 (fun n => B_123_42 n y1 y2 y3 v4 v5 S12) (ih (xa_u S12.1 29 7 y3, S12.2.1, S12.2.2) y1 y2 v4 _ _ hG (.int v4) (.int v5) (.int 1))
                · rw [if_neg c17] at hG
                  refine Ev.f (c := (S12.1 36 (v5).toNatClampNeg) = 0) (p1 := 182) (L1 := [.ref 29, .int y1, .int y2, .int y3, .int v4, .int v5, .int 1]) (s1 := []) (h1 := hh S12) (p2 := 187) (L2 := [.ref 29, .int y1, .int y2, .int y3, .int v4, .int v5, .int 1]) (s2 := []) (h2 := hh S12) 1 (fun n => B_123_43 n y1 y2 y3 v4 v5 S12) c17 ?_
                  exact Ev.b (pc' := 87) (L' := [.ref 29, .int y1, .int y2, .int v4, .int v4, .int v5, .int 1]) (st' := []) (h' := hh S12) 3 (fun n => B_123_44 n y1 y2 y3 v4 v5 S12) (ih S12 y1 y2 v4 _ _ hG (.int v4) (.int v5) (.int 1))
          · rw [if_neg c13] at hG
            refine Ev.f (c := v12 = 8) (p1 := 144) (L1 := [.ref 29, .int y1, .int y2, .int y3, .int v4, .int v5, w6]) (s1 := []) (h1 := hh S12) (p2 := 148) (L2 := [.ref 29, .int y1, .int y2, .int y3, .int v4, .int v5, w6]) (s2 := []) (h2 := hh S12) 2 (fun n => B_123_45 n y1 y2 y3 v4 v5 w6 v12 S12) c13 ?_
            refine Ev.t (c := (0 : Int32) = 0) (p1 := 187) (L1 := [.ref 29, .int y1, .int y2, .int y3, .int v4, .int v5, .int 0]) (s1 := []) (h1 := hh S12) (p2 := 156) (L2 := [.ref 29, .int y1, .int y2, .int y3, .int v4, .int v5, .int 0]) (s2 := []) (h2 := hh S12) 4 (fun n => B_123_46 n y1 y2 y3 v4 v5 w6 S12) (by decide) ?_
            exact Ev.b (pc' := 87) (L' := [.ref 29, .int y1, .int y2, .int v4, .int v4, .int v5, .int 0]) (st' := []) (h' := hh S12) 3 (fun n => B_123_47 n y1 y2 y3 v4 v5 S12) (ih S12 y1 y2 v4 _ _ hG (.int v4) (.int v5) (.int 0))
def GL_123_1 : Nat → St → Int32 → Int32 → Int32 → Option (Int32 × St)
  | 0, _, _, _, _ => none
  | n + 1, S, y1, y2, y3 =>
    (if 0 ≤ (S.1 29 7) then
      (if (S.1 29 7) < 0 then
        GL_123_0 xFu S y1 y2 (0 : Int32)
      else
        some (y2, S)
      )
    else
      (if xa_in y1 4 then
        (if (S.1 34 (y1).toNatClampNeg) ≤ y3 then
          (if (S.1 29 7) < 0 then
            GL_123_0 xFu S y1 y2 (0 : Int32)
          else
            some (y2, S)
          )
        else
          (if xa_in y3 65 then
            (match G_124 (xa_u S.1 36 ((y3).toNatClampNeg) 1, S.2.1, S.2.2) y1 y3 with
            | none => none
            | some (v24, S24) =>
              GL_123_1 n S24 y1 (y2 + 1) v24
            )
          else none)
        )
      else none)
    )
theorem B_123_48 {X : Nat × (Nat → Int32)} {d : Nat} (n : Nat) (y1 : Int32) (y2 : Int32) (y3 : Int32) (w4 : Value) (w5 : Value) (w6 : Value) (S : St) : ex X d 123 39 [.ref 29, .int y1, .int y2, .int y3, w4, w5, w6] [] (hh S) (n + 3) = if 0 ≤ (S.1 29 7) then ex X d 123 76 [.ref 29, .int y1, .int y2, .int y3, w4, w5, w6] [] (hh S) n else ex X d 123 46 [.ref 29, .int y1, .int y2, .int y3, w4, w5, w6] [] (hh S) n := rfl
theorem B_123_49 {X : Nat × (Nat → Int32)} {d : Nat} (n : Nat) (y1 : Int32) (y2 : Int32) (y3 : Int32) (w4 : Value) (w5 : Value) (w6 : Value) (S : St) : ex X d 123 76 [.ref 29, .int y1, .int y2, .int y3, w4, w5, w6] [] (hh S) (n + 3) = if (S.1 29 7) < 0 then ex X d 123 85 [.ref 29, .int y1, .int y2, .int y3, w4, w5, w6] [] (hh S) n else ex X d 123 83 [.ref 29, .int y1, .int y2, .int y3, w4, w5, w6] [] (hh S) n := rfl
theorem B_123_50 {X : Nat × (Nat → Int32)} {d : Nat} (n : Nat) (y1 : Int32) (y2 : Int32) (y3 : Int32) (w4 : Value) (w5 : Value) (w6 : Value) (S : St) : ex X d 123 85 [.ref 29, .int y1, .int y2, .int y3, w4, w5, w6] [] (hh S) (n + 2) = ex X d 123 87 [.ref 29, .int y1, .int y2, .int 0, w4, w5, w6] [] (hh S) n := rfl
theorem B_123_51 {X : Nat × (Nat → Int32)} {d : Nat} (n : Nat) (y1 : Int32) (y2 : Int32) (y3 : Int32) (w4 : Value) (w5 : Value) (w6 : Value) (S : St) : ex X d 123 76 [.ref 29, .int y1, .int y2, .int y3, w4, w5, w6] [] (hh S) (n + 3) = if (S.1 29 7) < 0 then ex X d 123 85 [.ref 29, .int y1, .int y2, .int y3, w4, w5, w6] [] (hh S) n else ex X d 123 83 [.ref 29, .int y1, .int y2, .int y3, w4, w5, w6] [] (hh S) n := rfl
theorem B_123_52 {X : Nat × (Nat → Int32)} {d : Nat} (n : Nat) (y1 : Int32) (y2 : Int32) (y3 : Int32) (w4 : Value) (w5 : Value) (w6 : Value) (S : St) : ex X d 123 39 [.ref 29, .int y1, .int y2, .int y3, w4, w5, w6] [] (hh S) (n + 3) = if 0 ≤ (S.1 29 7) then ex X d 123 76 [.ref 29, .int y1, .int y2, .int y3, w4, w5, w6] [] (hh S) n else ex X d 123 46 [.ref 29, .int y1, .int y2, .int y3, w4, w5, w6] [] (hh S) n := rfl
theorem B_123_53 {X : Nat × (Nat → Int32)} {d : Nat} (n : Nat) (y1 : Int32) (y2 : Int32) (y3 : Int32) (w4 : Value) (w5 : Value) (w6 : Value) (S : St) : ex X d 123 46 [.ref 29, .int y1, .int y2, .int y3, w4, w5, w6] [] (hh S) (n + 5) = if (kd 34).1 = 0 ∧ xa_in y1 (kd 34).2 then ex X d 123 53 [.ref 29, .int y1, .int y2, .int y3, w4, w5, w6] [.int (S.1 34 (y1).toNatClampNeg), .int y3] (hh S) n else none := rfl
theorem B_123_54 {X : Nat × (Nat → Int32)} {d : Nat} (n : Nat) (y1 : Int32) (y2 : Int32) (y3 : Int32) (w4 : Value) (w5 : Value) (w6 : Value) (S : St) : ex X d 123 53 [.ref 29, .int y1, .int y2, .int y3, w4, w5, w6] [.int (S.1 34 (y1).toNatClampNeg), .int y3] (hh S) (n + 1) = if (S.1 34 (y1).toNatClampNeg) ≤ y3 then ex X d 123 76 [.ref 29, .int y1, .int y2, .int y3, w4, w5, w6] [] (hh S) n else ex X d 123 56 [.ref 29, .int y1, .int y2, .int y3, w4, w5, w6] [] (hh S) n := rfl
theorem B_123_55 {X : Nat × (Nat → Int32)} {d : Nat} (n : Nat) (y1 : Int32) (y2 : Int32) (y3 : Int32) (w4 : Value) (w5 : Value) (w6 : Value) (S : St) : ex X d 123 76 [.ref 29, .int y1, .int y2, .int y3, w4, w5, w6] [] (hh S) (n + 3) = if (S.1 29 7) < 0 then ex X d 123 85 [.ref 29, .int y1, .int y2, .int y3, w4, w5, w6] [] (hh S) n else ex X d 123 83 [.ref 29, .int y1, .int y2, .int y3, w4, w5, w6] [] (hh S) n := rfl
theorem B_123_56 {X : Nat × (Nat → Int32)} {d : Nat} (n : Nat) (y1 : Int32) (y2 : Int32) (y3 : Int32) (w4 : Value) (w5 : Value) (w6 : Value) (S : St) : ex X d 123 85 [.ref 29, .int y1, .int y2, .int y3, w4, w5, w6] [] (hh S) (n + 2) = ex X d 123 87 [.ref 29, .int y1, .int y2, .int 0, w4, w5, w6] [] (hh S) n := rfl
theorem B_123_57 {X : Nat × (Nat → Int32)} {d : Nat} (n : Nat) (y1 : Int32) (y2 : Int32) (y3 : Int32) (w4 : Value) (w5 : Value) (w6 : Value) (S : St) : ex X d 123 76 [.ref 29, .int y1, .int y2, .int y3, w4, w5, w6] [] (hh S) (n + 3) = if (S.1 29 7) < 0 then ex X d 123 85 [.ref 29, .int y1, .int y2, .int y3, w4, w5, w6] [] (hh S) n else ex X d 123 83 [.ref 29, .int y1, .int y2, .int y3, w4, w5, w6] [] (hh S) n := rfl
theorem B_123_58 {X : Nat × (Nat → Int32)} {d : Nat} (n : Nat) (y1 : Int32) (y2 : Int32) (y3 : Int32) (w4 : Value) (w5 : Value) (w6 : Value) (S : St) : ex X d 123 53 [.ref 29, .int y1, .int y2, .int y3, w4, w5, w6] [.int (S.1 34 (y1).toNatClampNeg), .int y3] (hh S) (n + 1) = if (S.1 34 (y1).toNatClampNeg) ≤ y3 then ex X d 123 76 [.ref 29, .int y1, .int y2, .int y3, w4, w5, w6] [] (hh S) n else ex X d 123 56 [.ref 29, .int y1, .int y2, .int y3, w4, w5, w6] [] (hh S) n := rfl
theorem B_123_59 {X : Nat × (Nat → Int32)} {d : Nat} (n : Nat) (y1 : Int32) (y2 : Int32) (y3 : Int32) (w4 : Value) (w5 : Value) (w6 : Value) (S : St) : ex X d 123 56 [.ref 29, .int y1, .int y2, .int y3, w4, w5, w6] [] (hh S) (n + 5) = if (kd 36).1 = 1 ∧ xa_in y3 (kd 36).2 ∧ ((1 : Int32) = 0 ∨ (1 : Int32) = 1) then ex X d 123 63 [.ref 29, .int y1, .int y2, .int y3, w4, w5, w6] [] (hh (xa_u S.1 36 ((y3).toNatClampNeg) 1, S.2.1, S.2.2)) n else none := rfl
theorem B_123_60 {X : Nat × (Nat → Int32)} {d : Nat} (n : Nat) (y1 : Int32) (y2 : Int32) (y3 : Int32) (w4 : Value) (w5 : Value) (w6 : Value) (S : St) : ex X (d + 1) 123 63 [.ref 29, .int y1, .int y2, .int y3, w4, w5, w6] [] (hh (xa_u S.1 36 ((y3).toNatClampNeg) 1, S.2.1, S.2.2)) (n + 4) = (match ex X d 124 0 [.ref 29, .int y1, .int y3, .retAddr 0, .retAddr 0] [] (hh (xa_u S.1 36 ((y3).toNatClampNeg) 1, S.2.1, S.2.2)) n with | some (v, h') => ex X (d + 1) 123 69 [.ref 29, .int y1, .int y2, .int y3, w4, w5, w6] (v.toList ++ []) h' n | none => none) := rfl
theorem B_123_61 {X : Nat × (Nat → Int32)} {d : Nat} (n : Nat) (y1 : Int32) (y2 : Int32) (y3 : Int32) (w4 : Value) (w5 : Value) (w6 : Value) (v24 : Int32) (S24 : St) : ex X d 123 69 [.ref 29, .int y1, .int y2, .int y3, w4, w5, w6] [.int v24] (hh S24) (n + 3) = ex X d 123 39 [.ref 29, .int y1, .int (y2 + 1), .int v24, w4, w5, w6] [] (hh S24) n := rfl
set_option maxRecDepth 200000 in
theorem TL_123_1 {X : Nat × (Nat → Int32)} : ∀ (n : Nat) (S : St) (y1 : Int32) (y2 : Int32) (y3 : Int32) (r : Int32) (S' : St), GL_123_1 n S y1 y2 y3 = some (r, S') → ∀ (w4 w5 w6 : Value), Ev X 6 123 39 [.ref 29, .int y1, .int y2, .int y3, w4, w5, w6] [] (hh S) (xI r, hh S') := by
  intro n
  induction n with
  | zero => intro S y1 y2 y3 r S' hG; simp [GL_123_1] at hG
  | succ n ih =>
    intro S y1 y2 y3 r S' hG w4 w5 w6
    rw [GL_123_1] at hG
    by_cases c18 : 0 ≤ (S.1 29 7)
    · rw [if_pos c18] at hG
      refine Ev.t (c := 0 ≤ (S.1 29 7)) (p1 := 76) (L1 := [.ref 29, .int y1, .int y2, .int y3, w4, w5, w6]) (s1 := []) (h1 := hh S) (p2 := 46) (L2 := [.ref 29, .int y1, .int y2, .int y3, w4, w5, w6]) (s2 := []) (h2 := hh S) 3 (fun n => B_123_48 n y1 y2 y3 w4 w5 w6 S) c18 ?_
      by_cases c19 : (S.1 29 7) < 0
      · rw [if_pos c19] at hG
        refine Ev.t (c := (S.1 29 7) < 0) (p1 := 85) (L1 := [.ref 29, .int y1, .int y2, .int y3, w4, w5, w6]) (s1 := []) (h1 := hh S) (p2 := 83) (L2 := [.ref 29, .int y1, .int y2, .int y3, w4, w5, w6]) (s2 := []) (h2 := hh S) 3 (fun n => B_123_49 n y1 y2 y3 w4 w5 w6 S) c19 ?_
        exact Ev.b (pc' := 87) (L' := [.ref 29, .int y1, .int y2, .int 0, w4, w5, w6]) (st' := []) (h' := hh S) 2 (fun n => B_123_50 n y1 y2 y3 w4 w5 w6 S) (TL_123_0 xFu S y1 y2 (0 : Int32) _ _ hG w4 w5 w6)
      · rw [if_neg c19] at hG
        refine Ev.f (c := (S.1 29 7) < 0) (p1 := 85) (L1 := [.ref 29, .int y1, .int y2, .int y3, w4, w5, w6]) (s1 := []) (h1 := hh S) (p2 := 83) (L2 := [.ref 29, .int y1, .int y2, .int y3, w4, w5, w6]) (s2 := []) (h2 := hh S) 3 (fun n => B_123_51 n y1 y2 y3 w4 w5 w6 S) c19 ?_
        obtain ⟨e1, e2⟩ := Prod.mk.inj (Option.some.inj hG)
        subst e1
        subst e2
        exact Ev.r 2 (fun n => rfl)
    · rw [if_neg c18] at hG
      refine Ev.f (c := 0 ≤ (S.1 29 7)) (p1 := 76) (L1 := [.ref 29, .int y1, .int y2, .int y3, w4, w5, w6]) (s1 := []) (h1 := hh S) (p2 := 46) (L2 := [.ref 29, .int y1, .int y2, .int y3, w4, w5, w6]) (s2 := []) (h2 := hh S) 3 (fun n => B_123_52 n y1 y2 y3 w4 w5 w6 S) c18 ?_
      by_cases g20 : xa_in y1 4
      rotate_left
      · rw [if_neg g20] at hG; cases hG
      rw [if_pos g20] at hG
      refine Ev.g (c := (kd 34).1 = 0 ∧ xa_in y1 (kd 34).2) (p1 := 53) (L1 := [.ref 29, .int y1, .int y2, .int y3, w4, w5, w6]) (s1 := [.int (S.1 34 (y1).toNatClampNeg), .int y3]) (h1 := hh S) 5 (fun n => B_123_53 n y1 y2 y3 w4 w5 w6 S) (⟨rfl, g20⟩) ?_
      by_cases c21 : (S.1 34 (y1).toNatClampNeg) ≤ y3
      · rw [if_pos c21] at hG
        refine Ev.t (c := (S.1 34 (y1).toNatClampNeg) ≤ y3) (p1 := 76) (L1 := [.ref 29, .int y1, .int y2, .int y3, w4, w5, w6]) (s1 := []) (h1 := hh S) (p2 := 56) (L2 := [.ref 29, .int y1, .int y2, .int y3, w4, w5, w6]) (s2 := []) (h2 := hh S) 1 (fun n => B_123_54 n y1 y2 y3 w4 w5 w6 S) c21 ?_
        by_cases c22 : (S.1 29 7) < 0
        · rw [if_pos c22] at hG
          refine Ev.t (c := (S.1 29 7) < 0) (p1 := 85) (L1 := [.ref 29, .int y1, .int y2, .int y3, w4, w5, w6]) (s1 := []) (h1 := hh S) (p2 := 83) (L2 := [.ref 29, .int y1, .int y2, .int y3, w4, w5, w6]) (s2 := []) (h2 := hh S) 3 (fun n => B_123_55 n y1 y2 y3 w4 w5 w6 S) c22 ?_
          exact Ev.b (pc' := 87) (L' := [.ref 29, .int y1, .int y2, .int 0, w4, w5, w6]) (st' := []) (h' := hh S) 2 (fun n => B_123_56 n y1 y2 y3 w4 w5 w6 S) (TL_123_0 xFu S y1 y2 (0 : Int32) _ _ hG w4 w5 w6)
        · rw [if_neg c22] at hG
          refine Ev.f (c := (S.1 29 7) < 0) (p1 := 85) (L1 := [.ref 29, .int y1, .int y2, .int y3, w4, w5, w6]) (s1 := []) (h1 := hh S) (p2 := 83) (L2 := [.ref 29, .int y1, .int y2, .int y3, w4, w5, w6]) (s2 := []) (h2 := hh S) 3 (fun n => B_123_57 n y1 y2 y3 w4 w5 w6 S) c22 ?_
          obtain ⟨e1, e2⟩ := Prod.mk.inj (Option.some.inj hG)
          subst e1
          subst e2
          exact Ev.r 2 (fun n => rfl)
      · rw [if_neg c21] at hG
        refine Ev.f (c := (S.1 34 (y1).toNatClampNeg) ≤ y3) (p1 := 76) (L1 := [.ref 29, .int y1, .int y2, .int y3, w4, w5, w6]) (s1 := []) (h1 := hh S) (p2 := 56) (L2 := [.ref 29, .int y1, .int y2, .int y3, w4, w5, w6]) (s2 := []) (h2 := hh S) 1 (fun n => B_123_58 n y1 y2 y3 w4 w5 w6 S) c21 ?_
        by_cases g23 : xa_in y3 65
        rotate_left
        · rw [if_neg g23] at hG; cases hG
        rw [if_pos g23] at hG
        refine Ev.g (c := (kd 36).1 = 1 ∧ xa_in y3 (kd 36).2 ∧ ((1 : Int32) = 0 ∨ (1 : Int32) = 1)) (p1 := 63) (L1 := [.ref 29, .int y1, .int y2, .int y3, w4, w5, w6]) (s1 := []) (h1 := hh (xa_u S.1 36 ((y3).toNatClampNeg) 1, S.2.1, S.2.2)) 5 (fun n => B_123_59 n y1 y2 y3 w4 w5 w6 S) (⟨rfl, g23, by decide⟩) ?_
        rcases h24 : G_124 (xa_u S.1 36 ((y3).toNatClampNeg) 1, S.2.1, S.2.2) y1 y3 with _ | ⟨v24, S24⟩
        · rw [h24] at hG; cases hG
        rw [h24] at hG
        dsimp only at hG
        refine Ev.c (a := 124) (A := [.ref 29, .int y1, .int y3, .retAddr 0, .retAddr 0]) (h1 := hh (xa_u S.1 36 ((y3).toNatClampNeg) 1, S.2.1, S.2.2)) (pc' := 69) (L' := [.ref 29, .int y1, .int y2, .int y3, w4, w5, w6]) (rest := []) (r1 := some (.int v24)) (h2 := hh S24) 4 (fun n => B_123_60 n y1 y2 y3 w4 w5 w6 S) (Ev.up (by decide) (T_124 (xa_u S.1 36 ((y3).toNatClampNeg) 1, S.2.1, S.2.2) y1 y3 _ _ h24)) ?_
        show Ev X _ 123 69 [.ref 29, .int y1, .int y2, .int y3, w4, w5, w6] [.int v24] (hh S24) _
        exact Ev.b (pc' := 39) (L' := [.ref 29, .int y1, .int (y2 + 1), .int v24, w4, w5, w6]) (st' := []) (h' := hh S24) 3 (fun n => B_123_61 n y1 y2 y3 w4 w5 w6 v24 S24) (ih S24 y1 (y2 + 1) v24 _ _ hG w4 w5 w6)
def GL_123_2 : Nat → St → Int32 → Int32 → Int32 → Option (Int32 × St)
  | 0, _, _, _, _ => none
  | n + 1, S, y1, y2, y3 =>
    (if 65 ≤ y3 then
      GL_123_1 xFu S y1 y2 (0 : Int32)
    else
      (if xa_in y1 4 then
        (if y3 = (S.1 34 (y1).toNatClampNeg) then
          (if xa_in y3 65 then
            GL_123_2 n (xa_u S.1 36 ((y3).toNatClampNeg) 1, S.2.1, S.2.2) y1 y2 (y3 + 1)
          else none)
        else
          (if xa_in y3 65 then
            GL_123_2 n (xa_u S.1 36 ((y3).toNatClampNeg) 0, S.2.1, S.2.2) y1 y2 (y3 + 1)
          else none)
        )
      else none)
    )
theorem B_123_62 {X : Nat × (Nat → Int32)} {d : Nat} (n : Nat) (y1 : Int32) (y2 : Int32) (y3 : Int32) (w4 : Value) (w5 : Value) (w6 : Value) (S : St) : ex X d 123 4 [.ref 29, .int y1, .int y2, .int y3, w4, w5, w6] [] (hh S) (n + 3) = if 65 ≤ y3 then ex X d 123 37 [.ref 29, .int y1, .int y2, .int y3, w4, w5, w6] [] (hh S) n else ex X d 123 10 [.ref 29, .int y1, .int y2, .int y3, w4, w5, w6] [] (hh S) n := rfl
theorem B_123_63 {X : Nat × (Nat → Int32)} {d : Nat} (n : Nat) (y1 : Int32) (y2 : Int32) (y3 : Int32) (w4 : Value) (w5 : Value) (w6 : Value) (S : St) : ex X d 123 37 [.ref 29, .int y1, .int y2, .int y3, w4, w5, w6] [] (hh S) (n + 2) = ex X d 123 39 [.ref 29, .int y1, .int y2, .int 0, w4, w5, w6] [] (hh S) n := rfl
theorem B_123_64 {X : Nat × (Nat → Int32)} {d : Nat} (n : Nat) (y1 : Int32) (y2 : Int32) (y3 : Int32) (w4 : Value) (w5 : Value) (w6 : Value) (S : St) : ex X d 123 4 [.ref 29, .int y1, .int y2, .int y3, w4, w5, w6] [] (hh S) (n + 3) = if 65 ≤ y3 then ex X d 123 37 [.ref 29, .int y1, .int y2, .int y3, w4, w5, w6] [] (hh S) n else ex X d 123 10 [.ref 29, .int y1, .int y2, .int y3, w4, w5, w6] [] (hh S) n := rfl
theorem B_123_65 {X : Nat × (Nat → Int32)} {d : Nat} (n : Nat) (y1 : Int32) (y2 : Int32) (y3 : Int32) (w4 : Value) (w5 : Value) (w6 : Value) (S : St) : ex X d 123 10 [.ref 29, .int y1, .int y2, .int y3, w4, w5, w6] [] (hh S) (n + 8) = if (kd 34).1 = 0 ∧ xa_in y1 (kd 34).2 then ex X d 123 22 [.ref 29, .int y1, .int y2, .int y3, w4, w5, w6] [.int (S.1 34 (y1).toNatClampNeg), .int y3, .int y3, .ref 36] (hh S) n else none := rfl
theorem B_123_66 {X : Nat × (Nat → Int32)} {d : Nat} (n : Nat) (y1 : Int32) (y2 : Int32) (y3 : Int32) (w4 : Value) (w5 : Value) (w6 : Value) (S : St) : ex X d 123 22 [.ref 29, .int y1, .int y2, .int y3, w4, w5, w6] [.int (S.1 34 (y1).toNatClampNeg), .int y3, .int y3, .ref 36] (hh S) (n + 1) = if y3 = (S.1 34 (y1).toNatClampNeg) then ex X d 123 25 [.ref 29, .int y1, .int y2, .int y3, w4, w5, w6] [.int y3, .ref 36] (hh S) n else ex X d 123 29 [.ref 29, .int y1, .int y2, .int y3, w4, w5, w6] [.int y3, .ref 36] (hh S) n := rfl
theorem B_123_67 {X : Nat × (Nat → Int32)} {d : Nat} (n : Nat) (y1 : Int32) (y2 : Int32) (y3 : Int32) (w4 : Value) (w5 : Value) (w6 : Value) (S : St) : ex X d 123 25 [.ref 29, .int y1, .int y2, .int y3, w4, w5, w6] [.int y3, .ref 36] (hh S) (n + 3) = if (kd 36).1 = 1 ∧ xa_in y3 (kd 36).2 ∧ ((1 : Int32) = 0 ∨ (1 : Int32) = 1) then ex X d 123 31 [.ref 29, .int y1, .int y2, .int y3, w4, w5, w6] [] (hh (xa_u S.1 36 ((y3).toNatClampNeg) 1, S.2.1, S.2.2)) n else none := rfl
theorem B_123_68 {X : Nat × (Nat → Int32)} {d : Nat} (n : Nat) (y1 : Int32) (y2 : Int32) (y3 : Int32) (w4 : Value) (w5 : Value) (w6 : Value) (S : St) : ex X d 123 31 [.ref 29, .int y1, .int y2, .int y3, w4, w5, w6] [] (hh (xa_u S.1 36 ((y3).toNatClampNeg) 1, S.2.1, S.2.2)) (n + 2) = ex X d 123 4 [.ref 29, .int y1, .int y2, .int (y3 + 1), w4, w5, w6] [] (hh (xa_u S.1 36 ((y3).toNatClampNeg) 1, S.2.1, S.2.2)) n := rfl
theorem B_123_69 {X : Nat × (Nat → Int32)} {d : Nat} (n : Nat) (y1 : Int32) (y2 : Int32) (y3 : Int32) (w4 : Value) (w5 : Value) (w6 : Value) (S : St) : ex X d 123 22 [.ref 29, .int y1, .int y2, .int y3, w4, w5, w6] [.int (S.1 34 (y1).toNatClampNeg), .int y3, .int y3, .ref 36] (hh S) (n + 1) = if y3 = (S.1 34 (y1).toNatClampNeg) then ex X d 123 25 [.ref 29, .int y1, .int y2, .int y3, w4, w5, w6] [.int y3, .ref 36] (hh S) n else ex X d 123 29 [.ref 29, .int y1, .int y2, .int y3, w4, w5, w6] [.int y3, .ref 36] (hh S) n := rfl
theorem B_123_70 {X : Nat × (Nat → Int32)} {d : Nat} (n : Nat) (y1 : Int32) (y2 : Int32) (y3 : Int32) (w4 : Value) (w5 : Value) (w6 : Value) (S : St) : ex X d 123 29 [.ref 29, .int y1, .int y2, .int y3, w4, w5, w6] [.int y3, .ref 36] (hh S) (n + 2) = if (kd 36).1 = 1 ∧ xa_in y3 (kd 36).2 ∧ ((0 : Int32) = 0 ∨ (0 : Int32) = 1) then ex X d 123 31 [.ref 29, .int y1, .int y2, .int y3, w4, w5, w6] [] (hh (xa_u S.1 36 ((y3).toNatClampNeg) 0, S.2.1, S.2.2)) n else none := rfl
theorem B_123_71 {X : Nat × (Nat → Int32)} {d : Nat} (n : Nat) (y1 : Int32) (y2 : Int32) (y3 : Int32) (w4 : Value) (w5 : Value) (w6 : Value) (S : St) : ex X d 123 31 [.ref 29, .int y1, .int y2, .int y3, w4, w5, w6] [] (hh (xa_u S.1 36 ((y3).toNatClampNeg) 0, S.2.1, S.2.2)) (n + 2) = ex X d 123 4 [.ref 29, .int y1, .int y2, .int (y3 + 1), w4, w5, w6] [] (hh (xa_u S.1 36 ((y3).toNatClampNeg) 0, S.2.1, S.2.2)) n := rfl
set_option maxRecDepth 200000 in
theorem TL_123_2 {X : Nat × (Nat → Int32)} : ∀ (n : Nat) (S : St) (y1 : Int32) (y2 : Int32) (y3 : Int32) (r : Int32) (S' : St), GL_123_2 n S y1 y2 y3 = some (r, S') → ∀ (w4 w5 w6 : Value), Ev X 6 123 4 [.ref 29, .int y1, .int y2, .int y3, w4, w5, w6] [] (hh S) (xI r, hh S') := by
  intro n
  induction n with
  | zero => intro S y1 y2 y3 r S' hG; simp [GL_123_2] at hG
  | succ n ih =>
    intro S y1 y2 y3 r S' hG w4 w5 w6
    rw [GL_123_2] at hG
    by_cases c25 : 65 ≤ y3
    · rw [if_pos c25] at hG
      refine Ev.t (c := 65 ≤ y3) (p1 := 37) (L1 := [.ref 29, .int y1, .int y2, .int y3, w4, w5, w6]) (s1 := []) (h1 := hh S) (p2 := 10) (L2 := [.ref 29, .int y1, .int y2, .int y3, w4, w5, w6]) (s2 := []) (h2 := hh S) 3 (fun n => B_123_62 n y1 y2 y3 w4 w5 w6 S) c25 ?_
      exact Ev.b (pc' := 39) (L' := [.ref 29, .int y1, .int y2, .int 0, w4, w5, w6]) (st' := []) (h' := hh S) 2 (fun n => B_123_63 n y1 y2 y3 w4 w5 w6 S) (TL_123_1 xFu S y1 y2 (0 : Int32) _ _ hG w4 w5 w6)
    · rw [if_neg c25] at hG
      refine Ev.f (c := 65 ≤ y3) (p1 := 37) (L1 := [.ref 29, .int y1, .int y2, .int y3, w4, w5, w6]) (s1 := []) (h1 := hh S) (p2 := 10) (L2 := [.ref 29, .int y1, .int y2, .int y3, w4, w5, w6]) (s2 := []) (h2 := hh S) 3 (fun n => B_123_64 n y1 y2 y3 w4 w5 w6 S) c25 ?_
      by_cases g26 : xa_in y1 4
      rotate_left
      · rw [if_neg g26] at hG; cases hG
      rw [if_pos g26] at hG
      refine Ev.g (c := (kd 34).1 = 0 ∧ xa_in y1 (kd 34).2) (p1 := 22) (L1 := [.ref 29, .int y1, .int y2, .int y3, w4, w5, w6]) (s1 := [.int (S.1 34 (y1).toNatClampNeg), .int y3, .int y3, .ref 36]) (h1 := hh S) 8 (fun n => B_123_65 n y1 y2 y3 w4 w5 w6 S) (⟨rfl, g26⟩) ?_
      by_cases c27 : y3 = (S.1 34 (y1).toNatClampNeg)
      · rw [if_pos c27] at hG
        refine Ev.t (c := y3 = (S.1 34 (y1).toNatClampNeg)) (p1 := 25) (L1 := [.ref 29, .int y1, .int y2, .int y3, w4, w5, w6]) (s1 := [.int y3, .ref 36]) (h1 := hh S) (p2 := 29) (L2 := [.ref 29, .int y1, .int y2, .int y3, w4, w5, w6]) (s2 := [.int y3, .ref 36]) (h2 := hh S) 1 (fun n => B_123_66 n y1 y2 y3 w4 w5 w6 S) c27 ?_
        by_cases g28 : xa_in y3 65
        rotate_left
        · rw [if_neg g28] at hG; cases hG
        rw [if_pos g28] at hG
        refine Ev.g (c := (kd 36).1 = 1 ∧ xa_in y3 (kd 36).2 ∧ ((1 : Int32) = 0 ∨ (1 : Int32) = 1)) (p1 := 31) (L1 := [.ref 29, .int y1, .int y2, .int y3, w4, w5, w6]) (s1 := []) (h1 := hh (xa_u S.1 36 ((y3).toNatClampNeg) 1, S.2.1, S.2.2)) 3 (fun n => B_123_67 n y1 y2 y3 w4 w5 w6 S) (⟨rfl, g28, by decide⟩) ?_
        exact Ev.b (pc' := 4) (L' := [.ref 29, .int y1, .int y2, .int (y3 + 1), w4, w5, w6]) (st' := []) (h' := hh (xa_u S.1 36 ((y3).toNatClampNeg) 1, S.2.1, S.2.2)) 2 (fun n => B_123_68 n y1 y2 y3 w4 w5 w6 S) (ih (xa_u S.1 36 ((y3).toNatClampNeg) 1, S.2.1, S.2.2) y1 y2 (y3 + 1) _ _ hG w4 w5 w6)
      · rw [if_neg c27] at hG
        refine Ev.f (c := y3 = (S.1 34 (y1).toNatClampNeg)) (p1 := 25) (L1 := [.ref 29, .int y1, .int y2, .int y3, w4, w5, w6]) (s1 := [.int y3, .ref 36]) (h1 := hh S) (p2 := 29) (L2 := [.ref 29, .int y1, .int y2, .int y3, w4, w5, w6]) (s2 := [.int y3, .ref 36]) (h2 := hh S) 1 (fun n => B_123_69 n y1 y2 y3 w4 w5 w6 S) c27 ?_
        by_cases g29 : xa_in y3 65
        rotate_left
        · rw [if_neg g29] at hG; cases hG
        rw [if_pos g29] at hG
        refine Ev.g (c := (kd 36).1 = 1 ∧ xa_in y3 (kd 36).2 ∧ ((0 : Int32) = 0 ∨ (0 : Int32) = 1)) (p1 := 31) (L1 := [.ref 29, .int y1, .int y2, .int y3, w4, w5, w6]) (s1 := []) (h1 := hh (xa_u S.1 36 ((y3).toNatClampNeg) 0, S.2.1, S.2.2)) 2 (fun n => B_123_70 n y1 y2 y3 w4 w5 w6 S) (⟨rfl, g29, by decide⟩) ?_
        exact Ev.b (pc' := 4) (L' := [.ref 29, .int y1, .int y2, .int (y3 + 1), w4, w5, w6]) (st' := []) (h' := hh (xa_u S.1 36 ((y3).toNatClampNeg) 0, S.2.1, S.2.2)) 2 (fun n => B_123_71 n y1 y2 y3 w4 w5 w6 S) (ih (xa_u S.1 36 ((y3).toNatClampNeg) 0, S.2.1, S.2.2) y1 y2 (y3 + 1) _ _ hG w4 w5 w6)
def G_123 (S : St) (x1 : Int32) : Option (Int32 × St) :=
  GL_123_2 xFu S x1 (0 : Int32) (0 : Int32)
theorem B_123_72 {X : Nat × (Nat → Int32)} {d : Nat} (n : Nat) (x1 : Int32) (S : St) : ex X d 123 0 [.ref 29, .int x1, .retAddr 0, .retAddr 0, .retAddr 0, .retAddr 0, .retAddr 0] [] (hh S) (n + 4) = ex X d 123 4 [.ref 29, .int x1, .int 0, .int 0, .retAddr 0, .retAddr 0, .retAddr 0] [] (hh S) n := rfl
set_option maxRecDepth 200000 in
theorem T_123 {X : Nat × (Nat → Int32)} (S : St) (x1 : Int32) (r : Int32) (S' : St) (hG : G_123 S x1 = some (r, S')) : Ev X 6 123 0 [.ref 29, .int x1, .retAddr 0, .retAddr 0, .retAddr 0, .retAddr 0, .retAddr 0] [] (hh S) (xI r, hh S') := by
  unfold G_123 at hG
  exact Ev.b (pc' := 4) (L' := [.ref 29, .int x1, .int 0, .int 0, .retAddr 0, .retAddr 0, .retAddr 0]) (st' := []) (h' := hh S) 4 (fun n => B_123_72 n x1 S) (TL_123_2 xFu S x1 (0 : Int32) (0 : Int32) _ _ hG (.retAddr 0) (.retAddr 0) (.retAddr 0))
/-- 122: SceneCycleModel.shift(I)I -/
def G_122 (S : St) (x0 : Int32) : Option (Int32 × St) :=
  (if x0 ≤ 8 then
    some (x0, S)
  else
    some ((8 - x0), S)
  )
theorem B_122_1 {X : Nat × (Nat → Int32)} {d : Nat} (n : Nat) (x0 : Int32) (S : St) : ex X d 122 0 [.int x0] [] (hh S) (n + 3) = if x0 ≤ 8 then ex X d 122 13 [.int x0] [] (hh S) n else ex X d 122 6 [.int x0] [] (hh S) n := rfl
theorem B_122_2 {X : Nat × (Nat → Int32)} {d : Nat} (n : Nat) (x0 : Int32) (S : St) : ex X d 122 0 [.int x0] [] (hh S) (n + 3) = if x0 ≤ 8 then ex X d 122 13 [.int x0] [] (hh S) n else ex X d 122 6 [.int x0] [] (hh S) n := rfl
set_option maxRecDepth 200000 in
theorem T_122 {X : Nat × (Nat → Int32)} (S : St) (x0 : Int32) (r : Int32) (S' : St) (hG : G_122 S x0 = some (r, S')) : Ev X 0 122 0 [.int x0] [] (hh S) (xI r, hh S') := by
  unfold G_122 at hG
  by_cases c1 : x0 ≤ 8
  · rw [if_pos c1] at hG
    refine Ev.t (c := x0 ≤ 8) (p1 := 13) (L1 := [.int x0]) (s1 := []) (h1 := hh S) (p2 := 6) (L2 := [.int x0]) (s2 := []) (h2 := hh S) 3 (fun n => B_122_1 n x0 S) c1 ?_
    obtain ⟨e1, e2⟩ := Prod.mk.inj (Option.some.inj hG)
    subst e1
    subst e2
    exact Ev.r 2 (fun n => rfl)
  · rw [if_neg c1] at hG
    refine Ev.f (c := x0 ≤ 8) (p1 := 13) (L1 := [.int x0]) (s1 := []) (h1 := hh S) (p2 := 6) (L2 := [.int x0]) (s2 := []) (h2 := hh S) 3 (fun n => B_122_2 n x0 S) c1 ?_
    obtain ⟨e1, e2⟩ := Prod.mk.inj (Option.some.inj hG)
    subst e1
    subst e2
    exact Ev.r 5 (fun n => rfl)
