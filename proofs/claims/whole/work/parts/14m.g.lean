/-- 80, 81: Runner.holds, holdsOfOthers -/
def GR_80 : Nat → Nat → St → Int32 → Int32 → Option (Int32 × St)
  | 0, _, _, _, _ => none
  | n + 1, 0, S, u1, u2 =>
    (match G_76 S with
    | none => none
    | some (v1, S1) =>
      (if v1 < 5 then
        (match G_76 S1 with
        | none => none
        | some (v3, S3) =>
          (if v1 = 0 then
            (match G_52 S3 v3 with
            | none => none
            | some (v5, S5) =>
              (match G_76 S5 with
              | none => none
              | some (v6, S6) =>
                (if v5 = v6 then
                  some (1, S6)
                else
                  some (0, S6)
                )
              )
            )
          else
            (if v1 = 1 then
              (match G_52 S3 v3 with
              | none => none
              | some (v9, S9) =>
                (match G_76 S9 with
                | none => none
                | some (v10, S10) =>
                  (if v10 ≤ v9 then
                    some (0, S10)
                  else
                    some (1, S10)
                  )
                )
              )
            else
              (if v1 = 2 then
                (match G_54 S3 v3 with
                | none => none
                | some (v13, S13) =>
                  (if (v13 = 0 ∨ v13 = 1) then some (v13, S13) else none)
                )
              else
                (if v1 = 3 then
                  (if v3 = (S3.1 1 5) then
                    some (1, S3)
                  else
                    some (0, S3)
                  )
                else
                  (match G_55 S3 v3 with
                  | none => none
                  | some (v17, S17) =>
                    (match v17 with
                    | none =>
                      none
                    | some a18 =>
                      (match G_82 S17 a18 with
                      | none => none
                      | some (v19, S19) =>
                        (if (v19 = 0 ∨ v19 = 1) then some (v19, S19) else none)
                      )
                    )
                  )
                )
              )
            )
          )
        )
      else
        (if 6 ≤ u2 then
          some (0, S1)
        else
          (match GR_80 n 1 S1 v1 (u2 + 1) with
          | none => none
          | some (v22, S22) =>
            (if v22 = 0 then
              some (0, S22)
            else
              some (1, S22)
            )
          )
        )
      )
    )
  | n + 1, _ + 1, S, u1, u2 =>
    (match GR_80 n 0 S 0 u2 with
    | none => none
    | some (v24, S24) =>
      (if u1 = 5 then
        (if v24 = 0 then
          some (1, S24)
        else
          some (0, S24)
        )
      else
        (match GR_80 n 0 S24 0 u2 with
        | none => none
        | some (v27, S27) =>
          (if u1 = 6 then
            (if v24 = 0 then
              some (0, S27)
            else
              (if v27 = 0 then
                some (0, S27)
              else
                some (1, S27)
              )
            )
          else
            (if v24 = 0 then
              (if v27 = 0 then
                some (0, S27)
              else
                some (1, S27)
              )
            else
              some (1, S27)
            )
          )
        )
      )
    )
theorem B_80_1 {X : Nat × (Nat → Int32)} {d : Nat} (n : Nat) (u2 : Int32) (S : St) : ex X (d + 1) 80 0 [.ref 23, .ref 1, .int u2, .retAddr 0, .retAddr 0] [] (hh S) (n + 2) = (match ex X d 76 0 [.ref 23, .retAddr 0] [] (hh S) n with | some (v, h') => ex X (d + 1) 80 4 [.ref 23, .ref 1, .int u2, .retAddr 0, .retAddr 0] (v.toList ++ []) h' n | none => none) := rfl
theorem B_80_2 {X : Nat × (Nat → Int32)} {d : Nat} (n : Nat) (u2 : Int32) (v1 : Int32) (S1 : St) : ex X d 80 4 [.ref 23, .ref 1, .int u2, .retAddr 0, .retAddr 0] [.int v1] (hh S1) (n + 4) = if v1 < 5 then ex X d 80 34 [.ref 23, .ref 1, .int u2, .int v1, .retAddr 0] [] (hh S1) n else ex X d 80 10 [.ref 23, .ref 1, .int u2, .int v1, .retAddr 0] [] (hh S1) n := rfl
theorem B_80_3 {X : Nat × (Nat → Int32)} {d : Nat} (n : Nat) (u2 : Int32) (v1 : Int32) (S1 : St) : ex X (d + 1) 80 34 [.ref 23, .ref 1, .int u2, .int v1, .retAddr 0] [] (hh S1) (n + 2) = (match ex X d 76 0 [.ref 23, .retAddr 0] [] (hh S1) n with | some (v, h') => ex X (d + 1) 80 38 [.ref 23, .ref 1, .int u2, .int v1, .retAddr 0] (v.toList ++ []) h' n | none => none) := rfl
theorem B_80_4 {X : Nat × (Nat → Int32)} {d : Nat} (n : Nat) (u2 : Int32) (v1 : Int32) (v3 : Int32) (S3 : St) : ex X d 80 38 [.ref 23, .ref 1, .int u2, .int v1, .retAddr 0] [.int v3] (hh S3) (n + 3) = xa_sw [(0, 72), (1, 91), (2, 110), (3, 117)] v1 132 (fun t => ex X d 80 t [.ref 23, .ref 1, .int u2, .int v1, .int v3] [] (hh S3) n) := rfl
theorem B_80_5 {X : Nat × (Nat → Int32)} {d : Nat} (n : Nat) (u2 : Int32) (v1 : Int32) (v3 : Int32) (S3 : St) : ex X (d + 1) 80 72 [.ref 23, .ref 1, .int u2, .int v1, .int v3] [] (hh S3) (n + 3) = (match ex X d 52 0 [.ref 1, .int v3] [] (hh S3) n with | some (v, h') => ex X (d + 1) 80 78 [.ref 23, .ref 1, .int u2, .int v1, .int v3] (v.toList ++ []) h' n | none => none) := rfl
theorem B_80_6 {X : Nat × (Nat → Int32)} {d : Nat} (n : Nat) (u2 : Int32) (v1 : Int32) (v3 : Int32) (v5 : Int32) (S5 : St) : ex X (d + 1) 80 78 [.ref 23, .ref 1, .int u2, .int v1, .int v3] [.int v5] (hh S5) (n + 2) = (match ex X d 76 0 [.ref 23, .retAddr 0] [] (hh S5) n with | some (v, h') => ex X (d + 1) 80 82 [.ref 23, .ref 1, .int u2, .int v1, .int v3] (v.toList ++ [.int v5]) h' n | none => none) := rfl
theorem B_80_7 {X : Nat × (Nat → Int32)} {d : Nat} (n : Nat) (u2 : Int32) (v1 : Int32) (v3 : Int32) (v6 : Int32) (v5 : Int32) (S6 : St) : ex X d 80 82 [.ref 23, .ref 1, .int u2, .int v1, .int v3] [.int v6, .int v5] (hh S6) (n + 1) = if v5 = v6 then ex X d 80 85 [.ref 23, .ref 1, .int u2, .int v1, .int v3] [] (hh S6) n else ex X d 80 89 [.ref 23, .ref 1, .int u2, .int v1, .int v3] [] (hh S6) n := rfl
theorem B_80_8 {X : Nat × (Nat → Int32)} {d : Nat} (n : Nat) (u2 : Int32) (v1 : Int32) (v3 : Int32) (v6 : Int32) (v5 : Int32) (S6 : St) : ex X d 80 82 [.ref 23, .ref 1, .int u2, .int v1, .int v3] [.int v6, .int v5] (hh S6) (n + 1) = if v5 = v6 then ex X d 80 85 [.ref 23, .ref 1, .int u2, .int v1, .int v3] [] (hh S6) n else ex X d 80 89 [.ref 23, .ref 1, .int u2, .int v1, .int v3] [] (hh S6) n := rfl
theorem B_80_9 {X : Nat × (Nat → Int32)} {d : Nat} (n : Nat) (u2 : Int32) (v1 : Int32) (v3 : Int32) (S3 : St) : ex X (d + 1) 80 91 [.ref 23, .ref 1, .int u2, .int v1, .int v3] [] (hh S3) (n + 3) = (match ex X d 52 0 [.ref 1, .int v3] [] (hh S3) n with | some (v, h') => ex X (d + 1) 80 97 [.ref 23, .ref 1, .int u2, .int v1, .int v3] (v.toList ++ []) h' n | none => none) := rfl
theorem B_80_10 {X : Nat × (Nat → Int32)} {d : Nat} (n : Nat) (u2 : Int32) (v1 : Int32) (v3 : Int32) (v9 : Int32) (S9 : St) : ex X (d + 1) 80 97 [.ref 23, .ref 1, .int u2, .int v1, .int v3] [.int v9] (hh S9) (n + 2) = (match ex X d 76 0 [.ref 23, .retAddr 0] [] (hh S9) n with | some (v, h') => ex X (d + 1) 80 101 [.ref 23, .ref 1, .int u2, .int v1, .int v3] (v.toList ++ [.int v9]) h' n | none => none) := rfl
theorem B_80_11 {X : Nat × (Nat → Int32)} {d : Nat} (n : Nat) (u2 : Int32) (v1 : Int32) (v3 : Int32) (v10 : Int32) (v9 : Int32) (S10 : St) : ex X d 80 101 [.ref 23, .ref 1, .int u2, .int v1, .int v3] [.int v10, .int v9] (hh S10) (n + 1) = if v10 ≤ v9 then ex X d 80 108 [.ref 23, .ref 1, .int u2, .int v1, .int v3] [] (hh S10) n else ex X d 80 104 [.ref 23, .ref 1, .int u2, .int v1, .int v3] [] (hh S10) n := rfl
theorem B_80_12 {X : Nat × (Nat → Int32)} {d : Nat} (n : Nat) (u2 : Int32) (v1 : Int32) (v3 : Int32) (v10 : Int32) (v9 : Int32) (S10 : St) : ex X d 80 101 [.ref 23, .ref 1, .int u2, .int v1, .int v3] [.int v10, .int v9] (hh S10) (n + 1) = if v10 ≤ v9 then ex X d 80 108 [.ref 23, .ref 1, .int u2, .int v1, .int v3] [] (hh S10) n else ex X d 80 104 [.ref 23, .ref 1, .int u2, .int v1, .int v3] [] (hh S10) n := rfl
theorem B_80_13 {X : Nat × (Nat → Int32)} {d : Nat} (n : Nat) (u2 : Int32) (v1 : Int32) (v3 : Int32) (S3 : St) : ex X (d + 1) 80 110 [.ref 23, .ref 1, .int u2, .int v1, .int v3] [] (hh S3) (n + 3) = (match ex X d 54 0 [.ref 1, .int v3] [] (hh S3) n with | some (v, h') => ex X (d + 1) 80 116 [.ref 23, .ref 1, .int u2, .int v1, .int v3] (v.toList ++ []) h' n | none => none) := rfl
theorem B_80_14 {X : Nat × (Nat → Int32)} {d : Nat} (n : Nat) (u2 : Int32) (v1 : Int32) (v3 : Int32) (S3 : St) : ex X d 80 117 [.ref 23, .ref 1, .int u2, .int v1, .int v3] [] (hh S3) (n + 4) = if v3 = (S3.1 1 5) then ex X d 80 126 [.ref 23, .ref 1, .int u2, .int v1, .int v3] [] (hh S3) n else ex X d 80 130 [.ref 23, .ref 1, .int u2, .int v1, .int v3] [] (hh S3) n := rfl
theorem B_80_15 {X : Nat × (Nat → Int32)} {d : Nat} (n : Nat) (u2 : Int32) (v1 : Int32) (v3 : Int32) (S3 : St) : ex X d 80 117 [.ref 23, .ref 1, .int u2, .int v1, .int v3] [] (hh S3) (n + 4) = if v3 = (S3.1 1 5) then ex X d 80 126 [.ref 23, .ref 1, .int u2, .int v1, .int v3] [] (hh S3) n else ex X d 80 130 [.ref 23, .ref 1, .int u2, .int v1, .int v3] [] (hh S3) n := rfl
theorem B_80_16 {X : Nat × (Nat → Int32)} {d : Nat} (n : Nat) (u2 : Int32) (v1 : Int32) (v3 : Int32) (S3 : St) : ex X (d + 1) 80 132 [.ref 23, .ref 1, .int u2, .int v1, .int v3] [] (hh S3) (n + 4) = (match ex X d 55 0 [.ref 1, .int v3] [] (hh S3) n with | some (v, h') => ex X (d + 1) 80 139 [.ref 23, .ref 1, .int u2, .int v1, .int v3] (v.toList ++ [.ref 23]) h' n | none => none) := rfl
theorem B_80_17 {X : Nat × (Nat → Int32)} {d : Nat} (n : Nat) (u2 : Int32) (v1 : Int32) (v3 : Int32) (a18 : Nat) (S17 : St) : ex X (d + 1) 80 139 [.ref 23, .ref 1, .int u2, .int v1, .int v3] [.ref a18, .ref 23] (hh S17) (n + 1) = (match ex X d 82 0 [.ref 23, .ref a18, .retAddr 0, .retAddr 0, .retAddr 0, .retAddr 0] [] (hh S17) n with | some (v, h') => ex X (d + 1) 80 142 [.ref 23, .ref 1, .int u2, .int v1, .int v3] (v.toList ++ []) h' n | none => none) := rfl
theorem B_80_18 {X : Nat × (Nat → Int32)} {d : Nat} (n : Nat) (u2 : Int32) (v1 : Int32) (S1 : St) : ex X d 80 4 [.ref 23, .ref 1, .int u2, .retAddr 0, .retAddr 0] [.int v1] (hh S1) (n + 4) = if v1 < 5 then ex X d 80 34 [.ref 23, .ref 1, .int u2, .int v1, .retAddr 0] [] (hh S1) n else ex X d 80 10 [.ref 23, .ref 1, .int u2, .int v1, .retAddr 0] [] (hh S1) n := rfl
theorem B_80_19 {X : Nat × (Nat → Int32)} {d : Nat} (n : Nat) (u2 : Int32) (v1 : Int32) (S1 : St) : ex X d 80 10 [.ref 23, .ref 1, .int u2, .int v1, .retAddr 0] [] (hh S1) (n + 3) = if 6 ≤ u2 then ex X d 80 32 [.ref 23, .ref 1, .int u2, .int v1, .retAddr 0] [] (hh S1) n else ex X d 80 16 [.ref 23, .ref 1, .int u2, .int v1, .retAddr 0] [] (hh S1) n := rfl
theorem B_80_20 {X : Nat × (Nat → Int32)} {d : Nat} (n : Nat) (u2 : Int32) (v1 : Int32) (S1 : St) : ex X d 80 10 [.ref 23, .ref 1, .int u2, .int v1, .retAddr 0] [] (hh S1) (n + 3) = if 6 ≤ u2 then ex X d 80 32 [.ref 23, .ref 1, .int u2, .int v1, .retAddr 0] [] (hh S1) n else ex X d 80 16 [.ref 23, .ref 1, .int u2, .int v1, .retAddr 0] [] (hh S1) n := rfl
theorem B_80_21 {X : Nat × (Nat → Int32)} {d : Nat} (n : Nat) (u2 : Int32) (v1 : Int32) (S1 : St) : ex X (d + 1) 80 16 [.ref 23, .ref 1, .int u2, .int v1, .retAddr 0] [] (hh S1) (n + 7) = (match ex X d 81 0 [.ref 23, .ref 1, .int v1, .int (u2 + 1), .retAddr 0, .retAddr 0] [] (hh S1) n with | some (v, h') => ex X (d + 1) 80 25 [.ref 23, .ref 1, .int u2, .int v1, .retAddr 0] (v.toList ++ []) h' n | none => none) := rfl
theorem B_80_22 {X : Nat × (Nat → Int32)} {d : Nat} (n : Nat) (u2 : Int32) (v1 : Int32) (v22 : Int32) (S22 : St) : ex X d 80 25 [.ref 23, .ref 1, .int u2, .int v1, .retAddr 0] [.int v22] (hh S22) (n + 1) = if v22 = 0 then ex X d 80 32 [.ref 23, .ref 1, .int u2, .int v1, .retAddr 0] [] (hh S22) n else ex X d 80 28 [.ref 23, .ref 1, .int u2, .int v1, .retAddr 0] [] (hh S22) n := rfl
theorem B_80_23 {X : Nat × (Nat → Int32)} {d : Nat} (n : Nat) (u2 : Int32) (v1 : Int32) (v22 : Int32) (S22 : St) : ex X d 80 25 [.ref 23, .ref 1, .int u2, .int v1, .retAddr 0] [.int v22] (hh S22) (n + 1) = if v22 = 0 then ex X d 80 32 [.ref 23, .ref 1, .int u2, .int v1, .retAddr 0] [] (hh S22) n else ex X d 80 28 [.ref 23, .ref 1, .int u2, .int v1, .retAddr 0] [] (hh S22) n := rfl
theorem B_81_24 {X : Nat × (Nat → Int32)} {d : Nat} (n : Nat) (u1 : Int32) (u2 : Int32) (S : St) : ex X (d + 1) 81 0 [.ref 23, .ref 1, .int u1, .int u2, .retAddr 0, .retAddr 0] [] (hh S) (n + 4) = (match ex X d 80 0 [.ref 23, .ref 1, .int u2, .retAddr 0, .retAddr 0] [] (hh S) n with | some (v, h') => ex X (d + 1) 81 6 [.ref 23, .ref 1, .int u1, .int u2, .retAddr 0, .retAddr 0] (v.toList ++ []) h' n | none => none) := rfl
theorem B_81_25 {X : Nat × (Nat → Int32)} {d : Nat} (n : Nat) (u1 : Int32) (u2 : Int32) (v24 : Int32) (S24 : St) : ex X d 81 6 [.ref 23, .ref 1, .int u1, .int u2, .retAddr 0, .retAddr 0] [.int v24] (hh S24) (n + 4) = if u1 = 5 then ex X d 81 13 [.ref 23, .ref 1, .int u1, .int u2, .int v24, .retAddr 0] [] (hh S24) n else ex X d 81 24 [.ref 23, .ref 1, .int u1, .int u2, .int v24, .retAddr 0] [] (hh S24) n := rfl
theorem B_81_26 {X : Nat × (Nat → Int32)} {d : Nat} (n : Nat) (u1 : Int32) (u2 : Int32) (v24 : Int32) (S24 : St) : ex X d 81 13 [.ref 23, .ref 1, .int u1, .int u2, .int v24, .retAddr 0] [] (hh S24) (n + 2) = if v24 = 0 then ex X d 81 18 [.ref 23, .ref 1, .int u1, .int u2, .int v24, .retAddr 0] [] (hh S24) n else ex X d 81 22 [.ref 23, .ref 1, .int u1, .int u2, .int v24, .retAddr 0] [] (hh S24) n := rfl
theorem B_81_27 {X : Nat × (Nat → Int32)} {d : Nat} (n : Nat) (u1 : Int32) (u2 : Int32) (v24 : Int32) (S24 : St) : ex X d 81 13 [.ref 23, .ref 1, .int u1, .int u2, .int v24, .retAddr 0] [] (hh S24) (n + 2) = if v24 = 0 then ex X d 81 18 [.ref 23, .ref 1, .int u1, .int u2, .int v24, .retAddr 0] [] (hh S24) n else ex X d 81 22 [.ref 23, .ref 1, .int u1, .int u2, .int v24, .retAddr 0] [] (hh S24) n := rfl
theorem B_81_28 {X : Nat × (Nat → Int32)} {d : Nat} (n : Nat) (u1 : Int32) (u2 : Int32) (v24 : Int32) (S24 : St) : ex X d 81 6 [.ref 23, .ref 1, .int u1, .int u2, .retAddr 0, .retAddr 0] [.int v24] (hh S24) (n + 4) = if u1 = 5 then ex X d 81 13 [.ref 23, .ref 1, .int u1, .int u2, .int v24, .retAddr 0] [] (hh S24) n else ex X d 81 24 [.ref 23, .ref 1, .int u1, .int u2, .int v24, .retAddr 0] [] (hh S24) n := rfl
theorem B_81_29 {X : Nat × (Nat → Int32)} {d : Nat} (n : Nat) (u1 : Int32) (u2 : Int32) (v24 : Int32) (S24 : St) : ex X (d + 1) 81 24 [.ref 23, .ref 1, .int u1, .int u2, .int v24, .retAddr 0] [] (hh S24) (n + 4) = (match ex X d 80 0 [.ref 23, .ref 1, .int u2, .retAddr 0, .retAddr 0] [] (hh S24) n with | some (v, h') => ex X (d + 1) 81 30 [.ref 23, .ref 1, .int u1, .int u2, .int v24, .retAddr 0] (v.toList ++ []) h' n | none => none) := rfl
theorem B_81_30 {X : Nat × (Nat → Int32)} {d : Nat} (n : Nat) (u1 : Int32) (u2 : Int32) (v24 : Int32) (v27 : Int32) (S27 : St) : ex X d 81 30 [.ref 23, .ref 1, .int u1, .int u2, .int v24, .retAddr 0] [.int v27] (hh S27) (n + 4) = if u1 = 6 then ex X d 81 38 [.ref 23, .ref 1, .int u1, .int u2, .int v24, .int v27] [] (hh S27) n else ex X d 81 56 [.ref 23, .ref 1, .int u1, .int u2, .int v24, .int v27] [] (hh S27) n := rfl
theorem B_81_31 {X : Nat × (Nat → Int32)} {d : Nat} (n : Nat) (u1 : Int32) (u2 : Int32) (v24 : Int32) (v27 : Int32) (S27 : St) : ex X d 81 38 [.ref 23, .ref 1, .int u1, .int u2, .int v24, .int v27] [] (hh S27) (n + 2) = if v24 = 0 then ex X d 81 52 [.ref 23, .ref 1, .int u1, .int u2, .int v24, .int v27] [] (hh S27) n else ex X d 81 43 [.ref 23, .ref 1, .int u1, .int u2, .int v24, .int v27] [] (hh S27) n := rfl
theorem B_81_32 {X : Nat × (Nat → Int32)} {d : Nat} (n : Nat) (u1 : Int32) (u2 : Int32) (v24 : Int32) (v27 : Int32) (S27 : St) : ex X d 81 38 [.ref 23, .ref 1, .int u1, .int u2, .int v24, .int v27] [] (hh S27) (n + 2) = if v24 = 0 then ex X d 81 52 [.ref 23, .ref 1, .int u1, .int u2, .int v24, .int v27] [] (hh S27) n else ex X d 81 43 [.ref 23, .ref 1, .int u1, .int u2, .int v24, .int v27] [] (hh S27) n := rfl
theorem B_81_33 {X : Nat × (Nat → Int32)} {d : Nat} (n : Nat) (u1 : Int32) (u2 : Int32) (v24 : Int32) (v27 : Int32) (S27 : St) : ex X d 81 43 [.ref 23, .ref 1, .int u1, .int u2, .int v24, .int v27] [] (hh S27) (n + 2) = if v27 = 0 then ex X d 81 52 [.ref 23, .ref 1, .int u1, .int u2, .int v24, .int v27] [] (hh S27) n else ex X d 81 48 [.ref 23, .ref 1, .int u1, .int u2, .int v24, .int v27] [] (hh S27) n := rfl
theorem B_81_34 {X : Nat × (Nat → Int32)} {d : Nat} (n : Nat) (u1 : Int32) (u2 : Int32) (v24 : Int32) (v27 : Int32) (S27 : St) : ex X d 81 43 [.ref 23, .ref 1, .int u1, .int u2, .int v24, .int v27] [] (hh S27) (n + 2) = if v27 = 0 then ex X d 81 52 [.ref 23, .ref 1, .int u1, .int u2, .int v24, .int v27] [] (hh S27) n else ex X d 81 48 [.ref 23, .ref 1, .int u1, .int u2, .int v24, .int v27] [] (hh S27) n := rfl
theorem B_81_35 {X : Nat × (Nat → Int32)} {d : Nat} (n : Nat) (u1 : Int32) (u2 : Int32) (v24 : Int32) (v27 : Int32) (S27 : St) : ex X d 81 30 [.ref 23, .ref 1, .int u1, .int u2, .int v24, .retAddr 0] [.int v27] (hh S27) (n + 4) = if u1 = 6 then ex X d 81 38 [.ref 23, .ref 1, .int u1, .int u2, .int v24, .int v27] [] (hh S27) n else ex X d 81 56 [.ref 23, .ref 1, .int u1, .int u2, .int v24, .int v27] [] (hh S27) n := rfl
theorem B_81_36 {X : Nat × (Nat → Int32)} {d : Nat} (n : Nat) (u1 : Int32) (u2 : Int32) (v24 : Int32) (v27 : Int32) (S27 : St) : ex X d 81 56 [.ref 23, .ref 1, .int u1, .int u2, .int v24, .int v27] [] (hh S27) (n + 2) = if v24 = 0 then ex X d 81 61 [.ref 23, .ref 1, .int u1, .int u2, .int v24, .int v27] [] (hh S27) n else ex X d 81 66 [.ref 23, .ref 1, .int u1, .int u2, .int v24, .int v27] [] (hh S27) n := rfl
theorem B_81_37 {X : Nat × (Nat → Int32)} {d : Nat} (n : Nat) (u1 : Int32) (u2 : Int32) (v24 : Int32) (v27 : Int32) (S27 : St) : ex X d 81 61 [.ref 23, .ref 1, .int u1, .int u2, .int v24, .int v27] [] (hh S27) (n + 2) = if v27 = 0 then ex X d 81 70 [.ref 23, .ref 1, .int u1, .int u2, .int v24, .int v27] [] (hh S27) n else ex X d 81 66 [.ref 23, .ref 1, .int u1, .int u2, .int v24, .int v27] [] (hh S27) n := rfl
theorem B_81_38 {X : Nat × (Nat → Int32)} {d : Nat} (n : Nat) (u1 : Int32) (u2 : Int32) (v24 : Int32) (v27 : Int32) (S27 : St) : ex X d 81 61 [.ref 23, .ref 1, .int u1, .int u2, .int v24, .int v27] [] (hh S27) (n + 2) = if v27 = 0 then ex X d 81 70 [.ref 23, .ref 1, .int u1, .int u2, .int v24, .int v27] [] (hh S27) n else ex X d 81 66 [.ref 23, .ref 1, .int u1, .int u2, .int v24, .int v27] [] (hh S27) n := rfl
theorem B_81_39 {X : Nat × (Nat → Int32)} {d : Nat} (n : Nat) (u1 : Int32) (u2 : Int32) (v24 : Int32) (v27 : Int32) (S27 : St) : ex X d 81 56 [.ref 23, .ref 1, .int u1, .int u2, .int v24, .int v27] [] (hh S27) (n + 2) = if v24 = 0 then ex X d 81 61 [.ref 23, .ref 1, .int u1, .int u2, .int v24, .int v27] [] (hh S27) n else ex X d 81 66 [.ref 23, .ref 1, .int u1, .int u2, .int v24, .int v27] [] (hh S27) n := rfl
set_option maxRecDepth 200000 in
theorem TGR_80 {X : Nat × (Nat → Int32)} : ∀ (n : Nat) (S : St) (u1 : Int32) (u2 : Int32) (r : Int32) (S' : St), (GR_80 n 0 S u1 u2 = some (r, S') → Ev X (n + 3) 80 0 [.ref 23, .ref 1, .int u2, .retAddr 0, .retAddr 0] [] (hh S) (xI r, hh S')) ∧ (GR_80 n 1 S u1 u2 = some (r, S') → Ev X (n + 3) 81 0 [.ref 23, .ref 1, .int u1, .int u2, .retAddr 0, .retAddr 0] [] (hh S) (xI r, hh S')) := by
  intro n
  induction n with
  | zero => intro S u1 u2 r S'; refine ⟨?_, ?_⟩ <;> intro hG <;> simp [GR_80] at hG
  | succ n ih =>
    intro S u1 u2 r S'
    refine ⟨?_, ?_⟩
    · intro hG 
      rw [GR_80] at hG
      rcases h1 : G_76 S with _ | ⟨v1, S1⟩
      · rw [h1] at hG; cases hG
      rw [h1] at hG
      dsimp only at hG
      refine Ev.c (a := 76) (A := [.ref 23, .retAddr 0]) (h1 := hh S) (pc' := 4) (L' := [.ref 23, .ref 1, .int u2, .retAddr 0, .retAddr 0]) (rest := []) (r1 := some (.int v1)) (h2 := hh S1) 2 (fun n => B_80_1 n u2 S) (Ev.up (by omega) (T_76 S  _ _ h1)) ?_
      show Ev X _ 80 4 [.ref 23, .ref 1, .int u2, .retAddr 0, .retAddr 0] [.int v1] (hh S1) _
      by_cases c2 : v1 < 5
      · rw [if_pos c2] at hG
        refine Ev.t (c := v1 < 5) (p1 := 34) (L1 := [.ref 23, .ref 1, .int u2, .int v1, .retAddr 0]) (s1 := []) (h1 := hh S1) (p2 := 10) (L2 := [.ref 23, .ref 1, .int u2, .int v1, .retAddr 0]) (s2 := []) (h2 := hh S1) 4 (fun n => B_80_2 n u2 v1 S1) c2 ?_
        rcases h3 : G_76 S1 with _ | ⟨v3, S3⟩
        · rw [h3] at hG; cases hG
        rw [h3] at hG
        dsimp only at hG
        refine Ev.c (a := 76) (A := [.ref 23, .retAddr 0]) (h1 := hh S1) (pc' := 38) (L' := [.ref 23, .ref 1, .int u2, .int v1, .retAddr 0]) (rest := []) (r1 := some (.int v3)) (h2 := hh S3) 2 (fun n => B_80_3 n u2 v1 S1) (Ev.up (by omega) (T_76 S1  _ _ h3)) ?_
        show Ev X _ 80 38 [.ref 23, .ref 1, .int u2, .int v1, .retAddr 0] [.int v3] (hh S3) _
        refine Ev.sw (ks := [(0, 72), (1, 91), (2, 110), (3, 117)]) (x := v1) (df := 132) (L1 := [.ref 23, .ref 1, .int u2, .int v1, .int v3]) (s1 := []) (h1 := hh S3) 3 (fun n => B_80_4 n u2 v1 v3 S3) ?_
        by_cases c4 : v1 = 0
        · rw [if_pos c4] at hG
          rw [xa_sw, if_pos c4]
          show Ev X _ 80 72 [.ref 23, .ref 1, .int u2, .int v1, .int v3] [] (hh S3) _
          rcases h5 : G_52 S3 v3 with _ | ⟨v5, S5⟩
          · rw [h5] at hG; cases hG
          rw [h5] at hG
          dsimp only at hG
          refine Ev.c (a := 52) (A := [.ref 1, .int v3]) (h1 := hh S3) (pc' := 78) (L' := [.ref 23, .ref 1, .int u2, .int v1, .int v3]) (rest := []) (r1 := some (.int v5)) (h2 := hh S5) 3 (fun n => B_80_5 n u2 v1 v3 S3) (Ev.up (by omega) (T_52 S3 v3 _ _ h5)) ?_
          show Ev X _ 80 78 [.ref 23, .ref 1, .int u2, .int v1, .int v3] [.int v5] (hh S5) _
          rcases h6 : G_76 S5 with _ | ⟨v6, S6⟩
          · rw [h6] at hG; cases hG
          rw [h6] at hG
          dsimp only at hG
          refine Ev.c (a := 76) (A := [.ref 23, .retAddr 0]) (h1 := hh S5) (pc' := 82) (L' := [.ref 23, .ref 1, .int u2, .int v1, .int v3]) (rest := [.int v5]) (r1 := some (.int v6)) (h2 := hh S6) 2 (fun n => B_80_6 n u2 v1 v3 v5 S5) (Ev.up (by omega) (T_76 S5  _ _ h6)) ?_
          show Ev X _ 80 82 [.ref 23, .ref 1, .int u2, .int v1, .int v3] [.int v6, .int v5] (hh S6) _
          by_cases c7 : v5 = v6
          · rw [if_pos c7] at hG
            refine Ev.t (c := v5 = v6) (p1 := 85) (L1 := [.ref 23, .ref 1, .int u2, .int v1, .int v3]) (s1 := []) (h1 := hh S6) (p2 := 89) (L2 := [.ref 23, .ref 1, .int u2, .int v1, .int v3]) (s2 := []) (h2 := hh S6) 1 (fun n => B_80_7 n u2 v1 v3 v6 v5 S6) c7 ?_
            obtain ⟨e1, e2⟩ := Prod.mk.inj (Option.some.inj hG)
            subst e1
            subst e2
            exact Ev.rg (c := (xm_z 80 = 0 ∨ (xm_z 80 = 1 ∧ ((1 : Int32) = 0 ∨ (1 : Int32) = 1)) ∨ (xm_z 80 = 2 ∧ ((1 : Int32)).toInt8.toInt32 = (1 : Int32)) ∨ (xm_z 80 = 3 ∧ ((1 : Int32)).toUInt32.toUInt16.toUInt32.toInt32 = (1 : Int32)))) 3 (fun n => rfl) (Or.inr (Or.inl ⟨rfl, by decide⟩))
          · rw [if_neg c7] at hG
            refine Ev.f (c := v5 = v6) (p1 := 85) (L1 := [.ref 23, .ref 1, .int u2, .int v1, .int v3]) (s1 := []) (h1 := hh S6) (p2 := 89) (L2 := [.ref 23, .ref 1, .int u2, .int v1, .int v3]) (s2 := []) (h2 := hh S6) 1 (fun n => B_80_8 n u2 v1 v3 v6 v5 S6) c7 ?_
            obtain ⟨e1, e2⟩ := Prod.mk.inj (Option.some.inj hG)
            subst e1
            subst e2
            exact Ev.rg (c := (xm_z 80 = 0 ∨ (xm_z 80 = 1 ∧ ((0 : Int32) = 0 ∨ (0 : Int32) = 1)) ∨ (xm_z 80 = 2 ∧ ((0 : Int32)).toInt8.toInt32 = (0 : Int32)) ∨ (xm_z 80 = 3 ∧ ((0 : Int32)).toUInt32.toUInt16.toUInt32.toInt32 = (0 : Int32)))) 2 (fun n => rfl) (Or.inr (Or.inl ⟨rfl, by decide⟩))
        rw [if_neg c4] at hG
        rw [xa_sw, if_neg c4]
        by_cases c8 : v1 = 1
        · rw [if_pos c8] at hG
          rw [xa_sw, if_pos c8]
          show Ev X _ 80 91 [.ref 23, .ref 1, .int u2, .int v1, .int v3] [] (hh S3) _
          rcases h9 : G_52 S3 v3 with _ | ⟨v9, S9⟩
          · rw [h9] at hG; cases hG
          rw [h9] at hG
          dsimp only at hG
          refine Ev.c (a := 52) (A := [.ref 1, .int v3]) (h1 := hh S3) (pc' := 97) (L' := [.ref 23, .ref 1, .int u2, .int v1, .int v3]) (rest := []) (r1 := some (.int v9)) (h2 := hh S9) 3 (fun n => B_80_9 n u2 v1 v3 S3) (Ev.up (by omega) (T_52 S3 v3 _ _ h9)) ?_
          show Ev X _ 80 97 [.ref 23, .ref 1, .int u2, .int v1, .int v3] [.int v9] (hh S9) _
          rcases h10 : G_76 S9 with _ | ⟨v10, S10⟩
          · rw [h10] at hG; cases hG
          rw [h10] at hG
          dsimp only at hG
          refine Ev.c (a := 76) (A := [.ref 23, .retAddr 0]) (h1 := hh S9) (pc' := 101) (L' := [.ref 23, .ref 1, .int u2, .int v1, .int v3]) (rest := [.int v9]) (r1 := some (.int v10)) (h2 := hh S10) 2 (fun n => B_80_10 n u2 v1 v3 v9 S9) (Ev.up (by omega) (T_76 S9  _ _ h10)) ?_
          show Ev X _ 80 101 [.ref 23, .ref 1, .int u2, .int v1, .int v3] [.int v10, .int v9] (hh S10) _
          by_cases c11 : v10 ≤ v9
          · rw [if_pos c11] at hG
            refine Ev.t (c := v10 ≤ v9) (p1 := 108) (L1 := [.ref 23, .ref 1, .int u2, .int v1, .int v3]) (s1 := []) (h1 := hh S10) (p2 := 104) (L2 := [.ref 23, .ref 1, .int u2, .int v1, .int v3]) (s2 := []) (h2 := hh S10) 1 (fun n => B_80_11 n u2 v1 v3 v10 v9 S10) c11 ?_
            obtain ⟨e1, e2⟩ := Prod.mk.inj (Option.some.inj hG)
            subst e1
            subst e2
            exact Ev.rg (c := (xm_z 80 = 0 ∨ (xm_z 80 = 1 ∧ ((0 : Int32) = 0 ∨ (0 : Int32) = 1)) ∨ (xm_z 80 = 2 ∧ ((0 : Int32)).toInt8.toInt32 = (0 : Int32)) ∨ (xm_z 80 = 3 ∧ ((0 : Int32)).toUInt32.toUInt16.toUInt32.toInt32 = (0 : Int32)))) 2 (fun n => rfl) (Or.inr (Or.inl ⟨rfl, by decide⟩))
          · rw [if_neg c11] at hG
            refine Ev.f (c := v10 ≤ v9) (p1 := 108) (L1 := [.ref 23, .ref 1, .int u2, .int v1, .int v3]) (s1 := []) (h1 := hh S10) (p2 := 104) (L2 := [.ref 23, .ref 1, .int u2, .int v1, .int v3]) (s2 := []) (h2 := hh S10) 1 (fun n => B_80_12 n u2 v1 v3 v10 v9 S10) c11 ?_
            obtain ⟨e1, e2⟩ := Prod.mk.inj (Option.some.inj hG)
            subst e1
            subst e2
            exact Ev.rg (c := (xm_z 80 = 0 ∨ (xm_z 80 = 1 ∧ ((1 : Int32) = 0 ∨ (1 : Int32) = 1)) ∨ (xm_z 80 = 2 ∧ ((1 : Int32)).toInt8.toInt32 = (1 : Int32)) ∨ (xm_z 80 = 3 ∧ ((1 : Int32)).toUInt32.toUInt16.toUInt32.toInt32 = (1 : Int32)))) 3 (fun n => rfl) (Or.inr (Or.inl ⟨rfl, by decide⟩))
        rw [if_neg c8] at hG
        rw [xa_sw, if_neg c8]
        by_cases c12 : v1 = 2
        · rw [if_pos c12] at hG
          rw [xa_sw, if_pos c12]
          show Ev X _ 80 110 [.ref 23, .ref 1, .int u2, .int v1, .int v3] [] (hh S3) _
          rcases h13 : G_54 S3 v3 with _ | ⟨v13, S13⟩
          · rw [h13] at hG; cases hG
          rw [h13] at hG
          dsimp only at hG
          refine Ev.c (a := 54) (A := [.ref 1, .int v3]) (h1 := hh S3) (pc' := 116) (L' := [.ref 23, .ref 1, .int u2, .int v1, .int v3]) (rest := []) (r1 := some (.int v13)) (h2 := hh S13) 3 (fun n => B_80_13 n u2 v1 v3 S3) (Ev.up (by omega) (T_54 S3 v3 _ _ h13)) ?_
          show Ev X _ 80 116 [.ref 23, .ref 1, .int u2, .int v1, .int v3] [.int v13] (hh S13) _
          by_cases g14 : (v13 = 0 ∨ v13 = 1)
          rotate_left
          · rw [if_neg g14] at hG; cases hG
          rw [if_pos g14] at hG
          obtain ⟨e1, e2⟩ := Prod.mk.inj (Option.some.inj hG)
          subst e1
          subst e2
          exact Ev.rg (c := (xm_z 80 = 0 ∨ (xm_z 80 = 1 ∧ (v13 = 0 ∨ v13 = 1)) ∨ (xm_z 80 = 2 ∧ (v13).toInt8.toInt32 = v13) ∨ (xm_z 80 = 3 ∧ (v13).toUInt32.toUInt16.toUInt32.toInt32 = v13))) 1 (fun n => rfl) (Or.inr (Or.inl ⟨rfl, g14⟩))
        rw [if_neg c12] at hG
        rw [xa_sw, if_neg c12]
        by_cases c15 : v1 = 3
        · rw [if_pos c15] at hG
          rw [xa_sw, if_pos c15]
          show Ev X _ 80 117 [.ref 23, .ref 1, .int u2, .int v1, .int v3] [] (hh S3) _
          by_cases c16 : v3 = (S3.1 1 5)
          · rw [if_pos c16] at hG
            refine Ev.t (c := v3 = (S3.1 1 5)) (p1 := 126) (L1 := [.ref 23, .ref 1, .int u2, .int v1, .int v3]) (s1 := []) (h1 := hh S3) (p2 := 130) (L2 := [.ref 23, .ref 1, .int u2, .int v1, .int v3]) (s2 := []) (h2 := hh S3) 4 (fun n => B_80_14 n u2 v1 v3 S3) c16 ?_
            obtain ⟨e1, e2⟩ := Prod.mk.inj (Option.some.inj hG)
            subst e1
            subst e2
            exact Ev.rg (c := (xm_z 80 = 0 ∨ (xm_z 80 = 1 ∧ ((1 : Int32) = 0 ∨ (1 : Int32) = 1)) ∨ (xm_z 80 = 2 ∧ ((1 : Int32)).toInt8.toInt32 = (1 : Int32)) ∨ (xm_z 80 = 3 ∧ ((1 : Int32)).toUInt32.toUInt16.toUInt32.toInt32 = (1 : Int32)))) 3 (fun n => rfl) (Or.inr (Or.inl ⟨rfl, by decide⟩))
          · rw [if_neg c16] at hG
            refine Ev.f (c := v3 = (S3.1 1 5)) (p1 := 126) (L1 := [.ref 23, .ref 1, .int u2, .int v1, .int v3]) (s1 := []) (h1 := hh S3) (p2 := 130) (L2 := [.ref 23, .ref 1, .int u2, .int v1, .int v3]) (s2 := []) (h2 := hh S3) 4 (fun n => B_80_15 n u2 v1 v3 S3) c16 ?_
            obtain ⟨e1, e2⟩ := Prod.mk.inj (Option.some.inj hG)
            subst e1
            subst e2
            exact Ev.rg (c := (xm_z 80 = 0 ∨ (xm_z 80 = 1 ∧ ((0 : Int32) = 0 ∨ (0 : Int32) = 1)) ∨ (xm_z 80 = 2 ∧ ((0 : Int32)).toInt8.toInt32 = (0 : Int32)) ∨ (xm_z 80 = 3 ∧ ((0 : Int32)).toUInt32.toUInt16.toUInt32.toInt32 = (0 : Int32)))) 2 (fun n => rfl) (Or.inr (Or.inl ⟨rfl, by decide⟩))
        rw [if_neg c15] at hG
        rw [xa_sw, if_neg c15]
        rw [xa_sw]
        show Ev X _ 80 132 [.ref 23, .ref 1, .int u2, .int v1, .int v3] [] (hh S3) _
        rcases h17 : G_55 S3 v3 with _ | ⟨v17, S17⟩
        · rw [h17] at hG; cases hG
        rw [h17] at hG
        dsimp only at hG
        refine Ev.c (a := 55) (A := [.ref 1, .int v3]) (h1 := hh S3) (pc' := 139) (L' := [.ref 23, .ref 1, .int u2, .int v1, .int v3]) (rest := [.ref 23]) (r1 := some (va_rf v17)) (h2 := hh S17) 4 (fun n => B_80_16 n u2 v1 v3 S3) (Ev.up (by omega) (T_55 S3 v3 _ _ h17)) ?_
        rcases v17 with _ | a18
        · dsimp only at hG
          show Ev X _ 80 139 [.ref 23, .ref 1, .int u2, .int v1, .int v3] [.null, .ref 23] (hh S17) _
          cases hG
        · dsimp only at hG
          show Ev X _ 80 139 [.ref 23, .ref 1, .int u2, .int v1, .int v3] [.ref a18, .ref 23] (hh S17) _
          rcases h19 : G_82 S17 a18 with _ | ⟨v19, S19⟩
          · rw [h19] at hG; cases hG
          rw [h19] at hG
          dsimp only at hG
          refine Ev.c (a := 82) (A := [.ref 23, .ref a18, .retAddr 0, .retAddr 0, .retAddr 0, .retAddr 0]) (h1 := hh S17) (pc' := 142) (L' := [.ref 23, .ref 1, .int u2, .int v1, .int v3]) (rest := []) (r1 := some (.int v19)) (h2 := hh S19) 1 (fun n => B_80_17 n u2 v1 v3 a18 S17) (Ev.up (by omega) (T_82 S17 a18 _ _ h19)) ?_
          show Ev X _ 80 142 [.ref 23, .ref 1, .int u2, .int v1, .int v3] [.int v19] (hh S19) _
          by_cases g20 : (v19 = 0 ∨ v19 = 1)
          rotate_left
          · rw [if_neg g20] at hG; cases hG
          rw [if_pos g20] at hG
          obtain ⟨e1, e2⟩ := Prod.mk.inj (Option.some.inj hG)
          subst e1
          subst e2
          exact Ev.rg (c := (xm_z 80 = 0 ∨ (xm_z 80 = 1 ∧ (v19 = 0 ∨ v19 = 1)) ∨ (xm_z 80 = 2 ∧ (v19).toInt8.toInt32 = v19) ∨ (xm_z 80 = 3 ∧ (v19).toUInt32.toUInt16.toUInt32.toInt32 = v19))) 1 (fun n => rfl) (Or.inr (Or.inl ⟨rfl, g20⟩))
      · rw [if_neg c2] at hG
        refine Ev.f (c := v1 < 5) (p1 := 34) (L1 := [.ref 23, .ref 1, .int u2, .int v1, .retAddr 0]) (s1 := []) (h1 := hh S1) (p2 := 10) (L2 := [.ref 23, .ref 1, .int u2, .int v1, .retAddr 0]) (s2 := []) (h2 := hh S1) 4 (fun n => B_80_18 n u2 v1 S1) c2 ?_
        by_cases c21 : 6 ≤ u2
        · rw [if_pos c21] at hG
          refine Ev.t (c := 6 ≤ u2) (p1 := 32) (L1 := [.ref 23, .ref 1, .int u2, .int v1, .retAddr 0]) (s1 := []) (h1 := hh S1) (p2 := 16) (L2 := [.ref 23, .ref 1, .int u2, .int v1, .retAddr 0]) (s2 := []) (h2 := hh S1) 3 (fun n => B_80_19 n u2 v1 S1) c21 ?_
          obtain ⟨e1, e2⟩ := Prod.mk.inj (Option.some.inj hG)
          subst e1
          subst e2
          exact Ev.rg (c := (xm_z 80 = 0 ∨ (xm_z 80 = 1 ∧ ((0 : Int32) = 0 ∨ (0 : Int32) = 1)) ∨ (xm_z 80 = 2 ∧ ((0 : Int32)).toInt8.toInt32 = (0 : Int32)) ∨ (xm_z 80 = 3 ∧ ((0 : Int32)).toUInt32.toUInt16.toUInt32.toInt32 = (0 : Int32)))) 2 (fun n => rfl) (Or.inr (Or.inl ⟨rfl, by decide⟩))
        · rw [if_neg c21] at hG
          refine Ev.f (c := 6 ≤ u2) (p1 := 32) (L1 := [.ref 23, .ref 1, .int u2, .int v1, .retAddr 0]) (s1 := []) (h1 := hh S1) (p2 := 16) (L2 := [.ref 23, .ref 1, .int u2, .int v1, .retAddr 0]) (s2 := []) (h2 := hh S1) 3 (fun n => B_80_20 n u2 v1 S1) c21 ?_
          rcases h22 : GR_80 n 1 S1 v1 (u2 + 1) with _ | ⟨v22, S22⟩
          · rw [h22] at hG; cases hG
          rw [h22] at hG
          dsimp only at hG
          refine Ev.c (a := 81) (A := [.ref 23, .ref 1, .int v1, .int (u2 + 1), .retAddr 0, .retAddr 0]) (h1 := hh S1) (pc' := 25) (L' := [.ref 23, .ref 1, .int u2, .int v1, .retAddr 0]) (rest := []) (r1 := some (.int v22)) (h2 := hh S22) 7 (fun n => B_80_21 n u2 v1 S1) (Ev.up (by omega) ((ih S1 v1 (u2 + 1) _ _).2 h22)) ?_
          show Ev X _ 80 25 [.ref 23, .ref 1, .int u2, .int v1, .retAddr 0] [.int v22] (hh S22) _
          by_cases c23 : v22 = 0
          · rw [if_pos c23] at hG
            refine Ev.t (c := v22 = 0) (p1 := 32) (L1 := [.ref 23, .ref 1, .int u2, .int v1, .retAddr 0]) (s1 := []) (h1 := hh S22) (p2 := 28) (L2 := [.ref 23, .ref 1, .int u2, .int v1, .retAddr 0]) (s2 := []) (h2 := hh S22) 1 (fun n => B_80_22 n u2 v1 v22 S22) c23 ?_
            obtain ⟨e1, e2⟩ := Prod.mk.inj (Option.some.inj hG)
            subst e1
            subst e2
            exact Ev.rg (c := (xm_z 80 = 0 ∨ (xm_z 80 = 1 ∧ ((0 : Int32) = 0 ∨ (0 : Int32) = 1)) ∨ (xm_z 80 = 2 ∧ ((0 : Int32)).toInt8.toInt32 = (0 : Int32)) ∨ (xm_z 80 = 3 ∧ ((0 : Int32)).toUInt32.toUInt16.toUInt32.toInt32 = (0 : Int32)))) 2 (fun n => rfl) (Or.inr (Or.inl ⟨rfl, by decide⟩))
          · rw [if_neg c23] at hG
            refine Ev.f (c := v22 = 0) (p1 := 32) (L1 := [.ref 23, .ref 1, .int u2, .int v1, .retAddr 0]) (s1 := []) (h1 := hh S22) (p2 := 28) (L2 := [.ref 23, .ref 1, .int u2, .int v1, .retAddr 0]) (s2 := []) (h2 := hh S22) 1 (fun n => B_80_23 n u2 v1 v22 S22) c23 ?_
            obtain ⟨e1, e2⟩ := Prod.mk.inj (Option.some.inj hG)
            subst e1
            subst e2
            exact Ev.rg (c := (xm_z 80 = 0 ∨ (xm_z 80 = 1 ∧ ((1 : Int32) = 0 ∨ (1 : Int32) = 1)) ∨ (xm_z 80 = 2 ∧ ((1 : Int32)).toInt8.toInt32 = (1 : Int32)) ∨ (xm_z 80 = 3 ∧ ((1 : Int32)).toUInt32.toUInt16.toUInt32.toInt32 = (1 : Int32)))) 3 (fun n => rfl) (Or.inr (Or.inl ⟨rfl, by decide⟩))
    · intro hG 
      rw [GR_80] at hG
      rcases h24 : GR_80 n 0 S 0 u2 with _ | ⟨v24, S24⟩
      · rw [h24] at hG; cases hG
      rw [h24] at hG
      dsimp only at hG
      refine Ev.c (a := 80) (A := [.ref 23, .ref 1, .int u2, .retAddr 0, .retAddr 0]) (h1 := hh S) (pc' := 6) (L' := [.ref 23, .ref 1, .int u1, .int u2, .retAddr 0, .retAddr 0]) (rest := []) (r1 := some (.int v24)) (h2 := hh S24) 4 (fun n => B_81_24 n u1 u2 S) (Ev.up (by omega) ((ih S 0 u2 _ _).1 h24)) ?_
      show Ev X _ 81 6 [.ref 23, .ref 1, .int u1, .int u2, .retAddr 0, .retAddr 0] [.int v24] (hh S24) _
      by_cases c25 : u1 = 5
      · rw [if_pos c25] at hG
        refine Ev.t (c := u1 = 5) (p1 := 13) (L1 := [.ref 23, .ref 1, .int u1, .int u2, .int v24, .retAddr 0]) (s1 := []) (h1 := hh S24) (p2 := 24) (L2 := [.ref 23, .ref 1, .int u1, .int u2, .int v24, .retAddr 0]) (s2 := []) (h2 := hh S24) 4 (fun n => B_81_25 n u1 u2 v24 S24) c25 ?_
        by_cases c26 : v24 = 0
        · rw [if_pos c26] at hG
          refine Ev.t (c := v24 = 0) (p1 := 18) (L1 := [.ref 23, .ref 1, .int u1, .int u2, .int v24, .retAddr 0]) (s1 := []) (h1 := hh S24) (p2 := 22) (L2 := [.ref 23, .ref 1, .int u1, .int u2, .int v24, .retAddr 0]) (s2 := []) (h2 := hh S24) 2 (fun n => B_81_26 n u1 u2 v24 S24) c26 ?_
          obtain ⟨e1, e2⟩ := Prod.mk.inj (Option.some.inj hG)
          subst e1
          subst e2
          exact Ev.rg (c := (xm_z 81 = 0 ∨ (xm_z 81 = 1 ∧ ((1 : Int32) = 0 ∨ (1 : Int32) = 1)) ∨ (xm_z 81 = 2 ∧ ((1 : Int32)).toInt8.toInt32 = (1 : Int32)) ∨ (xm_z 81 = 3 ∧ ((1 : Int32)).toUInt32.toUInt16.toUInt32.toInt32 = (1 : Int32)))) 3 (fun n => rfl) (Or.inr (Or.inl ⟨rfl, by decide⟩))
        · rw [if_neg c26] at hG
          refine Ev.f (c := v24 = 0) (p1 := 18) (L1 := [.ref 23, .ref 1, .int u1, .int u2, .int v24, .retAddr 0]) (s1 := []) (h1 := hh S24) (p2 := 22) (L2 := [.ref 23, .ref 1, .int u1, .int u2, .int v24, .retAddr 0]) (s2 := []) (h2 := hh S24) 2 (fun n => B_81_27 n u1 u2 v24 S24) c26 ?_
          obtain ⟨e1, e2⟩ := Prod.mk.inj (Option.some.inj hG)
          subst e1
          subst e2
          exact Ev.rg (c := (xm_z 81 = 0 ∨ (xm_z 81 = 1 ∧ ((0 : Int32) = 0 ∨ (0 : Int32) = 1)) ∨ (xm_z 81 = 2 ∧ ((0 : Int32)).toInt8.toInt32 = (0 : Int32)) ∨ (xm_z 81 = 3 ∧ ((0 : Int32)).toUInt32.toUInt16.toUInt32.toInt32 = (0 : Int32)))) 2 (fun n => rfl) (Or.inr (Or.inl ⟨rfl, by decide⟩))
      · rw [if_neg c25] at hG
        refine Ev.f (c := u1 = 5) (p1 := 13) (L1 := [.ref 23, .ref 1, .int u1, .int u2, .int v24, .retAddr 0]) (s1 := []) (h1 := hh S24) (p2 := 24) (L2 := [.ref 23, .ref 1, .int u1, .int u2, .int v24, .retAddr 0]) (s2 := []) (h2 := hh S24) 4 (fun n => B_81_28 n u1 u2 v24 S24) c25 ?_
        rcases h27 : GR_80 n 0 S24 0 u2 with _ | ⟨v27, S27⟩
        · rw [h27] at hG; cases hG
        rw [h27] at hG
        dsimp only at hG
        refine Ev.c (a := 80) (A := [.ref 23, .ref 1, .int u2, .retAddr 0, .retAddr 0]) (h1 := hh S24) (pc' := 30) (L' := [.ref 23, .ref 1, .int u1, .int u2, .int v24, .retAddr 0]) (rest := []) (r1 := some (.int v27)) (h2 := hh S27) 4 (fun n => B_81_29 n u1 u2 v24 S24) (Ev.up (by omega) ((ih S24 0 u2 _ _).1 h27)) ?_
        show Ev X _ 81 30 [.ref 23, .ref 1, .int u1, .int u2, .int v24, .retAddr 0] [.int v27] (hh S27) _
        by_cases c28 : u1 = 6
        · rw [if_pos c28] at hG
          refine Ev.t (c := u1 = 6) (p1 := 38) (L1 := [.ref 23, .ref 1, .int u1, .int u2, .int v24, .int v27]) (s1 := []) (h1 := hh S27) (p2 := 56) (L2 := [.ref 23, .ref 1, .int u1, .int u2, .int v24, .int v27]) (s2 := []) (h2 := hh S27) 4 (fun n => B_81_30 n u1 u2 v24 v27 S27) c28 ?_
          by_cases c29 : v24 = 0
          · rw [if_pos c29] at hG
            refine Ev.t (c := v24 = 0) (p1 := 52) (L1 := [.ref 23, .ref 1, .int u1, .int u2, .int v24, .int v27]) (s1 := []) (h1 := hh S27) (p2 := 43) (L2 := [.ref 23, .ref 1, .int u1, .int u2, .int v24, .int v27]) (s2 := []) (h2 := hh S27) 2 (fun n => B_81_31 n u1 u2 v24 v27 S27) c29 ?_
            obtain ⟨e1, e2⟩ := Prod.mk.inj (Option.some.inj hG)
            subst e1
            subst e2
            exact Ev.rg (c := (xm_z 81 = 0 ∨ (xm_z 81 = 1 ∧ ((0 : Int32) = 0 ∨ (0 : Int32) = 1)) ∨ (xm_z 81 = 2 ∧ ((0 : Int32)).toInt8.toInt32 = (0 : Int32)) ∨ (xm_z 81 = 3 ∧ ((0 : Int32)).toUInt32.toUInt16.toUInt32.toInt32 = (0 : Int32)))) 3 (fun n => rfl) (Or.inr (Or.inl ⟨rfl, by decide⟩))
          · rw [if_neg c29] at hG
            refine Ev.f (c := v24 = 0) (p1 := 52) (L1 := [.ref 23, .ref 1, .int u1, .int u2, .int v24, .int v27]) (s1 := []) (h1 := hh S27) (p2 := 43) (L2 := [.ref 23, .ref 1, .int u1, .int u2, .int v24, .int v27]) (s2 := []) (h2 := hh S27) 2 (fun n => B_81_32 n u1 u2 v24 v27 S27) c29 ?_
            by_cases c30 : v27 = 0
            · rw [if_pos c30] at hG
              refine Ev.t (c := v27 = 0) (p1 := 52) (L1 := [.ref 23, .ref 1, .int u1, .int u2, .int v24, .int v27]) (s1 := []) (h1 := hh S27) (p2 := 48) (L2 := [.ref 23, .ref 1, .int u1, .int u2, .int v24, .int v27]) (s2 := []) (h2 := hh S27) 2 (fun n => B_81_33 n u1 u2 v24 v27 S27) c30 ?_
              obtain ⟨e1, e2⟩ := Prod.mk.inj (Option.some.inj hG)
              subst e1
              subst e2
              exact Ev.rg (c := (xm_z 81 = 0 ∨ (xm_z 81 = 1 ∧ ((0 : Int32) = 0 ∨ (0 : Int32) = 1)) ∨ (xm_z 81 = 2 ∧ ((0 : Int32)).toInt8.toInt32 = (0 : Int32)) ∨ (xm_z 81 = 3 ∧ ((0 : Int32)).toUInt32.toUInt16.toUInt32.toInt32 = (0 : Int32)))) 3 (fun n => rfl) (Or.inr (Or.inl ⟨rfl, by decide⟩))
            · rw [if_neg c30] at hG
              refine Ev.f (c := v27 = 0) (p1 := 52) (L1 := [.ref 23, .ref 1, .int u1, .int u2, .int v24, .int v27]) (s1 := []) (h1 := hh S27) (p2 := 48) (L2 := [.ref 23, .ref 1, .int u1, .int u2, .int v24, .int v27]) (s2 := []) (h2 := hh S27) 2 (fun n => B_81_34 n u1 u2 v24 v27 S27) c30 ?_
              obtain ⟨e1, e2⟩ := Prod.mk.inj (Option.some.inj hG)
              subst e1
              subst e2
              exact Ev.rg (c := (xm_z 81 = 0 ∨ (xm_z 81 = 1 ∧ ((1 : Int32) = 0 ∨ (1 : Int32) = 1)) ∨ (xm_z 81 = 2 ∧ ((1 : Int32)).toInt8.toInt32 = (1 : Int32)) ∨ (xm_z 81 = 3 ∧ ((1 : Int32)).toUInt32.toUInt16.toUInt32.toInt32 = (1 : Int32)))) 3 (fun n => rfl) (Or.inr (Or.inl ⟨rfl, by decide⟩))
        · rw [if_neg c28] at hG
          refine Ev.f (c := u1 = 6) (p1 := 38) (L1 := [.ref 23, .ref 1, .int u1, .int u2, .int v24, .int v27]) (s1 := []) (h1 := hh S27) (p2 := 56) (L2 := [.ref 23, .ref 1, .int u1, .int u2, .int v24, .int v27]) (s2 := []) (h2 := hh S27) 4 (fun n => B_81_35 n u1 u2 v24 v27 S27) c28 ?_
          by_cases c31 : v24 = 0
          · rw [if_pos c31] at hG
            refine Ev.t (c := v24 = 0) (p1 := 61) (L1 := [.ref 23, .ref 1, .int u1, .int u2, .int v24, .int v27]) (s1 := []) (h1 := hh S27) (p2 := 66) (L2 := [.ref 23, .ref 1, .int u1, .int u2, .int v24, .int v27]) (s2 := []) (h2 := hh S27) 2 (fun n => B_81_36 n u1 u2 v24 v27 S27) c31 ?_
            by_cases c32 : v27 = 0
            · rw [if_pos c32] at hG
              refine Ev.t (c := v27 = 0) (p1 := 70) (L1 := [.ref 23, .ref 1, .int u1, .int u2, .int v24, .int v27]) (s1 := []) (h1 := hh S27) (p2 := 66) (L2 := [.ref 23, .ref 1, .int u1, .int u2, .int v24, .int v27]) (s2 := []) (h2 := hh S27) 2 (fun n => B_81_37 n u1 u2 v24 v27 S27) c32 ?_
              obtain ⟨e1, e2⟩ := Prod.mk.inj (Option.some.inj hG)
              subst e1
              subst e2
              exact Ev.rg (c := (xm_z 81 = 0 ∨ (xm_z 81 = 1 ∧ ((0 : Int32) = 0 ∨ (0 : Int32) = 1)) ∨ (xm_z 81 = 2 ∧ ((0 : Int32)).toInt8.toInt32 = (0 : Int32)) ∨ (xm_z 81 = 3 ∧ ((0 : Int32)).toUInt32.toUInt16.toUInt32.toInt32 = (0 : Int32)))) 2 (fun n => rfl) (Or.inr (Or.inl ⟨rfl, by decide⟩))
            · rw [if_neg c32] at hG
              refine Ev.f (c := v27 = 0) (p1 := 70) (L1 := [.ref 23, .ref 1, .int u1, .int u2, .int v24, .int v27]) (s1 := []) (h1 := hh S27) (p2 := 66) (L2 := [.ref 23, .ref 1, .int u1, .int u2, .int v24, .int v27]) (s2 := []) (h2 := hh S27) 2 (fun n => B_81_38 n u1 u2 v24 v27 S27) c32 ?_
              obtain ⟨e1, e2⟩ := Prod.mk.inj (Option.some.inj hG)
              subst e1
              subst e2
              exact Ev.rg (c := (xm_z 81 = 0 ∨ (xm_z 81 = 1 ∧ ((1 : Int32) = 0 ∨ (1 : Int32) = 1)) ∨ (xm_z 81 = 2 ∧ ((1 : Int32)).toInt8.toInt32 = (1 : Int32)) ∨ (xm_z 81 = 3 ∧ ((1 : Int32)).toUInt32.toUInt16.toUInt32.toInt32 = (1 : Int32)))) 3 (fun n => rfl) (Or.inr (Or.inl ⟨rfl, by decide⟩))
          · rw [if_neg c31] at hG
            refine Ev.f (c := v24 = 0) (p1 := 61) (L1 := [.ref 23, .ref 1, .int u1, .int u2, .int v24, .int v27]) (s1 := []) (h1 := hh S27) (p2 := 66) (L2 := [.ref 23, .ref 1, .int u1, .int u2, .int v24, .int v27]) (s2 := []) (h2 := hh S27) 2 (fun n => B_81_39 n u1 u2 v24 v27 S27) c31 ?_
            obtain ⟨e1, e2⟩ := Prod.mk.inj (Option.some.inj hG)
            subst e1
            subst e2
            exact Ev.rg (c := (xm_z 81 = 0 ∨ (xm_z 81 = 1 ∧ ((1 : Int32) = 0 ∨ (1 : Int32) = 1)) ∨ (xm_z 81 = 2 ∧ ((1 : Int32)).toInt8.toInt32 = (1 : Int32)) ∨ (xm_z 81 = 3 ∧ ((1 : Int32)).toUInt32.toUInt16.toUInt32.toInt32 = (1 : Int32)))) 3 (fun n => rfl) (Or.inr (Or.inl ⟨rfl, by decide⟩))
def G_80 (S : St) (x2 : Int32) : Option (Int32 × St) := GR_80 40 0 S 0 x2
theorem T_80 {X : Nat × (Nat → Int32)} (S : St) (x2 : Int32) (r : Int32) (S' : St) (hG : G_80 S x2 = some (r, S')) : Ev X 43 80 0 [.ref 23, .ref 1, .int x2, .retAddr 0, .retAddr 0] [] (hh S) (xI r, hh S') := (TGR_80 40 S 0 x2 r S').1 hG
def G_81 (S : St) (x2 : Int32) (x3 : Int32) : Option (Int32 × St) := GR_80 40 1 S x2 x3
theorem T_81 {X : Nat × (Nat → Int32)} (S : St) (x2 : Int32) (x3 : Int32) (r : Int32) (S' : St) (hG : G_81 S x2 x3 = some (r, S')) : Ev X 43 81 0 [.ref 23, .ref 1, .int x2, .int x3, .retAddr 0, .retAddr 0] [] (hh S) (xI r, hh S') := (TGR_80 40 S x2 x3 r S').2 hG
/-- 61, 62: LogicReader.readOperands, readTest -/
def GR_61 : Nat → Nat → St → Nat → Nat → Int32 → Int32 → Option (Unit × St)
  | 0, _, _, _, _, _, _ => none
  | n + 1, 0, S, u1, u2, u3, u4 =>
    GR_61 n 2 S u1 u2 u3 (0 : Int32)
  | n + 1, 1, S, u1, u2, u3, u4 =>
    (if (kd u1).1 = 10 + 1 then
      (match G_25 S u1 (S.1 27 1) with
      | none => none
      | some (v1, S1) =>
        (if v1 < 5 then
          (if 7 < v1 then
            some ((), (xa_u S1.1 27 2 (S1.1 27 1), S1.2.1, S1.2.2))
          else
            (match G_63 (xa_u S1.1 27 1 ((S1.1 27 1) + 1), S1.2.1, S1.2.2) v1 with
            | none => none
            | some (v5, S5) =>
              (match v5 with
              | none =>
                none
              | some a6 =>
                (match GR_61 n 0 S5 u1 a6 u3 0 with
                | none => none
                | some (v7, S7) =>
                  some ((), S7)
                )
              )
            )
          )
        else
          (if 7 < v1 then
            some ((), (xa_u S1.1 27 2 (S1.1 27 1), S1.2.1, S1.2.2))
          else
            (if u3 < 6 then
              (match G_63 (xa_u S1.1 27 1 ((S1.1 27 1) + 1), S1.2.1, S1.2.2) v1 with
              | none => none
              | some (v10, S10) =>
                (match v10 with
                | none =>
                  none
                | some a11 =>
                  (match GR_61 n 0 S10 u1 a11 (u3 + 1) 0 with
                  | none => none
                  | some (v12, S12) =>
                    some ((), S12)
                  )
                )
              )
            else
              some ((), (xa_u S1.1 27 2 (S1.1 27 1), S1.2.1, S1.2.2))
            )
          )
        )
      )
    else none)
  | n + 1, _ + 2, S, u1, u2, u3, u4 =>
    (if (2000 ≤ u2 ∧ u2 < 2000 + xS_n) then
      (match G_6 S u2 with
      | none => none
      | some (v13, S13) =>
        (if v13 ≤ u4 then
          some ((), S13)
        else
          (if (S13.1 27 2) = (-1) then
            (if (kd u1).1 = 10 + 1 then
              (if (S13.1 27 1) < (S13.1 u1 1) then
                (match G_8 S13 u2 u4 with
                | none => none
                | some (v19, S19) =>
                  (if v19 = 116 then
                    (match GR_61 n 1 S19 u1 0 u3 0 with
                    | none => none
                    | some (v21, S21) =>
                      GR_61 n 2 S21 u1 u2 u3 (u4 + 1)
                    )
                  else
                    (match G_8 S19 u2 u4 with
                    | none => none
                    | some (v22, S22) =>
                      (match G_25 S22 u1 (S22.1 27 1) with
                      | none => none
                      | some (v23, S23) =>
                        (match G_64 S23 v22 v23 with
                        | none => none
                        | some (v24, S24) =>
                          (if v24 = 0 then
                            GR_61 n 2 (xa_u S24.1 27 2 (S24.1 27 1), S24.2.1, S24.2.2) u1 u2 u3 (u4 + 1)
                          else
                            GR_61 n 2 (xa_u S24.1 27 1 ((S24.1 27 1) + 1), S24.2.1, S24.2.2) u1 u2 u3 (u4 + 1)
                          )
                        )
                      )
                    )
                  )
                )
              else
                GR_61 n 2 (xa_u S13.1 27 2 (S13.1 u1 1), S13.2.1, S13.2.2) u1 u2 u3 (u4 + 1)
              )
            else none)
          else
            some ((), S13)
          )
        )
      )
    else none)
theorem B_61_1 {X : Nat × (Nat → Int32)} {d : Nat} (n : Nat) (u1 : Nat) (u2 : Nat) (u3 : Int32) (S : St) : ex X d 61 0 [.ref 27, .ref u1, .ref u2, .int u3, .retAddr 0] [] (hh S) (n + 2) = ex X d 61 3 [.ref 27, .ref u1, .ref u2, .int u3, .int 0] [] (hh S) n := rfl
theorem B_62_2 {X : Nat × (Nat → Int32)} {d : Nat} (n : Nat) (u1 : Nat) (u3 : Int32) (S : St) : ex X (d + 1) 62 0 [.ref 27, .ref u1, .int u3, .retAddr 0, .retAddr 0] [] (hh S) (n + 4) = if (xm_o 25 = 200 ∧ 2000 ≤ u1 ∧ u1 < 2000 + xS_n) ∨ (xm_o 25 ≠ 200 ∧ (kd u1).1 = 10 + xm_o 25) then (match ex X d 25 0 [.ref u1, .int (S.1 27 1)] [] (hh S) n with | some (v, h') => ex X (d + 1) 62 8 [.ref 27, .ref u1, .int u3, .retAddr 0, .retAddr 0] (v.toList ++ []) h' n | none => none) else none := rfl
theorem B_62_3 {X : Nat × (Nat → Int32)} {d : Nat} (n : Nat) (u1 : Nat) (u3 : Int32) (v1 : Int32) (S1 : St) : ex X d 62 8 [.ref 27, .ref u1, .int u3, .retAddr 0, .retAddr 0] [.int v1] (hh S1) (n + 4) = if v1 < 5 then ex X d 62 18 [.ref 27, .ref u1, .int u3, .int v1, .retAddr 0] [] (hh S1) n else ex X d 62 14 [.ref 27, .ref u1, .int u3, .int v1, .retAddr 0] [] (hh S1) n := rfl
theorem B_62_4 {X : Nat × (Nat → Int32)} {d : Nat} (n : Nat) (u1 : Nat) (u3 : Int32) (v1 : Int32) (S1 : St) : ex X d 62 18 [.ref 27, .ref u1, .int u3, .int v1, .retAddr 0] [] (hh S1) (n + 5) = if 7 < v1 then ex X d 62 38 [.ref 27, .ref u1, .int u3, .int v1, .int 0] [] (hh S1) n else ex X d 62 27 [.ref 27, .ref u1, .int u3, .int v1, .int 0] [] (hh S1) n := rfl
theorem B_62_5 {X : Nat × (Nat → Int32)} {d : Nat} (n : Nat) (u1 : Nat) (u3 : Int32) (v1 : Int32) (S1 : St) : ex X d 62 38 [.ref 27, .ref u1, .int u3, .int v1, .int 0] [] (hh S1) (n + 4) = if (kd 27).1 = 10 + 5 ∧ (xf_k 5 2 = 0 ∨ (xf_k 5 2 = 1 ∧ ((S1.1 27 1) = 0 ∨ (S1.1 27 1) = 1))) then ex X d 62 46 [.ref 27, .ref u1, .int u3, .int v1, .int 0] [] (hh (xa_u S1.1 27 2 (S1.1 27 1), S1.2.1, S1.2.2)) n else none := rfl
theorem B_62_6 {X : Nat × (Nat → Int32)} {d : Nat} (n : Nat) (u1 : Nat) (u3 : Int32) (v1 : Int32) (S1 : St) : ex X d 62 18 [.ref 27, .ref u1, .int u3, .int v1, .retAddr 0] [] (hh S1) (n + 5) = if 7 < v1 then ex X d 62 38 [.ref 27, .ref u1, .int u3, .int v1, .int 0] [] (hh S1) n else ex X d 62 27 [.ref 27, .ref u1, .int u3, .int v1, .int 0] [] (hh S1) n := rfl
theorem B_62_7 {X : Nat × (Nat → Int32)} {d : Nat} (n : Nat) (u1 : Nat) (u3 : Int32) (v1 : Int32) (S1 : St) : ex X d 62 27 [.ref 27, .ref u1, .int u3, .int v1, .int 0] [] (hh S1) (n + 2) = if (0 : Int32) = 0 then ex X d 62 47 [.ref 27, .ref u1, .int u3, .int v1, .int 0] [] (hh S1) n else ex X d 62 32 [.ref 27, .ref u1, .int u3, .int v1, .int 0] [] (hh S1) n := rfl
theorem B_62_8 {X : Nat × (Nat → Int32)} {d : Nat} (n : Nat) (u1 : Nat) (u3 : Int32) (v1 : Int32) (S1 : St) : ex X d 62 47 [.ref 27, .ref u1, .int u3, .int v1, .int 0] [] (hh S1) (n + 6) = if (kd 27).1 = 10 + 5 ∧ (xf_k 5 1 = 0 ∨ (xf_k 5 1 = 1 ∧ (((S1.1 27 1) + 1) = 0 ∨ ((S1.1 27 1) + 1) = 1))) then ex X d 62 57 [.ref 27, .ref u1, .int u3, .int v1, .int 0] [] (hh (xa_u S1.1 27 1 ((S1.1 27 1) + 1), S1.2.1, S1.2.2)) n else none := rfl
theorem B_62_9 {X : Nat × (Nat → Int32)} {d : Nat} (n : Nat) (u1 : Nat) (u3 : Int32) (v1 : Int32) (S1 : St) : ex X (d + 1) 62 57 [.ref 27, .ref u1, .int u3, .int v1, .int 0] [] (hh (xa_u S1.1 27 1 ((S1.1 27 1) + 1), S1.2.1, S1.2.2)) (n + 4) = (match ex X d 63 0 [.int v1] [] (hh (xa_u S1.1 27 1 ((S1.1 27 1) + 1), S1.2.1, S1.2.2)) n with | some (v, h') => ex X (d + 1) 62 63 [.ref 27, .ref u1, .int u3, .int v1, .int 0] (v.toList ++ [.ref u1, .ref 27]) h' n | none => none) := rfl
theorem B_62_10 {X : Nat × (Nat → Int32)} {d : Nat} (n : Nat) (u1 : Nat) (u3 : Int32) (v1 : Int32) (S5 : St) : ex X d 62 63 [.ref 27, .ref u1, .int u3, .int v1, .int 0] [.null, .ref u1, .ref 27] (hh S5) (n + 2) = if (0 : Int32) = 0 then ex X d 62 74 [.ref 27, .ref u1, .int u3, .int v1, .int 0] [.null, .ref u1, .ref 27] (hh S5) n else ex X d 62 68 [.ref 27, .ref u1, .int u3, .int v1, .int 0] [.null, .ref u1, .ref 27] (hh S5) n := rfl
theorem B_62_11 {X : Nat × (Nat → Int32)} {d : Nat} (n : Nat) (u1 : Nat) (u3 : Int32) (v1 : Int32) (a6 : Nat) (S5 : St) : ex X d 62 63 [.ref 27, .ref u1, .int u3, .int v1, .int 0] [.ref a6, .ref u1, .ref 27] (hh S5) (n + 2) = if (0 : Int32) = 0 then ex X d 62 74 [.ref 27, .ref u1, .int u3, .int v1, .int 0] [.ref a6, .ref u1, .ref 27] (hh S5) n else ex X d 62 68 [.ref 27, .ref u1, .int u3, .int v1, .int 0] [.ref a6, .ref u1, .ref 27] (hh S5) n := rfl
theorem B_62_12 {X : Nat × (Nat → Int32)} {d : Nat} (n : Nat) (u1 : Nat) (u3 : Int32) (v1 : Int32) (a6 : Nat) (S5 : St) : ex X (d + 1) 62 74 [.ref 27, .ref u1, .int u3, .int v1, .int 0] [.ref a6, .ref u1, .ref 27] (hh S5) (n + 2) = (match ex X d 61 0 [.ref 27, .ref u1, .ref a6, .int u3, .retAddr 0] [] (hh S5) n with | some (v, h') => ex X (d + 1) 62 78 [.ref 27, .ref u1, .int u3, .int v1, .int 0] (v.toList ++ []) h' n | none => none) := rfl
theorem B_62_13 {X : Nat × (Nat → Int32)} {d : Nat} (n : Nat) (u1 : Nat) (u3 : Int32) (v1 : Int32) (S1 : St) : ex X d 62 8 [.ref 27, .ref u1, .int u3, .retAddr 0, .retAddr 0] [.int v1] (hh S1) (n + 4) = if v1 < 5 then ex X d 62 18 [.ref 27, .ref u1, .int u3, .int v1, .retAddr 0] [] (hh S1) n else ex X d 62 14 [.ref 27, .ref u1, .int u3, .int v1, .retAddr 0] [] (hh S1) n := rfl
theorem B_62_14 {X : Nat × (Nat → Int32)} {d : Nat} (n : Nat) (u1 : Nat) (u3 : Int32) (v1 : Int32) (S1 : St) : ex X d 62 14 [.ref 27, .ref u1, .int u3, .int v1, .retAddr 0] [] (hh S1) (n + 6) = if 7 < v1 then ex X d 62 38 [.ref 27, .ref u1, .int u3, .int v1, .int 1] [] (hh S1) n else ex X d 62 27 [.ref 27, .ref u1, .int u3, .int v1, .int 1] [] (hh S1) n := rfl
theorem B_62_15 {X : Nat × (Nat → Int32)} {d : Nat} (n : Nat) (u1 : Nat) (u3 : Int32) (v1 : Int32) (S1 : St) : ex X d 62 38 [.ref 27, .ref u1, .int u3, .int v1, .int 1] [] (hh S1) (n + 4) = if (kd 27).1 = 10 + 5 ∧ (xf_k 5 2 = 0 ∨ (xf_k 5 2 = 1 ∧ ((S1.1 27 1) = 0 ∨ (S1.1 27 1) = 1))) then ex X d 62 46 [.ref 27, .ref u1, .int u3, .int v1, .int 1] [] (hh (xa_u S1.1 27 2 (S1.1 27 1), S1.2.1, S1.2.2)) n else none := rfl
theorem B_62_16 {X : Nat × (Nat → Int32)} {d : Nat} (n : Nat) (u1 : Nat) (u3 : Int32) (v1 : Int32) (S1 : St) : ex X d 62 14 [.ref 27, .ref u1, .int u3, .int v1, .retAddr 0] [] (hh S1) (n + 6) = if 7 < v1 then ex X d 62 38 [.ref 27, .ref u1, .int u3, .int v1, .int 1] [] (hh S1) n else ex X d 62 27 [.ref 27, .ref u1, .int u3, .int v1, .int 1] [] (hh S1) n := rfl
theorem B_62_17 {X : Nat × (Nat → Int32)} {d : Nat} (n : Nat) (u1 : Nat) (u3 : Int32) (v1 : Int32) (S1 : St) : ex X d 62 27 [.ref 27, .ref u1, .int u3, .int v1, .int 1] [] (hh S1) (n + 2) = if (1 : Int32) = 0 then ex X d 62 47 [.ref 27, .ref u1, .int u3, .int v1, .int 1] [] (hh S1) n else ex X d 62 32 [.ref 27, .ref u1, .int u3, .int v1, .int 1] [] (hh S1) n := rfl
theorem B_62_18 {X : Nat × (Nat → Int32)} {d : Nat} (n : Nat) (u1 : Nat) (u3 : Int32) (v1 : Int32) (S1 : St) : ex X d 62 32 [.ref 27, .ref u1, .int u3, .int v1, .int 1] [] (hh S1) (n + 3) = if u3 < 6 then ex X d 62 47 [.ref 27, .ref u1, .int u3, .int v1, .int 1] [] (hh S1) n else ex X d 62 38 [.ref 27, .ref u1, .int u3, .int v1, .int 1] [] (hh S1) n := rfl
theorem B_62_19 {X : Nat × (Nat → Int32)} {d : Nat} (n : Nat) (u1 : Nat) (u3 : Int32) (v1 : Int32) (S1 : St) : ex X d 62 47 [.ref 27, .ref u1, .int u3, .int v1, .int 1] [] (hh S1) (n + 6) = if (kd 27).1 = 10 + 5 ∧ (xf_k 5 1 = 0 ∨ (xf_k 5 1 = 1 ∧ (((S1.1 27 1) + 1) = 0 ∨ ((S1.1 27 1) + 1) = 1))) then ex X d 62 57 [.ref 27, .ref u1, .int u3, .int v1, .int 1] [] (hh (xa_u S1.1 27 1 ((S1.1 27 1) + 1), S1.2.1, S1.2.2)) n else none := rfl
theorem B_62_20 {X : Nat × (Nat → Int32)} {d : Nat} (n : Nat) (u1 : Nat) (u3 : Int32) (v1 : Int32) (S1 : St) : ex X (d + 1) 62 57 [.ref 27, .ref u1, .int u3, .int v1, .int 1] [] (hh (xa_u S1.1 27 1 ((S1.1 27 1) + 1), S1.2.1, S1.2.2)) (n + 4) = (match ex X d 63 0 [.int v1] [] (hh (xa_u S1.1 27 1 ((S1.1 27 1) + 1), S1.2.1, S1.2.2)) n with | some (v, h') => ex X (d + 1) 62 63 [.ref 27, .ref u1, .int u3, .int v1, .int 1] (v.toList ++ [.ref u1, .ref 27]) h' n | none => none) := rfl
theorem B_62_21 {X : Nat × (Nat → Int32)} {d : Nat} (n : Nat) (u1 : Nat) (u3 : Int32) (v1 : Int32) (S10 : St) : ex X d 62 63 [.ref 27, .ref u1, .int u3, .int v1, .int 1] [.null, .ref u1, .ref 27] (hh S10) (n + 2) = if (1 : Int32) = 0 then ex X d 62 74 [.ref 27, .ref u1, .int u3, .int v1, .int 1] [.null, .ref u1, .ref 27] (hh S10) n else ex X d 62 68 [.ref 27, .ref u1, .int u3, .int v1, .int 1] [.null, .ref u1, .ref 27] (hh S10) n := rfl
theorem B_62_22 {X : Nat × (Nat → Int32)} {d : Nat} (n : Nat) (u1 : Nat) (u3 : Int32) (v1 : Int32) (a11 : Nat) (S10 : St) : ex X d 62 63 [.ref 27, .ref u1, .int u3, .int v1, .int 1] [.ref a11, .ref u1, .ref 27] (hh S10) (n + 2) = if (1 : Int32) = 0 then ex X d 62 74 [.ref 27, .ref u1, .int u3, .int v1, .int 1] [.ref a11, .ref u1, .ref 27] (hh S10) n else ex X d 62 68 [.ref 27, .ref u1, .int u3, .int v1, .int 1] [.ref a11, .ref u1, .ref 27] (hh S10) n := rfl
theorem B_62_23 {X : Nat × (Nat → Int32)} {d : Nat} (n : Nat) (u1 : Nat) (u3 : Int32) (v1 : Int32) (a11 : Nat) (S10 : St) : ex X (d + 1) 62 68 [.ref 27, .ref u1, .int u3, .int v1, .int 1] [.ref a11, .ref u1, .ref 27] (hh S10) (n + 5) = (match ex X d 61 0 [.ref 27, .ref u1, .ref a11, .int (u3 + 1), .retAddr 0] [] (hh S10) n with | some (v, h') => ex X (d + 1) 62 78 [.ref 27, .ref u1, .int u3, .int v1, .int 1] (v.toList ++ []) h' n | none => none) := rfl
theorem B_62_24 {X : Nat × (Nat → Int32)} {d : Nat} (n : Nat) (u1 : Nat) (u3 : Int32) (v1 : Int32) (S1 : St) : ex X d 62 32 [.ref 27, .ref u1, .int u3, .int v1, .int 1] [] (hh S1) (n + 3) = if u3 < 6 then ex X d 62 47 [.ref 27, .ref u1, .int u3, .int v1, .int 1] [] (hh S1) n else ex X d 62 38 [.ref 27, .ref u1, .int u3, .int v1, .int 1] [] (hh S1) n := rfl
theorem B_62_25 {X : Nat × (Nat → Int32)} {d : Nat} (n : Nat) (u1 : Nat) (u3 : Int32) (v1 : Int32) (S1 : St) : ex X d 62 38 [.ref 27, .ref u1, .int u3, .int v1, .int 1] [] (hh S1) (n + 4) = if (kd 27).1 = 10 + 5 ∧ (xf_k 5 2 = 0 ∨ (xf_k 5 2 = 1 ∧ ((S1.1 27 1) = 0 ∨ (S1.1 27 1) = 1))) then ex X d 62 46 [.ref 27, .ref u1, .int u3, .int v1, .int 1] [] (hh (xa_u S1.1 27 2 (S1.1 27 1), S1.2.1, S1.2.2)) n else none := rfl
theorem B_61_26 {X : Nat × (Nat → Int32)} {d : Nat} (n : Nat) (u1 : Nat) (u2 : Nat) (u3 : Int32) (u4 : Int32) (S : St) : ex X (d + 1) 61 3 [.ref 27, .ref u1, .ref u2, .int u3, .int u4] [] (hh S) (n + 3) = if (xm_o 6 = 200 ∧ 2000 ≤ u2 ∧ u2 < 2000 + xS_n) ∨ (xm_o 6 ≠ 200 ∧ (kd u2).1 = 10 + xm_o 6) then (match ex X d 6 0 [.ref u2] [] (hh S) n with | some (v, h') => ex X (d + 1) 61 9 [.ref 27, .ref u1, .ref u2, .int u3, .int u4] (v.toList ++ [.int u4]) h' n | none => none) else none := rfl
theorem B_61_27 {X : Nat × (Nat → Int32)} {d : Nat} (n : Nat) (u1 : Nat) (u2 : Nat) (u3 : Int32) (u4 : Int32) (v13 : Int32) (S13 : St) : ex X d 61 9 [.ref 27, .ref u1, .ref u2, .int u3, .int u4] [.int v13, .int u4] (hh S13) (n + 1) = if v13 ≤ u4 then ex X d 61 109 [.ref 27, .ref u1, .ref u2, .int u3, .int u4] [] (hh S13) n else ex X d 61 12 [.ref 27, .ref u1, .ref u2, .int u3, .int u4] [] (hh S13) n := rfl
theorem B_61_28 {X : Nat × (Nat → Int32)} {d : Nat} (n : Nat) (u1 : Nat) (u2 : Nat) (u3 : Int32) (u4 : Int32) (v13 : Int32) (S13 : St) : ex X d 61 9 [.ref 27, .ref u1, .ref u2, .int u3, .int u4] [.int v13, .int u4] (hh S13) (n + 1) = if v13 ≤ u4 then ex X d 61 109 [.ref 27, .ref u1, .ref u2, .int u3, .int u4] [] (hh S13) n else ex X d 61 12 [.ref 27, .ref u1, .ref u2, .int u3, .int u4] [] (hh S13) n := rfl
theorem B_61_29 {X : Nat × (Nat → Int32)} {d : Nat} (n : Nat) (u1 : Nat) (u2 : Nat) (u3 : Int32) (u4 : Int32) (S13 : St) : ex X d 61 12 [.ref 27, .ref u1, .ref u2, .int u3, .int u4] [] (hh S13) (n + 4) = if (S13.1 27 2) = (-1) then ex X d 61 20 [.ref 27, .ref u1, .ref u2, .int u3, .int u4] [] (hh S13) n else ex X d 61 109 [.ref 27, .ref u1, .ref u2, .int u3, .int u4] [] (hh S13) n := rfl
theorem B_61_30 {X : Nat × (Nat → Int32)} {d : Nat} (n : Nat) (u1 : Nat) (u2 : Nat) (u3 : Int32) (u4 : Int32) (S13 : St) : ex X d 61 20 [.ref 27, .ref u1, .ref u2, .int u3, .int u4] [] (hh S13) (n + 4) = if (kd u1).1 = 10 + 1 then ex X d 61 28 [.ref 27, .ref u1, .ref u2, .int u3, .int u4] [.int (S13.1 u1 1), .int (S13.1 27 1)] (hh S13) n else none := rfl
theorem B_61_31 {X : Nat × (Nat → Int32)} {d : Nat} (n : Nat) (u1 : Nat) (u2 : Nat) (u3 : Int32) (u4 : Int32) (S13 : St) : ex X d 61 28 [.ref 27, .ref u1, .ref u2, .int u3, .int u4] [.int (S13.1 u1 1), .int (S13.1 27 1)] (hh S13) (n + 1) = if (S13.1 27 1) < (S13.1 u1 1) then ex X d 61 42 [.ref 27, .ref u1, .ref u2, .int u3, .int u4] [] (hh S13) n else ex X d 61 31 [.ref 27, .ref u1, .ref u2, .int u3, .int u4] [] (hh S13) n := rfl
theorem B_61_32 {X : Nat × (Nat → Int32)} {d : Nat} (n : Nat) (u1 : Nat) (u2 : Nat) (u3 : Int32) (u4 : Int32) (S13 : St) : ex X (d + 1) 61 42 [.ref 27, .ref u1, .ref u2, .int u3, .int u4] [] (hh S13) (n + 3) = if (xm_o 8 = 200 ∧ 2000 ≤ u2 ∧ u2 < 2000 + xS_n) ∨ (xm_o 8 ≠ 200 ∧ (kd u2).1 = 10 + xm_o 8) then (match ex X d 8 0 [.ref u2, .int u4] [] (hh S13) n with | some (v, h') => ex X (d + 1) 61 48 [.ref 27, .ref u1, .ref u2, .int u3, .int u4] (v.toList ++ []) h' n | none => none) else none := rfl
theorem B_61_33 {X : Nat × (Nat → Int32)} {d : Nat} (n : Nat) (u1 : Nat) (u2 : Nat) (u3 : Int32) (u4 : Int32) (v19 : Int32) (S19 : St) : ex X d 61 48 [.ref 27, .ref u1, .ref u2, .int u3, .int u4] [.int v19] (hh S19) (n + 2) = if v19 = 116 then ex X d 61 53 [.ref 27, .ref u1, .ref u2, .int u3, .int u4] [] (hh S19) n else ex X d 61 62 [.ref 27, .ref u1, .ref u2, .int u3, .int u4] [] (hh S19) n := rfl
theorem B_61_34 {X : Nat × (Nat → Int32)} {d : Nat} (n : Nat) (u1 : Nat) (u2 : Nat) (u3 : Int32) (u4 : Int32) (S19 : St) : ex X (d + 1) 61 53 [.ref 27, .ref u1, .ref u2, .int u3, .int u4] [] (hh S19) (n + 4) = (match ex X d 62 0 [.ref 27, .ref u1, .int u3, .retAddr 0, .retAddr 0] [] (hh S19) n with | some (v, h') => ex X (d + 1) 61 59 [.ref 27, .ref u1, .ref u2, .int u3, .int u4] (v.toList ++ []) h' n | none => none) := rfl
theorem B_61_35 {X : Nat × (Nat → Int32)} {d : Nat} (n : Nat) (u1 : Nat) (u2 : Nat) (u3 : Int32) (u4 : Int32) (S21 : St) : ex X d 61 59 [.ref 27, .ref u1, .ref u2, .int u3, .int u4] [] (hh S21) (n + 3) = ex X d 61 3 [.ref 27, .ref u1, .ref u2, .int u3, .int (u4 + 1)] [] (hh S21) n := rfl
theorem B_61_36 {X : Nat × (Nat → Int32)} {d : Nat} (n : Nat) (u1 : Nat) (u2 : Nat) (u3 : Int32) (u4 : Int32) (v19 : Int32) (S19 : St) : ex X d 61 48 [.ref 27, .ref u1, .ref u2, .int u3, .int u4] [.int v19] (hh S19) (n + 2) = if v19 = 116 then ex X d 61 53 [.ref 27, .ref u1, .ref u2, .int u3, .int u4] [] (hh S19) n else ex X d 61 62 [.ref 27, .ref u1, .ref u2, .int u3, .int u4] [] (hh S19) n := rfl
theorem B_61_37 {X : Nat × (Nat → Int32)} {d : Nat} (n : Nat) (u1 : Nat) (u2 : Nat) (u3 : Int32) (u4 : Int32) (S19 : St) : ex X (d + 1) 61 62 [.ref 27, .ref u1, .ref u2, .int u3, .int u4] [] (hh S19) (n + 3) = if (xm_o 8 = 200 ∧ 2000 ≤ u2 ∧ u2 < 2000 + xS_n) ∨ (xm_o 8 ≠ 200 ∧ (kd u2).1 = 10 + xm_o 8) then (match ex X d 8 0 [.ref u2, .int u4] [] (hh S19) n with | some (v, h') => ex X (d + 1) 61 68 [.ref 27, .ref u1, .ref u2, .int u3, .int u4] (v.toList ++ []) h' n | none => none) else none := rfl
theorem B_61_38 {X : Nat × (Nat → Int32)} {d : Nat} (n : Nat) (u1 : Nat) (u2 : Nat) (u3 : Int32) (u4 : Int32) (v22 : Int32) (S22 : St) : ex X (d + 1) 61 68 [.ref 27, .ref u1, .ref u2, .int u3, .int u4] [.int v22] (hh S22) (n + 4) = if (xm_o 25 = 200 ∧ 2000 ≤ u1 ∧ u1 < 2000 + xS_n) ∨ (xm_o 25 ≠ 200 ∧ (kd u1).1 = 10 + xm_o 25) then (match ex X d 25 0 [.ref u1, .int (S22.1 27 1)] [] (hh S22) n with | some (v, h') => ex X (d + 1) 61 76 [.ref 27, .ref u1, .ref u2, .int u3, .int u4] (v.toList ++ [.int v22]) h' n | none => none) else none := rfl
theorem B_61_39 {X : Nat × (Nat → Int32)} {d : Nat} (n : Nat) (u1 : Nat) (u2 : Nat) (u3 : Int32) (u4 : Int32) (v23 : Int32) (v22 : Int32) (S23 : St) : ex X (d + 1) 61 76 [.ref 27, .ref u1, .ref u2, .int u3, .int u4] [.int v23, .int v22] (hh S23) (n + 1) = (match ex X d 64 0 [.int v22, .int v23] [] (hh S23) n with | some (v, h') => ex X (d + 1) 61 79 [.ref 27, .ref u1, .ref u2, .int u3, .int u4] (v.toList ++ []) h' n | none => none) := rfl
theorem B_61_40 {X : Nat × (Nat → Int32)} {d : Nat} (n : Nat) (u1 : Nat) (u2 : Nat) (u3 : Int32) (u4 : Int32) (v24 : Int32) (S24 : St) : ex X d 61 79 [.ref 27, .ref u1, .ref u2, .int u3, .int u4] [.int v24] (hh S24) (n + 1) = if v24 = 0 then ex X d 61 95 [.ref 27, .ref u1, .ref u2, .int u3, .int u4] [] (hh S24) n else ex X d 61 82 [.ref 27, .ref u1, .ref u2, .int u3, .int u4] [] (hh S24) n := rfl
theorem B_61_41 {X : Nat × (Nat → Int32)} {d : Nat} (n : Nat) (u1 : Nat) (u2 : Nat) (u3 : Int32) (u4 : Int32) (S24 : St) : ex X d 61 95 [.ref 27, .ref u1, .ref u2, .int u3, .int u4] [] (hh S24) (n + 4) = if (kd 27).1 = 10 + 5 ∧ (xf_k 5 2 = 0 ∨ (xf_k 5 2 = 1 ∧ ((S24.1 27 1) = 0 ∨ (S24.1 27 1) = 1))) then ex X d 61 103 [.ref 27, .ref u1, .ref u2, .int u3, .int u4] [] (hh (xa_u S24.1 27 2 (S24.1 27 1), S24.2.1, S24.2.2)) n else none := rfl
theorem B_61_42 {X : Nat × (Nat → Int32)} {d : Nat} (n : Nat) (u1 : Nat) (u2 : Nat) (u3 : Int32) (u4 : Int32) (S24 : St) : ex X d 61 103 [.ref 27, .ref u1, .ref u2, .int u3, .int u4] [] (hh (xa_u S24.1 27 2 (S24.1 27 1), S24.2.1, S24.2.2)) (n + 2) = ex X d 61 3 [.ref 27, .ref u1, .ref u2, .int u3, .int (u4 + 1)] [] (hh (xa_u S24.1 27 2 (S24.1 27 1), S24.2.1, S24.2.2)) n := rfl
theorem B_61_43 {X : Nat × (Nat → Int32)} {d : Nat} (n : Nat) (u1 : Nat) (u2 : Nat) (u3 : Int32) (u4 : Int32) (v24 : Int32) (S24 : St) : ex X d 61 79 [.ref 27, .ref u1, .ref u2, .int u3, .int u4] [.int v24] (hh S24) (n + 1) = if v24 = 0 then ex X d 61 95 [.ref 27, .ref u1, .ref u2, .int u3, .int u4] [] (hh S24) n else ex X d 61 82 [.ref 27, .ref u1, .ref u2, .int u3, .int u4] [] (hh S24) n := rfl
theorem B_61_44 {X : Nat × (Nat → Int32)} {d : Nat} (n : Nat) (u1 : Nat) (u2 : Nat) (u3 : Int32) (u4 : Int32) (S24 : St) : ex X d 61 82 [.ref 27, .ref u1, .ref u2, .int u3, .int u4] [] (hh S24) (n + 6) = if (kd 27).1 = 10 + 5 ∧ (xf_k 5 1 = 0 ∨ (xf_k 5 1 = 1 ∧ (((S24.1 27 1) + 1) = 0 ∨ ((S24.1 27 1) + 1) = 1))) then ex X d 61 92 [.ref 27, .ref u1, .ref u2, .int u3, .int u4] [] (hh (xa_u S24.1 27 1 ((S24.1 27 1) + 1), S24.2.1, S24.2.2)) n else none := rfl
theorem B_61_45 {X : Nat × (Nat → Int32)} {d : Nat} (n : Nat) (u1 : Nat) (u2 : Nat) (u3 : Int32) (u4 : Int32) (S24 : St) : ex X d 61 92 [.ref 27, .ref u1, .ref u2, .int u3, .int u4] [] (hh (xa_u S24.1 27 1 ((S24.1 27 1) + 1), S24.2.1, S24.2.2)) (n + 3) = ex X d 61 3 [.ref 27, .ref u1, .ref u2, .int u3, .int (u4 + 1)] [] (hh (xa_u S24.1 27 1 ((S24.1 27 1) + 1), S24.2.1, S24.2.2)) n := rfl
theorem B_61_46 {X : Nat × (Nat → Int32)} {d : Nat} (n : Nat) (u1 : Nat) (u2 : Nat) (u3 : Int32) (u4 : Int32) (S13 : St) : ex X d 61 28 [.ref 27, .ref u1, .ref u2, .int u3, .int u4] [.int (S13.1 u1 1), .int (S13.1 27 1)] (hh S13) (n + 1) = if (S13.1 27 1) < (S13.1 u1 1) then ex X d 61 42 [.ref 27, .ref u1, .ref u2, .int u3, .int u4] [] (hh S13) n else ex X d 61 31 [.ref 27, .ref u1, .ref u2, .int u3, .int u4] [] (hh S13) n := rfl
theorem B_61_47 {X : Nat × (Nat → Int32)} {d : Nat} (n : Nat) (u1 : Nat) (u2 : Nat) (u3 : Int32) (u4 : Int32) (S13 : St) : ex X d 61 31 [.ref 27, .ref u1, .ref u2, .int u3, .int u4] [] (hh S13) (n + 3) = if (kd u1).1 = 10 + 1 then ex X d 61 36 [.ref 27, .ref u1, .ref u2, .int u3, .int u4] [.int (S13.1 u1 1), .ref 27] (hh S13) n else none := rfl
theorem B_61_48 {X : Nat × (Nat → Int32)} {d : Nat} (n : Nat) (u1 : Nat) (u2 : Nat) (u3 : Int32) (u4 : Int32) (S13 : St) : ex X d 61 36 [.ref 27, .ref u1, .ref u2, .int u3, .int u4] [.int (S13.1 u1 1), .ref 27] (hh S13) (n + 1) = if (kd 27).1 = 10 + 5 ∧ (xf_k 5 2 = 0 ∨ (xf_k 5 2 = 1 ∧ ((S13.1 u1 1) = 0 ∨ (S13.1 u1 1) = 1))) then ex X d 61 39 [.ref 27, .ref u1, .ref u2, .int u3, .int u4] [] (hh (xa_u S13.1 27 2 (S13.1 u1 1), S13.2.1, S13.2.2)) n else none := rfl
theorem B_61_49 {X : Nat × (Nat → Int32)} {d : Nat} (n : Nat) (u1 : Nat) (u2 : Nat) (u3 : Int32) (u4 : Int32) (S13 : St) : ex X d 61 39 [.ref 27, .ref u1, .ref u2, .int u3, .int u4] [] (hh (xa_u S13.1 27 2 (S13.1 u1 1), S13.2.1, S13.2.2)) (n + 3) = ex X d 61 3 [.ref 27, .ref u1, .ref u2, .int u3, .int (u4 + 1)] [] (hh (xa_u S13.1 27 2 (S13.1 u1 1), S13.2.1, S13.2.2)) n := rfl
theorem B_61_50 {X : Nat × (Nat → Int32)} {d : Nat} (n : Nat) (u1 : Nat) (u2 : Nat) (u3 : Int32) (u4 : Int32) (S13 : St) : ex X d 61 12 [.ref 27, .ref u1, .ref u2, .int u3, .int u4] [] (hh S13) (n + 4) = if (S13.1 27 2) = (-1) then ex X d 61 20 [.ref 27, .ref u1, .ref u2, .int u3, .int u4] [] (hh S13) n else ex X d 61 109 [.ref 27, .ref u1, .ref u2, .int u3, .int u4] [] (hh S13) n := rfl
set_option maxRecDepth 200000 in
theorem TGR_61 {X : Nat × (Nat → Int32)} : ∀ (n : Nat) (S : St) (u1 : Nat) (u2 : Nat) (u3 : Int32) (u4 : Int32) (r : Unit) (S' : St), (GR_61 n 0 S u1 u2 u3 u4 = some (r, S') → Ev X (n + 4) 61 0 [.ref 27, .ref u1, .ref u2, .int u3, .retAddr 0] [] (hh S) (xV r, hh S')) ∧ (GR_61 n 1 S u1 u2 u3 u4 = some (r, S') → Ev X (n + 4) 62 0 [.ref 27, .ref u1, .int u3, .retAddr 0, .retAddr 0] [] (hh S) (xV r, hh S')) ∧ (GR_61 n 2 S u1 u2 u3 u4 = some (r, S') → Ev X (n + 4) 61 3 [.ref 27, .ref u1, .ref u2, .int u3, .int u4] [] (hh S) (xV r, hh S')) := by
  intro n
  induction n with
  | zero => intro S u1 u2 u3 u4 r S'; refine ⟨?_, ?_, ?_⟩ <;> intro hG <;> simp [GR_61] at hG
  | succ n ih =>
    intro S u1 u2 u3 u4 r S'
    refine ⟨?_, ?_, ?_⟩
    · intro hG 
      rw [GR_61] at hG
      exact Ev.b (pc' := 3) (L' := [.ref 27, .ref u1, .ref u2, .int u3, .int 0]) (st' := []) (h' := hh S) 2 (fun n => B_61_1 n u1 u2 u3 S) (Ev.up (by omega) ((ih S u1 u2 u3 (0 : Int32) _ _).2.2 hG ))
    · intro hG 
      rw [GR_61] at hG
      by_cases g2 : (kd u1).1 = 10 + 1
      rotate_left
      · rw [if_neg g2] at hG; cases hG
      rw [if_pos g2] at hG
      rcases h1 : G_25 S u1 (S.1 27 1) with _ | ⟨v1, S1⟩
      · rw [h1] at hG; cases hG
      rw [h1] at hG
      dsimp only at hG
      refine Ev.cg (c := (xm_o 25 = 200 ∧ 2000 ≤ u1 ∧ u1 < 2000 + xS_n) ∨ (xm_o 25 ≠ 200 ∧ (kd u1).1 = 10 + xm_o 25)) (a := 25) (A := [.ref u1, .int (S.1 27 1)]) (h1 := hh S) (pc' := 8) (L' := [.ref 27, .ref u1, .int u3, .retAddr 0, .retAddr 0]) (rest := []) (r1 := some (.int v1)) (h2 := hh S1) 4 (fun n => B_62_2 n u1 u3 S) (Or.inr ⟨by decide, g2⟩) (Ev.up (by omega) (T_25 S u1 (S.1 27 1) _ _ h1)) ?_
      show Ev X _ 62 8 [.ref 27, .ref u1, .int u3, .retAddr 0, .retAddr 0] [.int v1] (hh S1) _
      by_cases c3 : v1 < 5
      · rw [if_pos c3] at hG
        refine Ev.t (c := v1 < 5) (p1 := 18) (L1 := [.ref 27, .ref u1, .int u3, .int v1, .retAddr 0]) (s1 := []) (h1 := hh S1) (p2 := 14) (L2 := [.ref 27, .ref u1, .int u3, .int v1, .retAddr 0]) (s2 := []) (h2 := hh S1) 4 (fun n => B_62_3 n u1 u3 v1 S1) c3 ?_
        by_cases c4 : 7 < v1
        · rw [if_pos c4] at hG
          refine Ev.t (c := 7 < v1) (p1 := 38) (L1 := [.ref 27, .ref u1, .int u3, .int v1, .int 0]) (s1 := []) (h1 := hh S1) (p2 := 27) (L2 := [.ref 27, .ref u1, .int u3, .int v1, .int 0]) (s2 := []) (h2 := hh S1) 5 (fun n => B_62_4 n u1 u3 v1 S1) c4 ?_
          refine Ev.g (c := (kd 27).1 = 10 + 5 ∧ (xf_k 5 2 = 0 ∨ (xf_k 5 2 = 1 ∧ ((S1.1 27 1) = 0 ∨ (S1.1 27 1) = 1)))) (p1 := 46) (L1 := [.ref 27, .ref u1, .int u3, .int v1, .int 0]) (s1 := []) (h1 := hh (xa_u S1.1 27 2 (S1.1 27 1), S1.2.1, S1.2.2)) 4 (fun n => B_62_5 n u1 u3 v1 S1) (⟨rfl, Or.inl rfl⟩) ?_
          obtain ⟨e1, e2⟩ := Prod.mk.inj (Option.some.inj hG)
          subst e1
          subst e2
          exact Ev.r 1 (fun n => rfl)
        · rw [if_neg c4] at hG
          refine Ev.f (c := 7 < v1) (p1 := 38) (L1 := [.ref 27, .ref u1, .int u3, .int v1, .int 0]) (s1 := []) (h1 := hh S1) (p2 := 27) (L2 := [.ref 27, .ref u1, .int u3, .int v1, .int 0]) (s2 := []) (h2 := hh S1) 5 (fun n => B_62_6 n u1 u3 v1 S1) c4 ?_
          refine Ev.t (c := (0 : Int32) = 0) (p1 := 47) (L1 := [.ref 27, .ref u1, .int u3, .int v1, .int 0]) (s1 := []) (h1 := hh S1) (p2 := 32) (L2 := [.ref 27, .ref u1, .int u3, .int v1, .int 0]) (s2 := []) (h2 := hh S1) 2 (fun n => B_62_7 n u1 u3 v1 S1) (by decide) ?_
          refine Ev.g (c := (kd 27).1 = 10 + 5 ∧ (xf_k 5 1 = 0 ∨ (xf_k 5 1 = 1 ∧ (((S1.1 27 1) + 1) = 0 ∨ ((S1.1 27 1) + 1) = 1)))) (p1 := 57) (L1 := [.ref 27, .ref u1, .int u3, .int v1, .int 0]) (s1 := []) (h1 := hh (xa_u S1.1 27 1 ((S1.1 27 1) + 1), S1.2.1, S1.2.2)) 6 (fun n => B_62_8 n u1 u3 v1 S1) (⟨rfl, Or.inl rfl⟩) ?_
          rcases h5 : G_63 (xa_u S1.1 27 1 ((S1.1 27 1) + 1), S1.2.1, S1.2.2) v1 with _ | ⟨v5, S5⟩
          · rw [h5] at hG; cases hG
          rw [h5] at hG
          dsimp only at hG
          refine Ev.c (a := 63) (A := [.int v1]) (h1 := hh (xa_u S1.1 27 1 ((S1.1 27 1) + 1), S1.2.1, S1.2.2)) (pc' := 63) (L' := [.ref 27, .ref u1, .int u3, .int v1, .int 0]) (rest := [.ref u1, .ref 27]) (r1 := some (va_rf v5)) (h2 := hh S5) 4 (fun n => B_62_9 n u1 u3 v1 S1) (Ev.up (by omega) (T_63 (xa_u S1.1 27 1 ((S1.1 27 1) + 1), S1.2.1, S1.2.2) v1 _ _ h5)) ?_
          rcases v5 with _ | a6
          · dsimp only at hG
            show Ev X _ 62 63 [.ref 27, .ref u1, .int u3, .int v1, .int 0] [.null, .ref u1, .ref 27] (hh S5) _
            refine Ev.t (c := (0 : Int32) = 0) (p1 := 74) (L1 := [.ref 27, .ref u1, .int u3, .int v1, .int 0]) (s1 := [.null, .ref u1, .ref 27]) (h1 := hh S5) (p2 := 68) (L2 := [.ref 27, .ref u1, .int u3, .int v1, .int 0]) (s2 := [.null, .ref u1, .ref 27]) (h2 := hh S5) 2 (fun n => B_62_10 n u1 u3 v1 S5) (by decide) ?_
            cases hG
          · dsimp only at hG
            show Ev X _ 62 63 [.ref 27, .ref u1, .int u3, .int v1, .int 0] [.ref a6, .ref u1, .ref 27] (hh S5) _
            refine Ev.t (c := (0 : Int32) = 0) (p1 := 74) (L1 := [.ref 27, .ref u1, .int u3, .int v1, .int 0]) (s1 := [.ref a6, .ref u1, .ref 27]) (h1 := hh S5) (p2 := 68) (L2 := [.ref 27, .ref u1, .int u3, .int v1, .int 0]) (s2 := [.ref a6, .ref u1, .ref 27]) (h2 := hh S5) 2 (fun n => B_62_11 n u1 u3 v1 a6 S5) (by decide) ?_
            rcases h7 : GR_61 n 0 S5 u1 a6 u3 0 with _ | ⟨v7, S7⟩
            · rw [h7] at hG; cases hG
            rw [h7] at hG
            dsimp only at hG
            refine Ev.c (a := 61) (A := [.ref 27, .ref u1, .ref a6, .int u3, .retAddr 0]) (h1 := hh S5) (pc' := 78) (L' := [.ref 27, .ref u1, .int u3, .int v1, .int 0]) (rest := []) (r1 := none) (h2 := hh S7) 2 (fun n => B_62_12 n u1 u3 v1 a6 S5) (Ev.up (by omega) ((ih S5 u1 a6 u3 0 _ _).1 h7)) ?_
            show Ev X _ 62 78 [.ref 27, .ref u1, .int u3, .int v1, .int 0] [] (hh S7) _
            obtain ⟨e1, e2⟩ := Prod.mk.inj (Option.some.inj hG)
            subst e1
            subst e2
            exact Ev.r 1 (fun n => rfl)
      · rw [if_neg c3] at hG
        refine Ev.f (c := v1 < 5) (p1 := 18) (L1 := [.ref 27, .ref u1, .int u3, .int v1, .retAddr 0]) (s1 := []) (h1 := hh S1) (p2 := 14) (L2 := [.ref 27, .ref u1, .int u3, .int v1, .retAddr 0]) (s2 := []) (h2 := hh S1) 4 (fun n => B_62_13 n u1 u3 v1 S1) c3 ?_
        by_cases c8 : 7 < v1
        · rw [if_pos c8] at hG
          refine Ev.t (c := 7 < v1) (p1 := 38) (L1 := [.ref 27, .ref u1, .int u3, .int v1, .int 1]) (s1 := []) (h1 := hh S1) (p2 := 27) (L2 := [.ref 27, .ref u1, .int u3, .int v1, .int 1]) (s2 := []) (h2 := hh S1) 6 (fun n => B_62_14 n u1 u3 v1 S1) c8 ?_
          refine Ev.g (c := (kd 27).1 = 10 + 5 ∧ (xf_k 5 2 = 0 ∨ (xf_k 5 2 = 1 ∧ ((S1.1 27 1) = 0 ∨ (S1.1 27 1) = 1)))) (p1 := 46) (L1 := [.ref 27, .ref u1, .int u3, .int v1, .int 1]) (s1 := []) (h1 := hh (xa_u S1.1 27 2 (S1.1 27 1), S1.2.1, S1.2.2)) 4 (fun n => B_62_15 n u1 u3 v1 S1) (⟨rfl, Or.inl rfl⟩) ?_
          obtain ⟨e1, e2⟩ := Prod.mk.inj (Option.some.inj hG)
          subst e1
          subst e2
          exact Ev.r 1 (fun n => rfl)
        · rw [if_neg c8] at hG
          refine Ev.f (c := 7 < v1) (p1 := 38) (L1 := [.ref 27, .ref u1, .int u3, .int v1, .int 1]) (s1 := []) (h1 := hh S1) (p2 := 27) (L2 := [.ref 27, .ref u1, .int u3, .int v1, .int 1]) (s2 := []) (h2 := hh S1) 6 (fun n => B_62_16 n u1 u3 v1 S1) c8 ?_
          refine Ev.f (c := (1 : Int32) = 0) (p1 := 47) (L1 := [.ref 27, .ref u1, .int u3, .int v1, .int 1]) (s1 := []) (h1 := hh S1) (p2 := 32) (L2 := [.ref 27, .ref u1, .int u3, .int v1, .int 1]) (s2 := []) (h2 := hh S1) 2 (fun n => B_62_17 n u1 u3 v1 S1) (by decide) ?_
          by_cases c9 : u3 < 6
          · rw [if_pos c9] at hG
            refine Ev.t (c := u3 < 6) (p1 := 47) (L1 := [.ref 27, .ref u1, .int u3, .int v1, .int 1]) (s1 := []) (h1 := hh S1) (p2 := 38) (L2 := [.ref 27, .ref u1, .int u3, .int v1, .int 1]) (s2 := []) (h2 := hh S1) 3 (fun n => B_62_18 n u1 u3 v1 S1) c9 ?_
            refine Ev.g (c := (kd 27).1 = 10 + 5 ∧ (xf_k 5 1 = 0 ∨ (xf_k 5 1 = 1 ∧ (((S1.1 27 1) + 1) = 0 ∨ ((S1.1 27 1) + 1) = 1)))) (p1 := 57) (L1 := [.ref 27, .ref u1, .int u3, .int v1, .int 1]) (s1 := []) (h1 := hh (xa_u S1.1 27 1 ((S1.1 27 1) + 1), S1.2.1, S1.2.2)) 6 (fun n => B_62_19 n u1 u3 v1 S1) (⟨rfl, Or.inl rfl⟩) ?_
            rcases h10 : G_63 (xa_u S1.1 27 1 ((S1.1 27 1) + 1), S1.2.1, S1.2.2) v1 with _ | ⟨v10, S10⟩
            · rw [h10] at hG; cases hG
            rw [h10] at hG
            dsimp only at hG
            refine Ev.c (a := 63) (A := [.int v1]) (h1 := hh (xa_u S1.1 27 1 ((S1.1 27 1) + 1), S1.2.1, S1.2.2)) (pc' := 63) (L' := [.ref 27, .ref u1, .int u3, .int v1, .int 1]) (rest := [.ref u1, .ref 27]) (r1 := some (va_rf v10)) (h2 := hh S10) 4 (fun n => B_62_20 n u1 u3 v1 S1) (Ev.up (by omega) (T_63 (xa_u S1.1 27 1 ((S1.1 27 1) + 1), S1.2.1, S1.2.2) v1 _ _ h10)) ?_
            rcases v10 with _ | a11
            · dsimp only at hG
              show Ev X _ 62 63 [.ref 27, .ref u1, .int u3, .int v1, .int 1] [.null, .ref u1, .ref 27] (hh S10) _
              refine Ev.f (c := (1 : Int32) = 0) (p1 := 74) (L1 := [.ref 27, .ref u1, .int u3, .int v1, .int 1]) (s1 := [.null, .ref u1, .ref 27]) (h1 := hh S10) (p2 := 68) (L2 := [.ref 27, .ref u1, .int u3, .int v1, .int 1]) (s2 := [.null, .ref u1, .ref 27]) (h2 := hh S10) 2 (fun n => B_62_21 n u1 u3 v1 S10) (by decide) ?_
              cases hG
            · dsimp only at hG
              show Ev X _ 62 63 [.ref 27, .ref u1, .int u3, .int v1, .int 1] [.ref a11, .ref u1, .ref 27] (hh S10) _
              refine Ev.f (c := (1 : Int32) = 0) (p1 := 74) (L1 := [.ref 27, .ref u1, .int u3, .int v1, .int 1]) (s1 := [.ref a11, .ref u1, .ref 27]) (h1 := hh S10) (p2 := 68) (L2 := [.ref 27, .ref u1, .int u3, .int v1, .int 1]) (s2 := [.ref a11, .ref u1, .ref 27]) (h2 := hh S10) 2 (fun n => B_62_22 n u1 u3 v1 a11 S10) (by decide) ?_
              rcases h12 : GR_61 n 0 S10 u1 a11 (u3 + 1) 0 with _ | ⟨v12, S12⟩
              · rw [h12] at hG; cases hG
              rw [h12] at hG
              dsimp only at hG
              refine Ev.c (a := 61) (A := [.ref 27, .ref u1, .ref a11, .int (u3 + 1), .retAddr 0]) (h1 := hh S10) (pc' := 78) (L' := [.ref 27, .ref u1, .int u3, .int v1, .int 1]) (rest := []) (r1 := none) (h2 := hh S12) 5 (fun n => B_62_23 n u1 u3 v1 a11 S10) (Ev.up (by omega) ((ih S10 u1 a11 (u3 + 1) 0 _ _).1 h12)) ?_
              show Ev X _ 62 78 [.ref 27, .ref u1, .int u3, .int v1, .int 1] [] (hh S12) _
              obtain ⟨e1, e2⟩ := Prod.mk.inj (Option.some.inj hG)
              subst e1
              subst e2
              exact Ev.r 1 (fun n => rfl)
          · rw [if_neg c9] at hG
            refine Ev.f (c := u3 < 6) (p1 := 47) (L1 := [.ref 27, .ref u1, .int u3, .int v1, .int 1]) (s1 := []) (h1 := hh S1) (p2 := 38) (L2 := [.ref 27, .ref u1, .int u3, .int v1, .int 1]) (s2 := []) (h2 := hh S1) 3 (fun n => B_62_24 n u1 u3 v1 S1) c9 ?_
            refine Ev.g (c := (kd 27).1 = 10 + 5 ∧ (xf_k 5 2 = 0 ∨ (xf_k 5 2 = 1 ∧ ((S1.1 27 1) = 0 ∨ (S1.1 27 1) = 1)))) (p1 := 46) (L1 := [.ref 27, .ref u1, .int u3, .int v1, .int 1]) (s1 := []) (h1 := hh (xa_u S1.1 27 2 (S1.1 27 1), S1.2.1, S1.2.2)) 4 (fun n => B_62_25 n u1 u3 v1 S1) (⟨rfl, Or.inl rfl⟩) ?_
            obtain ⟨e1, e2⟩ := Prod.mk.inj (Option.some.inj hG)
            subst e1
            subst e2
            exact Ev.r 1 (fun n => rfl)
    · intro hG 
      rw [GR_61] at hG
      by_cases g14 : (2000 ≤ u2 ∧ u2 < 2000 + xS_n)
      rotate_left
      · rw [if_neg g14] at hG; cases hG
      rw [if_pos g14] at hG
      rcases h13 : G_6 S u2 with _ | ⟨v13, S13⟩
      · rw [h13] at hG; cases hG
      rw [h13] at hG
      dsimp only at hG
      refine Ev.cg (c := (xm_o 6 = 200 ∧ 2000 ≤ u2 ∧ u2 < 2000 + xS_n) ∨ (xm_o 6 ≠ 200 ∧ (kd u2).1 = 10 + xm_o 6)) (a := 6) (A := [.ref u2]) (h1 := hh S) (pc' := 9) (L' := [.ref 27, .ref u1, .ref u2, .int u3, .int u4]) (rest := [.int u4]) (r1 := some (.int v13)) (h2 := hh S13) 3 (fun n => B_61_26 n u1 u2 u3 u4 S) (Or.inl ⟨rfl, g14⟩) (Ev.up (by omega) (T_6 S u2 _ _ h13)) ?_
      show Ev X _ 61 9 [.ref 27, .ref u1, .ref u2, .int u3, .int u4] [.int v13, .int u4] (hh S13) _
      by_cases c15 : v13 ≤ u4
      · rw [if_pos c15] at hG
        refine Ev.t (c := v13 ≤ u4) (p1 := 109) (L1 := [.ref 27, .ref u1, .ref u2, .int u3, .int u4]) (s1 := []) (h1 := hh S13) (p2 := 12) (L2 := [.ref 27, .ref u1, .ref u2, .int u3, .int u4]) (s2 := []) (h2 := hh S13) 1 (fun n => B_61_27 n u1 u2 u3 u4 v13 S13) c15 ?_
        obtain ⟨e1, e2⟩ := Prod.mk.inj (Option.some.inj hG)
        subst e1
        subst e2
        exact Ev.r 1 (fun n => rfl)
      · rw [if_neg c15] at hG
        refine Ev.f (c := v13 ≤ u4) (p1 := 109) (L1 := [.ref 27, .ref u1, .ref u2, .int u3, .int u4]) (s1 := []) (h1 := hh S13) (p2 := 12) (L2 := [.ref 27, .ref u1, .ref u2, .int u3, .int u4]) (s2 := []) (h2 := hh S13) 1 (fun n => B_61_28 n u1 u2 u3 u4 v13 S13) c15 ?_
        by_cases c16 : (S13.1 27 2) = (-1)
        · rw [if_pos c16] at hG
          refine Ev.t (c := (S13.1 27 2) = (-1)) (p1 := 20) (L1 := [.ref 27, .ref u1, .ref u2, .int u3, .int u4]) (s1 := []) (h1 := hh S13) (p2 := 109) (L2 := [.ref 27, .ref u1, .ref u2, .int u3, .int u4]) (s2 := []) (h2 := hh S13) 4 (fun n => B_61_29 n u1 u2 u3 u4 S13) c16 ?_
          by_cases g17 : (kd u1).1 = 10 + 1
          rotate_left
          · rw [if_neg g17] at hG; cases hG
          rw [if_pos g17] at hG
          refine Ev.g (c := (kd u1).1 = 10 + 1) (p1 := 28) (L1 := [.ref 27, .ref u1, .ref u2, .int u3, .int u4]) (s1 := [.int (S13.1 u1 1), .int (S13.1 27 1)]) (h1 := hh S13) 4 (fun n => B_61_30 n u1 u2 u3 u4 S13) g17 ?_
          by_cases c18 : (S13.1 27 1) < (S13.1 u1 1)
          · rw [if_pos c18] at hG
            refine Ev.t (c := (S13.1 27 1) < (S13.1 u1 1)) (p1 := 42) (L1 := [.ref 27, .ref u1, .ref u2, .int u3, .int u4]) (s1 := []) (h1 := hh S13) (p2 := 31) (L2 := [.ref 27, .ref u1, .ref u2, .int u3, .int u4]) (s2 := []) (h2 := hh S13) 1 (fun n => B_61_31 n u1 u2 u3 u4 S13) c18 ?_
            rcases h19 : G_8 S13 u2 u4 with _ | ⟨v19, S19⟩
            · rw [h19] at hG; cases hG
            rw [h19] at hG
            dsimp only at hG
            refine Ev.cg (c := (xm_o 8 = 200 ∧ 2000 ≤ u2 ∧ u2 < 2000 + xS_n) ∨ (xm_o 8 ≠ 200 ∧ (kd u2).1 = 10 + xm_o 8)) (a := 8) (A := [.ref u2, .int u4]) (h1 := hh S13) (pc' := 48) (L' := [.ref 27, .ref u1, .ref u2, .int u3, .int u4]) (rest := []) (r1 := some (.int v19)) (h2 := hh S19) 3 (fun n => B_61_32 n u1 u2 u3 u4 S13) (Or.inl ⟨rfl, g14⟩) (Ev.up (by omega) (T_8 S13 u2 u4 _ _ h19)) ?_
            show Ev X _ 61 48 [.ref 27, .ref u1, .ref u2, .int u3, .int u4] [.int v19] (hh S19) _
            by_cases c20 : v19 = 116
            · rw [if_pos c20] at hG
              refine Ev.t (c := v19 = 116) (p1 := 53) (L1 := [.ref 27, .ref u1, .ref u2, .int u3, .int u4]) (s1 := []) (h1 := hh S19) (p2 := 62) (L2 := [.ref 27, .ref u1, .ref u2, .int u3, .int u4]) (s2 := []) (h2 := hh S19) 2 (fun n => B_61_33 n u1 u2 u3 u4 v19 S19) c20 ?_
              rcases h21 : GR_61 n 1 S19 u1 0 u3 0 with _ | ⟨v21, S21⟩
              · rw [h21] at hG; cases hG
              rw [h21] at hG
              dsimp only at hG
              refine Ev.c (a := 62) (A := [.ref 27, .ref u1, .int u3, .retAddr 0, .retAddr 0]) (h1 := hh S19) (pc' := 59) (L' := [.ref 27, .ref u1, .ref u2, .int u3, .int u4]) (rest := []) (r1 := none) (h2 := hh S21) 4 (fun n => B_61_34 n u1 u2 u3 u4 S19) (Ev.up (by omega) ((ih S19 u1 0 u3 0 _ _).2.1 h21)) ?_
              show Ev X _ 61 59 [.ref 27, .ref u1, .ref u2, .int u3, .int u4] [] (hh S21) _
              exact Ev.b (pc' := 3) (L' := [.ref 27, .ref u1, .ref u2, .int u3, .int (u4 + 1)]) (st' := []) (h' := hh S21) 3 (fun n => B_61_35 n u1 u2 u3 u4 S21) (Ev.up (by omega) ((ih S21 u1 u2 u3 (u4 + 1) _ _).2.2 hG ))
            · rw [if_neg c20] at hG
              refine Ev.f (c := v19 = 116) (p1 := 53) (L1 := [.ref 27, .ref u1, .ref u2, .int u3, .int u4]) (s1 := []) (h1 := hh S19) (p2 := 62) (L2 := [.ref 27, .ref u1, .ref u2, .int u3, .int u4]) (s2 := []) (h2 := hh S19) 2 (fun n => B_61_36 n u1 u2 u3 u4 v19 S19) c20 ?_
              rcases h22 : G_8 S19 u2 u4 with _ | ⟨v22, S22⟩
              · rw [h22] at hG; cases hG
              rw [h22] at hG
              dsimp only at hG
              refine Ev.cg (c := (xm_o 8 = 200 ∧ 2000 ≤ u2 ∧ u2 < 2000 + xS_n) ∨ (xm_o 8 ≠ 200 ∧ (kd u2).1 = 10 + xm_o 8)) (a := 8) (A := [.ref u2, .int u4]) (h1 := hh S19) (pc' := 68) (L' := [.ref 27, .ref u1, .ref u2, .int u3, .int u4]) (rest := []) (r1 := some (.int v22)) (h2 := hh S22) 3 (fun n => B_61_37 n u1 u2 u3 u4 S19) (Or.inl ⟨rfl, g14⟩) (Ev.up (by omega) (T_8 S19 u2 u4 _ _ h22)) ?_
              show Ev X _ 61 68 [.ref 27, .ref u1, .ref u2, .int u3, .int u4] [.int v22] (hh S22) _
              rcases h23 : G_25 S22 u1 (S22.1 27 1) with _ | ⟨v23, S23⟩
              · rw [h23] at hG; cases hG
              rw [h23] at hG
              dsimp only at hG
              refine Ev.cg (c := (xm_o 25 = 200 ∧ 2000 ≤ u1 ∧ u1 < 2000 + xS_n) ∨ (xm_o 25 ≠ 200 ∧ (kd u1).1 = 10 + xm_o 25)) (a := 25) (A := [.ref u1, .int (S22.1 27 1)]) (h1 := hh S22) (pc' := 76) (L' := [.ref 27, .ref u1, .ref u2, .int u3, .int u4]) (rest := [.int v22]) (r1 := some (.int v23)) (h2 := hh S23) 4 (fun n => B_61_38 n u1 u2 u3 u4 v22 S22) (Or.inr ⟨by decide, g17⟩) (Ev.up (by omega) (T_25 S22 u1 (S22.1 27 1) _ _ h23)) ?_
              show Ev X _ 61 76 [.ref 27, .ref u1, .ref u2, .int u3, .int u4] [.int v23, .int v22] (hh S23) _
              rcases h24 : G_64 S23 v22 v23 with _ | ⟨v24, S24⟩
              · rw [h24] at hG; cases hG
              rw [h24] at hG
              dsimp only at hG
              refine Ev.c (a := 64) (A := [.int v22, .int v23]) (h1 := hh S23) (pc' := 79) (L' := [.ref 27, .ref u1, .ref u2, .int u3, .int u4]) (rest := []) (r1 := some (.int v24)) (h2 := hh S24) 1 (fun n => B_61_39 n u1 u2 u3 u4 v23 v22 S23) (Ev.up (by omega) (T_64 S23 v22 v23 _ _ h24)) ?_
              show Ev X _ 61 79 [.ref 27, .ref u1, .ref u2, .int u3, .int u4] [.int v24] (hh S24) _
              by_cases c25 : v24 = 0
              · rw [if_pos c25] at hG
                refine Ev.t (c := v24 = 0) (p1 := 95) (L1 := [.ref 27, .ref u1, .ref u2, .int u3, .int u4]) (s1 := []) (h1 := hh S24) (p2 := 82) (L2 := [.ref 27, .ref u1, .ref u2, .int u3, .int u4]) (s2 := []) (h2 := hh S24) 1 (fun n => B_61_40 n u1 u2 u3 u4 v24 S24) c25 ?_
                refine Ev.g (c := (kd 27).1 = 10 + 5 ∧ (xf_k 5 2 = 0 ∨ (xf_k 5 2 = 1 ∧ ((S24.1 27 1) = 0 ∨ (S24.1 27 1) = 1)))) (p1 := 103) (L1 := [.ref 27, .ref u1, .ref u2, .int u3, .int u4]) (s1 := []) (h1 := hh (xa_u S24.1 27 2 (S24.1 27 1), S24.2.1, S24.2.2)) 4 (fun n => B_61_41 n u1 u2 u3 u4 S24) (⟨rfl, Or.inl rfl⟩) ?_
                exact Ev.b (pc' := 3) (L' := [.ref 27, .ref u1, .ref u2, .int u3, .int (u4 + 1)]) (st' := []) (h' := hh (xa_u S24.1 27 2 (S24.1 27 1), S24.2.1, S24.2.2)) 2 (fun n => B_61_42 n u1 u2 u3 u4 S24) (Ev.up (by omega) ((ih (xa_u S24.1 27 2 (S24.1 27 1), S24.2.1, S24.2.2) u1 u2 u3 (u4 + 1) _ _).2.2 hG ))
              · rw [if_neg c25] at hG
                refine Ev.f (c := v24 = 0) (p1 := 95) (L1 := [.ref 27, .ref u1, .ref u2, .int u3, .int u4]) (s1 := []) (h1 := hh S24) (p2 := 82) (L2 := [.ref 27, .ref u1, .ref u2, .int u3, .int u4]) (s2 := []) (h2 := hh S24) 1 (fun n => B_61_43 n u1 u2 u3 u4 v24 S24) c25 ?_
                refine Ev.g (c := (kd 27).1 = 10 + 5 ∧ (xf_k 5 1 = 0 ∨ (xf_k 5 1 = 1 ∧ (((S24.1 27 1) + 1) = 0 ∨ ((S24.1 27 1) + 1) = 1)))) (p1 := 92) (L1 := [.ref 27, .ref u1, .ref u2, .int u3, .int u4]) (s1 := []) (h1 := hh (xa_u S24.1 27 1 ((S24.1 27 1) + 1), S24.2.1, S24.2.2)) 6 (fun n => B_61_44 n u1 u2 u3 u4 S24) (⟨rfl, Or.inl rfl⟩) ?_
                exact Ev.b (pc' := 3) (L' := [.ref 27, .ref u1, .ref u2, .int u3, .int (u4 + 1)]) (st' := []) (h' := hh (xa_u S24.1 27 1 ((S24.1 27 1) + 1), S24.2.1, S24.2.2)) 3 (fun n => B_61_45 n u1 u2 u3 u4 S24) (Ev.up (by omega) ((ih (xa_u S24.1 27 1 ((S24.1 27 1) + 1), S24.2.1, S24.2.2) u1 u2 u3 (u4 + 1) _ _).2.2 hG ))
          · rw [if_neg c18] at hG
            refine Ev.f (c := (S13.1 27 1) < (S13.1 u1 1)) (p1 := 42) (L1 := [.ref 27, .ref u1, .ref u2, .int u3, .int u4]) (s1 := []) (h1 := hh S13) (p2 := 31) (L2 := [.ref 27, .ref u1, .ref u2, .int u3, .int u4]) (s2 := []) (h2 := hh S13) 1 (fun n => B_61_46 n u1 u2 u3 u4 S13) c18 ?_
            refine Ev.g (c := (kd u1).1 = 10 + 1) (p1 := 36) (L1 := [.ref 27, .ref u1, .ref u2, .int u3, .int u4]) (s1 := [.int (S13.1 u1 1), .ref 27]) (h1 := hh S13) 3 (fun n => B_61_47 n u1 u2 u3 u4 S13) g17 ?_
            refine Ev.g (c := (kd 27).1 = 10 + 5 ∧ (xf_k 5 2 = 0 ∨ (xf_k 5 2 = 1 ∧ ((S13.1 u1 1) = 0 ∨ (S13.1 u1 1) = 1)))) (p1 := 39) (L1 := [.ref 27, .ref u1, .ref u2, .int u3, .int u4]) (s1 := []) (h1 := hh (xa_u S13.1 27 2 (S13.1 u1 1), S13.2.1, S13.2.2)) 1 (fun n => B_61_48 n u1 u2 u3 u4 S13) (⟨rfl, Or.inl rfl⟩) ?_
            exact Ev.b (pc' := 3) (L' := [.ref 27, .ref u1, .ref u2, .int u3, .int (u4 + 1)]) (st' := []) (h' := hh (xa_u S13.1 27 2 (S13.1 u1 1), S13.2.1, S13.2.2)) 3 (fun n => B_61_49 n u1 u2 u3 u4 S13) (Ev.up (by omega) ((ih (xa_u S13.1 27 2 (S13.1 u1 1), S13.2.1, S13.2.2) u1 u2 u3 (u4 + 1) _ _).2.2 hG ))
        · rw [if_neg c16] at hG
          refine Ev.f (c := (S13.1 27 2) = (-1)) (p1 := 20) (L1 := [.ref 27, .ref u1, .ref u2, .int u3, .int u4]) (s1 := []) (h1 := hh S13) (p2 := 109) (L2 := [.ref 27, .ref u1, .ref u2, .int u3, .int u4]) (s2 := []) (h2 := hh S13) 4 (fun n => B_61_50 n u1 u2 u3 u4 S13) c16 ?_
          obtain ⟨e1, e2⟩ := Prod.mk.inj (Option.some.inj hG)
          subst e1
          subst e2
          exact Ev.r 1 (fun n => rfl)
def G_61 (S : St) (x1 : Nat) (x2 : Nat) (x3 : Int32) : Option (Unit × St) := GR_61 200 0 S x1 x2 x3 0
theorem T_61 {X : Nat × (Nat → Int32)} (S : St) (x1 : Nat) (x2 : Nat) (x3 : Int32) (r : Unit) (S' : St) (hG : G_61 S x1 x2 x3 = some (r, S')) : Ev X 204 61 0 [.ref 27, .ref x1, .ref x2, .int x3, .retAddr 0] [] (hh S) (xV r, hh S') := (TGR_61 200 S x1 x2 x3 0 r S').1 hG
def G_62 (S : St) (x1 : Nat) (x2 : Int32) : Option (Unit × St) := GR_61 200 1 S x1 0 x2 0
theorem T_62 {X : Nat × (Nat → Int32)} (S : St) (x1 : Nat) (x2 : Int32) (r : Unit) (S' : St) (hG : G_62 S x1 x2 = some (r, S')) : Ev X 204 62 0 [.ref 27, .ref x1, .int x2, .retAddr 0, .retAddr 0] [] (hh S) (xV r, hh S') := (TGR_61 200 S x1 0 x2 0 r S').2.1 hG
/-- 75: SceneCycle$Runner.step(LSceneCycle$World;)I -/
def G_75 (S : St)  : Option (Int32 × St) :=
  (match G_76 S with
  | none => none
  | some (v1, S1) =>
    (if v1 = 0 then
      (match G_74 S1 with
      | none => none
      | some (v3, S3) =>
        some (0, S3)
      )
    else
      (if v1 = 1 then
        (match G_77 S1 v1 with
        | none => none
        | some (v5, S5) =>
          some (0, S5)
        )
      else
        (if v1 = 2 then
          (match G_77 S1 v1 with
          | none => none
          | some (v7, S7) =>
            some (0, S7)
          )
        else
          (if v1 = 3 then
            (match G_77 S1 v1 with
            | none => none
            | some (v9, S9) =>
              some (0, S9)
            )
          else
            (if v1 = 4 then
              (match G_76 S1 with
              | none => none
              | some (v11, S11) =>
                (match G_53 S11 v11 (1 : Int32) with
                | none => none
                | some (v12, S12) =>
                  some (0, S12)
                )
              )
            else
              (if v1 = 5 then
                (match G_76 S1 with
                | none => none
                | some (v14, S14) =>
                  (match G_53 S14 v14 (0 : Int32) with
                  | none => none
                  | some (v15, S15) =>
                    some (0, S15)
                  )
                )
              else
                (if v1 = 6 then
                  (match G_76 S1 with
                  | none => none
                  | some (v17, S17) =>
                    (match G_50 S17 v17 with
                    | none => none
                    | some (v18, S18) =>
                      (match v18 with
                      | none =>
                        none
                      | some a19 =>
                        (match G_78 S18 a19 with
                        | none => none
                        | some (v20, S20) =>
                          some (v20, S20)
                        )
                      )
                    )
                  )
                else
                  (if v1 = 7 then
                    (match G_79 S1 (1 : Int32) v1 with
                    | none => none
                    | some (v22, S22) =>
                      some (0, S22)
                    )
                  else
                    (if v1 = 8 then
                      (match G_80 S1 (0 : Int32) with
                      | none => none
                      | some (v24, S24) =>
                        (if v24 = 0 then
                          (match G_79 S24 (1 : Int32) v1 with
                          | none => none
                          | some (v26, S26) =>
                            some (0, S26)
                          )
                        else
                          (match G_79 S24 (0 : Int32) v1 with
                          | none => none
                          | some (v27, S27) =>
                            some (0, S27)
                          )
                        )
                      )
                    else
                      (if v1 = 18 then
                        (match G_50 S1 (0 : Int32) with
                        | none => none
                        | some (v29, S29) =>
                          (match v29 with
                          | none =>
                            none
                          | some a30 =>
                            (match G_38 S29 a30 with
                            | none => none
                            | some (v31, S31) =>
                              some (0, S31)
                            )
                          )
                        )
                      else
                        (match G_83 S1 v1 with
                        | none => none
                        | some (v32, S32) =>
                          some (0, S32)
                        )
                      )
                    )
                  )
                )
              )
            )
          )
        )
      )
    )
  )
theorem B_75_1 {X : Nat × (Nat → Int32)} {d : Nat} (n : Nat) (S : St) : ex X (d + 1) 75 0 [.ref 23, .ref 1, .retAddr 0] [] (hh S) (n + 2) = (match ex X d 76 0 [.ref 23, .retAddr 0] [] (hh S) n with | some (v, h') => ex X (d + 1) 75 4 [.ref 23, .ref 1, .retAddr 0] (v.toList ++ []) h' n | none => none) := rfl
theorem B_75_2 {X : Nat × (Nat → Int32)} {d : Nat} (n : Nat) (v1 : Int32) (S1 : St) : ex X d 75 4 [.ref 23, .ref 1, .retAddr 0] [.int v1] (hh S1) (n + 3) = xa_sw [(0, 96), (1, 103), (2, 103), (3, 103), (4, 112), (5, 112), (6, 134), (7, 147), (8, 156), (18, 178)] v1 193 (fun t => ex X d 75 t [.ref 23, .ref 1, .int v1] [] (hh S1) n) := rfl
theorem B_75_3 {X : Nat × (Nat → Int32)} {d : Nat} (n : Nat) (v1 : Int32) (S1 : St) : ex X (d + 1) 75 96 [.ref 23, .ref 1, .int v1] [] (hh S1) (n + 2) = (match ex X d 74 0 [.ref 23] [] (hh S1) n with | some (v, h') => ex X (d + 1) 75 100 [.ref 23, .ref 1, .int v1] (v.toList ++ []) h' n | none => none) := rfl
theorem B_75_4 {X : Nat × (Nat → Int32)} {d : Nat} (n : Nat) (v1 : Int32) (S1 : St) : ex X (d + 1) 75 103 [.ref 23, .ref 1, .int v1] [] (hh S1) (n + 4) = (match ex X d 77 0 [.ref 23, .ref 1, .int v1, .retAddr 0, .retAddr 0] [] (hh S1) n with | some (v, h') => ex X (d + 1) 75 109 [.ref 23, .ref 1, .int v1] (v.toList ++ []) h' n | none => none) := rfl
theorem B_75_5 {X : Nat × (Nat → Int32)} {d : Nat} (n : Nat) (v1 : Int32) (S1 : St) : ex X (d + 1) 75 103 [.ref 23, .ref 1, .int v1] [] (hh S1) (n + 4) = (match ex X d 77 0 [.ref 23, .ref 1, .int v1, .retAddr 0, .retAddr 0] [] (hh S1) n with | some (v, h') => ex X (d + 1) 75 109 [.ref 23, .ref 1, .int v1] (v.toList ++ []) h' n | none => none) := rfl
theorem B_75_6 {X : Nat × (Nat → Int32)} {d : Nat} (n : Nat) (v1 : Int32) (S1 : St) : ex X (d + 1) 75 103 [.ref 23, .ref 1, .int v1] [] (hh S1) (n + 4) = (match ex X d 77 0 [.ref 23, .ref 1, .int v1, .retAddr 0, .retAddr 0] [] (hh S1) n with | some (v, h') => ex X (d + 1) 75 109 [.ref 23, .ref 1, .int v1] (v.toList ++ []) h' n | none => none) := rfl
theorem B_75_7 {X : Nat × (Nat → Int32)} {d : Nat} (n : Nat) (v1 : Int32) (S1 : St) : ex X (d + 1) 75 112 [.ref 23, .ref 1, .int v1] [] (hh S1) (n + 3) = (match ex X d 76 0 [.ref 23, .retAddr 0] [] (hh S1) n with | some (v, h') => ex X (d + 1) 75 117 [.ref 23, .ref 1, .int v1] (v.toList ++ [.ref 1]) h' n | none => none) := rfl
theorem B_75_8 {X : Nat × (Nat → Int32)} {d : Nat} (n : Nat) (v1 : Int32) (v11 : Int32) (S11 : St) : ex X d 75 117 [.ref 23, .ref 1, .int v1] [.int v11, .ref 1] (hh S11) (n + 3) = if v1 = 4 then ex X d 75 122 [.ref 23, .ref 1, .int v1] [.int v11, .ref 1] (hh S11) n else ex X d 75 126 [.ref 23, .ref 1, .int v1] [.int v11, .ref 1] (hh S11) n := rfl
theorem B_75_9 {X : Nat × (Nat → Int32)} {d : Nat} (n : Nat) (v1 : Int32) (v11 : Int32) (S11 : St) : ex X (d + 1) 75 122 [.ref 23, .ref 1, .int v1] [.int v11, .ref 1] (hh S11) (n + 3) = (match ex X d 53 0 [.ref 1, .int v11, .int 1] [] (hh S11) n with | some (v, h') => ex X (d + 1) 75 130 [.ref 23, .ref 1, .int v1] (v.toList ++ []) h' n | none => none) := rfl
theorem B_75_10 {X : Nat × (Nat → Int32)} {d : Nat} (n : Nat) (v1 : Int32) (S1 : St) : ex X (d + 1) 75 112 [.ref 23, .ref 1, .int v1] [] (hh S1) (n + 3) = (match ex X d 76 0 [.ref 23, .retAddr 0] [] (hh S1) n with | some (v, h') => ex X (d + 1) 75 117 [.ref 23, .ref 1, .int v1] (v.toList ++ [.ref 1]) h' n | none => none) := rfl
theorem B_75_11 {X : Nat × (Nat → Int32)} {d : Nat} (n : Nat) (v1 : Int32) (v14 : Int32) (S14 : St) : ex X d 75 117 [.ref 23, .ref 1, .int v1] [.int v14, .ref 1] (hh S14) (n + 3) = if v1 = 4 then ex X d 75 122 [.ref 23, .ref 1, .int v1] [.int v14, .ref 1] (hh S14) n else ex X d 75 126 [.ref 23, .ref 1, .int v1] [.int v14, .ref 1] (hh S14) n := rfl
theorem B_75_12 {X : Nat × (Nat → Int32)} {d : Nat} (n : Nat) (v1 : Int32) (v14 : Int32) (S14 : St) : ex X (d + 1) 75 126 [.ref 23, .ref 1, .int v1] [.int v14, .ref 1] (hh S14) (n + 2) = (match ex X d 53 0 [.ref 1, .int v14, .int 0] [] (hh S14) n with | some (v, h') => ex X (d + 1) 75 130 [.ref 23, .ref 1, .int v1] (v.toList ++ []) h' n | none => none) := rfl
theorem B_75_13 {X : Nat × (Nat → Int32)} {d : Nat} (n : Nat) (v1 : Int32) (S1 : St) : ex X (d + 1) 75 134 [.ref 23, .ref 1, .int v1] [] (hh S1) (n + 4) = (match ex X d 76 0 [.ref 23, .retAddr 0] [] (hh S1) n with | some (v, h') => ex X (d + 1) 75 140 [.ref 23, .ref 1, .int v1] (v.toList ++ [.ref 1, .ref 23]) h' n | none => none) := rfl
theorem B_75_14 {X : Nat × (Nat → Int32)} {d : Nat} (n : Nat) (v1 : Int32) (v17 : Int32) (S17 : St) : ex X (d + 1) 75 140 [.ref 23, .ref 1, .int v1] [.int v17, .ref 1, .ref 23] (hh S17) (n + 1) = (match ex X d 50 0 [.ref 1, .int v17] [] (hh S17) n with | some (v, h') => ex X (d + 1) 75 143 [.ref 23, .ref 1, .int v1] (v.toList ++ [.ref 23]) h' n | none => none) := rfl
theorem B_75_15 {X : Nat × (Nat → Int32)} {d : Nat} (n : Nat) (v1 : Int32) (a19 : Nat) (S18 : St) : ex X (d + 1) 75 143 [.ref 23, .ref 1, .int v1] [.ref a19, .ref 23] (hh S18) (n + 1) = (match ex X d 78 0 [.ref 23, .ref a19] [] (hh S18) n with | some (v, h') => ex X (d + 1) 75 146 [.ref 23, .ref 1, .int v1] (v.toList ++ []) h' n | none => none) := rfl
theorem B_75_16 {X : Nat × (Nat → Int32)} {d : Nat} (n : Nat) (v1 : Int32) (S1 : St) : ex X (d + 1) 75 147 [.ref 23, .ref 1, .int v1] [] (hh S1) (n + 4) = (match ex X d 79 0 [.ref 23, .int 1, .int v1, .retAddr 0] [] (hh S1) n with | some (v, h') => ex X (d + 1) 75 153 [.ref 23, .ref 1, .int v1] (v.toList ++ []) h' n | none => none) := rfl
theorem B_75_17 {X : Nat × (Nat → Int32)} {d : Nat} (n : Nat) (v1 : Int32) (S1 : St) : ex X (d + 1) 75 156 [.ref 23, .ref 1, .int v1] [] (hh S1) (n + 5) = (match ex X d 80 0 [.ref 23, .ref 1, .int 0, .retAddr 0, .retAddr 0] [] (hh S1) n with | some (v, h') => ex X (d + 1) 75 163 [.ref 23, .ref 1, .int v1] (v.toList ++ [.ref 23]) h' n | none => none) := rfl
theorem B_75_18 {X : Nat × (Nat → Int32)} {d : Nat} (n : Nat) (v1 : Int32) (v24 : Int32) (S24 : St) : ex X d 75 163 [.ref 23, .ref 1, .int v1] [.int v24, .ref 23] (hh S24) (n + 1) = if v24 = 0 then ex X d 75 166 [.ref 23, .ref 1, .int v1] [.ref 23] (hh S24) n else ex X d 75 170 [.ref 23, .ref 1, .int v1] [.ref 23] (hh S24) n := rfl
theorem B_75_19 {X : Nat × (Nat → Int32)} {d : Nat} (n : Nat) (v1 : Int32) (S24 : St) : ex X (d + 1) 75 166 [.ref 23, .ref 1, .int v1] [.ref 23] (hh S24) (n + 4) = (match ex X d 79 0 [.ref 23, .int 1, .int v1, .retAddr 0] [] (hh S24) n with | some (v, h') => ex X (d + 1) 75 175 [.ref 23, .ref 1, .int v1] (v.toList ++ []) h' n | none => none) := rfl
theorem B_75_20 {X : Nat × (Nat → Int32)} {d : Nat} (n : Nat) (v1 : Int32) (v24 : Int32) (S24 : St) : ex X d 75 163 [.ref 23, .ref 1, .int v1] [.int v24, .ref 23] (hh S24) (n + 1) = if v24 = 0 then ex X d 75 166 [.ref 23, .ref 1, .int v1] [.ref 23] (hh S24) n else ex X d 75 170 [.ref 23, .ref 1, .int v1] [.ref 23] (hh S24) n := rfl
theorem B_75_21 {X : Nat × (Nat → Int32)} {d : Nat} (n : Nat) (v1 : Int32) (S24 : St) : ex X (d + 1) 75 170 [.ref 23, .ref 1, .int v1] [.ref 23] (hh S24) (n + 3) = (match ex X d 79 0 [.ref 23, .int 0, .int v1, .retAddr 0] [] (hh S24) n with | some (v, h') => ex X (d + 1) 75 175 [.ref 23, .ref 1, .int v1] (v.toList ++ []) h' n | none => none) := rfl
theorem B_75_22 {X : Nat × (Nat → Int32)} {d : Nat} (n : Nat) (v1 : Int32) (S1 : St) : ex X (d + 1) 75 178 [.ref 23, .ref 1, .int v1] [] (hh S1) (n + 5) = (match ex X d 50 0 [.ref 1, .int 0] [] (hh S1) n with | some (v, h') => ex X (d + 1) 75 187 [.ref 23, .ref 1, .int v1] (v.toList ++ [.ref 2]) h' n | none => none) := rfl
theorem B_75_23 {X : Nat × (Nat → Int32)} {d : Nat} (n : Nat) (v1 : Int32) (a30 : Nat) (S29 : St) : ex X (d + 1) 75 187 [.ref 23, .ref 1, .int v1] [.ref a30, .ref 2] (hh S29) (n + 1) = (match ex X d 38 0 [.ref 2, .ref a30, .retAddr 0, .retAddr 0] [] (hh S29) n with | some (v, h') => ex X (d + 1) 75 190 [.ref 23, .ref 1, .int v1] (v.toList ++ []) h' n | none => none) := rfl
theorem B_75_24 {X : Nat × (Nat → Int32)} {d : Nat} (n : Nat) (v1 : Int32) (S1 : St) : ex X (d + 1) 75 193 [.ref 23, .ref 1, .int v1] [] (hh S1) (n + 4) = (match ex X d 83 0 [.ref 23, .ref 1, .int v1, .retAddr 0] [] (hh S1) n with | some (v, h') => ex X (d + 1) 75 199 [.ref 23, .ref 1, .int v1] (v.toList ++ []) h' n | none => none) := rfl
set_option maxRecDepth 200000 in
theorem T_75 {X : Nat × (Nat → Int32)} (S : St)  (r : Int32) (S' : St) (hG : G_75 S  = some (r, S')) : Ev X 44 75 0 [.ref 23, .ref 1, .retAddr 0] [] (hh S) (xI r, hh S') := by
  unfold G_75 at hG
  rcases h1 : G_76 S with _ | ⟨v1, S1⟩
  · rw [h1] at hG; cases hG
  rw [h1] at hG
  dsimp only at hG
  refine Ev.c (a := 76) (A := [.ref 23, .retAddr 0]) (h1 := hh S) (pc' := 4) (L' := [.ref 23, .ref 1, .retAddr 0]) (rest := []) (r1 := some (.int v1)) (h2 := hh S1) 2 (fun n => B_75_1 n S) (Ev.up (by decide) (T_76 S  _ _ h1)) ?_
  show Ev X _ 75 4 [.ref 23, .ref 1, .retAddr 0] [.int v1] (hh S1) _
  refine Ev.sw (ks := [(0, 96), (1, 103), (2, 103), (3, 103), (4, 112), (5, 112), (6, 134), (7, 147), (8, 156), (18, 178)]) (x := v1) (df := 193) (L1 := [.ref 23, .ref 1, .int v1]) (s1 := []) (h1 := hh S1) 3 (fun n => B_75_2 n v1 S1) ?_
  by_cases c2 : v1 = 0
  · rw [if_pos c2] at hG
    rw [xa_sw, if_pos c2]
    show Ev X _ 75 96 [.ref 23, .ref 1, .int v1] [] (hh S1) _
    rcases h3 : G_74 S1 with _ | ⟨v3, S3⟩
    · rw [h3] at hG; cases hG
    rw [h3] at hG
    dsimp only at hG
    refine Ev.c (a := 74) (A := [.ref 23]) (h1 := hh S1) (pc' := 100) (L' := [.ref 23, .ref 1, .int v1]) (rest := []) (r1 := none) (h2 := hh S3) 2 (fun n => B_75_3 n v1 S1) (Ev.up (by decide) (T_74 S1  _ _ h3)) ?_
    show Ev X _ 75 100 [.ref 23, .ref 1, .int v1] [] (hh S3) _
    obtain ⟨e1, e2⟩ := Prod.mk.inj (Option.some.inj hG)
    subst e1
    subst e2
    exact Ev.r 3 (fun n => rfl)
  rw [if_neg c2] at hG
  rw [xa_sw, if_neg c2]
  by_cases c4 : v1 = 1
  · rw [if_pos c4] at hG
    rw [xa_sw, if_pos c4]
    show Ev X _ 75 103 [.ref 23, .ref 1, .int v1] [] (hh S1) _
    rcases h5 : G_77 S1 v1 with _ | ⟨v5, S5⟩
    · rw [h5] at hG; cases hG
    rw [h5] at hG
    dsimp only at hG
    refine Ev.c (a := 77) (A := [.ref 23, .ref 1, .int v1, .retAddr 0, .retAddr 0]) (h1 := hh S1) (pc' := 109) (L' := [.ref 23, .ref 1, .int v1]) (rest := []) (r1 := none) (h2 := hh S5) 4 (fun n => B_75_4 n v1 S1) (Ev.up (by decide) (T_77 S1 v1 _ _ h5)) ?_
    show Ev X _ 75 109 [.ref 23, .ref 1, .int v1] [] (hh S5) _
    obtain ⟨e1, e2⟩ := Prod.mk.inj (Option.some.inj hG)
    subst e1
    subst e2
    exact Ev.r 3 (fun n => rfl)
  rw [if_neg c4] at hG
  rw [xa_sw, if_neg c4]
  by_cases c6 : v1 = 2
  · rw [if_pos c6] at hG
    rw [xa_sw, if_pos c6]
    show Ev X _ 75 103 [.ref 23, .ref 1, .int v1] [] (hh S1) _
    rcases h7 : G_77 S1 v1 with _ | ⟨v7, S7⟩
    · rw [h7] at hG; cases hG
    rw [h7] at hG
    dsimp only at hG
    refine Ev.c (a := 77) (A := [.ref 23, .ref 1, .int v1, .retAddr 0, .retAddr 0]) (h1 := hh S1) (pc' := 109) (L' := [.ref 23, .ref 1, .int v1]) (rest := []) (r1 := none) (h2 := hh S7) 4 (fun n => B_75_5 n v1 S1) (Ev.up (by decide) (T_77 S1 v1 _ _ h7)) ?_
    show Ev X _ 75 109 [.ref 23, .ref 1, .int v1] [] (hh S7) _
    obtain ⟨e1, e2⟩ := Prod.mk.inj (Option.some.inj hG)
    subst e1
    subst e2
    exact Ev.r 3 (fun n => rfl)
  rw [if_neg c6] at hG
  rw [xa_sw, if_neg c6]
  by_cases c8 : v1 = 3
  · rw [if_pos c8] at hG
    rw [xa_sw, if_pos c8]
    show Ev X _ 75 103 [.ref 23, .ref 1, .int v1] [] (hh S1) _
    rcases h9 : G_77 S1 v1 with _ | ⟨v9, S9⟩
    · rw [h9] at hG; cases hG
    rw [h9] at hG
    dsimp only at hG
    refine Ev.c (a := 77) (A := [.ref 23, .ref 1, .int v1, .retAddr 0, .retAddr 0]) (h1 := hh S1) (pc' := 109) (L' := [.ref 23, .ref 1, .int v1]) (rest := []) (r1 := none) (h2 := hh S9) 4 (fun n => B_75_6 n v1 S1) (Ev.up (by decide) (T_77 S1 v1 _ _ h9)) ?_
    show Ev X _ 75 109 [.ref 23, .ref 1, .int v1] [] (hh S9) _
    obtain ⟨e1, e2⟩ := Prod.mk.inj (Option.some.inj hG)
    subst e1
    subst e2
    exact Ev.r 3 (fun n => rfl)
  rw [if_neg c8] at hG
  rw [xa_sw, if_neg c8]
  by_cases c10 : v1 = 4
  · rw [if_pos c10] at hG
    rw [xa_sw, if_pos c10]
    show Ev X _ 75 112 [.ref 23, .ref 1, .int v1] [] (hh S1) _
    rcases h11 : G_76 S1 with _ | ⟨v11, S11⟩
    · rw [h11] at hG; cases hG
    rw [h11] at hG
    dsimp only at hG
    refine Ev.c (a := 76) (A := [.ref 23, .retAddr 0]) (h1 := hh S1) (pc' := 117) (L' := [.ref 23, .ref 1, .int v1]) (rest := [.ref 1]) (r1 := some (.int v11)) (h2 := hh S11) 3 (fun n => B_75_7 n v1 S1) (Ev.up (by decide) (T_76 S1  _ _ h11)) ?_
    show Ev X _ 75 117 [.ref 23, .ref 1, .int v1] [.int v11, .ref 1] (hh S11) _
    refine Ev.t (c := v1 = 4) (p1 := 122) (L1 := [.ref 23, .ref 1, .int v1]) (s1 := [.int v11, .ref 1]) (h1 := hh S11) (p2 := 126) (L2 := [.ref 23, .ref 1, .int v1]) (s2 := [.int v11, .ref 1]) (h2 := hh S11) 3 (fun n => B_75_8 n v1 v11 S11) c10 ?_
    rcases h12 : G_53 S11 v11 (1 : Int32) with _ | ⟨v12, S12⟩
    · rw [h12] at hG; cases hG
    rw [h12] at hG
    dsimp only at hG
    refine Ev.c (a := 53) (A := [.ref 1, .int v11, .int 1]) (h1 := hh S11) (pc' := 130) (L' := [.ref 23, .ref 1, .int v1]) (rest := []) (r1 := some (.int v12)) (h2 := hh S12) 3 (fun n => B_75_9 n v1 v11 S11) (Ev.up (by decide) (T_53 S11 v11 (1 : Int32) _ _ h12)) ?_
    show Ev X _ 75 130 [.ref 23, .ref 1, .int v1] [.int v12] (hh S12) _
    obtain ⟨e1, e2⟩ := Prod.mk.inj (Option.some.inj hG)
    subst e1
    subst e2
    exact Ev.r 4 (fun n => rfl)
  rw [if_neg c10] at hG
  rw [xa_sw, if_neg c10]
  by_cases c13 : v1 = 5
  · rw [if_pos c13] at hG
    rw [xa_sw, if_pos c13]
    show Ev X _ 75 112 [.ref 23, .ref 1, .int v1] [] (hh S1) _
    rcases h14 : G_76 S1 with _ | ⟨v14, S14⟩
    · rw [h14] at hG; cases hG
    rw [h14] at hG
    dsimp only at hG
    refine Ev.c (a := 76) (A := [.ref 23, .retAddr 0]) (h1 := hh S1) (pc' := 117) (L' := [.ref 23, .ref 1, .int v1]) (rest := [.ref 1]) (r1 := some (.int v14)) (h2 := hh S14) 3 (fun n => B_75_10 n v1 S1) (Ev.up (by decide) (T_76 S1  _ _ h14)) ?_
    show Ev X _ 75 117 [.ref 23, .ref 1, .int v1] [.int v14, .ref 1] (hh S14) _
    refine Ev.f (c := v1 = 4) (p1 := 122) (L1 := [.ref 23, .ref 1, .int v1]) (s1 := [.int v14, .ref 1]) (h1 := hh S14) (p2 := 126) (L2 := [.ref 23, .ref 1, .int v1]) (s2 := [.int v14, .ref 1]) (h2 := hh S14) 3 (fun n => B_75_11 n v1 v14 S14) c10 ?_
    rcases h15 : G_53 S14 v14 (0 : Int32) with _ | ⟨v15, S15⟩
    · rw [h15] at hG; cases hG
    rw [h15] at hG
    dsimp only at hG
    refine Ev.c (a := 53) (A := [.ref 1, .int v14, .int 0]) (h1 := hh S14) (pc' := 130) (L' := [.ref 23, .ref 1, .int v1]) (rest := []) (r1 := some (.int v15)) (h2 := hh S15) 2 (fun n => B_75_12 n v1 v14 S14) (Ev.up (by decide) (T_53 S14 v14 (0 : Int32) _ _ h15)) ?_
    show Ev X _ 75 130 [.ref 23, .ref 1, .int v1] [.int v15] (hh S15) _
    obtain ⟨e1, e2⟩ := Prod.mk.inj (Option.some.inj hG)
    subst e1
    subst e2
    exact Ev.r 4 (fun n => rfl)
  rw [if_neg c13] at hG
  rw [xa_sw, if_neg c13]
  by_cases c16 : v1 = 6
  · rw [if_pos c16] at hG
    rw [xa_sw, if_pos c16]
    show Ev X _ 75 134 [.ref 23, .ref 1, .int v1] [] (hh S1) _
    rcases h17 : G_76 S1 with _ | ⟨v17, S17⟩
    · rw [h17] at hG; cases hG
    rw [h17] at hG
    dsimp only at hG
    refine Ev.c (a := 76) (A := [.ref 23, .retAddr 0]) (h1 := hh S1) (pc' := 140) (L' := [.ref 23, .ref 1, .int v1]) (rest := [.ref 1, .ref 23]) (r1 := some (.int v17)) (h2 := hh S17) 4 (fun n => B_75_13 n v1 S1) (Ev.up (by decide) (T_76 S1  _ _ h17)) ?_
    show Ev X _ 75 140 [.ref 23, .ref 1, .int v1] [.int v17, .ref 1, .ref 23] (hh S17) _
    rcases h18 : G_50 S17 v17 with _ | ⟨v18, S18⟩
    · rw [h18] at hG; cases hG
    rw [h18] at hG
    dsimp only at hG
    refine Ev.c (a := 50) (A := [.ref 1, .int v17]) (h1 := hh S17) (pc' := 143) (L' := [.ref 23, .ref 1, .int v1]) (rest := [.ref 23]) (r1 := some (va_rf v18)) (h2 := hh S18) 1 (fun n => B_75_14 n v1 v17 S17) (Ev.up (by decide) (T_50 S17 v17 _ _ h18)) ?_
    rcases v18 with _ | a19
    · dsimp only at hG
      show Ev X _ 75 143 [.ref 23, .ref 1, .int v1] [.null, .ref 23] (hh S18) _
      cases hG
    · dsimp only at hG
      show Ev X _ 75 143 [.ref 23, .ref 1, .int v1] [.ref a19, .ref 23] (hh S18) _
      rcases h20 : G_78 S18 a19 with _ | ⟨v20, S20⟩
      · rw [h20] at hG; cases hG
      rw [h20] at hG
      dsimp only at hG
      refine Ev.c (a := 78) (A := [.ref 23, .ref a19]) (h1 := hh S18) (pc' := 146) (L' := [.ref 23, .ref 1, .int v1]) (rest := []) (r1 := some (.int v20)) (h2 := hh S20) 1 (fun n => B_75_15 n v1 a19 S18) (Ev.up (by decide) (T_78 S18 a19 _ _ h20)) ?_
      show Ev X _ 75 146 [.ref 23, .ref 1, .int v1] [.int v20] (hh S20) _
      obtain ⟨e1, e2⟩ := Prod.mk.inj (Option.some.inj hG)
      subst e1
      subst e2
      exact Ev.r 1 (fun n => rfl)
  rw [if_neg c16] at hG
  rw [xa_sw, if_neg c16]
  by_cases c21 : v1 = 7
  · rw [if_pos c21] at hG
    rw [xa_sw, if_pos c21]
    show Ev X _ 75 147 [.ref 23, .ref 1, .int v1] [] (hh S1) _
    rcases h22 : G_79 S1 (1 : Int32) v1 with _ | ⟨v22, S22⟩
    · rw [h22] at hG; cases hG
    rw [h22] at hG
    dsimp only at hG
    refine Ev.c (a := 79) (A := [.ref 23, .int 1, .int v1, .retAddr 0]) (h1 := hh S1) (pc' := 153) (L' := [.ref 23, .ref 1, .int v1]) (rest := []) (r1 := none) (h2 := hh S22) 4 (fun n => B_75_16 n v1 S1) (Ev.up (by decide) (T_79 S1 (1 : Int32) v1 _ _ h22)) ?_
    show Ev X _ 75 153 [.ref 23, .ref 1, .int v1] [] (hh S22) _
    obtain ⟨e1, e2⟩ := Prod.mk.inj (Option.some.inj hG)
    subst e1
    subst e2
    exact Ev.r 3 (fun n => rfl)
  rw [if_neg c21] at hG
  rw [xa_sw, if_neg c21]
  by_cases c23 : v1 = 8
  · rw [if_pos c23] at hG
    rw [xa_sw, if_pos c23]
    show Ev X _ 75 156 [.ref 23, .ref 1, .int v1] [] (hh S1) _
    rcases h24 : G_80 S1 (0 : Int32) with _ | ⟨v24, S24⟩
    · rw [h24] at hG; cases hG
    rw [h24] at hG
    dsimp only at hG
    refine Ev.c (a := 80) (A := [.ref 23, .ref 1, .int 0, .retAddr 0, .retAddr 0]) (h1 := hh S1) (pc' := 163) (L' := [.ref 23, .ref 1, .int v1]) (rest := [.ref 23]) (r1 := some (.int v24)) (h2 := hh S24) 5 (fun n => B_75_17 n v1 S1) (Ev.up (by decide) (T_80 S1 (0 : Int32) _ _ h24)) ?_
    show Ev X _ 75 163 [.ref 23, .ref 1, .int v1] [.int v24, .ref 23] (hh S24) _
    by_cases c25 : v24 = 0
    · rw [if_pos c25] at hG
      refine Ev.t (c := v24 = 0) (p1 := 166) (L1 := [.ref 23, .ref 1, .int v1]) (s1 := [.ref 23]) (h1 := hh S24) (p2 := 170) (L2 := [.ref 23, .ref 1, .int v1]) (s2 := [.ref 23]) (h2 := hh S24) 1 (fun n => B_75_18 n v1 v24 S24) c25 ?_
      rcases h26 : G_79 S24 (1 : Int32) v1 with _ | ⟨v26, S26⟩
      · rw [h26] at hG; cases hG
      rw [h26] at hG
      dsimp only at hG
      refine Ev.c (a := 79) (A := [.ref 23, .int 1, .int v1, .retAddr 0]) (h1 := hh S24) (pc' := 175) (L' := [.ref 23, .ref 1, .int v1]) (rest := []) (r1 := none) (h2 := hh S26) 4 (fun n => B_75_19 n v1 S24) (Ev.up (by decide) (T_79 S24 (1 : Int32) v1 _ _ h26)) ?_
      show Ev X _ 75 175 [.ref 23, .ref 1, .int v1] [] (hh S26) _
      obtain ⟨e1, e2⟩ := Prod.mk.inj (Option.some.inj hG)
      subst e1
      subst e2
      exact Ev.r 3 (fun n => rfl)
    · rw [if_neg c25] at hG
      refine Ev.f (c := v24 = 0) (p1 := 166) (L1 := [.ref 23, .ref 1, .int v1]) (s1 := [.ref 23]) (h1 := hh S24) (p2 := 170) (L2 := [.ref 23, .ref 1, .int v1]) (s2 := [.ref 23]) (h2 := hh S24) 1 (fun n => B_75_20 n v1 v24 S24) c25 ?_
      rcases h27 : G_79 S24 (0 : Int32) v1 with _ | ⟨v27, S27⟩
      · rw [h27] at hG; cases hG
      rw [h27] at hG
      dsimp only at hG
      refine Ev.c (a := 79) (A := [.ref 23, .int 0, .int v1, .retAddr 0]) (h1 := hh S24) (pc' := 175) (L' := [.ref 23, .ref 1, .int v1]) (rest := []) (r1 := none) (h2 := hh S27) 3 (fun n => B_75_21 n v1 S24) (Ev.up (by decide) (T_79 S24 (0 : Int32) v1 _ _ h27)) ?_
      show Ev X _ 75 175 [.ref 23, .ref 1, .int v1] [] (hh S27) _
      obtain ⟨e1, e2⟩ := Prod.mk.inj (Option.some.inj hG)
      subst e1
      subst e2
      exact Ev.r 3 (fun n => rfl)
  rw [if_neg c23] at hG
  rw [xa_sw, if_neg c23]
  by_cases c28 : v1 = 18
  · rw [if_pos c28] at hG
    rw [xa_sw, if_pos c28]
    show Ev X _ 75 178 [.ref 23, .ref 1, .int v1] [] (hh S1) _
    rcases h29 : G_50 S1 (0 : Int32) with _ | ⟨v29, S29⟩
    · rw [h29] at hG; cases hG
    rw [h29] at hG
    dsimp only at hG
    refine Ev.c (a := 50) (A := [.ref 1, .int 0]) (h1 := hh S1) (pc' := 187) (L' := [.ref 23, .ref 1, .int v1]) (rest := [.ref 2]) (r1 := some (va_rf v29)) (h2 := hh S29) 5 (fun n => B_75_22 n v1 S1) (Ev.up (by decide) (T_50 S1 (0 : Int32) _ _ h29)) ?_
    rcases v29 with _ | a30
    · dsimp only at hG
      show Ev X _ 75 187 [.ref 23, .ref 1, .int v1] [.null, .ref 2] (hh S29) _
      cases hG
    · dsimp only at hG
      show Ev X _ 75 187 [.ref 23, .ref 1, .int v1] [.ref a30, .ref 2] (hh S29) _
      rcases h31 : G_38 S29 a30 with _ | ⟨v31, S31⟩
      · rw [h31] at hG; cases hG
      rw [h31] at hG
      dsimp only at hG
      refine Ev.c (a := 38) (A := [.ref 2, .ref a30, .retAddr 0, .retAddr 0]) (h1 := hh S29) (pc' := 190) (L' := [.ref 23, .ref 1, .int v1]) (rest := []) (r1 := none) (h2 := hh S31) 1 (fun n => B_75_23 n v1 a30 S29) (Ev.up (by decide) (T_38 S29 a30 _ _ h31)) ?_
      show Ev X _ 75 190 [.ref 23, .ref 1, .int v1] [] (hh S31) _
      obtain ⟨e1, e2⟩ := Prod.mk.inj (Option.some.inj hG)
      subst e1
      subst e2
      exact Ev.r 3 (fun n => rfl)
  rw [if_neg c28] at hG
  rw [xa_sw, if_neg c28]
  rw [xa_sw]
  show Ev X _ 75 193 [.ref 23, .ref 1, .int v1] [] (hh S1) _
  rcases h32 : G_83 S1 v1 with _ | ⟨v32, S32⟩
  · rw [h32] at hG; cases hG
  rw [h32] at hG
  dsimp only at hG
  refine Ev.c (a := 83) (A := [.ref 23, .ref 1, .int v1, .retAddr 0]) (h1 := hh S1) (pc' := 199) (L' := [.ref 23, .ref 1, .int v1]) (rest := []) (r1 := none) (h2 := hh S32) 4 (fun n => B_75_24 n v1 S1) (Ev.up (by decide) (T_83 S1 v1 _ _ h32)) ?_
  show Ev X _ 75 199 [.ref 23, .ref 1, .int v1] [] (hh S32) _
  obtain ⟨e1, e2⟩ := Prod.mk.inj (Option.some.inj hG)
  subst e1
  subst e2
  exact Ev.r 2 (fun n => rfl)
/-- 72: SceneCycle$Runner.run(LSceneCycle$World;I)I -/
def GL_72_0 : Nat → St → Int32 → Int32 → Int32 → Option (Int32 × St)
  | 0, _, _, _, _ => none
  | n + 1, S, y2, y3, y4 =>
    (if 1000 ≤ y4 then
      some (y3, S)
    else
      (if (S.1 23 5) = 0 then
        (if y3 = 0 then
          (match G_73 S with
          | none => none
          | some (v4, S4) =>
            (if v4 = 0 then
              (if (S4.1 23 6) < y2 then
                (match G_75 (xa_u S4.1 23 6 ((S4.1 23 6) + 1), S4.2.1, S4.2.2) with
                | none => none
                | some (v7, S7) =>
                  GL_72_0 n S7 y2 v7 (y4 + 1)
                )
              else
                GL_72_0 n S4 y2 ((-2) : Int32) (y4 + 1)
              )
            else
              (match G_74 S4 with
              | none => none
              | some (v8, S8) =>
                GL_72_0 n S8 y2 y3 (y4 + 1)
              )
            )
          )
        else
          some (y3, S)
        )
      else
        some (y3, S)
      )
    )
theorem B_72_1 {X : Nat × (Nat → Int32)} {d : Nat} (n : Nat) (y2 : Int32) (y3 : Int32) (y4 : Int32) (S : St) : ex X d 72 55 [.ref 23, .ref 1, .int y2, .int y3, .int y4] [] (hh S) (n + 3) = if 1000 ≤ y4 then ex X d 72 124 [.ref 23, .ref 1, .int y2, .int y3, .int y4] [] (hh S) n else ex X d 72 63 [.ref 23, .ref 1, .int y2, .int y3, .int y4] [] (hh S) n := rfl
theorem B_72_2 {X : Nat × (Nat → Int32)} {d : Nat} (n : Nat) (y2 : Int32) (y3 : Int32) (y4 : Int32) (S : St) : ex X d 72 55 [.ref 23, .ref 1, .int y2, .int y3, .int y4] [] (hh S) (n + 3) = if 1000 ≤ y4 then ex X d 72 124 [.ref 23, .ref 1, .int y2, .int y3, .int y4] [] (hh S) n else ex X d 72 63 [.ref 23, .ref 1, .int y2, .int y3, .int y4] [] (hh S) n := rfl
theorem B_72_3 {X : Nat × (Nat → Int32)} {d : Nat} (n : Nat) (y2 : Int32) (y3 : Int32) (y4 : Int32) (S : St) : ex X d 72 63 [.ref 23, .ref 1, .int y2, .int y3, .int y4] [] (hh S) (n + 3) = if (S.1 23 5) = 0 then ex X d 72 70 [.ref 23, .ref 1, .int y2, .int y3, .int y4] [] (hh S) n else ex X d 72 124 [.ref 23, .ref 1, .int y2, .int y3, .int y4] [] (hh S) n := rfl
theorem B_72_4 {X : Nat × (Nat → Int32)} {d : Nat} (n : Nat) (y2 : Int32) (y3 : Int32) (y4 : Int32) (S : St) : ex X d 72 70 [.ref 23, .ref 1, .int y2, .int y3, .int y4] [] (hh S) (n + 2) = if y3 = 0 then ex X d 72 74 [.ref 23, .ref 1, .int y2, .int y3, .int y4] [] (hh S) n else ex X d 72 124 [.ref 23, .ref 1, .int y2, .int y3, .int y4] [] (hh S) n := rfl
theorem B_72_5 {X : Nat × (Nat → Int32)} {d : Nat} (n : Nat) (y2 : Int32) (y3 : Int32) (y4 : Int32) (S : St) : ex X (d + 1) 72 74 [.ref 23, .ref 1, .int y2, .int y3, .int y4] [] (hh S) (n + 2) = (match ex X d 73 0 [.ref 23] [] (hh S) n with | some (v, h') => ex X (d + 1) 72 78 [.ref 23, .ref 1, .int y2, .int y3, .int y4] (v.toList ++ []) h' n | none => none) := rfl
theorem B_72_6 {X : Nat × (Nat → Int32)} {d : Nat} (n : Nat) (y2 : Int32) (y3 : Int32) (y4 : Int32) (v4 : Int32) (S4 : St) : ex X d 72 78 [.ref 23, .ref 1, .int y2, .int y3, .int y4] [.int v4] (hh S4) (n + 1) = if v4 = 0 then ex X d 72 88 [.ref 23, .ref 1, .int y2, .int y3, .int y4] [] (hh S4) n else ex X d 72 81 [.ref 23, .ref 1, .int y2, .int y3, .int y4] [] (hh S4) n := rfl
theorem B_72_7 {X : Nat × (Nat → Int32)} {d : Nat} (n : Nat) (y2 : Int32) (y3 : Int32) (y4 : Int32) (S4 : St) : ex X d 72 88 [.ref 23, .ref 1, .int y2, .int y3, .int y4] [] (hh S4) (n + 4) = if (S4.1 23 6) < y2 then ex X d 72 102 [.ref 23, .ref 1, .int y2, .int y3, .int y4] [] (hh S4) n else ex X d 72 96 [.ref 23, .ref 1, .int y2, .int y3, .int y4] [] (hh S4) n := rfl
theorem B_72_8 {X : Nat × (Nat → Int32)} {d : Nat} (n : Nat) (y2 : Int32) (y3 : Int32) (y4 : Int32) (S4 : St) : ex X d 72 102 [.ref 23, .ref 1, .int y2, .int y3, .int y4] [] (hh S4) (n + 6) = if (kd 23).1 = 10 + 6 ∧ (xf_k 6 6 = 0 ∨ (xf_k 6 6 = 1 ∧ (((S4.1 23 6) + 1) = 0 ∨ ((S4.1 23 6) + 1) = 1))) then ex X d 72 112 [.ref 23, .ref 1, .int y2, .int y3, .int y4] [] (hh (xa_u S4.1 23 6 ((S4.1 23 6) + 1), S4.2.1, S4.2.2)) n else none := rfl
theorem B_72_9 {X : Nat × (Nat → Int32)} {d : Nat} (n : Nat) (y2 : Int32) (y3 : Int32) (y4 : Int32) (S4 : St) : ex X (d + 1) 72 112 [.ref 23, .ref 1, .int y2, .int y3, .int y4] [] (hh (xa_u S4.1 23 6 ((S4.1 23 6) + 1), S4.2.1, S4.2.2)) (n + 3) = (match ex X d 75 0 [.ref 23, .ref 1, .retAddr 0] [] (hh (xa_u S4.1 23 6 ((S4.1 23 6) + 1), S4.2.1, S4.2.2)) n with | some (v, h') => ex X (d + 1) 72 117 [.ref 23, .ref 1, .int y2, .int y3, .int y4] (v.toList ++ []) h' n | none => none) := rfl
theorem B_72_10 {X : Nat × (Nat → Int32)} {d : Nat} (n : Nat) (y2 : Int32) (y3 : Int32) (y4 : Int32) (v7 : Int32) (S7 : St) : ex X d 72 117 [.ref 23, .ref 1, .int y2, .int y3, .int y4] [.int v7] (hh S7) (n + 3) = ex X d 72 55 [.ref 23, .ref 1, .int y2, .int v7, .int (y4 + 1)] [] (hh S7) n := rfl
theorem B_72_11 {X : Nat × (Nat → Int32)} {d : Nat} (n : Nat) (y2 : Int32) (y3 : Int32) (y4 : Int32) (S4 : St) : ex X d 72 88 [.ref 23, .ref 1, .int y2, .int y3, .int y4] [] (hh S4) (n + 4) = if (S4.1 23 6) < y2 then ex X d 72 102 [.ref 23, .ref 1, .int y2, .int y3, .int y4] [] (hh S4) n else ex X d 72 96 [.ref 23, .ref 1, .int y2, .int y3, .int y4] [] (hh S4) n := rfl
theorem B_72_12 {X : Nat × (Nat → Int32)} {d : Nat} (n : Nat) (y2 : Int32) (y3 : Int32) (y4 : Int32) (S4 : St) : ex X d 72 96 [.ref 23, .ref 1, .int y2, .int y3, .int y4] [] (hh S4) (n + 5) = ex X d 72 55 [.ref 23, .ref 1, .int y2, .int (-2), .int (y4 + 1)] [] (hh S4) n := rfl
theorem B_72_13 {X : Nat × (Nat → Int32)} {d : Nat} (n : Nat) (y2 : Int32) (y3 : Int32) (y4 : Int32) (v4 : Int32) (S4 : St) : ex X d 72 78 [.ref 23, .ref 1, .int y2, .int y3, .int y4] [.int v4] (hh S4) (n + 1) = if v4 = 0 then ex X d 72 88 [.ref 23, .ref 1, .int y2, .int y3, .int y4] [] (hh S4) n else ex X d 72 81 [.ref 23, .ref 1, .int y2, .int y3, .int y4] [] (hh S4) n := rfl
theorem B_72_14 {X : Nat × (Nat → Int32)} {d : Nat} (n : Nat) (y2 : Int32) (y3 : Int32) (y4 : Int32) (S4 : St) : ex X (d + 1) 72 81 [.ref 23, .ref 1, .int y2, .int y3, .int y4] [] (hh S4) (n + 2) = (match ex X d 74 0 [.ref 23] [] (hh S4) n with | some (v, h') => ex X (d + 1) 72 85 [.ref 23, .ref 1, .int y2, .int y3, .int y4] (v.toList ++ []) h' n | none => none) := rfl
theorem B_72_15 {X : Nat × (Nat → Int32)} {d : Nat} (n : Nat) (y2 : Int32) (y3 : Int32) (y4 : Int32) (S8 : St) : ex X d 72 85 [.ref 23, .ref 1, .int y2, .int y3, .int y4] [] (hh S8) (n + 3) = ex X d 72 55 [.ref 23, .ref 1, .int y2, .int y3, .int (y4 + 1)] [] (hh S8) n := rfl
theorem B_72_16 {X : Nat × (Nat → Int32)} {d : Nat} (n : Nat) (y2 : Int32) (y3 : Int32) (y4 : Int32) (S : St) : ex X d 72 70 [.ref 23, .ref 1, .int y2, .int y3, .int y4] [] (hh S) (n + 2) = if y3 = 0 then ex X d 72 74 [.ref 23, .ref 1, .int y2, .int y3, .int y4] [] (hh S) n else ex X d 72 124 [.ref 23, .ref 1, .int y2, .int y3, .int y4] [] (hh S) n := rfl
theorem B_72_17 {X : Nat × (Nat → Int32)} {d : Nat} (n : Nat) (y2 : Int32) (y3 : Int32) (y4 : Int32) (S : St) : ex X d 72 63 [.ref 23, .ref 1, .int y2, .int y3, .int y4] [] (hh S) (n + 3) = if (S.1 23 5) = 0 then ex X d 72 70 [.ref 23, .ref 1, .int y2, .int y3, .int y4] [] (hh S) n else ex X d 72 124 [.ref 23, .ref 1, .int y2, .int y3, .int y4] [] (hh S) n := rfl
set_option maxRecDepth 200000 in
theorem TL_72_0 {X : Nat × (Nat → Int32)} : ∀ (n : Nat) (S : St) (y2 : Int32) (y3 : Int32) (y4 : Int32) (r : Int32) (S' : St), GL_72_0 n S y2 y3 y4 = some (r, S') → Ev X 45 72 55 [.ref 23, .ref 1, .int y2, .int y3, .int y4] [] (hh S) (xI r, hh S') := by
  intro n
  induction n with
  | zero => intro S y2 y3 y4 r S' hG; simp [GL_72_0] at hG
  | succ n ih =>
    intro S y2 y3 y4 r S' hG
    rw [GL_72_0] at hG
    by_cases c1 : 1000 ≤ y4
    · rw [if_pos c1] at hG
      refine Ev.t (c := 1000 ≤ y4) (p1 := 124) (L1 := [.ref 23, .ref 1, .int y2, .int y3, .int y4]) (s1 := []) (h1 := hh S) (p2 := 63) (L2 := [.ref 23, .ref 1, .int y2, .int y3, .int y4]) (s2 := []) (h2 := hh S) 3 (fun n => B_72_1 n y2 y3 y4 S) c1 ?_
      obtain ⟨e1, e2⟩ := Prod.mk.inj (Option.some.inj hG)
      subst e1
      subst e2
      exact Ev.r 2 (fun n => rfl)
    · rw [if_neg c1] at hG
      refine Ev.f (c := 1000 ≤ y4) (p1 := 124) (L1 := [.ref 23, .ref 1, .int y2, .int y3, .int y4]) (s1 := []) (h1 := hh S) (p2 := 63) (L2 := [.ref 23, .ref 1, .int y2, .int y3, .int y4]) (s2 := []) (h2 := hh S) 3 (fun n => B_72_2 n y2 y3 y4 S) c1 ?_
      by_cases c2 : (S.1 23 5) = 0
      · rw [if_pos c2] at hG
        refine Ev.t (c := (S.1 23 5) = 0) (p1 := 70) (L1 := [.ref 23, .ref 1, .int y2, .int y3, .int y4]) (s1 := []) (h1 := hh S) (p2 := 124) (L2 := [.ref 23, .ref 1, .int y2, .int y3, .int y4]) (s2 := []) (h2 := hh S) 3 (fun n => B_72_3 n y2 y3 y4 S) c2 ?_
        by_cases c3 : y3 = 0
        · rw [if_pos c3] at hG
          refine Ev.t (c := y3 = 0) (p1 := 74) (L1 := [.ref 23, .ref 1, .int y2, .int y3, .int y4]) (s1 := []) (h1 := hh S) (p2 := 124) (L2 := [.ref 23, .ref 1, .int y2, .int y3, .int y4]) (s2 := []) (h2 := hh S) 2 (fun n => B_72_4 n y2 y3 y4 S) c3 ?_
          rcases h4 : G_73 S with _ | ⟨v4, S4⟩
          · rw [h4] at hG; cases hG
          rw [h4] at hG
          dsimp only at hG
          refine Ev.c (a := 73) (A := [.ref 23]) (h1 := hh S) (pc' := 78) (L' := [.ref 23, .ref 1, .int y2, .int y3, .int y4]) (rest := []) (r1 := some (.int v4)) (h2 := hh S4) 2 (fun n => B_72_5 n y2 y3 y4 S) (Ev.up (by decide) (T_73 S  _ _ h4)) ?_
          show Ev X _ 72 78 [.ref 23, .ref 1, .int y2, .int y3, .int y4] [.int v4] (hh S4) _
          by_cases c5 : v4 = 0
          · rw [if_pos c5] at hG
            refine Ev.t (c := v4 = 0) (p1 := 88) (L1 := [.ref 23, .ref 1, .int y2, .int y3, .int y4]) (s1 := []) (h1 := hh S4) (p2 := 81) (L2 := [.ref 23, .ref 1, .int y2, .int y3, .int y4]) (s2 := []) (h2 := hh S4) 1 (fun n => B_72_6 n y2 y3 y4 v4 S4) c5 ?_
            by_cases c6 : (S4.1 23 6) < y2
            · rw [if_pos c6] at hG
              refine Ev.t (c := (S4.1 23 6) < y2) (p1 := 102) (L1 := [.ref 23, .ref 1, .int y2, .int y3, .int y4]) (s1 := []) (h1 := hh S4) (p2 := 96) (L2 := [.ref 23, .ref 1, .int y2, .int y3, .int y4]) (s2 := []) (h2 := hh S4) 4 (fun n => B_72_7 n y2 y3 y4 S4) c6 ?_
              refine Ev.g (c := (kd 23).1 = 10 + 6 ∧ (xf_k 6 6 = 0 ∨ (xf_k 6 6 = 1 ∧ (((S4.1 23 6) + 1) = 0 ∨ ((S4.1 23 6) + 1) = 1)))) (p1 := 112) (L1 := [.ref 23, .ref 1, .int y2, .int y3, .int y4]) (s1 := []) (h1 := hh (xa_u S4.1 23 6 ((S4.1 23 6) + 1), S4.2.1, S4.2.2)) 6 (fun n => B_72_8 n y2 y3 y4 S4) (⟨rfl, Or.inl rfl⟩) ?_
              rcases h7 : G_75 (xa_u S4.1 23 6 ((S4.1 23 6) + 1), S4.2.1, S4.2.2) with _ | ⟨v7, S7⟩
              · rw [h7] at hG; cases hG
              rw [h7] at hG
              dsimp only at hG
              refine Ev.c (a := 75) (A := [.ref 23, .ref 1, .retAddr 0]) (h1 := hh (xa_u S4.1 23 6 ((S4.1 23 6) + 1), S4.2.1, S4.2.2)) (pc' := 117) (L' := [.ref 23, .ref 1, .int y2, .int y3, .int y4]) (rest := []) (r1 := some (.int v7)) (h2 := hh S7) 3 (fun n => B_72_9 n y2 y3 y4 S4) (Ev.up (by decide) (T_75 (xa_u S4.1 23 6 ((S4.1 23 6) + 1), S4.2.1, S4.2.2)  _ _ h7)) ?_
              show Ev X _ 72 117 [.ref 23, .ref 1, .int y2, .int y3, .int y4] [.int v7] (hh S7) _
              exact Ev.b (pc' := 55) (L' := [.ref 23, .ref 1, .int y2, .int v7, .int (y4 + 1)]) (st' := []) (h' := hh S7) 3 (fun n => B_72_10 n y2 y3 y4 v7 S7) (ih S7 y2 v7 (y4 + 1) _ _ hG )
            · rw [if_neg c6] at hG
              refine Ev.f (c := (S4.1 23 6) < y2) (p1 := 102) (L1 := [.ref 23, .ref 1, .int y2, .int y3, .int y4]) (s1 := []) (h1 := hh S4) (p2 := 96) (L2 := [.ref 23, .ref 1, .int y2, .int y3, .int y4]) (s2 := []) (h2 := hh S4) 4 (fun n => B_72_11 n y2 y3 y4 S4) c6 ?_
              exact Ev.b (pc' := 55) (L' := [.ref 23, .ref 1, .int y2, .int (-2), .int (y4 + 1)]) (st' := []) (h' := hh S4) 5 (fun n => B_72_12 n y2 y3 y4 S4) (ih S4 y2 ((-2) : Int32) (y4 + 1) _ _ hG )
          · rw [if_neg c5] at hG
            refine Ev.f (c := v4 = 0) (p1 := 88) (L1 := [.ref 23, .ref 1, .int y2, .int y3, .int y4]) (s1 := []) (h1 := hh S4) (p2 := 81) (L2 := [.ref 23, .ref 1, .int y2, .int y3, .int y4]) (s2 := []) (h2 := hh S4) 1 (fun n => B_72_13 n y2 y3 y4 v4 S4) c5 ?_
            rcases h8 : G_74 S4 with _ | ⟨v8, S8⟩
            · rw [h8] at hG; cases hG
            rw [h8] at hG
            dsimp only at hG
            refine Ev.c (a := 74) (A := [.ref 23]) (h1 := hh S4) (pc' := 85) (L' := [.ref 23, .ref 1, .int y2, .int y3, .int y4]) (rest := []) (r1 := none) (h2 := hh S8) 2 (fun n => B_72_14 n y2 y3 y4 S4) (Ev.up (by decide) (T_74 S4  _ _ h8)) ?_
            show Ev X _ 72 85 [.ref 23, .ref 1, .int y2, .int y3, .int y4] [] (hh S8) _
            exact Ev.b (pc' := 55) (L' := [.ref 23, .ref 1, .int y2, .int y3, .int (y4 + 1)]) (st' := []) (h' := hh S8) 3 (fun n => B_72_15 n y2 y3 y4 S8) (ih S8 y2 y3 (y4 + 1) _ _ hG )
        · rw [if_neg c3] at hG
          refine Ev.f (c := y3 = 0) (p1 := 74) (L1 := [.ref 23, .ref 1, .int y2, .int y3, .int y4]) (s1 := []) (h1 := hh S) (p2 := 124) (L2 := [.ref 23, .ref 1, .int y2, .int y3, .int y4]) (s2 := []) (h2 := hh S) 2 (fun n => B_72_16 n y2 y3 y4 S) c3 ?_
          obtain ⟨e1, e2⟩ := Prod.mk.inj (Option.some.inj hG)
          subst e1
          subst e2
          exact Ev.r 2 (fun n => rfl)
      · rw [if_neg c2] at hG
        refine Ev.f (c := (S.1 23 5) = 0) (p1 := 70) (L1 := [.ref 23, .ref 1, .int y2, .int y3, .int y4]) (s1 := []) (h1 := hh S) (p2 := 124) (L2 := [.ref 23, .ref 1, .int y2, .int y3, .int y4]) (s2 := []) (h2 := hh S) 3 (fun n => B_72_17 n y2 y3 y4 S) c2 ?_
        obtain ⟨e1, e2⟩ := Prod.mk.inj (Option.some.inj hG)
        subst e1
        subst e2
        exact Ev.r 2 (fun n => rfl)
def G_72 (S : St) (x2 : Int32) : Option (Int32 × St) :=
  (match G_50 (xa_u (xa_u S.1 23 6 0) 23 2 0, S.2.1, S.2.2) (1 : Int32) with
  | none => none
  | some (v9, S9) =>
    (match v9 with
    | none =>
      none
    | some a10 =>
      (if (kd a10).1 = 10 + 1 then
        (if ((xa_u S9.1 23 4 0) a10 2) = 0 then
          GL_72_0 xFu (xa_u (xa_u S9.1 23 4 0) 23 5 1, some a10, S9.2.2) x2 (0 : Int32) (0 : Int32)
        else
          GL_72_0 xFu (xa_u (xa_u S9.1 23 4 0) 23 5 0, some a10, S9.2.2) x2 (0 : Int32) (0 : Int32)
        )
      else none)
    )
  )
theorem B_72_18 {X : Nat × (Nat → Int32)} {d : Nat} (n : Nat) (x2 : Int32) (S : St) : ex X d 72 0 [.ref 23, .ref 1, .int x2, .retAddr 0, .retAddr 0] [] (hh S) (n + 3) = if (kd 23).1 = 10 + 6 ∧ (xf_k 6 6 = 0 ∨ (xf_k 6 6 = 1 ∧ ((0 : Int32) = 0 ∨ (0 : Int32) = 1))) then ex X d 72 5 [.ref 23, .ref 1, .int x2, .retAddr 0, .retAddr 0] [] (hh (xa_u S.1 23 6 0, S.2.1, S.2.2)) n else none := rfl
theorem B_72_19 {X : Nat × (Nat → Int32)} {d : Nat} (n : Nat) (x2 : Int32) (S : St) : ex X d 72 5 [.ref 23, .ref 1, .int x2, .retAddr 0, .retAddr 0] [] (hh (xa_u S.1 23 6 0, S.2.1, S.2.2)) (n + 3) = if (kd 23).1 = 10 + 6 ∧ (xf_k 6 2 = 0 ∨ (xf_k 6 2 = 1 ∧ ((0 : Int32) = 0 ∨ (0 : Int32) = 1))) then ex X d 72 10 [.ref 23, .ref 1, .int x2, .retAddr 0, .retAddr 0] [] (hh (xa_u (xa_u S.1 23 6 0) 23 2 0, S.2.1, S.2.2)) n else none := rfl
theorem B_72_20 {X : Nat × (Nat → Int32)} {d : Nat} (n : Nat) (x2 : Int32) (S : St) : ex X (d + 1) 72 10 [.ref 23, .ref 1, .int x2, .retAddr 0, .retAddr 0] [] (hh (xa_u (xa_u S.1 23 6 0) 23 2 0, S.2.1, S.2.2)) (n + 4) = (match ex X d 50 0 [.ref 1, .int 1] [] (hh (xa_u (xa_u S.1 23 6 0) 23 2 0, S.2.1, S.2.2)) n with | some (v, h') => ex X (d + 1) 72 16 [.ref 23, .ref 1, .int x2, .retAddr 0, .retAddr 0] (v.toList ++ [.ref 23]) h' n | none => none) := rfl
theorem B_72_21 {X : Nat × (Nat → Int32)} {d : Nat} (n : Nat) (x2 : Int32) (a10 : Nat) (S9 : St) : ex X d 72 16 [.ref 23, .ref 1, .int x2, .retAddr 0, .retAddr 0] [.ref a10, .ref 23] (hh S9) (n + 1) = ex X d 72 19 [.ref 23, .ref 1, .int x2, .retAddr 0, .retAddr 0] [] ((xL_s, xL_n, S9.1, xa_u (RC S9.2.1 S9.2.2) 23 3 (some a10))) n := rfl
theorem B_72_22 {X : Nat × (Nat → Int32)} {d : Nat} (n : Nat) (x2 : Int32) (S9 : St) (a10 : Nat) : ex X d 72 19 [.ref 23, .ref 1, .int x2, .retAddr 0, .retAddr 0] [] (hh (S9.1, some a10, S9.2.2)) (n + 3) = if (kd 23).1 = 10 + 6 ∧ (xf_k 6 4 = 0 ∨ (xf_k 6 4 = 1 ∧ ((0 : Int32) = 0 ∨ (0 : Int32) = 1))) then ex X d 72 24 [.ref 23, .ref 1, .int x2, .retAddr 0, .retAddr 0] [] (hh (xa_u S9.1 23 4 0, some a10, S9.2.2)) n else none := rfl
theorem B_72_23 {X : Nat × (Nat → Int32)} {d : Nat} (n : Nat) (x2 : Int32) (S9 : St) (a10 : Nat) : ex X d 72 24 [.ref 23, .ref 1, .int x2, .retAddr 0, .retAddr 0] [] (hh (xa_u S9.1 23 4 0, some a10, S9.2.2)) (n + 7) = if (kd a10).1 = 10 + 1 then ex X d 72 39 [.ref 23, .ref 1, .int x2, .retAddr 0, .retAddr 0] [.int ((xa_u S9.1 23 4 0) a10 2), .ref 23] (hh (xa_u S9.1 23 4 0, some a10, S9.2.2)) n else none := rfl
theorem B_72_24 {X : Nat × (Nat → Int32)} {d : Nat} (n : Nat) (x2 : Int32) (S9 : St) (a10 : Nat) : ex X d 72 39 [.ref 23, .ref 1, .int x2, .retAddr 0, .retAddr 0] [.int ((xa_u S9.1 23 4 0) a10 2), .ref 23] (hh (xa_u S9.1 23 4 0, some a10, S9.2.2)) (n + 1) = if ((xa_u S9.1 23 4 0) a10 2) = 0 then ex X d 72 42 [.ref 23, .ref 1, .int x2, .retAddr 0, .retAddr 0] [.ref 23] (hh (xa_u S9.1 23 4 0, some a10, S9.2.2)) n else ex X d 72 46 [.ref 23, .ref 1, .int x2, .retAddr 0, .retAddr 0] [.ref 23] (hh (xa_u S9.1 23 4 0, some a10, S9.2.2)) n := rfl
theorem B_72_25 {X : Nat × (Nat → Int32)} {d : Nat} (n : Nat) (x2 : Int32) (S9 : St) (a10 : Nat) : ex X d 72 42 [.ref 23, .ref 1, .int x2, .retAddr 0, .retAddr 0] [.ref 23] (hh (xa_u S9.1 23 4 0, some a10, S9.2.2)) (n + 3) = if (kd 23).1 = 10 + 6 ∧ (xf_k 6 5 = 0 ∨ (xf_k 6 5 = 1 ∧ ((1 : Int32) = 0 ∨ (1 : Int32) = 1))) then ex X d 72 50 [.ref 23, .ref 1, .int x2, .retAddr 0, .retAddr 0] [] (hh (xa_u (xa_u S9.1 23 4 0) 23 5 1, some a10, S9.2.2)) n else none := rfl
theorem B_72_26 {X : Nat × (Nat → Int32)} {d : Nat} (n : Nat) (x2 : Int32) (S9 : St) (a10 : Nat) : ex X d 72 50 [.ref 23, .ref 1, .int x2, .retAddr 0, .retAddr 0] [] (hh (xa_u (xa_u S9.1 23 4 0) 23 5 1, some a10, S9.2.2)) (n + 4) = ex X d 72 55 [.ref 23, .ref 1, .int x2, .int 0, .int 0] [] (hh (xa_u (xa_u S9.1 23 4 0) 23 5 1, some a10, S9.2.2)) n := rfl
theorem B_72_27 {X : Nat × (Nat → Int32)} {d : Nat} (n : Nat) (x2 : Int32) (S9 : St) (a10 : Nat) : ex X d 72 39 [.ref 23, .ref 1, .int x2, .retAddr 0, .retAddr 0] [.int ((xa_u S9.1 23 4 0) a10 2), .ref 23] (hh (xa_u S9.1 23 4 0, some a10, S9.2.2)) (n + 1) = if ((xa_u S9.1 23 4 0) a10 2) = 0 then ex X d 72 42 [.ref 23, .ref 1, .int x2, .retAddr 0, .retAddr 0] [.ref 23] (hh (xa_u S9.1 23 4 0, some a10, S9.2.2)) n else ex X d 72 46 [.ref 23, .ref 1, .int x2, .retAddr 0, .retAddr 0] [.ref 23] (hh (xa_u S9.1 23 4 0, some a10, S9.2.2)) n := rfl
theorem B_72_28 {X : Nat × (Nat → Int32)} {d : Nat} (n : Nat) (x2 : Int32) (S9 : St) (a10 : Nat) : ex X d 72 46 [.ref 23, .ref 1, .int x2, .retAddr 0, .retAddr 0] [.ref 23] (hh (xa_u S9.1 23 4 0, some a10, S9.2.2)) (n + 2) = if (kd 23).1 = 10 + 6 ∧ (xf_k 6 5 = 0 ∨ (xf_k 6 5 = 1 ∧ ((0 : Int32) = 0 ∨ (0 : Int32) = 1))) then ex X d 72 50 [.ref 23, .ref 1, .int x2, .retAddr 0, .retAddr 0] [] (hh (xa_u (xa_u S9.1 23 4 0) 23 5 0, some a10, S9.2.2)) n else none := rfl
theorem B_72_29 {X : Nat × (Nat → Int32)} {d : Nat} (n : Nat) (x2 : Int32) (S9 : St) (a10 : Nat) : ex X d 72 50 [.ref 23, .ref 1, .int x2, .retAddr 0, .retAddr 0] [] (hh (xa_u (xa_u S9.1 23 4 0) 23 5 0, some a10, S9.2.2)) (n + 4) = ex X d 72 55 [.ref 23, .ref 1, .int x2, .int 0, .int 0] [] (hh (xa_u (xa_u S9.1 23 4 0) 23 5 0, some a10, S9.2.2)) n := rfl
set_option maxRecDepth 200000 in
theorem T_72 {X : Nat × (Nat → Int32)} (S : St) (x2 : Int32) (r : Int32) (S' : St) (hG : G_72 S x2 = some (r, S')) : Ev X 45 72 0 [.ref 23, .ref 1, .int x2, .retAddr 0, .retAddr 0] [] (hh S) (xI r, hh S') := by
  unfold G_72 at hG
  refine Ev.g (c := (kd 23).1 = 10 + 6 ∧ (xf_k 6 6 = 0 ∨ (xf_k 6 6 = 1 ∧ ((0 : Int32) = 0 ∨ (0 : Int32) = 1)))) (p1 := 5) (L1 := [.ref 23, .ref 1, .int x2, .retAddr 0, .retAddr 0]) (s1 := []) (h1 := hh (xa_u S.1 23 6 0, S.2.1, S.2.2)) 3 (fun n => B_72_18 n x2 S) (⟨rfl, Or.inl rfl⟩) ?_
  refine Ev.g (c := (kd 23).1 = 10 + 6 ∧ (xf_k 6 2 = 0 ∨ (xf_k 6 2 = 1 ∧ ((0 : Int32) = 0 ∨ (0 : Int32) = 1)))) (p1 := 10) (L1 := [.ref 23, .ref 1, .int x2, .retAddr 0, .retAddr 0]) (s1 := []) (h1 := hh (xa_u (xa_u S.1 23 6 0) 23 2 0, S.2.1, S.2.2)) 3 (fun n => B_72_19 n x2 S) (⟨rfl, Or.inl rfl⟩) ?_
  rcases h9 : G_50 (xa_u (xa_u S.1 23 6 0) 23 2 0, S.2.1, S.2.2) (1 : Int32) with _ | ⟨v9, S9⟩
  · rw [h9] at hG; cases hG
  rw [h9] at hG
  dsimp only at hG
  refine Ev.c (a := 50) (A := [.ref 1, .int 1]) (h1 := hh (xa_u (xa_u S.1 23 6 0) 23 2 0, S.2.1, S.2.2)) (pc' := 16) (L' := [.ref 23, .ref 1, .int x2, .retAddr 0, .retAddr 0]) (rest := [.ref 23]) (r1 := some (va_rf v9)) (h2 := hh S9) 4 (fun n => B_72_20 n x2 S) (Ev.up (by decide) (T_50 (xa_u (xa_u S.1 23 6 0) 23 2 0, S.2.1, S.2.2) (1 : Int32) _ _ h9)) ?_
  rcases v9 with _ | a10
  · dsimp only at hG
    show Ev X _ 72 16 [.ref 23, .ref 1, .int x2, .retAddr 0, .retAddr 0] [.null, .ref 23] (hh S9) _
    cases hG
  · dsimp only at hG
    show Ev X _ 72 16 [.ref 23, .ref 1, .int x2, .retAddr 0, .retAddr 0] [.ref a10, .ref 23] (hh S9) _
    refine Ev.b (pc' := 19) (L' := [.ref 23, .ref 1, .int x2, .retAddr 0, .retAddr 0]) (st' := []) (h' := (xL_s, xL_n, S9.1, xa_u (RC S9.2.1 S9.2.2) 23 3 (some a10))) 1 (fun n => B_72_21 n x2 a10 S9) ?_
    rw [RC_lg]
    show Ev X _ 72 19 [.ref 23, .ref 1, .int x2, .retAddr 0, .retAddr 0] [] (hh (S9.1, some a10, S9.2.2)) _
    refine Ev.g (c := (kd 23).1 = 10 + 6 ∧ (xf_k 6 4 = 0 ∨ (xf_k 6 4 = 1 ∧ ((0 : Int32) = 0 ∨ (0 : Int32) = 1)))) (p1 := 24) (L1 := [.ref 23, .ref 1, .int x2, .retAddr 0, .retAddr 0]) (s1 := []) (h1 := hh (xa_u S9.1 23 4 0, some a10, S9.2.2)) 3 (fun n => B_72_22 n x2 S9 a10) (⟨rfl, Or.inl rfl⟩) ?_
    by_cases g11 : (kd a10).1 = 10 + 1
    rotate_left
    · rw [if_neg g11] at hG; cases hG
    rw [if_pos g11] at hG
    refine Ev.g (c := (kd a10).1 = 10 + 1) (p1 := 39) (L1 := [.ref 23, .ref 1, .int x2, .retAddr 0, .retAddr 0]) (s1 := [.int ((xa_u S9.1 23 4 0) a10 2), .ref 23]) (h1 := hh (xa_u S9.1 23 4 0, some a10, S9.2.2)) 7 (fun n => B_72_23 n x2 S9 a10) g11 ?_
    by_cases c12 : ((xa_u S9.1 23 4 0) a10 2) = 0
    · rw [if_pos c12] at hG
      refine Ev.t (c := ((xa_u S9.1 23 4 0) a10 2) = 0) (p1 := 42) (L1 := [.ref 23, .ref 1, .int x2, .retAddr 0, .retAddr 0]) (s1 := [.ref 23]) (h1 := hh (xa_u S9.1 23 4 0, some a10, S9.2.2)) (p2 := 46) (L2 := [.ref 23, .ref 1, .int x2, .retAddr 0, .retAddr 0]) (s2 := [.ref 23]) (h2 := hh (xa_u S9.1 23 4 0, some a10, S9.2.2)) 1 (fun n => B_72_24 n x2 S9 a10) c12 ?_
      refine Ev.g (c := (kd 23).1 = 10 + 6 ∧ (xf_k 6 5 = 0 ∨ (xf_k 6 5 = 1 ∧ ((1 : Int32) = 0 ∨ (1 : Int32) = 1)))) (p1 := 50) (L1 := [.ref 23, .ref 1, .int x2, .retAddr 0, .retAddr 0]) (s1 := []) (h1 := hh (xa_u (xa_u S9.1 23 4 0) 23 5 1, some a10, S9.2.2)) 3 (fun n => B_72_25 n x2 S9 a10) (⟨rfl, Or.inr ⟨rfl, by decide⟩⟩) ?_
      exact Ev.b (pc' := 55) (L' := [.ref 23, .ref 1, .int x2, .int 0, .int 0]) (st' := []) (h' := hh (xa_u (xa_u S9.1 23 4 0) 23 5 1, some a10, S9.2.2)) 4 (fun n => B_72_26 n x2 S9 a10) (TL_72_0 xFu (xa_u (xa_u S9.1 23 4 0) 23 5 1, some a10, S9.2.2) x2 (0 : Int32) (0 : Int32) _ _ hG )
    · rw [if_neg c12] at hG
      refine Ev.f (c := ((xa_u S9.1 23 4 0) a10 2) = 0) (p1 := 42) (L1 := [.ref 23, .ref 1, .int x2, .retAddr 0, .retAddr 0]) (s1 := [.ref 23]) (h1 := hh (xa_u S9.1 23 4 0, some a10, S9.2.2)) (p2 := 46) (L2 := [.ref 23, .ref 1, .int x2, .retAddr 0, .retAddr 0]) (s2 := [.ref 23]) (h2 := hh (xa_u S9.1 23 4 0, some a10, S9.2.2)) 1 (fun n => B_72_27 n x2 S9 a10) c12 ?_
      refine Ev.g (c := (kd 23).1 = 10 + 6 ∧ (xf_k 6 5 = 0 ∨ (xf_k 6 5 = 1 ∧ ((0 : Int32) = 0 ∨ (0 : Int32) = 1)))) (p1 := 50) (L1 := [.ref 23, .ref 1, .int x2, .retAddr 0, .retAddr 0]) (s1 := []) (h1 := hh (xa_u (xa_u S9.1 23 4 0) 23 5 0, some a10, S9.2.2)) 2 (fun n => B_72_28 n x2 S9 a10) (⟨rfl, Or.inr ⟨rfl, by decide⟩⟩) ?_
      exact Ev.b (pc' := 55) (L' := [.ref 23, .ref 1, .int x2, .int 0, .int 0]) (st' := []) (h' := hh (xa_u (xa_u S9.1 23 4 0) 23 5 0, some a10, S9.2.2)) 4 (fun n => B_72_29 n x2 S9 a10) (TL_72_0 xFu (xa_u (xa_u S9.1 23 4 0) 23 5 0, some a10, S9.2.2) x2 (0 : Int32) (0 : Int32) _ _ hG )
/-- 59: SceneCycle$LogicReader.readInstruction(LSceneCycle$Resource;)V -/
def G_59 (S : St) (x1 : Nat) : Option (Unit × St) :=
  (if (kd x1).1 = 10 + 1 then
    (match G_25 S x1 (S.1 27 1) with
    | none => none
    | some (v1, S1) =>
      (if v1 ≤ 18 then
        (match G_60 (xa_u S1.1 27 1 ((S1.1 27 1) + 1), S1.2.1, S1.2.2) v1 with
        | none => none
        | some (v4, S4) =>
          (match v4 with
          | none =>
            none
          | some a5 =>
            (match G_61 S4 x1 a5 (0 : Int32) with
            | none => none
            | some (v6, S6) =>
              some ((), S6)
            )
          )
        )
      else
        some ((), (xa_u S1.1 27 2 (S1.1 27 1), S1.2.1, S1.2.2))
      )
    )
  else none)
theorem B_59_1 {X : Nat × (Nat → Int32)} {d : Nat} (n : Nat) (x1 : Nat) (S : St) : ex X (d + 1) 59 0 [.ref 27, .ref x1, .retAddr 0] [] (hh S) (n + 4) = if (xm_o 25 = 200 ∧ 2000 ≤ x1 ∧ x1 < 2000 + xS_n) ∨ (xm_o 25 ≠ 200 ∧ (kd x1).1 = 10 + xm_o 25) then (match ex X d 25 0 [.ref x1, .int (S.1 27 1)] [] (hh S) n with | some (v, h') => ex X (d + 1) 59 8 [.ref 27, .ref x1, .retAddr 0] (v.toList ++ []) h' n | none => none) else none := rfl
theorem B_59_2 {X : Nat × (Nat → Int32)} {d : Nat} (n : Nat) (x1 : Nat) (v1 : Int32) (S1 : St) : ex X d 59 8 [.ref 27, .ref x1, .retAddr 0] [.int v1] (hh S1) (n + 4) = if v1 ≤ 18 then ex X d 59 24 [.ref 27, .ref x1, .int v1] [] (hh S1) n else ex X d 59 15 [.ref 27, .ref x1, .int v1] [] (hh S1) n := rfl
theorem B_59_3 {X : Nat × (Nat → Int32)} {d : Nat} (n : Nat) (x1 : Nat) (v1 : Int32) (S1 : St) : ex X d 59 24 [.ref 27, .ref x1, .int v1] [] (hh S1) (n + 6) = if (kd 27).1 = 10 + 5 ∧ (xf_k 5 1 = 0 ∨ (xf_k 5 1 = 1 ∧ (((S1.1 27 1) + 1) = 0 ∨ ((S1.1 27 1) + 1) = 1))) then ex X d 59 34 [.ref 27, .ref x1, .int v1] [] (hh (xa_u S1.1 27 1 ((S1.1 27 1) + 1), S1.2.1, S1.2.2)) n else none := rfl
theorem B_59_4 {X : Nat × (Nat → Int32)} {d : Nat} (n : Nat) (x1 : Nat) (v1 : Int32) (S1 : St) : ex X (d + 1) 59 34 [.ref 27, .ref x1, .int v1] [] (hh (xa_u S1.1 27 1 ((S1.1 27 1) + 1), S1.2.1, S1.2.2)) (n + 4) = (match ex X d 60 0 [.int v1] [] (hh (xa_u S1.1 27 1 ((S1.1 27 1) + 1), S1.2.1, S1.2.2)) n with | some (v, h') => ex X (d + 1) 59 40 [.ref 27, .ref x1, .int v1] (v.toList ++ [.ref x1, .ref 27]) h' n | none => none) := rfl
theorem B_59_5 {X : Nat × (Nat → Int32)} {d : Nat} (n : Nat) (x1 : Nat) (v1 : Int32) (a5 : Nat) (S4 : St) : ex X (d + 1) 59 40 [.ref 27, .ref x1, .int v1] [.ref a5, .ref x1, .ref 27] (hh S4) (n + 2) = (match ex X d 61 0 [.ref 27, .ref x1, .ref a5, .int 0, .retAddr 0] [] (hh S4) n with | some (v, h') => ex X (d + 1) 59 44 [.ref 27, .ref x1, .int v1] (v.toList ++ []) h' n | none => none) := rfl
theorem B_59_6 {X : Nat × (Nat → Int32)} {d : Nat} (n : Nat) (x1 : Nat) (v1 : Int32) (S1 : St) : ex X d 59 8 [.ref 27, .ref x1, .retAddr 0] [.int v1] (hh S1) (n + 4) = if v1 ≤ 18 then ex X d 59 24 [.ref 27, .ref x1, .int v1] [] (hh S1) n else ex X d 59 15 [.ref 27, .ref x1, .int v1] [] (hh S1) n := rfl
theorem B_59_7 {X : Nat × (Nat → Int32)} {d : Nat} (n : Nat) (x1 : Nat) (v1 : Int32) (S1 : St) : ex X d 59 15 [.ref 27, .ref x1, .int v1] [] (hh S1) (n + 4) = if (kd 27).1 = 10 + 5 ∧ (xf_k 5 2 = 0 ∨ (xf_k 5 2 = 1 ∧ ((S1.1 27 1) = 0 ∨ (S1.1 27 1) = 1))) then ex X d 59 23 [.ref 27, .ref x1, .int v1] [] (hh (xa_u S1.1 27 2 (S1.1 27 1), S1.2.1, S1.2.2)) n else none := rfl
set_option maxRecDepth 200000 in
theorem T_59 {X : Nat × (Nat → Int32)} (S : St) (x1 : Nat) (r : Unit) (S' : St) (hG : G_59 S x1 = some (r, S')) : Ev X 205 59 0 [.ref 27, .ref x1, .retAddr 0] [] (hh S) (xV r, hh S') := by
  unfold G_59 at hG
  by_cases g2 : (kd x1).1 = 10 + 1
  rotate_left
  · rw [if_neg g2] at hG; cases hG
  rw [if_pos g2] at hG
  rcases h1 : G_25 S x1 (S.1 27 1) with _ | ⟨v1, S1⟩
  · rw [h1] at hG; cases hG
  rw [h1] at hG
  dsimp only at hG
  refine Ev.cg (c := (xm_o 25 = 200 ∧ 2000 ≤ x1 ∧ x1 < 2000 + xS_n) ∨ (xm_o 25 ≠ 200 ∧ (kd x1).1 = 10 + xm_o 25)) (a := 25) (A := [.ref x1, .int (S.1 27 1)]) (h1 := hh S) (pc' := 8) (L' := [.ref 27, .ref x1, .retAddr 0]) (rest := []) (r1 := some (.int v1)) (h2 := hh S1) 4 (fun n => B_59_1 n x1 S) (Or.inr ⟨by decide, g2⟩) (Ev.up (by decide) (T_25 S x1 (S.1 27 1) _ _ h1)) ?_
  show Ev X _ 59 8 [.ref 27, .ref x1, .retAddr 0] [.int v1] (hh S1) _
  by_cases c3 : v1 ≤ 18
  · rw [if_pos c3] at hG
    refine Ev.t (c := v1 ≤ 18) (p1 := 24) (L1 := [.ref 27, .ref x1, .int v1]) (s1 := []) (h1 := hh S1) (p2 := 15) (L2 := [.ref 27, .ref x1, .int v1]) (s2 := []) (h2 := hh S1) 4 (fun n => B_59_2 n x1 v1 S1) c3 ?_
    refine Ev.g (c := (kd 27).1 = 10 + 5 ∧ (xf_k 5 1 = 0 ∨ (xf_k 5 1 = 1 ∧ (((S1.1 27 1) + 1) = 0 ∨ ((S1.1 27 1) + 1) = 1)))) (p1 := 34) (L1 := [.ref 27, .ref x1, .int v1]) (s1 := []) (h1 := hh (xa_u S1.1 27 1 ((S1.1 27 1) + 1), S1.2.1, S1.2.2)) 6 (fun n => B_59_3 n x1 v1 S1) (⟨rfl, Or.inl rfl⟩) ?_
    rcases h4 : G_60 (xa_u S1.1 27 1 ((S1.1 27 1) + 1), S1.2.1, S1.2.2) v1 with _ | ⟨v4, S4⟩
    · rw [h4] at hG; cases hG
    rw [h4] at hG
    dsimp only at hG
    refine Ev.c (a := 60) (A := [.int v1]) (h1 := hh (xa_u S1.1 27 1 ((S1.1 27 1) + 1), S1.2.1, S1.2.2)) (pc' := 40) (L' := [.ref 27, .ref x1, .int v1]) (rest := [.ref x1, .ref 27]) (r1 := some (va_rf v4)) (h2 := hh S4) 4 (fun n => B_59_4 n x1 v1 S1) (Ev.up (by decide) (T_60 (xa_u S1.1 27 1 ((S1.1 27 1) + 1), S1.2.1, S1.2.2) v1 _ _ h4)) ?_
    rcases v4 with _ | a5
    · dsimp only at hG
      show Ev X _ 59 40 [.ref 27, .ref x1, .int v1] [.null, .ref x1, .ref 27] (hh S4) _
      cases hG
    · dsimp only at hG
      show Ev X _ 59 40 [.ref 27, .ref x1, .int v1] [.ref a5, .ref x1, .ref 27] (hh S4) _
      rcases h6 : G_61 S4 x1 a5 (0 : Int32) with _ | ⟨v6, S6⟩
      · rw [h6] at hG; cases hG
      rw [h6] at hG
      dsimp only at hG
      refine Ev.c (a := 61) (A := [.ref 27, .ref x1, .ref a5, .int 0, .retAddr 0]) (h1 := hh S4) (pc' := 44) (L' := [.ref 27, .ref x1, .int v1]) (rest := []) (r1 := none) (h2 := hh S6) 2 (fun n => B_59_5 n x1 v1 a5 S4) (Ev.up (by decide) (T_61 S4 x1 a5 (0 : Int32) _ _ h6)) ?_
      show Ev X _ 59 44 [.ref 27, .ref x1, .int v1] [] (hh S6) _
      obtain ⟨e1, e2⟩ := Prod.mk.inj (Option.some.inj hG)
      subst e1
      subst e2
      exact Ev.r 1 (fun n => rfl)
  · rw [if_neg c3] at hG
    refine Ev.f (c := v1 ≤ 18) (p1 := 24) (L1 := [.ref 27, .ref x1, .int v1]) (s1 := []) (h1 := hh S1) (p2 := 15) (L2 := [.ref 27, .ref x1, .int v1]) (s2 := []) (h2 := hh S1) 4 (fun n => B_59_6 n x1 v1 S1) c3 ?_
    refine Ev.g (c := (kd 27).1 = 10 + 5 ∧ (xf_k 5 2 = 0 ∨ (xf_k 5 2 = 1 ∧ ((S1.1 27 1) = 0 ∨ (S1.1 27 1) = 1)))) (p1 := 23) (L1 := [.ref 27, .ref x1, .int v1]) (s1 := []) (h1 := hh (xa_u S1.1 27 2 (S1.1 27 1), S1.2.1, S1.2.2)) 4 (fun n => B_59_7 n x1 v1 S1) (⟨rfl, Or.inl rfl⟩) ?_
    obtain ⟨e1, e2⟩ := Prod.mk.inj (Option.some.inj hG)
    subst e1
    subst e2
    exact Ev.r 1 (fun n => rfl)
/-- 58: SceneCycle$LogicReader.check(LSceneCycle$Resource;)I -/
def GL_58_0 : Nat → St → Nat → Int32 → Option (Int32 × St)
  | 0, _, _, _ => none
  | n + 1, S, y1, y2 =>
    (if 64 ≤ y2 then
      (if (S.1 27 2) = (-1) then
        (if (kd y1).1 = 10 + 1 then
          (if xa_in (S.1 y1 1) 65 then
            (match G_67 (xa_u S.1 28 (((S.1 y1 1)).toNatClampNeg) 1, S.2.1, S.2.2) y1 with
            | none => none
            | some (v5, S5) =>
              (if (S5.1 27 2) = (-1) then
                some (y2, S5)
              else
                some (((-2) - (S5.1 27 2)), S5)
              )
            )
          else none)
        else none)
      else
        some (((-2) - (S.1 27 2)), S)
      )
    else
      (if (kd y1).1 = 10 + 1 then
        (if (S.1 y1 1) ≤ (S.1 27 1) then
          (if (S.1 27 2) = (-1) then
            (if xa_in (S.1 y1 1) 65 then
              (match G_67 (xa_u S.1 28 (((S.1 y1 1)).toNatClampNeg) 1, S.2.1, S.2.2) y1 with
              | none => none
              | some (v11, S11) =>
                (if (S11.1 27 2) = (-1) then
                  some (y2, S11)
                else
                  some (((-2) - (S11.1 27 2)), S11)
                )
              )
            else none)
          else
            some (((-2) - (S.1 27 2)), S)
          )
        else
          (if (S.1 27 2) = (-1) then
            (if xa_in (S.1 27 1) 65 then
              (match G_59 (xa_u S.1 28 (((S.1 27 1)).toNatClampNeg) 1, S.2.1, S.2.2) y1 with
              | none => none
              | some (v15, S15) =>
                GL_58_0 n S15 y1 (y2 + 1)
              )
            else none)
          else
            some (((-2) - (S.1 27 2)), S)
          )
        )
      else none)
    )
theorem B_58_1 {X : Nat × (Nat → Int32)} {d : Nat} (n : Nat) (y1 : Nat) (y2 : Int32) (S : St) : ex X d 58 33 [.ref 27, .ref y1, .int y2] [] (hh S) (n + 3) = if 64 ≤ y2 then ex X d 58 79 [.ref 27, .ref y1, .int y2] [] (hh S) n else ex X d 58 39 [.ref 27, .ref y1, .int y2] [] (hh S) n := rfl
theorem B_58_2 {X : Nat × (Nat → Int32)} {d : Nat} (n : Nat) (y1 : Nat) (y2 : Int32) (S : St) : ex X d 58 79 [.ref 27, .ref y1, .int y2] [] (hh S) (n + 4) = if (S.1 27 2) = (-1) then ex X d 58 87 [.ref 27, .ref y1, .int y2] [] (hh S) n else ex X d 58 102 [.ref 27, .ref y1, .int y2] [] (hh S) n := rfl
theorem B_58_3 {X : Nat × (Nat → Int32)} {d : Nat} (n : Nat) (y1 : Nat) (y2 : Int32) (S : St) : ex X d 58 87 [.ref 27, .ref y1, .int y2] [] (hh S) (n + 4) = if (kd y1).1 = 10 + 1 then ex X d 58 95 [.ref 27, .ref y1, .int y2] [.int (S.1 y1 1), .ref 28] (hh S) n else none := rfl
theorem B_58_4 {X : Nat × (Nat → Int32)} {d : Nat} (n : Nat) (y1 : Nat) (y2 : Int32) (S : St) : ex X d 58 95 [.ref 27, .ref y1, .int y2] [.int (S.1 y1 1), .ref 28] (hh S) (n + 2) = if (kd 28).1 = 1 ∧ xa_in (S.1 y1 1) (kd 28).2 ∧ ((1 : Int32) = 0 ∨ (1 : Int32) = 1) then ex X d 58 97 [.ref 27, .ref y1, .int y2] [] (hh (xa_u S.1 28 (((S.1 y1 1)).toNatClampNeg) 1, S.2.1, S.2.2)) n else none := rfl
theorem B_58_5 {X : Nat × (Nat → Int32)} {d : Nat} (n : Nat) (y1 : Nat) (y2 : Int32) (S : St) : ex X (d + 1) 58 97 [.ref 27, .ref y1, .int y2] [] (hh (xa_u S.1 28 (((S.1 y1 1)).toNatClampNeg) 1, S.2.1, S.2.2)) (n + 3) = (match ex X d 67 0 [.ref 27, .ref y1, .retAddr 0, .retAddr 0] [] (hh (xa_u S.1 28 (((S.1 y1 1)).toNatClampNeg) 1, S.2.1, S.2.2)) n with | some (v, h') => ex X (d + 1) 58 102 [.ref 27, .ref y1, .int y2] (v.toList ++ []) h' n | none => none) := rfl
theorem B_58_6 {X : Nat × (Nat → Int32)} {d : Nat} (n : Nat) (y1 : Nat) (y2 : Int32) (S5 : St) : ex X d 58 102 [.ref 27, .ref y1, .int y2] [] (hh S5) (n + 4) = if (S5.1 27 2) = (-1) then ex X d 58 110 [.ref 27, .ref y1, .int y2] [] (hh S5) n else ex X d 58 114 [.ref 27, .ref y1, .int y2] [] (hh S5) n := rfl
theorem B_58_7 {X : Nat × (Nat → Int32)} {d : Nat} (n : Nat) (y1 : Nat) (y2 : Int32) (S5 : St) : ex X d 58 102 [.ref 27, .ref y1, .int y2] [] (hh S5) (n + 4) = if (S5.1 27 2) = (-1) then ex X d 58 110 [.ref 27, .ref y1, .int y2] [] (hh S5) n else ex X d 58 114 [.ref 27, .ref y1, .int y2] [] (hh S5) n := rfl
theorem B_58_8 {X : Nat × (Nat → Int32)} {d : Nat} (n : Nat) (y1 : Nat) (y2 : Int32) (S : St) : ex X d 58 79 [.ref 27, .ref y1, .int y2] [] (hh S) (n + 4) = if (S.1 27 2) = (-1) then ex X d 58 87 [.ref 27, .ref y1, .int y2] [] (hh S) n else ex X d 58 102 [.ref 27, .ref y1, .int y2] [] (hh S) n := rfl
theorem B_58_9 {X : Nat × (Nat → Int32)} {d : Nat} (n : Nat) (y1 : Nat) (y2 : Int32) (S : St) : ex X d 58 102 [.ref 27, .ref y1, .int y2] [] (hh S) (n + 4) = if (S.1 27 2) = (-1) then ex X d 58 110 [.ref 27, .ref y1, .int y2] [] (hh S) n else ex X d 58 114 [.ref 27, .ref y1, .int y2] [] (hh S) n := rfl
theorem B_58_10 {X : Nat × (Nat → Int32)} {d : Nat} (n : Nat) (y1 : Nat) (y2 : Int32) (S : St) : ex X d 58 33 [.ref 27, .ref y1, .int y2] [] (hh S) (n + 3) = if 64 ≤ y2 then ex X d 58 79 [.ref 27, .ref y1, .int y2] [] (hh S) n else ex X d 58 39 [.ref 27, .ref y1, .int y2] [] (hh S) n := rfl
theorem B_58_11 {X : Nat × (Nat → Int32)} {d : Nat} (n : Nat) (y1 : Nat) (y2 : Int32) (S : St) : ex X d 58 39 [.ref 27, .ref y1, .int y2] [] (hh S) (n + 4) = if (kd y1).1 = 10 + 1 then ex X d 58 47 [.ref 27, .ref y1, .int y2] [.int (S.1 y1 1), .int (S.1 27 1)] (hh S) n else none := rfl
theorem B_58_12 {X : Nat × (Nat → Int32)} {d : Nat} (n : Nat) (y1 : Nat) (y2 : Int32) (S : St) : ex X d 58 47 [.ref 27, .ref y1, .int y2] [.int (S.1 y1 1), .int (S.1 27 1)] (hh S) (n + 1) = if (S.1 y1 1) ≤ (S.1 27 1) then ex X d 58 79 [.ref 27, .ref y1, .int y2] [] (hh S) n else ex X d 58 50 [.ref 27, .ref y1, .int y2] [] (hh S) n := rfl
theorem B_58_13 {X : Nat × (Nat → Int32)} {d : Nat} (n : Nat) (y1 : Nat) (y2 : Int32) (S : St) : ex X d 58 79 [.ref 27, .ref y1, .int y2] [] (hh S) (n + 4) = if (S.1 27 2) = (-1) then ex X d 58 87 [.ref 27, .ref y1, .int y2] [] (hh S) n else ex X d 58 102 [.ref 27, .ref y1, .int y2] [] (hh S) n := rfl
theorem B_58_14 {X : Nat × (Nat → Int32)} {d : Nat} (n : Nat) (y1 : Nat) (y2 : Int32) (S : St) : ex X d 58 87 [.ref 27, .ref y1, .int y2] [] (hh S) (n + 4) = if (kd y1).1 = 10 + 1 then ex X d 58 95 [.ref 27, .ref y1, .int y2] [.int (S.1 y1 1), .ref 28] (hh S) n else none := rfl
theorem B_58_15 {X : Nat × (Nat → Int32)} {d : Nat} (n : Nat) (y1 : Nat) (y2 : Int32) (S : St) : ex X d 58 95 [.ref 27, .ref y1, .int y2] [.int (S.1 y1 1), .ref 28] (hh S) (n + 2) = if (kd 28).1 = 1 ∧ xa_in (S.1 y1 1) (kd 28).2 ∧ ((1 : Int32) = 0 ∨ (1 : Int32) = 1) then ex X d 58 97 [.ref 27, .ref y1, .int y2] [] (hh (xa_u S.1 28 (((S.1 y1 1)).toNatClampNeg) 1, S.2.1, S.2.2)) n else none := rfl
theorem B_58_16 {X : Nat × (Nat → Int32)} {d : Nat} (n : Nat) (y1 : Nat) (y2 : Int32) (S : St) : ex X (d + 1) 58 97 [.ref 27, .ref y1, .int y2] [] (hh (xa_u S.1 28 (((S.1 y1 1)).toNatClampNeg) 1, S.2.1, S.2.2)) (n + 3) = (match ex X d 67 0 [.ref 27, .ref y1, .retAddr 0, .retAddr 0] [] (hh (xa_u S.1 28 (((S.1 y1 1)).toNatClampNeg) 1, S.2.1, S.2.2)) n with | some (v, h') => ex X (d + 1) 58 102 [.ref 27, .ref y1, .int y2] (v.toList ++ []) h' n | none => none) := rfl
theorem B_58_17 {X : Nat × (Nat → Int32)} {d : Nat} (n : Nat) (y1 : Nat) (y2 : Int32) (S11 : St) : ex X d 58 102 [.ref 27, .ref y1, .int y2] [] (hh S11) (n + 4) = if (S11.1 27 2) = (-1) then ex X d 58 110 [.ref 27, .ref y1, .int y2] [] (hh S11) n else ex X d 58 114 [.ref 27, .ref y1, .int y2] [] (hh S11) n := rfl
theorem B_58_18 {X : Nat × (Nat → Int32)} {d : Nat} (n : Nat) (y1 : Nat) (y2 : Int32) (S11 : St) : ex X d 58 102 [.ref 27, .ref y1, .int y2] [] (hh S11) (n + 4) = if (S11.1 27 2) = (-1) then ex X d 58 110 [.ref 27, .ref y1, .int y2] [] (hh S11) n else ex X d 58 114 [.ref 27, .ref y1, .int y2] [] (hh S11) n := rfl
theorem B_58_19 {X : Nat × (Nat → Int32)} {d : Nat} (n : Nat) (y1 : Nat) (y2 : Int32) (S : St) : ex X d 58 79 [.ref 27, .ref y1, .int y2] [] (hh S) (n + 4) = if (S.1 27 2) = (-1) then ex X d 58 87 [.ref 27, .ref y1, .int y2] [] (hh S) n else ex X d 58 102 [.ref 27, .ref y1, .int y2] [] (hh S) n := rfl
theorem B_58_20 {X : Nat × (Nat → Int32)} {d : Nat} (n : Nat) (y1 : Nat) (y2 : Int32) (S : St) : ex X d 58 102 [.ref 27, .ref y1, .int y2] [] (hh S) (n + 4) = if (S.1 27 2) = (-1) then ex X d 58 110 [.ref 27, .ref y1, .int y2] [] (hh S) n else ex X d 58 114 [.ref 27, .ref y1, .int y2] [] (hh S) n := rfl
theorem B_58_21 {X : Nat × (Nat → Int32)} {d : Nat} (n : Nat) (y1 : Nat) (y2 : Int32) (S : St) : ex X d 58 47 [.ref 27, .ref y1, .int y2] [.int (S.1 y1 1), .int (S.1 27 1)] (hh S) (n + 1) = if (S.1 y1 1) ≤ (S.1 27 1) then ex X d 58 79 [.ref 27, .ref y1, .int y2] [] (hh S) n else ex X d 58 50 [.ref 27, .ref y1, .int y2] [] (hh S) n := rfl
theorem B_58_22 {X : Nat × (Nat → Int32)} {d : Nat} (n : Nat) (y1 : Nat) (y2 : Int32) (S : St) : ex X d 58 50 [.ref 27, .ref y1, .int y2] [] (hh S) (n + 4) = if (S.1 27 2) = (-1) then ex X d 58 58 [.ref 27, .ref y1, .int y2] [] (hh S) n else ex X d 58 79 [.ref 27, .ref y1, .int y2] [] (hh S) n := rfl
theorem B_58_23 {X : Nat × (Nat → Int32)} {d : Nat} (n : Nat) (y1 : Nat) (y2 : Int32) (S : St) : ex X d 58 58 [.ref 27, .ref y1, .int y2] [] (hh S) (n + 6) = if (kd 28).1 = 1 ∧ xa_in (S.1 27 1) (kd 28).2 ∧ ((1 : Int32) = 0 ∨ (1 : Int32) = 1) then ex X d 58 68 [.ref 27, .ref y1, .int y2] [] (hh (xa_u S.1 28 (((S.1 27 1)).toNatClampNeg) 1, S.2.1, S.2.2)) n else none := rfl
theorem B_58_24 {X : Nat × (Nat → Int32)} {d : Nat} (n : Nat) (y1 : Nat) (y2 : Int32) (S : St) : ex X (d + 1) 58 68 [.ref 27, .ref y1, .int y2] [] (hh (xa_u S.1 28 (((S.1 27 1)).toNatClampNeg) 1, S.2.1, S.2.2)) (n + 3) = (match ex X d 59 0 [.ref 27, .ref y1, .retAddr 0] [] (hh (xa_u S.1 28 (((S.1 27 1)).toNatClampNeg) 1, S.2.1, S.2.2)) n with | some (v, h') => ex X (d + 1) 58 73 [.ref 27, .ref y1, .int y2] (v.toList ++ []) h' n | none => none) := rfl
theorem B_58_25 {X : Nat × (Nat → Int32)} {d : Nat} (n : Nat) (y1 : Nat) (y2 : Int32) (S15 : St) : ex X d 58 73 [.ref 27, .ref y1, .int y2] [] (hh S15) (n + 2) = ex X d 58 33 [.ref 27, .ref y1, .int (y2 + 1)] [] (hh S15) n := rfl
theorem B_58_26 {X : Nat × (Nat → Int32)} {d : Nat} (n : Nat) (y1 : Nat) (y2 : Int32) (S : St) : ex X d 58 50 [.ref 27, .ref y1, .int y2] [] (hh S) (n + 4) = if (S.1 27 2) = (-1) then ex X d 58 58 [.ref 27, .ref y1, .int y2] [] (hh S) n else ex X d 58 79 [.ref 27, .ref y1, .int y2] [] (hh S) n := rfl
theorem B_58_27 {X : Nat × (Nat → Int32)} {d : Nat} (n : Nat) (y1 : Nat) (y2 : Int32) (S : St) : ex X d 58 79 [.ref 27, .ref y1, .int y2] [] (hh S) (n + 4) = if (S.1 27 2) = (-1) then ex X d 58 87 [.ref 27, .ref y1, .int y2] [] (hh S) n else ex X d 58 102 [.ref 27, .ref y1, .int y2] [] (hh S) n := rfl
theorem B_58_28 {X : Nat × (Nat → Int32)} {d : Nat} (n : Nat) (y1 : Nat) (y2 : Int32) (S : St) : ex X d 58 102 [.ref 27, .ref y1, .int y2] [] (hh S) (n + 4) = if (S.1 27 2) = (-1) then ex X d 58 110 [.ref 27, .ref y1, .int y2] [] (hh S) n else ex X d 58 114 [.ref 27, .ref y1, .int y2] [] (hh S) n := rfl
set_option maxRecDepth 200000 in
theorem TL_58_0 {X : Nat × (Nat → Int32)} : ∀ (n : Nat) (S : St) (y1 : Nat) (y2 : Int32) (r : Int32) (S' : St), GL_58_0 n S y1 y2 = some (r, S') → Ev X 206 58 33 [.ref 27, .ref y1, .int y2] [] (hh S) (xI r, hh S') := by
  intro n
  induction n with
  | zero => intro S y1 y2 r S' hG; simp [GL_58_0] at hG
  | succ n ih =>
    intro S y1 y2 r S' hG
    rw [GL_58_0] at hG
    by_cases c1 : 64 ≤ y2
    · rw [if_pos c1] at hG
      refine Ev.t (c := 64 ≤ y2) (p1 := 79) (L1 := [.ref 27, .ref y1, .int y2]) (s1 := []) (h1 := hh S) (p2 := 39) (L2 := [.ref 27, .ref y1, .int y2]) (s2 := []) (h2 := hh S) 3 (fun n => B_58_1 n y1 y2 S) c1 ?_
      by_cases c2 : (S.1 27 2) = (-1)
      · rw [if_pos c2] at hG
        refine Ev.t (c := (S.1 27 2) = (-1)) (p1 := 87) (L1 := [.ref 27, .ref y1, .int y2]) (s1 := []) (h1 := hh S) (p2 := 102) (L2 := [.ref 27, .ref y1, .int y2]) (s2 := []) (h2 := hh S) 4 (fun n => B_58_2 n y1 y2 S) c2 ?_
        by_cases g3 : (kd y1).1 = 10 + 1
        rotate_left
        · rw [if_neg g3] at hG; cases hG
        rw [if_pos g3] at hG
        refine Ev.g (c := (kd y1).1 = 10 + 1) (p1 := 95) (L1 := [.ref 27, .ref y1, .int y2]) (s1 := [.int (S.1 y1 1), .ref 28]) (h1 := hh S) 4 (fun n => B_58_3 n y1 y2 S) g3 ?_
        by_cases g4 : xa_in (S.1 y1 1) 65
        rotate_left
        · rw [if_neg g4] at hG; cases hG
        rw [if_pos g4] at hG
        refine Ev.g (c := (kd 28).1 = 1 ∧ xa_in (S.1 y1 1) (kd 28).2 ∧ ((1 : Int32) = 0 ∨ (1 : Int32) = 1)) (p1 := 97) (L1 := [.ref 27, .ref y1, .int y2]) (s1 := []) (h1 := hh (xa_u S.1 28 (((S.1 y1 1)).toNatClampNeg) 1, S.2.1, S.2.2)) 2 (fun n => B_58_4 n y1 y2 S) (⟨rfl, g4, by decide⟩) ?_
        rcases h5 : G_67 (xa_u S.1 28 (((S.1 y1 1)).toNatClampNeg) 1, S.2.1, S.2.2) y1 with _ | ⟨v5, S5⟩
        · rw [h5] at hG; cases hG
        rw [h5] at hG
        dsimp only at hG
        refine Ev.c (a := 67) (A := [.ref 27, .ref y1, .retAddr 0, .retAddr 0]) (h1 := hh (xa_u S.1 28 (((S.1 y1 1)).toNatClampNeg) 1, S.2.1, S.2.2)) (pc' := 102) (L' := [.ref 27, .ref y1, .int y2]) (rest := []) (r1 := none) (h2 := hh S5) 3 (fun n => B_58_5 n y1 y2 S) (Ev.up (by decide) (T_67 (xa_u S.1 28 (((S.1 y1 1)).toNatClampNeg) 1, S.2.1, S.2.2) y1 _ _ h5)) ?_
        show Ev X _ 58 102 [.ref 27, .ref y1, .int y2] [] (hh S5) _
        by_cases c6 : (S5.1 27 2) = (-1)
        · rw [if_pos c6] at hG
          refine Ev.t (c := (S5.1 27 2) = (-1)) (p1 := 110) (L1 := [.ref 27, .ref y1, .int y2]) (s1 := []) (h1 := hh S5) (p2 := 114) (L2 := [.ref 27, .ref y1, .int y2]) (s2 := []) (h2 := hh S5) 4 (fun n => B_58_6 n y1 y2 S5) c6 ?_
          obtain ⟨e1, e2⟩ := Prod.mk.inj (Option.some.inj hG)
          subst e1
          subst e2
          exact Ev.r 3 (fun n => rfl)
        · rw [if_neg c6] at hG
          refine Ev.f (c := (S5.1 27 2) = (-1)) (p1 := 110) (L1 := [.ref 27, .ref y1, .int y2]) (s1 := []) (h1 := hh S5) (p2 := 114) (L2 := [.ref 27, .ref y1, .int y2]) (s2 := []) (h2 := hh S5) 4 (fun n => B_58_7 n y1 y2 S5) c6 ?_
          obtain ⟨e1, e2⟩ := Prod.mk.inj (Option.some.inj hG)
          subst e1
          subst e2
          exact Ev.r 5 (fun n => rfl)
      · rw [if_neg c2] at hG
        refine Ev.f (c := (S.1 27 2) = (-1)) (p1 := 87) (L1 := [.ref 27, .ref y1, .int y2]) (s1 := []) (h1 := hh S) (p2 := 102) (L2 := [.ref 27, .ref y1, .int y2]) (s2 := []) (h2 := hh S) 4 (fun n => B_58_8 n y1 y2 S) c2 ?_
        refine Ev.f (c := (S.1 27 2) = (-1)) (p1 := 110) (L1 := [.ref 27, .ref y1, .int y2]) (s1 := []) (h1 := hh S) (p2 := 114) (L2 := [.ref 27, .ref y1, .int y2]) (s2 := []) (h2 := hh S) 4 (fun n => B_58_9 n y1 y2 S) c2 ?_
        obtain ⟨e1, e2⟩ := Prod.mk.inj (Option.some.inj hG)
        subst e1
        subst e2
        exact Ev.r 5 (fun n => rfl)
    · rw [if_neg c1] at hG
      refine Ev.f (c := 64 ≤ y2) (p1 := 79) (L1 := [.ref 27, .ref y1, .int y2]) (s1 := []) (h1 := hh S) (p2 := 39) (L2 := [.ref 27, .ref y1, .int y2]) (s2 := []) (h2 := hh S) 3 (fun n => B_58_10 n y1 y2 S) c1 ?_
      by_cases g7 : (kd y1).1 = 10 + 1
      rotate_left
      · rw [if_neg g7] at hG; cases hG
      rw [if_pos g7] at hG
      refine Ev.g (c := (kd y1).1 = 10 + 1) (p1 := 47) (L1 := [.ref 27, .ref y1, .int y2]) (s1 := [.int (S.1 y1 1), .int (S.1 27 1)]) (h1 := hh S) 4 (fun n => B_58_11 n y1 y2 S) g7 ?_
      by_cases c8 : (S.1 y1 1) ≤ (S.1 27 1)
      · rw [if_pos c8] at hG
        refine Ev.t (c := (S.1 y1 1) ≤ (S.1 27 1)) (p1 := 79) (L1 := [.ref 27, .ref y1, .int y2]) (s1 := []) (h1 := hh S) (p2 := 50) (L2 := [.ref 27, .ref y1, .int y2]) (s2 := []) (h2 := hh S) 1 (fun n => B_58_12 n y1 y2 S) c8 ?_
        by_cases c9 : (S.1 27 2) = (-1)
        · rw [if_pos c9] at hG
          refine Ev.t (c := (S.1 27 2) = (-1)) (p1 := 87) (L1 := [.ref 27, .ref y1, .int y2]) (s1 := []) (h1 := hh S) (p2 := 102) (L2 := [.ref 27, .ref y1, .int y2]) (s2 := []) (h2 := hh S) 4 (fun n => B_58_13 n y1 y2 S) c9 ?_
          refine Ev.g (c := (kd y1).1 = 10 + 1) (p1 := 95) (L1 := [.ref 27, .ref y1, .int y2]) (s1 := [.int (S.1 y1 1), .ref 28]) (h1 := hh S) 4 (fun n => B_58_14 n y1 y2 S) g7 ?_
          by_cases g10 : xa_in (S.1 y1 1) 65
          rotate_left
          · rw [if_neg g10] at hG; cases hG
          rw [if_pos g10] at hG
          refine Ev.g (c := (kd 28).1 = 1 ∧ xa_in (S.1 y1 1) (kd 28).2 ∧ ((1 : Int32) = 0 ∨ (1 : Int32) = 1)) (p1 := 97) (L1 := [.ref 27, .ref y1, .int y2]) (s1 := []) (h1 := hh (xa_u S.1 28 (((S.1 y1 1)).toNatClampNeg) 1, S.2.1, S.2.2)) 2 (fun n => B_58_15 n y1 y2 S) (⟨rfl, g10, by decide⟩) ?_
          rcases h11 : G_67 (xa_u S.1 28 (((S.1 y1 1)).toNatClampNeg) 1, S.2.1, S.2.2) y1 with _ | ⟨v11, S11⟩
          · rw [h11] at hG; cases hG
          rw [h11] at hG
          dsimp only at hG
          refine Ev.c (a := 67) (A := [.ref 27, .ref y1, .retAddr 0, .retAddr 0]) (h1 := hh (xa_u S.1 28 (((S.1 y1 1)).toNatClampNeg) 1, S.2.1, S.2.2)) (pc' := 102) (L' := [.ref 27, .ref y1, .int y2]) (rest := []) (r1 := none) (h2 := hh S11) 3 (fun n => B_58_16 n y1 y2 S) (Ev.up (by decide) (T_67 (xa_u S.1 28 (((S.1 y1 1)).toNatClampNeg) 1, S.2.1, S.2.2) y1 _ _ h11)) ?_
          show Ev X _ 58 102 [.ref 27, .ref y1, .int y2] [] (hh S11) _
          by_cases c12 : (S11.1 27 2) = (-1)
          · rw [if_pos c12] at hG
            refine Ev.t (c := (S11.1 27 2) = (-1)) (p1 := 110) (L1 := [.ref 27, .ref y1, .int y2]) (s1 := []) (h1 := hh S11) (p2 := 114) (L2 := [.ref 27, .ref y1, .int y2]) (s2 := []) (h2 := hh S11) 4 (fun n => B_58_17 n y1 y2 S11) c12 ?_
            obtain ⟨e1, e2⟩ := Prod.mk.inj (Option.some.inj hG)
            subst e1
            subst e2
            exact Ev.r 3 (fun n => rfl)
          · rw [if_neg c12] at hG
            refine Ev.f (c := (S11.1 27 2) = (-1)) (p1 := 110) (L1 := [.ref 27, .ref y1, .int y2]) (s1 := []) (h1 := hh S11) (p2 := 114) (L2 := [.ref 27, .ref y1, .int y2]) (s2 := []) (h2 := hh S11) 4 (fun n => B_58_18 n y1 y2 S11) c12 ?_
            obtain ⟨e1, e2⟩ := Prod.mk.inj (Option.some.inj hG)
            subst e1
            subst e2
            exact Ev.r 5 (fun n => rfl)
        · rw [if_neg c9] at hG
          refine Ev.f (c := (S.1 27 2) = (-1)) (p1 := 87) (L1 := [.ref 27, .ref y1, .int y2]) (s1 := []) (h1 := hh S) (p2 := 102) (L2 := [.ref 27, .ref y1, .int y2]) (s2 := []) (h2 := hh S) 4 (fun n => B_58_19 n y1 y2 S) c9 ?_
          refine Ev.f (c := (S.1 27 2) = (-1)) (p1 := 110) (L1 := [.ref 27, .ref y1, .int y2]) (s1 := []) (h1 := hh S) (p2 := 114) (L2 := [.ref 27, .ref y1, .int y2]) (s2 := []) (h2 := hh S) 4 (fun n => B_58_20 n y1 y2 S) c9 ?_
          obtain ⟨e1, e2⟩ := Prod.mk.inj (Option.some.inj hG)
          subst e1
          subst e2
          exact Ev.r 5 (fun n => rfl)
      · rw [if_neg c8] at hG
        refine Ev.f (c := (S.1 y1 1) ≤ (S.1 27 1)) (p1 := 79) (L1 := [.ref 27, .ref y1, .int y2]) (s1 := []) (h1 := hh S) (p2 := 50) (L2 := [.ref 27, .ref y1, .int y2]) (s2 := []) (h2 := hh S) 1 (fun n => B_58_21 n y1 y2 S) c8 ?_
        by_cases c13 : (S.1 27 2) = (-1)
        · rw [if_pos c13] at hG
          refine Ev.t (c := (S.1 27 2) = (-1)) (p1 := 58) (L1 := [.ref 27, .ref y1, .int y2]) (s1 := []) (h1 := hh S) (p2 := 79) (L2 := [.ref 27, .ref y1, .int y2]) (s2 := []) (h2 := hh S) 4 (fun n => B_58_22 n y1 y2 S) c13 ?_
          by_cases g14 : xa_in (S.1 27 1) 65
          rotate_left
          · rw [if_neg g14] at hG; cases hG
          rw [if_pos g14] at hG
          refine Ev.g (c := (kd 28).1 = 1 ∧ xa_in (S.1 27 1) (kd 28).2 ∧ ((1 : Int32) = 0 ∨ (1 : Int32) = 1)) (p1 := 68) (L1 := [.ref 27, .ref y1, .int y2]) (s1 := []) (h1 := hh (xa_u S.1 28 (((S.1 27 1)).toNatClampNeg) 1, S.2.1, S.2.2)) 6 (fun n => B_58_23 n y1 y2 S) (⟨rfl, g14, by decide⟩) ?_
          rcases h15 : G_59 (xa_u S.1 28 (((S.1 27 1)).toNatClampNeg) 1, S.2.1, S.2.2) y1 with _ | ⟨v15, S15⟩
          · rw [h15] at hG; cases hG
          rw [h15] at hG
          dsimp only at hG
          refine Ev.c (a := 59) (A := [.ref 27, .ref y1, .retAddr 0]) (h1 := hh (xa_u S.1 28 (((S.1 27 1)).toNatClampNeg) 1, S.2.1, S.2.2)) (pc' := 73) (L' := [.ref 27, .ref y1, .int y2]) (rest := []) (r1 := none) (h2 := hh S15) 3 (fun n => B_58_24 n y1 y2 S) (Ev.up (by decide) (T_59 (xa_u S.1 28 (((S.1 27 1)).toNatClampNeg) 1, S.2.1, S.2.2) y1 _ _ h15)) ?_
          show Ev X _ 58 73 [.ref 27, .ref y1, .int y2] [] (hh S15) _
          exact Ev.b (pc' := 33) (L' := [.ref 27, .ref y1, .int (y2 + 1)]) (st' := []) (h' := hh S15) 2 (fun n => B_58_25 n y1 y2 S15) (ih S15 y1 (y2 + 1) _ _ hG )
        · rw [if_neg c13] at hG
          refine Ev.f (c := (S.1 27 2) = (-1)) (p1 := 58) (L1 := [.ref 27, .ref y1, .int y2]) (s1 := []) (h1 := hh S) (p2 := 79) (L2 := [.ref 27, .ref y1, .int y2]) (s2 := []) (h2 := hh S) 4 (fun n => B_58_26 n y1 y2 S) c13 ?_
          refine Ev.f (c := (S.1 27 2) = (-1)) (p1 := 87) (L1 := [.ref 27, .ref y1, .int y2]) (s1 := []) (h1 := hh S) (p2 := 102) (L2 := [.ref 27, .ref y1, .int y2]) (s2 := []) (h2 := hh S) 4 (fun n => B_58_27 n y1 y2 S) c13 ?_
          refine Ev.f (c := (S.1 27 2) = (-1)) (p1 := 110) (L1 := [.ref 27, .ref y1, .int y2]) (s1 := []) (h1 := hh S) (p2 := 114) (L2 := [.ref 27, .ref y1, .int y2]) (s2 := []) (h2 := hh S) 4 (fun n => B_58_28 n y1 y2 S) c13 ?_
          obtain ⟨e1, e2⟩ := Prod.mk.inj (Option.some.inj hG)
          subst e1
          subst e2
          exact Ev.r 5 (fun n => rfl)
def GL_58_1 : Nat → St → Nat → Int32 → Option (Int32 × St)
  | 0, _, _, _ => none
  | n + 1, S, y1, y2 =>
    (if 64 < y2 then
      GL_58_0 xFu S y1 (0 : Int32)
    else
      (if xa_in y2 65 then
        GL_58_1 n (xa_u S.1 28 ((y2).toNatClampNeg) 0, S.2.1, S.2.2) y1 (y2 + 1)
      else none)
    )
theorem B_58_29 {X : Nat × (Nat → Int32)} {d : Nat} (n : Nat) (y1 : Nat) (y2 : Int32) (S : St) : ex X d 58 12 [.ref 27, .ref y1, .int y2] [] (hh S) (n + 3) = if 64 < y2 then ex X d 58 31 [.ref 27, .ref y1, .int y2] [] (hh S) n else ex X d 58 18 [.ref 27, .ref y1, .int y2] [] (hh S) n := rfl
theorem B_58_30 {X : Nat × (Nat → Int32)} {d : Nat} (n : Nat) (y1 : Nat) (y2 : Int32) (S : St) : ex X d 58 31 [.ref 27, .ref y1, .int y2] [] (hh S) (n + 2) = ex X d 58 33 [.ref 27, .ref y1, .int 0] [] (hh S) n := rfl
theorem B_58_31 {X : Nat × (Nat → Int32)} {d : Nat} (n : Nat) (y1 : Nat) (y2 : Int32) (S : St) : ex X d 58 12 [.ref 27, .ref y1, .int y2] [] (hh S) (n + 3) = if 64 < y2 then ex X d 58 31 [.ref 27, .ref y1, .int y2] [] (hh S) n else ex X d 58 18 [.ref 27, .ref y1, .int y2] [] (hh S) n := rfl
theorem B_58_32 {X : Nat × (Nat → Int32)} {d : Nat} (n : Nat) (y1 : Nat) (y2 : Int32) (S : St) : ex X d 58 18 [.ref 27, .ref y1, .int y2] [] (hh S) (n + 5) = if (kd 28).1 = 1 ∧ xa_in y2 (kd 28).2 ∧ ((0 : Int32) = 0 ∨ (0 : Int32) = 1) then ex X d 58 25 [.ref 27, .ref y1, .int y2] [] (hh (xa_u S.1 28 ((y2).toNatClampNeg) 0, S.2.1, S.2.2)) n else none := rfl
theorem B_58_33 {X : Nat × (Nat → Int32)} {d : Nat} (n : Nat) (y1 : Nat) (y2 : Int32) (S : St) : ex X d 58 25 [.ref 27, .ref y1, .int y2] [] (hh (xa_u S.1 28 ((y2).toNatClampNeg) 0, S.2.1, S.2.2)) (n + 2) = ex X d 58 12 [.ref 27, .ref y1, .int (y2 + 1)] [] (hh (xa_u S.1 28 ((y2).toNatClampNeg) 0, S.2.1, S.2.2)) n := rfl
set_option maxRecDepth 200000 in
theorem TL_58_1 {X : Nat × (Nat → Int32)} : ∀ (n : Nat) (S : St) (y1 : Nat) (y2 : Int32) (r : Int32) (S' : St), GL_58_1 n S y1 y2 = some (r, S') → Ev X 206 58 12 [.ref 27, .ref y1, .int y2] [] (hh S) (xI r, hh S') := by
  intro n
  induction n with
  | zero => intro S y1 y2 r S' hG; simp [GL_58_1] at hG
  | succ n ih =>
    intro S y1 y2 r S' hG
    rw [GL_58_1] at hG
    by_cases c16 : 64 < y2
    · rw [if_pos c16] at hG
      refine Ev.t (c := 64 < y2) (p1 := 31) (L1 := [.ref 27, .ref y1, .int y2]) (s1 := []) (h1 := hh S) (p2 := 18) (L2 := [.ref 27, .ref y1, .int y2]) (s2 := []) (h2 := hh S) 3 (fun n => B_58_29 n y1 y2 S) c16 ?_
      exact Ev.b (pc' := 33) (L' := [.ref 27, .ref y1, .int 0]) (st' := []) (h' := hh S) 2 (fun n => B_58_30 n y1 y2 S) (TL_58_0 xFu S y1 (0 : Int32) _ _ hG )
    · rw [if_neg c16] at hG
      refine Ev.f (c := 64 < y2) (p1 := 31) (L1 := [.ref 27, .ref y1, .int y2]) (s1 := []) (h1 := hh S) (p2 := 18) (L2 := [.ref 27, .ref y1, .int y2]) (s2 := []) (h2 := hh S) 3 (fun n => B_58_31 n y1 y2 S) c16 ?_
      by_cases g17 : xa_in y2 65
      rotate_left
      · rw [if_neg g17] at hG; cases hG
      rw [if_pos g17] at hG
      refine Ev.g (c := (kd 28).1 = 1 ∧ xa_in y2 (kd 28).2 ∧ ((0 : Int32) = 0 ∨ (0 : Int32) = 1)) (p1 := 25) (L1 := [.ref 27, .ref y1, .int y2]) (s1 := []) (h1 := hh (xa_u S.1 28 ((y2).toNatClampNeg) 0, S.2.1, S.2.2)) 5 (fun n => B_58_32 n y1 y2 S) (⟨rfl, g17, by decide⟩) ?_
      exact Ev.b (pc' := 12) (L' := [.ref 27, .ref y1, .int (y2 + 1)]) (st' := []) (h' := hh (xa_u S.1 28 ((y2).toNatClampNeg) 0, S.2.1, S.2.2)) 2 (fun n => B_58_33 n y1 y2 S) (ih (xa_u S.1 28 ((y2).toNatClampNeg) 0, S.2.1, S.2.2) y1 (y2 + 1) _ _ hG )
def G_58 (S : St) (x1 : Nat) : Option (Int32 × St) :=
  GL_58_1 xFu (xa_u (xa_u S.1 27 1 0) 27 2 (-1), S.2.1, S.2.2) x1 (0 : Int32)
theorem B_58_34 {X : Nat × (Nat → Int32)} {d : Nat} (n : Nat) (x1 : Nat) (S : St) : ex X d 58 0 [.ref 27, .ref x1, .retAddr 0] [] (hh S) (n + 3) = if (kd 27).1 = 10 + 5 ∧ (xf_k 5 1 = 0 ∨ (xf_k 5 1 = 1 ∧ ((0 : Int32) = 0 ∨ (0 : Int32) = 1))) then ex X d 58 5 [.ref 27, .ref x1, .retAddr 0] [] (hh (xa_u S.1 27 1 0, S.2.1, S.2.2)) n else none := rfl
theorem B_58_35 {X : Nat × (Nat → Int32)} {d : Nat} (n : Nat) (x1 : Nat) (S : St) : ex X d 58 5 [.ref 27, .ref x1, .retAddr 0] [] (hh (xa_u S.1 27 1 0, S.2.1, S.2.2)) (n + 3) = if (kd 27).1 = 10 + 5 ∧ (xf_k 5 2 = 0 ∨ (xf_k 5 2 = 1 ∧ (((-1) : Int32) = 0 ∨ ((-1) : Int32) = 1))) then ex X d 58 10 [.ref 27, .ref x1, .retAddr 0] [] (hh (xa_u (xa_u S.1 27 1 0) 27 2 (-1), S.2.1, S.2.2)) n else none := rfl
theorem B_58_36 {X : Nat × (Nat → Int32)} {d : Nat} (n : Nat) (x1 : Nat) (S : St) : ex X d 58 10 [.ref 27, .ref x1, .retAddr 0] [] (hh (xa_u (xa_u S.1 27 1 0) 27 2 (-1), S.2.1, S.2.2)) (n + 2) = ex X d 58 12 [.ref 27, .ref x1, .int 0] [] (hh (xa_u (xa_u S.1 27 1 0) 27 2 (-1), S.2.1, S.2.2)) n := rfl
set_option maxRecDepth 200000 in
theorem T_58 {X : Nat × (Nat → Int32)} (S : St) (x1 : Nat) (r : Int32) (S' : St) (hG : G_58 S x1 = some (r, S')) : Ev X 206 58 0 [.ref 27, .ref x1, .retAddr 0] [] (hh S) (xI r, hh S') := by
  unfold G_58 at hG
  refine Ev.g (c := (kd 27).1 = 10 + 5 ∧ (xf_k 5 1 = 0 ∨ (xf_k 5 1 = 1 ∧ ((0 : Int32) = 0 ∨ (0 : Int32) = 1)))) (p1 := 5) (L1 := [.ref 27, .ref x1, .retAddr 0]) (s1 := []) (h1 := hh (xa_u S.1 27 1 0, S.2.1, S.2.2)) 3 (fun n => B_58_34 n x1 S) (⟨rfl, Or.inl rfl⟩) ?_
  refine Ev.g (c := (kd 27).1 = 10 + 5 ∧ (xf_k 5 2 = 0 ∨ (xf_k 5 2 = 1 ∧ (((-1) : Int32) = 0 ∨ ((-1) : Int32) = 1)))) (p1 := 10) (L1 := [.ref 27, .ref x1, .retAddr 0]) (s1 := []) (h1 := hh (xa_u (xa_u S.1 27 1 0) 27 2 (-1), S.2.1, S.2.2)) 3 (fun n => B_58_35 n x1 S) (⟨rfl, Or.inl rfl⟩) ?_
  exact Ev.b (pc' := 12) (L' := [.ref 27, .ref x1, .int 0]) (st' := []) (h' := hh (xa_u (xa_u S.1 27 1 0) 27 2 (-1), S.2.1, S.2.2)) 2 (fun n => B_58_36 n x1 S) (TL_58_1 xFu (xa_u (xa_u S.1 27 1 0) 27 2 (-1), S.2.1, S.2.2) x1 (0 : Int32) _ _ hG )
/-- 99: SceneCycle.load(I)I -/
def G_99 (S : St) (x1 : Int32) : Option (Int32 × St) :=
  (match G_50 S x1 with
  | none => none
  | some (v1, S1) =>
    (match v1 with
    | none =>
      some ((-1), S1)
    | some a2 =>
      (if (kd a2).1 = 10 + 1 then
        (if (S1.1 a2 2) = 0 then
          (if x1 = 0 then
            (match G_27 S1 26 a2 with
            | none => none
            | some (v6, S6) =>
              (if v6 < 0 then
                some (v6, (xa_u S6.1 a2 2 0, S6.2.1, S6.2.2))
              else
                some (v6, (xa_u S6.1 a2 2 1, S6.2.1, S6.2.2))
              )
            )
          else
            (match G_58 S1 a2 with
            | none => none
            | some (v8, S8) =>
              (if v8 < 0 then
                some (v8, (xa_u S8.1 a2 2 0, S8.2.1, S8.2.2))
              else
                some (v8, (xa_u S8.1 a2 2 1, S8.2.1, S8.2.2))
              )
            )
          )
        else
          some ((-1), S1)
        )
      else none)
    )
  )
theorem B_99_1 {X : Nat × (Nat → Int32)} {d : Nat} (n : Nat) (x1 : Int32) (S : St) : ex X (d + 1) 99 0 [.ref 0, .int x1, .retAddr 0, .retAddr 0] [] (hh S) (n + 4) = (match ex X d 50 0 [.ref 1, .int x1] [] (hh S) n with | some (v, h') => ex X (d + 1) 99 8 [.ref 0, .int x1, .retAddr 0, .retAddr 0] (v.toList ++ []) h' n | none => none) := rfl
theorem B_99_2 {X : Nat × (Nat → Int32)} {d : Nat} (n : Nat) (x1 : Int32) (a2 : Nat) (S1 : St) : ex X d 99 8 [.ref 0, .int x1, .retAddr 0, .retAddr 0] [.ref a2] (hh S1) (n + 5) = if (kd a2).1 = 10 + 1 then ex X d 99 17 [.ref 0, .int x1, .ref a2, .retAddr 0] [.int (S1.1 a2 2)] (hh S1) n else none := rfl
theorem B_99_3 {X : Nat × (Nat → Int32)} {d : Nat} (n : Nat) (x1 : Int32) (a2 : Nat) (S1 : St) : ex X d 99 17 [.ref 0, .int x1, .ref a2, .retAddr 0] [.int (S1.1 a2 2)] (hh S1) (n + 1) = if (S1.1 a2 2) = 0 then ex X d 99 22 [.ref 0, .int x1, .ref a2, .retAddr 0] [] (hh S1) n else ex X d 99 20 [.ref 0, .int x1, .ref a2, .retAddr 0] [] (hh S1) n := rfl
theorem B_99_4 {X : Nat × (Nat → Int32)} {d : Nat} (n : Nat) (x1 : Int32) (a2 : Nat) (S1 : St) : ex X d 99 22 [.ref 0, .int x1, .ref a2, .retAddr 0] [] (hh S1) (n + 2) = if x1 = 0 then ex X d 99 26 [.ref 0, .int x1, .ref a2, .retAddr 0] [] (hh S1) n else ex X d 99 37 [.ref 0, .int x1, .ref a2, .retAddr 0] [] (hh S1) n := rfl
theorem B_99_5 {X : Nat × (Nat → Int32)} {d : Nat} (n : Nat) (x1 : Int32) (a2 : Nat) (S1 : St) : ex X (d + 1) 99 26 [.ref 0, .int x1, .ref a2, .retAddr 0] [] (hh S1) (n + 4) = (match ex X d 27 0 [.ref 26, .ref a2, .retAddr 0] [] (hh S1) n with | some (v, h') => ex X (d + 1) 99 34 [.ref 0, .int x1, .ref a2, .retAddr 0] (v.toList ++ []) h' n | none => none) := rfl
theorem B_99_6 {X : Nat × (Nat → Int32)} {d : Nat} (n : Nat) (x1 : Int32) (a2 : Nat) (v6 : Int32) (S6 : St) : ex X d 99 34 [.ref 0, .int x1, .ref a2, .retAddr 0] [.int v6] (hh S6) (n + 5) = if v6 < 0 then ex X d 99 55 [.ref 0, .int x1, .ref a2, .int v6] [.ref a2] (hh S6) n else ex X d 99 51 [.ref 0, .int x1, .ref a2, .int v6] [.ref a2] (hh S6) n := rfl
theorem B_99_7 {X : Nat × (Nat → Int32)} {d : Nat} (n : Nat) (x1 : Int32) (a2 : Nat) (v6 : Int32) (S6 : St) : ex X d 99 55 [.ref 0, .int x1, .ref a2, .int v6] [.ref a2] (hh S6) (n + 2) = if (kd a2).1 = 10 + 1 ∧ (xf_k 1 2 = 0 ∨ (xf_k 1 2 = 1 ∧ ((0 : Int32) = 0 ∨ (0 : Int32) = 1))) then ex X d 99 59 [.ref 0, .int x1, .ref a2, .int v6] [] (hh (xa_u S6.1 a2 2 0, S6.2.1, S6.2.2)) n else none := rfl
theorem B_99_8 {X : Nat × (Nat → Int32)} {d : Nat} (n : Nat) (x1 : Int32) (a2 : Nat) (v6 : Int32) (S6 : St) : ex X d 99 34 [.ref 0, .int x1, .ref a2, .retAddr 0] [.int v6] (hh S6) (n + 5) = if v6 < 0 then ex X d 99 55 [.ref 0, .int x1, .ref a2, .int v6] [.ref a2] (hh S6) n else ex X d 99 51 [.ref 0, .int x1, .ref a2, .int v6] [.ref a2] (hh S6) n := rfl
theorem B_99_9 {X : Nat × (Nat → Int32)} {d : Nat} (n : Nat) (x1 : Int32) (a2 : Nat) (v6 : Int32) (S6 : St) : ex X d 99 51 [.ref 0, .int x1, .ref a2, .int v6] [.ref a2] (hh S6) (n + 3) = if (kd a2).1 = 10 + 1 ∧ (xf_k 1 2 = 0 ∨ (xf_k 1 2 = 1 ∧ ((1 : Int32) = 0 ∨ (1 : Int32) = 1))) then ex X d 99 59 [.ref 0, .int x1, .ref a2, .int v6] [] (hh (xa_u S6.1 a2 2 1, S6.2.1, S6.2.2)) n else none := rfl
theorem B_99_10 {X : Nat × (Nat → Int32)} {d : Nat} (n : Nat) (x1 : Int32) (a2 : Nat) (S1 : St) : ex X d 99 22 [.ref 0, .int x1, .ref a2, .retAddr 0] [] (hh S1) (n + 2) = if x1 = 0 then ex X d 99 26 [.ref 0, .int x1, .ref a2, .retAddr 0] [] (hh S1) n else ex X d 99 37 [.ref 0, .int x1, .ref a2, .retAddr 0] [] (hh S1) n := rfl
theorem B_99_11 {X : Nat × (Nat → Int32)} {d : Nat} (n : Nat) (x1 : Int32) (a2 : Nat) (S1 : St) : ex X (d + 1) 99 37 [.ref 0, .int x1, .ref a2, .retAddr 0] [] (hh S1) (n + 4) = (match ex X d 58 0 [.ref 27, .ref a2, .retAddr 0] [] (hh S1) n with | some (v, h') => ex X (d + 1) 99 45 [.ref 0, .int x1, .ref a2, .retAddr 0] (v.toList ++ []) h' n | none => none) := rfl
theorem B_99_12 {X : Nat × (Nat → Int32)} {d : Nat} (n : Nat) (x1 : Int32) (a2 : Nat) (v8 : Int32) (S8 : St) : ex X d 99 45 [.ref 0, .int x1, .ref a2, .retAddr 0] [.int v8] (hh S8) (n + 4) = if v8 < 0 then ex X d 99 55 [.ref 0, .int x1, .ref a2, .int v8] [.ref a2] (hh S8) n else ex X d 99 51 [.ref 0, .int x1, .ref a2, .int v8] [.ref a2] (hh S8) n := rfl
theorem B_99_13 {X : Nat × (Nat → Int32)} {d : Nat} (n : Nat) (x1 : Int32) (a2 : Nat) (v8 : Int32) (S8 : St) : ex X d 99 55 [.ref 0, .int x1, .ref a2, .int v8] [.ref a2] (hh S8) (n + 2) = if (kd a2).1 = 10 + 1 ∧ (xf_k 1 2 = 0 ∨ (xf_k 1 2 = 1 ∧ ((0 : Int32) = 0 ∨ (0 : Int32) = 1))) then ex X d 99 59 [.ref 0, .int x1, .ref a2, .int v8] [] (hh (xa_u S8.1 a2 2 0, S8.2.1, S8.2.2)) n else none := rfl
theorem B_99_14 {X : Nat × (Nat → Int32)} {d : Nat} (n : Nat) (x1 : Int32) (a2 : Nat) (v8 : Int32) (S8 : St) : ex X d 99 45 [.ref 0, .int x1, .ref a2, .retAddr 0] [.int v8] (hh S8) (n + 4) = if v8 < 0 then ex X d 99 55 [.ref 0, .int x1, .ref a2, .int v8] [.ref a2] (hh S8) n else ex X d 99 51 [.ref 0, .int x1, .ref a2, .int v8] [.ref a2] (hh S8) n := rfl
theorem B_99_15 {X : Nat × (Nat → Int32)} {d : Nat} (n : Nat) (x1 : Int32) (a2 : Nat) (v8 : Int32) (S8 : St) : ex X d 99 51 [.ref 0, .int x1, .ref a2, .int v8] [.ref a2] (hh S8) (n + 3) = if (kd a2).1 = 10 + 1 ∧ (xf_k 1 2 = 0 ∨ (xf_k 1 2 = 1 ∧ ((1 : Int32) = 0 ∨ (1 : Int32) = 1))) then ex X d 99 59 [.ref 0, .int x1, .ref a2, .int v8] [] (hh (xa_u S8.1 a2 2 1, S8.2.1, S8.2.2)) n else none := rfl
theorem B_99_16 {X : Nat × (Nat → Int32)} {d : Nat} (n : Nat) (x1 : Int32) (a2 : Nat) (S1 : St) : ex X d 99 17 [.ref 0, .int x1, .ref a2, .retAddr 0] [.int (S1.1 a2 2)] (hh S1) (n + 1) = if (S1.1 a2 2) = 0 then ex X d 99 22 [.ref 0, .int x1, .ref a2, .retAddr 0] [] (hh S1) n else ex X d 99 20 [.ref 0, .int x1, .ref a2, .retAddr 0] [] (hh S1) n := rfl
set_option maxRecDepth 200000 in
theorem T_99 {X : Nat × (Nat → Int32)} (S : St) (x1 : Int32) (r : Int32) (S' : St) (hG : G_99 S x1 = some (r, S')) : Ev X 207 99 0 [.ref 0, .int x1, .retAddr 0, .retAddr 0] [] (hh S) (xI r, hh S') := by
  unfold G_99 at hG
  rcases h1 : G_50 S x1 with _ | ⟨v1, S1⟩
  · rw [h1] at hG; cases hG
  rw [h1] at hG
  dsimp only at hG
  refine Ev.c (a := 50) (A := [.ref 1, .int x1]) (h1 := hh S) (pc' := 8) (L' := [.ref 0, .int x1, .retAddr 0, .retAddr 0]) (rest := []) (r1 := some (va_rf v1)) (h2 := hh S1) 4 (fun n => B_99_1 n x1 S) (Ev.up (by decide) (T_50 S x1 _ _ h1)) ?_
  rcases v1 with _ | a2
  · dsimp only at hG
    show Ev X _ 99 8 [.ref 0, .int x1, .retAddr 0, .retAddr 0] [.null] (hh S1) _
    obtain ⟨e1, e2⟩ := Prod.mk.inj (Option.some.inj hG)
    subst e1
    subst e2
    exact Ev.r 5 (fun n => rfl)
  · dsimp only at hG
    show Ev X _ 99 8 [.ref 0, .int x1, .retAddr 0, .retAddr 0] [.ref a2] (hh S1) _
    by_cases g3 : (kd a2).1 = 10 + 1
    rotate_left
    · rw [if_neg g3] at hG; cases hG
    rw [if_pos g3] at hG
    refine Ev.g (c := (kd a2).1 = 10 + 1) (p1 := 17) (L1 := [.ref 0, .int x1, .ref a2, .retAddr 0]) (s1 := [.int (S1.1 a2 2)]) (h1 := hh S1) 5 (fun n => B_99_2 n x1 a2 S1) g3 ?_
    by_cases c4 : (S1.1 a2 2) = 0
    · rw [if_pos c4] at hG
      refine Ev.t (c := (S1.1 a2 2) = 0) (p1 := 22) (L1 := [.ref 0, .int x1, .ref a2, .retAddr 0]) (s1 := []) (h1 := hh S1) (p2 := 20) (L2 := [.ref 0, .int x1, .ref a2, .retAddr 0]) (s2 := []) (h2 := hh S1) 1 (fun n => B_99_3 n x1 a2 S1) c4 ?_
      by_cases c5 : x1 = 0
      · rw [if_pos c5] at hG
        refine Ev.t (c := x1 = 0) (p1 := 26) (L1 := [.ref 0, .int x1, .ref a2, .retAddr 0]) (s1 := []) (h1 := hh S1) (p2 := 37) (L2 := [.ref 0, .int x1, .ref a2, .retAddr 0]) (s2 := []) (h2 := hh S1) 2 (fun n => B_99_4 n x1 a2 S1) c5 ?_
        rcases h6 : G_27 S1 26 a2 with _ | ⟨v6, S6⟩
        · rw [h6] at hG; cases hG
        rw [h6] at hG
        dsimp only at hG
        refine Ev.c (a := 27) (A := [.ref 26, .ref a2, .retAddr 0]) (h1 := hh S1) (pc' := 34) (L' := [.ref 0, .int x1, .ref a2, .retAddr 0]) (rest := []) (r1 := some (.int v6)) (h2 := hh S6) 4 (fun n => B_99_5 n x1 a2 S1) (Ev.up (by decide) (T_27 S1 26 a2 _ _ h6)) ?_
        show Ev X _ 99 34 [.ref 0, .int x1, .ref a2, .retAddr 0] [.int v6] (hh S6) _
        by_cases c7 : v6 < 0
        · rw [if_pos c7] at hG
          refine Ev.t (c := v6 < 0) (p1 := 55) (L1 := [.ref 0, .int x1, .ref a2, .int v6]) (s1 := [.ref a2]) (h1 := hh S6) (p2 := 51) (L2 := [.ref 0, .int x1, .ref a2, .int v6]) (s2 := [.ref a2]) (h2 := hh S6) 5 (fun n => B_99_6 n x1 a2 v6 S6) c7 ?_
          refine Ev.g (c := (kd a2).1 = 10 + 1 ∧ (xf_k 1 2 = 0 ∨ (xf_k 1 2 = 1 ∧ ((0 : Int32) = 0 ∨ (0 : Int32) = 1)))) (p1 := 59) (L1 := [.ref 0, .int x1, .ref a2, .int v6]) (s1 := []) (h1 := hh (xa_u S6.1 a2 2 0, S6.2.1, S6.2.2)) 2 (fun n => B_99_7 n x1 a2 v6 S6) (⟨g3, Or.inr ⟨rfl, by decide⟩⟩) ?_
          obtain ⟨e1, e2⟩ := Prod.mk.inj (Option.some.inj hG)
          subst e1
          subst e2
          exact Ev.r 2 (fun n => rfl)
        · rw [if_neg c7] at hG
          refine Ev.f (c := v6 < 0) (p1 := 55) (L1 := [.ref 0, .int x1, .ref a2, .int v6]) (s1 := [.ref a2]) (h1 := hh S6) (p2 := 51) (L2 := [.ref 0, .int x1, .ref a2, .int v6]) (s2 := [.ref a2]) (h2 := hh S6) 5 (fun n => B_99_8 n x1 a2 v6 S6) c7 ?_
          refine Ev.g (c := (kd a2).1 = 10 + 1 ∧ (xf_k 1 2 = 0 ∨ (xf_k 1 2 = 1 ∧ ((1 : Int32) = 0 ∨ (1 : Int32) = 1)))) (p1 := 59) (L1 := [.ref 0, .int x1, .ref a2, .int v6]) (s1 := []) (h1 := hh (xa_u S6.1 a2 2 1, S6.2.1, S6.2.2)) 3 (fun n => B_99_9 n x1 a2 v6 S6) (⟨g3, Or.inr ⟨rfl, by decide⟩⟩) ?_
          obtain ⟨e1, e2⟩ := Prod.mk.inj (Option.some.inj hG)
          subst e1
          subst e2
          exact Ev.r 2 (fun n => rfl)
      · rw [if_neg c5] at hG
        refine Ev.f (c := x1 = 0) (p1 := 26) (L1 := [.ref 0, .int x1, .ref a2, .retAddr 0]) (s1 := []) (h1 := hh S1) (p2 := 37) (L2 := [.ref 0, .int x1, .ref a2, .retAddr 0]) (s2 := []) (h2 := hh S1) 2 (fun n => B_99_10 n x1 a2 S1) c5 ?_
        rcases h8 : G_58 S1 a2 with _ | ⟨v8, S8⟩
        · rw [h8] at hG; cases hG
        rw [h8] at hG
        dsimp only at hG
        refine Ev.c (a := 58) (A := [.ref 27, .ref a2, .retAddr 0]) (h1 := hh S1) (pc' := 45) (L' := [.ref 0, .int x1, .ref a2, .retAddr 0]) (rest := []) (r1 := some (.int v8)) (h2 := hh S8) 4 (fun n => B_99_11 n x1 a2 S1) (Ev.up (by decide) (T_58 S1 a2 _ _ h8)) ?_
        show Ev X _ 99 45 [.ref 0, .int x1, .ref a2, .retAddr 0] [.int v8] (hh S8) _
        by_cases c9 : v8 < 0
        · rw [if_pos c9] at hG
          refine Ev.t (c := v8 < 0) (p1 := 55) (L1 := [.ref 0, .int x1, .ref a2, .int v8]) (s1 := [.ref a2]) (h1 := hh S8) (p2 := 51) (L2 := [.ref 0, .int x1, .ref a2, .int v8]) (s2 := [.ref a2]) (h2 := hh S8) 4 (fun n => B_99_12 n x1 a2 v8 S8) c9 ?_
          refine Ev.g (c := (kd a2).1 = 10 + 1 ∧ (xf_k 1 2 = 0 ∨ (xf_k 1 2 = 1 ∧ ((0 : Int32) = 0 ∨ (0 : Int32) = 1)))) (p1 := 59) (L1 := [.ref 0, .int x1, .ref a2, .int v8]) (s1 := []) (h1 := hh (xa_u S8.1 a2 2 0, S8.2.1, S8.2.2)) 2 (fun n => B_99_13 n x1 a2 v8 S8) (⟨g3, Or.inr ⟨rfl, by decide⟩⟩) ?_
          obtain ⟨e1, e2⟩ := Prod.mk.inj (Option.some.inj hG)
          subst e1
          subst e2
          exact Ev.r 2 (fun n => rfl)
        · rw [if_neg c9] at hG
          refine Ev.f (c := v8 < 0) (p1 := 55) (L1 := [.ref 0, .int x1, .ref a2, .int v8]) (s1 := [.ref a2]) (h1 := hh S8) (p2 := 51) (L2 := [.ref 0, .int x1, .ref a2, .int v8]) (s2 := [.ref a2]) (h2 := hh S8) 4 (fun n => B_99_14 n x1 a2 v8 S8) c9 ?_
          refine Ev.g (c := (kd a2).1 = 10 + 1 ∧ (xf_k 1 2 = 0 ∨ (xf_k 1 2 = 1 ∧ ((1 : Int32) = 0 ∨ (1 : Int32) = 1)))) (p1 := 59) (L1 := [.ref 0, .int x1, .ref a2, .int v8]) (s1 := []) (h1 := hh (xa_u S8.1 a2 2 1, S8.2.1, S8.2.2)) 3 (fun n => B_99_15 n x1 a2 v8 S8) (⟨g3, Or.inr ⟨rfl, by decide⟩⟩) ?_
          obtain ⟨e1, e2⟩ := Prod.mk.inj (Option.some.inj hG)
          subst e1
          subst e2
          exact Ev.r 2 (fun n => rfl)
    · rw [if_neg c4] at hG
      refine Ev.f (c := (S1.1 a2 2) = 0) (p1 := 22) (L1 := [.ref 0, .int x1, .ref a2, .retAddr 0]) (s1 := []) (h1 := hh S1) (p2 := 20) (L2 := [.ref 0, .int x1, .ref a2, .retAddr 0]) (s2 := []) (h2 := hh S1) 1 (fun n => B_99_16 n x1 a2 S1) c4 ?_
      obtain ⟨e1, e2⟩ := Prod.mk.inj (Option.some.inj hG)
      subst e1
      subst e2
      exact Ev.r 2 (fun n => rfl)
/-- 101: SceneCycle.cycle(III)I -/
def G_101 (S : St) (x1 : Int32) (x2 : Int32) (x3 : Int32) : Option (Int32 × St) :=
  (if (S.1 0 6) = 0 then
    (match G_102 S (255 : Int32) x1 with
    | none => none
    | some (v2, S2) =>
      (if v2 = 0 then
        some ((-1), S2)
      else
        (match G_102 S2 (8 : Int32) x2 with
        | none => none
        | some (v4, S4) =>
          (if v4 = 0 then
            some ((-1), S4)
          else
            (match G_102 S4 (255 : Int32) x3 with
            | none => none
            | some (v6, S6) =>
              (if v6 = 0 then
                some ((-1), S6)
              else
                (match G_12 (xa_u (xa_u S6.1 0 5 ((S6.1 0 5) + 1)) 1 5 x1, S6.2.1, S6.2.2) 11 x2 with
                | none => none
                | some (v8, S8) =>
                  (match G_72 S8 (S8.1 0 0) with
                  | none => none
                  | some (v9, S9) =>
                    (if v9 = 0 then
                      (match G_85 S9 x3 with
                      | none => none
                      | some (v11, S11) =>
                        some ((S11.1 23 6), S11)
                      )
                    else
                      some (v9, (xa_u S9.1 0 6 1, S9.2.1, S9.2.2))
                    )
                  )
                )
              )
            )
          )
        )
      )
    )
  else
    some ((-1), S)
  )
theorem B_101_1 {X : Nat × (Nat → Int32)} {d : Nat} (n : Nat) (x1 : Int32) (x2 : Int32) (x3 : Int32) (S : St) : ex X d 101 0 [.ref 0, .int x1, .int x2, .int x3, .retAddr 0] [] (hh S) (n + 3) = if (S.1 0 6) = 0 then ex X d 101 7 [.ref 0, .int x1, .int x2, .int x3, .retAddr 0] [] (hh S) n else ex X d 101 36 [.ref 0, .int x1, .int x2, .int x3, .retAddr 0] [] (hh S) n := rfl
theorem B_101_2 {X : Nat × (Nat → Int32)} {d : Nat} (n : Nat) (x1 : Int32) (x2 : Int32) (x3 : Int32) (S : St) : ex X (d + 1) 101 7 [.ref 0, .int x1, .int x2, .int x3, .retAddr 0] [] (hh S) (n + 3) = (match ex X d 102 0 [.int 255, .int x1] [] (hh S) n with | some (v, h') => ex X (d + 1) 101 14 [.ref 0, .int x1, .int x2, .int x3, .retAddr 0] (v.toList ++ []) h' n | none => none) := rfl
theorem B_101_3 {X : Nat × (Nat → Int32)} {d : Nat} (n : Nat) (x1 : Int32) (x2 : Int32) (x3 : Int32) (v2 : Int32) (S2 : St) : ex X d 101 14 [.ref 0, .int x1, .int x2, .int x3, .retAddr 0] [.int v2] (hh S2) (n + 1) = if v2 = 0 then ex X d 101 36 [.ref 0, .int x1, .int x2, .int x3, .retAddr 0] [] (hh S2) n else ex X d 101 17 [.ref 0, .int x1, .int x2, .int x3, .retAddr 0] [] (hh S2) n := rfl
theorem B_101_4 {X : Nat × (Nat → Int32)} {d : Nat} (n : Nat) (x1 : Int32) (x2 : Int32) (x3 : Int32) (v2 : Int32) (S2 : St) : ex X d 101 14 [.ref 0, .int x1, .int x2, .int x3, .retAddr 0] [.int v2] (hh S2) (n + 1) = if v2 = 0 then ex X d 101 36 [.ref 0, .int x1, .int x2, .int x3, .retAddr 0] [] (hh S2) n else ex X d 101 17 [.ref 0, .int x1, .int x2, .int x3, .retAddr 0] [] (hh S2) n := rfl
theorem B_101_5 {X : Nat × (Nat → Int32)} {d : Nat} (n : Nat) (x1 : Int32) (x2 : Int32) (x3 : Int32) (S2 : St) : ex X (d + 1) 101 17 [.ref 0, .int x1, .int x2, .int x3, .retAddr 0] [] (hh S2) (n + 3) = (match ex X d 102 0 [.int 8, .int x2] [] (hh S2) n with | some (v, h') => ex X (d + 1) 101 23 [.ref 0, .int x1, .int x2, .int x3, .retAddr 0] (v.toList ++ []) h' n | none => none) := rfl
theorem B_101_6 {X : Nat × (Nat → Int32)} {d : Nat} (n : Nat) (x1 : Int32) (x2 : Int32) (x3 : Int32) (v4 : Int32) (S4 : St) : ex X d 101 23 [.ref 0, .int x1, .int x2, .int x3, .retAddr 0] [.int v4] (hh S4) (n + 1) = if v4 = 0 then ex X d 101 36 [.ref 0, .int x1, .int x2, .int x3, .retAddr 0] [] (hh S4) n else ex X d 101 26 [.ref 0, .int x1, .int x2, .int x3, .retAddr 0] [] (hh S4) n := rfl
theorem B_101_7 {X : Nat × (Nat → Int32)} {d : Nat} (n : Nat) (x1 : Int32) (x2 : Int32) (x3 : Int32) (v4 : Int32) (S4 : St) : ex X d 101 23 [.ref 0, .int x1, .int x2, .int x3, .retAddr 0] [.int v4] (hh S4) (n + 1) = if v4 = 0 then ex X d 101 36 [.ref 0, .int x1, .int x2, .int x3, .retAddr 0] [] (hh S4) n else ex X d 101 26 [.ref 0, .int x1, .int x2, .int x3, .retAddr 0] [] (hh S4) n := rfl
theorem B_101_8 {X : Nat × (Nat → Int32)} {d : Nat} (n : Nat) (x1 : Int32) (x2 : Int32) (x3 : Int32) (S4 : St) : ex X (d + 1) 101 26 [.ref 0, .int x1, .int x2, .int x3, .retAddr 0] [] (hh S4) (n + 3) = (match ex X d 102 0 [.int 255, .int x3] [] (hh S4) n with | some (v, h') => ex X (d + 1) 101 33 [.ref 0, .int x1, .int x2, .int x3, .retAddr 0] (v.toList ++ []) h' n | none => none) := rfl
theorem B_101_9 {X : Nat × (Nat → Int32)} {d : Nat} (n : Nat) (x1 : Int32) (x2 : Int32) (x3 : Int32) (v6 : Int32) (S6 : St) : ex X d 101 33 [.ref 0, .int x1, .int x2, .int x3, .retAddr 0] [.int v6] (hh S6) (n + 1) = if v6 = 0 then ex X d 101 36 [.ref 0, .int x1, .int x2, .int x3, .retAddr 0] [] (hh S6) n else ex X d 101 38 [.ref 0, .int x1, .int x2, .int x3, .retAddr 0] [] (hh S6) n := rfl
theorem B_101_10 {X : Nat × (Nat → Int32)} {d : Nat} (n : Nat) (x1 : Int32) (x2 : Int32) (x3 : Int32) (v6 : Int32) (S6 : St) : ex X d 101 33 [.ref 0, .int x1, .int x2, .int x3, .retAddr 0] [.int v6] (hh S6) (n + 1) = if v6 = 0 then ex X d 101 36 [.ref 0, .int x1, .int x2, .int x3, .retAddr 0] [] (hh S6) n else ex X d 101 38 [.ref 0, .int x1, .int x2, .int x3, .retAddr 0] [] (hh S6) n := rfl
theorem B_101_11 {X : Nat × (Nat → Int32)} {d : Nat} (n : Nat) (x1 : Int32) (x2 : Int32) (x3 : Int32) (S6 : St) : ex X d 101 38 [.ref 0, .int x1, .int x2, .int x3, .retAddr 0] [] (hh S6) (n + 6) = if (kd 0).1 = 10 + 7 ∧ (xf_k 7 5 = 0 ∨ (xf_k 7 5 = 1 ∧ (((S6.1 0 5) + 1) = 0 ∨ ((S6.1 0 5) + 1) = 1))) then ex X d 101 48 [.ref 0, .int x1, .int x2, .int x3, .retAddr 0] [] (hh (xa_u S6.1 0 5 ((S6.1 0 5) + 1), S6.2.1, S6.2.2)) n else none := rfl
theorem B_101_12 {X : Nat × (Nat → Int32)} {d : Nat} (n : Nat) (x1 : Int32) (x2 : Int32) (x3 : Int32) (S6 : St) : ex X d 101 48 [.ref 0, .int x1, .int x2, .int x3, .retAddr 0] [] (hh (xa_u S6.1 0 5 ((S6.1 0 5) + 1), S6.2.1, S6.2.2)) (n + 4) = if (kd 1).1 = 10 + 4 ∧ (xf_k 4 5 = 0 ∨ (xf_k 4 5 = 1 ∧ (x1 = 0 ∨ x1 = 1))) then ex X d 101 56 [.ref 0, .int x1, .int x2, .int x3, .retAddr 0] [] (hh (xa_u (xa_u S6.1 0 5 ((S6.1 0 5) + 1)) 1 5 x1, S6.2.1, S6.2.2)) n else none := rfl
theorem B_101_13 {X : Nat × (Nat → Int32)} {d : Nat} (n : Nat) (x1 : Int32) (x2 : Int32) (x3 : Int32) (S6 : St) : ex X d 101 56 [.ref 0, .int x1, .int x2, .int x3, .retAddr 0] [] (hh (xa_u (xa_u S6.1 0 5 ((S6.1 0 5) + 1)) 1 5 x1, S6.2.1, S6.2.2)) (n + 5) = if (2 ≤ (kd 7).1 ∧ (kd 7).1 < xo_n) ∧ xa_in (0 : Int32) (kd 7).2 then ex X d 101 65 [.ref 0, .int x1, .int x2, .int x3, .retAddr 0] [va_rf (RC S6.2.1 S6.2.2 7 ((0 : Int32)).toNatClampNeg)] (hh (xa_u (xa_u S6.1 0 5 ((S6.1 0 5) + 1)) 1 5 x1, S6.2.1, S6.2.2)) n else none := rfl
theorem B_101_14 {X : Nat × (Nat → Int32)} {d : Nat} (n : Nat) (x1 : Int32) (x2 : Int32) (x3 : Int32) (S6 : St) : ex X (d + 1) 101 65 [.ref 0, .int x1, .int x2, .int x3, .retAddr 0] [.ref 11] (hh (xa_u (xa_u S6.1 0 5 ((S6.1 0 5) + 1)) 1 5 x1, S6.2.1, S6.2.2)) (n + 2) = (match ex X d 12 0 [.ref 11, .int x2] [] (hh (xa_u (xa_u S6.1 0 5 ((S6.1 0 5) + 1)) 1 5 x1, S6.2.1, S6.2.2)) n with | some (v, h') => ex X (d + 1) 101 69 [.ref 0, .int x1, .int x2, .int x3, .retAddr 0] (v.toList ++ []) h' n | none => none) := rfl
theorem B_101_15 {X : Nat × (Nat → Int32)} {d : Nat} (n : Nat) (x1 : Int32) (x2 : Int32) (x3 : Int32) (S8 : St) : ex X (d + 1) 101 69 [.ref 0, .int x1, .int x2, .int x3, .retAddr 0] [] (hh S8) (n + 7) = (match ex X d 72 0 [.ref 23, .ref 1, .int (S8.1 0 0), .retAddr 0, .retAddr 0] [] (hh S8) n with | some (v, h') => ex X (d + 1) 101 84 [.ref 0, .int x1, .int x2, .int x3, .retAddr 0] (v.toList ++ []) h' n | none => none) := rfl
theorem B_101_16 {X : Nat × (Nat → Int32)} {d : Nat} (n : Nat) (x1 : Int32) (x2 : Int32) (x3 : Int32) (v9 : Int32) (S9 : St) : ex X d 101 84 [.ref 0, .int x1, .int x2, .int x3, .retAddr 0] [.int v9] (hh S9) (n + 3) = if v9 = 0 then ex X d 101 99 [.ref 0, .int x1, .int x2, .int x3, .int v9] [] (hh S9) n else ex X d 101 91 [.ref 0, .int x1, .int x2, .int x3, .int v9] [] (hh S9) n := rfl
theorem B_101_17 {X : Nat × (Nat → Int32)} {d : Nat} (n : Nat) (x1 : Int32) (x2 : Int32) (x3 : Int32) (v9 : Int32) (S9 : St) : ex X (d + 1) 101 99 [.ref 0, .int x1, .int x2, .int x3, .int v9] [] (hh S9) (n + 4) = (match ex X d 85 0 [.ref 1, .int x3, .retAddr 0, .retAddr 0] [] (hh S9) n with | some (v, h') => ex X (d + 1) 101 107 [.ref 0, .int x1, .int x2, .int x3, .int v9] (v.toList ++ []) h' n | none => none) := rfl
theorem B_101_18 {X : Nat × (Nat → Int32)} {d : Nat} (n : Nat) (x1 : Int32) (x2 : Int32) (x3 : Int32) (v9 : Int32) (S9 : St) : ex X d 101 84 [.ref 0, .int x1, .int x2, .int x3, .retAddr 0] [.int v9] (hh S9) (n + 3) = if v9 = 0 then ex X d 101 99 [.ref 0, .int x1, .int x2, .int x3, .int v9] [] (hh S9) n else ex X d 101 91 [.ref 0, .int x1, .int x2, .int x3, .int v9] [] (hh S9) n := rfl
theorem B_101_19 {X : Nat × (Nat → Int32)} {d : Nat} (n : Nat) (x1 : Int32) (x2 : Int32) (x3 : Int32) (v9 : Int32) (S9 : St) : ex X d 101 91 [.ref 0, .int x1, .int x2, .int x3, .int v9] [] (hh S9) (n + 3) = if (kd 0).1 = 10 + 7 ∧ (xf_k 7 6 = 0 ∨ (xf_k 7 6 = 1 ∧ ((1 : Int32) = 0 ∨ (1 : Int32) = 1))) then ex X d 101 96 [.ref 0, .int x1, .int x2, .int x3, .int v9] [] (hh (xa_u S9.1 0 6 1, S9.2.1, S9.2.2)) n else none := rfl
theorem B_101_20 {X : Nat × (Nat → Int32)} {d : Nat} (n : Nat) (x1 : Int32) (x2 : Int32) (x3 : Int32) (S : St) : ex X d 101 0 [.ref 0, .int x1, .int x2, .int x3, .retAddr 0] [] (hh S) (n + 3) = if (S.1 0 6) = 0 then ex X d 101 7 [.ref 0, .int x1, .int x2, .int x3, .retAddr 0] [] (hh S) n else ex X d 101 36 [.ref 0, .int x1, .int x2, .int x3, .retAddr 0] [] (hh S) n := rfl
set_option maxRecDepth 200000 in
theorem T_101 {X : Nat × (Nat → Int32)} (S : St) (x1 : Int32) (x2 : Int32) (x3 : Int32) (r : Int32) (S' : St) (hG : G_101 S x1 x2 x3 = some (r, S')) : Ev X 46 101 0 [.ref 0, .int x1, .int x2, .int x3, .retAddr 0] [] (hh S) (xI r, hh S') := by
  unfold G_101 at hG
  by_cases c1 : (S.1 0 6) = 0
  · rw [if_pos c1] at hG
    refine Ev.t (c := (S.1 0 6) = 0) (p1 := 7) (L1 := [.ref 0, .int x1, .int x2, .int x3, .retAddr 0]) (s1 := []) (h1 := hh S) (p2 := 36) (L2 := [.ref 0, .int x1, .int x2, .int x3, .retAddr 0]) (s2 := []) (h2 := hh S) 3 (fun n => B_101_1 n x1 x2 x3 S) c1 ?_
    rcases h2 : G_102 S (255 : Int32) x1 with _ | ⟨v2, S2⟩
    · rw [h2] at hG; cases hG
    rw [h2] at hG
    dsimp only at hG
    refine Ev.c (a := 102) (A := [.int 255, .int x1]) (h1 := hh S) (pc' := 14) (L' := [.ref 0, .int x1, .int x2, .int x3, .retAddr 0]) (rest := []) (r1 := some (.int v2)) (h2 := hh S2) 3 (fun n => B_101_2 n x1 x2 x3 S) (Ev.up (by decide) (T_102 S (255 : Int32) x1 _ _ h2)) ?_
    show Ev X _ 101 14 [.ref 0, .int x1, .int x2, .int x3, .retAddr 0] [.int v2] (hh S2) _
    by_cases c3 : v2 = 0
    · rw [if_pos c3] at hG
      refine Ev.t (c := v2 = 0) (p1 := 36) (L1 := [.ref 0, .int x1, .int x2, .int x3, .retAddr 0]) (s1 := []) (h1 := hh S2) (p2 := 17) (L2 := [.ref 0, .int x1, .int x2, .int x3, .retAddr 0]) (s2 := []) (h2 := hh S2) 1 (fun n => B_101_3 n x1 x2 x3 v2 S2) c3 ?_
      obtain ⟨e1, e2⟩ := Prod.mk.inj (Option.some.inj hG)
      subst e1
      subst e2
      exact Ev.r 2 (fun n => rfl)
    · rw [if_neg c3] at hG
      refine Ev.f (c := v2 = 0) (p1 := 36) (L1 := [.ref 0, .int x1, .int x2, .int x3, .retAddr 0]) (s1 := []) (h1 := hh S2) (p2 := 17) (L2 := [.ref 0, .int x1, .int x2, .int x3, .retAddr 0]) (s2 := []) (h2 := hh S2) 1 (fun n => B_101_4 n x1 x2 x3 v2 S2) c3 ?_
      rcases h4 : G_102 S2 (8 : Int32) x2 with _ | ⟨v4, S4⟩
      · rw [h4] at hG; cases hG
      rw [h4] at hG
      dsimp only at hG
      refine Ev.c (a := 102) (A := [.int 8, .int x2]) (h1 := hh S2) (pc' := 23) (L' := [.ref 0, .int x1, .int x2, .int x3, .retAddr 0]) (rest := []) (r1 := some (.int v4)) (h2 := hh S4) 3 (fun n => B_101_5 n x1 x2 x3 S2) (Ev.up (by decide) (T_102 S2 (8 : Int32) x2 _ _ h4)) ?_
      show Ev X _ 101 23 [.ref 0, .int x1, .int x2, .int x3, .retAddr 0] [.int v4] (hh S4) _
      by_cases c5 : v4 = 0
      · rw [if_pos c5] at hG
        refine Ev.t (c := v4 = 0) (p1 := 36) (L1 := [.ref 0, .int x1, .int x2, .int x3, .retAddr 0]) (s1 := []) (h1 := hh S4) (p2 := 26) (L2 := [.ref 0, .int x1, .int x2, .int x3, .retAddr 0]) (s2 := []) (h2 := hh S4) 1 (fun n => B_101_6 n x1 x2 x3 v4 S4) c5 ?_
        obtain ⟨e1, e2⟩ := Prod.mk.inj (Option.some.inj hG)
        subst e1
        subst e2
        exact Ev.r 2 (fun n => rfl)
      · rw [if_neg c5] at hG
        refine Ev.f (c := v4 = 0) (p1 := 36) (L1 := [.ref 0, .int x1, .int x2, .int x3, .retAddr 0]) (s1 := []) (h1 := hh S4) (p2 := 26) (L2 := [.ref 0, .int x1, .int x2, .int x3, .retAddr 0]) (s2 := []) (h2 := hh S4) 1 (fun n => B_101_7 n x1 x2 x3 v4 S4) c5 ?_
        rcases h6 : G_102 S4 (255 : Int32) x3 with _ | ⟨v6, S6⟩
        · rw [h6] at hG; cases hG
        rw [h6] at hG
        dsimp only at hG
        refine Ev.c (a := 102) (A := [.int 255, .int x3]) (h1 := hh S4) (pc' := 33) (L' := [.ref 0, .int x1, .int x2, .int x3, .retAddr 0]) (rest := []) (r1 := some (.int v6)) (h2 := hh S6) 3 (fun n => B_101_8 n x1 x2 x3 S4) (Ev.up (by decide) (T_102 S4 (255 : Int32) x3 _ _ h6)) ?_
        show Ev X _ 101 33 [.ref 0, .int x1, .int x2, .int x3, .retAddr 0] [.int v6] (hh S6) _
        by_cases c7 : v6 = 0
        · rw [if_pos c7] at hG
          refine Ev.t (c := v6 = 0) (p1 := 36) (L1 := [.ref 0, .int x1, .int x2, .int x3, .retAddr 0]) (s1 := []) (h1 := hh S6) (p2 := 38) (L2 := [.ref 0, .int x1, .int x2, .int x3, .retAddr 0]) (s2 := []) (h2 := hh S6) 1 (fun n => B_101_9 n x1 x2 x3 v6 S6) c7 ?_
          obtain ⟨e1, e2⟩ := Prod.mk.inj (Option.some.inj hG)
          subst e1
          subst e2
          exact Ev.r 2 (fun n => rfl)
        · rw [if_neg c7] at hG
          refine Ev.f (c := v6 = 0) (p1 := 36) (L1 := [.ref 0, .int x1, .int x2, .int x3, .retAddr 0]) (s1 := []) (h1 := hh S6) (p2 := 38) (L2 := [.ref 0, .int x1, .int x2, .int x3, .retAddr 0]) (s2 := []) (h2 := hh S6) 1 (fun n => B_101_10 n x1 x2 x3 v6 S6) c7 ?_
          refine Ev.g (c := (kd 0).1 = 10 + 7 ∧ (xf_k 7 5 = 0 ∨ (xf_k 7 5 = 1 ∧ (((S6.1 0 5) + 1) = 0 ∨ ((S6.1 0 5) + 1) = 1)))) (p1 := 48) (L1 := [.ref 0, .int x1, .int x2, .int x3, .retAddr 0]) (s1 := []) (h1 := hh (xa_u S6.1 0 5 ((S6.1 0 5) + 1), S6.2.1, S6.2.2)) 6 (fun n => B_101_11 n x1 x2 x3 S6) (⟨rfl, Or.inl rfl⟩) ?_
          refine Ev.g (c := (kd 1).1 = 10 + 4 ∧ (xf_k 4 5 = 0 ∨ (xf_k 4 5 = 1 ∧ (x1 = 0 ∨ x1 = 1)))) (p1 := 56) (L1 := [.ref 0, .int x1, .int x2, .int x3, .retAddr 0]) (s1 := []) (h1 := hh (xa_u (xa_u S6.1 0 5 ((S6.1 0 5) + 1)) 1 5 x1, S6.2.1, S6.2.2)) 4 (fun n => B_101_12 n x1 x2 x3 S6) (⟨rfl, Or.inl rfl⟩) ?_
          refine Ev.g (c := (2 ≤ (kd 7).1 ∧ (kd 7).1 < xo_n) ∧ xa_in (0 : Int32) (kd 7).2) (p1 := 65) (L1 := [.ref 0, .int x1, .int x2, .int x3, .retAddr 0]) (s1 := [va_rf (RC S6.2.1 S6.2.2 7 ((0 : Int32)).toNatClampNeg)]) (h1 := hh (xa_u (xa_u S6.1 0 5 ((S6.1 0 5) + 1)) 1 5 x1, S6.2.1, S6.2.2)) 5 (fun n => B_101_13 n x1 x2 x3 S6) ⟨⟨by decide, by decide⟩, (by decide)⟩ ?_
          rw [RC_7 (xa_lt (n := 4) (by decide))]
          show Ev X _ 101 65 [.ref 0, .int x1, .int x2, .int x3, .retAddr 0] [.ref 11] (hh (xa_u (xa_u S6.1 0 5 ((S6.1 0 5) + 1)) 1 5 x1, S6.2.1, S6.2.2)) _
          rcases h8 : G_12 (xa_u (xa_u S6.1 0 5 ((S6.1 0 5) + 1)) 1 5 x1, S6.2.1, S6.2.2) 11 x2 with _ | ⟨v8, S8⟩
          · rw [h8] at hG; cases hG
          rw [h8] at hG
          dsimp only at hG
          refine Ev.c (a := 12) (A := [.ref 11, .int x2]) (h1 := hh (xa_u (xa_u S6.1 0 5 ((S6.1 0 5) + 1)) 1 5 x1, S6.2.1, S6.2.2)) (pc' := 69) (L' := [.ref 0, .int x1, .int x2, .int x3, .retAddr 0]) (rest := []) (r1 := none) (h2 := hh S8) 2 (fun n => B_101_14 n x1 x2 x3 S6) (Ev.up (by decide) (T_12 (xa_u (xa_u S6.1 0 5 ((S6.1 0 5) + 1)) 1 5 x1, S6.2.1, S6.2.2) 11 x2 _ _ h8)) ?_
          show Ev X _ 101 69 [.ref 0, .int x1, .int x2, .int x3, .retAddr 0] [] (hh S8) _
          rcases h9 : G_72 S8 (S8.1 0 0) with _ | ⟨v9, S9⟩
          · rw [h9] at hG; cases hG
          rw [h9] at hG
          dsimp only at hG
          refine Ev.c (a := 72) (A := [.ref 23, .ref 1, .int (S8.1 0 0), .retAddr 0, .retAddr 0]) (h1 := hh S8) (pc' := 84) (L' := [.ref 0, .int x1, .int x2, .int x3, .retAddr 0]) (rest := []) (r1 := some (.int v9)) (h2 := hh S9) 7 (fun n => B_101_15 n x1 x2 x3 S8) (Ev.up (by decide) (T_72 S8 (S8.1 0 0) _ _ h9)) ?_
          show Ev X _ 101 84 [.ref 0, .int x1, .int x2, .int x3, .retAddr 0] [.int v9] (hh S9) _
          by_cases c10 : v9 = 0
          · rw [if_pos c10] at hG
            refine Ev.t (c := v9 = 0) (p1 := 99) (L1 := [.ref 0, .int x1, .int x2, .int x3, .int v9]) (s1 := []) (h1 := hh S9) (p2 := 91) (L2 := [.ref 0, .int x1, .int x2, .int x3, .int v9]) (s2 := []) (h2 := hh S9) 3 (fun n => B_101_16 n x1 x2 x3 v9 S9) c10 ?_
            rcases h11 : G_85 S9 x3 with _ | ⟨v11, S11⟩
            · rw [h11] at hG; cases hG
            rw [h11] at hG
            dsimp only at hG
            refine Ev.c (a := 85) (A := [.ref 1, .int x3, .retAddr 0, .retAddr 0]) (h1 := hh S9) (pc' := 107) (L' := [.ref 0, .int x1, .int x2, .int x3, .int v9]) (rest := []) (r1 := none) (h2 := hh S11) 4 (fun n => B_101_17 n x1 x2 x3 v9 S9) (Ev.up (by decide) (T_85 S9 x3 _ _ h11)) ?_
            show Ev X _ 101 107 [.ref 0, .int x1, .int x2, .int x3, .int v9] [] (hh S11) _
            obtain ⟨e1, e2⟩ := Prod.mk.inj (Option.some.inj hG)
            subst e1
            subst e2
            exact Ev.r 4 (fun n => rfl)
          · rw [if_neg c10] at hG
            refine Ev.f (c := v9 = 0) (p1 := 99) (L1 := [.ref 0, .int x1, .int x2, .int x3, .int v9]) (s1 := []) (h1 := hh S9) (p2 := 91) (L2 := [.ref 0, .int x1, .int x2, .int x3, .int v9]) (s2 := []) (h2 := hh S9) 3 (fun n => B_101_18 n x1 x2 x3 v9 S9) c10 ?_
            refine Ev.g (c := (kd 0).1 = 10 + 7 ∧ (xf_k 7 6 = 0 ∨ (xf_k 7 6 = 1 ∧ ((1 : Int32) = 0 ∨ (1 : Int32) = 1)))) (p1 := 96) (L1 := [.ref 0, .int x1, .int x2, .int x3, .int v9]) (s1 := []) (h1 := hh (xa_u S9.1 0 6 1, S9.2.1, S9.2.2)) 3 (fun n => B_101_19 n x1 x2 x3 v9 S9) (⟨rfl, Or.inr ⟨rfl, by decide⟩⟩) ?_
            obtain ⟨e1, e2⟩ := Prod.mk.inj (Option.some.inj hG)
            subst e1
            subst e2
            exact Ev.r 2 (fun n => rfl)
  · rw [if_neg c1] at hG
    refine Ev.f (c := (S.1 0 6) = 0) (p1 := 7) (L1 := [.ref 0, .int x1, .int x2, .int x3, .retAddr 0]) (s1 := []) (h1 := hh S) (p2 := 36) (L2 := [.ref 0, .int x1, .int x2, .int x3, .retAddr 0]) (s2 := []) (h2 := hh S) 3 (fun n => B_101_20 n x1 x2 x3 S) c1 ?_
    obtain ⟨e1, e2⟩ := Prod.mk.inj (Option.some.inj hG)
    subst e1
    subst e2
    exact Ev.r 2 (fun n => rfl)
