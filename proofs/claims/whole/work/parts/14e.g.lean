/-- 90: SceneCycle$Motion.step(LSceneCycle$World;I)V -/
def G_90 (S : St) (x1 : Int32) : Option (Unit × St) :=
  (if xa_in x1 4 then
    (if (kd (11 + (x1).toNatClampNeg)).1 = 10 + 0 then
      (if ((xa_u S.1 (11 + (x1).toNatClampNeg) 9 0) (11 + (x1).toNatClampNeg) 4) = 0 then
        some ((), (xa_u S.1 (11 + (x1).toNatClampNeg) 9 0, S.2.1, S.2.2))
      else
        (match G_91 (xa_u S.1 (11 + (x1).toNatClampNeg) 9 0, S.2.1, S.2.2) ((xa_u S.1 (11 + (x1).toNatClampNeg) 9 0) (11 + (x1).toNatClampNeg) 4) with
        | none => none
        | some (v4, S4) =>
          (match G_92 S4 (S4.1 (11 + (x1).toNatClampNeg) 4) with
          | none => none
          | some (v5, S5) =>
            (match G_93 S5 (((xa_u S.1 (11 + (x1).toNatClampNeg) 9 0) (11 + (x1).toNatClampNeg) 0) + v4) ((S4.1 (11 + (x1).toNatClampNeg) 1) + v5) (S5.1 (11 + (x1).toNatClampNeg) 2) with
            | none => none
            | some (v6, S6) =>
              (if v6 = 0 then
                (match G_94 S6 (11 + (x1).toNatClampNeg) (((xa_u S.1 (11 + (x1).toNatClampNeg) 9 0) (11 + (x1).toNatClampNeg) 0) + v4) ((S4.1 (11 + (x1).toNatClampNeg) 1) + v5) with
                | none => none
                | some (v8, S8) =>
                  (if v8 = 0 then
                    (match G_95 S8 x1 (((xa_u S.1 (11 + (x1).toNatClampNeg) 9 0) (11 + (x1).toNatClampNeg) 0) + v4) ((S4.1 (11 + (x1).toNatClampNeg) 1) + v5) with
                    | none => none
                    | some (v10, S10) =>
                      (if v10 = 0 then
                        some ((), (xa_u (xa_u (xa_u S10.1 (11 + (x1).toNatClampNeg) 0 (((xa_u S.1 (11 + (x1).toNatClampNeg) 9 0) (11 + (x1).toNatClampNeg) 0) + v4)) (11 + (x1).toNatClampNeg) 1 ((S4.1 (11 + (x1).toNatClampNeg) 1) + v5)) (11 + (x1).toNatClampNeg) 9 1, S10.2.1, S10.2.2))
                      else
                        (if (S10.1 (11 + (x1).toNatClampNeg) 5) = 3 then
                          (if x1 = 0 then
                            some ((), S10)
                          else
                            some ((), S10)
                          )
                        else
                          (if x1 = 0 then
                            some ((), (xa_u S10.1 (11 + (x1).toNatClampNeg) 4 0, S10.2.1, S10.2.2))
                          else
                            some ((), (xa_u S10.1 (11 + (x1).toNatClampNeg) 4 0, S10.2.1, S10.2.2))
                          )
                        )
                      )
                    )
                  else
                    (if (S8.1 (11 + (x1).toNatClampNeg) 5) = 3 then
                      (if x1 = 0 then
                        some ((), S8)
                      else
                        some ((), S8)
                      )
                    else
                      (if x1 = 0 then
                        some ((), (xa_u S8.1 (11 + (x1).toNatClampNeg) 4 0, S8.2.1, S8.2.2))
                      else
                        some ((), (xa_u S8.1 (11 + (x1).toNatClampNeg) 4 0, S8.2.1, S8.2.2))
                      )
                    )
                  )
                )
              else
                (if (S6.1 (11 + (x1).toNatClampNeg) 5) = 3 then
                  (if x1 = 0 then
                    (match G_51 S6 (0 : Int32) v6 with
                    | none => none
                    | some (v20, S20) =>
                      some ((), S20)
                    )
                  else
                    some ((), S6)
                  )
                else
                  (if x1 = 0 then
                    (match G_51 (xa_u S6.1 (11 + (x1).toNatClampNeg) 4 0, S6.2.1, S6.2.2) (0 : Int32) v6 with
                    | none => none
                    | some (v22, S22) =>
                      some ((), S22)
                    )
                  else
                    some ((), (xa_u S6.1 (11 + (x1).toNatClampNeg) 4 0, S6.2.1, S6.2.2))
                  )
                )
              )
            )
          )
        )
      )
    else none)
  else none)
theorem B_90_1 {X : Nat × (Nat → Int32)} {d : Nat} (n : Nat) (x1 : Int32) (S : St) : ex X d 90 0 [.ref 1, .int x1, .retAddr 0, .retAddr 0, .retAddr 0, .retAddr 0] [] (hh S) (n + 4) = if (2 ≤ (kd 7).1 ∧ (kd 7).1 < xo_n) ∧ xa_in x1 (kd 7).2 then ex X d 90 6 [.ref 1, .int x1, .retAddr 0, .retAddr 0, .retAddr 0, .retAddr 0] [va_rf (RC S.2.1 S.2.2 7 (x1).toNatClampNeg)] (hh S) n else none := rfl
theorem B_90_2 {X : Nat × (Nat → Int32)} {d : Nat} (n : Nat) (x1 : Int32) (S : St) : ex X d 90 6 [.ref 1, .int x1, .retAddr 0, .retAddr 0, .retAddr 0, .retAddr 0] [.ref (11 + (x1).toNatClampNeg)] (hh S) (n + 4) = if (kd (11 + (x1).toNatClampNeg)).1 = 10 + 0 ∧ (xf_k 0 9 = 0 ∨ (xf_k 0 9 = 1 ∧ ((0 : Int32) = 0 ∨ (0 : Int32) = 1))) then ex X d 90 12 [.ref 1, .int x1, .ref (11 + (x1).toNatClampNeg), .retAddr 0, .retAddr 0, .retAddr 0] [] (hh (xa_u S.1 (11 + (x1).toNatClampNeg) 9 0, S.2.1, S.2.2)) n else none := rfl
theorem B_90_3 {X : Nat × (Nat → Int32)} {d : Nat} (n : Nat) (x1 : Int32) (S : St) : ex X d 90 12 [.ref 1, .int x1, .ref (11 + (x1).toNatClampNeg), .retAddr 0, .retAddr 0, .retAddr 0] [] (hh (xa_u S.1 (11 + (x1).toNatClampNeg) 9 0, S.2.1, S.2.2)) (n + 2) = if (kd (11 + (x1).toNatClampNeg)).1 = 10 + 0 then ex X d 90 16 [.ref 1, .int x1, .ref (11 + (x1).toNatClampNeg), .retAddr 0, .retAddr 0, .retAddr 0] [.int ((xa_u S.1 (11 + (x1).toNatClampNeg) 9 0) (11 + (x1).toNatClampNeg) 4)] (hh (xa_u S.1 (11 + (x1).toNatClampNeg) 9 0, S.2.1, S.2.2)) n else none := rfl
theorem B_90_4 {X : Nat × (Nat → Int32)} {d : Nat} (n : Nat) (x1 : Int32) (S : St) : ex X d 90 16 [.ref 1, .int x1, .ref (11 + (x1).toNatClampNeg), .retAddr 0, .retAddr 0, .retAddr 0] [.int ((xa_u S.1 (11 + (x1).toNatClampNeg) 9 0) (11 + (x1).toNatClampNeg) 4)] (hh (xa_u S.1 (11 + (x1).toNatClampNeg) 9 0, S.2.1, S.2.2)) (n + 1) = if ((xa_u S.1 (11 + (x1).toNatClampNeg) 9 0) (11 + (x1).toNatClampNeg) 4) = 0 then ex X d 90 19 [.ref 1, .int x1, .ref (11 + (x1).toNatClampNeg), .retAddr 0, .retAddr 0, .retAddr 0] [] (hh (xa_u S.1 (11 + (x1).toNatClampNeg) 9 0, S.2.1, S.2.2)) n else ex X d 90 20 [.ref 1, .int x1, .ref (11 + (x1).toNatClampNeg), .retAddr 0, .retAddr 0, .retAddr 0] [] (hh (xa_u S.1 (11 + (x1).toNatClampNeg) 9 0, S.2.1, S.2.2)) n := rfl
theorem B_90_5 {X : Nat × (Nat → Int32)} {d : Nat} (n : Nat) (x1 : Int32) (S : St) : ex X d 90 16 [.ref 1, .int x1, .ref (11 + (x1).toNatClampNeg), .retAddr 0, .retAddr 0, .retAddr 0] [.int ((xa_u S.1 (11 + (x1).toNatClampNeg) 9 0) (11 + (x1).toNatClampNeg) 4)] (hh (xa_u S.1 (11 + (x1).toNatClampNeg) 9 0, S.2.1, S.2.2)) (n + 1) = if ((xa_u S.1 (11 + (x1).toNatClampNeg) 9 0) (11 + (x1).toNatClampNeg) 4) = 0 then ex X d 90 19 [.ref 1, .int x1, .ref (11 + (x1).toNatClampNeg), .retAddr 0, .retAddr 0, .retAddr 0] [] (hh (xa_u S.1 (11 + (x1).toNatClampNeg) 9 0, S.2.1, S.2.2)) n else ex X d 90 20 [.ref 1, .int x1, .ref (11 + (x1).toNatClampNeg), .retAddr 0, .retAddr 0, .retAddr 0] [] (hh (xa_u S.1 (11 + (x1).toNatClampNeg) 9 0, S.2.1, S.2.2)) n := rfl
theorem B_90_6 {X : Nat × (Nat → Int32)} {d : Nat} (n : Nat) (x1 : Int32) (S : St) : ex X d 90 20 [.ref 1, .int x1, .ref (11 + (x1).toNatClampNeg), .retAddr 0, .retAddr 0, .retAddr 0] [] (hh (xa_u S.1 (11 + (x1).toNatClampNeg) 9 0, S.2.1, S.2.2)) (n + 2) = if (kd (11 + (x1).toNatClampNeg)).1 = 10 + 0 then ex X d 90 24 [.ref 1, .int x1, .ref (11 + (x1).toNatClampNeg), .retAddr 0, .retAddr 0, .retAddr 0] [.int ((xa_u S.1 (11 + (x1).toNatClampNeg) 9 0) (11 + (x1).toNatClampNeg) 0)] (hh (xa_u S.1 (11 + (x1).toNatClampNeg) 9 0, S.2.1, S.2.2)) n else none := rfl
theorem B_90_7 {X : Nat × (Nat → Int32)} {d : Nat} (n : Nat) (x1 : Int32) (S : St) : ex X d 90 24 [.ref 1, .int x1, .ref (11 + (x1).toNatClampNeg), .retAddr 0, .retAddr 0, .retAddr 0] [.int ((xa_u S.1 (11 + (x1).toNatClampNeg) 9 0) (11 + (x1).toNatClampNeg) 0)] (hh (xa_u S.1 (11 + (x1).toNatClampNeg) 9 0, S.2.1, S.2.2)) (n + 2) = if (kd (11 + (x1).toNatClampNeg)).1 = 10 + 0 then ex X d 90 28 [.ref 1, .int x1, .ref (11 + (x1).toNatClampNeg), .retAddr 0, .retAddr 0, .retAddr 0] [.int ((xa_u S.1 (11 + (x1).toNatClampNeg) 9 0) (11 + (x1).toNatClampNeg) 4), .int ((xa_u S.1 (11 + (x1).toNatClampNeg) 9 0) (11 + (x1).toNatClampNeg) 0)] (hh (xa_u S.1 (11 + (x1).toNatClampNeg) 9 0, S.2.1, S.2.2)) n else none := rfl
theorem B_90_8 {X : Nat × (Nat → Int32)} {d : Nat} (n : Nat) (x1 : Int32) (S : St) : ex X (d + 1) 90 28 [.ref 1, .int x1, .ref (11 + (x1).toNatClampNeg), .retAddr 0, .retAddr 0, .retAddr 0] [.int ((xa_u S.1 (11 + (x1).toNatClampNeg) 9 0) (11 + (x1).toNatClampNeg) 4), .int ((xa_u S.1 (11 + (x1).toNatClampNeg) 9 0) (11 + (x1).toNatClampNeg) 0)] (hh (xa_u S.1 (11 + (x1).toNatClampNeg) 9 0, S.2.1, S.2.2)) (n + 1) = (match ex X d 91 0 [.int ((xa_u S.1 (11 + (x1).toNatClampNeg) 9 0) (11 + (x1).toNatClampNeg) 4)] [] (hh (xa_u S.1 (11 + (x1).toNatClampNeg) 9 0, S.2.1, S.2.2)) n with | some (v, h') => ex X (d + 1) 90 31 [.ref 1, .int x1, .ref (11 + (x1).toNatClampNeg), .retAddr 0, .retAddr 0, .retAddr 0] (v.toList ++ [.int ((xa_u S.1 (11 + (x1).toNatClampNeg) 9 0) (11 + (x1).toNatClampNeg) 0)]) h' n | none => none) := rfl
theorem B_90_9 {X : Nat × (Nat → Int32)} {d : Nat} (n : Nat) (x1 : Int32) (v4 : Int32) (S : St) (S4 : St) : ex X d 90 31 [.ref 1, .int x1, .ref (11 + (x1).toNatClampNeg), .retAddr 0, .retAddr 0, .retAddr 0] [.int v4, .int ((xa_u S.1 (11 + (x1).toNatClampNeg) 9 0) (11 + (x1).toNatClampNeg) 0)] (hh S4) (n + 4) = if (kd (11 + (x1).toNatClampNeg)).1 = 10 + 0 then ex X d 90 37 [.ref 1, .int x1, .ref (11 + (x1).toNatClampNeg), .int (((xa_u S.1 (11 + (x1).toNatClampNeg) 9 0) (11 + (x1).toNatClampNeg) 0) + v4), .retAddr 0, .retAddr 0] [.int (S4.1 (11 + (x1).toNatClampNeg) 1)] (hh S4) n else none := rfl
theorem B_90_10 {X : Nat × (Nat → Int32)} {d : Nat} (n : Nat) (x1 : Int32) (S : St) (v4 : Int32) (S4 : St) : ex X d 90 37 [.ref 1, .int x1, .ref (11 + (x1).toNatClampNeg), .int (((xa_u S.1 (11 + (x1).toNatClampNeg) 9 0) (11 + (x1).toNatClampNeg) 0) + v4), .retAddr 0, .retAddr 0] [.int (S4.1 (11 + (x1).toNatClampNeg) 1)] (hh S4) (n + 2) = if (kd (11 + (x1).toNatClampNeg)).1 = 10 + 0 then ex X d 90 41 [.ref 1, .int x1, .ref (11 + (x1).toNatClampNeg), .int (((xa_u S.1 (11 + (x1).toNatClampNeg) 9 0) (11 + (x1).toNatClampNeg) 0) + v4), .retAddr 0, .retAddr 0] [.int (S4.1 (11 + (x1).toNatClampNeg) 4), .int (S4.1 (11 + (x1).toNatClampNeg) 1)] (hh S4) n else none := rfl
theorem B_90_11 {X : Nat × (Nat → Int32)} {d : Nat} (n : Nat) (x1 : Int32) (S : St) (v4 : Int32) (S4 : St) : ex X (d + 1) 90 41 [.ref 1, .int x1, .ref (11 + (x1).toNatClampNeg), .int (((xa_u S.1 (11 + (x1).toNatClampNeg) 9 0) (11 + (x1).toNatClampNeg) 0) + v4), .retAddr 0, .retAddr 0] [.int (S4.1 (11 + (x1).toNatClampNeg) 4), .int (S4.1 (11 + (x1).toNatClampNeg) 1)] (hh S4) (n + 1) = (match ex X d 92 0 [.int (S4.1 (11 + (x1).toNatClampNeg) 4)] [] (hh S4) n with | some (v, h') => ex X (d + 1) 90 44 [.ref 1, .int x1, .ref (11 + (x1).toNatClampNeg), .int (((xa_u S.1 (11 + (x1).toNatClampNeg) 9 0) (11 + (x1).toNatClampNeg) 0) + v4), .retAddr 0, .retAddr 0] (v.toList ++ [.int (S4.1 (11 + (x1).toNatClampNeg) 1)]) h' n | none => none) := rfl
theorem B_90_12 {X : Nat × (Nat → Int32)} {d : Nat} (n : Nat) (x1 : Int32) (S : St) (v4 : Int32) (v5 : Int32) (S4 : St) (S5 : St) : ex X d 90 44 [.ref 1, .int x1, .ref (11 + (x1).toNatClampNeg), .int (((xa_u S.1 (11 + (x1).toNatClampNeg) 9 0) (11 + (x1).toNatClampNeg) 0) + v4), .retAddr 0, .retAddr 0] [.int v5, .int (S4.1 (11 + (x1).toNatClampNeg) 1)] (hh S5) (n + 6) = if (kd (11 + (x1).toNatClampNeg)).1 = 10 + 0 then ex X d 90 54 [.ref 1, .int x1, .ref (11 + (x1).toNatClampNeg), .int (((xa_u S.1 (11 + (x1).toNatClampNeg) 9 0) (11 + (x1).toNatClampNeg) 0) + v4), .int ((S4.1 (11 + (x1).toNatClampNeg) 1) + v5), .retAddr 0] [.int (S5.1 (11 + (x1).toNatClampNeg) 2), .int ((S4.1 (11 + (x1).toNatClampNeg) 1) + v5), .int (((xa_u S.1 (11 + (x1).toNatClampNeg) 9 0) (11 + (x1).toNatClampNeg) 0) + v4)] (hh S5) n else none := rfl
theorem B_90_13 {X : Nat × (Nat → Int32)} {d : Nat} (n : Nat) (x1 : Int32) (S : St) (v4 : Int32) (S4 : St) (v5 : Int32) (S5 : St) : ex X (d + 1) 90 54 [.ref 1, .int x1, .ref (11 + (x1).toNatClampNeg), .int (((xa_u S.1 (11 + (x1).toNatClampNeg) 9 0) (11 + (x1).toNatClampNeg) 0) + v4), .int ((S4.1 (11 + (x1).toNatClampNeg) 1) + v5), .retAddr 0] [.int (S5.1 (11 + (x1).toNatClampNeg) 2), .int ((S4.1 (11 + (x1).toNatClampNeg) 1) + v5), .int (((xa_u S.1 (11 + (x1).toNatClampNeg) 9 0) (11 + (x1).toNatClampNeg) 0) + v4)] (hh S5) (n + 1) = (match ex X d 93 0 [.int (((xa_u S.1 (11 + (x1).toNatClampNeg) 9 0) (11 + (x1).toNatClampNeg) 0) + v4), .int ((S4.1 (11 + (x1).toNatClampNeg) 1) + v5), .int (S5.1 (11 + (x1).toNatClampNeg) 2)] [] (hh S5) n with | some (v, h') => ex X (d + 1) 90 57 [.ref 1, .int x1, .ref (11 + (x1).toNatClampNeg), .int (((xa_u S.1 (11 + (x1).toNatClampNeg) 9 0) (11 + (x1).toNatClampNeg) 0) + v4), .int ((S4.1 (11 + (x1).toNatClampNeg) 1) + v5), .retAddr 0] (v.toList ++ []) h' n | none => none) := rfl
theorem B_90_14 {X : Nat × (Nat → Int32)} {d : Nat} (n : Nat) (x1 : Int32) (S : St) (v4 : Int32) (S4 : St) (v5 : Int32) (v6 : Int32) (S6 : St) : ex X d 90 57 [.ref 1, .int x1, .ref (11 + (x1).toNatClampNeg), .int (((xa_u S.1 (11 + (x1).toNatClampNeg) 9 0) (11 + (x1).toNatClampNeg) 0) + v4), .int ((S4.1 (11 + (x1).toNatClampNeg) 1) + v5), .retAddr 0] [.int v6] (hh S6) (n + 3) = if v6 = 0 then ex X d 90 64 [.ref 1, .int x1, .ref (11 + (x1).toNatClampNeg), .int (((xa_u S.1 (11 + (x1).toNatClampNeg) 9 0) (11 + (x1).toNatClampNeg) 0) + v4), .int ((S4.1 (11 + (x1).toNatClampNeg) 1) + v5), .int v6] [] (hh S6) n else ex X d 90 106 [.ref 1, .int x1, .ref (11 + (x1).toNatClampNeg), .int (((xa_u S.1 (11 + (x1).toNatClampNeg) 9 0) (11 + (x1).toNatClampNeg) 0) + v4), .int ((S4.1 (11 + (x1).toNatClampNeg) 1) + v5), .int v6] [] (hh S6) n := rfl
theorem B_90_15 {X : Nat × (Nat → Int32)} {d : Nat} (n : Nat) (x1 : Int32) (S : St) (v4 : Int32) (S4 : St) (v5 : Int32) (v6 : Int32) (S6 : St) : ex X (d + 1) 90 64 [.ref 1, .int x1, .ref (11 + (x1).toNatClampNeg), .int (((xa_u S.1 (11 + (x1).toNatClampNeg) 9 0) (11 + (x1).toNatClampNeg) 0) + v4), .int ((S4.1 (11 + (x1).toNatClampNeg) 1) + v5), .int v6] [] (hh S6) (n + 6) = (match ex X d 94 0 [.ref 2, .ref (11 + (x1).toNatClampNeg), .int (((xa_u S.1 (11 + (x1).toNatClampNeg) 9 0) (11 + (x1).toNatClampNeg) 0) + v4), .int ((S4.1 (11 + (x1).toNatClampNeg) 1) + v5)] [] (hh S6) n with | some (v, h') => ex X (d + 1) 90 75 [.ref 1, .int x1, .ref (11 + (x1).toNatClampNeg), .int (((xa_u S.1 (11 + (x1).toNatClampNeg) 9 0) (11 + (x1).toNatClampNeg) 0) + v4), .int ((S4.1 (11 + (x1).toNatClampNeg) 1) + v5), .int v6] (v.toList ++ []) h' n | none => none) := rfl
theorem B_90_16 {X : Nat × (Nat → Int32)} {d : Nat} (n : Nat) (x1 : Int32) (S : St) (v4 : Int32) (S4 : St) (v5 : Int32) (v6 : Int32) (v8 : Int32) (S8 : St) : ex X d 90 75 [.ref 1, .int x1, .ref (11 + (x1).toNatClampNeg), .int (((xa_u S.1 (11 + (x1).toNatClampNeg) 9 0) (11 + (x1).toNatClampNeg) 0) + v4), .int ((S4.1 (11 + (x1).toNatClampNeg) 1) + v5), .int v6] [.int v8] (hh S8) (n + 1) = if v8 = 0 then ex X d 90 78 [.ref 1, .int x1, .ref (11 + (x1).toNatClampNeg), .int (((xa_u S.1 (11 + (x1).toNatClampNeg) 9 0) (11 + (x1).toNatClampNeg) 0) + v4), .int ((S4.1 (11 + (x1).toNatClampNeg) 1) + v5), .int v6] [] (hh S8) n else ex X d 90 106 [.ref 1, .int x1, .ref (11 + (x1).toNatClampNeg), .int (((xa_u S.1 (11 + (x1).toNatClampNeg) 9 0) (11 + (x1).toNatClampNeg) 0) + v4), .int ((S4.1 (11 + (x1).toNatClampNeg) 1) + v5), .int v6] [] (hh S8) n := rfl
theorem B_90_17 {X : Nat × (Nat → Int32)} {d : Nat} (n : Nat) (x1 : Int32) (S : St) (v4 : Int32) (S4 : St) (v5 : Int32) (v6 : Int32) (S8 : St) : ex X (d + 1) 90 78 [.ref 1, .int x1, .ref (11 + (x1).toNatClampNeg), .int (((xa_u S.1 (11 + (x1).toNatClampNeg) 9 0) (11 + (x1).toNatClampNeg) 0) + v4), .int ((S4.1 (11 + (x1).toNatClampNeg) 1) + v5), .int v6] [] (hh S8) (n + 5) = (match ex X d 95 0 [.ref 1, .int x1, .int (((xa_u S.1 (11 + (x1).toNatClampNeg) 9 0) (11 + (x1).toNatClampNeg) 0) + v4), .int ((S4.1 (11 + (x1).toNatClampNeg) 1) + v5), .retAddr 0, .retAddr 0, .retAddr 0] [] (hh S8) n with | some (v, h') => ex X (d + 1) 90 86 [.ref 1, .int x1, .ref (11 + (x1).toNatClampNeg), .int (((xa_u S.1 (11 + (x1).toNatClampNeg) 9 0) (11 + (x1).toNatClampNeg) 0) + v4), .int ((S4.1 (11 + (x1).toNatClampNeg) 1) + v5), .int v6] (v.toList ++ []) h' n | none => none) := rfl
theorem B_90_18 {X : Nat × (Nat → Int32)} {d : Nat} (n : Nat) (x1 : Int32) (S : St) (v4 : Int32) (S4 : St) (v5 : Int32) (v6 : Int32) (v10 : Int32) (S10 : St) : ex X d 90 86 [.ref 1, .int x1, .ref (11 + (x1).toNatClampNeg), .int (((xa_u S.1 (11 + (x1).toNatClampNeg) 9 0) (11 + (x1).toNatClampNeg) 0) + v4), .int ((S4.1 (11 + (x1).toNatClampNeg) 1) + v5), .int v6] [.int v10] (hh S10) (n + 1) = if v10 = 0 then ex X d 90 89 [.ref 1, .int x1, .ref (11 + (x1).toNatClampNeg), .int (((xa_u S.1 (11 + (x1).toNatClampNeg) 9 0) (11 + (x1).toNatClampNeg) 0) + v4), .int ((S4.1 (11 + (x1).toNatClampNeg) 1) + v5), .int v6] [] (hh S10) n else ex X d 90 106 [.ref 1, .int x1, .ref (11 + (x1).toNatClampNeg), .int (((xa_u S.1 (11 + (x1).toNatClampNeg) 9 0) (11 + (x1).toNatClampNeg) 0) + v4), .int ((S4.1 (11 + (x1).toNatClampNeg) 1) + v5), .int v6] [] (hh S10) n := rfl
theorem B_90_19 {X : Nat × (Nat → Int32)} {d : Nat} (n : Nat) (x1 : Int32) (S : St) (v4 : Int32) (S4 : St) (v5 : Int32) (v6 : Int32) (S10 : St) : ex X d 90 89 [.ref 1, .int x1, .ref (11 + (x1).toNatClampNeg), .int (((xa_u S.1 (11 + (x1).toNatClampNeg) 9 0) (11 + (x1).toNatClampNeg) 0) + v4), .int ((S4.1 (11 + (x1).toNatClampNeg) 1) + v5), .int v6] [] (hh S10) (n + 3) = if (kd (11 + (x1).toNatClampNeg)).1 = 10 + 0 ∧ (xf_k 0 0 = 0 ∨ (xf_k 0 0 = 1 ∧ ((((xa_u S.1 (11 + (x1).toNatClampNeg) 9 0) (11 + (x1).toNatClampNeg) 0) + v4) = 0 ∨ (((xa_u S.1 (11 + (x1).toNatClampNeg) 9 0) (11 + (x1).toNatClampNeg) 0) + v4) = 1))) then ex X d 90 94 [.ref 1, .int x1, .ref (11 + (x1).toNatClampNeg), .int (((xa_u S.1 (11 + (x1).toNatClampNeg) 9 0) (11 + (x1).toNatClampNeg) 0) + v4), .int ((S4.1 (11 + (x1).toNatClampNeg) 1) + v5), .int v6] [] (hh (xa_u S10.1 (11 + (x1).toNatClampNeg) 0 (((xa_u S.1 (11 + (x1).toNatClampNeg) 9 0) (11 + (x1).toNatClampNeg) 0) + v4), S10.2.1, S10.2.2)) n else none := rfl
theorem B_90_20 {X : Nat × (Nat → Int32)} {d : Nat} (n : Nat) (x1 : Int32) (S : St) (v4 : Int32) (S4 : St) (v5 : Int32) (v6 : Int32) (S10 : St) : ex X d 90 94 [.ref 1, .int x1, .ref (11 + (x1).toNatClampNeg), .int (((xa_u S.1 (11 + (x1).toNatClampNeg) 9 0) (11 + (x1).toNatClampNeg) 0) + v4), .int ((S4.1 (11 + (x1).toNatClampNeg) 1) + v5), .int v6] [] (hh (xa_u S10.1 (11 + (x1).toNatClampNeg) 0 (((xa_u S.1 (11 + (x1).toNatClampNeg) 9 0) (11 + (x1).toNatClampNeg) 0) + v4), S10.2.1, S10.2.2)) (n + 3) = if (kd (11 + (x1).toNatClampNeg)).1 = 10 + 0 ∧ (xf_k 0 1 = 0 ∨ (xf_k 0 1 = 1 ∧ (((S4.1 (11 + (x1).toNatClampNeg) 1) + v5) = 0 ∨ ((S4.1 (11 + (x1).toNatClampNeg) 1) + v5) = 1))) then ex X d 90 100 [.ref 1, .int x1, .ref (11 + (x1).toNatClampNeg), .int (((xa_u S.1 (11 + (x1).toNatClampNeg) 9 0) (11 + (x1).toNatClampNeg) 0) + v4), .int ((S4.1 (11 + (x1).toNatClampNeg) 1) + v5), .int v6] [] (hh (xa_u (xa_u S10.1 (11 + (x1).toNatClampNeg) 0 (((xa_u S.1 (11 + (x1).toNatClampNeg) 9 0) (11 + (x1).toNatClampNeg) 0) + v4)) (11 + (x1).toNatClampNeg) 1 ((S4.1 (11 + (x1).toNatClampNeg) 1) + v5), S10.2.1, S10.2.2)) n else none := rfl
theorem B_90_21 {X : Nat × (Nat → Int32)} {d : Nat} (n : Nat) (x1 : Int32) (S : St) (v4 : Int32) (S4 : St) (v5 : Int32) (v6 : Int32) (S10 : St) : ex X d 90 100 [.ref 1, .int x1, .ref (11 + (x1).toNatClampNeg), .int (((xa_u S.1 (11 + (x1).toNatClampNeg) 9 0) (11 + (x1).toNatClampNeg) 0) + v4), .int ((S4.1 (11 + (x1).toNatClampNeg) 1) + v5), .int v6] [] (hh (xa_u (xa_u S10.1 (11 + (x1).toNatClampNeg) 0 (((xa_u S.1 (11 + (x1).toNatClampNeg) 9 0) (11 + (x1).toNatClampNeg) 0) + v4)) (11 + (x1).toNatClampNeg) 1 ((S4.1 (11 + (x1).toNatClampNeg) 1) + v5), S10.2.1, S10.2.2)) (n + 3) = if (kd (11 + (x1).toNatClampNeg)).1 = 10 + 0 ∧ (xf_k 0 9 = 0 ∨ (xf_k 0 9 = 1 ∧ ((1 : Int32) = 0 ∨ (1 : Int32) = 1))) then ex X d 90 105 [.ref 1, .int x1, .ref (11 + (x1).toNatClampNeg), .int (((xa_u S.1 (11 + (x1).toNatClampNeg) 9 0) (11 + (x1).toNatClampNeg) 0) + v4), .int ((S4.1 (11 + (x1).toNatClampNeg) 1) + v5), .int v6] [] (hh (xa_u (xa_u (xa_u S10.1 (11 + (x1).toNatClampNeg) 0 (((xa_u S.1 (11 + (x1).toNatClampNeg) 9 0) (11 + (x1).toNatClampNeg) 0) + v4)) (11 + (x1).toNatClampNeg) 1 ((S4.1 (11 + (x1).toNatClampNeg) 1) + v5)) (11 + (x1).toNatClampNeg) 9 1, S10.2.1, S10.2.2)) n else none := rfl
theorem B_90_22 {X : Nat × (Nat → Int32)} {d : Nat} (n : Nat) (x1 : Int32) (S : St) (v4 : Int32) (S4 : St) (v5 : Int32) (v6 : Int32) (v10 : Int32) (S10 : St) : ex X d 90 86 [.ref 1, .int x1, .ref (11 + (x1).toNatClampNeg), .int (((xa_u S.1 (11 + (x1).toNatClampNeg) 9 0) (11 + (x1).toNatClampNeg) 0) + v4), .int ((S4.1 (11 + (x1).toNatClampNeg) 1) + v5), .int v6] [.int v10] (hh S10) (n + 1) = if v10 = 0 then ex X d 90 89 [.ref 1, .int x1, .ref (11 + (x1).toNatClampNeg), .int (((xa_u S.1 (11 + (x1).toNatClampNeg) 9 0) (11 + (x1).toNatClampNeg) 0) + v4), .int ((S4.1 (11 + (x1).toNatClampNeg) 1) + v5), .int v6] [] (hh S10) n else ex X d 90 106 [.ref 1, .int x1, .ref (11 + (x1).toNatClampNeg), .int (((xa_u S.1 (11 + (x1).toNatClampNeg) 9 0) (11 + (x1).toNatClampNeg) 0) + v4), .int ((S4.1 (11 + (x1).toNatClampNeg) 1) + v5), .int v6] [] (hh S10) n := rfl
theorem B_90_23 {X : Nat × (Nat → Int32)} {d : Nat} (n : Nat) (x1 : Int32) (S : St) (v4 : Int32) (S4 : St) (v5 : Int32) (v6 : Int32) (S10 : St) : ex X d 90 106 [.ref 1, .int x1, .ref (11 + (x1).toNatClampNeg), .int (((xa_u S.1 (11 + (x1).toNatClampNeg) 9 0) (11 + (x1).toNatClampNeg) 0) + v4), .int ((S4.1 (11 + (x1).toNatClampNeg) 1) + v5), .int v6] [] (hh S10) (n + 2) = if (kd (11 + (x1).toNatClampNeg)).1 = 10 + 0 then ex X d 90 110 [.ref 1, .int x1, .ref (11 + (x1).toNatClampNeg), .int (((xa_u S.1 (11 + (x1).toNatClampNeg) 9 0) (11 + (x1).toNatClampNeg) 0) + v4), .int ((S4.1 (11 + (x1).toNatClampNeg) 1) + v5), .int v6] [.int (S10.1 (11 + (x1).toNatClampNeg) 5)] (hh S10) n else none := rfl
theorem B_90_24 {X : Nat × (Nat → Int32)} {d : Nat} (n : Nat) (x1 : Int32) (S : St) (v4 : Int32) (S4 : St) (v5 : Int32) (v6 : Int32) (S10 : St) : ex X d 90 110 [.ref 1, .int x1, .ref (11 + (x1).toNatClampNeg), .int (((xa_u S.1 (11 + (x1).toNatClampNeg) 9 0) (11 + (x1).toNatClampNeg) 0) + v4), .int ((S4.1 (11 + (x1).toNatClampNeg) 1) + v5), .int v6] [.int (S10.1 (11 + (x1).toNatClampNeg) 5)] (hh S10) (n + 2) = if (S10.1 (11 + (x1).toNatClampNeg) 5) = 3 then ex X d 90 119 [.ref 1, .int x1, .ref (11 + (x1).toNatClampNeg), .int (((xa_u S.1 (11 + (x1).toNatClampNeg) 9 0) (11 + (x1).toNatClampNeg) 0) + v4), .int ((S4.1 (11 + (x1).toNatClampNeg) 1) + v5), .int v6] [] (hh S10) n else ex X d 90 114 [.ref 1, .int x1, .ref (11 + (x1).toNatClampNeg), .int (((xa_u S.1 (11 + (x1).toNatClampNeg) 9 0) (11 + (x1).toNatClampNeg) 0) + v4), .int ((S4.1 (11 + (x1).toNatClampNeg) 1) + v5), .int v6] [] (hh S10) n := rfl
theorem B_90_25 {X : Nat × (Nat → Int32)} {d : Nat} (n : Nat) (x1 : Int32) (S : St) (v4 : Int32) (S4 : St) (v5 : Int32) (v6 : Int32) (S10 : St) : ex X d 90 119 [.ref 1, .int x1, .ref (11 + (x1).toNatClampNeg), .int (((xa_u S.1 (11 + (x1).toNatClampNeg) 9 0) (11 + (x1).toNatClampNeg) 0) + v4), .int ((S4.1 (11 + (x1).toNatClampNeg) 1) + v5), .int v6] [] (hh S10) (n + 2) = if x1 = 0 then ex X d 90 123 [.ref 1, .int x1, .ref (11 + (x1).toNatClampNeg), .int (((xa_u S.1 (11 + (x1).toNatClampNeg) 9 0) (11 + (x1).toNatClampNeg) 0) + v4), .int ((S4.1 (11 + (x1).toNatClampNeg) 1) + v5), .int v6] [] (hh S10) n else ex X d 90 136 [.ref 1, .int x1, .ref (11 + (x1).toNatClampNeg), .int (((xa_u S.1 (11 + (x1).toNatClampNeg) 9 0) (11 + (x1).toNatClampNeg) 0) + v4), .int ((S4.1 (11 + (x1).toNatClampNeg) 1) + v5), .int v6] [] (hh S10) n := rfl
theorem B_90_26 {X : Nat × (Nat → Int32)} {d : Nat} (n : Nat) (x1 : Int32) (S : St) (v4 : Int32) (S4 : St) (v5 : Int32) (v6 : Int32) (S10 : St) : ex X d 90 123 [.ref 1, .int x1, .ref (11 + (x1).toNatClampNeg), .int (((xa_u S.1 (11 + (x1).toNatClampNeg) 9 0) (11 + (x1).toNatClampNeg) 0) + v4), .int ((S4.1 (11 + (x1).toNatClampNeg) 1) + v5), .int v6] [] (hh S10) (n + 2) = if v6 = 0 then ex X d 90 136 [.ref 1, .int x1, .ref (11 + (x1).toNatClampNeg), .int (((xa_u S.1 (11 + (x1).toNatClampNeg) 9 0) (11 + (x1).toNatClampNeg) 0) + v4), .int ((S4.1 (11 + (x1).toNatClampNeg) 1) + v5), .int v6] [] (hh S10) n else ex X d 90 128 [.ref 1, .int x1, .ref (11 + (x1).toNatClampNeg), .int (((xa_u S.1 (11 + (x1).toNatClampNeg) 9 0) (11 + (x1).toNatClampNeg) 0) + v4), .int ((S4.1 (11 + (x1).toNatClampNeg) 1) + v5), .int v6] [] (hh S10) n := rfl
theorem B_90_27 {X : Nat × (Nat → Int32)} {d : Nat} (n : Nat) (x1 : Int32) (S : St) (v4 : Int32) (S4 : St) (v5 : Int32) (v6 : Int32) (S10 : St) : ex X d 90 119 [.ref 1, .int x1, .ref (11 + (x1).toNatClampNeg), .int (((xa_u S.1 (11 + (x1).toNatClampNeg) 9 0) (11 + (x1).toNatClampNeg) 0) + v4), .int ((S4.1 (11 + (x1).toNatClampNeg) 1) + v5), .int v6] [] (hh S10) (n + 2) = if x1 = 0 then ex X d 90 123 [.ref 1, .int x1, .ref (11 + (x1).toNatClampNeg), .int (((xa_u S.1 (11 + (x1).toNatClampNeg) 9 0) (11 + (x1).toNatClampNeg) 0) + v4), .int ((S4.1 (11 + (x1).toNatClampNeg) 1) + v5), .int v6] [] (hh S10) n else ex X d 90 136 [.ref 1, .int x1, .ref (11 + (x1).toNatClampNeg), .int (((xa_u S.1 (11 + (x1).toNatClampNeg) 9 0) (11 + (x1).toNatClampNeg) 0) + v4), .int ((S4.1 (11 + (x1).toNatClampNeg) 1) + v5), .int v6] [] (hh S10) n := rfl
theorem B_90_28 {X : Nat × (Nat → Int32)} {d : Nat} (n : Nat) (x1 : Int32) (S : St) (v4 : Int32) (S4 : St) (v5 : Int32) (v6 : Int32) (S10 : St) : ex X d 90 110 [.ref 1, .int x1, .ref (11 + (x1).toNatClampNeg), .int (((xa_u S.1 (11 + (x1).toNatClampNeg) 9 0) (11 + (x1).toNatClampNeg) 0) + v4), .int ((S4.1 (11 + (x1).toNatClampNeg) 1) + v5), .int v6] [.int (S10.1 (11 + (x1).toNatClampNeg) 5)] (hh S10) (n + 2) = if (S10.1 (11 + (x1).toNatClampNeg) 5) = 3 then ex X d 90 119 [.ref 1, .int x1, .ref (11 + (x1).toNatClampNeg), .int (((xa_u S.1 (11 + (x1).toNatClampNeg) 9 0) (11 + (x1).toNatClampNeg) 0) + v4), .int ((S4.1 (11 + (x1).toNatClampNeg) 1) + v5), .int v6] [] (hh S10) n else ex X d 90 114 [.ref 1, .int x1, .ref (11 + (x1).toNatClampNeg), .int (((xa_u S.1 (11 + (x1).toNatClampNeg) 9 0) (11 + (x1).toNatClampNeg) 0) + v4), .int ((S4.1 (11 + (x1).toNatClampNeg) 1) + v5), .int v6] [] (hh S10) n := rfl
theorem B_90_29 {X : Nat × (Nat → Int32)} {d : Nat} (n : Nat) (x1 : Int32) (S : St) (v4 : Int32) (S4 : St) (v5 : Int32) (v6 : Int32) (S10 : St) : ex X d 90 114 [.ref 1, .int x1, .ref (11 + (x1).toNatClampNeg), .int (((xa_u S.1 (11 + (x1).toNatClampNeg) 9 0) (11 + (x1).toNatClampNeg) 0) + v4), .int ((S4.1 (11 + (x1).toNatClampNeg) 1) + v5), .int v6] [] (hh S10) (n + 3) = if (kd (11 + (x1).toNatClampNeg)).1 = 10 + 0 ∧ (xf_k 0 4 = 0 ∨ (xf_k 0 4 = 1 ∧ ((0 : Int32) = 0 ∨ (0 : Int32) = 1))) then ex X d 90 119 [.ref 1, .int x1, .ref (11 + (x1).toNatClampNeg), .int (((xa_u S.1 (11 + (x1).toNatClampNeg) 9 0) (11 + (x1).toNatClampNeg) 0) + v4), .int ((S4.1 (11 + (x1).toNatClampNeg) 1) + v5), .int v6] [] (hh (xa_u S10.1 (11 + (x1).toNatClampNeg) 4 0, S10.2.1, S10.2.2)) n else none := rfl
theorem B_90_30 {X : Nat × (Nat → Int32)} {d : Nat} (n : Nat) (x1 : Int32) (S : St) (v4 : Int32) (S4 : St) (v5 : Int32) (v6 : Int32) (S10 : St) : ex X d 90 119 [.ref 1, .int x1, .ref (11 + (x1).toNatClampNeg), .int (((xa_u S.1 (11 + (x1).toNatClampNeg) 9 0) (11 + (x1).toNatClampNeg) 0) + v4), .int ((S4.1 (11 + (x1).toNatClampNeg) 1) + v5), .int v6] [] (hh (xa_u S10.1 (11 + (x1).toNatClampNeg) 4 0, S10.2.1, S10.2.2)) (n + 2) = if x1 = 0 then ex X d 90 123 [.ref 1, .int x1, .ref (11 + (x1).toNatClampNeg), .int (((xa_u S.1 (11 + (x1).toNatClampNeg) 9 0) (11 + (x1).toNatClampNeg) 0) + v4), .int ((S4.1 (11 + (x1).toNatClampNeg) 1) + v5), .int v6] [] (hh (xa_u S10.1 (11 + (x1).toNatClampNeg) 4 0, S10.2.1, S10.2.2)) n else ex X d 90 136 [.ref 1, .int x1, .ref (11 + (x1).toNatClampNeg), .int (((xa_u S.1 (11 + (x1).toNatClampNeg) 9 0) (11 + (x1).toNatClampNeg) 0) + v4), .int ((S4.1 (11 + (x1).toNatClampNeg) 1) + v5), .int v6] [] (hh (xa_u S10.1 (11 + (x1).toNatClampNeg) 4 0, S10.2.1, S10.2.2)) n := rfl
theorem B_90_31 {X : Nat × (Nat → Int32)} {d : Nat} (n : Nat) (x1 : Int32) (S : St) (v4 : Int32) (S4 : St) (v5 : Int32) (v6 : Int32) (S10 : St) : ex X d 90 123 [.ref 1, .int x1, .ref (11 + (x1).toNatClampNeg), .int (((xa_u S.1 (11 + (x1).toNatClampNeg) 9 0) (11 + (x1).toNatClampNeg) 0) + v4), .int ((S4.1 (11 + (x1).toNatClampNeg) 1) + v5), .int v6] [] (hh (xa_u S10.1 (11 + (x1).toNatClampNeg) 4 0, S10.2.1, S10.2.2)) (n + 2) = if v6 = 0 then ex X d 90 136 [.ref 1, .int x1, .ref (11 + (x1).toNatClampNeg), .int (((xa_u S.1 (11 + (x1).toNatClampNeg) 9 0) (11 + (x1).toNatClampNeg) 0) + v4), .int ((S4.1 (11 + (x1).toNatClampNeg) 1) + v5), .int v6] [] (hh (xa_u S10.1 (11 + (x1).toNatClampNeg) 4 0, S10.2.1, S10.2.2)) n else ex X d 90 128 [.ref 1, .int x1, .ref (11 + (x1).toNatClampNeg), .int (((xa_u S.1 (11 + (x1).toNatClampNeg) 9 0) (11 + (x1).toNatClampNeg) 0) + v4), .int ((S4.1 (11 + (x1).toNatClampNeg) 1) + v5), .int v6] [] (hh (xa_u S10.1 (11 + (x1).toNatClampNeg) 4 0, S10.2.1, S10.2.2)) n := rfl
theorem B_90_32 {X : Nat × (Nat → Int32)} {d : Nat} (n : Nat) (x1 : Int32) (S : St) (v4 : Int32) (S4 : St) (v5 : Int32) (v6 : Int32) (S10 : St) : ex X d 90 119 [.ref 1, .int x1, .ref (11 + (x1).toNatClampNeg), .int (((xa_u S.1 (11 + (x1).toNatClampNeg) 9 0) (11 + (x1).toNatClampNeg) 0) + v4), .int ((S4.1 (11 + (x1).toNatClampNeg) 1) + v5), .int v6] [] (hh (xa_u S10.1 (11 + (x1).toNatClampNeg) 4 0, S10.2.1, S10.2.2)) (n + 2) = if x1 = 0 then ex X d 90 123 [.ref 1, .int x1, .ref (11 + (x1).toNatClampNeg), .int (((xa_u S.1 (11 + (x1).toNatClampNeg) 9 0) (11 + (x1).toNatClampNeg) 0) + v4), .int ((S4.1 (11 + (x1).toNatClampNeg) 1) + v5), .int v6] [] (hh (xa_u S10.1 (11 + (x1).toNatClampNeg) 4 0, S10.2.1, S10.2.2)) n else ex X d 90 136 [.ref 1, .int x1, .ref (11 + (x1).toNatClampNeg), .int (((xa_u S.1 (11 + (x1).toNatClampNeg) 9 0) (11 + (x1).toNatClampNeg) 0) + v4), .int ((S4.1 (11 + (x1).toNatClampNeg) 1) + v5), .int v6] [] (hh (xa_u S10.1 (11 + (x1).toNatClampNeg) 4 0, S10.2.1, S10.2.2)) n := rfl
theorem B_90_33 {X : Nat × (Nat → Int32)} {d : Nat} (n : Nat) (x1 : Int32) (S : St) (v4 : Int32) (S4 : St) (v5 : Int32) (v6 : Int32) (v8 : Int32) (S8 : St) : ex X d 90 75 [.ref 1, .int x1, .ref (11 + (x1).toNatClampNeg), .int (((xa_u S.1 (11 + (x1).toNatClampNeg) 9 0) (11 + (x1).toNatClampNeg) 0) + v4), .int ((S4.1 (11 + (x1).toNatClampNeg) 1) + v5), .int v6] [.int v8] (hh S8) (n + 1) = if v8 = 0 then ex X d 90 78 [.ref 1, .int x1, .ref (11 + (x1).toNatClampNeg), .int (((xa_u S.1 (11 + (x1).toNatClampNeg) 9 0) (11 + (x1).toNatClampNeg) 0) + v4), .int ((S4.1 (11 + (x1).toNatClampNeg) 1) + v5), .int v6] [] (hh S8) n else ex X d 90 106 [.ref 1, .int x1, .ref (11 + (x1).toNatClampNeg), .int (((xa_u S.1 (11 + (x1).toNatClampNeg) 9 0) (11 + (x1).toNatClampNeg) 0) + v4), .int ((S4.1 (11 + (x1).toNatClampNeg) 1) + v5), .int v6] [] (hh S8) n := rfl
theorem B_90_34 {X : Nat × (Nat → Int32)} {d : Nat} (n : Nat) (x1 : Int32) (S : St) (v4 : Int32) (S4 : St) (v5 : Int32) (v6 : Int32) (S8 : St) : ex X d 90 106 [.ref 1, .int x1, .ref (11 + (x1).toNatClampNeg), .int (((xa_u S.1 (11 + (x1).toNatClampNeg) 9 0) (11 + (x1).toNatClampNeg) 0) + v4), .int ((S4.1 (11 + (x1).toNatClampNeg) 1) + v5), .int v6] [] (hh S8) (n + 2) = if (kd (11 + (x1).toNatClampNeg)).1 = 10 + 0 then ex X d 90 110 [.ref 1, .int x1, .ref (11 + (x1).toNatClampNeg), .int (((xa_u S.1 (11 + (x1).toNatClampNeg) 9 0) (11 + (x1).toNatClampNeg) 0) + v4), .int ((S4.1 (11 + (x1).toNatClampNeg) 1) + v5), .int v6] [.int (S8.1 (11 + (x1).toNatClampNeg) 5)] (hh S8) n else none := rfl
theorem B_90_35 {X : Nat × (Nat → Int32)} {d : Nat} (n : Nat) (x1 : Int32) (S : St) (v4 : Int32) (S4 : St) (v5 : Int32) (v6 : Int32) (S8 : St) : ex X d 90 110 [.ref 1, .int x1, .ref (11 + (x1).toNatClampNeg), .int (((xa_u S.1 (11 + (x1).toNatClampNeg) 9 0) (11 + (x1).toNatClampNeg) 0) + v4), .int ((S4.1 (11 + (x1).toNatClampNeg) 1) + v5), .int v6] [.int (S8.1 (11 + (x1).toNatClampNeg) 5)] (hh S8) (n + 2) = if (S8.1 (11 + (x1).toNatClampNeg) 5) = 3 then ex X d 90 119 [.ref 1, .int x1, .ref (11 + (x1).toNatClampNeg), .int (((xa_u S.1 (11 + (x1).toNatClampNeg) 9 0) (11 + (x1).toNatClampNeg) 0) + v4), .int ((S4.1 (11 + (x1).toNatClampNeg) 1) + v5), .int v6] [] (hh S8) n else ex X d 90 114 [.ref 1, .int x1, .ref (11 + (x1).toNatClampNeg), .int (((xa_u S.1 (11 + (x1).toNatClampNeg) 9 0) (11 + (x1).toNatClampNeg) 0) + v4), .int ((S4.1 (11 + (x1).toNatClampNeg) 1) + v5), .int v6] [] (hh S8) n := rfl
theorem B_90_36 {X : Nat × (Nat → Int32)} {d : Nat} (n : Nat) (x1 : Int32) (S : St) (v4 : Int32) (S4 : St) (v5 : Int32) (v6 : Int32) (S8 : St) : ex X d 90 119 [.ref 1, .int x1, .ref (11 + (x1).toNatClampNeg), .int (((xa_u S.1 (11 + (x1).toNatClampNeg) 9 0) (11 + (x1).toNatClampNeg) 0) + v4), .int ((S4.1 (11 + (x1).toNatClampNeg) 1) + v5), .int v6] [] (hh S8) (n + 2) = if x1 = 0 then ex X d 90 123 [.ref 1, .int x1, .ref (11 + (x1).toNatClampNeg), .int (((xa_u S.1 (11 + (x1).toNatClampNeg) 9 0) (11 + (x1).toNatClampNeg) 0) + v4), .int ((S4.1 (11 + (x1).toNatClampNeg) 1) + v5), .int v6] [] (hh S8) n else ex X d 90 136 [.ref 1, .int x1, .ref (11 + (x1).toNatClampNeg), .int (((xa_u S.1 (11 + (x1).toNatClampNeg) 9 0) (11 + (x1).toNatClampNeg) 0) + v4), .int ((S4.1 (11 + (x1).toNatClampNeg) 1) + v5), .int v6] [] (hh S8) n := rfl
theorem B_90_37 {X : Nat × (Nat → Int32)} {d : Nat} (n : Nat) (x1 : Int32) (S : St) (v4 : Int32) (S4 : St) (v5 : Int32) (v6 : Int32) (S8 : St) : ex X d 90 123 [.ref 1, .int x1, .ref (11 + (x1).toNatClampNeg), .int (((xa_u S.1 (11 + (x1).toNatClampNeg) 9 0) (11 + (x1).toNatClampNeg) 0) + v4), .int ((S4.1 (11 + (x1).toNatClampNeg) 1) + v5), .int v6] [] (hh S8) (n + 2) = if v6 = 0 then ex X d 90 136 [.ref 1, .int x1, .ref (11 + (x1).toNatClampNeg), .int (((xa_u S.1 (11 + (x1).toNatClampNeg) 9 0) (11 + (x1).toNatClampNeg) 0) + v4), .int ((S4.1 (11 + (x1).toNatClampNeg) 1) + v5), .int v6] [] (hh S8) n else ex X d 90 128 [.ref 1, .int x1, .ref (11 + (x1).toNatClampNeg), .int (((xa_u S.1 (11 + (x1).toNatClampNeg) 9 0) (11 + (x1).toNatClampNeg) 0) + v4), .int ((S4.1 (11 + (x1).toNatClampNeg) 1) + v5), .int v6] [] (hh S8) n := rfl
theorem B_90_38 {X : Nat × (Nat → Int32)} {d : Nat} (n : Nat) (x1 : Int32) (S : St) (v4 : Int32) (S4 : St) (v5 : Int32) (v6 : Int32) (S8 : St) : ex X d 90 119 [.ref 1, .int x1, .ref (11 + (x1).toNatClampNeg), .int (((xa_u S.1 (11 + (x1).toNatClampNeg) 9 0) (11 + (x1).toNatClampNeg) 0) + v4), .int ((S4.1 (11 + (x1).toNatClampNeg) 1) + v5), .int v6] [] (hh S8) (n + 2) = if x1 = 0 then ex X d 90 123 [.ref 1, .int x1, .ref (11 + (x1).toNatClampNeg), .int (((xa_u S.1 (11 + (x1).toNatClampNeg) 9 0) (11 + (x1).toNatClampNeg) 0) + v4), .int ((S4.1 (11 + (x1).toNatClampNeg) 1) + v5), .int v6] [] (hh S8) n else ex X d 90 136 [.ref 1, .int x1, .ref (11 + (x1).toNatClampNeg), .int (((xa_u S.1 (11 + (x1).toNatClampNeg) 9 0) (11 + (x1).toNatClampNeg) 0) + v4), .int ((S4.1 (11 + (x1).toNatClampNeg) 1) + v5), .int v6] [] (hh S8) n := rfl
theorem B_90_39 {X : Nat × (Nat → Int32)} {d : Nat} (n : Nat) (x1 : Int32) (S : St) (v4 : Int32) (S4 : St) (v5 : Int32) (v6 : Int32) (S8 : St) : ex X d 90 110 [.ref 1, .int x1, .ref (11 + (x1).toNatClampNeg), .int (((xa_u S.1 (11 + (x1).toNatClampNeg) 9 0) (11 + (x1).toNatClampNeg) 0) + v4), .int ((S4.1 (11 + (x1).toNatClampNeg) 1) + v5), .int v6] [.int (S8.1 (11 + (x1).toNatClampNeg) 5)] (hh S8) (n + 2) = if (S8.1 (11 + (x1).toNatClampNeg) 5) = 3 then ex X d 90 119 [.ref 1, .int x1, .ref (11 + (x1).toNatClampNeg), .int (((xa_u S.1 (11 + (x1).toNatClampNeg) 9 0) (11 + (x1).toNatClampNeg) 0) + v4), .int ((S4.1 (11 + (x1).toNatClampNeg) 1) + v5), .int v6] [] (hh S8) n else ex X d 90 114 [.ref 1, .int x1, .ref (11 + (x1).toNatClampNeg), .int (((xa_u S.1 (11 + (x1).toNatClampNeg) 9 0) (11 + (x1).toNatClampNeg) 0) + v4), .int ((S4.1 (11 + (x1).toNatClampNeg) 1) + v5), .int v6] [] (hh S8) n := rfl
theorem B_90_40 {X : Nat × (Nat → Int32)} {d : Nat} (n : Nat) (x1 : Int32) (S : St) (v4 : Int32) (S4 : St) (v5 : Int32) (v6 : Int32) (S8 : St) : ex X d 90 114 [.ref 1, .int x1, .ref (11 + (x1).toNatClampNeg), .int (((xa_u S.1 (11 + (x1).toNatClampNeg) 9 0) (11 + (x1).toNatClampNeg) 0) + v4), .int ((S4.1 (11 + (x1).toNatClampNeg) 1) + v5), .int v6] [] (hh S8) (n + 3) = if (kd (11 + (x1).toNatClampNeg)).1 = 10 + 0 ∧ (xf_k 0 4 = 0 ∨ (xf_k 0 4 = 1 ∧ ((0 : Int32) = 0 ∨ (0 : Int32) = 1))) then ex X d 90 119 [.ref 1, .int x1, .ref (11 + (x1).toNatClampNeg), .int (((xa_u S.1 (11 + (x1).toNatClampNeg) 9 0) (11 + (x1).toNatClampNeg) 0) + v4), .int ((S4.1 (11 + (x1).toNatClampNeg) 1) + v5), .int v6] [] (hh (xa_u S8.1 (11 + (x1).toNatClampNeg) 4 0, S8.2.1, S8.2.2)) n else none := rfl
theorem B_90_41 {X : Nat × (Nat → Int32)} {d : Nat} (n : Nat) (x1 : Int32) (S : St) (v4 : Int32) (S4 : St) (v5 : Int32) (v6 : Int32) (S8 : St) : ex X d 90 119 [.ref 1, .int x1, .ref (11 + (x1).toNatClampNeg), .int (((xa_u S.1 (11 + (x1).toNatClampNeg) 9 0) (11 + (x1).toNatClampNeg) 0) + v4), .int ((S4.1 (11 + (x1).toNatClampNeg) 1) + v5), .int v6] [] (hh (xa_u S8.1 (11 + (x1).toNatClampNeg) 4 0, S8.2.1, S8.2.2)) (n + 2) = if x1 = 0 then ex X d 90 123 [.ref 1, .int x1, .ref (11 + (x1).toNatClampNeg), .int (((xa_u S.1 (11 + (x1).toNatClampNeg) 9 0) (11 + (x1).toNatClampNeg) 0) + v4), .int ((S4.1 (11 + (x1).toNatClampNeg) 1) + v5), .int v6] [] (hh (xa_u S8.1 (11 + (x1).toNatClampNeg) 4 0, S8.2.1, S8.2.2)) n else ex X d 90 136 [.ref 1, .int x1, .ref (11 + (x1).toNatClampNeg), .int (((xa_u S.1 (11 + (x1).toNatClampNeg) 9 0) (11 + (x1).toNatClampNeg) 0) + v4), .int ((S4.1 (11 + (x1).toNatClampNeg) 1) + v5), .int v6] [] (hh (xa_u S8.1 (11 + (x1).toNatClampNeg) 4 0, S8.2.1, S8.2.2)) n := rfl
theorem B_90_42 {X : Nat × (Nat → Int32)} {d : Nat} (n : Nat) (x1 : Int32) (S : St) (v4 : Int32) (S4 : St) (v5 : Int32) (v6 : Int32) (S8 : St) : ex X d 90 123 [.ref 1, .int x1, .ref (11 + (x1).toNatClampNeg), .int (((xa_u S.1 (11 + (x1).toNatClampNeg) 9 0) (11 + (x1).toNatClampNeg) 0) + v4), .int ((S4.1 (11 + (x1).toNatClampNeg) 1) + v5), .int v6] [] (hh (xa_u S8.1 (11 + (x1).toNatClampNeg) 4 0, S8.2.1, S8.2.2)) (n + 2) = if v6 = 0 then ex X d 90 136 [.ref 1, .int x1, .ref (11 + (x1).toNatClampNeg), .int (((xa_u S.1 (11 + (x1).toNatClampNeg) 9 0) (11 + (x1).toNatClampNeg) 0) + v4), .int ((S4.1 (11 + (x1).toNatClampNeg) 1) + v5), .int v6] [] (hh (xa_u S8.1 (11 + (x1).toNatClampNeg) 4 0, S8.2.1, S8.2.2)) n else ex X d 90 128 [.ref 1, .int x1, .ref (11 + (x1).toNatClampNeg), .int (((xa_u S.1 (11 + (x1).toNatClampNeg) 9 0) (11 + (x1).toNatClampNeg) 0) + v4), .int ((S4.1 (11 + (x1).toNatClampNeg) 1) + v5), .int v6] [] (hh (xa_u S8.1 (11 + (x1).toNatClampNeg) 4 0, S8.2.1, S8.2.2)) n := rfl
theorem B_90_43 {X : Nat × (Nat → Int32)} {d : Nat} (n : Nat) (x1 : Int32) (S : St) (v4 : Int32) (S4 : St) (v5 : Int32) (v6 : Int32) (S8 : St) : ex X d 90 119 [.ref 1, .int x1, .ref (11 + (x1).toNatClampNeg), .int (((xa_u S.1 (11 + (x1).toNatClampNeg) 9 0) (11 + (x1).toNatClampNeg) 0) + v4), .int ((S4.1 (11 + (x1).toNatClampNeg) 1) + v5), .int v6] [] (hh (xa_u S8.1 (11 + (x1).toNatClampNeg) 4 0, S8.2.1, S8.2.2)) (n + 2) = if x1 = 0 then ex X d 90 123 [.ref 1, .int x1, .ref (11 + (x1).toNatClampNeg), .int (((xa_u S.1 (11 + (x1).toNatClampNeg) 9 0) (11 + (x1).toNatClampNeg) 0) + v4), .int ((S4.1 (11 + (x1).toNatClampNeg) 1) + v5), .int v6] [] (hh (xa_u S8.1 (11 + (x1).toNatClampNeg) 4 0, S8.2.1, S8.2.2)) n else ex X d 90 136 [.ref 1, .int x1, .ref (11 + (x1).toNatClampNeg), .int (((xa_u S.1 (11 + (x1).toNatClampNeg) 9 0) (11 + (x1).toNatClampNeg) 0) + v4), .int ((S4.1 (11 + (x1).toNatClampNeg) 1) + v5), .int v6] [] (hh (xa_u S8.1 (11 + (x1).toNatClampNeg) 4 0, S8.2.1, S8.2.2)) n := rfl
theorem B_90_44 {X : Nat × (Nat → Int32)} {d : Nat} (n : Nat) (x1 : Int32) (S : St) (v4 : Int32) (S4 : St) (v5 : Int32) (v6 : Int32) (S6 : St) : ex X d 90 57 [.ref 1, .int x1, .ref (11 + (x1).toNatClampNeg), .int (((xa_u S.1 (11 + (x1).toNatClampNeg) 9 0) (11 + (x1).toNatClampNeg) 0) + v4), .int ((S4.1 (11 + (x1).toNatClampNeg) 1) + v5), .retAddr 0] [.int v6] (hh S6) (n + 3) = if v6 = 0 then ex X d 90 64 [.ref 1, .int x1, .ref (11 + (x1).toNatClampNeg), .int (((xa_u S.1 (11 + (x1).toNatClampNeg) 9 0) (11 + (x1).toNatClampNeg) 0) + v4), .int ((S4.1 (11 + (x1).toNatClampNeg) 1) + v5), .int v6] [] (hh S6) n else ex X d 90 106 [.ref 1, .int x1, .ref (11 + (x1).toNatClampNeg), .int (((xa_u S.1 (11 + (x1).toNatClampNeg) 9 0) (11 + (x1).toNatClampNeg) 0) + v4), .int ((S4.1 (11 + (x1).toNatClampNeg) 1) + v5), .int v6] [] (hh S6) n := rfl
theorem B_90_45 {X : Nat × (Nat → Int32)} {d : Nat} (n : Nat) (x1 : Int32) (S : St) (v4 : Int32) (S4 : St) (v5 : Int32) (v6 : Int32) (S6 : St) : ex X d 90 106 [.ref 1, .int x1, .ref (11 + (x1).toNatClampNeg), .int (((xa_u S.1 (11 + (x1).toNatClampNeg) 9 0) (11 + (x1).toNatClampNeg) 0) + v4), .int ((S4.1 (11 + (x1).toNatClampNeg) 1) + v5), .int v6] [] (hh S6) (n + 2) = if (kd (11 + (x1).toNatClampNeg)).1 = 10 + 0 then ex X d 90 110 [.ref 1, .int x1, .ref (11 + (x1).toNatClampNeg), .int (((xa_u S.1 (11 + (x1).toNatClampNeg) 9 0) (11 + (x1).toNatClampNeg) 0) + v4), .int ((S4.1 (11 + (x1).toNatClampNeg) 1) + v5), .int v6] [.int (S6.1 (11 + (x1).toNatClampNeg) 5)] (hh S6) n else none := rfl
theorem B_90_46 {X : Nat × (Nat → Int32)} {d : Nat} (n : Nat) (x1 : Int32) (S : St) (v4 : Int32) (S4 : St) (v5 : Int32) (v6 : Int32) (S6 : St) : ex X d 90 110 [.ref 1, .int x1, .ref (11 + (x1).toNatClampNeg), .int (((xa_u S.1 (11 + (x1).toNatClampNeg) 9 0) (11 + (x1).toNatClampNeg) 0) + v4), .int ((S4.1 (11 + (x1).toNatClampNeg) 1) + v5), .int v6] [.int (S6.1 (11 + (x1).toNatClampNeg) 5)] (hh S6) (n + 2) = if (S6.1 (11 + (x1).toNatClampNeg) 5) = 3 then ex X d 90 119 [.ref 1, .int x1, .ref (11 + (x1).toNatClampNeg), .int (((xa_u S.1 (11 + (x1).toNatClampNeg) 9 0) (11 + (x1).toNatClampNeg) 0) + v4), .int ((S4.1 (11 + (x1).toNatClampNeg) 1) + v5), .int v6] [] (hh S6) n else ex X d 90 114 [.ref 1, .int x1, .ref (11 + (x1).toNatClampNeg), .int (((xa_u S.1 (11 + (x1).toNatClampNeg) 9 0) (11 + (x1).toNatClampNeg) 0) + v4), .int ((S4.1 (11 + (x1).toNatClampNeg) 1) + v5), .int v6] [] (hh S6) n := rfl
theorem B_90_47 {X : Nat × (Nat → Int32)} {d : Nat} (n : Nat) (x1 : Int32) (S : St) (v4 : Int32) (S4 : St) (v5 : Int32) (v6 : Int32) (S6 : St) : ex X d 90 119 [.ref 1, .int x1, .ref (11 + (x1).toNatClampNeg), .int (((xa_u S.1 (11 + (x1).toNatClampNeg) 9 0) (11 + (x1).toNatClampNeg) 0) + v4), .int ((S4.1 (11 + (x1).toNatClampNeg) 1) + v5), .int v6] [] (hh S6) (n + 2) = if x1 = 0 then ex X d 90 123 [.ref 1, .int x1, .ref (11 + (x1).toNatClampNeg), .int (((xa_u S.1 (11 + (x1).toNatClampNeg) 9 0) (11 + (x1).toNatClampNeg) 0) + v4), .int ((S4.1 (11 + (x1).toNatClampNeg) 1) + v5), .int v6] [] (hh S6) n else ex X d 90 136 [.ref 1, .int x1, .ref (11 + (x1).toNatClampNeg), .int (((xa_u S.1 (11 + (x1).toNatClampNeg) 9 0) (11 + (x1).toNatClampNeg) 0) + v4), .int ((S4.1 (11 + (x1).toNatClampNeg) 1) + v5), .int v6] [] (hh S6) n := rfl
theorem B_90_48 {X : Nat × (Nat → Int32)} {d : Nat} (n : Nat) (x1 : Int32) (S : St) (v4 : Int32) (S4 : St) (v5 : Int32) (v6 : Int32) (S6 : St) : ex X d 90 123 [.ref 1, .int x1, .ref (11 + (x1).toNatClampNeg), .int (((xa_u S.1 (11 + (x1).toNatClampNeg) 9 0) (11 + (x1).toNatClampNeg) 0) + v4), .int ((S4.1 (11 + (x1).toNatClampNeg) 1) + v5), .int v6] [] (hh S6) (n + 2) = if v6 = 0 then ex X d 90 136 [.ref 1, .int x1, .ref (11 + (x1).toNatClampNeg), .int (((xa_u S.1 (11 + (x1).toNatClampNeg) 9 0) (11 + (x1).toNatClampNeg) 0) + v4), .int ((S4.1 (11 + (x1).toNatClampNeg) 1) + v5), .int v6] [] (hh S6) n else ex X d 90 128 [.ref 1, .int x1, .ref (11 + (x1).toNatClampNeg), .int (((xa_u S.1 (11 + (x1).toNatClampNeg) 9 0) (11 + (x1).toNatClampNeg) 0) + v4), .int ((S4.1 (11 + (x1).toNatClampNeg) 1) + v5), .int v6] [] (hh S6) n := rfl
theorem B_90_49 {X : Nat × (Nat → Int32)} {d : Nat} (n : Nat) (x1 : Int32) (S : St) (v4 : Int32) (S4 : St) (v5 : Int32) (v6 : Int32) (S6 : St) : ex X (d + 1) 90 128 [.ref 1, .int x1, .ref (11 + (x1).toNatClampNeg), .int (((xa_u S.1 (11 + (x1).toNatClampNeg) 9 0) (11 + (x1).toNatClampNeg) 0) + v4), .int ((S4.1 (11 + (x1).toNatClampNeg) 1) + v5), .int v6] [] (hh S6) (n + 4) = (match ex X d 51 0 [.ref 1, .int 0, .int v6] [] (hh S6) n with | some (v, h') => ex X (d + 1) 90 135 [.ref 1, .int x1, .ref (11 + (x1).toNatClampNeg), .int (((xa_u S.1 (11 + (x1).toNatClampNeg) 9 0) (11 + (x1).toNatClampNeg) 0) + v4), .int ((S4.1 (11 + (x1).toNatClampNeg) 1) + v5), .int v6] (v.toList ++ []) h' n | none => none) := rfl
theorem B_90_50 {X : Nat × (Nat → Int32)} {d : Nat} (n : Nat) (x1 : Int32) (S : St) (v4 : Int32) (S4 : St) (v5 : Int32) (v6 : Int32) (S6 : St) : ex X d 90 119 [.ref 1, .int x1, .ref (11 + (x1).toNatClampNeg), .int (((xa_u S.1 (11 + (x1).toNatClampNeg) 9 0) (11 + (x1).toNatClampNeg) 0) + v4), .int ((S4.1 (11 + (x1).toNatClampNeg) 1) + v5), .int v6] [] (hh S6) (n + 2) = if x1 = 0 then ex X d 90 123 [.ref 1, .int x1, .ref (11 + (x1).toNatClampNeg), .int (((xa_u S.1 (11 + (x1).toNatClampNeg) 9 0) (11 + (x1).toNatClampNeg) 0) + v4), .int ((S4.1 (11 + (x1).toNatClampNeg) 1) + v5), .int v6] [] (hh S6) n else ex X d 90 136 [.ref 1, .int x1, .ref (11 + (x1).toNatClampNeg), .int (((xa_u S.1 (11 + (x1).toNatClampNeg) 9 0) (11 + (x1).toNatClampNeg) 0) + v4), .int ((S4.1 (11 + (x1).toNatClampNeg) 1) + v5), .int v6] [] (hh S6) n := rfl
theorem B_90_51 {X : Nat × (Nat → Int32)} {d : Nat} (n : Nat) (x1 : Int32) (S : St) (v4 : Int32) (S4 : St) (v5 : Int32) (v6 : Int32) (S6 : St) : ex X d 90 110 [.ref 1, .int x1, .ref (11 + (x1).toNatClampNeg), .int (((xa_u S.1 (11 + (x1).toNatClampNeg) 9 0) (11 + (x1).toNatClampNeg) 0) + v4), .int ((S4.1 (11 + (x1).toNatClampNeg) 1) + v5), .int v6] [.int (S6.1 (11 + (x1).toNatClampNeg) 5)] (hh S6) (n + 2) = if (S6.1 (11 + (x1).toNatClampNeg) 5) = 3 then ex X d 90 119 [.ref 1, .int x1, .ref (11 + (x1).toNatClampNeg), .int (((xa_u S.1 (11 + (x1).toNatClampNeg) 9 0) (11 + (x1).toNatClampNeg) 0) + v4), .int ((S4.1 (11 + (x1).toNatClampNeg) 1) + v5), .int v6] [] (hh S6) n else ex X d 90 114 [.ref 1, .int x1, .ref (11 + (x1).toNatClampNeg), .int (((xa_u S.1 (11 + (x1).toNatClampNeg) 9 0) (11 + (x1).toNatClampNeg) 0) + v4), .int ((S4.1 (11 + (x1).toNatClampNeg) 1) + v5), .int v6] [] (hh S6) n := rfl
theorem B_90_52 {X : Nat × (Nat → Int32)} {d : Nat} (n : Nat) (x1 : Int32) (S : St) (v4 : Int32) (S4 : St) (v5 : Int32) (v6 : Int32) (S6 : St) : ex X d 90 114 [.ref 1, .int x1, .ref (11 + (x1).toNatClampNeg), .int (((xa_u S.1 (11 + (x1).toNatClampNeg) 9 0) (11 + (x1).toNatClampNeg) 0) + v4), .int ((S4.1 (11 + (x1).toNatClampNeg) 1) + v5), .int v6] [] (hh S6) (n + 3) = if (kd (11 + (x1).toNatClampNeg)).1 = 10 + 0 ∧ (xf_k 0 4 = 0 ∨ (xf_k 0 4 = 1 ∧ ((0 : Int32) = 0 ∨ (0 : Int32) = 1))) then ex X d 90 119 [.ref 1, .int x1, .ref (11 + (x1).toNatClampNeg), .int (((xa_u S.1 (11 + (x1).toNatClampNeg) 9 0) (11 + (x1).toNatClampNeg) 0) + v4), .int ((S4.1 (11 + (x1).toNatClampNeg) 1) + v5), .int v6] [] (hh (xa_u S6.1 (11 + (x1).toNatClampNeg) 4 0, S6.2.1, S6.2.2)) n else none := rfl
theorem B_90_53 {X : Nat × (Nat → Int32)} {d : Nat} (n : Nat) (x1 : Int32) (S : St) (v4 : Int32) (S4 : St) (v5 : Int32) (v6 : Int32) (S6 : St) : ex X d 90 119 [.ref 1, .int x1, .ref (11 + (x1).toNatClampNeg), .int (((xa_u S.1 (11 + (x1).toNatClampNeg) 9 0) (11 + (x1).toNatClampNeg) 0) + v4), .int ((S4.1 (11 + (x1).toNatClampNeg) 1) + v5), .int v6] [] (hh (xa_u S6.1 (11 + (x1).toNatClampNeg) 4 0, S6.2.1, S6.2.2)) (n + 2) = if x1 = 0 then ex X d 90 123 [.ref 1, .int x1, .ref (11 + (x1).toNatClampNeg), .int (((xa_u S.1 (11 + (x1).toNatClampNeg) 9 0) (11 + (x1).toNatClampNeg) 0) + v4), .int ((S4.1 (11 + (x1).toNatClampNeg) 1) + v5), .int v6] [] (hh (xa_u S6.1 (11 + (x1).toNatClampNeg) 4 0, S6.2.1, S6.2.2)) n else ex X d 90 136 [.ref 1, .int x1, .ref (11 + (x1).toNatClampNeg), .int (((xa_u S.1 (11 + (x1).toNatClampNeg) 9 0) (11 + (x1).toNatClampNeg) 0) + v4), .int ((S4.1 (11 + (x1).toNatClampNeg) 1) + v5), .int v6] [] (hh (xa_u S6.1 (11 + (x1).toNatClampNeg) 4 0, S6.2.1, S6.2.2)) n := rfl
theorem B_90_54 {X : Nat × (Nat → Int32)} {d : Nat} (n : Nat) (x1 : Int32) (S : St) (v4 : Int32) (S4 : St) (v5 : Int32) (v6 : Int32) (S6 : St) : ex X d 90 123 [.ref 1, .int x1, .ref (11 + (x1).toNatClampNeg), .int (((xa_u S.1 (11 + (x1).toNatClampNeg) 9 0) (11 + (x1).toNatClampNeg) 0) + v4), .int ((S4.1 (11 + (x1).toNatClampNeg) 1) + v5), .int v6] [] (hh (xa_u S6.1 (11 + (x1).toNatClampNeg) 4 0, S6.2.1, S6.2.2)) (n + 2) = if v6 = 0 then ex X d 90 136 [.ref 1, .int x1, .ref (11 + (x1).toNatClampNeg), .int (((xa_u S.1 (11 + (x1).toNatClampNeg) 9 0) (11 + (x1).toNatClampNeg) 0) + v4), .int ((S4.1 (11 + (x1).toNatClampNeg) 1) + v5), .int v6] [] (hh (xa_u S6.1 (11 + (x1).toNatClampNeg) 4 0, S6.2.1, S6.2.2)) n else ex X d 90 128 [.ref 1, .int x1, .ref (11 + (x1).toNatClampNeg), .int (((xa_u S.1 (11 + (x1).toNatClampNeg) 9 0) (11 + (x1).toNatClampNeg) 0) + v4), .int ((S4.1 (11 + (x1).toNatClampNeg) 1) + v5), .int v6] [] (hh (xa_u S6.1 (11 + (x1).toNatClampNeg) 4 0, S6.2.1, S6.2.2)) n := rfl
theorem B_90_55 {X : Nat × (Nat → Int32)} {d : Nat} (n : Nat) (x1 : Int32) (S : St) (v4 : Int32) (S4 : St) (v5 : Int32) (v6 : Int32) (S6 : St) : ex X (d + 1) 90 128 [.ref 1, .int x1, .ref (11 + (x1).toNatClampNeg), .int (((xa_u S.1 (11 + (x1).toNatClampNeg) 9 0) (11 + (x1).toNatClampNeg) 0) + v4), .int ((S4.1 (11 + (x1).toNatClampNeg) 1) + v5), .int v6] [] (hh (xa_u S6.1 (11 + (x1).toNatClampNeg) 4 0, S6.2.1, S6.2.2)) (n + 4) = (match ex X d 51 0 [.ref 1, .int 0, .int v6] [] (hh (xa_u S6.1 (11 + (x1).toNatClampNeg) 4 0, S6.2.1, S6.2.2)) n with | some (v, h') => ex X (d + 1) 90 135 [.ref 1, .int x1, .ref (11 + (x1).toNatClampNeg), .int (((xa_u S.1 (11 + (x1).toNatClampNeg) 9 0) (11 + (x1).toNatClampNeg) 0) + v4), .int ((S4.1 (11 + (x1).toNatClampNeg) 1) + v5), .int v6] (v.toList ++ []) h' n | none => none) := rfl
theorem B_90_56 {X : Nat × (Nat → Int32)} {d : Nat} (n : Nat) (x1 : Int32) (S : St) (v4 : Int32) (S4 : St) (v5 : Int32) (v6 : Int32) (S6 : St) : ex X d 90 119 [.ref 1, .int x1, .ref (11 + (x1).toNatClampNeg), .int (((xa_u S.1 (11 + (x1).toNatClampNeg) 9 0) (11 + (x1).toNatClampNeg) 0) + v4), .int ((S4.1 (11 + (x1).toNatClampNeg) 1) + v5), .int v6] [] (hh (xa_u S6.1 (11 + (x1).toNatClampNeg) 4 0, S6.2.1, S6.2.2)) (n + 2) = if x1 = 0 then ex X d 90 123 [.ref 1, .int x1, .ref (11 + (x1).toNatClampNeg), .int (((xa_u S.1 (11 + (x1).toNatClampNeg) 9 0) (11 + (x1).toNatClampNeg) 0) + v4), .int ((S4.1 (11 + (x1).toNatClampNeg) 1) + v5), .int v6] [] (hh (xa_u S6.1 (11 + (x1).toNatClampNeg) 4 0, S6.2.1, S6.2.2)) n else ex X d 90 136 [.ref 1, .int x1, .ref (11 + (x1).toNatClampNeg), .int (((xa_u S.1 (11 + (x1).toNatClampNeg) 9 0) (11 + (x1).toNatClampNeg) 0) + v4), .int ((S4.1 (11 + (x1).toNatClampNeg) 1) + v5), .int v6] [] (hh (xa_u S6.1 (11 + (x1).toNatClampNeg) 4 0, S6.2.1, S6.2.2)) n := rfl
set_option maxRecDepth 200000 in
theorem T_90 {X : Nat × (Nat → Int32)} (S : St) (x1 : Int32) (r : Unit) (S' : St) (hG : G_90 S x1 = some (r, S')) : Ev X 4 90 0 [.ref 1, .int x1, .retAddr 0, .retAddr 0, .retAddr 0, .retAddr 0] [] (hh S) (xV r, hh S') := by
  unfold G_90 at hG
  by_cases g1 : xa_in x1 4
  rotate_left
  · rw [if_neg g1] at hG; cases hG
  rw [if_pos g1] at hG
  refine Ev.g (c := (2 ≤ (kd 7).1 ∧ (kd 7).1 < xo_n) ∧ xa_in x1 (kd 7).2) (p1 := 6) (L1 := [.ref 1, .int x1, .retAddr 0, .retAddr 0, .retAddr 0, .retAddr 0]) (s1 := [va_rf (RC S.2.1 S.2.2 7 (x1).toNatClampNeg)]) (h1 := hh S) 4 (fun n => B_90_1 n x1 S) ⟨⟨by decide, by decide⟩, g1⟩ ?_
  rw [RC_7 (xa_lt (n := 4) g1)]
  show Ev X _ 90 6 [.ref 1, .int x1, .retAddr 0, .retAddr 0, .retAddr 0, .retAddr 0] [.ref (11 + (x1).toNatClampNeg)] (hh S) _
  by_cases g2 : (kd (11 + (x1).toNatClampNeg)).1 = 10 + 0
  rotate_left
  · rw [if_neg g2] at hG; cases hG
  rw [if_pos g2] at hG
  refine Ev.g (c := (kd (11 + (x1).toNatClampNeg)).1 = 10 + 0 ∧ (xf_k 0 9 = 0 ∨ (xf_k 0 9 = 1 ∧ ((0 : Int32) = 0 ∨ (0 : Int32) = 1)))) (p1 := 12) (L1 := [.ref 1, .int x1, .ref (11 + (x1).toNatClampNeg), .retAddr 0, .retAddr 0, .retAddr 0]) (s1 := []) (h1 := hh (xa_u S.1 (11 + (x1).toNatClampNeg) 9 0, S.2.1, S.2.2)) 4 (fun n => B_90_2 n x1 S) (⟨g2, Or.inr ⟨rfl, by decide⟩⟩) ?_
  refine Ev.g (c := (kd (11 + (x1).toNatClampNeg)).1 = 10 + 0) (p1 := 16) (L1 := [.ref 1, .int x1, .ref (11 + (x1).toNatClampNeg), .retAddr 0, .retAddr 0, .retAddr 0]) (s1 := [.int ((xa_u S.1 (11 + (x1).toNatClampNeg) 9 0) (11 + (x1).toNatClampNeg) 4)]) (h1 := hh (xa_u S.1 (11 + (x1).toNatClampNeg) 9 0, S.2.1, S.2.2)) 2 (fun n => B_90_3 n x1 S) g2 ?_
  by_cases c3 : ((xa_u S.1 (11 + (x1).toNatClampNeg) 9 0) (11 + (x1).toNatClampNeg) 4) = 0
  · rw [if_pos c3] at hG
    refine Ev.t (c := ((xa_u S.1 (11 + (x1).toNatClampNeg) 9 0) (11 + (x1).toNatClampNeg) 4) = 0) (p1 := 19) (L1 := [.ref 1, .int x1, .ref (11 + (x1).toNatClampNeg), .retAddr 0, .retAddr 0, .retAddr 0]) (s1 := []) (h1 := hh (xa_u S.1 (11 + (x1).toNatClampNeg) 9 0, S.2.1, S.2.2)) (p2 := 20) (L2 := [.ref 1, .int x1, .ref (11 + (x1).toNatClampNeg), .retAddr 0, .retAddr 0, .retAddr 0]) (s2 := []) (h2 := hh (xa_u S.1 (11 + (x1).toNatClampNeg) 9 0, S.2.1, S.2.2)) 1 (fun n => B_90_4 n x1 S) c3 ?_
    obtain ⟨e1, e2⟩ := Prod.mk.inj (Option.some.inj hG)
    subst e1
    subst e2
    exact Ev.r 1 (fun n => rfl)
  · rw [if_neg c3] at hG
    refine Ev.f (c := ((xa_u S.1 (11 + (x1).toNatClampNeg) 9 0) (11 + (x1).toNatClampNeg) 4) = 0) (p1 := 19) (L1 := [.ref 1, .int x1, .ref (11 + (x1).toNatClampNeg), .retAddr 0, .retAddr 0, .retAddr 0]) (s1 := []) (h1 := hh (xa_u S.1 (11 + (x1).toNatClampNeg) 9 0, S.2.1, S.2.2)) (p2 := 20) (L2 := [.ref 1, .int x1, .ref (11 + (x1).toNatClampNeg), .retAddr 0, .retAddr 0, .retAddr 0]) (s2 := []) (h2 := hh (xa_u S.1 (11 + (x1).toNatClampNeg) 9 0, S.2.1, S.2.2)) 1 (fun n => B_90_5 n x1 S) c3 ?_
    refine Ev.g (c := (kd (11 + (x1).toNatClampNeg)).1 = 10 + 0) (p1 := 24) (L1 := [.ref 1, .int x1, .ref (11 + (x1).toNatClampNeg), .retAddr 0, .retAddr 0, .retAddr 0]) (s1 := [.int ((xa_u S.1 (11 + (x1).toNatClampNeg) 9 0) (11 + (x1).toNatClampNeg) 0)]) (h1 := hh (xa_u S.1 (11 + (x1).toNatClampNeg) 9 0, S.2.1, S.2.2)) 2 (fun n => B_90_6 n x1 S) g2 ?_
    refine Ev.g (c := (kd (11 + (x1).toNatClampNeg)).1 = 10 + 0) (p1 := 28) (L1 := [.ref 1, .int x1, .ref (11 + (x1).toNatClampNeg), .retAddr 0, .retAddr 0, .retAddr 0]) (s1 := [.int ((xa_u S.1 (11 + (x1).toNatClampNeg) 9 0) (11 + (x1).toNatClampNeg) 4), .int ((xa_u S.1 (11 + (x1).toNatClampNeg) 9 0) (11 + (x1).toNatClampNeg) 0)]) (h1 := hh (xa_u S.1 (11 + (x1).toNatClampNeg) 9 0, S.2.1, S.2.2)) 2 (fun n => B_90_7 n x1 S) g2 ?_
    rcases h4 : G_91 (xa_u S.1 (11 + (x1).toNatClampNeg) 9 0, S.2.1, S.2.2) ((xa_u S.1 (11 + (x1).toNatClampNeg) 9 0) (11 + (x1).toNatClampNeg) 4) with _ | ⟨v4, S4⟩
    · rw [h4] at hG; cases hG
    rw [h4] at hG
    dsimp only at hG
    refine Ev.c (a := 91) (A := [.int ((xa_u S.1 (11 + (x1).toNatClampNeg) 9 0) (11 + (x1).toNatClampNeg) 4)]) (h1 := hh (xa_u S.1 (11 + (x1).toNatClampNeg) 9 0, S.2.1, S.2.2)) (pc' := 31) (L' := [.ref 1, .int x1, .ref (11 + (x1).toNatClampNeg), .retAddr 0, .retAddr 0, .retAddr 0]) (rest := [.int ((xa_u S.1 (11 + (x1).toNatClampNeg) 9 0) (11 + (x1).toNatClampNeg) 0)]) (r1 := some (.int v4)) (h2 := hh S4) 1 (fun n => B_90_8 n x1 S) (Ev.up (by decide) (T_91 (xa_u S.1 (11 + (x1).toNatClampNeg) 9 0, S.2.1, S.2.2) ((xa_u S.1 (11 + (x1).toNatClampNeg) 9 0) (11 + (x1).toNatClampNeg) 4) _ _ h4)) ?_
    show Ev X _ 90 31 [.ref 1, .int x1, .ref (11 + (x1).toNatClampNeg), .retAddr 0, .retAddr 0, .retAddr 0] [.int v4, .int ((xa_u S.1 (11 + (x1).toNatClampNeg) 9 0) (11 + (x1).toNatClampNeg) 0)] (hh S4) _
    refine Ev.g (c := (kd (11 + (x1).toNatClampNeg)).1 = 10 + 0) (p1 := 37) (L1 := [.ref 1, .int x1, .ref (11 + (x1).toNatClampNeg), .int (((xa_u S.1 (11 + (x1).toNatClampNeg) 9 0) (11 + (x1).toNatClampNeg) 0) + v4), .retAddr 0, .retAddr 0]) (s1 := [.int (S4.1 (11 + (x1).toNatClampNeg) 1)]) (h1 := hh S4) 4 (fun n => B_90_9 n x1 v4 S S4) g2 ?_
    refine Ev.g (c := (kd (11 + (x1).toNatClampNeg)).1 = 10 + 0) (p1 := 41) (L1 := [.ref 1, .int x1, .ref (11 + (x1).toNatClampNeg), .int (((xa_u S.1 (11 + (x1).toNatClampNeg) 9 0) (11 + (x1).toNatClampNeg) 0) + v4), .retAddr 0, .retAddr 0]) (s1 := [.int (S4.1 (11 + (x1).toNatClampNeg) 4), .int (S4.1 (11 + (x1).toNatClampNeg) 1)]) (h1 := hh S4) 2 (fun n => B_90_10 n x1 S v4 S4) g2 ?_
    rcases h5 : G_92 S4 (S4.1 (11 + (x1).toNatClampNeg) 4) with _ | ⟨v5, S5⟩
    · rw [h5] at hG; cases hG
    rw [h5] at hG
    dsimp only at hG
    refine Ev.c (a := 92) (A := [.int (S4.1 (11 + (x1).toNatClampNeg) 4)]) (h1 := hh S4) (pc' := 44) (L' := [.ref 1, .int x1, .ref (11 + (x1).toNatClampNeg), .int (((xa_u S.1 (11 + (x1).toNatClampNeg) 9 0) (11 + (x1).toNatClampNeg) 0) + v4), .retAddr 0, .retAddr 0]) (rest := [.int (S4.1 (11 + (x1).toNatClampNeg) 1)]) (r1 := some (.int v5)) (h2 := hh S5) 1 (fun n => B_90_11 n x1 S v4 S4) (Ev.up (by decide) (T_92 S4 (S4.1 (11 + (x1).toNatClampNeg) 4) _ _ h5)) ?_
    show Ev X _ 90 44 [.ref 1, .int x1, .ref (11 + (x1).toNatClampNeg), .int (((xa_u S.1 (11 + (x1).toNatClampNeg) 9 0) (11 + (x1).toNatClampNeg) 0) + v4), .retAddr 0, .retAddr 0] [.int v5, .int (S4.1 (11 + (x1).toNatClampNeg) 1)] (hh S5) _
    refine Ev.g (c := (kd (11 + (x1).toNatClampNeg)).1 = 10 + 0) (p1 := 54) (L1 := [.ref 1, .int x1, .ref (11 + (x1).toNatClampNeg), .int (((xa_u S.1 (11 + (x1).toNatClampNeg) 9 0) (11 + (x1).toNatClampNeg) 0) + v4), .int ((S4.1 (11 + (x1).toNatClampNeg) 1) + v5), .retAddr 0]) (s1 := [.int (S5.1 (11 + (x1).toNatClampNeg) 2), .int ((S4.1 (11 + (x1).toNatClampNeg) 1) + v5), .int (((xa_u S.1 (11 + (x1).toNatClampNeg) 9 0) (11 + (x1).toNatClampNeg) 0) + v4)]) (h1 := hh S5) 6 (fun n => B_90_12 n x1 S v4 v5 S4 S5) g2 ?_
    rcases h6 : G_93 S5 (((xa_u S.1 (11 + (x1).toNatClampNeg) 9 0) (11 + (x1).toNatClampNeg) 0) + v4) ((S4.1 (11 + (x1).toNatClampNeg) 1) + v5) (S5.1 (11 + (x1).toNatClampNeg) 2) with _ | ⟨v6, S6⟩
    · rw [h6] at hG; cases hG
    rw [h6] at hG
    dsimp only at hG
    refine Ev.c (a := 93) (A := [.int (((xa_u S.1 (11 + (x1).toNatClampNeg) 9 0) (11 + (x1).toNatClampNeg) 0) + v4), .int ((S4.1 (11 + (x1).toNatClampNeg) 1) + v5), .int (S5.1 (11 + (x1).toNatClampNeg) 2)]) (h1 := hh S5) (pc' := 57) (L' := [.ref 1, .int x1, .ref (11 + (x1).toNatClampNeg), .int (((xa_u S.1 (11 + (x1).toNatClampNeg) 9 0) (11 + (x1).toNatClampNeg) 0) + v4), .int ((S4.1 (11 + (x1).toNatClampNeg) 1) + v5), .retAddr 0]) (rest := []) (r1 := some (.int v6)) (h2 := hh S6) 1 (fun n => B_90_13 n x1 S v4 S4 v5 S5) (Ev.up (by decide) (T_93 S5 (((xa_u S.1 (11 + (x1).toNatClampNeg) 9 0) (11 + (x1).toNatClampNeg) 0) + v4) ((S4.1 (11 + (x1).toNatClampNeg) 1) + v5) (S5.1 (11 + (x1).toNatClampNeg) 2) _ _ h6)) ?_
    show Ev X _ 90 57 [.ref 1, .int x1, .ref (11 + (x1).toNatClampNeg), .int (((xa_u S.1 (11 + (x1).toNatClampNeg) 9 0) (11 + (x1).toNatClampNeg) 0) + v4), .int ((S4.1 (11 + (x1).toNatClampNeg) 1) + v5), .retAddr 0] [.int v6] (hh S6) _
    by_cases c7 : v6 = 0
    · rw [if_pos c7] at hG
      refine Ev.t (c := v6 = 0) (p1 := 64) (L1 := [.ref 1, .int x1, .ref (11 + (x1).toNatClampNeg), .int (((xa_u S.1 (11 + (x1).toNatClampNeg) 9 0) (11 + (x1).toNatClampNeg) 0) + v4), .int ((S4.1 (11 + (x1).toNatClampNeg) 1) + v5), .int v6]) (s1 := []) (h1 := hh S6) (p2 := 106) (L2 := [.ref 1, .int x1, .ref (11 + (x1).toNatClampNeg), .int (((xa_u S.1 (11 + (x1).toNatClampNeg) 9 0) (11 + (x1).toNatClampNeg) 0) + v4), .int ((S4.1 (11 + (x1).toNatClampNeg) 1) + v5), .int v6]) (s2 := []) (h2 := hh S6) 3 (fun n => B_90_14 n x1 S v4 S4 v5 v6 S6) c7 ?_
      rcases h8 : G_94 S6 (11 + (x1).toNatClampNeg) (((xa_u S.1 (11 + (x1).toNatClampNeg) 9 0) (11 + (x1).toNatClampNeg) 0) + v4) ((S4.1 (11 + (x1).toNatClampNeg) 1) + v5) with _ | ⟨v8, S8⟩
      · rw [h8] at hG; cases hG
      rw [h8] at hG
      dsimp only at hG
      refine Ev.c (a := 94) (A := [.ref 2, .ref (11 + (x1).toNatClampNeg), .int (((xa_u S.1 (11 + (x1).toNatClampNeg) 9 0) (11 + (x1).toNatClampNeg) 0) + v4), .int ((S4.1 (11 + (x1).toNatClampNeg) 1) + v5)]) (h1 := hh S6) (pc' := 75) (L' := [.ref 1, .int x1, .ref (11 + (x1).toNatClampNeg), .int (((xa_u S.1 (11 + (x1).toNatClampNeg) 9 0) (11 + (x1).toNatClampNeg) 0) + v4), .int ((S4.1 (11 + (x1).toNatClampNeg) 1) + v5), .int v6]) (rest := []) (r1 := some (.int v8)) (h2 := hh S8) 6 (fun n => B_90_15 n x1 S v4 S4 v5 v6 S6) (Ev.up (by decide) (T_94 S6 (11 + (x1).toNatClampNeg) (((xa_u S.1 (11 + (x1).toNatClampNeg) 9 0) (11 + (x1).toNatClampNeg) 0) + v4) ((S4.1 (11 + (x1).toNatClampNeg) 1) + v5) _ _ h8)) ?_
      show Ev X _ 90 75 [.ref 1, .int x1, .ref (11 + (x1).toNatClampNeg), .int (((xa_u S.1 (11 + (x1).toNatClampNeg) 9 0) (11 + (x1).toNatClampNeg) 0) + v4), .int ((S4.1 (11 + (x1).toNatClampNeg) 1) + v5), .int v6] [.int v8] (hh S8) _
      by_cases c9 : v8 = 0
      · rw [if_pos c9] at hG
        refine Ev.t (c := v8 = 0) (p1 := 78) (L1 := [.ref 1, .int x1, .ref (11 + (x1).toNatClampNeg), .int (((xa_u S.1 (11 + (x1).toNatClampNeg) 9 0) (11 + (x1).toNatClampNeg) 0) + v4), .int ((S4.1 (11 + (x1).toNatClampNeg) 1) + v5), .int v6]) (s1 := []) (h1 := hh S8) (p2 := 106) (L2 := [.ref 1, .int x1, .ref (11 + (x1).toNatClampNeg), .int (((xa_u S.1 (11 + (x1).toNatClampNeg) 9 0) (11 + (x1).toNatClampNeg) 0) + v4), .int ((S4.1 (11 + (x1).toNatClampNeg) 1) + v5), .int v6]) (s2 := []) (h2 := hh S8) 1 (fun n => B_90_16 n x1 S v4 S4 v5 v6 v8 S8) c9 ?_
        rcases h10 : G_95 S8 x1 (((xa_u S.1 (11 + (x1).toNatClampNeg) 9 0) (11 + (x1).toNatClampNeg) 0) + v4) ((S4.1 (11 + (x1).toNatClampNeg) 1) + v5) with _ | ⟨v10, S10⟩
        · rw [h10] at hG; cases hG
        rw [h10] at hG
        dsimp only at hG
        refine Ev.c (a := 95) (A := [.ref 1, .int x1, .int (((xa_u S.1 (11 + (x1).toNatClampNeg) 9 0) (11 + (x1).toNatClampNeg) 0) + v4), .int ((S4.1 (11 + (x1).toNatClampNeg) 1) + v5), .retAddr 0, .retAddr 0, .retAddr 0]) (h1 := hh S8) (pc' := 86) (L' := [.ref 1, .int x1, .ref (11 + (x1).toNatClampNeg), .int (((xa_u S.1 (11 + (x1).toNatClampNeg) 9 0) (11 + (x1).toNatClampNeg) 0) + v4), .int ((S4.1 (11 + (x1).toNatClampNeg) 1) + v5), .int v6]) (rest := []) (r1 := some (.int v10)) (h2 := hh S10) 5 (fun n => B_90_17 n x1 S v4 S4 v5 v6 S8) (Ev.up (by decide) (T_95 S8 x1 (((xa_u S.1 (11 + (x1).toNatClampNeg) 9 0) (11 + (x1).toNatClampNeg) 0) + v4) ((S4.1 (11 + (x1).toNatClampNeg) 1) + v5) _ _ h10)) ?_
        show Ev X _ 90 86 [.ref 1, .int x1, .ref (11 + (x1).toNatClampNeg), .int (((xa_u S.1 (11 + (x1).toNatClampNeg) 9 0) (11 + (x1).toNatClampNeg) 0) + v4), .int ((S4.1 (11 + (x1).toNatClampNeg) 1) + v5), .int v6] [.int v10] (hh S10) _
        by_cases c11 : v10 = 0
        · rw [if_pos c11] at hG
          refine Ev.t (c := v10 = 0) (p1 := 89) (L1 := [.ref 1, .int x1, .ref (11 + (x1).toNatClampNeg), .int (((xa_u S.1 (11 + (x1).toNatClampNeg) 9 0) (11 + (x1).toNatClampNeg) 0) + v4), .int ((S4.1 (11 + (x1).toNatClampNeg) 1) + v5), .int v6]) (s1 := []) (h1 := hh S10) (p2 := 106) (L2 := [.ref 1, .int x1, .ref (11 + (x1).toNatClampNeg), .int (((xa_u S.1 (11 + (x1).toNatClampNeg) 9 0) (11 + (x1).toNatClampNeg) 0) + v4), .int ((S4.1 (11 + (x1).toNatClampNeg) 1) + v5), .int v6]) (s2 := []) (h2 := hh S10) 1 (fun n => B_90_18 n x1 S v4 S4 v5 v6 v10 S10) c11 ?_
          refine Ev.g (c := (kd (11 + (x1).toNatClampNeg)).1 = 10 + 0 ∧ (xf_k 0 0 = 0 ∨ (xf_k 0 0 = 1 ∧ ((((xa_u S.1 (11 + (x1).toNatClampNeg) 9 0) (11 + (x1).toNatClampNeg) 0) + v4) = 0 ∨ (((xa_u S.1 (11 + (x1).toNatClampNeg) 9 0) (11 + (x1).toNatClampNeg) 0) + v4) = 1)))) (p1 := 94) (L1 := [.ref 1, .int x1, .ref (11 + (x1).toNatClampNeg), .int (((xa_u S.1 (11 + (x1).toNatClampNeg) 9 0) (11 + (x1).toNatClampNeg) 0) + v4), .int ((S4.1 (11 + (x1).toNatClampNeg) 1) + v5), .int v6]) (s1 := []) (h1 := hh (xa_u S10.1 (11 + (x1).toNatClampNeg) 0 (((xa_u S.1 (11 + (x1).toNatClampNeg) 9 0) (11 + (x1).toNatClampNeg) 0) + v4), S10.2.1, S10.2.2)) 3 (fun n => B_90_19 n x1 S v4 S4 v5 v6 S10) (⟨g2, Or.inl rfl⟩) ?_
          refine Ev.g (c := (kd (11 + (x1).toNatClampNeg)).1 = 10 + 0 ∧ (xf_k 0 1 = 0 ∨ (xf_k 0 1 = 1 ∧ (((S4.1 (11 + (x1).toNatClampNeg) 1) + v5) = 0 ∨ ((S4.1 (11 + (x1).toNatClampNeg) 1) + v5) = 1)))) (p1 := 100) (L1 := [.ref 1, .int x1, .ref (11 + (x1).toNatClampNeg), .int (((xa_u S.1 (11 + (x1).toNatClampNeg) 9 0) (11 + (x1).toNatClampNeg) 0) + v4), .int ((S4.1 (11 + (x1).toNatClampNeg) 1) + v5), .int v6]) (s1 := []) (h1 := hh (xa_u (xa_u S10.1 (11 + (x1).toNatClampNeg) 0 (((xa_u S.1 (11 + (x1).toNatClampNeg) 9 0) (11 + (x1).toNatClampNeg) 0) + v4)) (11 + (x1).toNatClampNeg) 1 ((S4.1 (11 + (x1).toNatClampNeg) 1) + v5), S10.2.1, S10.2.2)) 3 (fun n => B_90_20 n x1 S v4 S4 v5 v6 S10) (⟨g2, Or.inl rfl⟩) ?_
          refine Ev.g (c := (kd (11 + (x1).toNatClampNeg)).1 = 10 + 0 ∧ (xf_k 0 9 = 0 ∨ (xf_k 0 9 = 1 ∧ ((1 : Int32) = 0 ∨ (1 : Int32) = 1)))) (p1 := 105) (L1 := [.ref 1, .int x1, .ref (11 + (x1).toNatClampNeg), .int (((xa_u S.1 (11 + (x1).toNatClampNeg) 9 0) (11 + (x1).toNatClampNeg) 0) + v4), .int ((S4.1 (11 + (x1).toNatClampNeg) 1) + v5), .int v6]) (s1 := []) (h1 := hh (xa_u (xa_u (xa_u S10.1 (11 + (x1).toNatClampNeg) 0 (((xa_u S.1 (11 + (x1).toNatClampNeg) 9 0) (11 + (x1).toNatClampNeg) 0) + v4)) (11 + (x1).toNatClampNeg) 1 ((S4.1 (11 + (x1).toNatClampNeg) 1) + v5)) (11 + (x1).toNatClampNeg) 9 1, S10.2.1, S10.2.2)) 3 (fun n => B_90_21 n x1 S v4 S4 v5 v6 S10) (⟨g2, Or.inr ⟨rfl, by decide⟩⟩) ?_
          obtain ⟨e1, e2⟩ := Prod.mk.inj (Option.some.inj hG)
          subst e1
          subst e2
          exact Ev.r 1 (fun n => rfl)
        · rw [if_neg c11] at hG
          refine Ev.f (c := v10 = 0) (p1 := 89) (L1 := [.ref 1, .int x1, .ref (11 + (x1).toNatClampNeg), .int (((xa_u S.1 (11 + (x1).toNatClampNeg) 9 0) (11 + (x1).toNatClampNeg) 0) + v4), .int ((S4.1 (11 + (x1).toNatClampNeg) 1) + v5), .int v6]) (s1 := []) (h1 := hh S10) (p2 := 106) (L2 := [.ref 1, .int x1, .ref (11 + (x1).toNatClampNeg), .int (((xa_u S.1 (11 + (x1).toNatClampNeg) 9 0) (11 + (x1).toNatClampNeg) 0) + v4), .int ((S4.1 (11 + (x1).toNatClampNeg) 1) + v5), .int v6]) (s2 := []) (h2 := hh S10) 1 (fun n => B_90_22 n x1 S v4 S4 v5 v6 v10 S10) c11 ?_
          refine Ev.g (c := (kd (11 + (x1).toNatClampNeg)).1 = 10 + 0) (p1 := 110) (L1 := [.ref 1, .int x1, .ref (11 + (x1).toNatClampNeg), .int (((xa_u S.1 (11 + (x1).toNatClampNeg) 9 0) (11 + (x1).toNatClampNeg) 0) + v4), .int ((S4.1 (11 + (x1).toNatClampNeg) 1) + v5), .int v6]) (s1 := [.int (S10.1 (11 + (x1).toNatClampNeg) 5)]) (h1 := hh S10) 2 (fun n => B_90_23 n x1 S v4 S4 v5 v6 S10) g2 ?_
          by_cases c12 : (S10.1 (11 + (x1).toNatClampNeg) 5) = 3
          · rw [if_pos c12] at hG
            refine Ev.t (c := (S10.1 (11 + (x1).toNatClampNeg) 5) = 3) (p1 := 119) (L1 := [.ref 1, .int x1, .ref (11 + (x1).toNatClampNeg), .int (((xa_u S.1 (11 + (x1).toNatClampNeg) 9 0) (11 + (x1).toNatClampNeg) 0) + v4), .int ((S4.1 (11 + (x1).toNatClampNeg) 1) + v5), .int v6]) (s1 := []) (h1 := hh S10) (p2 := 114) (L2 := [.ref 1, .int x1, .ref (11 + (x1).toNatClampNeg), .int (((xa_u S.1 (11 + (x1).toNatClampNeg) 9 0) (11 + (x1).toNatClampNeg) 0) + v4), .int ((S4.1 (11 + (x1).toNatClampNeg) 1) + v5), .int v6]) (s2 := []) (h2 := hh S10) 2 (fun n => B_90_24 n x1 S v4 S4 v5 v6 S10) c12 ?_
            by_cases c13 : x1 = 0
            · rw [if_pos c13] at hG
              refine Ev.t (c := x1 = 0) (p1 := 123) (L1 := [.ref 1, .int x1, .ref (11 + (x1).toNatClampNeg), .int (((xa_u S.1 (11 + (x1).toNatClampNeg) 9 0) (11 + (x1).toNatClampNeg) 0) + v4), .int ((S4.1 (11 + (x1).toNatClampNeg) 1) + v5), .int v6]) (s1 := []) (h1 := hh S10) (p2 := 136) (L2 := [.ref 1, .int x1, .ref (11 + (x1).toNatClampNeg), .int (((xa_u S.1 (11 + (x1).toNatClampNeg) 9 0) (11 + (x1).toNatClampNeg) 0) + v4), .int ((S4.1 (11 + (x1).toNatClampNeg) 1) + v5), .int v6]) (s2 := []) (h2 := hh S10) 2 (fun n => B_90_25 n x1 S v4 S4 v5 v6 S10) c13 ?_
              refine Ev.t (c := v6 = 0) (p1 := 136) (L1 := [.ref 1, .int x1, .ref (11 + (x1).toNatClampNeg), .int (((xa_u S.1 (11 + (x1).toNatClampNeg) 9 0) (11 + (x1).toNatClampNeg) 0) + v4), .int ((S4.1 (11 + (x1).toNatClampNeg) 1) + v5), .int v6]) (s1 := []) (h1 := hh S10) (p2 := 128) (L2 := [.ref 1, .int x1, .ref (11 + (x1).toNatClampNeg), .int (((xa_u S.1 (11 + (x1).toNatClampNeg) 9 0) (11 + (x1).toNatClampNeg) 0) + v4), .int ((S4.1 (11 + (x1).toNatClampNeg) 1) + v5), .int v6]) (s2 := []) (h2 := hh S10) 2 (fun n => B_90_26 n x1 S v4 S4 v5 v6 S10) c7 ?_
              obtain ⟨e1, e2⟩ := Prod.mk.inj (Option.some.inj hG)
              subst e1
              subst e2
              exact Ev.r 1 (fun n => rfl)
            · rw [if_neg c13] at hG
              refine Ev.f (c := x1 = 0) (p1 := 123) (L1 := [.ref 1, .int x1, .ref (11 + (x1).toNatClampNeg), .int (((xa_u S.1 (11 + (x1).toNatClampNeg) 9 0) (11 + (x1).toNatClampNeg) 0) + v4), .int ((S4.1 (11 + (x1).toNatClampNeg) 1) + v5), .int v6]) (s1 := []) (h1 := hh S10) (p2 := 136) (L2 := [.ref 1, .int x1, .ref (11 + (x1).toNatClampNeg), .int (((xa_u S.1 (11 + (x1).toNatClampNeg) 9 0) (11 + (x1).toNatClampNeg) 0) + v4), .int ((S4.1 (11 + (x1).toNatClampNeg) 1) + v5), .int v6]) (s2 := []) (h2 := hh S10) 2 (fun n => B_90_27 n x1 S v4 S4 v5 v6 S10) c13 ?_
              obtain ⟨e1, e2⟩ := Prod.mk.inj (Option.some.inj hG)
              subst e1
              subst e2
              exact Ev.r 1 (fun n => rfl)
          · rw [if_neg c12] at hG
            refine Ev.f (c := (S10.1 (11 + (x1).toNatClampNeg) 5) = 3) (p1 := 119) (L1 := [.ref 1, .int x1, .ref (11 + (x1).toNatClampNeg), .int (((xa_u S.1 (11 + (x1).toNatClampNeg) 9 0) (11 + (x1).toNatClampNeg) 0) + v4), .int ((S4.1 (11 + (x1).toNatClampNeg) 1) + v5), .int v6]) (s1 := []) (h1 := hh S10) (p2 := 114) (L2 := [.ref 1, .int x1, .ref (11 + (x1).toNatClampNeg), .int (((xa_u S.1 (11 + (x1).toNatClampNeg) 9 0) (11 + (x1).toNatClampNeg) 0) + v4), .int ((S4.1 (11 + (x1).toNatClampNeg) 1) + v5), .int v6]) (s2 := []) (h2 := hh S10) 2 (fun n => B_90_28 n x1 S v4 S4 v5 v6 S10) c12 ?_
            refine Ev.g (c := (kd (11 + (x1).toNatClampNeg)).1 = 10 + 0 ∧ (xf_k 0 4 = 0 ∨ (xf_k 0 4 = 1 ∧ ((0 : Int32) = 0 ∨ (0 : Int32) = 1)))) (p1 := 119) (L1 := [.ref 1, .int x1, .ref (11 + (x1).toNatClampNeg), .int (((xa_u S.1 (11 + (x1).toNatClampNeg) 9 0) (11 + (x1).toNatClampNeg) 0) + v4), .int ((S4.1 (11 + (x1).toNatClampNeg) 1) + v5), .int v6]) (s1 := []) (h1 := hh (xa_u S10.1 (11 + (x1).toNatClampNeg) 4 0, S10.2.1, S10.2.2)) 3 (fun n => B_90_29 n x1 S v4 S4 v5 v6 S10) (⟨g2, Or.inl rfl⟩) ?_
            by_cases c14 : x1 = 0
            · rw [if_pos c14] at hG
              refine Ev.t (c := x1 = 0) (p1 := 123) (L1 := [.ref 1, .int x1, .ref (11 + (x1).toNatClampNeg), .int (((xa_u S.1 (11 + (x1).toNatClampNeg) 9 0) (11 + (x1).toNatClampNeg) 0) + v4), .int ((S4.1 (11 + (x1).toNatClampNeg) 1) + v5), .int v6]) (s1 := []) (h1 := hh (xa_u S10.1 (11 + (x1).toNatClampNeg) 4 0, S10.2.1, S10.2.2)) (p2 := 136) (L2 := [.ref 1, .int x1, .ref (11 + (x1).toNatClampNeg), .int (((xa_u S.1 (11 + (x1).toNatClampNeg) 9 0) (11 + (x1).toNatClampNeg) 0) + v4), .int ((S4.1 (11 + (x1).toNatClampNeg) 1) + v5), .int v6]) (s2 := []) (h2 := hh (xa_u S10.1 (11 + (x1).toNatClampNeg) 4 0, S10.2.1, S10.2.2)) 2 (fun n => B_90_30 n x1 S v4 S4 v5 v6 S10) c14 ?_
              refine Ev.t (c := v6 = 0) (p1 := 136) (L1 := [.ref 1, .int x1, .ref (11 + (x1).toNatClampNeg), .int (((xa_u S.1 (11 + (x1).toNatClampNeg) 9 0) (11 + (x1).toNatClampNeg) 0) + v4), .int ((S4.1 (11 + (x1).toNatClampNeg) 1) + v5), .int v6]) (s1 := []) (h1 := hh (xa_u S10.1 (11 + (x1).toNatClampNeg) 4 0, S10.2.1, S10.2.2)) (p2 := 128) (L2 := [.ref 1, .int x1, .ref (11 + (x1).toNatClampNeg), .int (((xa_u S.1 (11 + (x1).toNatClampNeg) 9 0) (11 + (x1).toNatClampNeg) 0) + v4), .int ((S4.1 (11 + (x1).toNatClampNeg) 1) + v5), .int v6]) (s2 := []) (h2 := hh (xa_u S10.1 (11 + (x1).toNatClampNeg) 4 0, S10.2.1, S10.2.2)) 2 (fun n => B_90_31 n x1 S v4 S4 v5 v6 S10) c7 ?_
              obtain ⟨e1, e2⟩ := Prod.mk.inj (Option.some.inj hG)
              subst e1
              subst e2
              exact Ev.r 1 (fun n => rfl)
            · rw [if_neg c14] at hG
              refine Ev.f (c := x1 = 0) (p1 := 123) (L1 := [.ref 1, .int x1, .ref (11 + (x1).toNatClampNeg), .int (((xa_u S.1 (11 + (x1).toNatClampNeg) 9 0) (11 + (x1).toNatClampNeg) 0) + v4), .int ((S4.1 (11 + (x1).toNatClampNeg) 1) + v5), .int v6]) (s1 := []) (h1 := hh (xa_u S10.1 (11 + (x1).toNatClampNeg) 4 0, S10.2.1, S10.2.2)) (p2 := 136) (L2 := [.ref 1, .int x1, .ref (11 + (x1).toNatClampNeg), .int (((xa_u S.1 (11 + (x1).toNatClampNeg) 9 0) (11 + (x1).toNatClampNeg) 0) + v4), .int ((S4.1 (11 + (x1).toNatClampNeg) 1) + v5), .int v6]) (s2 := []) (h2 := hh (xa_u S10.1 (11 + (x1).toNatClampNeg) 4 0, S10.2.1, S10.2.2)) 2 (fun n => B_90_32 n x1 S v4 S4 v5 v6 S10) c14 ?_
              obtain ⟨e1, e2⟩ := Prod.mk.inj (Option.some.inj hG)
              subst e1
              subst e2
              exact Ev.r 1 (fun n => rfl)
      · rw [if_neg c9] at hG
        refine Ev.f (c := v8 = 0) (p1 := 78) (L1 := [.ref 1, .int x1, .ref (11 + (x1).toNatClampNeg), .int (((xa_u S.1 (11 + (x1).toNatClampNeg) 9 0) (11 + (x1).toNatClampNeg) 0) + v4), .int ((S4.1 (11 + (x1).toNatClampNeg) 1) + v5), .int v6]) (s1 := []) (h1 := hh S8) (p2 := 106) (L2 := [.ref 1, .int x1, .ref (11 + (x1).toNatClampNeg), .int (((xa_u S.1 (11 + (x1).toNatClampNeg) 9 0) (11 + (x1).toNatClampNeg) 0) + v4), .int ((S4.1 (11 + (x1).toNatClampNeg) 1) + v5), .int v6]) (s2 := []) (h2 := hh S8) 1 (fun n => B_90_33 n x1 S v4 S4 v5 v6 v8 S8) c9 ?_
        refine Ev.g (c := (kd (11 + (x1).toNatClampNeg)).1 = 10 + 0) (p1 := 110) (L1 := [.ref 1, .int x1, .ref (11 + (x1).toNatClampNeg), .int (((xa_u S.1 (11 + (x1).toNatClampNeg) 9 0) (11 + (x1).toNatClampNeg) 0) + v4), .int ((S4.1 (11 + (x1).toNatClampNeg) 1) + v5), .int v6]) (s1 := [.int (S8.1 (11 + (x1).toNatClampNeg) 5)]) (h1 := hh S8) 2 (fun n => B_90_34 n x1 S v4 S4 v5 v6 S8) g2 ?_
        by_cases c15 : (S8.1 (11 + (x1).toNatClampNeg) 5) = 3
        · rw [if_pos c15] at hG
          refine Ev.t (c := (S8.1 (11 + (x1).toNatClampNeg) 5) = 3) (p1 := 119) (L1 := [.ref 1, .int x1, .ref (11 + (x1).toNatClampNeg), .int (((xa_u S.1 (11 + (x1).toNatClampNeg) 9 0) (11 + (x1).toNatClampNeg) 0) + v4), .int ((S4.1 (11 + (x1).toNatClampNeg) 1) + v5), .int v6]) (s1 := []) (h1 := hh S8) (p2 := 114) (L2 := [.ref 1, .int x1, .ref (11 + (x1).toNatClampNeg), .int (((xa_u S.1 (11 + (x1).toNatClampNeg) 9 0) (11 + (x1).toNatClampNeg) 0) + v4), .int ((S4.1 (11 + (x1).toNatClampNeg) 1) + v5), .int v6]) (s2 := []) (h2 := hh S8) 2 (fun n => B_90_35 n x1 S v4 S4 v5 v6 S8) c15 ?_
          by_cases c16 : x1 = 0
          · rw [if_pos c16] at hG
            refine Ev.t (c := x1 = 0) (p1 := 123) (L1 := [.ref 1, .int x1, .ref (11 + (x1).toNatClampNeg), .int (((xa_u S.1 (11 + (x1).toNatClampNeg) 9 0) (11 + (x1).toNatClampNeg) 0) + v4), .int ((S4.1 (11 + (x1).toNatClampNeg) 1) + v5), .int v6]) (s1 := []) (h1 := hh S8) (p2 := 136) (L2 := [.ref 1, .int x1, .ref (11 + (x1).toNatClampNeg), .int (((xa_u S.1 (11 + (x1).toNatClampNeg) 9 0) (11 + (x1).toNatClampNeg) 0) + v4), .int ((S4.1 (11 + (x1).toNatClampNeg) 1) + v5), .int v6]) (s2 := []) (h2 := hh S8) 2 (fun n => B_90_36 n x1 S v4 S4 v5 v6 S8) c16 ?_
            refine Ev.t (c := v6 = 0) (p1 := 136) (L1 := [.ref 1, .int x1, .ref (11 + (x1).toNatClampNeg), .int (((xa_u S.1 (11 + (x1).toNatClampNeg) 9 0) (11 + (x1).toNatClampNeg) 0) + v4), .int ((S4.1 (11 + (x1).toNatClampNeg) 1) + v5), .int v6]) (s1 := []) (h1 := hh S8) (p2 := 128) (L2 := [.ref 1, .int x1, .ref (11 + (x1).toNatClampNeg), .int (((xa_u S.1 (11 + (x1).toNatClampNeg) 9 0) (11 + (x1).toNatClampNeg) 0) + v4), .int ((S4.1 (11 + (x1).toNatClampNeg) 1) + v5), .int v6]) (s2 := []) (h2 := hh S8) 2 (fun n => B_90_37 n x1 S v4 S4 v5 v6 S8) c7 ?_
            obtain ⟨e1, e2⟩ := Prod.mk.inj (Option.some.inj hG)
            subst e1
            subst e2
            exact Ev.r 1 (fun n => rfl)
          · rw [if_neg c16] at hG
            refine Ev.f (c := x1 = 0) (p1 := 123) (L1 := [.ref 1, .int x1, .ref (11 + (x1).toNatClampNeg), .int (((xa_u S.1 (11 + (x1).toNatClampNeg) 9 0) (11 + (x1).toNatClampNeg) 0) + v4), .int ((S4.1 (11 + (x1).toNatClampNeg) 1) + v5), .int v6]) (s1 := []) (h1 := hh S8) (p2 := 136) (L2 := [.ref 1, .int x1, .ref (11 + (x1).toNatClampNeg), .int (((xa_u S.1 (11 + (x1).toNatClampNeg) 9 0) (11 + (x1).toNatClampNeg) 0) + v4), .int ((S4.1 (11 + (x1).toNatClampNeg) 1) + v5), .int v6]) (s2 := []) (h2 := hh S8) 2 (fun n => B_90_38 n x1 S v4 S4 v5 v6 S8) c16 ?_
            obtain ⟨e1, e2⟩ := Prod.mk.inj (Option.some.inj hG)
            subst e1
            subst e2
            exact Ev.r 1 (fun n => rfl)
        · rw [if_neg c15] at hG
          refine Ev.f (c := (S8.1 (11 + (x1).toNatClampNeg) 5) = 3) (p1 := 119) (L1 := [.ref 1, .int x1, .ref (11 + (x1).toNatClampNeg), .int (((xa_u S.1 (11 + (x1).toNatClampNeg) 9 0) (11 + (x1).toNatClampNeg) 0) + v4), .int ((S4.1 (11 + (x1).toNatClampNeg) 1) + v5), .int v6]) (s1 := []) (h1 := hh S8) (p2 := 114) (L2 := [.ref 1, .int x1, .ref (11 + (x1).toNatClampNeg), .int (((xa_u S.1 (11 + (x1).toNatClampNeg) 9 0) (11 + (x1).toNatClampNeg) 0) + v4), .int ((S4.1 (11 + (x1).toNatClampNeg) 1) + v5), .int v6]) (s2 := []) (h2 := hh S8) 2 (fun n => B_90_39 n x1 S v4 S4 v5 v6 S8) c15 ?_
          refine Ev.g (c := (kd (11 + (x1).toNatClampNeg)).1 = 10 + 0 ∧ (xf_k 0 4 = 0 ∨ (xf_k 0 4 = 1 ∧ ((0 : Int32) = 0 ∨ (0 : Int32) = 1)))) (p1 := 119) (L1 := [.ref 1, .int x1, .ref (11 + (x1).toNatClampNeg), .int (((xa_u S.1 (11 + (x1).toNatClampNeg) 9 0) (11 + (x1).toNatClampNeg) 0) + v4), .int ((S4.1 (11 + (x1).toNatClampNeg) 1) + v5), .int v6]) (s1 := []) (h1 := hh (xa_u S8.1 (11 + (x1).toNatClampNeg) 4 0, S8.2.1, S8.2.2)) 3 (fun n => B_90_40 n x1 S v4 S4 v5 v6 S8) (⟨g2, Or.inl rfl⟩) ?_
          by_cases c17 : x1 = 0
          · rw [if_pos c17] at hG
            refine Ev.t (c := x1 = 0) (p1 := 123) (L1 := [.ref 1, .int x1, .ref (11 + (x1).toNatClampNeg), .int (((xa_u S.1 (11 + (x1).toNatClampNeg) 9 0) (11 + (x1).toNatClampNeg) 0) + v4), .int ((S4.1 (11 + (x1).toNatClampNeg) 1) + v5), .int v6]) (s1 := []) (h1 := hh (xa_u S8.1 (11 + (x1).toNatClampNeg) 4 0, S8.2.1, S8.2.2)) (p2 := 136) (L2 := [.ref 1, .int x1, .ref (11 + (x1).toNatClampNeg), .int (((xa_u S.1 (11 + (x1).toNatClampNeg) 9 0) (11 + (x1).toNatClampNeg) 0) + v4), .int ((S4.1 (11 + (x1).toNatClampNeg) 1) + v5), .int v6]) (s2 := []) (h2 := hh (xa_u S8.1 (11 + (x1).toNatClampNeg) 4 0, S8.2.1, S8.2.2)) 2 (fun n => B_90_41 n x1 S v4 S4 v5 v6 S8) c17 ?_
            refine Ev.t (c := v6 = 0) (p1 := 136) (L1 := [.ref 1, .int x1, .ref (11 + (x1).toNatClampNeg), .int (((xa_u S.1 (11 + (x1).toNatClampNeg) 9 0) (11 + (x1).toNatClampNeg) 0) + v4), .int ((S4.1 (11 + (x1).toNatClampNeg) 1) + v5), .int v6]) (s1 := []) (h1 := hh (xa_u S8.1 (11 + (x1).toNatClampNeg) 4 0, S8.2.1, S8.2.2)) (p2 := 128) (L2 := [.ref 1, .int x1, .ref (11 + (x1).toNatClampNeg), .int (((xa_u S.1 (11 + (x1).toNatClampNeg) 9 0) (11 + (x1).toNatClampNeg) 0) + v4), .int ((S4.1 (11 + (x1).toNatClampNeg) 1) + v5), .int v6]) (s2 := []) (h2 := hh (xa_u S8.1 (11 + (x1).toNatClampNeg) 4 0, S8.2.1, S8.2.2)) 2 (fun n => B_90_42 n x1 S v4 S4 v5 v6 S8) c7 ?_
            obtain ⟨e1, e2⟩ := Prod.mk.inj (Option.some.inj hG)
            subst e1
            subst e2
            exact Ev.r 1 (fun n => rfl)
          · rw [if_neg c17] at hG
            refine Ev.f (c := x1 = 0) (p1 := 123) (L1 := [.ref 1, .int x1, .ref (11 + (x1).toNatClampNeg), .int (((xa_u S.1 (11 + (x1).toNatClampNeg) 9 0) (11 + (x1).toNatClampNeg) 0) + v4), .int ((S4.1 (11 + (x1).toNatClampNeg) 1) + v5), .int v6]) (s1 := []) (h1 := hh (xa_u S8.1 (11 + (x1).toNatClampNeg) 4 0, S8.2.1, S8.2.2)) (p2 := 136) (L2 := [.ref 1, .int x1, .ref (11 + (x1).toNatClampNeg), .int (((xa_u S.1 (11 + (x1).toNatClampNeg) 9 0) (11 + (x1).toNatClampNeg) 0) + v4), .int ((S4.1 (11 + (x1).toNatClampNeg) 1) + v5), .int v6]) (s2 := []) (h2 := hh (xa_u S8.1 (11 + (x1).toNatClampNeg) 4 0, S8.2.1, S8.2.2)) 2 (fun n => B_90_43 n x1 S v4 S4 v5 v6 S8) c17 ?_
            obtain ⟨e1, e2⟩ := Prod.mk.inj (Option.some.inj hG)
            subst e1
            subst e2
            exact Ev.r 1 (fun n => rfl)
    · rw [if_neg c7] at hG
      refine Ev.f (c := v6 = 0) (p1 := 64) (L1 := [.ref 1, .int x1, .ref (11 + (x1).toNatClampNeg), .int (((xa_u S.1 (11 + (x1).toNatClampNeg) 9 0) (11 + (x1).toNatClampNeg) 0) + v4), .int ((S4.1 (11 + (x1).toNatClampNeg) 1) + v5), .int v6]) (s1 := []) (h1 := hh S6) (p2 := 106) (L2 := [.ref 1, .int x1, .ref (11 + (x1).toNatClampNeg), .int (((xa_u S.1 (11 + (x1).toNatClampNeg) 9 0) (11 + (x1).toNatClampNeg) 0) + v4), .int ((S4.1 (11 + (x1).toNatClampNeg) 1) + v5), .int v6]) (s2 := []) (h2 := hh S6) 3 (fun n => B_90_44 n x1 S v4 S4 v5 v6 S6) c7 ?_
      refine Ev.g (c := (kd (11 + (x1).toNatClampNeg)).1 = 10 + 0) (p1 := 110) (L1 := [.ref 1, .int x1, .ref (11 + (x1).toNatClampNeg), .int (((xa_u S.1 (11 + (x1).toNatClampNeg) 9 0) (11 + (x1).toNatClampNeg) 0) + v4), .int ((S4.1 (11 + (x1).toNatClampNeg) 1) + v5), .int v6]) (s1 := [.int (S6.1 (11 + (x1).toNatClampNeg) 5)]) (h1 := hh S6) 2 (fun n => B_90_45 n x1 S v4 S4 v5 v6 S6) g2 ?_
      by_cases c18 : (S6.1 (11 + (x1).toNatClampNeg) 5) = 3
      · rw [if_pos c18] at hG
        refine Ev.t (c := (S6.1 (11 + (x1).toNatClampNeg) 5) = 3) (p1 := 119) (L1 := [.ref 1, .int x1, .ref (11 + (x1).toNatClampNeg), .int (((xa_u S.1 (11 + (x1).toNatClampNeg) 9 0) (11 + (x1).toNatClampNeg) 0) + v4), .int ((S4.1 (11 + (x1).toNatClampNeg) 1) + v5), .int v6]) (s1 := []) (h1 := hh S6) (p2 := 114) (L2 := [.ref 1, .int x1, .ref (11 + (x1).toNatClampNeg), .int (((xa_u S.1 (11 + (x1).toNatClampNeg) 9 0) (11 + (x1).toNatClampNeg) 0) + v4), .int ((S4.1 (11 + (x1).toNatClampNeg) 1) + v5), .int v6]) (s2 := []) (h2 := hh S6) 2 (fun n => B_90_46 n x1 S v4 S4 v5 v6 S6) c18 ?_
        by_cases c19 : x1 = 0
        · rw [if_pos c19] at hG
          refine Ev.t (c := x1 = 0) (p1 := 123) (L1 := [.ref 1, .int x1, .ref (11 + (x1).toNatClampNeg), .int (((xa_u S.1 (11 + (x1).toNatClampNeg) 9 0) (11 + (x1).toNatClampNeg) 0) + v4), .int ((S4.1 (11 + (x1).toNatClampNeg) 1) + v5), .int v6]) (s1 := []) (h1 := hh S6) (p2 := 136) (L2 := [.ref 1, .int x1, .ref (11 + (x1).toNatClampNeg), .int (((xa_u S.1 (11 + (x1).toNatClampNeg) 9 0) (11 + (x1).toNatClampNeg) 0) + v4), .int ((S4.1 (11 + (x1).toNatClampNeg) 1) + v5), .int v6]) (s2 := []) (h2 := hh S6) 2 (fun n => B_90_47 n x1 S v4 S4 v5 v6 S6) c19 ?_
          refine Ev.f (c := v6 = 0) (p1 := 136) (L1 := [.ref 1, .int x1, .ref (11 + (x1).toNatClampNeg), .int (((xa_u S.1 (11 + (x1).toNatClampNeg) 9 0) (11 + (x1).toNatClampNeg) 0) + v4), .int ((S4.1 (11 + (x1).toNatClampNeg) 1) + v5), .int v6]) (s1 := []) (h1 := hh S6) (p2 := 128) (L2 := [.ref 1, .int x1, .ref (11 + (x1).toNatClampNeg), .int (((xa_u S.1 (11 + (x1).toNatClampNeg) 9 0) (11 + (x1).toNatClampNeg) 0) + v4), .int ((S4.1 (11 + (x1).toNatClampNeg) 1) + v5), .int v6]) (s2 := []) (h2 := hh S6) 2 (fun n => B_90_48 n x1 S v4 S4 v5 v6 S6) c7 ?_
          rcases h20 : G_51 S6 (0 : Int32) v6 with _ | ⟨v20, S20⟩
          · rw [h20] at hG; cases hG
          rw [h20] at hG
          dsimp only at hG
          refine Ev.c (a := 51) (A := [.ref 1, .int 0, .int v6]) (h1 := hh S6) (pc' := 135) (L' := [.ref 1, .int x1, .ref (11 + (x1).toNatClampNeg), .int (((xa_u S.1 (11 + (x1).toNatClampNeg) 9 0) (11 + (x1).toNatClampNeg) 0) + v4), .int ((S4.1 (11 + (x1).toNatClampNeg) 1) + v5), .int v6]) (rest := []) (r1 := some (.int v20)) (h2 := hh S20) 4 (fun n => B_90_49 n x1 S v4 S4 v5 v6 S6) (Ev.up (by decide) (T_51 S6 (0 : Int32) v6 _ _ h20)) ?_
          show Ev X _ 90 135 [.ref 1, .int x1, .ref (11 + (x1).toNatClampNeg), .int (((xa_u S.1 (11 + (x1).toNatClampNeg) 9 0) (11 + (x1).toNatClampNeg) 0) + v4), .int ((S4.1 (11 + (x1).toNatClampNeg) 1) + v5), .int v6] [.int v20] (hh S20) _
          obtain ⟨e1, e2⟩ := Prod.mk.inj (Option.some.inj hG)
          subst e1
          subst e2
          exact Ev.r 2 (fun n => rfl)
        · rw [if_neg c19] at hG
          refine Ev.f (c := x1 = 0) (p1 := 123) (L1 := [.ref 1, .int x1, .ref (11 + (x1).toNatClampNeg), .int (((xa_u S.1 (11 + (x1).toNatClampNeg) 9 0) (11 + (x1).toNatClampNeg) 0) + v4), .int ((S4.1 (11 + (x1).toNatClampNeg) 1) + v5), .int v6]) (s1 := []) (h1 := hh S6) (p2 := 136) (L2 := [.ref 1, .int x1, .ref (11 + (x1).toNatClampNeg), .int (((xa_u S.1 (11 + (x1).toNatClampNeg) 9 0) (11 + (x1).toNatClampNeg) 0) + v4), .int ((S4.1 (11 + (x1).toNatClampNeg) 1) + v5), .int v6]) (s2 := []) (h2 := hh S6) 2 (fun n => B_90_50 n x1 S v4 S4 v5 v6 S6) c19 ?_
          obtain ⟨e1, e2⟩ := Prod.mk.inj (Option.some.inj hG)
          subst e1
          subst e2
          exact Ev.r 1 (fun n => rfl)
      · rw [if_neg c18] at hG
        refine Ev.f (c := (S6.1 (11 + (x1).toNatClampNeg) 5) = 3) (p1 := 119) (L1 := [.ref 1, .int x1, .ref (11 + (x1).toNatClampNeg), .int (((xa_u S.1 (11 + (x1).toNatClampNeg) 9 0) (11 + (x1).toNatClampNeg) 0) + v4), .int ((S4.1 (11 + (x1).toNatClampNeg) 1) + v5), .int v6]) (s1 := []) (h1 := hh S6) (p2 := 114) (L2 := [.ref 1, .int x1, .ref (11 + (x1).toNatClampNeg), .int (((xa_u S.1 (11 + (x1).toNatClampNeg) 9 0) (11 + (x1).toNatClampNeg) 0) + v4), .int ((S4.1 (11 + (x1).toNatClampNeg) 1) + v5), .int v6]) (s2 := []) (h2 := hh S6) 2 (fun n => B_90_51 n x1 S v4 S4 v5 v6 S6) c18 ?_
        refine Ev.g (c := (kd (11 + (x1).toNatClampNeg)).1 = 10 + 0 ∧ (xf_k 0 4 = 0 ∨ (xf_k 0 4 = 1 ∧ ((0 : Int32) = 0 ∨ (0 : Int32) = 1)))) (p1 := 119) (L1 := [.ref 1, .int x1, .ref (11 + (x1).toNatClampNeg), .int (((xa_u S.1 (11 + (x1).toNatClampNeg) 9 0) (11 + (x1).toNatClampNeg) 0) + v4), .int ((S4.1 (11 + (x1).toNatClampNeg) 1) + v5), .int v6]) (s1 := []) (h1 := hh (xa_u S6.1 (11 + (x1).toNatClampNeg) 4 0, S6.2.1, S6.2.2)) 3 (fun n => B_90_52 n x1 S v4 S4 v5 v6 S6) (⟨g2, Or.inl rfl⟩) ?_
        by_cases c21 : x1 = 0
        · rw [if_pos c21] at hG
          refine Ev.t (c := x1 = 0) (p1 := 123) (L1 := [.ref 1, .int x1, .ref (11 + (x1).toNatClampNeg), .int (((xa_u S.1 (11 + (x1).toNatClampNeg) 9 0) (11 + (x1).toNatClampNeg) 0) + v4), .int ((S4.1 (11 + (x1).toNatClampNeg) 1) + v5), .int v6]) (s1 := []) (h1 := hh (xa_u S6.1 (11 + (x1).toNatClampNeg) 4 0, S6.2.1, S6.2.2)) (p2 := 136) (L2 := [.ref 1, .int x1, .ref (11 + (x1).toNatClampNeg), .int (((xa_u S.1 (11 + (x1).toNatClampNeg) 9 0) (11 + (x1).toNatClampNeg) 0) + v4), .int ((S4.1 (11 + (x1).toNatClampNeg) 1) + v5), .int v6]) (s2 := []) (h2 := hh (xa_u S6.1 (11 + (x1).toNatClampNeg) 4 0, S6.2.1, S6.2.2)) 2 (fun n => B_90_53 n x1 S v4 S4 v5 v6 S6) c21 ?_
          refine Ev.f (c := v6 = 0) (p1 := 136) (L1 := [.ref 1, .int x1, .ref (11 + (x1).toNatClampNeg), .int (((xa_u S.1 (11 + (x1).toNatClampNeg) 9 0) (11 + (x1).toNatClampNeg) 0) + v4), .int ((S4.1 (11 + (x1).toNatClampNeg) 1) + v5), .int v6]) (s1 := []) (h1 := hh (xa_u S6.1 (11 + (x1).toNatClampNeg) 4 0, S6.2.1, S6.2.2)) (p2 := 128) (L2 := [.ref 1, .int x1, .ref (11 + (x1).toNatClampNeg), .int (((xa_u S.1 (11 + (x1).toNatClampNeg) 9 0) (11 + (x1).toNatClampNeg) 0) + v4), .int ((S4.1 (11 + (x1).toNatClampNeg) 1) + v5), .int v6]) (s2 := []) (h2 := hh (xa_u S6.1 (11 + (x1).toNatClampNeg) 4 0, S6.2.1, S6.2.2)) 2 (fun n => B_90_54 n x1 S v4 S4 v5 v6 S6) c7 ?_
          rcases h22 : G_51 (xa_u S6.1 (11 + (x1).toNatClampNeg) 4 0, S6.2.1, S6.2.2) (0 : Int32) v6 with _ | ⟨v22, S22⟩
          · rw [h22] at hG; cases hG
          rw [h22] at hG
          dsimp only at hG
          refine Ev.c (a := 51) (A := [.ref 1, .int 0, .int v6]) (h1 := hh (xa_u S6.1 (11 + (x1).toNatClampNeg) 4 0, S6.2.1, S6.2.2)) (pc' := 135) (L' := [.ref 1, .int x1, .ref (11 + (x1).toNatClampNeg), .int (((xa_u S.1 (11 + (x1).toNatClampNeg) 9 0) (11 + (x1).toNatClampNeg) 0) + v4), .int ((S4.1 (11 + (x1).toNatClampNeg) 1) + v5), .int v6]) (rest := []) (r1 := some (.int v22)) (h2 := hh S22) 4 (fun n => B_90_55 n x1 S v4 S4 v5 v6 S6) (Ev.up (by decide) (T_51 (xa_u S6.1 (11 + (x1).toNatClampNeg) 4 0, S6.2.1, S6.2.2) (0 : Int32) v6 _ _ h22)) ?_
          show Ev X _ 90 135 [.ref 1, .int x1, .ref (11 + (x1).toNatClampNeg), .int (((xa_u S.1 (11 + (x1).toNatClampNeg) 9 0) (11 + (x1).toNatClampNeg) 0) + v4), .int ((S4.1 (11 + (x1).toNatClampNeg) 1) + v5), .int v6] [.int v22] (hh S22) _
          obtain ⟨e1, e2⟩ := Prod.mk.inj (Option.some.inj hG)
          subst e1
          subst e2
          exact Ev.r 2 (fun n => rfl)
        · rw [if_neg c21] at hG
          refine Ev.f (c := x1 = 0) (p1 := 123) (L1 := [.ref 1, .int x1, .ref (11 + (x1).toNatClampNeg), .int (((xa_u S.1 (11 + (x1).toNatClampNeg) 9 0) (11 + (x1).toNatClampNeg) 0) + v4), .int ((S4.1 (11 + (x1).toNatClampNeg) 1) + v5), .int v6]) (s1 := []) (h1 := hh (xa_u S6.1 (11 + (x1).toNatClampNeg) 4 0, S6.2.1, S6.2.2)) (p2 := 136) (L2 := [.ref 1, .int x1, .ref (11 + (x1).toNatClampNeg), .int (((xa_u S.1 (11 + (x1).toNatClampNeg) 9 0) (11 + (x1).toNatClampNeg) 0) + v4), .int ((S4.1 (11 + (x1).toNatClampNeg) 1) + v5), .int v6]) (s2 := []) (h2 := hh (xa_u S6.1 (11 + (x1).toNatClampNeg) 4 0, S6.2.1, S6.2.2)) 2 (fun n => B_90_56 n x1 S v4 S4 v5 v6 S6) c21 ?_
          obtain ⟨e1, e2⟩ := Prod.mk.inj (Option.some.inj hG)
          subst e1
          subst e2
          exact Ev.r 1 (fun n => rfl)
/-- 88: SceneCycle$Motion.directionOf(II)I -/
def G_88 (S : St) (x0 : Int32) (x1 : Int32) : Option (Int32 × St) :=
  (if x0 = 0 then
    (if 0 ≤ x1 then
      (if x1 ≤ 0 then
        some (0, S)
      else
        some (5, S)
      )
    else
      some (1, S)
    )
  else
    (if x0 ≤ 0 then
      (if 0 ≤ x1 then
        (if x1 ≤ 0 then
          some (7, S)
        else
          some (6, S)
        )
      else
        some (8, S)
      )
    else
      (if 0 ≤ x1 then
        (if x1 ≤ 0 then
          some (3, S)
        else
          some (4, S)
        )
      else
        some (2, S)
      )
    )
  )
theorem B_88_1 {X : Nat × (Nat → Int32)} {d : Nat} (n : Nat) (x0 : Int32) (x1 : Int32) (S : St) : ex X d 88 0 [.int x0, .int x1] [] (hh S) (n + 2) = if x0 = 0 then ex X d 88 4 [.int x0, .int x1] [] (hh S) n else ex X d 88 22 [.int x0, .int x1] [] (hh S) n := rfl
theorem B_88_2 {X : Nat × (Nat → Int32)} {d : Nat} (n : Nat) (x0 : Int32) (x1 : Int32) (S : St) : ex X d 88 4 [.int x0, .int x1] [] (hh S) (n + 2) = if 0 ≤ x1 then ex X d 88 12 [.int x0, .int x1] [] (hh S) n else ex X d 88 8 [.int x0, .int x1] [] (hh S) n := rfl
theorem B_88_3 {X : Nat × (Nat → Int32)} {d : Nat} (n : Nat) (x0 : Int32) (x1 : Int32) (S : St) : ex X d 88 12 [.int x0, .int x1] [] (hh S) (n + 2) = if x1 ≤ 0 then ex X d 88 20 [.int x0, .int x1] [] (hh S) n else ex X d 88 16 [.int x0, .int x1] [] (hh S) n := rfl
theorem B_88_4 {X : Nat × (Nat → Int32)} {d : Nat} (n : Nat) (x0 : Int32) (x1 : Int32) (S : St) : ex X d 88 12 [.int x0, .int x1] [] (hh S) (n + 2) = if x1 ≤ 0 then ex X d 88 20 [.int x0, .int x1] [] (hh S) n else ex X d 88 16 [.int x0, .int x1] [] (hh S) n := rfl
theorem B_88_5 {X : Nat × (Nat → Int32)} {d : Nat} (n : Nat) (x0 : Int32) (x1 : Int32) (S : St) : ex X d 88 4 [.int x0, .int x1] [] (hh S) (n + 2) = if 0 ≤ x1 then ex X d 88 12 [.int x0, .int x1] [] (hh S) n else ex X d 88 8 [.int x0, .int x1] [] (hh S) n := rfl
theorem B_88_6 {X : Nat × (Nat → Int32)} {d : Nat} (n : Nat) (x0 : Int32) (x1 : Int32) (S : St) : ex X d 88 0 [.int x0, .int x1] [] (hh S) (n + 2) = if x0 = 0 then ex X d 88 4 [.int x0, .int x1] [] (hh S) n else ex X d 88 22 [.int x0, .int x1] [] (hh S) n := rfl
theorem B_88_7 {X : Nat × (Nat → Int32)} {d : Nat} (n : Nat) (x0 : Int32) (x1 : Int32) (S : St) : ex X d 88 22 [.int x0, .int x1] [] (hh S) (n + 2) = if x0 ≤ 0 then ex X d 88 44 [.int x0, .int x1] [] (hh S) n else ex X d 88 26 [.int x0, .int x1] [] (hh S) n := rfl
theorem B_88_8 {X : Nat × (Nat → Int32)} {d : Nat} (n : Nat) (x0 : Int32) (x1 : Int32) (S : St) : ex X d 88 44 [.int x0, .int x1] [] (hh S) (n + 2) = if 0 ≤ x1 then ex X d 88 53 [.int x0, .int x1] [] (hh S) n else ex X d 88 48 [.int x0, .int x1] [] (hh S) n := rfl
theorem B_88_9 {X : Nat × (Nat → Int32)} {d : Nat} (n : Nat) (x0 : Int32) (x1 : Int32) (S : St) : ex X d 88 53 [.int x0, .int x1] [] (hh S) (n + 2) = if x1 ≤ 0 then ex X d 88 62 [.int x0, .int x1] [] (hh S) n else ex X d 88 57 [.int x0, .int x1] [] (hh S) n := rfl
theorem B_88_10 {X : Nat × (Nat → Int32)} {d : Nat} (n : Nat) (x0 : Int32) (x1 : Int32) (S : St) : ex X d 88 53 [.int x0, .int x1] [] (hh S) (n + 2) = if x1 ≤ 0 then ex X d 88 62 [.int x0, .int x1] [] (hh S) n else ex X d 88 57 [.int x0, .int x1] [] (hh S) n := rfl
theorem B_88_11 {X : Nat × (Nat → Int32)} {d : Nat} (n : Nat) (x0 : Int32) (x1 : Int32) (S : St) : ex X d 88 44 [.int x0, .int x1] [] (hh S) (n + 2) = if 0 ≤ x1 then ex X d 88 53 [.int x0, .int x1] [] (hh S) n else ex X d 88 48 [.int x0, .int x1] [] (hh S) n := rfl
theorem B_88_12 {X : Nat × (Nat → Int32)} {d : Nat} (n : Nat) (x0 : Int32) (x1 : Int32) (S : St) : ex X d 88 22 [.int x0, .int x1] [] (hh S) (n + 2) = if x0 ≤ 0 then ex X d 88 44 [.int x0, .int x1] [] (hh S) n else ex X d 88 26 [.int x0, .int x1] [] (hh S) n := rfl
theorem B_88_13 {X : Nat × (Nat → Int32)} {d : Nat} (n : Nat) (x0 : Int32) (x1 : Int32) (S : St) : ex X d 88 26 [.int x0, .int x1] [] (hh S) (n + 2) = if 0 ≤ x1 then ex X d 88 34 [.int x0, .int x1] [] (hh S) n else ex X d 88 30 [.int x0, .int x1] [] (hh S) n := rfl
theorem B_88_14 {X : Nat × (Nat → Int32)} {d : Nat} (n : Nat) (x0 : Int32) (x1 : Int32) (S : St) : ex X d 88 34 [.int x0, .int x1] [] (hh S) (n + 2) = if x1 ≤ 0 then ex X d 88 42 [.int x0, .int x1] [] (hh S) n else ex X d 88 38 [.int x0, .int x1] [] (hh S) n := rfl
theorem B_88_15 {X : Nat × (Nat → Int32)} {d : Nat} (n : Nat) (x0 : Int32) (x1 : Int32) (S : St) : ex X d 88 34 [.int x0, .int x1] [] (hh S) (n + 2) = if x1 ≤ 0 then ex X d 88 42 [.int x0, .int x1] [] (hh S) n else ex X d 88 38 [.int x0, .int x1] [] (hh S) n := rfl
theorem B_88_16 {X : Nat × (Nat → Int32)} {d : Nat} (n : Nat) (x0 : Int32) (x1 : Int32) (S : St) : ex X d 88 26 [.int x0, .int x1] [] (hh S) (n + 2) = if 0 ≤ x1 then ex X d 88 34 [.int x0, .int x1] [] (hh S) n else ex X d 88 30 [.int x0, .int x1] [] (hh S) n := rfl
set_option maxRecDepth 200000 in
theorem T_88 {X : Nat × (Nat → Int32)} (S : St) (x0 : Int32) (x1 : Int32) (r : Int32) (S' : St) (hG : G_88 S x0 x1 = some (r, S')) : Ev X 0 88 0 [.int x0, .int x1] [] (hh S) (xI r, hh S') := by
  unfold G_88 at hG
  by_cases c1 : x0 = 0
  · rw [if_pos c1] at hG
    refine Ev.t (c := x0 = 0) (p1 := 4) (L1 := [.int x0, .int x1]) (s1 := []) (h1 := hh S) (p2 := 22) (L2 := [.int x0, .int x1]) (s2 := []) (h2 := hh S) 2 (fun n => B_88_1 n x0 x1 S) c1 ?_
    by_cases c2 : 0 ≤ x1
    · rw [if_pos c2] at hG
      refine Ev.t (c := 0 ≤ x1) (p1 := 12) (L1 := [.int x0, .int x1]) (s1 := []) (h1 := hh S) (p2 := 8) (L2 := [.int x0, .int x1]) (s2 := []) (h2 := hh S) 2 (fun n => B_88_2 n x0 x1 S) c2 ?_
      by_cases c3 : x1 ≤ 0
      · rw [if_pos c3] at hG
        refine Ev.t (c := x1 ≤ 0) (p1 := 20) (L1 := [.int x0, .int x1]) (s1 := []) (h1 := hh S) (p2 := 16) (L2 := [.int x0, .int x1]) (s2 := []) (h2 := hh S) 2 (fun n => B_88_3 n x0 x1 S) c3 ?_
        obtain ⟨e1, e2⟩ := Prod.mk.inj (Option.some.inj hG)
        subst e1
        subst e2
        exact Ev.r 2 (fun n => rfl)
      · rw [if_neg c3] at hG
        refine Ev.f (c := x1 ≤ 0) (p1 := 20) (L1 := [.int x0, .int x1]) (s1 := []) (h1 := hh S) (p2 := 16) (L2 := [.int x0, .int x1]) (s2 := []) (h2 := hh S) 2 (fun n => B_88_4 n x0 x1 S) c3 ?_
        obtain ⟨e1, e2⟩ := Prod.mk.inj (Option.some.inj hG)
        subst e1
        subst e2
        exact Ev.r 3 (fun n => rfl)
    · rw [if_neg c2] at hG
      refine Ev.f (c := 0 ≤ x1) (p1 := 12) (L1 := [.int x0, .int x1]) (s1 := []) (h1 := hh S) (p2 := 8) (L2 := [.int x0, .int x1]) (s2 := []) (h2 := hh S) 2 (fun n => B_88_5 n x0 x1 S) c2 ?_
      obtain ⟨e1, e2⟩ := Prod.mk.inj (Option.some.inj hG)
      subst e1
      subst e2
      exact Ev.r 3 (fun n => rfl)
  · rw [if_neg c1] at hG
    refine Ev.f (c := x0 = 0) (p1 := 4) (L1 := [.int x0, .int x1]) (s1 := []) (h1 := hh S) (p2 := 22) (L2 := [.int x0, .int x1]) (s2 := []) (h2 := hh S) 2 (fun n => B_88_6 n x0 x1 S) c1 ?_
    by_cases c4 : x0 ≤ 0
    · rw [if_pos c4] at hG
      refine Ev.t (c := x0 ≤ 0) (p1 := 44) (L1 := [.int x0, .int x1]) (s1 := []) (h1 := hh S) (p2 := 26) (L2 := [.int x0, .int x1]) (s2 := []) (h2 := hh S) 2 (fun n => B_88_7 n x0 x1 S) c4 ?_
      by_cases c5 : 0 ≤ x1
      · rw [if_pos c5] at hG
        refine Ev.t (c := 0 ≤ x1) (p1 := 53) (L1 := [.int x0, .int x1]) (s1 := []) (h1 := hh S) (p2 := 48) (L2 := [.int x0, .int x1]) (s2 := []) (h2 := hh S) 2 (fun n => B_88_8 n x0 x1 S) c5 ?_
        by_cases c6 : x1 ≤ 0
        · rw [if_pos c6] at hG
          refine Ev.t (c := x1 ≤ 0) (p1 := 62) (L1 := [.int x0, .int x1]) (s1 := []) (h1 := hh S) (p2 := 57) (L2 := [.int x0, .int x1]) (s2 := []) (h2 := hh S) 2 (fun n => B_88_9 n x0 x1 S) c6 ?_
          obtain ⟨e1, e2⟩ := Prod.mk.inj (Option.some.inj hG)
          subst e1
          subst e2
          exact Ev.r 2 (fun n => rfl)
        · rw [if_neg c6] at hG
          refine Ev.f (c := x1 ≤ 0) (p1 := 62) (L1 := [.int x0, .int x1]) (s1 := []) (h1 := hh S) (p2 := 57) (L2 := [.int x0, .int x1]) (s2 := []) (h2 := hh S) 2 (fun n => B_88_10 n x0 x1 S) c6 ?_
          obtain ⟨e1, e2⟩ := Prod.mk.inj (Option.some.inj hG)
          subst e1
          subst e2
          exact Ev.r 3 (fun n => rfl)
      · rw [if_neg c5] at hG
        refine Ev.f (c := 0 ≤ x1) (p1 := 53) (L1 := [.int x0, .int x1]) (s1 := []) (h1 := hh S) (p2 := 48) (L2 := [.int x0, .int x1]) (s2 := []) (h2 := hh S) 2 (fun n => B_88_11 n x0 x1 S) c5 ?_
        obtain ⟨e1, e2⟩ := Prod.mk.inj (Option.some.inj hG)
        subst e1
        subst e2
        exact Ev.r 3 (fun n => rfl)
    · rw [if_neg c4] at hG
      refine Ev.f (c := x0 ≤ 0) (p1 := 44) (L1 := [.int x0, .int x1]) (s1 := []) (h1 := hh S) (p2 := 26) (L2 := [.int x0, .int x1]) (s2 := []) (h2 := hh S) 2 (fun n => B_88_12 n x0 x1 S) c4 ?_
      by_cases c7 : 0 ≤ x1
      · rw [if_pos c7] at hG
        refine Ev.t (c := 0 ≤ x1) (p1 := 34) (L1 := [.int x0, .int x1]) (s1 := []) (h1 := hh S) (p2 := 30) (L2 := [.int x0, .int x1]) (s2 := []) (h2 := hh S) 2 (fun n => B_88_13 n x0 x1 S) c7 ?_
        by_cases c8 : x1 ≤ 0
        · rw [if_pos c8] at hG
          refine Ev.t (c := x1 ≤ 0) (p1 := 42) (L1 := [.int x0, .int x1]) (s1 := []) (h1 := hh S) (p2 := 38) (L2 := [.int x0, .int x1]) (s2 := []) (h2 := hh S) 2 (fun n => B_88_14 n x0 x1 S) c8 ?_
          obtain ⟨e1, e2⟩ := Prod.mk.inj (Option.some.inj hG)
          subst e1
          subst e2
          exact Ev.r 2 (fun n => rfl)
        · rw [if_neg c8] at hG
          refine Ev.f (c := x1 ≤ 0) (p1 := 42) (L1 := [.int x0, .int x1]) (s1 := []) (h1 := hh S) (p2 := 38) (L2 := [.int x0, .int x1]) (s2 := []) (h2 := hh S) 2 (fun n => B_88_15 n x0 x1 S) c8 ?_
          obtain ⟨e1, e2⟩ := Prod.mk.inj (Option.some.inj hG)
          subst e1
          subst e2
          exact Ev.r 3 (fun n => rfl)
      · rw [if_neg c7] at hG
        refine Ev.f (c := 0 ≤ x1) (p1 := 34) (L1 := [.int x0, .int x1]) (s1 := []) (h1 := hh S) (p2 := 30) (L2 := [.int x0, .int x1]) (s2 := []) (h2 := hh S) 2 (fun n => B_88_16 n x0 x1 S) c7 ?_
        obtain ⟨e1, e2⟩ := Prod.mk.inj (Option.some.inj hG)
        subst e1
        subst e2
        exact Ev.r 3 (fun n => rfl)
/-- 87: SceneCycle$Motion.approach(LSceneCycle$World;LSceneCycle$Actor;ZII)V -/
def G_87 (S : St) (x1 : Nat) (x2 : Int32) (x3 : Int32) (x4 : Int32) : Option (Unit × St) :=
  (if x2 = 0 then
    (if (kd x1).1 = 10 + 0 then
      (match G_88 S (x3 - (S.1 x1 0)) (x4 - (S.1 x1 1)) with
      | none => none
      | some (v3, S3) =>
        some ((), (xa_u S3.1 x1 4 v3, S3.2.1, S3.2.2))
      )
    else none)
  else
    (if (kd x1).1 = 10 + 0 then
      (match G_53 S (S.1 x1 12) (1 : Int32) with
      | none => none
      | some (v5, S5) =>
        (match G_14 S5 x1 (0 : Int32) with
        | none => none
        | some (v6, S6) =>
          some ((), S6)
        )
      )
    else none)
  )
theorem B_87_1 {X : Nat × (Nat → Int32)} {d : Nat} (n : Nat) (x1 : Nat) (x2 : Int32) (x3 : Int32) (x4 : Int32) (S : St) : ex X d 87 0 [.ref 1, .ref x1, .int x2, .int x3, .int x4] [] (hh S) (n + 2) = if x2 = 0 then ex X d 87 22 [.ref 1, .ref x1, .int x2, .int x3, .int x4] [] (hh S) n else ex X d 87 4 [.ref 1, .ref x1, .int x2, .int x3, .int x4] [] (hh S) n := rfl
theorem B_87_2 {X : Nat × (Nat → Int32)} {d : Nat} (n : Nat) (x1 : Nat) (x2 : Int32) (x3 : Int32) (x4 : Int32) (S : St) : ex X d 87 22 [.ref 1, .ref x1, .int x2, .int x3, .int x4] [] (hh S) (n + 4) = if (kd x1).1 = 10 + 0 then ex X d 87 28 [.ref 1, .ref x1, .int x2, .int x3, .int x4] [.int (S.1 x1 0), .int x3, .ref x1] (hh S) n else none := rfl
theorem B_87_3 {X : Nat × (Nat → Int32)} {d : Nat} (n : Nat) (x1 : Nat) (x2 : Int32) (x3 : Int32) (x4 : Int32) (S : St) : ex X d 87 28 [.ref 1, .ref x1, .int x2, .int x3, .int x4] [.int (S.1 x1 0), .int x3, .ref x1] (hh S) (n + 4) = if (kd x1).1 = 10 + 0 then ex X d 87 35 [.ref 1, .ref x1, .int x2, .int x3, .int x4] [.int (S.1 x1 1), .int x4, .int (x3 - (S.1 x1 0)), .ref x1] (hh S) n else none := rfl
theorem B_87_4 {X : Nat × (Nat → Int32)} {d : Nat} (n : Nat) (x1 : Nat) (x2 : Int32) (x3 : Int32) (x4 : Int32) (S : St) : ex X (d + 1) 87 35 [.ref 1, .ref x1, .int x2, .int x3, .int x4] [.int (S.1 x1 1), .int x4, .int (x3 - (S.1 x1 0)), .ref x1] (hh S) (n + 2) = (match ex X d 88 0 [.int (x3 - (S.1 x1 0)), .int (x4 - (S.1 x1 1))] [] (hh S) n with | some (v, h') => ex X (d + 1) 87 39 [.ref 1, .ref x1, .int x2, .int x3, .int x4] (v.toList ++ [.ref x1]) h' n | none => none) := rfl
theorem B_87_5 {X : Nat × (Nat → Int32)} {d : Nat} (n : Nat) (x1 : Nat) (x2 : Int32) (x3 : Int32) (x4 : Int32) (v3 : Int32) (S3 : St) : ex X d 87 39 [.ref 1, .ref x1, .int x2, .int x3, .int x4] [.int v3, .ref x1] (hh S3) (n + 1) = if (kd x1).1 = 10 + 0 ∧ (xf_k 0 4 = 0 ∨ (xf_k 0 4 = 1 ∧ (v3 = 0 ∨ v3 = 1))) then ex X d 87 42 [.ref 1, .ref x1, .int x2, .int x3, .int x4] [] (hh (xa_u S3.1 x1 4 v3, S3.2.1, S3.2.2)) n else none := rfl
theorem B_87_6 {X : Nat × (Nat → Int32)} {d : Nat} (n : Nat) (x1 : Nat) (x2 : Int32) (x3 : Int32) (x4 : Int32) (S : St) : ex X d 87 0 [.ref 1, .ref x1, .int x2, .int x3, .int x4] [] (hh S) (n + 2) = if x2 = 0 then ex X d 87 22 [.ref 1, .ref x1, .int x2, .int x3, .int x4] [] (hh S) n else ex X d 87 4 [.ref 1, .ref x1, .int x2, .int x3, .int x4] [] (hh S) n := rfl
theorem B_87_7 {X : Nat × (Nat → Int32)} {d : Nat} (n : Nat) (x1 : Nat) (x2 : Int32) (x3 : Int32) (x4 : Int32) (S : St) : ex X d 87 4 [.ref 1, .ref x1, .int x2, .int x3, .int x4] [] (hh S) (n + 3) = if (kd x1).1 = 10 + 0 then ex X d 87 9 [.ref 1, .ref x1, .int x2, .int x3, .int x4] [.int (S.1 x1 12), .ref 1] (hh S) n else none := rfl
theorem B_87_8 {X : Nat × (Nat → Int32)} {d : Nat} (n : Nat) (x1 : Nat) (x2 : Int32) (x3 : Int32) (x4 : Int32) (S : St) : ex X (d + 1) 87 9 [.ref 1, .ref x1, .int x2, .int x3, .int x4] [.int (S.1 x1 12), .ref 1] (hh S) (n + 2) = (match ex X d 53 0 [.ref 1, .int (S.1 x1 12), .int 1] [] (hh S) n with | some (v, h') => ex X (d + 1) 87 13 [.ref 1, .ref x1, .int x2, .int x3, .int x4] (v.toList ++ []) h' n | none => none) := rfl
theorem B_87_9 {X : Nat × (Nat → Int32)} {d : Nat} (n : Nat) (x1 : Nat) (x2 : Int32) (x3 : Int32) (x4 : Int32) (v5 : Int32) (S5 : St) : ex X (d + 1) 87 13 [.ref 1, .ref x1, .int x2, .int x3, .int x4] [.int v5] (hh S5) (n + 4) = if (xm_o 14 = 200 ∧ 2000 ≤ x1 ∧ x1 < 2000 + xS_n) ∨ (xm_o 14 ≠ 200 ∧ (kd x1).1 = 10 + xm_o 14) then (match ex X d 14 0 [.ref x1, .int 0] [] (hh S5) n with | some (v, h') => ex X (d + 1) 87 19 [.ref 1, .ref x1, .int x2, .int x3, .int x4] (v.toList ++ []) h' n | none => none) else none := rfl
set_option maxRecDepth 200000 in
theorem T_87 {X : Nat × (Nat → Int32)} (S : St) (x1 : Nat) (x2 : Int32) (x3 : Int32) (x4 : Int32) (r : Unit) (S' : St) (hG : G_87 S x1 x2 x3 x4 = some (r, S')) : Ev X 1 87 0 [.ref 1, .ref x1, .int x2, .int x3, .int x4] [] (hh S) (xV r, hh S') := by
  unfold G_87 at hG
  by_cases c1 : x2 = 0
  · rw [if_pos c1] at hG
    refine Ev.t (c := x2 = 0) (p1 := 22) (L1 := [.ref 1, .ref x1, .int x2, .int x3, .int x4]) (s1 := []) (h1 := hh S) (p2 := 4) (L2 := [.ref 1, .ref x1, .int x2, .int x3, .int x4]) (s2 := []) (h2 := hh S) 2 (fun n => B_87_1 n x1 x2 x3 x4 S) c1 ?_
    by_cases g2 : (kd x1).1 = 10 + 0
    rotate_left
    · rw [if_neg g2] at hG; cases hG
    rw [if_pos g2] at hG
    refine Ev.g (c := (kd x1).1 = 10 + 0) (p1 := 28) (L1 := [.ref 1, .ref x1, .int x2, .int x3, .int x4]) (s1 := [.int (S.1 x1 0), .int x3, .ref x1]) (h1 := hh S) 4 (fun n => B_87_2 n x1 x2 x3 x4 S) g2 ?_
    refine Ev.g (c := (kd x1).1 = 10 + 0) (p1 := 35) (L1 := [.ref 1, .ref x1, .int x2, .int x3, .int x4]) (s1 := [.int (S.1 x1 1), .int x4, .int (x3 - (S.1 x1 0)), .ref x1]) (h1 := hh S) 4 (fun n => B_87_3 n x1 x2 x3 x4 S) g2 ?_
    rcases h3 : G_88 S (x3 - (S.1 x1 0)) (x4 - (S.1 x1 1)) with _ | ⟨v3, S3⟩
    · rw [h3] at hG; cases hG
    rw [h3] at hG
    dsimp only at hG
    refine Ev.c (a := 88) (A := [.int (x3 - (S.1 x1 0)), .int (x4 - (S.1 x1 1))]) (h1 := hh S) (pc' := 39) (L' := [.ref 1, .ref x1, .int x2, .int x3, .int x4]) (rest := [.ref x1]) (r1 := some (.int v3)) (h2 := hh S3) 2 (fun n => B_87_4 n x1 x2 x3 x4 S) (Ev.up (by decide) (T_88 S (x3 - (S.1 x1 0)) (x4 - (S.1 x1 1)) _ _ h3)) ?_
    show Ev X _ 87 39 [.ref 1, .ref x1, .int x2, .int x3, .int x4] [.int v3, .ref x1] (hh S3) _
    refine Ev.g (c := (kd x1).1 = 10 + 0 ∧ (xf_k 0 4 = 0 ∨ (xf_k 0 4 = 1 ∧ (v3 = 0 ∨ v3 = 1)))) (p1 := 42) (L1 := [.ref 1, .ref x1, .int x2, .int x3, .int x4]) (s1 := []) (h1 := hh (xa_u S3.1 x1 4 v3, S3.2.1, S3.2.2)) 1 (fun n => B_87_5 n x1 x2 x3 x4 v3 S3) (⟨g2, Or.inl rfl⟩) ?_
    obtain ⟨e1, e2⟩ := Prod.mk.inj (Option.some.inj hG)
    subst e1
    subst e2
    exact Ev.r 1 (fun n => rfl)
  · rw [if_neg c1] at hG
    refine Ev.f (c := x2 = 0) (p1 := 22) (L1 := [.ref 1, .ref x1, .int x2, .int x3, .int x4]) (s1 := []) (h1 := hh S) (p2 := 4) (L2 := [.ref 1, .ref x1, .int x2, .int x3, .int x4]) (s2 := []) (h2 := hh S) 2 (fun n => B_87_6 n x1 x2 x3 x4 S) c1 ?_
    by_cases g4 : (kd x1).1 = 10 + 0
    rotate_left
    · rw [if_neg g4] at hG; cases hG
    rw [if_pos g4] at hG
    refine Ev.g (c := (kd x1).1 = 10 + 0) (p1 := 9) (L1 := [.ref 1, .ref x1, .int x2, .int x3, .int x4]) (s1 := [.int (S.1 x1 12), .ref 1]) (h1 := hh S) 3 (fun n => B_87_7 n x1 x2 x3 x4 S) g4 ?_
    rcases h5 : G_53 S (S.1 x1 12) (1 : Int32) with _ | ⟨v5, S5⟩
    · rw [h5] at hG; cases hG
    rw [h5] at hG
    dsimp only at hG
    refine Ev.c (a := 53) (A := [.ref 1, .int (S.1 x1 12), .int 1]) (h1 := hh S) (pc' := 13) (L' := [.ref 1, .ref x1, .int x2, .int x3, .int x4]) (rest := []) (r1 := some (.int v5)) (h2 := hh S5) 2 (fun n => B_87_8 n x1 x2 x3 x4 S) (Ev.up (by decide) (T_53 S (S.1 x1 12) (1 : Int32) _ _ h5)) ?_
    show Ev X _ 87 13 [.ref 1, .ref x1, .int x2, .int x3, .int x4] [.int v5] (hh S5) _
    rcases h6 : G_14 S5 x1 (0 : Int32) with _ | ⟨v6, S6⟩
    · rw [h6] at hG; cases hG
    rw [h6] at hG
    dsimp only at hG
    refine Ev.cg (c := (xm_o 14 = 200 ∧ 2000 ≤ x1 ∧ x1 < 2000 + xS_n) ∨ (xm_o 14 ≠ 200 ∧ (kd x1).1 = 10 + xm_o 14)) (a := 14) (A := [.ref x1, .int 0]) (h1 := hh S5) (pc' := 19) (L' := [.ref 1, .ref x1, .int x2, .int x3, .int x4]) (rest := []) (r1 := none) (h2 := hh S6) 4 (fun n => B_87_9 n x1 x2 x3 x4 v5 S5) (Or.inr ⟨by decide, g4⟩) (Ev.up (by decide) (T_14 S5 x1 (0 : Int32) _ _ h6)) ?_
    show Ev X _ 87 19 [.ref 1, .ref x1, .int x2, .int x3, .int x4] [] (hh S6) _
    obtain ⟨e1, e2⟩ := Prod.mk.inj (Option.some.inj hG)
    subst e1
    subst e2
    exact Ev.r 2 (fun n => rfl)
/-- 89: SceneCycle$Motion.aimAtFirst(LSceneCycle$World;LSceneCycle$Actor;)V -/
def G_89 (S : St) (x1 : Nat) : Option (Unit × St) :=
  (if (S.1 11 7) = 0 then
    (if (kd x1).1 = 10 + 0 then
      some ((), (xa_u S.1 x1 4 0, S.2.1, S.2.2))
    else none)
  else
    (if (kd x1).1 = 10 + 0 then
      (match G_3 S ((S.1 11 0) - (S.1 x1 0)) with
      | none => none
      | some (v4, S4) =>
        (if 2 < v4 then
          (match G_87 S4 x1 (0 : Int32) (S4.1 11 0) (S4.1 11 1) with
          | none => none
          | some (v6, S6) =>
            some ((), S6)
          )
        else
          (match G_3 S4 ((S4.1 11 1) - (S4.1 x1 1)) with
          | none => none
          | some (v7, S7) =>
            (if 1 < v7 then
              (match G_87 S7 x1 (0 : Int32) (S7.1 11 0) (S7.1 11 1) with
              | none => none
              | some (v9, S9) =>
                some ((), S9)
              )
            else
              (match G_87 S7 x1 (1 : Int32) (S7.1 11 0) (S7.1 11 1) with
              | none => none
              | some (v10, S10) =>
                some ((), S10)
              )
            )
          )
        )
      )
    else none)
  )
theorem B_89_1 {X : Nat × (Nat → Int32)} {d : Nat} (n : Nat) (x1 : Nat) (S : St) : ex X d 89 0 [.ref 1, .ref x1, .retAddr 0, .retAddr 0] [] (hh S) (n + 4) = if (2 ≤ (kd 7).1 ∧ (kd 7).1 < xo_n) ∧ xa_in (0 : Int32) (kd 7).2 then ex X d 89 6 [.ref 1, .ref x1, .retAddr 0, .retAddr 0] [va_rf (RC S.2.1 S.2.2 7 ((0 : Int32)).toNatClampNeg)] (hh S) n else none := rfl
theorem B_89_2 {X : Nat × (Nat → Int32)} {d : Nat} (n : Nat) (x1 : Nat) (S : St) : ex X d 89 6 [.ref 1, .ref x1, .retAddr 0, .retAddr 0] [.ref 11] (hh S) (n + 4) = if (S.1 11 7) = 0 then ex X d 89 14 [.ref 1, .ref x1, .ref 11, .retAddr 0] [] (hh S) n else ex X d 89 20 [.ref 1, .ref x1, .ref 11, .retAddr 0] [] (hh S) n := rfl
theorem B_89_3 {X : Nat × (Nat → Int32)} {d : Nat} (n : Nat) (x1 : Nat) (S : St) : ex X d 89 14 [.ref 1, .ref x1, .ref 11, .retAddr 0] [] (hh S) (n + 3) = if (kd x1).1 = 10 + 0 ∧ (xf_k 0 4 = 0 ∨ (xf_k 0 4 = 1 ∧ ((0 : Int32) = 0 ∨ (0 : Int32) = 1))) then ex X d 89 19 [.ref 1, .ref x1, .ref 11, .retAddr 0] [] (hh (xa_u S.1 x1 4 0, S.2.1, S.2.2)) n else none := rfl
theorem B_89_4 {X : Nat × (Nat → Int32)} {d : Nat} (n : Nat) (x1 : Nat) (S : St) : ex X d 89 6 [.ref 1, .ref x1, .retAddr 0, .retAddr 0] [.ref 11] (hh S) (n + 4) = if (S.1 11 7) = 0 then ex X d 89 14 [.ref 1, .ref x1, .ref 11, .retAddr 0] [] (hh S) n else ex X d 89 20 [.ref 1, .ref x1, .ref 11, .retAddr 0] [] (hh S) n := rfl
theorem B_89_5 {X : Nat × (Nat → Int32)} {d : Nat} (n : Nat) (x1 : Nat) (S : St) : ex X d 89 20 [.ref 1, .ref x1, .ref 11, .retAddr 0] [] (hh S) (n + 4) = if (kd x1).1 = 10 + 0 then ex X d 89 28 [.ref 1, .ref x1, .ref 11, .retAddr 0] [.int (S.1 x1 0), .int (S.1 11 0)] (hh S) n else none := rfl
theorem B_89_6 {X : Nat × (Nat → Int32)} {d : Nat} (n : Nat) (x1 : Nat) (S : St) : ex X (d + 1) 89 28 [.ref 1, .ref x1, .ref 11, .retAddr 0] [.int (S.1 x1 0), .int (S.1 11 0)] (hh S) (n + 2) = (match ex X d 3 0 [.int ((S.1 11 0) - (S.1 x1 0))] [] (hh S) n with | some (v, h') => ex X (d + 1) 89 32 [.ref 1, .ref x1, .ref 11, .retAddr 0] (v.toList ++ []) h' n | none => none) := rfl
theorem B_89_7 {X : Nat × (Nat → Int32)} {d : Nat} (n : Nat) (x1 : Nat) (v4 : Int32) (S4 : St) : ex X d 89 32 [.ref 1, .ref x1, .ref 11, .retAddr 0] [.int v4] (hh S4) (n + 2) = if 2 < v4 then ex X d 89 56 [.ref 1, .ref x1, .ref 11, .retAddr 0] [] (hh S4) n else ex X d 89 36 [.ref 1, .ref x1, .ref 11, .retAddr 0] [] (hh S4) n := rfl
theorem B_89_8 {X : Nat × (Nat → Int32)} {d : Nat} (n : Nat) (x1 : Nat) (S4 : St) : ex X (d + 1) 89 56 [.ref 1, .ref x1, .ref 11, .retAddr 0] [] (hh S4) (n + 10) = (match ex X d 87 0 [.ref 1, .ref x1, .int 0, .int (S4.1 11 0), .int (S4.1 11 1)] [] (hh S4) n with | some (v, h') => ex X (d + 1) 89 72 [.ref 1, .ref x1, .ref 11, .int 0] (v.toList ++ []) h' n | none => none) := rfl
theorem B_89_9 {X : Nat × (Nat → Int32)} {d : Nat} (n : Nat) (x1 : Nat) (v4 : Int32) (S4 : St) : ex X d 89 32 [.ref 1, .ref x1, .ref 11, .retAddr 0] [.int v4] (hh S4) (n + 2) = if 2 < v4 then ex X d 89 56 [.ref 1, .ref x1, .ref 11, .retAddr 0] [] (hh S4) n else ex X d 89 36 [.ref 1, .ref x1, .ref 11, .retAddr 0] [] (hh S4) n := rfl
theorem B_89_10 {X : Nat × (Nat → Int32)} {d : Nat} (n : Nat) (x1 : Nat) (S4 : St) : ex X d 89 36 [.ref 1, .ref x1, .ref 11, .retAddr 0] [] (hh S4) (n + 4) = if (kd x1).1 = 10 + 0 then ex X d 89 44 [.ref 1, .ref x1, .ref 11, .retAddr 0] [.int (S4.1 x1 1), .int (S4.1 11 1)] (hh S4) n else none := rfl
theorem B_89_11 {X : Nat × (Nat → Int32)} {d : Nat} (n : Nat) (x1 : Nat) (S4 : St) : ex X (d + 1) 89 44 [.ref 1, .ref x1, .ref 11, .retAddr 0] [.int (S4.1 x1 1), .int (S4.1 11 1)] (hh S4) (n + 2) = (match ex X d 3 0 [.int ((S4.1 11 1) - (S4.1 x1 1))] [] (hh S4) n with | some (v, h') => ex X (d + 1) 89 48 [.ref 1, .ref x1, .ref 11, .retAddr 0] (v.toList ++ []) h' n | none => none) := rfl
theorem B_89_12 {X : Nat × (Nat → Int32)} {d : Nat} (n : Nat) (x1 : Nat) (v7 : Int32) (S7 : St) : ex X d 89 48 [.ref 1, .ref x1, .ref 11, .retAddr 0] [.int v7] (hh S7) (n + 2) = if 1 < v7 then ex X d 89 56 [.ref 1, .ref x1, .ref 11, .retAddr 0] [] (hh S7) n else ex X d 89 52 [.ref 1, .ref x1, .ref 11, .retAddr 0] [] (hh S7) n := rfl
theorem B_89_13 {X : Nat × (Nat → Int32)} {d : Nat} (n : Nat) (x1 : Nat) (S7 : St) : ex X (d + 1) 89 56 [.ref 1, .ref x1, .ref 11, .retAddr 0] [] (hh S7) (n + 10) = (match ex X d 87 0 [.ref 1, .ref x1, .int 0, .int (S7.1 11 0), .int (S7.1 11 1)] [] (hh S7) n with | some (v, h') => ex X (d + 1) 89 72 [.ref 1, .ref x1, .ref 11, .int 0] (v.toList ++ []) h' n | none => none) := rfl
theorem B_89_14 {X : Nat × (Nat → Int32)} {d : Nat} (n : Nat) (x1 : Nat) (v7 : Int32) (S7 : St) : ex X d 89 48 [.ref 1, .ref x1, .ref 11, .retAddr 0] [.int v7] (hh S7) (n + 2) = if 1 < v7 then ex X d 89 56 [.ref 1, .ref x1, .ref 11, .retAddr 0] [] (hh S7) n else ex X d 89 52 [.ref 1, .ref x1, .ref 11, .retAddr 0] [] (hh S7) n := rfl
theorem B_89_15 {X : Nat × (Nat → Int32)} {d : Nat} (n : Nat) (x1 : Nat) (S7 : St) : ex X (d + 1) 89 52 [.ref 1, .ref x1, .ref 11, .retAddr 0] [] (hh S7) (n + 11) = (match ex X d 87 0 [.ref 1, .ref x1, .int 1, .int (S7.1 11 0), .int (S7.1 11 1)] [] (hh S7) n with | some (v, h') => ex X (d + 1) 89 72 [.ref 1, .ref x1, .ref 11, .int 1] (v.toList ++ []) h' n | none => none) := rfl
set_option maxRecDepth 200000 in
theorem T_89 {X : Nat × (Nat → Int32)} (S : St) (x1 : Nat) (r : Unit) (S' : St) (hG : G_89 S x1 = some (r, S')) : Ev X 2 89 0 [.ref 1, .ref x1, .retAddr 0, .retAddr 0] [] (hh S) (xV r, hh S') := by
  unfold G_89 at hG
  refine Ev.g (c := (2 ≤ (kd 7).1 ∧ (kd 7).1 < xo_n) ∧ xa_in (0 : Int32) (kd 7).2) (p1 := 6) (L1 := [.ref 1, .ref x1, .retAddr 0, .retAddr 0]) (s1 := [va_rf (RC S.2.1 S.2.2 7 ((0 : Int32)).toNatClampNeg)]) (h1 := hh S) 4 (fun n => B_89_1 n x1 S) ⟨⟨by decide, by decide⟩, (by decide)⟩ ?_
  rw [RC_7 (xa_lt (n := 4) (by decide))]
  show Ev X _ 89 6 [.ref 1, .ref x1, .retAddr 0, .retAddr 0] [.ref 11] (hh S) _
  by_cases c1 : (S.1 11 7) = 0
  · rw [if_pos c1] at hG
    refine Ev.t (c := (S.1 11 7) = 0) (p1 := 14) (L1 := [.ref 1, .ref x1, .ref 11, .retAddr 0]) (s1 := []) (h1 := hh S) (p2 := 20) (L2 := [.ref 1, .ref x1, .ref 11, .retAddr 0]) (s2 := []) (h2 := hh S) 4 (fun n => B_89_2 n x1 S) c1 ?_
    by_cases g2 : (kd x1).1 = 10 + 0
    rotate_left
    · rw [if_neg g2] at hG; cases hG
    rw [if_pos g2] at hG
    refine Ev.g (c := (kd x1).1 = 10 + 0 ∧ (xf_k 0 4 = 0 ∨ (xf_k 0 4 = 1 ∧ ((0 : Int32) = 0 ∨ (0 : Int32) = 1)))) (p1 := 19) (L1 := [.ref 1, .ref x1, .ref 11, .retAddr 0]) (s1 := []) (h1 := hh (xa_u S.1 x1 4 0, S.2.1, S.2.2)) 3 (fun n => B_89_3 n x1 S) (⟨g2, Or.inl rfl⟩) ?_
    obtain ⟨e1, e2⟩ := Prod.mk.inj (Option.some.inj hG)
    subst e1
    subst e2
    exact Ev.r 1 (fun n => rfl)
  · rw [if_neg c1] at hG
    refine Ev.f (c := (S.1 11 7) = 0) (p1 := 14) (L1 := [.ref 1, .ref x1, .ref 11, .retAddr 0]) (s1 := []) (h1 := hh S) (p2 := 20) (L2 := [.ref 1, .ref x1, .ref 11, .retAddr 0]) (s2 := []) (h2 := hh S) 4 (fun n => B_89_4 n x1 S) c1 ?_
    by_cases g3 : (kd x1).1 = 10 + 0
    rotate_left
    · rw [if_neg g3] at hG; cases hG
    rw [if_pos g3] at hG
    refine Ev.g (c := (kd x1).1 = 10 + 0) (p1 := 28) (L1 := [.ref 1, .ref x1, .ref 11, .retAddr 0]) (s1 := [.int (S.1 x1 0), .int (S.1 11 0)]) (h1 := hh S) 4 (fun n => B_89_5 n x1 S) g3 ?_
    rcases h4 : G_3 S ((S.1 11 0) - (S.1 x1 0)) with _ | ⟨v4, S4⟩
    · rw [h4] at hG; cases hG
    rw [h4] at hG
    dsimp only at hG
    refine Ev.c (a := 3) (A := [.int ((S.1 11 0) - (S.1 x1 0))]) (h1 := hh S) (pc' := 32) (L' := [.ref 1, .ref x1, .ref 11, .retAddr 0]) (rest := []) (r1 := some (.int v4)) (h2 := hh S4) 2 (fun n => B_89_6 n x1 S) (Ev.up (by decide) (T_3 S ((S.1 11 0) - (S.1 x1 0)) _ _ h4)) ?_
    show Ev X _ 89 32 [.ref 1, .ref x1, .ref 11, .retAddr 0] [.int v4] (hh S4) _
    by_cases c5 : 2 < v4
    · rw [if_pos c5] at hG
      refine Ev.t (c := 2 < v4) (p1 := 56) (L1 := [.ref 1, .ref x1, .ref 11, .retAddr 0]) (s1 := []) (h1 := hh S4) (p2 := 36) (L2 := [.ref 1, .ref x1, .ref 11, .retAddr 0]) (s2 := []) (h2 := hh S4) 2 (fun n => B_89_7 n x1 v4 S4) c5 ?_
      rcases h6 : G_87 S4 x1 (0 : Int32) (S4.1 11 0) (S4.1 11 1) with _ | ⟨v6, S6⟩
      · rw [h6] at hG; cases hG
      rw [h6] at hG
      dsimp only at hG
      refine Ev.c (a := 87) (A := [.ref 1, .ref x1, .int 0, .int (S4.1 11 0), .int (S4.1 11 1)]) (h1 := hh S4) (pc' := 72) (L' := [.ref 1, .ref x1, .ref 11, .int 0]) (rest := []) (r1 := none) (h2 := hh S6) 10 (fun n => B_89_8 n x1 S4) (Ev.up (by decide) (T_87 S4 x1 (0 : Int32) (S4.1 11 0) (S4.1 11 1) _ _ h6)) ?_
      show Ev X _ 89 72 [.ref 1, .ref x1, .ref 11, .int 0] [] (hh S6) _
      obtain ⟨e1, e2⟩ := Prod.mk.inj (Option.some.inj hG)
      subst e1
      subst e2
      exact Ev.r 1 (fun n => rfl)
    · rw [if_neg c5] at hG
      refine Ev.f (c := 2 < v4) (p1 := 56) (L1 := [.ref 1, .ref x1, .ref 11, .retAddr 0]) (s1 := []) (h1 := hh S4) (p2 := 36) (L2 := [.ref 1, .ref x1, .ref 11, .retAddr 0]) (s2 := []) (h2 := hh S4) 2 (fun n => B_89_9 n x1 v4 S4) c5 ?_
      refine Ev.g (c := (kd x1).1 = 10 + 0) (p1 := 44) (L1 := [.ref 1, .ref x1, .ref 11, .retAddr 0]) (s1 := [.int (S4.1 x1 1), .int (S4.1 11 1)]) (h1 := hh S4) 4 (fun n => B_89_10 n x1 S4) g3 ?_
      rcases h7 : G_3 S4 ((S4.1 11 1) - (S4.1 x1 1)) with _ | ⟨v7, S7⟩
      · rw [h7] at hG; cases hG
      rw [h7] at hG
      dsimp only at hG
      refine Ev.c (a := 3) (A := [.int ((S4.1 11 1) - (S4.1 x1 1))]) (h1 := hh S4) (pc' := 48) (L' := [.ref 1, .ref x1, .ref 11, .retAddr 0]) (rest := []) (r1 := some (.int v7)) (h2 := hh S7) 2 (fun n => B_89_11 n x1 S4) (Ev.up (by decide) (T_3 S4 ((S4.1 11 1) - (S4.1 x1 1)) _ _ h7)) ?_
      show Ev X _ 89 48 [.ref 1, .ref x1, .ref 11, .retAddr 0] [.int v7] (hh S7) _
      by_cases c8 : 1 < v7
      · rw [if_pos c8] at hG
        refine Ev.t (c := 1 < v7) (p1 := 56) (L1 := [.ref 1, .ref x1, .ref 11, .retAddr 0]) (s1 := []) (h1 := hh S7) (p2 := 52) (L2 := [.ref 1, .ref x1, .ref 11, .retAddr 0]) (s2 := []) (h2 := hh S7) 2 (fun n => B_89_12 n x1 v7 S7) c8 ?_
        rcases h9 : G_87 S7 x1 (0 : Int32) (S7.1 11 0) (S7.1 11 1) with _ | ⟨v9, S9⟩
        · rw [h9] at hG; cases hG
        rw [h9] at hG
        dsimp only at hG
        refine Ev.c (a := 87) (A := [.ref 1, .ref x1, .int 0, .int (S7.1 11 0), .int (S7.1 11 1)]) (h1 := hh S7) (pc' := 72) (L' := [.ref 1, .ref x1, .ref 11, .int 0]) (rest := []) (r1 := none) (h2 := hh S9) 10 (fun n => B_89_13 n x1 S7) (Ev.up (by decide) (T_87 S7 x1 (0 : Int32) (S7.1 11 0) (S7.1 11 1) _ _ h9)) ?_
        show Ev X _ 89 72 [.ref 1, .ref x1, .ref 11, .int 0] [] (hh S9) _
        obtain ⟨e1, e2⟩ := Prod.mk.inj (Option.some.inj hG)
        subst e1
        subst e2
        exact Ev.r 1 (fun n => rfl)
      · rw [if_neg c8] at hG
        refine Ev.f (c := 1 < v7) (p1 := 56) (L1 := [.ref 1, .ref x1, .ref 11, .retAddr 0]) (s1 := []) (h1 := hh S7) (p2 := 52) (L2 := [.ref 1, .ref x1, .ref 11, .retAddr 0]) (s2 := []) (h2 := hh S7) 2 (fun n => B_89_14 n x1 v7 S7) c8 ?_
        rcases h10 : G_87 S7 x1 (1 : Int32) (S7.1 11 0) (S7.1 11 1) with _ | ⟨v10, S10⟩
        · rw [h10] at hG; cases hG
        rw [h10] at hG
        dsimp only at hG
        refine Ev.c (a := 87) (A := [.ref 1, .ref x1, .int 1, .int (S7.1 11 0), .int (S7.1 11 1)]) (h1 := hh S7) (pc' := 72) (L' := [.ref 1, .ref x1, .ref 11, .int 1]) (rest := []) (r1 := none) (h2 := hh S10) 11 (fun n => B_89_15 n x1 S7) (Ev.up (by decide) (T_87 S7 x1 (1 : Int32) (S7.1 11 0) (S7.1 11 1) _ _ h10)) ?_
        show Ev X _ 89 72 [.ref 1, .ref x1, .ref 11, .int 1] [] (hh S10) _
        obtain ⟨e1, e2⟩ := Prod.mk.inj (Option.some.inj hG)
        subst e1
        subst e2
        exact Ev.r 1 (fun n => rfl)
/-- 86: SceneCycle$Motion.aim(LSceneCycle$World;LSceneCycle$Actor;I)V -/
def G_86 (S : St) (x1 : Nat) (x2 : Int32) : Option (Unit × St) :=
  (if (kd x1).1 = 10 + 0 then
    (if (S.1 x1 5) = 1 then
      (if (S.1 x1 0) = (S.1 x1 10) then
        (if (S.1 x1 1) = (S.1 x1 11) then
          (match G_87 S x1 (1 : Int32) (S.1 x1 10) (S.1 x1 11) with
          | none => none
          | some (v5, S5) =>
            some ((), S5)
          )
        else
          (match G_87 S x1 (0 : Int32) (S.1 x1 10) (S.1 x1 11) with
          | none => none
          | some (v6, S6) =>
            some ((), S6)
          )
        )
      else
        (match G_87 S x1 (0 : Int32) (S.1 x1 10) (S.1 x1 11) with
        | none => none
        | some (v7, S7) =>
          some ((), S7)
        )
      )
    else
      (if (S.1 x1 5) = 2 then
        (match G_89 S x1 with
        | none => none
        | some (v9, S9) =>
          some ((), S9)
        )
      else
        (if (S.1 x1 5) = 3 then
          (if (S.1 x1 9) = 0 then
            some ((), (xa_u S.1 x1 4 x2, S.2.1, S.2.2))
          else
            some ((), S)
          )
        else
          some ((), S)
        )
      )
    )
  else none)
theorem B_86_1 {X : Nat × (Nat → Int32)} {d : Nat} (n : Nat) (x1 : Nat) (x2 : Int32) (S : St) : ex X d 86 0 [.ref 1, .ref x1, .int x2, .retAddr 0] [] (hh S) (n + 2) = if (kd x1).1 = 10 + 0 then ex X d 86 4 [.ref 1, .ref x1, .int x2, .retAddr 0] [.int (S.1 x1 5)] (hh S) n else none := rfl
theorem B_86_2 {X : Nat × (Nat → Int32)} {d : Nat} (n : Nat) (x1 : Nat) (x2 : Int32) (S : St) : ex X d 86 4 [.ref 1, .ref x1, .int x2, .retAddr 0] [.int (S.1 x1 5)] (hh S) (n + 2) = if (S.1 x1 5) = 1 then ex X d 86 8 [.ref 1, .ref x1, .int x2, .retAddr 0] [] (hh S) n else ex X d 86 53 [.ref 1, .ref x1, .int x2, .retAddr 0] [] (hh S) n := rfl
theorem B_86_3 {X : Nat × (Nat → Int32)} {d : Nat} (n : Nat) (x1 : Nat) (x2 : Int32) (S : St) : ex X d 86 8 [.ref 1, .ref x1, .int x2, .retAddr 0] [] (hh S) (n + 2) = if (kd x1).1 = 10 + 0 then ex X d 86 12 [.ref 1, .ref x1, .int x2, .retAddr 0] [.int (S.1 x1 0)] (hh S) n else none := rfl
theorem B_86_4 {X : Nat × (Nat → Int32)} {d : Nat} (n : Nat) (x1 : Nat) (x2 : Int32) (S : St) : ex X d 86 12 [.ref 1, .ref x1, .int x2, .retAddr 0] [.int (S.1 x1 0)] (hh S) (n + 2) = if (kd x1).1 = 10 + 0 then ex X d 86 16 [.ref 1, .ref x1, .int x2, .retAddr 0] [.int (S.1 x1 10), .int (S.1 x1 0)] (hh S) n else none := rfl
theorem B_86_5 {X : Nat × (Nat → Int32)} {d : Nat} (n : Nat) (x1 : Nat) (x2 : Int32) (S : St) : ex X d 86 16 [.ref 1, .ref x1, .int x2, .retAddr 0] [.int (S.1 x1 10), .int (S.1 x1 0)] (hh S) (n + 1) = if (S.1 x1 0) = (S.1 x1 10) then ex X d 86 19 [.ref 1, .ref x1, .int x2, .retAddr 0] [] (hh S) n else ex X d 86 34 [.ref 1, .ref x1, .int x2, .retAddr 0] [] (hh S) n := rfl
theorem B_86_6 {X : Nat × (Nat → Int32)} {d : Nat} (n : Nat) (x1 : Nat) (x2 : Int32) (S : St) : ex X d 86 19 [.ref 1, .ref x1, .int x2, .retAddr 0] [] (hh S) (n + 2) = if (kd x1).1 = 10 + 0 then ex X d 86 23 [.ref 1, .ref x1, .int x2, .retAddr 0] [.int (S.1 x1 1)] (hh S) n else none := rfl
theorem B_86_7 {X : Nat × (Nat → Int32)} {d : Nat} (n : Nat) (x1 : Nat) (x2 : Int32) (S : St) : ex X d 86 23 [.ref 1, .ref x1, .int x2, .retAddr 0] [.int (S.1 x1 1)] (hh S) (n + 2) = if (kd x1).1 = 10 + 0 then ex X d 86 27 [.ref 1, .ref x1, .int x2, .retAddr 0] [.int (S.1 x1 11), .int (S.1 x1 1)] (hh S) n else none := rfl
theorem B_86_8 {X : Nat × (Nat → Int32)} {d : Nat} (n : Nat) (x1 : Nat) (x2 : Int32) (S : St) : ex X d 86 27 [.ref 1, .ref x1, .int x2, .retAddr 0] [.int (S.1 x1 11), .int (S.1 x1 1)] (hh S) (n + 1) = if (S.1 x1 1) = (S.1 x1 11) then ex X d 86 30 [.ref 1, .ref x1, .int x2, .retAddr 0] [] (hh S) n else ex X d 86 34 [.ref 1, .ref x1, .int x2, .retAddr 0] [] (hh S) n := rfl
theorem B_86_9 {X : Nat × (Nat → Int32)} {d : Nat} (n : Nat) (x1 : Nat) (x2 : Int32) (S : St) : ex X d 86 30 [.ref 1, .ref x1, .int x2, .retAddr 0] [] (hh S) (n + 8) = if (kd x1).1 = 10 + 0 then ex X d 86 43 [.ref 1, .ref x1, .int x2, .int 1] [.int (S.1 x1 10), .int 1, .ref x1, .ref 1] (hh S) n else none := rfl
theorem B_86_10 {X : Nat × (Nat → Int32)} {d : Nat} (n : Nat) (x1 : Nat) (x2 : Int32) (S : St) : ex X d 86 43 [.ref 1, .ref x1, .int x2, .int 1] [.int (S.1 x1 10), .int 1, .ref x1, .ref 1] (hh S) (n + 2) = if (kd x1).1 = 10 + 0 then ex X d 86 47 [.ref 1, .ref x1, .int x2, .int 1] [.int (S.1 x1 11), .int (S.1 x1 10), .int 1, .ref x1, .ref 1] (hh S) n else none := rfl
theorem B_86_11 {X : Nat × (Nat → Int32)} {d : Nat} (n : Nat) (x1 : Nat) (x2 : Int32) (S : St) : ex X (d + 1) 86 47 [.ref 1, .ref x1, .int x2, .int 1] [.int (S.1 x1 11), .int (S.1 x1 10), .int 1, .ref x1, .ref 1] (hh S) (n + 1) = (match ex X d 87 0 [.ref 1, .ref x1, .int 1, .int (S.1 x1 10), .int (S.1 x1 11)] [] (hh S) n with | some (v, h') => ex X (d + 1) 86 50 [.ref 1, .ref x1, .int x2, .int 1] (v.toList ++ []) h' n | none => none) := rfl
theorem B_86_12 {X : Nat × (Nat → Int32)} {d : Nat} (n : Nat) (x1 : Nat) (x2 : Int32) (S : St) : ex X d 86 27 [.ref 1, .ref x1, .int x2, .retAddr 0] [.int (S.1 x1 11), .int (S.1 x1 1)] (hh S) (n + 1) = if (S.1 x1 1) = (S.1 x1 11) then ex X d 86 30 [.ref 1, .ref x1, .int x2, .retAddr 0] [] (hh S) n else ex X d 86 34 [.ref 1, .ref x1, .int x2, .retAddr 0] [] (hh S) n := rfl
theorem B_86_13 {X : Nat × (Nat → Int32)} {d : Nat} (n : Nat) (x1 : Nat) (x2 : Int32) (S : St) : ex X d 86 34 [.ref 1, .ref x1, .int x2, .retAddr 0] [] (hh S) (n + 7) = if (kd x1).1 = 10 + 0 then ex X d 86 43 [.ref 1, .ref x1, .int x2, .int 0] [.int (S.1 x1 10), .int 0, .ref x1, .ref 1] (hh S) n else none := rfl
theorem B_86_14 {X : Nat × (Nat → Int32)} {d : Nat} (n : Nat) (x1 : Nat) (x2 : Int32) (S : St) : ex X d 86 43 [.ref 1, .ref x1, .int x2, .int 0] [.int (S.1 x1 10), .int 0, .ref x1, .ref 1] (hh S) (n + 2) = if (kd x1).1 = 10 + 0 then ex X d 86 47 [.ref 1, .ref x1, .int x2, .int 0] [.int (S.1 x1 11), .int (S.1 x1 10), .int 0, .ref x1, .ref 1] (hh S) n else none := rfl
theorem B_86_15 {X : Nat × (Nat → Int32)} {d : Nat} (n : Nat) (x1 : Nat) (x2 : Int32) (S : St) : ex X (d + 1) 86 47 [.ref 1, .ref x1, .int x2, .int 0] [.int (S.1 x1 11), .int (S.1 x1 10), .int 0, .ref x1, .ref 1] (hh S) (n + 1) = (match ex X d 87 0 [.ref 1, .ref x1, .int 0, .int (S.1 x1 10), .int (S.1 x1 11)] [] (hh S) n with | some (v, h') => ex X (d + 1) 86 50 [.ref 1, .ref x1, .int x2, .int 0] (v.toList ++ []) h' n | none => none) := rfl
theorem B_86_16 {X : Nat × (Nat → Int32)} {d : Nat} (n : Nat) (x1 : Nat) (x2 : Int32) (S : St) : ex X d 86 16 [.ref 1, .ref x1, .int x2, .retAddr 0] [.int (S.1 x1 10), .int (S.1 x1 0)] (hh S) (n + 1) = if (S.1 x1 0) = (S.1 x1 10) then ex X d 86 19 [.ref 1, .ref x1, .int x2, .retAddr 0] [] (hh S) n else ex X d 86 34 [.ref 1, .ref x1, .int x2, .retAddr 0] [] (hh S) n := rfl
theorem B_86_17 {X : Nat × (Nat → Int32)} {d : Nat} (n : Nat) (x1 : Nat) (x2 : Int32) (S : St) : ex X d 86 34 [.ref 1, .ref x1, .int x2, .retAddr 0] [] (hh S) (n + 7) = if (kd x1).1 = 10 + 0 then ex X d 86 43 [.ref 1, .ref x1, .int x2, .int 0] [.int (S.1 x1 10), .int 0, .ref x1, .ref 1] (hh S) n else none := rfl
theorem B_86_18 {X : Nat × (Nat → Int32)} {d : Nat} (n : Nat) (x1 : Nat) (x2 : Int32) (S : St) : ex X d 86 43 [.ref 1, .ref x1, .int x2, .int 0] [.int (S.1 x1 10), .int 0, .ref x1, .ref 1] (hh S) (n + 2) = if (kd x1).1 = 10 + 0 then ex X d 86 47 [.ref 1, .ref x1, .int x2, .int 0] [.int (S.1 x1 11), .int (S.1 x1 10), .int 0, .ref x1, .ref 1] (hh S) n else none := rfl
theorem B_86_19 {X : Nat × (Nat → Int32)} {d : Nat} (n : Nat) (x1 : Nat) (x2 : Int32) (S : St) : ex X (d + 1) 86 47 [.ref 1, .ref x1, .int x2, .int 0] [.int (S.1 x1 11), .int (S.1 x1 10), .int 0, .ref x1, .ref 1] (hh S) (n + 1) = (match ex X d 87 0 [.ref 1, .ref x1, .int 0, .int (S.1 x1 10), .int (S.1 x1 11)] [] (hh S) n with | some (v, h') => ex X (d + 1) 86 50 [.ref 1, .ref x1, .int x2, .int 0] (v.toList ++ []) h' n | none => none) := rfl
theorem B_86_20 {X : Nat × (Nat → Int32)} {d : Nat} (n : Nat) (x1 : Nat) (x2 : Int32) (S : St) : ex X d 86 4 [.ref 1, .ref x1, .int x2, .retAddr 0] [.int (S.1 x1 5)] (hh S) (n + 2) = if (S.1 x1 5) = 1 then ex X d 86 8 [.ref 1, .ref x1, .int x2, .retAddr 0] [] (hh S) n else ex X d 86 53 [.ref 1, .ref x1, .int x2, .retAddr 0] [] (hh S) n := rfl
theorem B_86_21 {X : Nat × (Nat → Int32)} {d : Nat} (n : Nat) (x1 : Nat) (x2 : Int32) (S : St) : ex X d 86 53 [.ref 1, .ref x1, .int x2, .retAddr 0] [] (hh S) (n + 2) = if (kd x1).1 = 10 + 0 then ex X d 86 57 [.ref 1, .ref x1, .int x2, .retAddr 0] [.int (S.1 x1 5)] (hh S) n else none := rfl
theorem B_86_22 {X : Nat × (Nat → Int32)} {d : Nat} (n : Nat) (x1 : Nat) (x2 : Int32) (S : St) : ex X d 86 57 [.ref 1, .ref x1, .int x2, .retAddr 0] [.int (S.1 x1 5)] (hh S) (n + 2) = if (S.1 x1 5) = 2 then ex X d 86 61 [.ref 1, .ref x1, .int x2, .retAddr 0] [] (hh S) n else ex X d 86 69 [.ref 1, .ref x1, .int x2, .retAddr 0] [] (hh S) n := rfl
theorem B_86_23 {X : Nat × (Nat → Int32)} {d : Nat} (n : Nat) (x1 : Nat) (x2 : Int32) (S : St) : ex X (d + 1) 86 61 [.ref 1, .ref x1, .int x2, .retAddr 0] [] (hh S) (n + 3) = (match ex X d 89 0 [.ref 1, .ref x1, .retAddr 0, .retAddr 0] [] (hh S) n with | some (v, h') => ex X (d + 1) 86 66 [.ref 1, .ref x1, .int x2, .retAddr 0] (v.toList ++ []) h' n | none => none) := rfl
theorem B_86_24 {X : Nat × (Nat → Int32)} {d : Nat} (n : Nat) (x1 : Nat) (x2 : Int32) (S : St) : ex X d 86 57 [.ref 1, .ref x1, .int x2, .retAddr 0] [.int (S.1 x1 5)] (hh S) (n + 2) = if (S.1 x1 5) = 2 then ex X d 86 61 [.ref 1, .ref x1, .int x2, .retAddr 0] [] (hh S) n else ex X d 86 69 [.ref 1, .ref x1, .int x2, .retAddr 0] [] (hh S) n := rfl
theorem B_86_25 {X : Nat × (Nat → Int32)} {d : Nat} (n : Nat) (x1 : Nat) (x2 : Int32) (S : St) : ex X d 86 69 [.ref 1, .ref x1, .int x2, .retAddr 0] [] (hh S) (n + 2) = if (kd x1).1 = 10 + 0 then ex X d 86 73 [.ref 1, .ref x1, .int x2, .retAddr 0] [.int (S.1 x1 5)] (hh S) n else none := rfl
theorem B_86_26 {X : Nat × (Nat → Int32)} {d : Nat} (n : Nat) (x1 : Nat) (x2 : Int32) (S : St) : ex X d 86 73 [.ref 1, .ref x1, .int x2, .retAddr 0] [.int (S.1 x1 5)] (hh S) (n + 2) = if (S.1 x1 5) = 3 then ex X d 86 77 [.ref 1, .ref x1, .int x2, .retAddr 0] [] (hh S) n else ex X d 86 89 [.ref 1, .ref x1, .int x2, .retAddr 0] [] (hh S) n := rfl
theorem B_86_27 {X : Nat × (Nat → Int32)} {d : Nat} (n : Nat) (x1 : Nat) (x2 : Int32) (S : St) : ex X d 86 77 [.ref 1, .ref x1, .int x2, .retAddr 0] [] (hh S) (n + 2) = if (kd x1).1 = 10 + 0 then ex X d 86 81 [.ref 1, .ref x1, .int x2, .retAddr 0] [.int (S.1 x1 9)] (hh S) n else none := rfl
theorem B_86_28 {X : Nat × (Nat → Int32)} {d : Nat} (n : Nat) (x1 : Nat) (x2 : Int32) (S : St) : ex X d 86 81 [.ref 1, .ref x1, .int x2, .retAddr 0] [.int (S.1 x1 9)] (hh S) (n + 1) = if (S.1 x1 9) = 0 then ex X d 86 84 [.ref 1, .ref x1, .int x2, .retAddr 0] [] (hh S) n else ex X d 86 89 [.ref 1, .ref x1, .int x2, .retAddr 0] [] (hh S) n := rfl
theorem B_86_29 {X : Nat × (Nat → Int32)} {d : Nat} (n : Nat) (x1 : Nat) (x2 : Int32) (S : St) : ex X d 86 84 [.ref 1, .ref x1, .int x2, .retAddr 0] [] (hh S) (n + 3) = if (kd x1).1 = 10 + 0 ∧ (xf_k 0 4 = 0 ∨ (xf_k 0 4 = 1 ∧ (x2 = 0 ∨ x2 = 1))) then ex X d 86 89 [.ref 1, .ref x1, .int x2, .retAddr 0] [] (hh (xa_u S.1 x1 4 x2, S.2.1, S.2.2)) n else none := rfl
theorem B_86_30 {X : Nat × (Nat → Int32)} {d : Nat} (n : Nat) (x1 : Nat) (x2 : Int32) (S : St) : ex X d 86 81 [.ref 1, .ref x1, .int x2, .retAddr 0] [.int (S.1 x1 9)] (hh S) (n + 1) = if (S.1 x1 9) = 0 then ex X d 86 84 [.ref 1, .ref x1, .int x2, .retAddr 0] [] (hh S) n else ex X d 86 89 [.ref 1, .ref x1, .int x2, .retAddr 0] [] (hh S) n := rfl
theorem B_86_31 {X : Nat × (Nat → Int32)} {d : Nat} (n : Nat) (x1 : Nat) (x2 : Int32) (S : St) : ex X d 86 73 [.ref 1, .ref x1, .int x2, .retAddr 0] [.int (S.1 x1 5)] (hh S) (n + 2) = if (S.1 x1 5) = 3 then ex X d 86 77 [.ref 1, .ref x1, .int x2, .retAddr 0] [] (hh S) n else ex X d 86 89 [.ref 1, .ref x1, .int x2, .retAddr 0] [] (hh S) n := rfl
set_option maxRecDepth 200000 in
theorem T_86 {X : Nat × (Nat → Int32)} (S : St) (x1 : Nat) (x2 : Int32) (r : Unit) (S' : St) (hG : G_86 S x1 x2 = some (r, S')) : Ev X 3 86 0 [.ref 1, .ref x1, .int x2, .retAddr 0] [] (hh S) (xV r, hh S') := by
  unfold G_86 at hG
  by_cases g1 : (kd x1).1 = 10 + 0
  rotate_left
  · rw [if_neg g1] at hG; cases hG
  rw [if_pos g1] at hG
  refine Ev.g (c := (kd x1).1 = 10 + 0) (p1 := 4) (L1 := [.ref 1, .ref x1, .int x2, .retAddr 0]) (s1 := [.int (S.1 x1 5)]) (h1 := hh S) 2 (fun n => B_86_1 n x1 x2 S) g1 ?_
  by_cases c2 : (S.1 x1 5) = 1
  · rw [if_pos c2] at hG
    refine Ev.t (c := (S.1 x1 5) = 1) (p1 := 8) (L1 := [.ref 1, .ref x1, .int x2, .retAddr 0]) (s1 := []) (h1 := hh S) (p2 := 53) (L2 := [.ref 1, .ref x1, .int x2, .retAddr 0]) (s2 := []) (h2 := hh S) 2 (fun n => B_86_2 n x1 x2 S) c2 ?_
    refine Ev.g (c := (kd x1).1 = 10 + 0) (p1 := 12) (L1 := [.ref 1, .ref x1, .int x2, .retAddr 0]) (s1 := [.int (S.1 x1 0)]) (h1 := hh S) 2 (fun n => B_86_3 n x1 x2 S) g1 ?_
    refine Ev.g (c := (kd x1).1 = 10 + 0) (p1 := 16) (L1 := [.ref 1, .ref x1, .int x2, .retAddr 0]) (s1 := [.int (S.1 x1 10), .int (S.1 x1 0)]) (h1 := hh S) 2 (fun n => B_86_4 n x1 x2 S) g1 ?_
    by_cases c3 : (S.1 x1 0) = (S.1 x1 10)
    · rw [if_pos c3] at hG
      refine Ev.t (c := (S.1 x1 0) = (S.1 x1 10)) (p1 := 19) (L1 := [.ref 1, .ref x1, .int x2, .retAddr 0]) (s1 := []) (h1 := hh S) (p2 := 34) (L2 := [.ref 1, .ref x1, .int x2, .retAddr 0]) (s2 := []) (h2 := hh S) 1 (fun n => B_86_5 n x1 x2 S) c3 ?_
      refine Ev.g (c := (kd x1).1 = 10 + 0) (p1 := 23) (L1 := [.ref 1, .ref x1, .int x2, .retAddr 0]) (s1 := [.int (S.1 x1 1)]) (h1 := hh S) 2 (fun n => B_86_6 n x1 x2 S) g1 ?_
      refine Ev.g (c := (kd x1).1 = 10 + 0) (p1 := 27) (L1 := [.ref 1, .ref x1, .int x2, .retAddr 0]) (s1 := [.int (S.1 x1 11), .int (S.1 x1 1)]) (h1 := hh S) 2 (fun n => B_86_7 n x1 x2 S) g1 ?_
      by_cases c4 : (S.1 x1 1) = (S.1 x1 11)
      · rw [if_pos c4] at hG
        refine Ev.t (c := (S.1 x1 1) = (S.1 x1 11)) (p1 := 30) (L1 := [.ref 1, .ref x1, .int x2, .retAddr 0]) (s1 := []) (h1 := hh S) (p2 := 34) (L2 := [.ref 1, .ref x1, .int x2, .retAddr 0]) (s2 := []) (h2 := hh S) 1 (fun n => B_86_8 n x1 x2 S) c4 ?_
        refine Ev.g (c := (kd x1).1 = 10 + 0) (p1 := 43) (L1 := [.ref 1, .ref x1, .int x2, .int 1]) (s1 := [.int (S.1 x1 10), .int 1, .ref x1, .ref 1]) (h1 := hh S) 8 (fun n => B_86_9 n x1 x2 S) g1 ?_
        refine Ev.g (c := (kd x1).1 = 10 + 0) (p1 := 47) (L1 := [.ref 1, .ref x1, .int x2, .int 1]) (s1 := [.int (S.1 x1 11), .int (S.1 x1 10), .int 1, .ref x1, .ref 1]) (h1 := hh S) 2 (fun n => B_86_10 n x1 x2 S) g1 ?_
        rcases h5 : G_87 S x1 (1 : Int32) (S.1 x1 10) (S.1 x1 11) with _ | ⟨v5, S5⟩
        · rw [h5] at hG; cases hG
        rw [h5] at hG
        dsimp only at hG
        refine Ev.c (a := 87) (A := [.ref 1, .ref x1, .int 1, .int (S.1 x1 10), .int (S.1 x1 11)]) (h1 := hh S) (pc' := 50) (L' := [.ref 1, .ref x1, .int x2, .int 1]) (rest := []) (r1 := none) (h2 := hh S5) 1 (fun n => B_86_11 n x1 x2 S) (Ev.up (by decide) (T_87 S x1 (1 : Int32) (S.1 x1 10) (S.1 x1 11) _ _ h5)) ?_
        show Ev X _ 86 50 [.ref 1, .ref x1, .int x2, .int 1] [] (hh S5) _
        obtain ⟨e1, e2⟩ := Prod.mk.inj (Option.some.inj hG)
        subst e1
        subst e2
        exact Ev.r 2 (fun n => rfl)
      · rw [if_neg c4] at hG
        refine Ev.f (c := (S.1 x1 1) = (S.1 x1 11)) (p1 := 30) (L1 := [.ref 1, .ref x1, .int x2, .retAddr 0]) (s1 := []) (h1 := hh S) (p2 := 34) (L2 := [.ref 1, .ref x1, .int x2, .retAddr 0]) (s2 := []) (h2 := hh S) 1 (fun n => B_86_12 n x1 x2 S) c4 ?_
        refine Ev.g (c := (kd x1).1 = 10 + 0) (p1 := 43) (L1 := [.ref 1, .ref x1, .int x2, .int 0]) (s1 := [.int (S.1 x1 10), .int 0, .ref x1, .ref 1]) (h1 := hh S) 7 (fun n => B_86_13 n x1 x2 S) g1 ?_
        refine Ev.g (c := (kd x1).1 = 10 + 0) (p1 := 47) (L1 := [.ref 1, .ref x1, .int x2, .int 0]) (s1 := [.int (S.1 x1 11), .int (S.1 x1 10), .int 0, .ref x1, .ref 1]) (h1 := hh S) 2 (fun n => B_86_14 n x1 x2 S) g1 ?_
        rcases h6 : G_87 S x1 (0 : Int32) (S.1 x1 10) (S.1 x1 11) with _ | ⟨v6, S6⟩
        · rw [h6] at hG; cases hG
        rw [h6] at hG
        dsimp only at hG
        refine Ev.c (a := 87) (A := [.ref 1, .ref x1, .int 0, .int (S.1 x1 10), .int (S.1 x1 11)]) (h1 := hh S) (pc' := 50) (L' := [.ref 1, .ref x1, .int x2, .int 0]) (rest := []) (r1 := none) (h2 := hh S6) 1 (fun n => B_86_15 n x1 x2 S) (Ev.up (by decide) (T_87 S x1 (0 : Int32) (S.1 x1 10) (S.1 x1 11) _ _ h6)) ?_
        show Ev X _ 86 50 [.ref 1, .ref x1, .int x2, .int 0] [] (hh S6) _
        obtain ⟨e1, e2⟩ := Prod.mk.inj (Option.some.inj hG)
        subst e1
        subst e2
        exact Ev.r 2 (fun n => rfl)
    · rw [if_neg c3] at hG
      refine Ev.f (c := (S.1 x1 0) = (S.1 x1 10)) (p1 := 19) (L1 := [.ref 1, .ref x1, .int x2, .retAddr 0]) (s1 := []) (h1 := hh S) (p2 := 34) (L2 := [.ref 1, .ref x1, .int x2, .retAddr 0]) (s2 := []) (h2 := hh S) 1 (fun n => B_86_16 n x1 x2 S) c3 ?_
      refine Ev.g (c := (kd x1).1 = 10 + 0) (p1 := 43) (L1 := [.ref 1, .ref x1, .int x2, .int 0]) (s1 := [.int (S.1 x1 10), .int 0, .ref x1, .ref 1]) (h1 := hh S) 7 (fun n => B_86_17 n x1 x2 S) g1 ?_
      refine Ev.g (c := (kd x1).1 = 10 + 0) (p1 := 47) (L1 := [.ref 1, .ref x1, .int x2, .int 0]) (s1 := [.int (S.1 x1 11), .int (S.1 x1 10), .int 0, .ref x1, .ref 1]) (h1 := hh S) 2 (fun n => B_86_18 n x1 x2 S) g1 ?_
      rcases h7 : G_87 S x1 (0 : Int32) (S.1 x1 10) (S.1 x1 11) with _ | ⟨v7, S7⟩
      · rw [h7] at hG; cases hG
      rw [h7] at hG
      dsimp only at hG
      refine Ev.c (a := 87) (A := [.ref 1, .ref x1, .int 0, .int (S.1 x1 10), .int (S.1 x1 11)]) (h1 := hh S) (pc' := 50) (L' := [.ref 1, .ref x1, .int x2, .int 0]) (rest := []) (r1 := none) (h2 := hh S7) 1 (fun n => B_86_19 n x1 x2 S) (Ev.up (by decide) (T_87 S x1 (0 : Int32) (S.1 x1 10) (S.1 x1 11) _ _ h7)) ?_
      show Ev X _ 86 50 [.ref 1, .ref x1, .int x2, .int 0] [] (hh S7) _
      obtain ⟨e1, e2⟩ := Prod.mk.inj (Option.some.inj hG)
      subst e1
      subst e2
      exact Ev.r 2 (fun n => rfl)
  · rw [if_neg c2] at hG
    refine Ev.f (c := (S.1 x1 5) = 1) (p1 := 8) (L1 := [.ref 1, .ref x1, .int x2, .retAddr 0]) (s1 := []) (h1 := hh S) (p2 := 53) (L2 := [.ref 1, .ref x1, .int x2, .retAddr 0]) (s2 := []) (h2 := hh S) 2 (fun n => B_86_20 n x1 x2 S) c2 ?_
    refine Ev.g (c := (kd x1).1 = 10 + 0) (p1 := 57) (L1 := [.ref 1, .ref x1, .int x2, .retAddr 0]) (s1 := [.int (S.1 x1 5)]) (h1 := hh S) 2 (fun n => B_86_21 n x1 x2 S) g1 ?_
    by_cases c8 : (S.1 x1 5) = 2
    · rw [if_pos c8] at hG
      refine Ev.t (c := (S.1 x1 5) = 2) (p1 := 61) (L1 := [.ref 1, .ref x1, .int x2, .retAddr 0]) (s1 := []) (h1 := hh S) (p2 := 69) (L2 := [.ref 1, .ref x1, .int x2, .retAddr 0]) (s2 := []) (h2 := hh S) 2 (fun n => B_86_22 n x1 x2 S) c8 ?_
      rcases h9 : G_89 S x1 with _ | ⟨v9, S9⟩
      · rw [h9] at hG; cases hG
      rw [h9] at hG
      dsimp only at hG
      refine Ev.c (a := 89) (A := [.ref 1, .ref x1, .retAddr 0, .retAddr 0]) (h1 := hh S) (pc' := 66) (L' := [.ref 1, .ref x1, .int x2, .retAddr 0]) (rest := []) (r1 := none) (h2 := hh S9) 3 (fun n => B_86_23 n x1 x2 S) (Ev.up (by decide) (T_89 S x1 _ _ h9)) ?_
      show Ev X _ 86 66 [.ref 1, .ref x1, .int x2, .retAddr 0] [] (hh S9) _
      obtain ⟨e1, e2⟩ := Prod.mk.inj (Option.some.inj hG)
      subst e1
      subst e2
      exact Ev.r 2 (fun n => rfl)
    · rw [if_neg c8] at hG
      refine Ev.f (c := (S.1 x1 5) = 2) (p1 := 61) (L1 := [.ref 1, .ref x1, .int x2, .retAddr 0]) (s1 := []) (h1 := hh S) (p2 := 69) (L2 := [.ref 1, .ref x1, .int x2, .retAddr 0]) (s2 := []) (h2 := hh S) 2 (fun n => B_86_24 n x1 x2 S) c8 ?_
      refine Ev.g (c := (kd x1).1 = 10 + 0) (p1 := 73) (L1 := [.ref 1, .ref x1, .int x2, .retAddr 0]) (s1 := [.int (S.1 x1 5)]) (h1 := hh S) 2 (fun n => B_86_25 n x1 x2 S) g1 ?_
      by_cases c10 : (S.1 x1 5) = 3
      · rw [if_pos c10] at hG
        refine Ev.t (c := (S.1 x1 5) = 3) (p1 := 77) (L1 := [.ref 1, .ref x1, .int x2, .retAddr 0]) (s1 := []) (h1 := hh S) (p2 := 89) (L2 := [.ref 1, .ref x1, .int x2, .retAddr 0]) (s2 := []) (h2 := hh S) 2 (fun n => B_86_26 n x1 x2 S) c10 ?_
        refine Ev.g (c := (kd x1).1 = 10 + 0) (p1 := 81) (L1 := [.ref 1, .ref x1, .int x2, .retAddr 0]) (s1 := [.int (S.1 x1 9)]) (h1 := hh S) 2 (fun n => B_86_27 n x1 x2 S) g1 ?_
        by_cases c11 : (S.1 x1 9) = 0
        · rw [if_pos c11] at hG
          refine Ev.t (c := (S.1 x1 9) = 0) (p1 := 84) (L1 := [.ref 1, .ref x1, .int x2, .retAddr 0]) (s1 := []) (h1 := hh S) (p2 := 89) (L2 := [.ref 1, .ref x1, .int x2, .retAddr 0]) (s2 := []) (h2 := hh S) 1 (fun n => B_86_28 n x1 x2 S) c11 ?_
          refine Ev.g (c := (kd x1).1 = 10 + 0 ∧ (xf_k 0 4 = 0 ∨ (xf_k 0 4 = 1 ∧ (x2 = 0 ∨ x2 = 1)))) (p1 := 89) (L1 := [.ref 1, .ref x1, .int x2, .retAddr 0]) (s1 := []) (h1 := hh (xa_u S.1 x1 4 x2, S.2.1, S.2.2)) 3 (fun n => B_86_29 n x1 x2 S) (⟨g1, Or.inl rfl⟩) ?_
          obtain ⟨e1, e2⟩ := Prod.mk.inj (Option.some.inj hG)
          subst e1
          subst e2
          exact Ev.r 1 (fun n => rfl)
        · rw [if_neg c11] at hG
          refine Ev.f (c := (S.1 x1 9) = 0) (p1 := 84) (L1 := [.ref 1, .ref x1, .int x2, .retAddr 0]) (s1 := []) (h1 := hh S) (p2 := 89) (L2 := [.ref 1, .ref x1, .int x2, .retAddr 0]) (s2 := []) (h2 := hh S) 1 (fun n => B_86_30 n x1 x2 S) c11 ?_
          obtain ⟨e1, e2⟩ := Prod.mk.inj (Option.some.inj hG)
          subst e1
          subst e2
          exact Ev.r 1 (fun n => rfl)
      · rw [if_neg c10] at hG
        refine Ev.f (c := (S.1 x1 5) = 3) (p1 := 77) (L1 := [.ref 1, .ref x1, .int x2, .retAddr 0]) (s1 := []) (h1 := hh S) (p2 := 89) (L2 := [.ref 1, .ref x1, .int x2, .retAddr 0]) (s2 := []) (h2 := hh S) 2 (fun n => B_86_31 n x1 x2 S) c10 ?_
        obtain ⟨e1, e2⟩ := Prod.mk.inj (Option.some.inj hG)
        subst e1
        subst e2
        exact Ev.r 1 (fun n => rfl)
/-- 85: SceneCycle$Motion.moveAll(LSceneCycle$World;I)V -/
def GL_85_0 : Nat → St → Int32 → Int32 → Option (Unit × St)
  | 0, _, _, _ => none
  | n + 1, S, y1, y2 =>
    (if 4 ≤ y2 then
      some ((), S)
    else
      (if xa_in y2 4 then
        (if (kd (11 + (y2).toNatClampNeg)).1 = 10 + 0 then
          (if (S.1 (11 + (y2).toNatClampNeg) 7) = 0 then
            GL_85_0 n S y1 (y2 + 1)
          else
            (match G_86 S (11 + (y2).toNatClampNeg) (1 + ((y1 + y2) - (y1 + y2) / 8 * 8)) with
            | none => none
            | some (v5, S5) =>
              (match G_90 S5 y2 with
              | none => none
              | some (v6, S6) =>
                (if y2 = 0 then
                  (match G_96 S6 (11 + (y2).toNatClampNeg) with
                  | none => none
                  | some (v8, S8) =>
                    GL_85_0 n S8 y1 (y2 + 1)
                  )
                else
                  GL_85_0 n S6 y1 (y2 + 1)
                )
              )
            )
          )
        else none)
      else none)
    )
theorem B_85_1 {X : Nat × (Nat → Int32)} {d : Nat} (n : Nat) (y1 : Int32) (y2 : Int32) (w3 : Value) (S : St) : ex X d 85 9 [.ref 1, .int y1, .int y2, w3] [] (hh S) (n + 3) = if 4 ≤ y2 then ex X d 85 61 [.ref 1, .int y1, .int y2, w3] [] (hh S) n else ex X d 85 14 [.ref 1, .int y1, .int y2, w3] [] (hh S) n := rfl
theorem B_85_2 {X : Nat × (Nat → Int32)} {d : Nat} (n : Nat) (y1 : Int32) (y2 : Int32) (w3 : Value) (S : St) : ex X d 85 9 [.ref 1, .int y1, .int y2, w3] [] (hh S) (n + 3) = if 4 ≤ y2 then ex X d 85 61 [.ref 1, .int y1, .int y2, w3] [] (hh S) n else ex X d 85 14 [.ref 1, .int y1, .int y2, w3] [] (hh S) n := rfl
theorem B_85_3 {X : Nat × (Nat → Int32)} {d : Nat} (n : Nat) (y1 : Int32) (y2 : Int32) (w3 : Value) (S : St) : ex X d 85 14 [.ref 1, .int y1, .int y2, w3] [] (hh S) (n + 4) = if (2 ≤ (kd 7).1 ∧ (kd 7).1 < xo_n) ∧ xa_in y2 (kd 7).2 then ex X d 85 20 [.ref 1, .int y1, .int y2, w3] [va_rf (RC S.2.1 S.2.2 7 (y2).toNatClampNeg)] (hh S) n else none := rfl
theorem B_85_4 {X : Nat × (Nat → Int32)} {d : Nat} (n : Nat) (y1 : Int32) (y2 : Int32) (w3 : Value) (S : St) : ex X d 85 20 [.ref 1, .int y1, .int y2, w3] [.ref (11 + (y2).toNatClampNeg)] (hh S) (n + 3) = if (kd (11 + (y2).toNatClampNeg)).1 = 10 + 0 then ex X d 85 25 [.ref 1, .int y1, .int y2, .ref (11 + (y2).toNatClampNeg)] [.int (S.1 (11 + (y2).toNatClampNeg) 7)] (hh S) n else none := rfl
theorem B_85_5 {X : Nat × (Nat → Int32)} {d : Nat} (n : Nat) (y1 : Int32) (y2 : Int32) (S : St) : ex X d 85 25 [.ref 1, .int y1, .int y2, .ref (11 + (y2).toNatClampNeg)] [.int (S.1 (11 + (y2).toNatClampNeg) 7)] (hh S) (n + 1) = if (S.1 (11 + (y2).toNatClampNeg) 7) = 0 then ex X d 85 55 [.ref 1, .int y1, .int y2, .ref (11 + (y2).toNatClampNeg)] [] (hh S) n else ex X d 85 28 [.ref 1, .int y1, .int y2, .ref (11 + (y2).toNatClampNeg)] [] (hh S) n := rfl
theorem B_85_6 {X : Nat × (Nat → Int32)} {d : Nat} (n : Nat) (y1 : Int32) (y2 : Int32) (S : St) : ex X d 85 55 [.ref 1, .int y1, .int y2, .ref (11 + (y2).toNatClampNeg)] [] (hh S) (n + 2) = ex X d 85 9 [.ref 1, .int y1, .int (y2 + 1), .ref (11 + (y2).toNatClampNeg)] [] (hh S) n := rfl
theorem B_85_7 {X : Nat × (Nat → Int32)} {d : Nat} (n : Nat) (y1 : Int32) (y2 : Int32) (S : St) : ex X d 85 25 [.ref 1, .int y1, .int y2, .ref (11 + (y2).toNatClampNeg)] [.int (S.1 (11 + (y2).toNatClampNeg) 7)] (hh S) (n + 1) = if (S.1 (11 + (y2).toNatClampNeg) 7) = 0 then ex X d 85 55 [.ref 1, .int y1, .int y2, .ref (11 + (y2).toNatClampNeg)] [] (hh S) n else ex X d 85 28 [.ref 1, .int y1, .int y2, .ref (11 + (y2).toNatClampNeg)] [] (hh S) n := rfl
theorem B_85_8 {X : Nat × (Nat → Int32)} {d : Nat} (n : Nat) (y1 : Int32) (y2 : Int32) (S : St) : ex X d 85 28 [.ref 1, .int y1, .int y2, .ref (11 + (y2).toNatClampNeg)] [] (hh S) (n + 8) = if (8 : Int32) = 0 then none else ex X d 85 37 [.ref 1, .int y1, .int y2, .ref (11 + (y2).toNatClampNeg)] [.int ((y1 + y2) - (y1 + y2) / 8 * 8), .int 1, .ref (11 + (y2).toNatClampNeg), .ref 1] (hh S) n := rfl
theorem B_85_9 {X : Nat × (Nat → Int32)} {d : Nat} (n : Nat) (y1 : Int32) (y2 : Int32) (S : St) : ex X (d + 1) 85 37 [.ref 1, .int y1, .int y2, .ref (11 + (y2).toNatClampNeg)] [.int ((y1 + y2) - (y1 + y2) / 8 * 8), .int 1, .ref (11 + (y2).toNatClampNeg), .ref 1] (hh S) (n + 2) = (match ex X d 86 0 [.ref 1, .ref (11 + (y2).toNatClampNeg), .int (1 + ((y1 + y2) - (y1 + y2) / 8 * 8)), .retAddr 0] [] (hh S) n with | some (v, h') => ex X (d + 1) 85 41 [.ref 1, .int y1, .int y2, .ref (11 + (y2).toNatClampNeg)] (v.toList ++ []) h' n | none => none) := rfl
theorem B_85_10 {X : Nat × (Nat → Int32)} {d : Nat} (n : Nat) (y1 : Int32) (y2 : Int32) (S5 : St) : ex X (d + 1) 85 41 [.ref 1, .int y1, .int y2, .ref (11 + (y2).toNatClampNeg)] [] (hh S5) (n + 3) = (match ex X d 90 0 [.ref 1, .int y2, .retAddr 0, .retAddr 0, .retAddr 0, .retAddr 0] [] (hh S5) n with | some (v, h') => ex X (d + 1) 85 46 [.ref 1, .int y1, .int y2, .ref (11 + (y2).toNatClampNeg)] (v.toList ++ []) h' n | none => none) := rfl
theorem B_85_11 {X : Nat × (Nat → Int32)} {d : Nat} (n : Nat) (y1 : Int32) (y2 : Int32) (S6 : St) : ex X d 85 46 [.ref 1, .int y1, .int y2, .ref (11 + (y2).toNatClampNeg)] [] (hh S6) (n + 2) = if y2 = 0 then ex X d 85 50 [.ref 1, .int y1, .int y2, .ref (11 + (y2).toNatClampNeg)] [] (hh S6) n else ex X d 85 55 [.ref 1, .int y1, .int y2, .ref (11 + (y2).toNatClampNeg)] [] (hh S6) n := rfl
theorem B_85_12 {X : Nat × (Nat → Int32)} {d : Nat} (n : Nat) (y1 : Int32) (y2 : Int32) (S6 : St) : ex X (d + 1) 85 50 [.ref 1, .int y1, .int y2, .ref (11 + (y2).toNatClampNeg)] [] (hh S6) (n + 3) = (match ex X d 96 0 [.ref 1, .ref (11 + (y2).toNatClampNeg), .retAddr 0, .retAddr 0] [] (hh S6) n with | some (v, h') => ex X (d + 1) 85 55 [.ref 1, .int y1, .int y2, .ref (11 + (y2).toNatClampNeg)] (v.toList ++ []) h' n | none => none) := rfl
theorem B_85_13 {X : Nat × (Nat → Int32)} {d : Nat} (n : Nat) (y1 : Int32) (y2 : Int32) (S8 : St) : ex X d 85 55 [.ref 1, .int y1, .int y2, .ref (11 + (y2).toNatClampNeg)] [] (hh S8) (n + 2) = ex X d 85 9 [.ref 1, .int y1, .int (y2 + 1), .ref (11 + (y2).toNatClampNeg)] [] (hh S8) n := rfl
theorem B_85_14 {X : Nat × (Nat → Int32)} {d : Nat} (n : Nat) (y1 : Int32) (y2 : Int32) (S6 : St) : ex X d 85 46 [.ref 1, .int y1, .int y2, .ref (11 + (y2).toNatClampNeg)] [] (hh S6) (n + 2) = if y2 = 0 then ex X d 85 50 [.ref 1, .int y1, .int y2, .ref (11 + (y2).toNatClampNeg)] [] (hh S6) n else ex X d 85 55 [.ref 1, .int y1, .int y2, .ref (11 + (y2).toNatClampNeg)] [] (hh S6) n := rfl
theorem B_85_15 {X : Nat × (Nat → Int32)} {d : Nat} (n : Nat) (y1 : Int32) (y2 : Int32) (S6 : St) : ex X d 85 55 [.ref 1, .int y1, .int y2, .ref (11 + (y2).toNatClampNeg)] [] (hh S6) (n + 2) = ex X d 85 9 [.ref 1, .int y1, .int (y2 + 1), .ref (11 + (y2).toNatClampNeg)] [] (hh S6) n := rfl
set_option maxRecDepth 200000 in
theorem TL_85_0 {X : Nat × (Nat → Int32)} : ∀ (n : Nat) (S : St) (y1 : Int32) (y2 : Int32) (r : Unit) (S' : St), GL_85_0 n S y1 y2 = some (r, S') → ∀ (w3 : Value), Ev X 5 85 9 [.ref 1, .int y1, .int y2, w3] [] (hh S) (xV r, hh S') := by
  intro n
  induction n with
  | zero => intro S y1 y2 r S' hG; simp [GL_85_0] at hG
  | succ n ih =>
    intro S y1 y2 r S' hG w3
    rw [GL_85_0] at hG
    by_cases c1 : 4 ≤ y2
    · rw [if_pos c1] at hG
      refine Ev.t (c := 4 ≤ y2) (p1 := 61) (L1 := [.ref 1, .int y1, .int y2, w3]) (s1 := []) (h1 := hh S) (p2 := 14) (L2 := [.ref 1, .int y1, .int y2, w3]) (s2 := []) (h2 := hh S) 3 (fun n => B_85_1 n y1 y2 w3 S) c1 ?_
      obtain ⟨e1, e2⟩ := Prod.mk.inj (Option.some.inj hG)
      subst e1
      subst e2
      exact Ev.r 1 (fun n => rfl)
    · rw [if_neg c1] at hG
      refine Ev.f (c := 4 ≤ y2) (p1 := 61) (L1 := [.ref 1, .int y1, .int y2, w3]) (s1 := []) (h1 := hh S) (p2 := 14) (L2 := [.ref 1, .int y1, .int y2, w3]) (s2 := []) (h2 := hh S) 3 (fun n => B_85_2 n y1 y2 w3 S) c1 ?_
      by_cases g2 : xa_in y2 4
      rotate_left
      · rw [if_neg g2] at hG; cases hG
      rw [if_pos g2] at hG
      refine Ev.g (c := (2 ≤ (kd 7).1 ∧ (kd 7).1 < xo_n) ∧ xa_in y2 (kd 7).2) (p1 := 20) (L1 := [.ref 1, .int y1, .int y2, w3]) (s1 := [va_rf (RC S.2.1 S.2.2 7 (y2).toNatClampNeg)]) (h1 := hh S) 4 (fun n => B_85_3 n y1 y2 w3 S) ⟨⟨by decide, by decide⟩, g2⟩ ?_
      rw [RC_7 (xa_lt (n := 4) g2)]
      show Ev X _ 85 20 [.ref 1, .int y1, .int y2, w3] [.ref (11 + (y2).toNatClampNeg)] (hh S) _
      by_cases g3 : (kd (11 + (y2).toNatClampNeg)).1 = 10 + 0
      rotate_left
      · rw [if_neg g3] at hG; cases hG
      rw [if_pos g3] at hG
      refine Ev.g (c := (kd (11 + (y2).toNatClampNeg)).1 = 10 + 0) (p1 := 25) (L1 := [.ref 1, .int y1, .int y2, .ref (11 + (y2).toNatClampNeg)]) (s1 := [.int (S.1 (11 + (y2).toNatClampNeg) 7)]) (h1 := hh S) 3 (fun n => B_85_4 n y1 y2 w3 S) g3 ?_
      by_cases c4 : (S.1 (11 + (y2).toNatClampNeg) 7) = 0
      · rw [if_pos c4] at hG
        refine Ev.t (c := (S.1 (11 + (y2).toNatClampNeg) 7) = 0) (p1 := 55) (L1 := [.ref 1, .int y1, .int y2, .ref (11 + (y2).toNatClampNeg)]) (s1 := []) (h1 := hh S) (p2 := 28) (L2 := [.ref 1, .int y1, .int y2, .ref (11 + (y2).toNatClampNeg)]) (s2 := []) (h2 := hh S) 1 (fun n => B_85_5 n y1 y2 S) c4 ?_
        exact Ev.b (pc' := 9) (L' := [.ref 1, .int y1, .int (y2 + 1), .ref (11 + (y2).toNatClampNeg)]) (st' := []) (h' := hh S) 2 (fun n => B_85_6 n y1 y2 S) (ih S y1 (y2 + 1) _ _ hG (.ref (11 + (y2).toNatClampNeg)))
      · rw [if_neg c4] at hG
        refine Ev.f (c := (S.1 (11 + (y2).toNatClampNeg) 7) = 0) (p1 := 55) (L1 := [.ref 1, .int y1, .int y2, .ref (11 + (y2).toNatClampNeg)]) (s1 := []) (h1 := hh S) (p2 := 28) (L2 := [.ref 1, .int y1, .int y2, .ref (11 + (y2).toNatClampNeg)]) (s2 := []) (h2 := hh S) 1 (fun n => B_85_7 n y1 y2 S) c4 ?_
        refine Ev.z (c := (8 : Int32) = 0) (p1 := 37) (L1 := [.ref 1, .int y1, .int y2, .ref (11 + (y2).toNatClampNeg)]) (s1 := [.int ((y1 + y2) - (y1 + y2) / 8 * 8), .int 1, .ref (11 + (y2).toNatClampNeg), .ref 1]) (h1 := hh S) 8 (fun n => B_85_8 n y1 y2 S) (by decide) ?_
        rcases h5 : G_86 S (11 + (y2).toNatClampNeg) (1 + ((y1 + y2) - (y1 + y2) / 8 * 8)) with _ | ⟨v5, S5⟩
        · rw [h5] at hG; cases hG
        rw [h5] at hG
        dsimp only at hG
        refine Ev.c (a := 86) (A := [.ref 1, .ref (11 + (y2).toNatClampNeg), .int (1 + ((y1 + y2) - (y1 + y2) / 8 * 8)), .retAddr 0]) (h1 := hh S) (pc' := 41) (L' := [.ref 1, .int y1, .int y2, .ref (11 + (y2).toNatClampNeg)]) (rest := []) (r1 := none) (h2 := hh S5) 2 (fun n => B_85_9 n y1 y2 S) (Ev.up (by decide) (T_86 S (11 + (y2).toNatClampNeg) (1 + ((y1 + y2) - (y1 + y2) / 8 * 8)) _ _ h5)) ?_
        show Ev X _ 85 41 [.ref 1, .int y1, .int y2, .ref (11 + (y2).toNatClampNeg)] [] (hh S5) _
        rcases h6 : G_90 S5 y2 with _ | ⟨v6, S6⟩
        · rw [h6] at hG; cases hG
        rw [h6] at hG
        dsimp only at hG
        refine Ev.c (a := 90) (A := [.ref 1, .int y2, .retAddr 0, .retAddr 0, .retAddr 0, .retAddr 0]) (h1 := hh S5) (pc' := 46) (L' := [.ref 1, .int y1, .int y2, .ref (11 + (y2).toNatClampNeg)]) (rest := []) (r1 := none) (h2 := hh S6) 3 (fun n => B_85_10 n y1 y2 S5) (Ev.up (by decide) (T_90 S5 y2 _ _ h6)) ?_
        show Ev X _ 85 46 [.ref 1, .int y1, .int y2, .ref (11 + (y2).toNatClampNeg)] [] (hh S6) _
        by_cases c7 : y2 = 0
        · rw [if_pos c7] at hG
          refine Ev.t (c := y2 = 0) (p1 := 50) (L1 := [.ref 1, .int y1, .int y2, .ref (11 + (y2).toNatClampNeg)]) (s1 := []) (h1 := hh S6) (p2 := 55) (L2 := [.ref 1, .int y1, .int y2, .ref (11 + (y2).toNatClampNeg)]) (s2 := []) (h2 := hh S6) 2 (fun n => B_85_11 n y1 y2 S6) c7 ?_
          rcases h8 : G_96 S6 (11 + (y2).toNatClampNeg) with _ | ⟨v8, S8⟩
          · rw [h8] at hG; cases hG
          rw [h8] at hG
          dsimp only at hG
          refine Ev.c (a := 96) (A := [.ref 1, .ref (11 + (y2).toNatClampNeg), .retAddr 0, .retAddr 0]) (h1 := hh S6) (pc' := 55) (L' := [.ref 1, .int y1, .int y2, .ref (11 + (y2).toNatClampNeg)]) (rest := []) (r1 := none) (h2 := hh S8) 3 (fun n => B_85_12 n y1 y2 S6) (Ev.up (by decide) (T_96 S6 (11 + (y2).toNatClampNeg) _ _ h8)) ?_
          show Ev X _ 85 55 [.ref 1, .int y1, .int y2, .ref (11 + (y2).toNatClampNeg)] [] (hh S8) _
          exact Ev.b (pc' := 9) (L' := [.ref 1, .int y1, .int (y2 + 1), .ref (11 + (y2).toNatClampNeg)]) (st' := []) (h' := hh S8) 2 (fun n => B_85_13 n y1 y2 S8) (ih S8 y1 (y2 + 1) _ _ hG (.ref (11 + (y2).toNatClampNeg)))
        · rw [if_neg c7] at hG
          refine Ev.f (c := y2 = 0) (p1 := 50) (L1 := [.ref 1, .int y1, .int y2, .ref (11 + (y2).toNatClampNeg)]) (s1 := []) (h1 := hh S6) (p2 := 55) (L2 := [.ref 1, .int y1, .int y2, .ref (11 + (y2).toNatClampNeg)]) (s2 := []) (h2 := hh S6) 2 (fun n => B_85_14 n y1 y2 S6) c7 ?_
          exact Ev.b (pc' := 9) (L' := [.ref 1, .int y1, .int (y2 + 1), .ref (11 + (y2).toNatClampNeg)]) (st' := []) (h' := hh S6) 2 (fun n => B_85_15 n y1 y2 S6) (ih S6 y1 (y2 + 1) _ _ hG (.ref (11 + (y2).toNatClampNeg)))
def G_85 (S : St) (x1 : Int32) : Option (Unit × St) :=
  (match G_51 S (0 : Int32) (0 : Int32) with
  | none => none
  | some (v9, S9) =>
    GL_85_0 xFu S9 x1 (0 : Int32)
  )
theorem B_85_16 {X : Nat × (Nat → Int32)} {d : Nat} (n : Nat) (x1 : Int32) (S : St) : ex X (d + 1) 85 0 [.ref 1, .int x1, .retAddr 0, .retAddr 0] [] (hh S) (n + 4) = (match ex X d 51 0 [.ref 1, .int 0, .int 0] [] (hh S) n with | some (v, h') => ex X (d + 1) 85 6 [.ref 1, .int x1, .retAddr 0, .retAddr 0] (v.toList ++ []) h' n | none => none) := rfl
theorem B_85_17 {X : Nat × (Nat → Int32)} {d : Nat} (n : Nat) (x1 : Int32) (v9 : Int32) (S9 : St) : ex X d 85 6 [.ref 1, .int x1, .retAddr 0, .retAddr 0] [.int v9] (hh S9) (n + 3) = ex X d 85 9 [.ref 1, .int x1, .int 0, .retAddr 0] [] (hh S9) n := rfl
set_option maxRecDepth 200000 in
theorem T_85 {X : Nat × (Nat → Int32)} (S : St) (x1 : Int32) (r : Unit) (S' : St) (hG : G_85 S x1 = some (r, S')) : Ev X 5 85 0 [.ref 1, .int x1, .retAddr 0, .retAddr 0] [] (hh S) (xV r, hh S') := by
  unfold G_85 at hG
  rcases h9 : G_51 S (0 : Int32) (0 : Int32) with _ | ⟨v9, S9⟩
  · rw [h9] at hG; cases hG
  rw [h9] at hG
  dsimp only at hG
  refine Ev.c (a := 51) (A := [.ref 1, .int 0, .int 0]) (h1 := hh S) (pc' := 6) (L' := [.ref 1, .int x1, .retAddr 0, .retAddr 0]) (rest := []) (r1 := some (.int v9)) (h2 := hh S9) 4 (fun n => B_85_16 n x1 S) (Ev.up (by decide) (T_51 S (0 : Int32) (0 : Int32) _ _ h9)) ?_
  show Ev X _ 85 6 [.ref 1, .int x1, .retAddr 0, .retAddr 0] [.int v9] (hh S9) _
  exact Ev.b (pc' := 9) (L' := [.ref 1, .int x1, .int 0, .retAddr 0]) (st' := []) (h' := hh S9) 3 (fun n => B_85_17 n x1 v9 S9) (TL_85_0 xFu S9 x1 (0 : Int32) _ _ hG (.retAddr 0))
/-- 98: SceneCycle.put(III)I -/
def G_98 (S : St) (x1 : Int32) (x2 : Int32) (x3 : Int32) : Option (Int32 × St) :=
  (match G_50 S x1 with
  | none => none
  | some (v1, S1) =>
    (match v1 with
    | none =>
      some ((-1), S1)
    | some a2 =>
      (if (kd a2).1 = 10 + 1 then
        (if (S1.1 a2 2) = 0 then
          (if x3 < 1 then
            some ((-1), S1)
          else
            (if x3 ≤ 4 then
              (if ((S1.1 a2 1) + x3) ≤ 64 then
                (match G_24 S1 a2 x2 x3 with
                | none => none
                | some (v8, S8) =>
                  some ((S8.1 a2 1), S8)
                )
              else
                some ((-1), S1)
              )
            else
              some ((-1), S1)
            )
          )
        else
          some ((-1), S1)
        )
      else none)
    )
  )
theorem B_98_1 {X : Nat × (Nat → Int32)} {d : Nat} (n : Nat) (x1 : Int32) (x2 : Int32) (x3 : Int32) (S : St) : ex X (d + 1) 98 0 [.ref 0, .int x1, .int x2, .int x3, .retAddr 0] [] (hh S) (n + 4) = (match ex X d 50 0 [.ref 1, .int x1] [] (hh S) n with | some (v, h') => ex X (d + 1) 98 8 [.ref 0, .int x1, .int x2, .int x3, .retAddr 0] (v.toList ++ []) h' n | none => none) := rfl
theorem B_98_2 {X : Nat × (Nat → Int32)} {d : Nat} (n : Nat) (x1 : Int32) (x2 : Int32) (x3 : Int32) (a2 : Nat) (S1 : St) : ex X d 98 8 [.ref 0, .int x1, .int x2, .int x3, .retAddr 0] [.ref a2] (hh S1) (n + 5) = if (kd a2).1 = 10 + 1 then ex X d 98 20 [.ref 0, .int x1, .int x2, .int x3, .ref a2] [.int (S1.1 a2 2)] (hh S1) n else none := rfl
theorem B_98_3 {X : Nat × (Nat → Int32)} {d : Nat} (n : Nat) (x1 : Int32) (x2 : Int32) (x3 : Int32) (a2 : Nat) (S1 : St) : ex X d 98 20 [.ref 0, .int x1, .int x2, .int x3, .ref a2] [.int (S1.1 a2 2)] (hh S1) (n + 1) = if (S1.1 a2 2) = 0 then ex X d 98 23 [.ref 0, .int x1, .int x2, .int x3, .ref a2] [] (hh S1) n else ex X d 98 33 [.ref 0, .int x1, .int x2, .int x3, .ref a2] [] (hh S1) n := rfl
theorem B_98_4 {X : Nat × (Nat → Int32)} {d : Nat} (n : Nat) (x1 : Int32) (x2 : Int32) (x3 : Int32) (a2 : Nat) (S1 : St) : ex X d 98 23 [.ref 0, .int x1, .int x2, .int x3, .ref a2] [] (hh S1) (n + 3) = if x3 < 1 then ex X d 98 33 [.ref 0, .int x1, .int x2, .int x3, .ref a2] [] (hh S1) n else ex X d 98 28 [.ref 0, .int x1, .int x2, .int x3, .ref a2] [] (hh S1) n := rfl
theorem B_98_5 {X : Nat × (Nat → Int32)} {d : Nat} (n : Nat) (x1 : Int32) (x2 : Int32) (x3 : Int32) (a2 : Nat) (S1 : St) : ex X d 98 23 [.ref 0, .int x1, .int x2, .int x3, .ref a2] [] (hh S1) (n + 3) = if x3 < 1 then ex X d 98 33 [.ref 0, .int x1, .int x2, .int x3, .ref a2] [] (hh S1) n else ex X d 98 28 [.ref 0, .int x1, .int x2, .int x3, .ref a2] [] (hh S1) n := rfl
theorem B_98_6 {X : Nat × (Nat → Int32)} {d : Nat} (n : Nat) (x1 : Int32) (x2 : Int32) (x3 : Int32) (a2 : Nat) (S1 : St) : ex X d 98 28 [.ref 0, .int x1, .int x2, .int x3, .ref a2] [] (hh S1) (n + 3) = if x3 ≤ 4 then ex X d 98 35 [.ref 0, .int x1, .int x2, .int x3, .ref a2] [] (hh S1) n else ex X d 98 33 [.ref 0, .int x1, .int x2, .int x3, .ref a2] [] (hh S1) n := rfl
theorem B_98_7 {X : Nat × (Nat → Int32)} {d : Nat} (n : Nat) (x1 : Int32) (x2 : Int32) (x3 : Int32) (a2 : Nat) (S1 : St) : ex X d 98 35 [.ref 0, .int x1, .int x2, .int x3, .ref a2] [] (hh S1) (n + 2) = if (kd a2).1 = 10 + 1 then ex X d 98 40 [.ref 0, .int x1, .int x2, .int x3, .ref a2] [.int (S1.1 a2 1)] (hh S1) n else none := rfl
theorem B_98_8 {X : Nat × (Nat → Int32)} {d : Nat} (n : Nat) (x1 : Int32) (x2 : Int32) (x3 : Int32) (a2 : Nat) (S1 : St) : ex X d 98 40 [.ref 0, .int x1, .int x2, .int x3, .ref a2] [.int (S1.1 a2 1)] (hh S1) (n + 4) = if ((S1.1 a2 1) + x3) ≤ 64 then ex X d 98 49 [.ref 0, .int x1, .int x2, .int x3, .ref a2] [] (hh S1) n else ex X d 98 47 [.ref 0, .int x1, .int x2, .int x3, .ref a2] [] (hh S1) n := rfl
theorem B_98_9 {X : Nat × (Nat → Int32)} {d : Nat} (n : Nat) (x1 : Int32) (x2 : Int32) (x3 : Int32) (a2 : Nat) (S1 : St) : ex X (d + 1) 98 49 [.ref 0, .int x1, .int x2, .int x3, .ref a2] [] (hh S1) (n + 4) = if (xm_o 24 = 200 ∧ 2000 ≤ a2 ∧ a2 < 2000 + xS_n) ∨ (xm_o 24 ≠ 200 ∧ (kd a2).1 = 10 + xm_o 24) then (match ex X d 24 0 [.ref a2, .int x2, .int x3, .retAddr 0] [] (hh S1) n with | some (v, h') => ex X (d + 1) 98 56 [.ref 0, .int x1, .int x2, .int x3, .ref a2] (v.toList ++ []) h' n | none => none) else none := rfl
theorem B_98_10 {X : Nat × (Nat → Int32)} {d : Nat} (n : Nat) (x1 : Int32) (x2 : Int32) (x3 : Int32) (a2 : Nat) (S8 : St) : ex X d 98 56 [.ref 0, .int x1, .int x2, .int x3, .ref a2] [] (hh S8) (n + 2) = if (kd a2).1 = 10 + 1 then ex X d 98 61 [.ref 0, .int x1, .int x2, .int x3, .ref a2] [.int (S8.1 a2 1)] (hh S8) n else none := rfl
theorem B_98_11 {X : Nat × (Nat → Int32)} {d : Nat} (n : Nat) (x1 : Int32) (x2 : Int32) (x3 : Int32) (a2 : Nat) (S1 : St) : ex X d 98 40 [.ref 0, .int x1, .int x2, .int x3, .ref a2] [.int (S1.1 a2 1)] (hh S1) (n + 4) = if ((S1.1 a2 1) + x3) ≤ 64 then ex X d 98 49 [.ref 0, .int x1, .int x2, .int x3, .ref a2] [] (hh S1) n else ex X d 98 47 [.ref 0, .int x1, .int x2, .int x3, .ref a2] [] (hh S1) n := rfl
theorem B_98_12 {X : Nat × (Nat → Int32)} {d : Nat} (n : Nat) (x1 : Int32) (x2 : Int32) (x3 : Int32) (a2 : Nat) (S1 : St) : ex X d 98 28 [.ref 0, .int x1, .int x2, .int x3, .ref a2] [] (hh S1) (n + 3) = if x3 ≤ 4 then ex X d 98 35 [.ref 0, .int x1, .int x2, .int x3, .ref a2] [] (hh S1) n else ex X d 98 33 [.ref 0, .int x1, .int x2, .int x3, .ref a2] [] (hh S1) n := rfl
theorem B_98_13 {X : Nat × (Nat → Int32)} {d : Nat} (n : Nat) (x1 : Int32) (x2 : Int32) (x3 : Int32) (a2 : Nat) (S1 : St) : ex X d 98 20 [.ref 0, .int x1, .int x2, .int x3, .ref a2] [.int (S1.1 a2 2)] (hh S1) (n + 1) = if (S1.1 a2 2) = 0 then ex X d 98 23 [.ref 0, .int x1, .int x2, .int x3, .ref a2] [] (hh S1) n else ex X d 98 33 [.ref 0, .int x1, .int x2, .int x3, .ref a2] [] (hh S1) n := rfl
set_option maxRecDepth 200000 in
theorem T_98 {X : Nat × (Nat → Int32)} (S : St) (x1 : Int32) (x2 : Int32) (x3 : Int32) (r : Int32) (S' : St) (hG : G_98 S x1 x2 x3 = some (r, S')) : Ev X 1 98 0 [.ref 0, .int x1, .int x2, .int x3, .retAddr 0] [] (hh S) (xI r, hh S') := by
  unfold G_98 at hG
  rcases h1 : G_50 S x1 with _ | ⟨v1, S1⟩
  · rw [h1] at hG; cases hG
  rw [h1] at hG
  dsimp only at hG
  refine Ev.c (a := 50) (A := [.ref 1, .int x1]) (h1 := hh S) (pc' := 8) (L' := [.ref 0, .int x1, .int x2, .int x3, .retAddr 0]) (rest := []) (r1 := some (va_rf v1)) (h2 := hh S1) 4 (fun n => B_98_1 n x1 x2 x3 S) (Ev.up (by decide) (T_50 S x1 _ _ h1)) ?_
  rcases v1 with _ | a2
  · dsimp only at hG
    show Ev X _ 98 8 [.ref 0, .int x1, .int x2, .int x3, .retAddr 0] [.null] (hh S1) _
    obtain ⟨e1, e2⟩ := Prod.mk.inj (Option.some.inj hG)
    subst e1
    subst e2
    exact Ev.r 5 (fun n => rfl)
  · dsimp only at hG
    show Ev X _ 98 8 [.ref 0, .int x1, .int x2, .int x3, .retAddr 0] [.ref a2] (hh S1) _
    by_cases g3 : (kd a2).1 = 10 + 1
    rotate_left
    · rw [if_neg g3] at hG; cases hG
    rw [if_pos g3] at hG
    refine Ev.g (c := (kd a2).1 = 10 + 1) (p1 := 20) (L1 := [.ref 0, .int x1, .int x2, .int x3, .ref a2]) (s1 := [.int (S1.1 a2 2)]) (h1 := hh S1) 5 (fun n => B_98_2 n x1 x2 x3 a2 S1) g3 ?_
    by_cases c4 : (S1.1 a2 2) = 0
    · rw [if_pos c4] at hG
      refine Ev.t (c := (S1.1 a2 2) = 0) (p1 := 23) (L1 := [.ref 0, .int x1, .int x2, .int x3, .ref a2]) (s1 := []) (h1 := hh S1) (p2 := 33) (L2 := [.ref 0, .int x1, .int x2, .int x3, .ref a2]) (s2 := []) (h2 := hh S1) 1 (fun n => B_98_3 n x1 x2 x3 a2 S1) c4 ?_
      by_cases c5 : x3 < 1
      · rw [if_pos c5] at hG
        refine Ev.t (c := x3 < 1) (p1 := 33) (L1 := [.ref 0, .int x1, .int x2, .int x3, .ref a2]) (s1 := []) (h1 := hh S1) (p2 := 28) (L2 := [.ref 0, .int x1, .int x2, .int x3, .ref a2]) (s2 := []) (h2 := hh S1) 3 (fun n => B_98_4 n x1 x2 x3 a2 S1) c5 ?_
        obtain ⟨e1, e2⟩ := Prod.mk.inj (Option.some.inj hG)
        subst e1
        subst e2
        exact Ev.r 2 (fun n => rfl)
      · rw [if_neg c5] at hG
        refine Ev.f (c := x3 < 1) (p1 := 33) (L1 := [.ref 0, .int x1, .int x2, .int x3, .ref a2]) (s1 := []) (h1 := hh S1) (p2 := 28) (L2 := [.ref 0, .int x1, .int x2, .int x3, .ref a2]) (s2 := []) (h2 := hh S1) 3 (fun n => B_98_5 n x1 x2 x3 a2 S1) c5 ?_
        by_cases c6 : x3 ≤ 4
        · rw [if_pos c6] at hG
          refine Ev.t (c := x3 ≤ 4) (p1 := 35) (L1 := [.ref 0, .int x1, .int x2, .int x3, .ref a2]) (s1 := []) (h1 := hh S1) (p2 := 33) (L2 := [.ref 0, .int x1, .int x2, .int x3, .ref a2]) (s2 := []) (h2 := hh S1) 3 (fun n => B_98_6 n x1 x2 x3 a2 S1) c6 ?_
          refine Ev.g (c := (kd a2).1 = 10 + 1) (p1 := 40) (L1 := [.ref 0, .int x1, .int x2, .int x3, .ref a2]) (s1 := [.int (S1.1 a2 1)]) (h1 := hh S1) 2 (fun n => B_98_7 n x1 x2 x3 a2 S1) g3 ?_
          by_cases c7 : ((S1.1 a2 1) + x3) ≤ 64
          · rw [if_pos c7] at hG
            refine Ev.t (c := ((S1.1 a2 1) + x3) ≤ 64) (p1 := 49) (L1 := [.ref 0, .int x1, .int x2, .int x3, .ref a2]) (s1 := []) (h1 := hh S1) (p2 := 47) (L2 := [.ref 0, .int x1, .int x2, .int x3, .ref a2]) (s2 := []) (h2 := hh S1) 4 (fun n => B_98_8 n x1 x2 x3 a2 S1) c7 ?_
            rcases h8 : G_24 S1 a2 x2 x3 with _ | ⟨v8, S8⟩
            · rw [h8] at hG; cases hG
            rw [h8] at hG
            dsimp only at hG
            refine Ev.cg (c := (xm_o 24 = 200 ∧ 2000 ≤ a2 ∧ a2 < 2000 + xS_n) ∨ (xm_o 24 ≠ 200 ∧ (kd a2).1 = 10 + xm_o 24)) (a := 24) (A := [.ref a2, .int x2, .int x3, .retAddr 0]) (h1 := hh S1) (pc' := 56) (L' := [.ref 0, .int x1, .int x2, .int x3, .ref a2]) (rest := []) (r1 := none) (h2 := hh S8) 4 (fun n => B_98_9 n x1 x2 x3 a2 S1) (Or.inr ⟨by decide, g3⟩) (Ev.up (by decide) (T_24 S1 a2 x2 x3 _ _ h8)) ?_
            show Ev X _ 98 56 [.ref 0, .int x1, .int x2, .int x3, .ref a2] [] (hh S8) _
            refine Ev.g (c := (kd a2).1 = 10 + 1) (p1 := 61) (L1 := [.ref 0, .int x1, .int x2, .int x3, .ref a2]) (s1 := [.int (S8.1 a2 1)]) (h1 := hh S8) 2 (fun n => B_98_10 n x1 x2 x3 a2 S8) g3 ?_
            obtain ⟨e1, e2⟩ := Prod.mk.inj (Option.some.inj hG)
            subst e1
            subst e2
            exact Ev.r 1 (fun n => rfl)
          · rw [if_neg c7] at hG
            refine Ev.f (c := ((S1.1 a2 1) + x3) ≤ 64) (p1 := 49) (L1 := [.ref 0, .int x1, .int x2, .int x3, .ref a2]) (s1 := []) (h1 := hh S1) (p2 := 47) (L2 := [.ref 0, .int x1, .int x2, .int x3, .ref a2]) (s2 := []) (h2 := hh S1) 4 (fun n => B_98_11 n x1 x2 x3 a2 S1) c7 ?_
            obtain ⟨e1, e2⟩ := Prod.mk.inj (Option.some.inj hG)
            subst e1
            subst e2
            exact Ev.r 2 (fun n => rfl)
        · rw [if_neg c6] at hG
          refine Ev.f (c := x3 ≤ 4) (p1 := 35) (L1 := [.ref 0, .int x1, .int x2, .int x3, .ref a2]) (s1 := []) (h1 := hh S1) (p2 := 33) (L2 := [.ref 0, .int x1, .int x2, .int x3, .ref a2]) (s2 := []) (h2 := hh S1) 3 (fun n => B_98_12 n x1 x2 x3 a2 S1) c6 ?_
          obtain ⟨e1, e2⟩ := Prod.mk.inj (Option.some.inj hG)
          subst e1
          subst e2
          exact Ev.r 2 (fun n => rfl)
    · rw [if_neg c4] at hG
      refine Ev.f (c := (S1.1 a2 2) = 0) (p1 := 23) (L1 := [.ref 0, .int x1, .int x2, .int x3, .ref a2]) (s1 := []) (h1 := hh S1) (p2 := 33) (L2 := [.ref 0, .int x1, .int x2, .int x3, .ref a2]) (s2 := []) (h2 := hh S1) 1 (fun n => B_98_13 n x1 x2 x3 a2 S1) c4 ?_
      obtain ⟨e1, e2⟩ := Prod.mk.inj (Option.some.inj hG)
      subst e1
      subst e2
      exact Ev.r 2 (fun n => rfl)
/-- 102: SceneCycle.upTo(II)Z -/
def G_102 (S : St) (x0 : Int32) (x1 : Int32) : Option (Int32 × St) :=
  (if x1 < 0 then
    some (0, S)
  else
    (if x0 < x1 then
      some (0, S)
    else
      some (1, S)
    )
  )
theorem B_102_1 {X : Nat × (Nat → Int32)} {d : Nat} (n : Nat) (x0 : Int32) (x1 : Int32) (S : St) : ex X d 102 0 [.int x0, .int x1] [] (hh S) (n + 2) = if x1 < 0 then ex X d 102 13 [.int x0, .int x1] [] (hh S) n else ex X d 102 4 [.int x0, .int x1] [] (hh S) n := rfl
theorem B_102_2 {X : Nat × (Nat → Int32)} {d : Nat} (n : Nat) (x0 : Int32) (x1 : Int32) (S : St) : ex X d 102 0 [.int x0, .int x1] [] (hh S) (n + 2) = if x1 < 0 then ex X d 102 13 [.int x0, .int x1] [] (hh S) n else ex X d 102 4 [.int x0, .int x1] [] (hh S) n := rfl
theorem B_102_3 {X : Nat × (Nat → Int32)} {d : Nat} (n : Nat) (x0 : Int32) (x1 : Int32) (S : St) : ex X d 102 4 [.int x0, .int x1] [] (hh S) (n + 3) = if x0 < x1 then ex X d 102 13 [.int x0, .int x1] [] (hh S) n else ex X d 102 9 [.int x0, .int x1] [] (hh S) n := rfl
theorem B_102_4 {X : Nat × (Nat → Int32)} {d : Nat} (n : Nat) (x0 : Int32) (x1 : Int32) (S : St) : ex X d 102 4 [.int x0, .int x1] [] (hh S) (n + 3) = if x0 < x1 then ex X d 102 13 [.int x0, .int x1] [] (hh S) n else ex X d 102 9 [.int x0, .int x1] [] (hh S) n := rfl
set_option maxRecDepth 200000 in
theorem T_102 {X : Nat × (Nat → Int32)} (S : St) (x0 : Int32) (x1 : Int32) (r : Int32) (S' : St) (hG : G_102 S x0 x1 = some (r, S')) : Ev X 0 102 0 [.int x0, .int x1] [] (hh S) (xI r, hh S') := by
  unfold G_102 at hG
  by_cases c1 : x1 < 0
  · rw [if_pos c1] at hG
    refine Ev.t (c := x1 < 0) (p1 := 13) (L1 := [.int x0, .int x1]) (s1 := []) (h1 := hh S) (p2 := 4) (L2 := [.int x0, .int x1]) (s2 := []) (h2 := hh S) 2 (fun n => B_102_1 n x0 x1 S) c1 ?_
    obtain ⟨e1, e2⟩ := Prod.mk.inj (Option.some.inj hG)
    subst e1
    subst e2
    exact Ev.rg (c := (xm_z 102 = 0 ∨ (xm_z 102 = 1 ∧ ((0 : Int32) = 0 ∨ (0 : Int32) = 1)) ∨ (xm_z 102 = 2 ∧ ((0 : Int32)).toInt8.toInt32 = (0 : Int32)) ∨ (xm_z 102 = 3 ∧ ((0 : Int32)).toUInt32.toUInt16.toUInt32.toInt32 = (0 : Int32)))) 2 (fun n => rfl) (Or.inr (Or.inl ⟨rfl, by decide⟩))
  · rw [if_neg c1] at hG
    refine Ev.f (c := x1 < 0) (p1 := 13) (L1 := [.int x0, .int x1]) (s1 := []) (h1 := hh S) (p2 := 4) (L2 := [.int x0, .int x1]) (s2 := []) (h2 := hh S) 2 (fun n => B_102_2 n x0 x1 S) c1 ?_
    by_cases c2 : x0 < x1
    · rw [if_pos c2] at hG
      refine Ev.t (c := x0 < x1) (p1 := 13) (L1 := [.int x0, .int x1]) (s1 := []) (h1 := hh S) (p2 := 9) (L2 := [.int x0, .int x1]) (s2 := []) (h2 := hh S) 3 (fun n => B_102_3 n x0 x1 S) c2 ?_
      obtain ⟨e1, e2⟩ := Prod.mk.inj (Option.some.inj hG)
      subst e1
      subst e2
      exact Ev.rg (c := (xm_z 102 = 0 ∨ (xm_z 102 = 1 ∧ ((0 : Int32) = 0 ∨ (0 : Int32) = 1)) ∨ (xm_z 102 = 2 ∧ ((0 : Int32)).toInt8.toInt32 = (0 : Int32)) ∨ (xm_z 102 = 3 ∧ ((0 : Int32)).toUInt32.toUInt16.toUInt32.toInt32 = (0 : Int32)))) 2 (fun n => rfl) (Or.inr (Or.inl ⟨rfl, by decide⟩))
    · rw [if_neg c2] at hG
      refine Ev.f (c := x0 < x1) (p1 := 13) (L1 := [.int x0, .int x1]) (s1 := []) (h1 := hh S) (p2 := 9) (L2 := [.int x0, .int x1]) (s2 := []) (h2 := hh S) 3 (fun n => B_102_4 n x0 x1 S) c2 ?_
      obtain ⟨e1, e2⟩ := Prod.mk.inj (Option.some.inj hG)
      subst e1
      subst e2
      exact Ev.rg (c := (xm_z 102 = 0 ∨ (xm_z 102 = 1 ∧ ((1 : Int32) = 0 ∨ (1 : Int32) = 1)) ∨ (xm_z 102 = 2 ∧ ((1 : Int32)).toInt8.toInt32 = (1 : Int32)) ∨ (xm_z 102 = 3 ∧ ((1 : Int32)).toUInt32.toUInt16.toUInt32.toInt32 = (1 : Int32)))) 3 (fun n => rfl) (Or.inr (Or.inl ⟨rfl, by decide⟩))
/-- 103: SceneCycle.cycles()I -/
def G_103 (S : St)  : Option (Int32 × St) :=
  some ((S.1 0 5), S)
set_option maxRecDepth 200000 in
theorem T_103 {X : Nat × (Nat → Int32)} (S : St)  (r : Int32) (S' : St) (hG : G_103 S  = some (r, S')) : Ev X 0 103 0 [.ref 0] [] (hh S) (xI r, hh S') := by
  unfold G_103 at hG
  obtain ⟨e1, e2⟩ := Prod.mk.inj (Option.some.inj hG)
  subst e1
  subst e2
  exact Ev.r 3 (fun n => rfl)
/-- 104: SceneCycle.steps()I -/
def G_104 (S : St)  : Option (Int32 × St) :=
  some ((S.1 23 6), S)
set_option maxRecDepth 200000 in
theorem T_104 {X : Nat × (Nat → Int32)} (S : St)  (r : Int32) (S' : St) (hG : G_104 S  = some (r, S')) : Ev X 0 104 0 [.ref 0] [] (hh S) (xI r, hh S') := by
  unfold G_104 at hG
  obtain ⟨e1, e2⟩ := Prod.mk.inj (Option.some.inj hG)
  subst e1
  subst e2
  exact Ev.r 4 (fun n => rfl)
/-- 105: SceneCycle.variable(I)I -/
def G_105 (S : St) (x1 : Int32) : Option (Int32 × St) :=
  (match G_52 S x1 with
  | none => none
  | some (v1, S1) =>
    some (v1, S1)
  )
theorem B_105_1 {X : Nat × (Nat → Int32)} {d : Nat} (n : Nat) (x1 : Int32) (S : St) : ex X (d + 1) 105 0 [.ref 0, .int x1] [] (hh S) (n + 4) = (match ex X d 52 0 [.ref 1, .int x1] [] (hh S) n with | some (v, h') => ex X (d + 1) 105 8 [.ref 0, .int x1] (v.toList ++ []) h' n | none => none) := rfl
set_option maxRecDepth 200000 in
theorem T_105 {X : Nat × (Nat → Int32)} (S : St) (x1 : Int32) (r : Int32) (S' : St) (hG : G_105 S x1 = some (r, S')) : Ev X 1 105 0 [.ref 0, .int x1] [] (hh S) (xI r, hh S') := by
  unfold G_105 at hG
  rcases h1 : G_52 S x1 with _ | ⟨v1, S1⟩
  · rw [h1] at hG; cases hG
  rw [h1] at hG
  dsimp only at hG
  refine Ev.c (a := 52) (A := [.ref 1, .int x1]) (h1 := hh S) (pc' := 8) (L' := [.ref 0, .int x1]) (rest := []) (r1 := some (.int v1)) (h2 := hh S1) 4 (fun n => B_105_1 n x1 S) (Ev.up (by decide) (T_52 S x1 _ _ h1)) ?_
  show Ev X _ 105 8 [.ref 0, .int x1] [.int v1] (hh S1) _
  obtain ⟨e1, e2⟩ := Prod.mk.inj (Option.some.inj hG)
  subst e1
  subst e2
  exact Ev.r 1 (fun n => rfl)
/-- 106: SceneCycle.give(II)Z -/
def G_106 (S : St) (x1 : Int32) (x2 : Int32) : Option (Int32 × St) :=
  (match G_102 S (255 : Int32) x2 with
  | none => none
  | some (v1, S1) =>
    (if v1 = 0 then
      some (0, S1)
    else
      (match G_51 S1 x1 x2 with
      | none => none
      | some (v3, S3) =>
        (if v3 = 0 then
          some (0, S3)
        else
          some (1, S3)
        )
      )
    )
  )
theorem B_106_1 {X : Nat × (Nat → Int32)} {d : Nat} (n : Nat) (x1 : Int32) (x2 : Int32) (S : St) : ex X (d + 1) 106 0 [.ref 0, .int x1, .int x2] [] (hh S) (n + 3) = (match ex X d 102 0 [.int 255, .int x2] [] (hh S) n with | some (v, h') => ex X (d + 1) 106 7 [.ref 0, .int x1, .int x2] (v.toList ++ []) h' n | none => none) := rfl
theorem B_106_2 {X : Nat × (Nat → Int32)} {d : Nat} (n : Nat) (x1 : Int32) (x2 : Int32) (v1 : Int32) (S1 : St) : ex X d 106 7 [.ref 0, .int x1, .int x2] [.int v1] (hh S1) (n + 1) = if v1 = 0 then ex X d 106 26 [.ref 0, .int x1, .int x2] [] (hh S1) n else ex X d 106 10 [.ref 0, .int x1, .int x2] [] (hh S1) n := rfl
theorem B_106_3 {X : Nat × (Nat → Int32)} {d : Nat} (n : Nat) (x1 : Int32) (x2 : Int32) (v1 : Int32) (S1 : St) : ex X d 106 7 [.ref 0, .int x1, .int x2] [.int v1] (hh S1) (n + 1) = if v1 = 0 then ex X d 106 26 [.ref 0, .int x1, .int x2] [] (hh S1) n else ex X d 106 10 [.ref 0, .int x1, .int x2] [] (hh S1) n := rfl
theorem B_106_4 {X : Nat × (Nat → Int32)} {d : Nat} (n : Nat) (x1 : Int32) (x2 : Int32) (S1 : St) : ex X (d + 1) 106 10 [.ref 0, .int x1, .int x2] [] (hh S1) (n + 5) = (match ex X d 51 0 [.ref 1, .int x1, .int x2] [] (hh S1) n with | some (v, h') => ex X (d + 1) 106 19 [.ref 0, .int x1, .int x2] (v.toList ++ []) h' n | none => none) := rfl
theorem B_106_5 {X : Nat × (Nat → Int32)} {d : Nat} (n : Nat) (x1 : Int32) (x2 : Int32) (v3 : Int32) (S3 : St) : ex X d 106 19 [.ref 0, .int x1, .int x2] [.int v3] (hh S3) (n + 1) = if v3 = 0 then ex X d 106 26 [.ref 0, .int x1, .int x2] [] (hh S3) n else ex X d 106 22 [.ref 0, .int x1, .int x2] [] (hh S3) n := rfl
theorem B_106_6 {X : Nat × (Nat → Int32)} {d : Nat} (n : Nat) (x1 : Int32) (x2 : Int32) (v3 : Int32) (S3 : St) : ex X d 106 19 [.ref 0, .int x1, .int x2] [.int v3] (hh S3) (n + 1) = if v3 = 0 then ex X d 106 26 [.ref 0, .int x1, .int x2] [] (hh S3) n else ex X d 106 22 [.ref 0, .int x1, .int x2] [] (hh S3) n := rfl
set_option maxRecDepth 200000 in
theorem T_106 {X : Nat × (Nat → Int32)} (S : St) (x1 : Int32) (x2 : Int32) (r : Int32) (S' : St) (hG : G_106 S x1 x2 = some (r, S')) : Ev X 1 106 0 [.ref 0, .int x1, .int x2] [] (hh S) (xI r, hh S') := by
  unfold G_106 at hG
  rcases h1 : G_102 S (255 : Int32) x2 with _ | ⟨v1, S1⟩
  · rw [h1] at hG; cases hG
  rw [h1] at hG
  dsimp only at hG
  refine Ev.c (a := 102) (A := [.int 255, .int x2]) (h1 := hh S) (pc' := 7) (L' := [.ref 0, .int x1, .int x2]) (rest := []) (r1 := some (.int v1)) (h2 := hh S1) 3 (fun n => B_106_1 n x1 x2 S) (Ev.up (by decide) (T_102 S (255 : Int32) x2 _ _ h1)) ?_
  show Ev X _ 106 7 [.ref 0, .int x1, .int x2] [.int v1] (hh S1) _
  by_cases c2 : v1 = 0
  · rw [if_pos c2] at hG
    refine Ev.t (c := v1 = 0) (p1 := 26) (L1 := [.ref 0, .int x1, .int x2]) (s1 := []) (h1 := hh S1) (p2 := 10) (L2 := [.ref 0, .int x1, .int x2]) (s2 := []) (h2 := hh S1) 1 (fun n => B_106_2 n x1 x2 v1 S1) c2 ?_
    obtain ⟨e1, e2⟩ := Prod.mk.inj (Option.some.inj hG)
    subst e1
    subst e2
    exact Ev.rg (c := (xm_z 106 = 0 ∨ (xm_z 106 = 1 ∧ ((0 : Int32) = 0 ∨ (0 : Int32) = 1)) ∨ (xm_z 106 = 2 ∧ ((0 : Int32)).toInt8.toInt32 = (0 : Int32)) ∨ (xm_z 106 = 3 ∧ ((0 : Int32)).toUInt32.toUInt16.toUInt32.toInt32 = (0 : Int32)))) 2 (fun n => rfl) (Or.inr (Or.inl ⟨rfl, by decide⟩))
  · rw [if_neg c2] at hG
    refine Ev.f (c := v1 = 0) (p1 := 26) (L1 := [.ref 0, .int x1, .int x2]) (s1 := []) (h1 := hh S1) (p2 := 10) (L2 := [.ref 0, .int x1, .int x2]) (s2 := []) (h2 := hh S1) 1 (fun n => B_106_3 n x1 x2 v1 S1) c2 ?_
    rcases h3 : G_51 S1 x1 x2 with _ | ⟨v3, S3⟩
    · rw [h3] at hG; cases hG
    rw [h3] at hG
    dsimp only at hG
    refine Ev.c (a := 51) (A := [.ref 1, .int x1, .int x2]) (h1 := hh S1) (pc' := 19) (L' := [.ref 0, .int x1, .int x2]) (rest := []) (r1 := some (.int v3)) (h2 := hh S3) 5 (fun n => B_106_4 n x1 x2 S1) (Ev.up (by decide) (T_51 S1 x1 x2 _ _ h3)) ?_
    show Ev X _ 106 19 [.ref 0, .int x1, .int x2] [.int v3] (hh S3) _
    by_cases c4 : v3 = 0
    · rw [if_pos c4] at hG
      refine Ev.t (c := v3 = 0) (p1 := 26) (L1 := [.ref 0, .int x1, .int x2]) (s1 := []) (h1 := hh S3) (p2 := 22) (L2 := [.ref 0, .int x1, .int x2]) (s2 := []) (h2 := hh S3) 1 (fun n => B_106_5 n x1 x2 v3 S3) c4 ?_
      obtain ⟨e1, e2⟩ := Prod.mk.inj (Option.some.inj hG)
      subst e1
      subst e2
      exact Ev.rg (c := (xm_z 106 = 0 ∨ (xm_z 106 = 1 ∧ ((0 : Int32) = 0 ∨ (0 : Int32) = 1)) ∨ (xm_z 106 = 2 ∧ ((0 : Int32)).toInt8.toInt32 = (0 : Int32)) ∨ (xm_z 106 = 3 ∧ ((0 : Int32)).toUInt32.toUInt16.toUInt32.toInt32 = (0 : Int32)))) 2 (fun n => rfl) (Or.inr (Or.inl ⟨rfl, by decide⟩))
    · rw [if_neg c4] at hG
      refine Ev.f (c := v3 = 0) (p1 := 26) (L1 := [.ref 0, .int x1, .int x2]) (s1 := []) (h1 := hh S3) (p2 := 22) (L2 := [.ref 0, .int x1, .int x2]) (s2 := []) (h2 := hh S3) 1 (fun n => B_106_6 n x1 x2 v3 S3) c4 ?_
      obtain ⟨e1, e2⟩ := Prod.mk.inj (Option.some.inj hG)
      subst e1
      subst e2
      exact Ev.rg (c := (xm_z 106 = 0 ∨ (xm_z 106 = 1 ∧ ((1 : Int32) = 0 ∨ (1 : Int32) = 1)) ∨ (xm_z 106 = 2 ∧ ((1 : Int32)).toInt8.toInt32 = (1 : Int32)) ∨ (xm_z 106 = 3 ∧ ((1 : Int32)).toUInt32.toUInt16.toUInt32.toInt32 = (1 : Int32)))) 3 (fun n => rfl) (Or.inr (Or.inl ⟨rfl, by decide⟩))
/-- 107: SceneCycle.flag(I)Z -/
def G_107 (S : St) (x1 : Int32) : Option (Int32 × St) :=
  (match G_54 S x1 with
  | none => none
  | some (v1, S1) =>
    (if (v1 = 0 ∨ v1 = 1) then some (v1, S1) else none)
  )
theorem B_107_1 {X : Nat × (Nat → Int32)} {d : Nat} (n : Nat) (x1 : Int32) (S : St) : ex X (d + 1) 107 0 [.ref 0, .int x1] [] (hh S) (n + 4) = (match ex X d 54 0 [.ref 1, .int x1] [] (hh S) n with | some (v, h') => ex X (d + 1) 107 8 [.ref 0, .int x1] (v.toList ++ []) h' n | none => none) := rfl
set_option maxRecDepth 200000 in
theorem T_107 {X : Nat × (Nat → Int32)} (S : St) (x1 : Int32) (r : Int32) (S' : St) (hG : G_107 S x1 = some (r, S')) : Ev X 1 107 0 [.ref 0, .int x1] [] (hh S) (xI r, hh S') := by
  unfold G_107 at hG
  rcases h1 : G_54 S x1 with _ | ⟨v1, S1⟩
  · rw [h1] at hG; cases hG
  rw [h1] at hG
  dsimp only at hG
  refine Ev.c (a := 54) (A := [.ref 1, .int x1]) (h1 := hh S) (pc' := 8) (L' := [.ref 0, .int x1]) (rest := []) (r1 := some (.int v1)) (h2 := hh S1) 4 (fun n => B_107_1 n x1 S) (Ev.up (by decide) (T_54 S x1 _ _ h1)) ?_
  show Ev X _ 107 8 [.ref 0, .int x1] [.int v1] (hh S1) _
  by_cases g2 : (v1 = 0 ∨ v1 = 1)
  rotate_left
  · rw [if_neg g2] at hG; cases hG
  rw [if_pos g2] at hG
  obtain ⟨e1, e2⟩ := Prod.mk.inj (Option.some.inj hG)
  subst e1
  subst e2
  exact Ev.rg (c := (xm_z 107 = 0 ∨ (xm_z 107 = 1 ∧ (v1 = 0 ∨ v1 = 1)) ∨ (xm_z 107 = 2 ∧ (v1).toInt8.toInt32 = v1) ∨ (xm_z 107 = 3 ∧ (v1).toUInt32.toUInt16.toUInt32.toInt32 = v1))) 1 (fun n => rfl) (Or.inr (Or.inl ⟨rfl, g2⟩))
/-- 108: SceneCycle.mark(IZ)Z -/
def G_108 (S : St) (x1 : Int32) (x2 : Int32) : Option (Int32 × St) :=
  (match G_53 S x1 x2 with
  | none => none
  | some (v1, S1) =>
    (if (v1 = 0 ∨ v1 = 1) then some (v1, S1) else none)
  )
theorem B_108_1 {X : Nat × (Nat → Int32)} {d : Nat} (n : Nat) (x1 : Int32) (x2 : Int32) (S : St) : ex X (d + 1) 108 0 [.ref 0, .int x1, .int x2] [] (hh S) (n + 5) = (match ex X d 53 0 [.ref 1, .int x1, .int x2] [] (hh S) n with | some (v, h') => ex X (d + 1) 108 9 [.ref 0, .int x1, .int x2] (v.toList ++ []) h' n | none => none) := rfl
set_option maxRecDepth 200000 in
theorem T_108 {X : Nat × (Nat → Int32)} (S : St) (x1 : Int32) (x2 : Int32) (r : Int32) (S' : St) (hG : G_108 S x1 x2 = some (r, S')) : Ev X 1 108 0 [.ref 0, .int x1, .int x2] [] (hh S) (xI r, hh S') := by
  unfold G_108 at hG
  rcases h1 : G_53 S x1 x2 with _ | ⟨v1, S1⟩
  · rw [h1] at hG; cases hG
  rw [h1] at hG
  dsimp only at hG
  refine Ev.c (a := 53) (A := [.ref 1, .int x1, .int x2]) (h1 := hh S) (pc' := 9) (L' := [.ref 0, .int x1, .int x2]) (rest := []) (r1 := some (.int v1)) (h2 := hh S1) 5 (fun n => B_108_1 n x1 x2 S) (Ev.up (by decide) (T_53 S x1 x2 _ _ h1)) ?_
  show Ev X _ 108 9 [.ref 0, .int x1, .int x2] [.int v1] (hh S1) _
  by_cases g2 : (v1 = 0 ∨ v1 = 1)
  rotate_left
  · rw [if_neg g2] at hG; cases hG
  rw [if_pos g2] at hG
  obtain ⟨e1, e2⟩ := Prod.mk.inj (Option.some.inj hG)
  subst e1
  subst e2
  exact Ev.rg (c := (xm_z 108 = 0 ∨ (xm_z 108 = 1 ∧ (v1 = 0 ∨ v1 = 1)) ∨ (xm_z 108 = 2 ∧ (v1).toInt8.toInt32 = v1) ∨ (xm_z 108 = 3 ∧ (v1).toUInt32.toUInt16.toUInt32.toInt32 = v1))) 1 (fun n => rfl) (Or.inr (Or.inl ⟨rfl, g2⟩))
/-- 109: SceneCycle.object(II)I -/
def G_109 (S : St) (x1 : Int32) (x2 : Int32) : Option (Int32 × St) :=
  (match G_55 S x1 with
  | none => none
  | some (v1, S1) =>
    (match v1 with
    | none =>
      some ((-1), S1)
    | some a2 =>
      (if x2 = 0 then
        (if (kd a2).1 = 10 + 0 then
          some ((S1.1 a2 0), S1)
        else none)
      else
        (if x2 = 1 then
          (if (kd a2).1 = 10 + 0 then
            some ((S1.1 a2 1), S1)
          else none)
        else
          (if x2 = 2 then
            (if (kd a2).1 = 10 + 0 then
              some ((S1.1 a2 4), S1)
            else none)
          else
            (if x2 = 3 then
              (if (kd a2).1 = 10 + 0 then
                some ((S1.1 a2 5), S1)
              else none)
            else
              (if x2 = 4 then
                (if (kd a2).1 = 10 + 0 then
                  (match G_19 S1 a2 with
                  | none => none
                  | some (v12, S12) =>
                    some (v12, S12)
                  )
                else none)
              else
                (if x2 = 5 then
                  (if (kd a2).1 = 10 + 0 then
                    (if (S1.1 a2 7) = 0 then
                      some (0, S1)
                    else
                      some (1, S1)
                    )
                  else none)
                else
                  (if x2 = 6 then
                    (if (kd a2).1 = 10 + 0 then
                      some ((S1.1 a2 2), S1)
                    else none)
                  else
                    (if x2 = 7 then
                      (if (kd a2).1 = 10 + 0 then
                        some ((S1.1 a2 3), S1)
                      else none)
                    else
                      some ((-1), S1)
                    )
                  )
                )
              )
            )
          )
        )
      )
    )
  )
theorem B_109_1 {X : Nat × (Nat → Int32)} {d : Nat} (n : Nat) (x1 : Int32) (x2 : Int32) (S : St) : ex X (d + 1) 109 0 [.ref 0, .int x1, .int x2, .retAddr 0] [] (hh S) (n + 4) = (match ex X d 55 0 [.ref 1, .int x1] [] (hh S) n with | some (v, h') => ex X (d + 1) 109 8 [.ref 0, .int x1, .int x2, .retAddr 0] (v.toList ++ []) h' n | none => none) := rfl
theorem B_109_2 {X : Nat × (Nat → Int32)} {d : Nat} (n : Nat) (x1 : Int32) (x2 : Int32) (a2 : Nat) (S1 : St) : ex X d 109 8 [.ref 0, .int x1, .int x2, .retAddr 0] [.ref a2] (hh S1) (n + 5) = xa_sw [(0, 64), (1, 69), (2, 74), (3, 79), (4, 84), (5, 89), (6, 102), (7, 107)] x2 112 (fun t => ex X d 109 t [.ref 0, .int x1, .int x2, .ref a2] [] (hh S1) n) := rfl
theorem B_109_3 {X : Nat × (Nat → Int32)} {d : Nat} (n : Nat) (x1 : Int32) (x2 : Int32) (a2 : Nat) (S1 : St) : ex X d 109 64 [.ref 0, .int x1, .int x2, .ref a2] [] (hh S1) (n + 2) = if (kd a2).1 = 10 + 0 then ex X d 109 68 [.ref 0, .int x1, .int x2, .ref a2] [.int (S1.1 a2 0)] (hh S1) n else none := rfl
theorem B_109_4 {X : Nat × (Nat → Int32)} {d : Nat} (n : Nat) (x1 : Int32) (x2 : Int32) (a2 : Nat) (S1 : St) : ex X d 109 69 [.ref 0, .int x1, .int x2, .ref a2] [] (hh S1) (n + 2) = if (kd a2).1 = 10 + 0 then ex X d 109 73 [.ref 0, .int x1, .int x2, .ref a2] [.int (S1.1 a2 1)] (hh S1) n else none := rfl
theorem B_109_5 {X : Nat × (Nat → Int32)} {d : Nat} (n : Nat) (x1 : Int32) (x2 : Int32) (a2 : Nat) (S1 : St) : ex X d 109 74 [.ref 0, .int x1, .int x2, .ref a2] [] (hh S1) (n + 2) = if (kd a2).1 = 10 + 0 then ex X d 109 78 [.ref 0, .int x1, .int x2, .ref a2] [.int (S1.1 a2 4)] (hh S1) n else none := rfl
theorem B_109_6 {X : Nat × (Nat → Int32)} {d : Nat} (n : Nat) (x1 : Int32) (x2 : Int32) (a2 : Nat) (S1 : St) : ex X d 109 79 [.ref 0, .int x1, .int x2, .ref a2] [] (hh S1) (n + 2) = if (kd a2).1 = 10 + 0 then ex X d 109 83 [.ref 0, .int x1, .int x2, .ref a2] [.int (S1.1 a2 5)] (hh S1) n else none := rfl
theorem B_109_7 {X : Nat × (Nat → Int32)} {d : Nat} (n : Nat) (x1 : Int32) (x2 : Int32) (a2 : Nat) (S1 : St) : ex X (d + 1) 109 84 [.ref 0, .int x1, .int x2, .ref a2] [] (hh S1) (n + 2) = if (xm_o 19 = 200 ∧ 2000 ≤ a2 ∧ a2 < 2000 + xS_n) ∨ (xm_o 19 ≠ 200 ∧ (kd a2).1 = 10 + xm_o 19) then (match ex X d 19 0 [.ref a2] [] (hh S1) n with | some (v, h') => ex X (d + 1) 109 88 [.ref 0, .int x1, .int x2, .ref a2] (v.toList ++ []) h' n | none => none) else none := rfl
theorem B_109_8 {X : Nat × (Nat → Int32)} {d : Nat} (n : Nat) (x1 : Int32) (x2 : Int32) (a2 : Nat) (S1 : St) : ex X d 109 89 [.ref 0, .int x1, .int x2, .ref a2] [] (hh S1) (n + 2) = if (kd a2).1 = 10 + 0 then ex X d 109 93 [.ref 0, .int x1, .int x2, .ref a2] [.int (S1.1 a2 7)] (hh S1) n else none := rfl
theorem B_109_9 {X : Nat × (Nat → Int32)} {d : Nat} (n : Nat) (x1 : Int32) (x2 : Int32) (a2 : Nat) (S1 : St) : ex X d 109 93 [.ref 0, .int x1, .int x2, .ref a2] [.int (S1.1 a2 7)] (hh S1) (n + 1) = if (S1.1 a2 7) = 0 then ex X d 109 100 [.ref 0, .int x1, .int x2, .ref a2] [] (hh S1) n else ex X d 109 96 [.ref 0, .int x1, .int x2, .ref a2] [] (hh S1) n := rfl
theorem B_109_10 {X : Nat × (Nat → Int32)} {d : Nat} (n : Nat) (x1 : Int32) (x2 : Int32) (a2 : Nat) (S1 : St) : ex X d 109 93 [.ref 0, .int x1, .int x2, .ref a2] [.int (S1.1 a2 7)] (hh S1) (n + 1) = if (S1.1 a2 7) = 0 then ex X d 109 100 [.ref 0, .int x1, .int x2, .ref a2] [] (hh S1) n else ex X d 109 96 [.ref 0, .int x1, .int x2, .ref a2] [] (hh S1) n := rfl
theorem B_109_11 {X : Nat × (Nat → Int32)} {d : Nat} (n : Nat) (x1 : Int32) (x2 : Int32) (a2 : Nat) (S1 : St) : ex X d 109 102 [.ref 0, .int x1, .int x2, .ref a2] [] (hh S1) (n + 2) = if (kd a2).1 = 10 + 0 then ex X d 109 106 [.ref 0, .int x1, .int x2, .ref a2] [.int (S1.1 a2 2)] (hh S1) n else none := rfl
theorem B_109_12 {X : Nat × (Nat → Int32)} {d : Nat} (n : Nat) (x1 : Int32) (x2 : Int32) (a2 : Nat) (S1 : St) : ex X d 109 107 [.ref 0, .int x1, .int x2, .ref a2] [] (hh S1) (n + 2) = if (kd a2).1 = 10 + 0 then ex X d 109 111 [.ref 0, .int x1, .int x2, .ref a2] [.int (S1.1 a2 3)] (hh S1) n else none := rfl
set_option maxRecDepth 200000 in
theorem T_109 {X : Nat × (Nat → Int32)} (S : St) (x1 : Int32) (x2 : Int32) (r : Int32) (S' : St) (hG : G_109 S x1 x2 = some (r, S')) : Ev X 1 109 0 [.ref 0, .int x1, .int x2, .retAddr 0] [] (hh S) (xI r, hh S') := by
  unfold G_109 at hG
  rcases h1 : G_55 S x1 with _ | ⟨v1, S1⟩
  · rw [h1] at hG; cases hG
  rw [h1] at hG
  dsimp only at hG
  refine Ev.c (a := 55) (A := [.ref 1, .int x1]) (h1 := hh S) (pc' := 8) (L' := [.ref 0, .int x1, .int x2, .retAddr 0]) (rest := []) (r1 := some (va_rf v1)) (h2 := hh S1) 4 (fun n => B_109_1 n x1 x2 S) (Ev.up (by decide) (T_55 S x1 _ _ h1)) ?_
  rcases v1 with _ | a2
  · dsimp only at hG
    show Ev X _ 109 8 [.ref 0, .int x1, .int x2, .retAddr 0] [.null] (hh S1) _
    obtain ⟨e1, e2⟩ := Prod.mk.inj (Option.some.inj hG)
    subst e1
    subst e2
    exact Ev.r 5 (fun n => rfl)
  · dsimp only at hG
    show Ev X _ 109 8 [.ref 0, .int x1, .int x2, .retAddr 0] [.ref a2] (hh S1) _
    refine Ev.sw (ks := [(0, 64), (1, 69), (2, 74), (3, 79), (4, 84), (5, 89), (6, 102), (7, 107)]) (x := x2) (df := 112) (L1 := [.ref 0, .int x1, .int x2, .ref a2]) (s1 := []) (h1 := hh S1) 5 (fun n => B_109_2 n x1 x2 a2 S1) ?_
    by_cases c3 : x2 = 0
    · rw [if_pos c3] at hG
      rw [xa_sw, if_pos c3]
      show Ev X _ 109 64 [.ref 0, .int x1, .int x2, .ref a2] [] (hh S1) _
      by_cases g4 : (kd a2).1 = 10 + 0
      rotate_left
      · rw [if_neg g4] at hG; cases hG
      rw [if_pos g4] at hG
      refine Ev.g (c := (kd a2).1 = 10 + 0) (p1 := 68) (L1 := [.ref 0, .int x1, .int x2, .ref a2]) (s1 := [.int (S1.1 a2 0)]) (h1 := hh S1) 2 (fun n => B_109_3 n x1 x2 a2 S1) g4 ?_
      obtain ⟨e1, e2⟩ := Prod.mk.inj (Option.some.inj hG)
      subst e1
      subst e2
      exact Ev.r 1 (fun n => rfl)
    rw [if_neg c3] at hG
    rw [xa_sw, if_neg c3]
    by_cases c5 : x2 = 1
    · rw [if_pos c5] at hG
      rw [xa_sw, if_pos c5]
      show Ev X _ 109 69 [.ref 0, .int x1, .int x2, .ref a2] [] (hh S1) _
      by_cases g6 : (kd a2).1 = 10 + 0
      rotate_left
      · rw [if_neg g6] at hG; cases hG
      rw [if_pos g6] at hG
      refine Ev.g (c := (kd a2).1 = 10 + 0) (p1 := 73) (L1 := [.ref 0, .int x1, .int x2, .ref a2]) (s1 := [.int (S1.1 a2 1)]) (h1 := hh S1) 2 (fun n => B_109_4 n x1 x2 a2 S1) g6 ?_
      obtain ⟨e1, e2⟩ := Prod.mk.inj (Option.some.inj hG)
      subst e1
      subst e2
      exact Ev.r 1 (fun n => rfl)
    rw [if_neg c5] at hG
    rw [xa_sw, if_neg c5]
    by_cases c7 : x2 = 2
    · rw [if_pos c7] at hG
      rw [xa_sw, if_pos c7]
      show Ev X _ 109 74 [.ref 0, .int x1, .int x2, .ref a2] [] (hh S1) _
      by_cases g8 : (kd a2).1 = 10 + 0
      rotate_left
      · rw [if_neg g8] at hG; cases hG
      rw [if_pos g8] at hG
      refine Ev.g (c := (kd a2).1 = 10 + 0) (p1 := 78) (L1 := [.ref 0, .int x1, .int x2, .ref a2]) (s1 := [.int (S1.1 a2 4)]) (h1 := hh S1) 2 (fun n => B_109_5 n x1 x2 a2 S1) g8 ?_
      obtain ⟨e1, e2⟩ := Prod.mk.inj (Option.some.inj hG)
      subst e1
      subst e2
      exact Ev.r 1 (fun n => rfl)
    rw [if_neg c7] at hG
    rw [xa_sw, if_neg c7]
    by_cases c9 : x2 = 3
    · rw [if_pos c9] at hG
      rw [xa_sw, if_pos c9]
      show Ev X _ 109 79 [.ref 0, .int x1, .int x2, .ref a2] [] (hh S1) _
      by_cases g10 : (kd a2).1 = 10 + 0
      rotate_left
      · rw [if_neg g10] at hG; cases hG
      rw [if_pos g10] at hG
      refine Ev.g (c := (kd a2).1 = 10 + 0) (p1 := 83) (L1 := [.ref 0, .int x1, .int x2, .ref a2]) (s1 := [.int (S1.1 a2 5)]) (h1 := hh S1) 2 (fun n => B_109_6 n x1 x2 a2 S1) g10 ?_
      obtain ⟨e1, e2⟩ := Prod.mk.inj (Option.some.inj hG)
      subst e1
      subst e2
      exact Ev.r 1 (fun n => rfl)
    rw [if_neg c9] at hG
    rw [xa_sw, if_neg c9]
    by_cases c11 : x2 = 4
    · rw [if_pos c11] at hG
      rw [xa_sw, if_pos c11]
      show Ev X _ 109 84 [.ref 0, .int x1, .int x2, .ref a2] [] (hh S1) _
      by_cases g13 : (kd a2).1 = 10 + 0
      rotate_left
      · rw [if_neg g13] at hG; cases hG
      rw [if_pos g13] at hG
      rcases h12 : G_19 S1 a2 with _ | ⟨v12, S12⟩
      · rw [h12] at hG; cases hG
      rw [h12] at hG
      dsimp only at hG
      refine Ev.cg (c := (xm_o 19 = 200 ∧ 2000 ≤ a2 ∧ a2 < 2000 + xS_n) ∨ (xm_o 19 ≠ 200 ∧ (kd a2).1 = 10 + xm_o 19)) (a := 19) (A := [.ref a2]) (h1 := hh S1) (pc' := 88) (L' := [.ref 0, .int x1, .int x2, .ref a2]) (rest := []) (r1 := some (.int v12)) (h2 := hh S12) 2 (fun n => B_109_7 n x1 x2 a2 S1) (Or.inr ⟨by decide, g13⟩) (Ev.up (by decide) (T_19 S1 a2 _ _ h12)) ?_
      show Ev X _ 109 88 [.ref 0, .int x1, .int x2, .ref a2] [.int v12] (hh S12) _
      obtain ⟨e1, e2⟩ := Prod.mk.inj (Option.some.inj hG)
      subst e1
      subst e2
      exact Ev.r 1 (fun n => rfl)
    rw [if_neg c11] at hG
    rw [xa_sw, if_neg c11]
    by_cases c14 : x2 = 5
    · rw [if_pos c14] at hG
      rw [xa_sw, if_pos c14]
      show Ev X _ 109 89 [.ref 0, .int x1, .int x2, .ref a2] [] (hh S1) _
      by_cases g15 : (kd a2).1 = 10 + 0
      rotate_left
      · rw [if_neg g15] at hG; cases hG
      rw [if_pos g15] at hG
      refine Ev.g (c := (kd a2).1 = 10 + 0) (p1 := 93) (L1 := [.ref 0, .int x1, .int x2, .ref a2]) (s1 := [.int (S1.1 a2 7)]) (h1 := hh S1) 2 (fun n => B_109_8 n x1 x2 a2 S1) g15 ?_
      by_cases c16 : (S1.1 a2 7) = 0
      · rw [if_pos c16] at hG
        refine Ev.t (c := (S1.1 a2 7) = 0) (p1 := 100) (L1 := [.ref 0, .int x1, .int x2, .ref a2]) (s1 := []) (h1 := hh S1) (p2 := 96) (L2 := [.ref 0, .int x1, .int x2, .ref a2]) (s2 := []) (h2 := hh S1) 1 (fun n => B_109_9 n x1 x2 a2 S1) c16 ?_
        obtain ⟨e1, e2⟩ := Prod.mk.inj (Option.some.inj hG)
        subst e1
        subst e2
        exact Ev.r 2 (fun n => rfl)
      · rw [if_neg c16] at hG
        refine Ev.f (c := (S1.1 a2 7) = 0) (p1 := 100) (L1 := [.ref 0, .int x1, .int x2, .ref a2]) (s1 := []) (h1 := hh S1) (p2 := 96) (L2 := [.ref 0, .int x1, .int x2, .ref a2]) (s2 := []) (h2 := hh S1) 1 (fun n => B_109_10 n x1 x2 a2 S1) c16 ?_
        obtain ⟨e1, e2⟩ := Prod.mk.inj (Option.some.inj hG)
        subst e1
        subst e2
        exact Ev.r 3 (fun n => rfl)
    rw [if_neg c14] at hG
    rw [xa_sw, if_neg c14]
    by_cases c17 : x2 = 6
    · rw [if_pos c17] at hG
      rw [xa_sw, if_pos c17]
      show Ev X _ 109 102 [.ref 0, .int x1, .int x2, .ref a2] [] (hh S1) _
      by_cases g18 : (kd a2).1 = 10 + 0
      rotate_left
      · rw [if_neg g18] at hG; cases hG
      rw [if_pos g18] at hG
      refine Ev.g (c := (kd a2).1 = 10 + 0) (p1 := 106) (L1 := [.ref 0, .int x1, .int x2, .ref a2]) (s1 := [.int (S1.1 a2 2)]) (h1 := hh S1) 2 (fun n => B_109_11 n x1 x2 a2 S1) g18 ?_
      obtain ⟨e1, e2⟩ := Prod.mk.inj (Option.some.inj hG)
      subst e1
      subst e2
      exact Ev.r 1 (fun n => rfl)
    rw [if_neg c17] at hG
    rw [xa_sw, if_neg c17]
    by_cases c19 : x2 = 7
    · rw [if_pos c19] at hG
      rw [xa_sw, if_pos c19]
      show Ev X _ 109 107 [.ref 0, .int x1, .int x2, .ref a2] [] (hh S1) _
      by_cases g20 : (kd a2).1 = 10 + 0
      rotate_left
      · rw [if_neg g20] at hG; cases hG
      rw [if_pos g20] at hG
      refine Ev.g (c := (kd a2).1 = 10 + 0) (p1 := 111) (L1 := [.ref 0, .int x1, .int x2, .ref a2]) (s1 := [.int (S1.1 a2 3)]) (h1 := hh S1) 2 (fun n => B_109_12 n x1 x2 a2 S1) g20 ?_
      obtain ⟨e1, e2⟩ := Prod.mk.inj (Option.some.inj hG)
      subst e1
      subst e2
      exact Ev.r 1 (fun n => rfl)
    rw [if_neg c19] at hG
    rw [xa_sw, if_neg c19]
    rw [xa_sw]
    show Ev X _ 109 112 [.ref 0, .int x1, .int x2, .ref a2] [] (hh S1) _
    obtain ⟨e1, e2⟩ := Prod.mk.inj (Option.some.inj hG)
    subst e1
    subst e2
    exact Ev.r 2 (fun n => rfl)
/-- 110: SceneCycle.cell(III)I -/
def G_110 (S : St) (x1 : Int32) (x2 : Int32) (x3 : Int32) : Option (Int32 × St) :=
  (if x3 = 0 then
    (match G_47 S x1 x2 with
    | none => none
    | some (v2, S2) =>
      some (v2, S2)
    )
  else
    (if x3 = 1 then
      (match G_46 S x1 x2 with
      | none => none
      | some (v4, S4) =>
        some (v4, S4)
      )
    else
      some ((-1), S)
    )
  )
theorem B_110_1 {X : Nat × (Nat → Int32)} {d : Nat} (n : Nat) (x1 : Int32) (x2 : Int32) (x3 : Int32) (S : St) : ex X d 110 0 [.ref 0, .int x1, .int x2, .int x3] [] (hh S) (n + 2) = if x3 = 0 then ex X d 110 4 [.ref 0, .int x1, .int x2, .int x3] [] (hh S) n else ex X d 110 17 [.ref 0, .int x1, .int x2, .int x3] [] (hh S) n := rfl
theorem B_110_2 {X : Nat × (Nat → Int32)} {d : Nat} (n : Nat) (x1 : Int32) (x2 : Int32) (x3 : Int32) (S : St) : ex X (d + 1) 110 4 [.ref 0, .int x1, .int x2, .int x3] [] (hh S) (n + 6) = (match ex X d 47 0 [.ref 2, .int x1, .int x2] [] (hh S) n with | some (v, h') => ex X (d + 1) 110 16 [.ref 0, .int x1, .int x2, .int x3] (v.toList ++ []) h' n | none => none) := rfl
theorem B_110_3 {X : Nat × (Nat → Int32)} {d : Nat} (n : Nat) (x1 : Int32) (x2 : Int32) (x3 : Int32) (S : St) : ex X d 110 0 [.ref 0, .int x1, .int x2, .int x3] [] (hh S) (n + 2) = if x3 = 0 then ex X d 110 4 [.ref 0, .int x1, .int x2, .int x3] [] (hh S) n else ex X d 110 17 [.ref 0, .int x1, .int x2, .int x3] [] (hh S) n := rfl
theorem B_110_4 {X : Nat × (Nat → Int32)} {d : Nat} (n : Nat) (x1 : Int32) (x2 : Int32) (x3 : Int32) (S : St) : ex X d 110 17 [.ref 0, .int x1, .int x2, .int x3] [] (hh S) (n + 3) = if x3 = 1 then ex X d 110 22 [.ref 0, .int x1, .int x2, .int x3] [] (hh S) n else ex X d 110 37 [.ref 0, .int x1, .int x2, .int x3] [] (hh S) n := rfl
theorem B_110_5 {X : Nat × (Nat → Int32)} {d : Nat} (n : Nat) (x1 : Int32) (x2 : Int32) (x3 : Int32) (S : St) : ex X (d + 1) 110 22 [.ref 0, .int x1, .int x2, .int x3] [] (hh S) (n + 6) = (match ex X d 46 0 [.ref 2, .int x1, .int x2] [] (hh S) n with | some (v, h') => ex X (d + 1) 110 34 [.ref 0, .int x1, .int x2, .int x3] (v.toList ++ []) h' n | none => none) := rfl
theorem B_110_6 {X : Nat × (Nat → Int32)} {d : Nat} (n : Nat) (x1 : Int32) (x2 : Int32) (x3 : Int32) (S : St) : ex X d 110 17 [.ref 0, .int x1, .int x2, .int x3] [] (hh S) (n + 3) = if x3 = 1 then ex X d 110 22 [.ref 0, .int x1, .int x2, .int x3] [] (hh S) n else ex X d 110 37 [.ref 0, .int x1, .int x2, .int x3] [] (hh S) n := rfl
set_option maxRecDepth 200000 in
theorem T_110 {X : Nat × (Nat → Int32)} (S : St) (x1 : Int32) (x2 : Int32) (x3 : Int32) (r : Int32) (S' : St) (hG : G_110 S x1 x2 x3 = some (r, S')) : Ev X 2 110 0 [.ref 0, .int x1, .int x2, .int x3] [] (hh S) (xI r, hh S') := by
  unfold G_110 at hG
  by_cases c1 : x3 = 0
  · rw [if_pos c1] at hG
    refine Ev.t (c := x3 = 0) (p1 := 4) (L1 := [.ref 0, .int x1, .int x2, .int x3]) (s1 := []) (h1 := hh S) (p2 := 17) (L2 := [.ref 0, .int x1, .int x2, .int x3]) (s2 := []) (h2 := hh S) 2 (fun n => B_110_1 n x1 x2 x3 S) c1 ?_
    rcases h2 : G_47 S x1 x2 with _ | ⟨v2, S2⟩
    · rw [h2] at hG; cases hG
    rw [h2] at hG
    dsimp only at hG
    refine Ev.c (a := 47) (A := [.ref 2, .int x1, .int x2]) (h1 := hh S) (pc' := 16) (L' := [.ref 0, .int x1, .int x2, .int x3]) (rest := []) (r1 := some (.int v2)) (h2 := hh S2) 6 (fun n => B_110_2 n x1 x2 x3 S) (Ev.up (by decide) (T_47 S x1 x2 _ _ h2)) ?_
    show Ev X _ 110 16 [.ref 0, .int x1, .int x2, .int x3] [.int v2] (hh S2) _
    obtain ⟨e1, e2⟩ := Prod.mk.inj (Option.some.inj hG)
    subst e1
    subst e2
    exact Ev.r 1 (fun n => rfl)
  · rw [if_neg c1] at hG
    refine Ev.f (c := x3 = 0) (p1 := 4) (L1 := [.ref 0, .int x1, .int x2, .int x3]) (s1 := []) (h1 := hh S) (p2 := 17) (L2 := [.ref 0, .int x1, .int x2, .int x3]) (s2 := []) (h2 := hh S) 2 (fun n => B_110_3 n x1 x2 x3 S) c1 ?_
    by_cases c3 : x3 = 1
    · rw [if_pos c3] at hG
      refine Ev.t (c := x3 = 1) (p1 := 22) (L1 := [.ref 0, .int x1, .int x2, .int x3]) (s1 := []) (h1 := hh S) (p2 := 37) (L2 := [.ref 0, .int x1, .int x2, .int x3]) (s2 := []) (h2 := hh S) 3 (fun n => B_110_4 n x1 x2 x3 S) c3 ?_
      rcases h4 : G_46 S x1 x2 with _ | ⟨v4, S4⟩
      · rw [h4] at hG; cases hG
      rw [h4] at hG
      dsimp only at hG
      refine Ev.c (a := 46) (A := [.ref 2, .int x1, .int x2]) (h1 := hh S) (pc' := 34) (L' := [.ref 0, .int x1, .int x2, .int x3]) (rest := []) (r1 := some (.int v4)) (h2 := hh S4) 6 (fun n => B_110_5 n x1 x2 x3 S) (Ev.up (by decide) (T_46 S x1 x2 _ _ h4)) ?_
      show Ev X _ 110 34 [.ref 0, .int x1, .int x2, .int x3] [.int v4] (hh S4) _
      obtain ⟨e1, e2⟩ := Prod.mk.inj (Option.some.inj hG)
      subst e1
      subst e2
      exact Ev.r 2 (fun n => rfl)
    · rw [if_neg c3] at hG
      refine Ev.f (c := x3 = 1) (p1 := 22) (L1 := [.ref 0, .int x1, .int x2, .int x3]) (s1 := []) (h1 := hh S) (p2 := 37) (L2 := [.ref 0, .int x1, .int x2, .int x3]) (s2 := []) (h2 := hh S) 3 (fun n => B_110_6 n x1 x2 x3 S) c3 ?_
      obtain ⟨e1, e2⟩ := Prod.mk.inj (Option.some.inj hG)
      subst e1
      subst e2
      exact Ev.r 2 (fun n => rfl)
/-- 111: SceneCycle.seen(II)I -/
def G_111 (S : St) (x1 : Int32) (x2 : Int32) : Option (Int32 × St) :=
  (match G_100 S x1 x2 with
  | none => none
  | some (v1, S1) =>
    (if v1 = 0 then
      some ((-1), S1)
    else
      (match G_48 S1 x1 x2 with
      | none => none
      | some (v3, S3) =>
        (match G_56 S3 x1 x2 v3 with
        | none => none
        | some (v4, S4) =>
          (if v4 = (-1) then
            (match G_47 S4 x1 x2 with
            | none => none
            | some (v6, S6) =>
              some (v6, S6)
            )
          else
            some ((16 + v4), S4)
          )
        )
      )
    )
  )
theorem B_111_1 {X : Nat × (Nat → Int32)} {d : Nat} (n : Nat) (x1 : Int32) (x2 : Int32) (S : St) : ex X (d + 1) 111 0 [.ref 0, .int x1, .int x2, .retAddr 0] [] (hh S) (n + 3) = (match ex X d 100 0 [.int x1, .int x2] [] (hh S) n with | some (v, h') => ex X (d + 1) 111 5 [.ref 0, .int x1, .int x2, .retAddr 0] (v.toList ++ []) h' n | none => none) := rfl
theorem B_111_2 {X : Nat × (Nat → Int32)} {d : Nat} (n : Nat) (x1 : Int32) (x2 : Int32) (v1 : Int32) (S1 : St) : ex X d 111 5 [.ref 0, .int x1, .int x2, .retAddr 0] [.int v1] (hh S1) (n + 1) = if v1 = 0 then ex X d 111 8 [.ref 0, .int x1, .int x2, .retAddr 0] [] (hh S1) n else ex X d 111 10 [.ref 0, .int x1, .int x2, .retAddr 0] [] (hh S1) n := rfl
theorem B_111_3 {X : Nat × (Nat → Int32)} {d : Nat} (n : Nat) (x1 : Int32) (x2 : Int32) (v1 : Int32) (S1 : St) : ex X d 111 5 [.ref 0, .int x1, .int x2, .retAddr 0] [.int v1] (hh S1) (n + 1) = if v1 = 0 then ex X d 111 8 [.ref 0, .int x1, .int x2, .retAddr 0] [] (hh S1) n else ex X d 111 10 [.ref 0, .int x1, .int x2, .retAddr 0] [] (hh S1) n := rfl
theorem B_111_4 {X : Nat × (Nat → Int32)} {d : Nat} (n : Nat) (x1 : Int32) (x2 : Int32) (S1 : St) : ex X (d + 1) 111 10 [.ref 0, .int x1, .int x2, .retAddr 0] [] (hh S1) (n + 10) = (match ex X d 48 0 [.ref 2, .int x1, .int x2, .retAddr 0] [] (hh S1) n with | some (v, h') => ex X (d + 1) 111 28 [.ref 0, .int x1, .int x2, .retAddr 0] (v.toList ++ [.int x2, .int x1, .ref 1]) h' n | none => none) := rfl
theorem B_111_5 {X : Nat × (Nat → Int32)} {d : Nat} (n : Nat) (x1 : Int32) (x2 : Int32) (v3 : Int32) (S3 : St) : ex X (d + 1) 111 28 [.ref 0, .int x1, .int x2, .retAddr 0] [.int v3, .int x2, .int x1, .ref 1] (hh S3) (n + 1) = (match ex X d 56 0 [.ref 1, .int x1, .int x2, .int v3, .retAddr 0, .retAddr 0, .retAddr 0, .retAddr 0] [] (hh S3) n with | some (v, h') => ex X (d + 1) 111 31 [.ref 0, .int x1, .int x2, .retAddr 0] (v.toList ++ []) h' n | none => none) := rfl
theorem B_111_6 {X : Nat × (Nat → Int32)} {d : Nat} (n : Nat) (x1 : Int32) (x2 : Int32) (v4 : Int32) (S4 : St) : ex X d 111 31 [.ref 0, .int x1, .int x2, .retAddr 0] [.int v4] (hh S4) (n + 4) = if v4 = (-1) then ex X d 111 37 [.ref 0, .int x1, .int x2, .int v4] [] (hh S4) n else ex X d 111 52 [.ref 0, .int x1, .int x2, .int v4] [] (hh S4) n := rfl
theorem B_111_7 {X : Nat × (Nat → Int32)} {d : Nat} (n : Nat) (x1 : Int32) (x2 : Int32) (v4 : Int32) (S4 : St) : ex X (d + 1) 111 37 [.ref 0, .int x1, .int x2, .int v4] [] (hh S4) (n + 6) = (match ex X d 47 0 [.ref 2, .int x1, .int x2] [] (hh S4) n with | some (v, h') => ex X (d + 1) 111 49 [.ref 0, .int x1, .int x2, .int v4] (v.toList ++ []) h' n | none => none) := rfl
theorem B_111_8 {X : Nat × (Nat → Int32)} {d : Nat} (n : Nat) (x1 : Int32) (x2 : Int32) (v4 : Int32) (S4 : St) : ex X d 111 31 [.ref 0, .int x1, .int x2, .retAddr 0] [.int v4] (hh S4) (n + 4) = if v4 = (-1) then ex X d 111 37 [.ref 0, .int x1, .int x2, .int v4] [] (hh S4) n else ex X d 111 52 [.ref 0, .int x1, .int x2, .int v4] [] (hh S4) n := rfl
set_option maxRecDepth 200000 in
theorem T_111 {X : Nat × (Nat → Int32)} (S : St) (x1 : Int32) (x2 : Int32) (r : Int32) (S' : St) (hG : G_111 S x1 x2 = some (r, S')) : Ev X 3 111 0 [.ref 0, .int x1, .int x2, .retAddr 0] [] (hh S) (xI r, hh S') := by
  unfold G_111 at hG
  rcases h1 : G_100 S x1 x2 with _ | ⟨v1, S1⟩
  · rw [h1] at hG; cases hG
  rw [h1] at hG
  dsimp only at hG
  refine Ev.c (a := 100) (A := [.int x1, .int x2]) (h1 := hh S) (pc' := 5) (L' := [.ref 0, .int x1, .int x2, .retAddr 0]) (rest := []) (r1 := some (.int v1)) (h2 := hh S1) 3 (fun n => B_111_1 n x1 x2 S) (Ev.up (by decide) (T_100 S x1 x2 _ _ h1)) ?_
  show Ev X _ 111 5 [.ref 0, .int x1, .int x2, .retAddr 0] [.int v1] (hh S1) _
  by_cases c2 : v1 = 0
  · rw [if_pos c2] at hG
    refine Ev.t (c := v1 = 0) (p1 := 8) (L1 := [.ref 0, .int x1, .int x2, .retAddr 0]) (s1 := []) (h1 := hh S1) (p2 := 10) (L2 := [.ref 0, .int x1, .int x2, .retAddr 0]) (s2 := []) (h2 := hh S1) 1 (fun n => B_111_2 n x1 x2 v1 S1) c2 ?_
    obtain ⟨e1, e2⟩ := Prod.mk.inj (Option.some.inj hG)
    subst e1
    subst e2
    exact Ev.r 2 (fun n => rfl)
  · rw [if_neg c2] at hG
    refine Ev.f (c := v1 = 0) (p1 := 8) (L1 := [.ref 0, .int x1, .int x2, .retAddr 0]) (s1 := []) (h1 := hh S1) (p2 := 10) (L2 := [.ref 0, .int x1, .int x2, .retAddr 0]) (s2 := []) (h2 := hh S1) 1 (fun n => B_111_3 n x1 x2 v1 S1) c2 ?_
    rcases h3 : G_48 S1 x1 x2 with _ | ⟨v3, S3⟩
    · rw [h3] at hG; cases hG
    rw [h3] at hG
    dsimp only at hG
    refine Ev.c (a := 48) (A := [.ref 2, .int x1, .int x2, .retAddr 0]) (h1 := hh S1) (pc' := 28) (L' := [.ref 0, .int x1, .int x2, .retAddr 0]) (rest := [.int x2, .int x1, .ref 1]) (r1 := some (.int v3)) (h2 := hh S3) 10 (fun n => B_111_4 n x1 x2 S1) (Ev.up (by decide) (T_48 S1 x1 x2 _ _ h3)) ?_
    show Ev X _ 111 28 [.ref 0, .int x1, .int x2, .retAddr 0] [.int v3, .int x2, .int x1, .ref 1] (hh S3) _
    rcases h4 : G_56 S3 x1 x2 v3 with _ | ⟨v4, S4⟩
    · rw [h4] at hG; cases hG
    rw [h4] at hG
    dsimp only at hG
    refine Ev.c (a := 56) (A := [.ref 1, .int x1, .int x2, .int v3, .retAddr 0, .retAddr 0, .retAddr 0, .retAddr 0]) (h1 := hh S3) (pc' := 31) (L' := [.ref 0, .int x1, .int x2, .retAddr 0]) (rest := []) (r1 := some (.int v4)) (h2 := hh S4) 1 (fun n => B_111_5 n x1 x2 v3 S3) (Ev.up (by decide) (T_56 S3 x1 x2 v3 _ _ h4)) ?_
    show Ev X _ 111 31 [.ref 0, .int x1, .int x2, .retAddr 0] [.int v4] (hh S4) _
    by_cases c5 : v4 = (-1)
    · rw [if_pos c5] at hG
      refine Ev.t (c := v4 = (-1)) (p1 := 37) (L1 := [.ref 0, .int x1, .int x2, .int v4]) (s1 := []) (h1 := hh S4) (p2 := 52) (L2 := [.ref 0, .int x1, .int x2, .int v4]) (s2 := []) (h2 := hh S4) 4 (fun n => B_111_6 n x1 x2 v4 S4) c5 ?_
      rcases h6 : G_47 S4 x1 x2 with _ | ⟨v6, S6⟩
      · rw [h6] at hG; cases hG
      rw [h6] at hG
      dsimp only at hG
      refine Ev.c (a := 47) (A := [.ref 2, .int x1, .int x2]) (h1 := hh S4) (pc' := 49) (L' := [.ref 0, .int x1, .int x2, .int v4]) (rest := []) (r1 := some (.int v6)) (h2 := hh S6) 6 (fun n => B_111_7 n x1 x2 v4 S4) (Ev.up (by decide) (T_47 S4 x1 x2 _ _ h6)) ?_
      show Ev X _ 111 49 [.ref 0, .int x1, .int x2, .int v4] [.int v6] (hh S6) _
      obtain ⟨e1, e2⟩ := Prod.mk.inj (Option.some.inj hG)
      subst e1
      subst e2
      exact Ev.r 2 (fun n => rfl)
    · rw [if_neg c5] at hG
      refine Ev.f (c := v4 = (-1)) (p1 := 37) (L1 := [.ref 0, .int x1, .int x2, .int v4]) (s1 := []) (h1 := hh S4) (p2 := 52) (L2 := [.ref 0, .int x1, .int x2, .int v4]) (s2 := []) (h2 := hh S4) 4 (fun n => B_111_8 n x1 x2 v4 S4) c5 ?_
      obtain ⟨e1, e2⟩ := Prod.mk.inj (Option.some.inj hG)
      subst e1
      subst e2
      exact Ev.r 4 (fun n => rfl)
