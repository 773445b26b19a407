/-- 139: SceneCycleModel.besideReached(I)Z -/
def G_139 (S : St) (x1 : Int32) : Option (Int32 × St) :=
  (if (x1 - x1 / 16 * 16) ≤ 0 then
    (if 15 ≤ (x1 - x1 / 16 * 16) then
      (if x1 < 16 then
        (if 176 ≤ x1 then
          some (0, S)
        else
          (if xa_in (x1 + 16) 192 then
            (if (S.1 32 ((x1 + 16)).toNatClampNeg) = 0 then
              some (0, S)
            else
              some (1, S)
            )
          else none)
        )
      else
        (if xa_in (x1 - 16) 192 then
          (if (S.1 32 ((x1 - 16)).toNatClampNeg) = 0 then
            (if 176 ≤ x1 then
              some (0, S)
            else
              (if xa_in (x1 + 16) 192 then
                (if (S.1 32 ((x1 + 16)).toNatClampNeg) = 0 then
                  some (0, S)
                else
                  some (1, S)
                )
              else none)
            )
          else
            some (1, S)
          )
        else none)
      )
    else
      (if xa_in (x1 + 1) 192 then
        (if (S.1 32 ((x1 + 1)).toNatClampNeg) = 0 then
          (if x1 < 16 then
            (if 176 ≤ x1 then
              some (0, S)
            else
              (if xa_in (x1 + 16) 192 then
                (if (S.1 32 ((x1 + 16)).toNatClampNeg) = 0 then
                  some (0, S)
                else
                  some (1, S)
                )
              else none)
            )
          else
            (if xa_in (x1 - 16) 192 then
              (if (S.1 32 ((x1 - 16)).toNatClampNeg) = 0 then
                (if 176 ≤ x1 then
                  some (0, S)
                else
                  (if xa_in (x1 + 16) 192 then
                    (if (S.1 32 ((x1 + 16)).toNatClampNeg) = 0 then
                      some (0, S)
                    else
                      some (1, S)
                    )
                  else none)
                )
              else
                some (1, S)
              )
            else none)
          )
        else
          some (1, S)
        )
      else none)
    )
  else
    (if xa_in (x1 - 1) 192 then
      (if (S.1 32 ((x1 - 1)).toNatClampNeg) = 0 then
        (if 15 ≤ (x1 - x1 / 16 * 16) then
          (if x1 < 16 then
            (if 176 ≤ x1 then
              some (0, S)
            else
              (if xa_in (x1 + 16) 192 then
                (if (S.1 32 ((x1 + 16)).toNatClampNeg) = 0 then
                  some (0, S)
                else
                  some (1, S)
                )
              else none)
            )
          else
            (if xa_in (x1 - 16) 192 then
              (if (S.1 32 ((x1 - 16)).toNatClampNeg) = 0 then
                (if 176 ≤ x1 then
                  some (0, S)
                else
                  (if xa_in (x1 + 16) 192 then
                    (if (S.1 32 ((x1 + 16)).toNatClampNeg) = 0 then
                      some (0, S)
                    else
                      some (1, S)
                    )
                  else none)
                )
              else
                some (1, S)
              )
            else none)
          )
        else
          (if xa_in (x1 + 1) 192 then
            (if (S.1 32 ((x1 + 1)).toNatClampNeg) = 0 then
              (if x1 < 16 then
                (if 176 ≤ x1 then
                  some (0, S)
                else
                  (if xa_in (x1 + 16) 192 then
                    (if (S.1 32 ((x1 + 16)).toNatClampNeg) = 0 then
                      some (0, S)
                    else
                      some (1, S)
                    )
                  else none)
                )
              else
                (if xa_in (x1 - 16) 192 then
                  (if (S.1 32 ((x1 - 16)).toNatClampNeg) = 0 then
                    (if 176 ≤ x1 then
                      some (0, S)
                    else
                      (if xa_in (x1 + 16) 192 then
                        (if (S.1 32 ((x1 + 16)).toNatClampNeg) = 0 then
                          some (0, S)
                        else
                          some (1, S)
                        )
                      else none)
                    )
                  else
                    some (1, S)
                  )
                else none)
              )
            else
              some (1, S)
            )
          else none)
        )
      else
        some (1, S)
      )
    else none)
  )
theorem B_139_1 {X : Nat × (Nat → Int32)} {d : Nat} (n : Nat) (x1 : Int32) (S : St) : ex X d 139 0 [.ref 29, .int x1, .retAddr 0] [] (hh S) (n + 3) = if (16 : Int32) = 0 then none else ex X d 139 4 [.ref 29, .int x1, .retAddr 0] [.int (x1 - x1 / 16 * 16)] (hh S) n := rfl
theorem B_139_2 {X : Nat × (Nat → Int32)} {d : Nat} (n : Nat) (x1 : Int32) (S : St) : ex X d 139 4 [.ref 29, .int x1, .retAddr 0] [.int (x1 - x1 / 16 * 16)] (hh S) (n + 3) = if (x1 - x1 / 16 * 16) ≤ 0 then ex X d 139 20 [.ref 29, .int x1, .int (x1 - x1 / 16 * 16)] [] (hh S) n else ex X d 139 9 [.ref 29, .int x1, .int (x1 - x1 / 16 * 16)] [] (hh S) n := rfl
theorem B_139_3 {X : Nat × (Nat → Int32)} {d : Nat} (n : Nat) (x1 : Int32) (S : St) : ex X d 139 20 [.ref 29, .int x1, .int (x1 - x1 / 16 * 16)] [] (hh S) (n + 3) = if 15 ≤ (x1 - x1 / 16 * 16) then ex X d 139 37 [.ref 29, .int x1, .int (x1 - x1 / 16 * 16)] [] (hh S) n else ex X d 139 26 [.ref 29, .int x1, .int (x1 - x1 / 16 * 16)] [] (hh S) n := rfl
theorem B_139_4 {X : Nat × (Nat → Int32)} {d : Nat} (n : Nat) (x1 : Int32) (S : St) : ex X d 139 37 [.ref 29, .int x1, .int (x1 - x1 / 16 * 16)] [] (hh S) (n + 3) = if x1 < 16 then ex X d 139 55 [.ref 29, .int x1, .int (x1 - x1 / 16 * 16)] [] (hh S) n else ex X d 139 43 [.ref 29, .int x1, .int (x1 - x1 / 16 * 16)] [] (hh S) n := rfl
theorem B_139_5 {X : Nat × (Nat → Int32)} {d : Nat} (n : Nat) (x1 : Int32) (S : St) : ex X d 139 55 [.ref 29, .int x1, .int (x1 - x1 / 16 * 16)] [] (hh S) (n + 3) = if 176 ≤ x1 then ex X d 139 78 [.ref 29, .int x1, .int (x1 - x1 / 16 * 16)] [] (hh S) n else ex X d 139 62 [.ref 29, .int x1, .int (x1 - x1 / 16 * 16)] [] (hh S) n := rfl
theorem B_139_6 {X : Nat × (Nat → Int32)} {d : Nat} (n : Nat) (x1 : Int32) (S : St) : ex X d 139 55 [.ref 29, .int x1, .int (x1 - x1 / 16 * 16)] [] (hh S) (n + 3) = if 176 ≤ x1 then ex X d 139 78 [.ref 29, .int x1, .int (x1 - x1 / 16 * 16)] [] (hh S) n else ex X d 139 62 [.ref 29, .int x1, .int (x1 - x1 / 16 * 16)] [] (hh S) n := rfl
theorem B_139_7 {X : Nat × (Nat → Int32)} {d : Nat} (n : Nat) (x1 : Int32) (S : St) : ex X d 139 62 [.ref 29, .int x1, .int (x1 - x1 / 16 * 16)] [] (hh S) (n + 6) = if (kd 32).1 = 1 ∧ xa_in (x1 + 16) (kd 32).2 then ex X d 139 71 [.ref 29, .int x1, .int (x1 - x1 / 16 * 16)] [.int (S.1 32 ((x1 + 16)).toNatClampNeg)] (hh S) n else none := rfl
theorem B_139_8 {X : Nat × (Nat → Int32)} {d : Nat} (n : Nat) (x1 : Int32) (S : St) : ex X d 139 71 [.ref 29, .int x1, .int (x1 - x1 / 16 * 16)] [.int (S.1 32 ((x1 + 16)).toNatClampNeg)] (hh S) (n + 1) = if (S.1 32 ((x1 + 16)).toNatClampNeg) = 0 then ex X d 139 78 [.ref 29, .int x1, .int (x1 - x1 / 16 * 16)] [] (hh S) n else ex X d 139 74 [.ref 29, .int x1, .int (x1 - x1 / 16 * 16)] [] (hh S) n := rfl
theorem B_139_9 {X : Nat × (Nat → Int32)} {d : Nat} (n : Nat) (x1 : Int32) (S : St) : ex X d 139 71 [.ref 29, .int x1, .int (x1 - x1 / 16 * 16)] [.int (S.1 32 ((x1 + 16)).toNatClampNeg)] (hh S) (n + 1) = if (S.1 32 ((x1 + 16)).toNatClampNeg) = 0 then ex X d 139 78 [.ref 29, .int x1, .int (x1 - x1 / 16 * 16)] [] (hh S) n else ex X d 139 74 [.ref 29, .int x1, .int (x1 - x1 / 16 * 16)] [] (hh S) n := rfl
theorem B_139_10 {X : Nat × (Nat → Int32)} {d : Nat} (n : Nat) (x1 : Int32) (S : St) : ex X d 139 37 [.ref 29, .int x1, .int (x1 - x1 / 16 * 16)] [] (hh S) (n + 3) = if x1 < 16 then ex X d 139 55 [.ref 29, .int x1, .int (x1 - x1 / 16 * 16)] [] (hh S) n else ex X d 139 43 [.ref 29, .int x1, .int (x1 - x1 / 16 * 16)] [] (hh S) n := rfl
theorem B_139_11 {X : Nat × (Nat → Int32)} {d : Nat} (n : Nat) (x1 : Int32) (S : St) : ex X d 139 43 [.ref 29, .int x1, .int (x1 - x1 / 16 * 16)] [] (hh S) (n + 6) = if (kd 32).1 = 1 ∧ xa_in (x1 - 16) (kd 32).2 then ex X d 139 52 [.ref 29, .int x1, .int (x1 - x1 / 16 * 16)] [.int (S.1 32 ((x1 - 16)).toNatClampNeg)] (hh S) n else none := rfl
theorem B_139_12 {X : Nat × (Nat → Int32)} {d : Nat} (n : Nat) (x1 : Int32) (S : St) : ex X d 139 52 [.ref 29, .int x1, .int (x1 - x1 / 16 * 16)] [.int (S.1 32 ((x1 - 16)).toNatClampNeg)] (hh S) (n + 1) = if (S.1 32 ((x1 - 16)).toNatClampNeg) = 0 then ex X d 139 55 [.ref 29, .int x1, .int (x1 - x1 / 16 * 16)] [] (hh S) n else ex X d 139 74 [.ref 29, .int x1, .int (x1 - x1 / 16 * 16)] [] (hh S) n := rfl
theorem B_139_13 {X : Nat × (Nat → Int32)} {d : Nat} (n : Nat) (x1 : Int32) (S : St) : ex X d 139 55 [.ref 29, .int x1, .int (x1 - x1 / 16 * 16)] [] (hh S) (n + 3) = if 176 ≤ x1 then ex X d 139 78 [.ref 29, .int x1, .int (x1 - x1 / 16 * 16)] [] (hh S) n else ex X d 139 62 [.ref 29, .int x1, .int (x1 - x1 / 16 * 16)] [] (hh S) n := rfl
theorem B_139_14 {X : Nat × (Nat → Int32)} {d : Nat} (n : Nat) (x1 : Int32) (S : St) : ex X d 139 55 [.ref 29, .int x1, .int (x1 - x1 / 16 * 16)] [] (hh S) (n + 3) = if 176 ≤ x1 then ex X d 139 78 [.ref 29, .int x1, .int (x1 - x1 / 16 * 16)] [] (hh S) n else ex X d 139 62 [.ref 29, .int x1, .int (x1 - x1 / 16 * 16)] [] (hh S) n := rfl
theorem B_139_15 {X : Nat × (Nat → Int32)} {d : Nat} (n : Nat) (x1 : Int32) (S : St) : ex X d 139 62 [.ref 29, .int x1, .int (x1 - x1 / 16 * 16)] [] (hh S) (n + 6) = if (kd 32).1 = 1 ∧ xa_in (x1 + 16) (kd 32).2 then ex X d 139 71 [.ref 29, .int x1, .int (x1 - x1 / 16 * 16)] [.int (S.1 32 ((x1 + 16)).toNatClampNeg)] (hh S) n else none := rfl
theorem B_139_16 {X : Nat × (Nat → Int32)} {d : Nat} (n : Nat) (x1 : Int32) (S : St) : ex X d 139 71 [.ref 29, .int x1, .int (x1 - x1 / 16 * 16)] [.int (S.1 32 ((x1 + 16)).toNatClampNeg)] (hh S) (n + 1) = if (S.1 32 ((x1 + 16)).toNatClampNeg) = 0 then ex X d 139 78 [.ref 29, .int x1, .int (x1 - x1 / 16 * 16)] [] (hh S) n else ex X d 139 74 [.ref 29, .int x1, .int (x1 - x1 / 16 * 16)] [] (hh S) n := rfl
theorem B_139_17 {X : Nat × (Nat → Int32)} {d : Nat} (n : Nat) (x1 : Int32) (S : St) : ex X d 139 71 [.ref 29, .int x1, .int (x1 - x1 / 16 * 16)] [.int (S.1 32 ((x1 + 16)).toNatClampNeg)] (hh S) (n + 1) = if (S.1 32 ((x1 + 16)).toNatClampNeg) = 0 then ex X d 139 78 [.ref 29, .int x1, .int (x1 - x1 / 16 * 16)] [] (hh S) n else ex X d 139 74 [.ref 29, .int x1, .int (x1 - x1 / 16 * 16)] [] (hh S) n := rfl
theorem B_139_18 {X : Nat × (Nat → Int32)} {d : Nat} (n : Nat) (x1 : Int32) (S : St) : ex X d 139 52 [.ref 29, .int x1, .int (x1 - x1 / 16 * 16)] [.int (S.1 32 ((x1 - 16)).toNatClampNeg)] (hh S) (n + 1) = if (S.1 32 ((x1 - 16)).toNatClampNeg) = 0 then ex X d 139 55 [.ref 29, .int x1, .int (x1 - x1 / 16 * 16)] [] (hh S) n else ex X d 139 74 [.ref 29, .int x1, .int (x1 - x1 / 16 * 16)] [] (hh S) n := rfl
theorem B_139_19 {X : Nat × (Nat → Int32)} {d : Nat} (n : Nat) (x1 : Int32) (S : St) : ex X d 139 20 [.ref 29, .int x1, .int (x1 - x1 / 16 * 16)] [] (hh S) (n + 3) = if 15 ≤ (x1 - x1 / 16 * 16) then ex X d 139 37 [.ref 29, .int x1, .int (x1 - x1 / 16 * 16)] [] (hh S) n else ex X d 139 26 [.ref 29, .int x1, .int (x1 - x1 / 16 * 16)] [] (hh S) n := rfl
theorem B_139_20 {X : Nat × (Nat → Int32)} {d : Nat} (n : Nat) (x1 : Int32) (S : St) : ex X d 139 26 [.ref 29, .int x1, .int (x1 - x1 / 16 * 16)] [] (hh S) (n + 6) = if (kd 32).1 = 1 ∧ xa_in (x1 + 1) (kd 32).2 then ex X d 139 34 [.ref 29, .int x1, .int (x1 - x1 / 16 * 16)] [.int (S.1 32 ((x1 + 1)).toNatClampNeg)] (hh S) n else none := rfl
theorem B_139_21 {X : Nat × (Nat → Int32)} {d : Nat} (n : Nat) (x1 : Int32) (S : St) : ex X d 139 34 [.ref 29, .int x1, .int (x1 - x1 / 16 * 16)] [.int (S.1 32 ((x1 + 1)).toNatClampNeg)] (hh S) (n + 1) = if (S.1 32 ((x1 + 1)).toNatClampNeg) = 0 then ex X d 139 37 [.ref 29, .int x1, .int (x1 - x1 / 16 * 16)] [] (hh S) n else ex X d 139 74 [.ref 29, .int x1, .int (x1 - x1 / 16 * 16)] [] (hh S) n := rfl
theorem B_139_22 {X : Nat × (Nat → Int32)} {d : Nat} (n : Nat) (x1 : Int32) (S : St) : ex X d 139 37 [.ref 29, .int x1, .int (x1 - x1 / 16 * 16)] [] (hh S) (n + 3) = if x1 < 16 then ex X d 139 55 [.ref 29, .int x1, .int (x1 - x1 / 16 * 16)] [] (hh S) n else ex X d 139 43 [.ref 29, .int x1, .int (x1 - x1 / 16 * 16)] [] (hh S) n := rfl
theorem B_139_23 {X : Nat × (Nat → Int32)} {d : Nat} (n : Nat) (x1 : Int32) (S : St) : ex X d 139 55 [.ref 29, .int x1, .int (x1 - x1 / 16 * 16)] [] (hh S) (n + 3) = if 176 ≤ x1 then ex X d 139 78 [.ref 29, .int x1, .int (x1 - x1 / 16 * 16)] [] (hh S) n else ex X d 139 62 [.ref 29, .int x1, .int (x1 - x1 / 16 * 16)] [] (hh S) n := rfl
theorem B_139_24 {X : Nat × (Nat → Int32)} {d : Nat} (n : Nat) (x1 : Int32) (S : St) : ex X d 139 55 [.ref 29, .int x1, .int (x1 - x1 / 16 * 16)] [] (hh S) (n + 3) = if 176 ≤ x1 then ex X d 139 78 [.ref 29, .int x1, .int (x1 - x1 / 16 * 16)] [] (hh S) n else ex X d 139 62 [.ref 29, .int x1, .int (x1 - x1 / 16 * 16)] [] (hh S) n := rfl
theorem B_139_25 {X : Nat × (Nat → Int32)} {d : Nat} (n : Nat) (x1 : Int32) (S : St) : ex X d 139 62 [.ref 29, .int x1, .int (x1 - x1 / 16 * 16)] [] (hh S) (n + 6) = if (kd 32).1 = 1 ∧ xa_in (x1 + 16) (kd 32).2 then ex X d 139 71 [.ref 29, .int x1, .int (x1 - x1 / 16 * 16)] [.int (S.1 32 ((x1 + 16)).toNatClampNeg)] (hh S) n else none := rfl
theorem B_139_26 {X : Nat × (Nat → Int32)} {d : Nat} (n : Nat) (x1 : Int32) (S : St) : ex X d 139 71 [.ref 29, .int x1, .int (x1 - x1 / 16 * 16)] [.int (S.1 32 ((x1 + 16)).toNatClampNeg)] (hh S) (n + 1) = if (S.1 32 ((x1 + 16)).toNatClampNeg) = 0 then ex X d 139 78 [.ref 29, .int x1, .int (x1 - x1 / 16 * 16)] [] (hh S) n else ex X d 139 74 [.ref 29, .int x1, .int (x1 - x1 / 16 * 16)] [] (hh S) n := rfl
theorem B_139_27 {X : Nat × (Nat → Int32)} {d : Nat} (n : Nat) (x1 : Int32) (S : St) : ex X d 139 71 [.ref 29, .int x1, .int (x1 - x1 / 16 * 16)] [.int (S.1 32 ((x1 + 16)).toNatClampNeg)] (hh S) (n + 1) = if (S.1 32 ((x1 + 16)).toNatClampNeg) = 0 then ex X d 139 78 [.ref 29, .int x1, .int (x1 - x1 / 16 * 16)] [] (hh S) n else ex X d 139 74 [.ref 29, .int x1, .int (x1 - x1 / 16 * 16)] [] (hh S) n := rfl
theorem B_139_28 {X : Nat × (Nat → Int32)} {d : Nat} (n : Nat) (x1 : Int32) (S : St) : ex X d 139 37 [.ref 29, .int x1, .int (x1 - x1 / 16 * 16)] [] (hh S) (n + 3) = if x1 < 16 then ex X d 139 55 [.ref 29, .int x1, .int (x1 - x1 / 16 * 16)] [] (hh S) n else ex X d 139 43 [.ref 29, .int x1, .int (x1 - x1 / 16 * 16)] [] (hh S) n := rfl
theorem B_139_29 {X : Nat × (Nat → Int32)} {d : Nat} (n : Nat) (x1 : Int32) (S : St) : ex X d 139 43 [.ref 29, .int x1, .int (x1 - x1 / 16 * 16)] [] (hh S) (n + 6) = if (kd 32).1 = 1 ∧ xa_in (x1 - 16) (kd 32).2 then ex X d 139 52 [.ref 29, .int x1, .int (x1 - x1 / 16 * 16)] [.int (S.1 32 ((x1 - 16)).toNatClampNeg)] (hh S) n else none := rfl
theorem B_139_30 {X : Nat × (Nat → Int32)} {d : Nat} (n : Nat) (x1 : Int32) (S : St) : ex X d 139 52 [.ref 29, .int x1, .int (x1 - x1 / 16 * 16)] [.int (S.1 32 ((x1 - 16)).toNatClampNeg)] (hh S) (n + 1) = if (S.1 32 ((x1 - 16)).toNatClampNeg) = 0 then ex X d 139 55 [.ref 29, .int x1, .int (x1 - x1 / 16 * 16)] [] (hh S) n else ex X d 139 74 [.ref 29, .int x1, .int (x1 - x1 / 16 * 16)] [] (hh S) n := rfl
theorem B_139_31 {X : Nat × (Nat → Int32)} {d : Nat} (n : Nat) (x1 : Int32) (S : St) : ex X d 139 55 [.ref 29, .int x1, .int (x1 - x1 / 16 * 16)] [] (hh S) (n + 3) = if 176 ≤ x1 then ex X d 139 78 [.ref 29, .int x1, .int (x1 - x1 / 16 * 16)] [] (hh S) n else ex X d 139 62 [.ref 29, .int x1, .int (x1 - x1 / 16 * 16)] [] (hh S) n := rfl
theorem B_139_32 {X : Nat × (Nat → Int32)} {d : Nat} (n : Nat) (x1 : Int32) (S : St) : ex X d 139 55 [.ref 29, .int x1, .int (x1 - x1 / 16 * 16)] [] (hh S) (n + 3) = if 176 ≤ x1 then ex X d 139 78 [.ref 29, .int x1, .int (x1 - x1 / 16 * 16)] [] (hh S) n else ex X d 139 62 [.ref 29, .int x1, .int (x1 - x1 / 16 * 16)] [] (hh S) n := rfl
theorem B_139_33 {X : Nat × (Nat → Int32)} {d : Nat} (n : Nat) (x1 : Int32) (S : St) : ex X d 139 62 [.ref 29, .int x1, .int (x1 - x1 / 16 * 16)] [] (hh S) (n + 6) = if (kd 32).1 = 1 ∧ xa_in (x1 + 16) (kd 32).2 then ex X d 139 71 [.ref 29, .int x1, .int (x1 - x1 / 16 * 16)] [.int (S.1 32 ((x1 + 16)).toNatClampNeg)] (hh S) n else none := rfl
theorem B_139_34 {X : Nat × (Nat → Int32)} {d : Nat} (n : Nat) (x1 : Int32) (S : St) : ex X d 139 71 [.ref 29, .int x1, .int (x1 - x1 / 16 * 16)] [.int (S.1 32 ((x1 + 16)).toNatClampNeg)] (hh S) (n + 1) = if (S.1 32 ((x1 + 16)).toNatClampNeg) = 0 then ex X d 139 78 [.ref 29, .int x1, .int (x1 - x1 / 16 * 16)] [] (hh S) n else ex X d 139 74 [.ref 29, .int x1, .int (x1 - x1 / 16 * 16)] [] (hh S) n := rfl
theorem B_139_35 {X : Nat × (Nat → Int32)} {d : Nat} (n : Nat) (x1 : Int32) (S : St) : ex X d 139 71 [.ref 29, .int x1, .int (x1 - x1 / 16 * 16)] [.int (S.1 32 ((x1 + 16)).toNatClampNeg)] (hh S) (n + 1) = if (S.1 32 ((x1 + 16)).toNatClampNeg) = 0 then ex X d 139 78 [.ref 29, .int x1, .int (x1 - x1 / 16 * 16)] [] (hh S) n else ex X d 139 74 [.ref 29, .int x1, .int (x1 - x1 / 16 * 16)] [] (hh S) n := rfl
theorem B_139_36 {X : Nat × (Nat → Int32)} {d : Nat} (n : Nat) (x1 : Int32) (S : St) : ex X d 139 52 [.ref 29, .int x1, .int (x1 - x1 / 16 * 16)] [.int (S.1 32 ((x1 - 16)).toNatClampNeg)] (hh S) (n + 1) = if (S.1 32 ((x1 - 16)).toNatClampNeg) = 0 then ex X d 139 55 [.ref 29, .int x1, .int (x1 - x1 / 16 * 16)] [] (hh S) n else ex X d 139 74 [.ref 29, .int x1, .int (x1 - x1 / 16 * 16)] [] (hh S) n := rfl
theorem B_139_37 {X : Nat × (Nat → Int32)} {d : Nat} (n : Nat) (x1 : Int32) (S : St) : ex X d 139 34 [.ref 29, .int x1, .int (x1 - x1 / 16 * 16)] [.int (S.1 32 ((x1 + 1)).toNatClampNeg)] (hh S) (n + 1) = if (S.1 32 ((x1 + 1)).toNatClampNeg) = 0 then ex X d 139 37 [.ref 29, .int x1, .int (x1 - x1 / 16 * 16)] [] (hh S) n else ex X d 139 74 [.ref 29, .int x1, .int (x1 - x1 / 16 * 16)] [] (hh S) n := rfl
theorem B_139_38 {X : Nat × (Nat → Int32)} {d : Nat} (n : Nat) (x1 : Int32) (S : St) : ex X d 139 4 [.ref 29, .int x1, .retAddr 0] [.int (x1 - x1 / 16 * 16)] (hh S) (n + 3) = if (x1 - x1 / 16 * 16) ≤ 0 then ex X d 139 20 [.ref 29, .int x1, .int (x1 - x1 / 16 * 16)] [] (hh S) n else ex X d 139 9 [.ref 29, .int x1, .int (x1 - x1 / 16 * 16)] [] (hh S) n := rfl
theorem B_139_39 {X : Nat × (Nat → Int32)} {d : Nat} (n : Nat) (x1 : Int32) (S : St) : ex X d 139 9 [.ref 29, .int x1, .int (x1 - x1 / 16 * 16)] [] (hh S) (n + 6) = if (kd 32).1 = 1 ∧ xa_in (x1 - 1) (kd 32).2 then ex X d 139 17 [.ref 29, .int x1, .int (x1 - x1 / 16 * 16)] [.int (S.1 32 ((x1 - 1)).toNatClampNeg)] (hh S) n else none := rfl
theorem B_139_40 {X : Nat × (Nat → Int32)} {d : Nat} (n : Nat) (x1 : Int32) (S : St) : ex X d 139 17 [.ref 29, .int x1, .int (x1 - x1 / 16 * 16)] [.int (S.1 32 ((x1 - 1)).toNatClampNeg)] (hh S) (n + 1) = if (S.1 32 ((x1 - 1)).toNatClampNeg) = 0 then ex X d 139 20 [.ref 29, .int x1, .int (x1 - x1 / 16 * 16)] [] (hh S) n else ex X d 139 74 [.ref 29, .int x1, .int (x1 - x1 / 16 * 16)] [] (hh S) n := rfl
theorem B_139_41 {X : Nat × (Nat → Int32)} {d : Nat} (n : Nat) (x1 : Int32) (S : St) : ex X d 139 20 [.ref 29, .int x1, .int (x1 - x1 / 16 * 16)] [] (hh S) (n + 3) = if 15 ≤ (x1 - x1 / 16 * 16) then ex X d 139 37 [.ref 29, .int x1, .int (x1 - x1 / 16 * 16)] [] (hh S) n else ex X d 139 26 [.ref 29, .int x1, .int (x1 - x1 / 16 * 16)] [] (hh S) n := rfl
theorem B_139_42 {X : Nat × (Nat → Int32)} {d : Nat} (n : Nat) (x1 : Int32) (S : St) : ex X d 139 37 [.ref 29, .int x1, .int (x1 - x1 / 16 * 16)] [] (hh S) (n + 3) = if x1 < 16 then ex X d 139 55 [.ref 29, .int x1, .int (x1 - x1 / 16 * 16)] [] (hh S) n else ex X d 139 43 [.ref 29, .int x1, .int (x1 - x1 / 16 * 16)] [] (hh S) n := rfl
theorem B_139_43 {X : Nat × (Nat → Int32)} {d : Nat} (n : Nat) (x1 : Int32) (S : St) : ex X d 139 55 [.ref 29, .int x1, .int (x1 - x1 / 16 * 16)] [] (hh S) (n + 3) = if 176 ≤ x1 then ex X d 139 78 [.ref 29, .int x1, .int (x1 - x1 / 16 * 16)] [] (hh S) n else ex X d 139 62 [.ref 29, .int x1, .int (x1 - x1 / 16 * 16)] [] (hh S) n := rfl
theorem B_139_44 {X : Nat × (Nat → Int32)} {d : Nat} (n : Nat) (x1 : Int32) (S : St) : ex X d 139 55 [.ref 29, .int x1, .int (x1 - x1 / 16 * 16)] [] (hh S) (n + 3) = if 176 ≤ x1 then ex X d 139 78 [.ref 29, .int x1, .int (x1 - x1 / 16 * 16)] [] (hh S) n else ex X d 139 62 [.ref 29, .int x1, .int (x1 - x1 / 16 * 16)] [] (hh S) n := rfl
theorem B_139_45 {X : Nat × (Nat → Int32)} {d : Nat} (n : Nat) (x1 : Int32) (S : St) : ex X d 139 62 [.ref 29, .int x1, .int (x1 - x1 / 16 * 16)] [] (hh S) (n + 6) = if (kd 32).1 = 1 ∧ xa_in (x1 + 16) (kd 32).2 then ex X d 139 71 [.ref 29, .int x1, .int (x1 - x1 / 16 * 16)] [.int (S.1 32 ((x1 + 16)).toNatClampNeg)] (hh S) n else none := rfl
theorem B_139_46 {X : Nat × (Nat → Int32)} {d : Nat} (n : Nat) (x1 : Int32) (S : St) : ex X d 139 71 [.ref 29, .int x1, .int (x1 - x1 / 16 * 16)] [.int (S.1 32 ((x1 + 16)).toNatClampNeg)] (hh S) (n + 1) = if (S.1 32 ((x1 + 16)).toNatClampNeg) = 0 then ex X d 139 78 [.ref 29, .int x1, .int (x1 - x1 / 16 * 16)] [] (hh S) n else ex X d 139 74 [.ref 29, .int x1, .int (x1 - x1 / 16 * 16)] [] (hh S) n := rfl
theorem B_139_47 {X : Nat × (Nat → Int32)} {d : Nat} (n : Nat) (x1 : Int32) (S : St) : ex X d 139 71 [.ref 29, .int x1, .int (x1 - x1 / 16 * 16)] [.int (S.1 32 ((x1 + 16)).toNatClampNeg)] (hh S) (n + 1) = if (S.1 32 ((x1 + 16)).toNatClampNeg) = 0 then ex X d 139 78 [.ref 29, .int x1, .int (x1 - x1 / 16 * 16)] [] (hh S) n else ex X d 139 74 [.ref 29, .int x1, .int (x1 - x1 / 16 * 16)] [] (hh S) n := rfl
theorem B_139_48 {X : Nat × (Nat → Int32)} {d : Nat} (n : Nat) (x1 : Int32) (S : St) : ex X d 139 37 [.ref 29, .int x1, .int (x1 - x1 / 16 * 16)] [] (hh S) (n + 3) = if x1 < 16 then ex X d 139 55 [.ref 29, .int x1, .int (x1 - x1 / 16 * 16)] [] (hh S) n else ex X d 139 43 [.ref 29, .int x1, .int (x1 - x1 / 16 * 16)] [] (hh S) n := rfl
theorem B_139_49 {X : Nat × (Nat → Int32)} {d : Nat} (n : Nat) (x1 : Int32) (S : St) : ex X d 139 43 [.ref 29, .int x1, .int (x1 - x1 / 16 * 16)] [] (hh S) (n + 6) = if (kd 32).1 = 1 ∧ xa_in (x1 - 16) (kd 32).2 then ex X d 139 52 [.ref 29, .int x1, .int (x1 - x1 / 16 * 16)] [.int (S.1 32 ((x1 - 16)).toNatClampNeg)] (hh S) n else none := rfl
theorem B_139_50 {X : Nat × (Nat → Int32)} {d : Nat} (n : Nat) (x1 : Int32) (S : St) : ex X d 139 52 [.ref 29, .int x1, .int (x1 - x1 / 16 * 16)] [.int (S.1 32 ((x1 - 16)).toNatClampNeg)] (hh S) (n + 1) = if (S.1 32 ((x1 - 16)).toNatClampNeg) = 0 then ex X d 139 55 [.ref 29, .int x1, .int (x1 - x1 / 16 * 16)] [] (hh S) n else ex X d 139 74 [.ref 29, .int x1, .int (x1 - x1 / 16 * 16)] [] (hh S) n := rfl
theorem B_139_51 {X : Nat × (Nat → Int32)} {d : Nat} (n : Nat) (x1 : Int32) (S : St) : ex X d 139 55 [.ref 29, .int x1, .int (x1 - x1 / 16 * 16)] [] (hh S) (n + 3) = if 176 ≤ x1 then ex X d 139 78 [.ref 29, .int x1, .int (x1 - x1 / 16 * 16)] [] (hh S) n else ex X d 139 62 [.ref 29, .int x1, .int (x1 - x1 / 16 * 16)] [] (hh S) n := rfl
theorem B_139_52 {X : Nat × (Nat → Int32)} {d : Nat} (n : Nat) (x1 : Int32) (S : St) : ex X d 139 55 [.ref 29, .int x1, .int (x1 - x1 / 16 * 16)] [] (hh S) (n + 3) = if 176 ≤ x1 then ex X d 139 78 [.ref 29, .int x1, .int (x1 - x1 / 16 * 16)] [] (hh S) n else ex X d 139 62 [.ref 29, .int x1, .int (x1 - x1 / 16 * 16)] [] (hh S) n := rfl
theorem B_139_53 {X : Nat × (Nat → Int32)} {d : Nat} (n : Nat) (x1 : Int32) (S : St) : ex X d 139 62 [.ref 29, .int x1, .int (x1 - x1 / 16 * 16)] [] (hh S) (n + 6) = if (kd 32).1 = 1 ∧ xa_in (x1 + 16) (kd 32).2 then ex X d 139 71 [.ref 29, .int x1, .int (x1 - x1 / 16 * 16)] [.int (S.1 32 ((x1 + 16)).toNatClampNeg)] (hh S) n else none := rfl
theorem B_139_54 {X : Nat × (Nat → Int32)} {d : Nat} (n : Nat) (x1 : Int32) (S : St) : ex X d 139 71 [.ref 29, .int x1, .int (x1 - x1 / 16 * 16)] [.int (S.1 32 ((x1 + 16)).toNatClampNeg)] (hh S) (n + 1) = if (S.1 32 ((x1 + 16)).toNatClampNeg) = 0 then ex X d 139 78 [.ref 29, .int x1, .int (x1 - x1 / 16 * 16)] [] (hh S) n else ex X d 139 74 [.ref 29, .int x1, .int (x1 - x1 / 16 * 16)] [] (hh S) n := rfl
theorem B_139_55 {X : Nat × (Nat → Int32)} {d : Nat} (n : Nat) (x1 : Int32) (S : St) : ex X d 139 71 [.ref 29, .int x1, .int (x1 - x1 / 16 * 16)] [.int (S.1 32 ((x1 + 16)).toNatClampNeg)] (hh S) (n + 1) = if (S.1 32 ((x1 + 16)).toNatClampNeg) = 0 then ex X d 139 78 [.ref 29, .int x1, .int (x1 - x1 / 16 * 16)] [] (hh S) n else ex X d 139 74 [.ref 29, .int x1, .int (x1 - x1 / 16 * 16)] [] (hh S) n := rfl
theorem B_139_56 {X : Nat × (Nat → Int32)} {d : Nat} (n : Nat) (x1 : Int32) (S : St) : ex X d 139 52 [.ref 29, .int x1, .int (x1 - x1 / 16 * 16)] [.int (S.1 32 ((x1 - 16)).toNatClampNeg)] (hh S) (n + 1) = if (S.1 32 ((x1 - 16)).toNatClampNeg) = 0 then ex X d 139 55 [.ref 29, .int x1, .int (x1 - x1 / 16 * 16)] [] (hh S) n else ex X d 139 74 [.ref 29, .int x1, .int (x1 - x1 / 16 * 16)] [] (hh S) n := rfl
theorem B_139_57 {X : Nat × (Nat → Int32)} {d : Nat} (n : Nat) (x1 : Int32) (S : St) : ex X d 139 20 [.ref 29, .int x1, .int (x1 - x1 / 16 * 16)] [] (hh S) (n + 3) = if 15 ≤ (x1 - x1 / 16 * 16) then ex X d 139 37 [.ref 29, .int x1, .int (x1 - x1 / 16 * 16)] [] (hh S) n else ex X d 139 26 [.ref 29, .int x1, .int (x1 - x1 / 16 * 16)] [] (hh S) n := rfl
theorem B_139_58 {X : Nat × (Nat → Int32)} {d : Nat} (n : Nat) (x1 : Int32) (S : St) : ex X d 139 26 [.ref 29, .int x1, .int (x1 - x1 / 16 * 16)] [] (hh S) (n + 6) = if (kd 32).1 = 1 ∧ xa_in (x1 + 1) (kd 32).2 then ex X d 139 34 [.ref 29, .int x1, .int (x1 - x1 / 16 * 16)] [.int (S.1 32 ((x1 + 1)).toNatClampNeg)] (hh S) n else none := rfl
theorem B_139_59 {X : Nat × (Nat → Int32)} {d : Nat} (n : Nat) (x1 : Int32) (S : St) : ex X d 139 34 [.ref 29, .int x1, .int (x1 - x1 / 16 * 16)] [.int (S.1 32 ((x1 + 1)).toNatClampNeg)] (hh S) (n + 1) = if (S.1 32 ((x1 + 1)).toNatClampNeg) = 0 then ex X d 139 37 [.ref 29, .int x1, .int (x1 - x1 / 16 * 16)] [] (hh S) n else ex X d 139 74 [.ref 29, .int x1, .int (x1 - x1 / 16 * 16)] [] (hh S) n := rfl
theorem B_139_60 {X : Nat × (Nat → Int32)} {d : Nat} (n : Nat) (x1 : Int32) (S : St) : ex X d 139 37 [.ref 29, .int x1, .int (x1 - x1 / 16 * 16)] [] (hh S) (n + 3) = if x1 < 16 then ex X d 139 55 [.ref 29, .int x1, .int (x1 - x1 / 16 * 16)] [] (hh S) n else ex X d 139 43 [.ref 29, .int x1, .int (x1 - x1 / 16 * 16)] [] (hh S) n := rfl
theorem B_139_61 {X : Nat × (Nat → Int32)} {d : Nat} (n : Nat) (x1 : Int32) (S : St) : ex X d 139 55 [.ref 29, .int x1, .int (x1 - x1 / 16 * 16)] [] (hh S) (n + 3) = if 176 ≤ x1 then ex X d 139 78 [.ref 29, .int x1, .int (x1 - x1 / 16 * 16)] [] (hh S) n else ex X d 139 62 [.ref 29, .int x1, .int (x1 - x1 / 16 * 16)] [] (hh S) n := rfl
theorem B_139_62 {X : Nat × (Nat → Int32)} {d : Nat} (n : Nat) (x1 : Int32) (S : St) : ex X d 139 55 [.ref 29, .int x1, .int (x1 - x1 / 16 * 16)] [] (hh S) (n + 3) = if 176 ≤ x1 then ex X d 139 78 [.ref 29, .int x1, .int (x1 - x1 / 16 * 16)] [] (hh S) n else ex X d 139 62 [.ref 29, .int x1, .int (x1 - x1 / 16 * 16)] [] (hh S) n := rfl
theorem B_139_63 {X : Nat × (Nat → Int32)} {d : Nat} (n : Nat) (x1 : Int32) (S : St) : ex X d 139 62 [.ref 29, .int x1, .int (x1 - x1 / 16 * 16)] [] (hh S) (n + 6) = if (kd 32).1 = 1 ∧ xa_in (x1 + 16) (kd 32).2 then ex X d 139 71 [.ref 29, .int x1, .int (x1 - x1 / 16 * 16)] [.int (S.1 32 ((x1 + 16)).toNatClampNeg)] (hh S) n else none := rfl
theorem B_139_64 {X : Nat × (Nat → Int32)} {d : Nat} (n : Nat) (x1 : Int32) (S : St) : ex X d 139 71 [.ref 29, .int x1, .int (x1 - x1 / 16 * 16)] [.int (S.1 32 ((x1 + 16)).toNatClampNeg)] (hh S) (n + 1) = if (S.1 32 ((x1 + 16)).toNatClampNeg) = 0 then ex X d 139 78 [.ref 29, .int x1, .int (x1 - x1 / 16 * 16)] [] (hh S) n else ex X d 139 74 [.ref 29, .int x1, .int (x1 - x1 / 16 * 16)] [] (hh S) n := rfl
theorem B_139_65 {X : Nat × (Nat → Int32)} {d : Nat} (n : Nat) (x1 : Int32) (S : St) : ex X d 139 71 [.ref 29, .int x1, .int (x1 - x1 / 16 * 16)] [.int (S.1 32 ((x1 + 16)).toNatClampNeg)] (hh S) (n + 1) = if (S.1 32 ((x1 + 16)).toNatClampNeg) = 0 then ex X d 139 78 [.ref 29, .int x1, .int (x1 - x1 / 16 * 16)] [] (hh S) n else ex X d 139 74 [.ref 29, .int x1, .int (x1 - x1 / 16 * 16)] [] (hh S) n := rfl
theorem B_139_66 {X : Nat × (Nat → Int32)} {d : Nat} (n : Nat) (x1 : Int32) (S : St) : ex X d 139 37 [.ref 29, .int x1, .int (x1 - x1 / 16 * 16)] [] (hh S) (n + 3) = if x1 < 16 then ex X d 139 55 [.ref 29, .int x1, .int (x1 - x1 / 16 * 16)] [] (hh S) n else ex X d 139 43 [.ref 29, .int x1, .int (x1 - x1 / 16 * 16)] [] (hh S) n := rfl
theorem B_139_67 {X : Nat × (Nat → Int32)} {d : Nat} (n : Nat) (x1 : Int32) (S : St) : ex X d 139 43 [.ref 29, .int x1, .int (x1 - x1 / 16 * 16)] [] (hh S) (n + 6) = if (kd 32).1 = 1 ∧ xa_in (x1 - 16) (kd 32).2 then ex X d 139 52 [.ref 29, .int x1, .int (x1 - x1 / 16 * 16)] [.int (S.1 32 ((x1 - 16)).toNatClampNeg)] (hh S) n else none := rfl
theorem B_139_68 {X : Nat × (Nat → Int32)} {d : Nat} (n : Nat) (x1 : Int32) (S : St) : ex X d 139 52 [.ref 29, .int x1, .int (x1 - x1 / 16 * 16)] [.int (S.1 32 ((x1 - 16)).toNatClampNeg)] (hh S) (n + 1) = if (S.1 32 ((x1 - 16)).toNatClampNeg) = 0 then ex X d 139 55 [.ref 29, .int x1, .int (x1 - x1 / 16 * 16)] [] (hh S) n else ex X d 139 74 [.ref 29, .int x1, .int (x1 - x1 / 16 * 16)] [] (hh S) n := rfl
theorem B_139_69 {X : Nat × (Nat → Int32)} {d : Nat} (n : Nat) (x1 : Int32) (S : St) : ex X d 139 55 [.ref 29, .int x1, .int (x1 - x1 / 16 * 16)] [] (hh S) (n + 3) = if 176 ≤ x1 then ex X d 139 78 [.ref 29, .int x1, .int (x1 - x1 / 16 * 16)] [] (hh S) n else ex X d 139 62 [.ref 29, .int x1, .int (x1 - x1 / 16 * 16)] [] (hh S) n := rfl
theorem B_139_70 {X : Nat × (Nat → Int32)} {d : Nat} (n : Nat) (x1 : Int32) (S : St) : ex X d 139 55 [.ref 29, .int x1, .int (x1 - x1 / 16 * 16)] [] (hh S) (n + 3) = if 176 ≤ x1 then ex X d 139 78 [.ref 29, .int x1, .int (x1 - x1 / 16 * 16)] [] (hh S) n else ex X d 139 62 [.ref 29, .int x1, .int (x1 - x1 / 16 * 16)] [] (hh S) n := rfl
theorem B_139_71 {X : Nat × (Nat → Int32)} {d : Nat} (n : Nat) (x1 : Int32) (S : St) : ex X d 139 62 [.ref 29, .int x1, .int (x1 - x1 / 16 * 16)] [] (hh S) (n + 6) = if (kd 32).1 = 1 ∧ xa_in (x1 + 16) (kd 32).2 then ex X d 139 71 [.ref 29, .int x1, .int (x1 - x1 / 16 * 16)] [.int (S.1 32 ((x1 + 16)).toNatClampNeg)] (hh S) n else none := rfl
theorem B_139_72 {X : Nat × (Nat → Int32)} {d : Nat} (n : Nat) (x1 : Int32) (S : St) : ex X d 139 71 [.ref 29, .int x1, .int (x1 - x1 / 16 * 16)] [.int (S.1 32 ((x1 + 16)).toNatClampNeg)] (hh S) (n + 1) = if (S.1 32 ((x1 + 16)).toNatClampNeg) = 0 then ex X d 139 78 [.ref 29, .int x1, .int (x1 - x1 / 16 * 16)] [] (hh S) n else ex X d 139 74 [.ref 29, .int x1, .int (x1 - x1 / 16 * 16)] [] (hh S) n := rfl
theorem B_139_73 {X : Nat × (Nat → Int32)} {d : Nat} (n : Nat) (x1 : Int32) (S : St) : ex X d 139 71 [.ref 29, .int x1, .int (x1 - x1 / 16 * 16)] [.int (S.1 32 ((x1 + 16)).toNatClampNeg)] (hh S) (n + 1) = if (S.1 32 ((x1 + 16)).toNatClampNeg) = 0 then ex X d 139 78 [.ref 29, .int x1, .int (x1 - x1 / 16 * 16)] [] (hh S) n else ex X d 139 74 [.ref 29, .int x1, .int (x1 - x1 / 16 * 16)] [] (hh S) n := rfl
theorem B_139_74 {X : Nat × (Nat → Int32)} {d : Nat} (n : Nat) (x1 : Int32) (S : St) : ex X d 139 52 [.ref 29, .int x1, .int (x1 - x1 / 16 * 16)] [.int (S.1 32 ((x1 - 16)).toNatClampNeg)] (hh S) (n + 1) = if (S.1 32 ((x1 - 16)).toNatClampNeg) = 0 then ex X d 139 55 [.ref 29, .int x1, .int (x1 - x1 / 16 * 16)] [] (hh S) n else ex X d 139 74 [.ref 29, .int x1, .int (x1 - x1 / 16 * 16)] [] (hh S) n := rfl
theorem B_139_75 {X : Nat × (Nat → Int32)} {d : Nat} (n : Nat) (x1 : Int32) (S : St) : ex X d 139 34 [.ref 29, .int x1, .int (x1 - x1 / 16 * 16)] [.int (S.1 32 ((x1 + 1)).toNatClampNeg)] (hh S) (n + 1) = if (S.1 32 ((x1 + 1)).toNatClampNeg) = 0 then ex X d 139 37 [.ref 29, .int x1, .int (x1 - x1 / 16 * 16)] [] (hh S) n else ex X d 139 74 [.ref 29, .int x1, .int (x1 - x1 / 16 * 16)] [] (hh S) n := rfl
theorem B_139_76 {X : Nat × (Nat → Int32)} {d : Nat} (n : Nat) (x1 : Int32) (S : St) : ex X d 139 17 [.ref 29, .int x1, .int (x1 - x1 / 16 * 16)] [.int (S.1 32 ((x1 - 1)).toNatClampNeg)] (hh S) (n + 1) = if (S.1 32 ((x1 - 1)).toNatClampNeg) = 0 then ex X d 139 20 [.ref 29, .int x1, .int (x1 - x1 / 16 * 16)] [] (hh S) n else ex X d 139 74 [.ref 29, .int x1, .int (x1 - x1 / 16 * 16)] [] (hh S) n := rfl
set_option maxRecDepth 200000 in
theorem T_139 {X : Nat × (Nat → Int32)} (S : St) (x1 : Int32) (r : Int32) (S' : St) (hG : G_139 S x1 = some (r, S')) : Ev X 0 139 0 [.ref 29, .int x1, .retAddr 0] [] (hh S) (xI r, hh S') := by
  unfold G_139 at hG
  refine Ev.z (c := (16 : Int32) = 0) (p1 := 4) (L1 := [.ref 29, .int x1, .retAddr 0]) (s1 := [.int (x1 - x1 / 16 * 16)]) (h1 := hh S) 3 (fun n => B_139_1 n x1 S) (by decide) ?_
  by_cases c1 : (x1 - x1 / 16 * 16) ≤ 0
  · rw [if_pos c1] at hG
    refine Ev.t (c := (x1 - x1 / 16 * 16) ≤ 0) (p1 := 20) (L1 := [.ref 29, .int x1, .int (x1 - x1 / 16 * 16)]) (s1 := []) (h1 := hh S) (p2 := 9) (L2 := [.ref 29, .int x1, .int (x1 - x1 / 16 * 16)]) (s2 := []) (h2 := hh S) 3 (fun n => B_139_2 n x1 S) c1 ?_
    by_cases c2 : 15 ≤ (x1 - x1 / 16 * 16)
    · rw [if_pos c2] at hG
      refine Ev.t (c := 15 ≤ (x1 - x1 / 16 * 16)) (p1 := 37) (L1 := [.ref 29, .int x1, .int (x1 - x1 / 16 * 16)]) (s1 := []) (h1 := hh S) (p2 := 26) (L2 := [.ref 29, .int x1, .int (x1 - x1 / 16 * 16)]) (s2 := []) (h2 := hh S) 3 (fun n => B_139_3 n x1 S) c2 ?_
      by_cases c3 : x1 < 16
      · rw [if_pos c3] at hG
        refine Ev.t (c := x1 < 16) (p1 := 55) (L1 := [.ref 29, .int x1, .int (x1 - x1 / 16 * 16)]) (s1 := []) (h1 := hh S) (p2 := 43) (L2 := [.ref 29, .int x1, .int (x1 - x1 / 16 * 16)]) (s2 := []) (h2 := hh S) 3 (fun n => B_139_4 n x1 S) c3 ?_
        by_cases c4 : 176 ≤ x1
        · rw [if_pos c4] at hG
          refine Ev.t (c := 176 ≤ x1) (p1 := 78) (L1 := [.ref 29, .int x1, .int (x1 - x1 / 16 * 16)]) (s1 := []) (h1 := hh S) (p2 := 62) (L2 := [.ref 29, .int x1, .int (x1 - x1 / 16 * 16)]) (s2 := []) (h2 := hh S) 3 (fun n => B_139_5 n x1 S) c4 ?_
          obtain ⟨e1, e2⟩ := Prod.mk.inj (Option.some.inj hG)
          subst e1
          subst e2
          exact Ev.rg (c := (xm_z 139 = 0 ∨ (xm_z 139 = 1 ∧ ((0 : Int32) = 0 ∨ (0 : Int32) = 1)) ∨ (xm_z 139 = 2 ∧ ((0 : Int32)).toInt8.toInt32 = (0 : Int32)) ∨ (xm_z 139 = 3 ∧ ((0 : Int32)).toUInt32.toUInt16.toUInt32.toInt32 = (0 : Int32)))) 2 (fun n => rfl) (Or.inr (Or.inl ⟨rfl, by decide⟩))
        · rw [if_neg c4] at hG
          refine Ev.f (c := 176 ≤ x1) (p1 := 78) (L1 := [.ref 29, .int x1, .int (x1 - x1 / 16 * 16)]) (s1 := []) (h1 := hh S) (p2 := 62) (L2 := [.ref 29, .int x1, .int (x1 - x1 / 16 * 16)]) (s2 := []) (h2 := hh S) 3 (fun n => B_139_6 n x1 S) c4 ?_
          by_cases g5 : xa_in (x1 + 16) 192
          rotate_left
          · rw [if_neg g5] at hG; cases hG
          rw [if_pos g5] at hG
          refine Ev.g (c := (kd 32).1 = 1 ∧ xa_in (x1 + 16) (kd 32).2) (p1 := 71) (L1 := [.ref 29, .int x1, .int (x1 - x1 / 16 * 16)]) (s1 := [.int (S.1 32 ((x1 + 16)).toNatClampNeg)]) (h1 := hh S) 6 (fun n => B_139_7 n x1 S) (⟨rfl, g5⟩) ?_
          by_cases c6 : (S.1 32 ((x1 + 16)).toNatClampNeg) = 0
          · rw [if_pos c6] at hG
            refine Ev.t (c := (S.1 32 ((x1 + 16)).toNatClampNeg) = 0) (p1 := 78) (L1 := [.ref 29, .int x1, .int (x1 - x1 / 16 * 16)]) (s1 := []) (h1 := hh S) (p2 := 74) (L2 := [.ref 29, .int x1, .int (x1 - x1 / 16 * 16)]) (s2 := []) (h2 := hh S) 1 (fun n => B_139_8 n x1 S) c6 ?_
            obtain ⟨e1, e2⟩ := Prod.mk.inj (Option.some.inj hG)
            subst e1
            subst e2
            exact Ev.rg (c := (xm_z 139 = 0 ∨ (xm_z 139 = 1 ∧ ((0 : Int32) = 0 ∨ (0 : Int32) = 1)) ∨ (xm_z 139 = 2 ∧ ((0 : Int32)).toInt8.toInt32 = (0 : Int32)) ∨ (xm_z 139 = 3 ∧ ((0 : Int32)).toUInt32.toUInt16.toUInt32.toInt32 = (0 : Int32)))) 2 (fun n => rfl) (Or.inr (Or.inl ⟨rfl, by decide⟩))
          · rw [if_neg c6] at hG
            refine Ev.f (c := (S.1 32 ((x1 + 16)).toNatClampNeg) = 0) (p1 := 78) (L1 := [.ref 29, .int x1, .int (x1 - x1 / 16 * 16)]) (s1 := []) (h1 := hh S) (p2 := 74) (L2 := [.ref 29, .int x1, .int (x1 - x1 / 16 * 16)]) (s2 := []) (h2 := hh S) 1 (fun n => B_139_9 n x1 S) c6 ?_
            obtain ⟨e1, e2⟩ := Prod.mk.inj (Option.some.inj hG)
            subst e1
            subst e2
            exact Ev.rg (c := (xm_z 139 = 0 ∨ (xm_z 139 = 1 ∧ ((1 : Int32) = 0 ∨ (1 : Int32) = 1)) ∨ (xm_z 139 = 2 ∧ ((1 : Int32)).toInt8.toInt32 = (1 : Int32)) ∨ (xm_z 139 = 3 ∧ ((1 : Int32)).toUInt32.toUInt16.toUInt32.toInt32 = (1 : Int32)))) 3 (fun n => rfl) (Or.inr (Or.inl ⟨rfl, by decide⟩))
      · rw [if_neg c3] at hG
        refine Ev.f (c := x1 < 16) (p1 := 55) (L1 := [.ref 29, .int x1, .int (x1 - x1 / 16 * 16)]) (s1 := []) (h1 := hh S) (p2 := 43) (L2 := [.ref 29, .int x1, .int (x1 - x1 / 16 * 16)]) (s2 := []) (h2 := hh S) 3 (fun n => B_139_10 n x1 S) c3 ?_
        by_cases g7 : xa_in (x1 - 16) 192
        rotate_left
        · rw [if_neg g7] at hG; cases hG
        rw [if_pos g7] at hG
        refine Ev.g (c := (kd 32).1 = 1 ∧ xa_in (x1 - 16) (kd 32).2) (p1 := 52) (L1 := [.ref 29, .int x1, .int (x1 - x1 / 16 * 16)]) (s1 := [.int (S.1 32 ((x1 - 16)).toNatClampNeg)]) (h1 := hh S) 6 (fun n => B_139_11 n x1 S) (⟨rfl, g7⟩) ?_
        by_cases c8 : (S.1 32 ((x1 - 16)).toNatClampNeg) = 0
        · rw [if_pos c8] at hG
          refine Ev.t (c := (S.1 32 ((x1 - 16)).toNatClampNeg) = 0) (p1 := 55) (L1 := [.ref 29, .int x1, .int (x1 - x1 / 16 * 16)]) (s1 := []) (h1 := hh S) (p2 := 74) (L2 := [.ref 29, .int x1, .int (x1 - x1 / 16 * 16)]) (s2 := []) (h2 := hh S) 1 (fun n => B_139_12 n x1 S) c8 ?_
          by_cases c9 : 176 ≤ x1
          · rw [if_pos c9] at hG
            refine Ev.t (c := 176 ≤ x1) (p1 := 78) (L1 := [.ref 29, .int x1, .int (x1 - x1 / 16 * 16)]) (s1 := []) (h1 := hh S) (p2 := 62) (L2 := [.ref 29, .int x1, .int (x1 - x1 / 16 * 16)]) (s2 := []) (h2 := hh S) 3 (fun n => B_139_13 n x1 S) c9 ?_
            obtain ⟨e1, e2⟩ := Prod.mk.inj (Option.some.inj hG)
            subst e1
            subst e2
            exact Ev.rg (c := (xm_z 139 = 0 ∨ (xm_z 139 = 1 ∧ ((0 : Int32) = 0 ∨ (0 : Int32) = 1)) ∨ (xm_z 139 = 2 ∧ ((0 : Int32)).toInt8.toInt32 = (0 : Int32)) ∨ (xm_z 139 = 3 ∧ ((0 : Int32)).toUInt32.toUInt16.toUInt32.toInt32 = (0 : Int32)))) 2 (fun n => rfl) (Or.inr (Or.inl ⟨rfl, by decide⟩))
          · rw [if_neg c9] at hG
            refine Ev.f (c := 176 ≤ x1) (p1 := 78) (L1 := [.ref 29, .int x1, .int (x1 - x1 / 16 * 16)]) (s1 := []) (h1 := hh S) (p2 := 62) (L2 := [.ref 29, .int x1, .int (x1 - x1 / 16 * 16)]) (s2 := []) (h2 := hh S) 3 (fun n => B_139_14 n x1 S) c9 ?_
            by_cases g10 : xa_in (x1 + 16) 192
            rotate_left
            · rw [if_neg g10] at hG; cases hG
            rw [if_pos g10] at hG
            refine Ev.g (c := (kd 32).1 = 1 ∧ xa_in (x1 + 16) (kd 32).2) (p1 := 71) (L1 := [.ref 29, .int x1, .int (x1 - x1 / 16 * 16)]) (s1 := [.int (S.1 32 ((x1 + 16)).toNatClampNeg)]) (h1 := hh S) 6 (fun n => B_139_15 n x1 S) (⟨rfl, g10⟩) ?_
            by_cases c11 : (S.1 32 ((x1 + 16)).toNatClampNeg) = 0
            · rw [if_pos c11] at hG
              refine Ev.t (c := (S.1 32 ((x1 + 16)).toNatClampNeg) = 0) (p1 := 78) (L1 := [.ref 29, .int x1, .int (x1 - x1 / 16 * 16)]) (s1 := []) (h1 := hh S) (p2 := 74) (L2 := [.ref 29, .int x1, .int (x1 - x1 / 16 * 16)]) (s2 := []) (h2 := hh S) 1 (fun n => B_139_16 n x1 S) c11 ?_
              obtain ⟨e1, e2⟩ := Prod.mk.inj (Option.some.inj hG)
              subst e1
              subst e2
              exact Ev.rg (c := (xm_z 139 = 0 ∨ (xm_z 139 = 1 ∧ ((0 : Int32) = 0 ∨ (0 : Int32) = 1)) ∨ (xm_z 139 = 2 ∧ ((0 : Int32)).toInt8.toInt32 = (0 : Int32)) ∨ (xm_z 139 = 3 ∧ ((0 : Int32)).toUInt32.toUInt16.toUInt32.toInt32 = (0 : Int32)))) 2 (fun n => rfl) (Or.inr (Or.inl ⟨rfl, by decide⟩))
            · rw [if_neg c11] at hG
              refine Ev.f (c := (S.1 32 ((x1 + 16)).toNatClampNeg) = 0) (p1 := 78) (L1 := [.ref 29, .int x1, .int (x1 - x1 / 16 * 16)]) (s1 := []) (h1 := hh S) (p2 := 74) (L2 := [.ref 29, .int x1, .int (x1 - x1 / 16 * 16)]) (s2 := []) (h2 := hh S) 1 (fun n => B_139_17 n x1 S) c11 ?_
              obtain ⟨e1, e2⟩ := Prod.mk.inj (Option.some.inj hG)
              subst e1
              subst e2
              exact Ev.rg (c := (xm_z 139 = 0 ∨ (xm_z 139 = 1 ∧ ((1 : Int32) = 0 ∨ (1 : Int32) = 1)) ∨ (xm_z 139 = 2 ∧ ((1 : Int32)).toInt8.toInt32 = (1 : Int32)) ∨ (xm_z 139 = 3 ∧ ((1 : Int32)).toUInt32.toUInt16.toUInt32.toInt32 = (1 : Int32)))) 3 (fun n => rfl) (Or.inr (Or.inl ⟨rfl, by decide⟩))
        · rw [if_neg c8] at hG
          refine Ev.f (c := (S.1 32 ((x1 - 16)).toNatClampNeg) = 0) (p1 := 55) (L1 := [.ref 29, .int x1, .int (x1 - x1 / 16 * 16)]) (s1 := []) (h1 := hh S) (p2 := 74) (L2 := [.ref 29, .int x1, .int (x1 - x1 / 16 * 16)]) (s2 := []) (h2 := hh S) 1 (fun n => B_139_18 n x1 S) c8 ?_
          obtain ⟨e1, e2⟩ := Prod.mk.inj (Option.some.inj hG)
          subst e1
          subst e2
          exact Ev.rg (c := (xm_z 139 = 0 ∨ (xm_z 139 = 1 ∧ ((1 : Int32) = 0 ∨ (1 : Int32) = 1)) ∨ (xm_z 139 = 2 ∧ ((1 : Int32)).toInt8.toInt32 = (1 : Int32)) ∨ (xm_z 139 = 3 ∧ ((1 : Int32)).toUInt32.toUInt16.toUInt32.toInt32 = (1 : Int32)))) 3 (fun n => rfl) (Or.inr (Or.inl ⟨rfl, by decide⟩))
    · rw [if_neg c2] at hG
      refine Ev.f (c := 15 ≤ (x1 - x1 / 16 * 16)) (p1 := 37) (L1 := [.ref 29, .int x1, .int (x1 - x1 / 16 * 16)]) (s1 := []) (h1 := hh S) (p2 := 26) (L2 := [.ref 29, .int x1, .int (x1 - x1 / 16 * 16)]) (s2 := []) (h2 := hh S) 3 (fun n => B_139_19 n x1 S) c2 ?_
      by_cases g12 : xa_in (x1 + 1) 192
      rotate_left
      · rw [if_neg g12] at hG; cases hG
      rw [if_pos g12] at hG
      refine Ev.g (c := (kd 32).1 = 1 ∧ xa_in (x1 + 1) (kd 32).2) (p1 := 34) (L1 := [.ref 29, .int x1, .int (x1 - x1 / 16 * 16)]) (s1 := [.int (S.1 32 ((x1 + 1)).toNatClampNeg)]) (h1 := hh S) 6 (fun n => B_139_20 n x1 S) (⟨rfl, g12⟩) ?_
      by_cases c13 : (S.1 32 ((x1 + 1)).toNatClampNeg) = 0
      · rw [if_pos c13] at hG
        refine Ev.t (c := (S.1 32 ((x1 + 1)).toNatClampNeg) = 0) (p1 := 37) (L1 := [.ref 29, .int x1, .int (x1 - x1 / 16 * 16)]) (s1 := []) (h1 := hh S) (p2 := 74) (L2 := [.ref 29, .int x1, .int (x1 - x1 / 16 * 16)]) (s2 := []) (h2 := hh S) 1 (fun n => B_139_21 n x1 S) c13 ?_
        by_cases c14 : x1 < 16
        · rw [if_pos c14] at hG
          refine Ev.t (c := x1 < 16) (p1 := 55) (L1 := [.ref 29, .int x1, .int (x1 - x1 / 16 * 16)]) (s1 := []) (h1 := hh S) (p2 := 43) (L2 := [.ref 29, .int x1, .int (x1 - x1 / 16 * 16)]) (s2 := []) (h2 := hh S) 3 (fun n => B_139_22 n x1 S) c14 ?_
          by_cases c15 : 176 ≤ x1
          · rw [if_pos c15] at hG
            refine Ev.t (c := 176 ≤ x1) (p1 := 78) (L1 := [.ref 29, .int x1, .int (x1 - x1 / 16 * 16)]) (s1 := []) (h1 := hh S) (p2 := 62) (L2 := [.ref 29, .int x1, .int (x1 - x1 / 16 * 16)]) (s2 := []) (h2 := hh S) 3 (fun n => B_139_23 n x1 S) c15 ?_
            obtain ⟨e1, e2⟩ := Prod.mk.inj (Option.some.inj hG)
            subst e1
            subst e2
            exact Ev.rg (c := (xm_z 139 = 0 ∨ (xm_z 139 = 1 ∧ ((0 : Int32) = 0 ∨ (0 : Int32) = 1)) ∨ (xm_z 139 = 2 ∧ ((0 : Int32)).toInt8.toInt32 = (0 : Int32)) ∨ (xm_z 139 = 3 ∧ ((0 : Int32)).toUInt32.toUInt16.toUInt32.toInt32 = (0 : Int32)))) 2 (fun n => rfl) (Or.inr (Or.inl ⟨rfl, by decide⟩))
          · rw [if_neg c15] at hG
            refine Ev.f (c := 176 ≤ x1) (p1 := 78) (L1 := [.ref 29, .int x1, .int (x1 - x1 / 16 * 16)]) (s1 := []) (h1 := hh S) (p2 := 62) (L2 := [.ref 29, .int x1, .int (x1 - x1 / 16 * 16)]) (s2 := []) (h2 := hh S) 3 (fun n => B_139_24 n x1 S) c15 ?_
            by_cases g16 : xa_in (x1 + 16) 192
            rotate_left
            · rw [if_neg g16] at hG; cases hG
            rw [if_pos g16] at hG
            refine Ev.g (c := (kd 32).1 = 1 ∧ xa_in (x1 + 16) (kd 32).2) (p1 := 71) (L1 := [.ref 29, .int x1, .int (x1 - x1 / 16 * 16)]) (s1 := [.int (S.1 32 ((x1 + 16)).toNatClampNeg)]) (h1 := hh S) 6 (fun n => B_139_25 n x1 S) (⟨rfl, g16⟩) ?_
            by_cases c17 : (S.1 32 ((x1 + 16)).toNatClampNeg) = 0
            · rw [if_pos c17] at hG
              refine Ev.t (c := (S.1 32 ((x1 + 16)).toNatClampNeg) = 0) (p1 := 78) (L1 := [.ref 29, .int x1, .int (x1 - x1 / 16 * 16)]) (s1 := []) (h1 := hh S) (p2 := 74) (L2 := [.ref 29, .int x1, .int (x1 - x1 / 16 * 16)]) (s2 := []) (h2 := hh S) 1 (fun n => B_139_26 n x1 S) c17 ?_
              obtain ⟨e1, e2⟩ := Prod.mk.inj (Option.some.inj hG)
              subst e1
              subst e2
              exact Ev.rg (c := (xm_z 139 = 0 ∨ (xm_z 139 = 1 ∧ ((0 : Int32) = 0 ∨ (0 : Int32) = 1)) ∨ (xm_z 139 = 2 ∧ ((0 : Int32)).toInt8.toInt32 = (0 : Int32)) ∨ (xm_z 139 = 3 ∧ ((0 : Int32)).toUInt32.toUInt16.toUInt32.toInt32 = (0 : Int32)))) 2 (fun n => rfl) (Or.inr (Or.inl ⟨rfl, by decide⟩))
            · rw [if_neg c17] at hG
              refine Ev.f (c := (S.1 32 ((x1 + 16)).toNatClampNeg) = 0) (p1 := 78) (L1 := [.ref 29, .int x1, .int (x1 - x1 / 16 * 16)]) (s1 := []) (h1 := hh S) (p2 := 74) (L2 := [.ref 29, .int x1, .int (x1 - x1 / 16 * 16)]) (s2 := []) (h2 := hh S) 1 (fun n => B_139_27 n x1 S) c17 ?_
              obtain ⟨e1, e2⟩ := Prod.mk.inj (Option.some.inj hG)
              subst e1
              subst e2
              exact Ev.rg (c := (xm_z 139 = 0 ∨ (xm_z 139 = 1 ∧ ((1 : Int32) = 0 ∨ (1 : Int32) = 1)) ∨ (xm_z 139 = 2 ∧ ((1 : Int32)).toInt8.toInt32 = (1 : Int32)) ∨ (xm_z 139 = 3 ∧ ((1 : Int32)).toUInt32.toUInt16.toUInt32.toInt32 = (1 : Int32)))) 3 (fun n => rfl) (Or.inr (Or.inl ⟨rfl, by decide⟩))
        · rw [if_neg c14] at hG
          refine Ev.f (c := x1 < 16) (p1 := 55) (L1 := [.ref 29, .int x1, .int (x1 - x1 / 16 * 16)]) (s1 := []) (h1 := hh S) (p2 := 43) (L2 := [.ref 29, .int x1, .int (x1 - x1 / 16 * 16)]) (s2 := []) (h2 := hh S) 3 (fun n => B_139_28 n x1 S) c14 ?_
          by_cases g18 : xa_in (x1 - 16) 192
          rotate_left
          · rw [if_neg g18] at hG; cases hG
          rw [if_pos g18] at hG
          refine Ev.g (c := (kd 32).1 = 1 ∧ xa_in (x1 - 16) (kd 32).2) (p1 := 52) (L1 := [.ref 29, .int x1, .int (x1 - x1 / 16 * 16)]) (s1 := [.int (S.1 32 ((x1 - 16)).toNatClampNeg)]) (h1 := hh S) 6 (fun n => B_139_29 n x1 S) (⟨rfl, g18⟩) ?_
          by_cases c19 : (S.1 32 ((x1 - 16)).toNatClampNeg) = 0
          · rw [if_pos c19] at hG
            refine Ev.t (c := (S.1 32 ((x1 - 16)).toNatClampNeg) = 0) (p1 := 55) (L1 := [.ref 29, .int x1, .int (x1 - x1 / 16 * 16)]) (s1 := []) (h1 := hh S) (p2 := 74) (L2 := [.ref 29, .int x1, .int (x1 - x1 / 16 * 16)]) (s2 := []) (h2 := hh S) 1 (fun n => B_139_30 n x1 S) c19 ?_
            by_cases c20 : 176 ≤ x1
            · rw [if_pos c20] at hG
              refine Ev.t (c := 176 ≤ x1) (p1 := 78) (L1 := [.ref 29, .int x1, .int (x1 - x1 / 16 * 16)]) (s1 := []) (h1 := hh S) (p2 := 62) (L2 := [.ref 29, .int x1, .int (x1 - x1 / 16 * 16)]) (s2 := []) (h2 := hh S) 3 (fun n => B_139_31 n x1 S) c20 ?_
              obtain ⟨e1, e2⟩ := Prod.mk.inj (Option.some.inj hG)
              subst e1
              subst e2
              exact Ev.rg (c := (xm_z 139 = 0 ∨ (xm_z 139 = 1 ∧ ((0 : Int32) = 0 ∨ (0 : Int32) = 1)) ∨ (xm_z 139 = 2 ∧ ((0 : Int32)).toInt8.toInt32 = (0 : Int32)) ∨ (xm_z 139 = 3 ∧ ((0 : Int32)).toUInt32.toUInt16.toUInt32.toInt32 = (0 : Int32)))) 2 (fun n => rfl) (Or.inr (Or.inl ⟨rfl, by decide⟩))
            · rw [if_neg c20] at hG
              refine Ev.f (c := 176 ≤ x1) (p1 := 78) (L1 := [.ref 29, .int x1, .int (x1 - x1 / 16 * 16)]) (s1 := []) (h1 := hh S) (p2 := 62) (L2 := [.ref 29, .int x1, .int (x1 - x1 / 16 * 16)]) (s2 := []) (h2 := hh S) 3 (fun n => B_139_32 n x1 S) c20 ?_
              by_cases g21 : xa_in (x1 + 16) 192
              rotate_left
              · rw [if_neg g21] at hG; cases hG
              rw [if_pos g21] at hG
              refine Ev.g (c := (kd 32).1 = 1 ∧ xa_in (x1 + 16) (kd 32).2) (p1 := 71) (L1 := [.ref 29, .int x1, .int (x1 - x1 / 16 * 16)]) (s1 := [.int (S.1 32 ((x1 + 16)).toNatClampNeg)]) (h1 := hh S) 6 (fun n => B_139_33 n x1 S) (⟨rfl, g21⟩) ?_
              by_cases c22 : (S.1 32 ((x1 + 16)).toNatClampNeg) = 0
              · rw [if_pos c22] at hG
                refine Ev.t (c := (S.1 32 ((x1 + 16)).toNatClampNeg) = 0) (p1 := 78) (L1 := [.ref 29, .int x1, .int (x1 - x1 / 16 * 16)]) (s1 := []) (h1 := hh S) (p2 := 74) (L2 := [.ref 29, .int x1, .int (x1 - x1 / 16 * 16)]) (s2 := []) (h2 := hh S) 1 (fun n => B_139_34 n x1 S) c22 ?_
                obtain ⟨e1, e2⟩ := Prod.mk.inj (Option.some.inj hG)
                subst e1
                subst e2
                exact Ev.rg (c := (xm_z 139 = 0 ∨ (xm_z 139 = 1 ∧ ((0 : Int32) = 0 ∨ (0 : Int32) = 1)) ∨ (xm_z 139 = 2 ∧ ((0 : Int32)).toInt8.toInt32 = (0 : Int32)) ∨ (xm_z 139 = 3 ∧ ((0 : Int32)).toUInt32.toUInt16.toUInt32.toInt32 = (0 : Int32)))) 2 (fun n => rfl) (Or.inr (Or.inl ⟨rfl, by decide⟩))
              · rw [if_neg c22] at hG
                refine Ev.f (c := (S.1 32 ((x1 + 16)).toNatClampNeg) = 0) (p1 := 78) (L1 := [.ref 29, .int x1, .int (x1 - x1 / 16 * 16)]) (s1 := []) (h1 := hh S) (p2 := 74) (L2 := [.ref 29, .int x1, .int (x1 - x1 / 16 * 16)]) (s2 := []) (h2 := hh S) 1 (fun n => B_139_35 n x1 S) c22 ?_
                obtain ⟨e1, e2⟩ := Prod.mk.inj (Option.some.inj hG)
                subst e1
                subst e2
                exact Ev.rg (c := (xm_z 139 = 0 ∨ (xm_z 139 = 1 ∧ ((1 : Int32) = 0 ∨ (1 : Int32) = 1)) ∨ (xm_z 139 = 2 ∧ ((1 : Int32)).toInt8.toInt32 = (1 : Int32)) ∨ (xm_z 139 = 3 ∧ ((1 : Int32)).toUInt32.toUInt16.toUInt32.toInt32 = (1 : Int32)))) 3 (fun n => rfl) (Or.inr (Or.inl ⟨rfl, by decide⟩))
          · rw [if_neg c19] at hG
            refine Ev.f (c := (S.1 32 ((x1 - 16)).toNatClampNeg) = 0) (p1 := 55) (L1 := [.ref 29, .int x1, .int (x1 - x1 / 16 * 16)]) (s1 := []) (h1 := hh S) (p2 := 74) (L2 := [.ref 29, .int x1, .int (x1 - x1 / 16 * 16)]) (s2 := []) (h2 := hh S) 1 (fun n => B_139_36 n x1 S) c19 ?_
            obtain ⟨e1, e2⟩ := Prod.mk.inj (Option.some.inj hG)
            subst e1
            subst e2
            exact Ev.rg (c := (xm_z 139 = 0 ∨ (xm_z 139 = 1 ∧ ((1 : Int32) = 0 ∨ (1 : Int32) = 1)) ∨ (xm_z 139 = 2 ∧ ((1 : Int32)).toInt8.toInt32 = (1 : Int32)) ∨ (xm_z 139 = 3 ∧ ((1 : Int32)).toUInt32.toUInt16.toUInt32.toInt32 = (1 : Int32)))) 3 (fun n => rfl) (Or.inr (Or.inl ⟨rfl, by decide⟩))
      · rw [if_neg c13] at hG
        refine Ev.f (c := (S.1 32 ((x1 + 1)).toNatClampNeg) = 0) (p1 := 37) (L1 := [.ref 29, .int x1, .int (x1 - x1 / 16 * 16)]) (s1 := []) (h1 := hh S) (p2 := 74) (L2 := [.ref 29, .int x1, .int (x1 - x1 / 16 * 16)]) (s2 := []) (h2 := hh S) 1 (fun n => B_139_37 n x1 S) c13 ?_
        obtain ⟨e1, e2⟩ := Prod.mk.inj (Option.some.inj hG)
        subst e1
        subst e2
        exact Ev.rg (c := (xm_z 139 = 0 ∨ (xm_z 139 = 1 ∧ ((1 : Int32) = 0 ∨ (1 : Int32) = 1)) ∨ (xm_z 139 = 2 ∧ ((1 : Int32)).toInt8.toInt32 = (1 : Int32)) ∨ (xm_z 139 = 3 ∧ ((1 : Int32)).toUInt32.toUInt16.toUInt32.toInt32 = (1 : Int32)))) 3 (fun n => rfl) (Or.inr (Or.inl ⟨rfl, by decide⟩))
  · rw [if_neg c1] at hG
    refine Ev.f (c := (x1 - x1 / 16 * 16) ≤ 0) (p1 := 20) (L1 := [.ref 29, .int x1, .int (x1 - x1 / 16 * 16)]) (s1 := []) (h1 := hh S) (p2 := 9) (L2 := [.ref 29, .int x1, .int (x1 - x1 / 16 * 16)]) (s2 := []) (h2 := hh S) 3 (fun n => B_139_38 n x1 S) c1 ?_
    by_cases g23 : xa_in (x1 - 1) 192
    rotate_left
    · rw [if_neg g23] at hG; cases hG
    rw [if_pos g23] at hG
    refine Ev.g (c := (kd 32).1 = 1 ∧ xa_in (x1 - 1) (kd 32).2) (p1 := 17) (L1 := [.ref 29, .int x1, .int (x1 - x1 / 16 * 16)]) (s1 := [.int (S.1 32 ((x1 - 1)).toNatClampNeg)]) (h1 := hh S) 6 (fun n => B_139_39 n x1 S) (⟨rfl, g23⟩) ?_
    by_cases c24 : (S.1 32 ((x1 - 1)).toNatClampNeg) = 0
    · rw [if_pos c24] at hG
      refine Ev.t (c := (S.1 32 ((x1 - 1)).toNatClampNeg) = 0) (p1 := 20) (L1 := [.ref 29, .int x1, .int (x1 - x1 / 16 * 16)]) (s1 := []) (h1 := hh S) (p2 := 74) (L2 := [.ref 29, .int x1, .int (x1 - x1 / 16 * 16)]) (s2 := []) (h2 := hh S) 1 (fun n => B_139_40 n x1 S) c24 ?_
      by_cases c25 : 15 ≤ (x1 - x1 / 16 * 16)
      · rw [if_pos c25] at hG
        refine Ev.t (c := 15 ≤ (x1 - x1 / 16 * 16)) (p1 := 37) (L1 := [.ref 29, .int x1, .int (x1 - x1 / 16 * 16)]) (s1 := []) (h1 := hh S) (p2 := 26) (L2 := [.ref 29, .int x1, .int (x1 - x1 / 16 * 16)]) (s2 := []) (h2 := hh S) 3 (fun n => B_139_41 n x1 S) c25 ?_
        by_cases c26 : x1 < 16
        · rw [if_pos c26] at hG
          refine Ev.t (c := x1 < 16) (p1 := 55) (L1 := [.ref 29, .int x1, .int (x1 - x1 / 16 * 16)]) (s1 := []) (h1 := hh S) (p2 := 43) (L2 := [.ref 29, .int x1, .int (x1 - x1 / 16 * 16)]) (s2 := []) (h2 := hh S) 3 (fun n => B_139_42 n x1 S) c26 ?_
          by_cases c27 : 176 ≤ x1
          · rw [if_pos c27] at hG
            refine Ev.t (c := 176 ≤ x1) (p1 := 78) (L1 := [.ref 29, .int x1, .int (x1 - x1 / 16 * 16)]) (s1 := []) (h1 := hh S) (p2 := 62) (L2 := [.ref 29, .int x1, .int (x1 - x1 / 16 * 16)]) (s2 := []) (h2 := hh S) 3 (fun n => B_139_43 n x1 S) c27 ?_
            obtain ⟨e1, e2⟩ := Prod.mk.inj (Option.some.inj hG)
            subst e1
            subst e2
            exact Ev.rg (c := (xm_z 139 = 0 ∨ (xm_z 139 = 1 ∧ ((0 : Int32) = 0 ∨ (0 : Int32) = 1)) ∨ (xm_z 139 = 2 ∧ ((0 : Int32)).toInt8.toInt32 = (0 : Int32)) ∨ (xm_z 139 = 3 ∧ ((0 : Int32)).toUInt32.toUInt16.toUInt32.toInt32 = (0 : Int32)))) 2 (fun n => rfl) (Or.inr (Or.inl ⟨rfl, by decide⟩))
          · rw [if_neg c27] at hG
            refine Ev.f (c := 176 ≤ x1) (p1 := 78) (L1 := [.ref 29, .int x1, .int (x1 - x1 / 16 * 16)]) (s1 := []) (h1 := hh S) (p2 := 62) (L2 := [.ref 29, .int x1, .int (x1 - x1 / 16 * 16)]) (s2 := []) (h2 := hh S) 3 (fun n => B_139_44 n x1 S) c27 ?_
            by_cases g28 : xa_in (x1 + 16) 192
            rotate_left
            · rw [if_neg g28] at hG; cases hG
            rw [if_pos g28] at hG
            refine Ev.g (c := (kd 32).1 = 1 ∧ xa_in (x1 + 16) (kd 32).2) (p1 := 71) (L1 := [.ref 29, .int x1, .int (x1 - x1 / 16 * 16)]) (s1 := [.int (S.1 32 ((x1 + 16)).toNatClampNeg)]) (h1 := hh S) 6 (fun n => B_139_45 n x1 S) (⟨rfl, g28⟩) ?_
            by_cases c29 : (S.1 32 ((x1 + 16)).toNatClampNeg) = 0
            · rw [if_pos c29] at hG
              refine Ev.t (c := (S.1 32 ((x1 + 16)).toNatClampNeg) = 0) (p1 := 78) (L1 := [.ref 29, .int x1, .int (x1 - x1 / 16 * 16)]) (s1 := []) (h1 := hh S) (p2 := 74) (L2 := [.ref 29, .int x1, .int (x1 - x1 / 16 * 16)]) (s2 := []) (h2 := hh S) 1 (fun n => B_139_46 n x1 S) c29 ?_
              obtain ⟨e1, e2⟩ := Prod.mk.inj (Option.some.inj hG)
              subst e1
              subst e2
              exact Ev.rg (c := (xm_z 139 = 0 ∨ (xm_z 139 = 1 ∧ ((0 : Int32) = 0 ∨ (0 : Int32) = 1)) ∨ (xm_z 139 = 2 ∧ ((0 : Int32)).toInt8.toInt32 = (0 : Int32)) ∨ (xm_z 139 = 3 ∧ ((0 : Int32)).toUInt32.toUInt16.toUInt32.toInt32 = (0 : Int32)))) 2 (fun n => rfl) (Or.inr (Or.inl ⟨rfl, by decide⟩))
            · rw [if_neg c29] at hG
              refine Ev.f (c := (S.1 32 ((x1 + 16)).toNatClampNeg) = 0) (p1 := 78) (L1 := [.ref 29, .int x1, .int (x1 - x1 / 16 * 16)]) (s1 := []) (h1 := hh S) (p2 := 74) (L2 := [.ref 29, .int x1, .int (x1 - x1 / 16 * 16)]) (s2 := []) (h2 := hh S) 1 (fun n => B_139_47 n x1 S) c29 ?_
              obtain ⟨e1, e2⟩ := Prod.mk.inj (Option.some.inj hG)
              subst e1
              subst e2
              exact Ev.rg (c := (xm_z 139 = 0 ∨ (xm_z 139 = 1 ∧ ((1 : Int32) = 0 ∨ (1 : Int32) = 1)) ∨ (xm_z 139 = 2 ∧ ((1 : Int32)).toInt8.toInt32 = (1 : Int32)) ∨ (xm_z 139 = 3 ∧ ((1 : Int32)).toUInt32.toUInt16.toUInt32.toInt32 = (1 : Int32)))) 3 (fun n => rfl) (Or.inr (Or.inl ⟨rfl, by decide⟩))
        · rw [if_neg c26] at hG
          refine Ev.f (c := x1 < 16) (p1 := 55) (L1 := [.ref 29, .int x1, .int (x1 - x1 / 16 * 16)]) (s1 := []) (h1 := hh S) (p2 := 43) (L2 := [.ref 29, .int x1, .int (x1 - x1 / 16 * 16)]) (s2 := []) (h2 := hh S) 3 (fun n => B_139_48 n x1 S) c26 ?_
          by_cases g30 : xa_in (x1 - 16) 192
          rotate_left
          · rw [if_neg g30] at hG; cases hG
          rw [if_pos g30] at hG
          refine Ev.g (c := (kd 32).1 = 1 ∧ xa_in (x1 - 16) (kd 32).2) (p1 := 52) (L1 := [.ref 29, .int x1, .int (x1 - x1 / 16 * 16)]) (s1 := [.int (S.1 32 ((x1 - 16)).toNatClampNeg)]) (h1 := hh S) 6 (fun n => B_139_49 n x1 S) (⟨rfl, g30⟩) ?_
          by_cases c31 : (S.1 32 ((x1 - 16)).toNatClampNeg) = 0
          · rw [if_pos c31] at hG
            refine Ev.t (c := (S.1 32 ((x1 - 16)).toNatClampNeg) = 0) (p1 := 55) (L1 := [.ref 29, .int x1, .int (x1 - x1 / 16 * 16)]) (s1 := []) (h1 := hh S) (p2 := 74) (L2 := [.ref 29, .int x1, .int (x1 - x1 / 16 * 16)]) (s2 := []) (h2 := hh S) 1 (fun n => B_139_50 n x1 S) c31 ?_
            by_cases c32 : 176 ≤ x1
            · rw [if_pos c32] at hG
              refine Ev.t (c := 176 ≤ x1) (p1 := 78) (L1 := [.ref 29, .int x1, .int (x1 - x1 / 16 * 16)]) (s1 := []) (h1 := hh S) (p2 := 62) (L2 := [.ref 29, .int x1, .int (x1 - x1 / 16 * 16)]) (s2 := []) (h2 := hh S) 3 (fun n => B_139_51 n x1 S) c32 ?_
              obtain ⟨e1, e2⟩ := Prod.mk.inj (Option.some.inj hG)
              subst e1
              subst e2
              exact Ev.rg (c := (xm_z 139 = 0 ∨ (xm_z 139 = 1 ∧ ((0 : Int32) = 0 ∨ (0 : Int32) = 1)) ∨ (xm_z 139 = 2 ∧ ((0 : Int32)).toInt8.toInt32 = (0 : Int32)) ∨ (xm_z 139 = 3 ∧ ((0 : Int32)).toUInt32.toUInt16.toUInt32.toInt32 = (0 : Int32)))) 2 (fun n => rfl) (Or.inr (Or.inl ⟨rfl, by decide⟩))
            · rw [if_neg c32] at hG
              refine Ev.f (c := 176 ≤ x1) (p1 := 78) (L1 := [.ref 29, .int x1, .int (x1 - x1 / 16 * 16)]) (s1 := []) (h1 := hh S) (p2 := 62) (L2 := [.ref 29, .int x1, .int (x1 - x1 / 16 * 16)]) (s2 := []) (h2 := hh S) 3 (fun n => B_139_52 n x1 S) c32 ?_
              by_cases g33 : xa_in (x1 + 16) 192
              rotate_left
              · rw [if_neg g33] at hG; cases hG
              rw [if_pos g33] at hG
              refine Ev.g (c := (kd 32).1 = 1 ∧ xa_in (x1 + 16) (kd 32).2) (p1 := 71) (L1 := [.ref 29, .int x1, .int (x1 - x1 / 16 * 16)]) (s1 := [.int (S.1 32 ((x1 + 16)).toNatClampNeg)]) (h1 := hh S) 6 (fun n => B_139_53 n x1 S) (⟨rfl, g33⟩) ?_
              by_cases c34 : (S.1 32 ((x1 + 16)).toNatClampNeg) = 0
              · rw [if_pos c34] at hG
                refine Ev.t (c := (S.1 32 ((x1 + 16)).toNatClampNeg) = 0) (p1 := 78) (L1 := [.ref 29, .int x1, .int (x1 - x1 / 16 * 16)]) (s1 := []) (h1 := hh S) (p2 := 74) (L2 := [.ref 29, .int x1, .int (x1 - x1 / 16 * 16)]) (s2 := []) (h2 := hh S) 1 (fun n => B_139_54 n x1 S) c34 ?_
                obtain ⟨e1, e2⟩ := Prod.mk.inj (Option.some.inj hG)
                subst e1
                subst e2
                exact Ev.rg (c := (xm_z 139 = 0 ∨ (xm_z 139 = 1 ∧ ((0 : Int32) = 0 ∨ (0 : Int32) = 1)) ∨ (xm_z 139 = 2 ∧ ((0 : Int32)).toInt8.toInt32 = (0 : Int32)) ∨ (xm_z 139 = 3 ∧ ((0 : Int32)).toUInt32.toUInt16.toUInt32.toInt32 = (0 : Int32)))) 2 (fun n => rfl) (Or.inr (Or.inl ⟨rfl, by decide⟩))
              · rw [if_neg c34] at hG
                refine Ev.f (c := (S.1 32 ((x1 + 16)).toNatClampNeg) = 0) (p1 := 78) (L1 := [.ref 29, .int x1, .int (x1 - x1 / 16 * 16)]) (s1 := []) (h1 := hh S) (p2 := 74) (L2 := [.ref 29, .int x1, .int (x1 - x1 / 16 * 16)]) (s2 := []) (h2 := hh S) 1 (fun n => B_139_55 n x1 S) c34 ?_
                obtain ⟨e1, e2⟩ := Prod.mk.inj (Option.some.inj hG)
                subst e1
                subst e2
                exact Ev.rg (c := (xm_z 139 = 0 ∨ (xm_z 139 = 1 ∧ ((1 : Int32) = 0 ∨ (1 : Int32) = 1)) ∨ (xm_z 139 = 2 ∧ ((1 : Int32)).toInt8.toInt32 = (1 : Int32)) ∨ (xm_z 139 = 3 ∧ ((1 : Int32)).toUInt32.toUInt16.toUInt32.toInt32 = (1 : Int32)))) 3 (fun n => rfl) (Or.inr (Or.inl ⟨rfl, by decide⟩))
          · rw [if_neg c31] at hG
            refine Ev.f (c := (S.1 32 ((x1 - 16)).toNatClampNeg) = 0) (p1 := 55) (L1 := [.ref 29, .int x1, .int (x1 - x1 / 16 * 16)]) (s1 := []) (h1 := hh S) (p2 := 74) (L2 := [.ref 29, .int x1, .int (x1 - x1 / 16 * 16)]) (s2 := []) (h2 := hh S) 1 (fun n => B_139_56 n x1 S) c31 ?_
            obtain ⟨e1, e2⟩ := Prod.mk.inj (Option.some.inj hG)
            subst e1
            subst e2
            exact Ev.rg (c := (xm_z 139 = 0 ∨ (xm_z 139 = 1 ∧ ((1 : Int32) = 0 ∨ (1 : Int32) = 1)) ∨ (xm_z 139 = 2 ∧ ((1 : Int32)).toInt8.toInt32 = (1 : Int32)) ∨ (xm_z 139 = 3 ∧ ((1 : Int32)).toUInt32.toUInt16.toUInt32.toInt32 = (1 : Int32)))) 3 (fun n => rfl) (Or.inr (Or.inl ⟨rfl, by decide⟩))
      · rw [if_neg c25] at hG
        refine Ev.f (c := 15 ≤ (x1 - x1 / 16 * 16)) (p1 := 37) (L1 := [.ref 29, .int x1, .int (x1 - x1 / 16 * 16)]) (s1 := []) (h1 := hh S) (p2 := 26) (L2 := [.ref 29, .int x1, .int (x1 - x1 / 16 * 16)]) (s2 := []) (h2 := hh S) 3 (fun n => B_139_57 n x1 S) c25 ?_
        by_cases g35 : xa_in (x1 + 1) 192
        rotate_left
        · rw [if_neg g35] at hG; cases hG
        rw [if_pos g35] at hG
        refine Ev.g (c := (kd 32).1 = 1 ∧ xa_in (x1 + 1) (kd 32).2) (p1 := 34) (L1 := [.ref 29, .int x1, .int (x1 - x1 / 16 * 16)]) (s1 := [.int (S.1 32 ((x1 + 1)).toNatClampNeg)]) (h1 := hh S) 6 (fun n => B_139_58 n x1 S) (⟨rfl, g35⟩) ?_
        by_cases c36 : (S.1 32 ((x1 + 1)).toNatClampNeg) = 0
        · rw [if_pos c36] at hG
          refine Ev.t (c := (S.1 32 ((x1 + 1)).toNatClampNeg) = 0) (p1 := 37) (L1 := [.ref 29, .int x1, .int (x1 - x1 / 16 * 16)]) (s1 := []) (h1 := hh S) (p2 := 74) (L2 := [.ref 29, .int x1, .int (x1 - x1 / 16 * 16)]) (s2 := []) (h2 := hh S) 1 (fun n => B_139_59 n x1 S) c36 ?_
          by_cases c37 : x1 < 16
          · rw [if_pos c37] at hG
            refine Ev.t (c := x1 < 16) (p1 := 55) (L1 := [.ref 29, .int x1, .int (x1 - x1 / 16 * 16)]) (s1 := []) (h1 := hh S) (p2 := 43) (L2 := [.ref 29, .int x1, .int (x1 - x1 / 16 * 16)]) (s2 := []) (h2 := hh S) 3 (fun n => B_139_60 n x1 S) c37 ?_
            by_cases c38 : 176 ≤ x1
            · rw [if_pos c38] at hG
              refine Ev.t (c := 176 ≤ x1) (p1 := 78) (L1 := [.ref 29, .int x1, .int (x1 - x1 / 16 * 16)]) (s1 := []) (h1 := hh S) (p2 := 62) (L2 := [.ref 29, .int x1, .int (x1 - x1 / 16 * 16)]) (s2 := []) (h2 := hh S) 3 (fun n => B_139_61 n x1 S) c38 ?_
              obtain ⟨e1, e2⟩ := Prod.mk.inj (Option.some.inj hG)
              subst e1
              subst e2
              exact Ev.rg (c := (xm_z 139 = 0 ∨ (xm_z 139 = 1 ∧ ((0 : Int32) = 0 ∨ (0 : Int32) = 1)) ∨ (xm_z 139 = 2 ∧ ((0 : Int32)).toInt8.toInt32 = (0 : Int32)) ∨ (xm_z 139 = 3 ∧ ((0 : Int32)).toUInt32.toUInt16.toUInt32.toInt32 = (0 : Int32)))) 2 (fun n => rfl) (Or.inr (Or.inl ⟨rfl, by decide⟩))
            · rw [if_neg c38] at hG
              refine Ev.f (c := 176 ≤ x1) (p1 := 78) (L1 := [.ref 29, .int x1, .int (x1 - x1 / 16 * 16)]) (s1 := []) (h1 := hh S) (p2 := 62) (L2 := [.ref 29, .int x1, .int (x1 - x1 / 16 * 16)]) (s2 := []) (h2 := hh S) 3 (fun n => B_139_62 n x1 S) c38 ?_
              by_cases g39 : xa_in (x1 + 16) 192
              rotate_left
              · rw [if_neg g39] at hG; cases hG
              rw [if_pos g39] at hG
              refine Ev.g (c := (kd 32).1 = 1 ∧ xa_in (x1 + 16) (kd 32).2) (p1 := 71) (L1 := [.ref 29, .int x1, .int (x1 - x1 / 16 * 16)]) (s1 := [.int (S.1 32 ((x1 + 16)).toNatClampNeg)]) (h1 := hh S) 6 (fun n => B_139_63 n x1 S) (⟨rfl, g39⟩) ?_
              by_cases c40 : (S.1 32 ((x1 + 16)).toNatClampNeg) = 0
              · rw [if_pos c40] at hG
                refine Ev.t (c := (S.1 32 ((x1 + 16)).toNatClampNeg) = 0) (p1 := 78) (L1 := [.ref 29, .int x1, .int (x1 - x1 / 16 * 16)]) (s1 := []) (h1 := hh S) (p2 := 74) (L2 := [.ref 29, .int x1, .int (x1 - x1 / 16 * 16)]) (s2 := []) (h2 := hh S) 1 (fun n => B_139_64 n x1 S) c40 ?_
                obtain ⟨e1, e2⟩ := Prod.mk.inj (Option.some.inj hG)
                subst e1
                subst e2
                exact Ev.rg (c := (xm_z 139 = 0 ∨ (xm_z 139 = 1 ∧ ((0 : Int32) = 0 ∨ (0 : Int32) = 1)) ∨ (xm_z 139 = 2 ∧ ((0 : Int32)).toInt8.toInt32 = (0 : Int32)) ∨ (xm_z 139 = 3 ∧ ((0 : Int32)).toUInt32.toUInt16.toUInt32.toInt32 = (0 : Int32)))) 2 (fun n => rfl) (Or.inr (Or.inl ⟨rfl, by decide⟩))
              · rw [if_neg c40] at hG
                refine Ev.f (c := (S.1 32 ((x1 + 16)).toNatClampNeg) = 0) (p1 := 78) (L1 := [.ref 29, .int x1, .int (x1 - x1 / 16 * 16)]) (s1 := []) (h1 := hh S) (p2 := 74) (L2 := [.ref 29, .int x1, .int (x1 - x1 / 16 * 16)]) (s2 := []) (h2 := hh S) 1 (fun n => B_139_65 n x1 S) c40 ?_
                obtain ⟨e1, e2⟩ := Prod.mk.inj (Option.some.inj hG)
                subst e1
                subst e2
                exact Ev.rg (c := (xm_z 139 = 0 ∨ (xm_z 139 = 1 ∧ ((1 : Int32) = 0 ∨ (1 : Int32) = 1)) ∨ (xm_z 139 = 2 ∧ ((1 : Int32)).toInt8.toInt32 = (1 : Int32)) ∨ (xm_z 139 = 3 ∧ ((1 : Int32)).toUInt32.toUInt16.toUInt32.toInt32 = (1 : Int32)))) 3 (fun n => rfl) (Or.inr (Or.inl ⟨rfl, by decide⟩))
          · rw [if_neg c37] at hG
            refine Ev.f (c := x1 < 16) (p1 := 55) (L1 := [.ref 29, .int x1, .int (x1 - x1 / 16 * 16)]) (s1 := []) (h1 := hh S) (p2 := 43) (L2 := [.ref 29, .int x1, .int (x1 - x1 / 16 * 16)]) (s2 := []) (h2 := hh S) 3 (fun n => B_139_66 n x1 S) c37 ?_
            by_cases g41 : xa_in (x1 - 16) 192
            rotate_left
            · rw [if_neg g41] at hG; cases hG
            rw [if_pos g41] at hG
            refine Ev.g (c := (kd 32).1 = 1 ∧ xa_in (x1 - 16) (kd 32).2) (p1 := 52) (L1 := [.ref 29, .int x1, .int (x1 - x1 / 16 * 16)]) (s1 := [.int (S.1 32 ((x1 - 16)).toNatClampNeg)]) (h1 := hh S) 6 (fun n => B_139_67 n x1 S) (⟨rfl, g41⟩) ?_
            by_cases c42 : (S.1 32 ((x1 - 16)).toNatClampNeg) = 0
            · rw [if_pos c42] at hG
              refine Ev.t (c := (S.1 32 ((x1 - 16)).toNatClampNeg) = 0) (p1 := 55) (L1 := [.ref 29, .int x1, .int (x1 - x1 / 16 * 16)]) (s1 := []) (h1 := hh S) (p2 := 74) (L2 := [.ref 29, .int x1, .int (x1 - x1 / 16 * 16)]) (s2 := []) (h2 := hh S) 1 (fun n => B_139_68 n x1 S) c42 ?_
              by_cases c43 : 176 ≤ x1
              · rw [if_pos c43] at hG
                refine Ev.t (c := 176 ≤ x1) (p1 := 78) (L1 := [.ref 29, .int x1, .int (x1 - x1 / 16 * 16)]) (s1 := []) (h1 := hh S) (p2 := 62) (L2 := [.ref 29, .int x1, .int (x1 - x1 / 16 * 16)]) (s2 := []) (h2 := hh S) 3 (fun n => B_139_69 n x1 S) c43 ?_
                obtain ⟨e1, e2⟩ := Prod.mk.inj (Option.some.inj hG)
                subst e1
                subst e2
                exact Ev.rg (c := (xm_z 139 = 0 ∨ (xm_z 139 = 1 ∧ ((0 : Int32) = 0 ∨ (0 : Int32) = 1)) ∨ (xm_z 139 = 2 ∧ ((0 : Int32)).toInt8.toInt32 = (0 : Int32)) ∨ (xm_z 139 = 3 ∧ ((0 : Int32)).toUInt32.toUInt16.toUInt32.toInt32 = (0 : Int32)))) 2 (fun n => rfl) (Or.inr (Or.inl ⟨rfl, by decide⟩))
              · rw [if_neg c43] at hG
                refine Ev.f (c := 176 ≤ x1) (p1 := 78) (L1 := [.ref 29, .int x1, .int (x1 - x1 / 16 * 16)]) (s1 := []) (h1 := hh S) (p2 := 62) (L2 := [.ref 29, .int x1, .int (x1 - x1 / 16 * 16)]) (s2 := []) (h2 := hh S) 3 (fun n => B_139_70 n x1 S) c43 ?_
                by_cases g44 : xa_in (x1 + 16) 192
                rotate_left
                · rw [if_neg g44] at hG; cases hG
                rw [if_pos g44] at hG
                refine Ev.g (c := (kd 32).1 = 1 ∧ xa_in (x1 + 16) (kd 32).2) (p1 := 71) (L1 := [.ref 29, .int x1, .int (x1 - x1 / 16 * 16)]) (s1 := [.int (S.1 32 ((x1 + 16)).toNatClampNeg)]) (h1 := hh S) 6 (fun n => B_139_71 n x1 S) (⟨rfl, g44⟩) ?_
                by_cases c45 : (S.1 32 ((x1 + 16)).toNatClampNeg) = 0
                · rw [if_pos c45] at hG
                  refine Ev.t (c := (S.1 32 ((x1 + 16)).toNatClampNeg) = 0) (p1 := 78) (L1 := [.ref 29, .int x1, .int (x1 - x1 / 16 * 16)]) (s1 := []) (h1 := hh S) (p2 := 74) (L2 := [.ref 29, .int x1, .int (x1 - x1 / 16 * 16)]) (s2 := []) (h2 := hh S) 1 (fun n => B_139_72 n x1 S) c45 ?_
                  obtain ⟨e1, e2⟩ := Prod.mk.inj (Option.some.inj hG)
                  subst e1
                  subst e2
                  exact Ev.rg (c := (xm_z 139 = 0 ∨ (xm_z 139 = 1 ∧ ((0 : Int32) = 0 ∨ (0 : Int32) = 1)) ∨ (xm_z 139 = 2 ∧ ((0 : Int32)).toInt8.toInt32 = (0 : Int32)) ∨ (xm_z 139 = 3 ∧ ((0 : Int32)).toUInt32.toUInt16.toUInt32.toInt32 = (0 : Int32)))) 2 (fun n => rfl) (Or.inr (Or.inl ⟨rfl, by decide⟩))
                · rw [if_neg c45] at hG
                  refine Ev.f (c := (S.1 32 ((x1 + 16)).toNatClampNeg) = 0) (p1 := 78) (L1 := [.ref 29, .int x1, .int (x1 - x1 / 16 * 16)]) (s1 := []) (h1 := hh S) (p2 := 74) (L2 := [.ref 29, .int x1, .int (x1 - x1 / 16 * 16)]) (s2 := []) (h2 := hh S) 1 (fun n => B_139_73 n x1 S) c45 ?_
                  obtain ⟨e1, e2⟩ := Prod.mk.inj (Option.some.inj hG)
                  subst e1
                  subst e2
                  exact Ev.rg (c := (xm_z 139 = 0 ∨ (xm_z 139 = 1 ∧ ((1 : Int32) = 0 ∨ (1 : Int32) = 1)) ∨ (xm_z 139 = 2 ∧ ((1 : Int32)).toInt8.toInt32 = (1 : Int32)) ∨ (xm_z 139 = 3 ∧ ((1 : Int32)).toUInt32.toUInt16.toUInt32.toInt32 = (1 : Int32)))) 3 (fun n => rfl) (Or.inr (Or.inl ⟨rfl, by decide⟩))
            · rw [if_neg c42] at hG
              refine Ev.f (c := (S.1 32 ((x1 - 16)).toNatClampNeg) = 0) (p1 := 55) (L1 := [.ref 29, .int x1, .int (x1 - x1 / 16 * 16)]) (s1 := []) (h1 := hh S) (p2 := 74) (L2 := [.ref 29, .int x1, .int (x1 - x1 / 16 * 16)]) (s2 := []) (h2 := hh S) 1 (fun n => B_139_74 n x1 S) c42 ?_
              obtain ⟨e1, e2⟩ := Prod.mk.inj (Option.some.inj hG)
              subst e1
              subst e2
              exact Ev.rg (c := (xm_z 139 = 0 ∨ (xm_z 139 = 1 ∧ ((1 : Int32) = 0 ∨ (1 : Int32) = 1)) ∨ (xm_z 139 = 2 ∧ ((1 : Int32)).toInt8.toInt32 = (1 : Int32)) ∨ (xm_z 139 = 3 ∧ ((1 : Int32)).toUInt32.toUInt16.toUInt32.toInt32 = (1 : Int32)))) 3 (fun n => rfl) (Or.inr (Or.inl ⟨rfl, by decide⟩))
        · rw [if_neg c36] at hG
          refine Ev.f (c := (S.1 32 ((x1 + 1)).toNatClampNeg) = 0) (p1 := 37) (L1 := [.ref 29, .int x1, .int (x1 - x1 / 16 * 16)]) (s1 := []) (h1 := hh S) (p2 := 74) (L2 := [.ref 29, .int x1, .int (x1 - x1 / 16 * 16)]) (s2 := []) (h2 := hh S) 1 (fun n => B_139_75 n x1 S) c36 ?_
          obtain ⟨e1, e2⟩ := Prod.mk.inj (Option.some.inj hG)
          subst e1
          subst e2
          exact Ev.rg (c := (xm_z 139 = 0 ∨ (xm_z 139 = 1 ∧ ((1 : Int32) = 0 ∨ (1 : Int32) = 1)) ∨ (xm_z 139 = 2 ∧ ((1 : Int32)).toInt8.toInt32 = (1 : Int32)) ∨ (xm_z 139 = 3 ∧ ((1 : Int32)).toUInt32.toUInt16.toUInt32.toInt32 = (1 : Int32)))) 3 (fun n => rfl) (Or.inr (Or.inl ⟨rfl, by decide⟩))
    · rw [if_neg c24] at hG
      refine Ev.f (c := (S.1 32 ((x1 - 1)).toNatClampNeg) = 0) (p1 := 20) (L1 := [.ref 29, .int x1, .int (x1 - x1 / 16 * 16)]) (s1 := []) (h1 := hh S) (p2 := 74) (L2 := [.ref 29, .int x1, .int (x1 - x1 / 16 * 16)]) (s2 := []) (h2 := hh S) 1 (fun n => B_139_76 n x1 S) c24 ?_
      obtain ⟨e1, e2⟩ := Prod.mk.inj (Option.some.inj hG)
      subst e1
      subst e2
      exact Ev.rg (c := (xm_z 139 = 0 ∨ (xm_z 139 = 1 ∧ ((1 : Int32) = 0 ∨ (1 : Int32) = 1)) ∨ (xm_z 139 = 2 ∧ ((1 : Int32)).toInt8.toInt32 = (1 : Int32)) ∨ (xm_z 139 = 3 ∧ ((1 : Int32)).toUInt32.toUInt16.toUInt32.toInt32 = (1 : Int32)))) 3 (fun n => rfl) (Or.inr (Or.inl ⟨rfl, by decide⟩))
/-- 140: SceneCycleModel.draw(II)V -/
def G_140 (S : St) (x1 : Int32) (x2 : Int32) : Option (Unit × St) :=
  (if (S.1 29 13) < 0 then
    (if xa_in ((16 * x2) + x1) 192 then
      (if ((xa_u S.1 30 ((((16 * x2) + x1)).toNatClampNeg) (S.1 30 (((16 * x2) + x1)).toNatClampNeg)) 29 14) < 0 then
        some ((), (xa_u (xa_u S.1 30 ((((16 * x2) + x1)).toNatClampNeg) (S.1 30 (((16 * x2) + x1)).toNatClampNeg)) 31 ((((16 * x2) + x1)).toNatClampNeg) ((xa_u S.1 30 ((((16 * x2) + x1)).toNatClampNeg) (S.1 30 (((16 * x2) + x1)).toNatClampNeg)) 31 (((16 * x2) + x1)).toNatClampNeg), S.2.1, S.2.2))
      else
        some ((), (xa_u (xa_u S.1 30 ((((16 * x2) + x1)).toNatClampNeg) (S.1 30 (((16 * x2) + x1)).toNatClampNeg)) 31 ((((16 * x2) + x1)).toNatClampNeg) ((xa_u S.1 30 ((((16 * x2) + x1)).toNatClampNeg) (S.1 30 (((16 * x2) + x1)).toNatClampNeg)) 29 14), S.2.1, S.2.2))
      )
    else none)
  else
    (if xa_in ((16 * x2) + x1) 192 then
      (if ((xa_u S.1 30 ((((16 * x2) + x1)).toNatClampNeg) (S.1 29 13)) 29 14) < 0 then
        some ((), (xa_u (xa_u S.1 30 ((((16 * x2) + x1)).toNatClampNeg) (S.1 29 13)) 31 ((((16 * x2) + x1)).toNatClampNeg) ((xa_u S.1 30 ((((16 * x2) + x1)).toNatClampNeg) (S.1 29 13)) 31 (((16 * x2) + x1)).toNatClampNeg), S.2.1, S.2.2))
      else
        some ((), (xa_u (xa_u S.1 30 ((((16 * x2) + x1)).toNatClampNeg) (S.1 29 13)) 31 ((((16 * x2) + x1)).toNatClampNeg) ((xa_u S.1 30 ((((16 * x2) + x1)).toNatClampNeg) (S.1 29 13)) 29 14), S.2.1, S.2.2))
      )
    else none)
  )
theorem B_140_1 {X : Nat × (Nat → Int32)} {d : Nat} (n : Nat) (x1 : Int32) (x2 : Int32) (S : St) : ex X d 140 0 [.ref 29, .int x1, .int x2, .retAddr 0] [] (hh S) (n + 12) = if (S.1 29 13) < 0 then ex X d 140 26 [.ref 29, .int x1, .int x2, .int ((16 * x2) + x1)] [.int ((16 * x2) + x1), .ref 30] (hh S) n else ex X d 140 19 [.ref 29, .int x1, .int x2, .int ((16 * x2) + x1)] [.int ((16 * x2) + x1), .ref 30] (hh S) n := rfl
theorem B_140_2 {X : Nat × (Nat → Int32)} {d : Nat} (n : Nat) (x1 : Int32) (x2 : Int32) (S : St) : ex X d 140 26 [.ref 29, .int x1, .int x2, .int ((16 * x2) + x1)] [.int ((16 * x2) + x1), .ref 30] (hh S) (n + 4) = if (kd 30).1 = 0 ∧ xa_in ((16 * x2) + x1) (kd 30).2 then ex X d 140 32 [.ref 29, .int x1, .int x2, .int ((16 * x2) + x1)] [.int (S.1 30 (((16 * x2) + x1)).toNatClampNeg), .int ((16 * x2) + x1), .ref 30] (hh S) n else none := rfl
theorem B_140_3 {X : Nat × (Nat → Int32)} {d : Nat} (n : Nat) (x1 : Int32) (x2 : Int32) (S : St) : ex X d 140 32 [.ref 29, .int x1, .int x2, .int ((16 * x2) + x1)] [.int (S.1 30 (((16 * x2) + x1)).toNatClampNeg), .int ((16 * x2) + x1), .ref 30] (hh S) (n + 1) = if (kd 30).1 = 0 ∧ xa_in ((16 * x2) + x1) (kd 30).2 then ex X d 140 33 [.ref 29, .int x1, .int x2, .int ((16 * x2) + x1)] [] (hh (xa_u S.1 30 ((((16 * x2) + x1)).toNatClampNeg) (S.1 30 (((16 * x2) + x1)).toNatClampNeg), S.2.1, S.2.2)) n else none := rfl
theorem B_140_4 {X : Nat × (Nat → Int32)} {d : Nat} (n : Nat) (x1 : Int32) (x2 : Int32) (S : St) : ex X d 140 33 [.ref 29, .int x1, .int x2, .int ((16 * x2) + x1)] [] (hh (xa_u S.1 30 ((((16 * x2) + x1)).toNatClampNeg) (S.1 30 (((16 * x2) + x1)).toNatClampNeg), S.2.1, S.2.2)) (n + 6) = if ((xa_u S.1 30 ((((16 * x2) + x1)).toNatClampNeg) (S.1 30 (((16 * x2) + x1)).toNatClampNeg)) 29 14) < 0 then ex X d 140 52 [.ref 29, .int x1, .int x2, .int ((16 * x2) + x1)] [.int ((16 * x2) + x1), .ref 31] (hh (xa_u S.1 30 ((((16 * x2) + x1)).toNatClampNeg) (S.1 30 (((16 * x2) + x1)).toNatClampNeg), S.2.1, S.2.2)) n else ex X d 140 45 [.ref 29, .int x1, .int x2, .int ((16 * x2) + x1)] [.int ((16 * x2) + x1), .ref 31] (hh (xa_u S.1 30 ((((16 * x2) + x1)).toNatClampNeg) (S.1 30 (((16 * x2) + x1)).toNatClampNeg), S.2.1, S.2.2)) n := rfl
theorem B_140_5 {X : Nat × (Nat → Int32)} {d : Nat} (n : Nat) (x1 : Int32) (x2 : Int32) (S : St) : ex X d 140 52 [.ref 29, .int x1, .int x2, .int ((16 * x2) + x1)] [.int ((16 * x2) + x1), .ref 31] (hh (xa_u S.1 30 ((((16 * x2) + x1)).toNatClampNeg) (S.1 30 (((16 * x2) + x1)).toNatClampNeg), S.2.1, S.2.2)) (n + 4) = if (kd 31).1 = 0 ∧ xa_in ((16 * x2) + x1) (kd 31).2 then ex X d 140 58 [.ref 29, .int x1, .int x2, .int ((16 * x2) + x1)] [.int ((xa_u S.1 30 ((((16 * x2) + x1)).toNatClampNeg) (S.1 30 (((16 * x2) + x1)).toNatClampNeg)) 31 (((16 * x2) + x1)).toNatClampNeg), .int ((16 * x2) + x1), .ref 31] (hh (xa_u S.1 30 ((((16 * x2) + x1)).toNatClampNeg) (S.1 30 (((16 * x2) + x1)).toNatClampNeg), S.2.1, S.2.2)) n else none := rfl
theorem B_140_6 {X : Nat × (Nat → Int32)} {d : Nat} (n : Nat) (x1 : Int32) (x2 : Int32) (S : St) : ex X d 140 58 [.ref 29, .int x1, .int x2, .int ((16 * x2) + x1)] [.int ((xa_u S.1 30 ((((16 * x2) + x1)).toNatClampNeg) (S.1 30 (((16 * x2) + x1)).toNatClampNeg)) 31 (((16 * x2) + x1)).toNatClampNeg), .int ((16 * x2) + x1), .ref 31] (hh (xa_u S.1 30 ((((16 * x2) + x1)).toNatClampNeg) (S.1 30 (((16 * x2) + x1)).toNatClampNeg), S.2.1, S.2.2)) (n + 1) = if (kd 31).1 = 0 ∧ xa_in ((16 * x2) + x1) (kd 31).2 then ex X d 140 59 [.ref 29, .int x1, .int x2, .int ((16 * x2) + x1)] [] (hh (xa_u (xa_u S.1 30 ((((16 * x2) + x1)).toNatClampNeg) (S.1 30 (((16 * x2) + x1)).toNatClampNeg)) 31 ((((16 * x2) + x1)).toNatClampNeg) ((xa_u S.1 30 ((((16 * x2) + x1)).toNatClampNeg) (S.1 30 (((16 * x2) + x1)).toNatClampNeg)) 31 (((16 * x2) + x1)).toNatClampNeg), S.2.1, S.2.2)) n else none := rfl
theorem B_140_7 {X : Nat × (Nat → Int32)} {d : Nat} (n : Nat) (x1 : Int32) (x2 : Int32) (S : St) : ex X d 140 33 [.ref 29, .int x1, .int x2, .int ((16 * x2) + x1)] [] (hh (xa_u S.1 30 ((((16 * x2) + x1)).toNatClampNeg) (S.1 30 (((16 * x2) + x1)).toNatClampNeg), S.2.1, S.2.2)) (n + 6) = if ((xa_u S.1 30 ((((16 * x2) + x1)).toNatClampNeg) (S.1 30 (((16 * x2) + x1)).toNatClampNeg)) 29 14) < 0 then ex X d 140 52 [.ref 29, .int x1, .int x2, .int ((16 * x2) + x1)] [.int ((16 * x2) + x1), .ref 31] (hh (xa_u S.1 30 ((((16 * x2) + x1)).toNatClampNeg) (S.1 30 (((16 * x2) + x1)).toNatClampNeg), S.2.1, S.2.2)) n else ex X d 140 45 [.ref 29, .int x1, .int x2, .int ((16 * x2) + x1)] [.int ((16 * x2) + x1), .ref 31] (hh (xa_u S.1 30 ((((16 * x2) + x1)).toNatClampNeg) (S.1 30 (((16 * x2) + x1)).toNatClampNeg), S.2.1, S.2.2)) n := rfl
theorem B_140_8 {X : Nat × (Nat → Int32)} {d : Nat} (n : Nat) (x1 : Int32) (x2 : Int32) (S : St) : ex X d 140 45 [.ref 29, .int x1, .int x2, .int ((16 * x2) + x1)] [.int ((16 * x2) + x1), .ref 31] (hh (xa_u S.1 30 ((((16 * x2) + x1)).toNatClampNeg) (S.1 30 (((16 * x2) + x1)).toNatClampNeg), S.2.1, S.2.2)) (n + 4) = if (kd 31).1 = 0 ∧ xa_in ((16 * x2) + x1) (kd 31).2 then ex X d 140 59 [.ref 29, .int x1, .int x2, .int ((16 * x2) + x1)] [] (hh (xa_u (xa_u S.1 30 ((((16 * x2) + x1)).toNatClampNeg) (S.1 30 (((16 * x2) + x1)).toNatClampNeg)) 31 ((((16 * x2) + x1)).toNatClampNeg) ((xa_u S.1 30 ((((16 * x2) + x1)).toNatClampNeg) (S.1 30 (((16 * x2) + x1)).toNatClampNeg)) 29 14), S.2.1, S.2.2)) n else none := rfl
theorem B_140_9 {X : Nat × (Nat → Int32)} {d : Nat} (n : Nat) (x1 : Int32) (x2 : Int32) (S : St) : ex X d 140 0 [.ref 29, .int x1, .int x2, .retAddr 0] [] (hh S) (n + 12) = if (S.1 29 13) < 0 then ex X d 140 26 [.ref 29, .int x1, .int x2, .int ((16 * x2) + x1)] [.int ((16 * x2) + x1), .ref 30] (hh S) n else ex X d 140 19 [.ref 29, .int x1, .int x2, .int ((16 * x2) + x1)] [.int ((16 * x2) + x1), .ref 30] (hh S) n := rfl
theorem B_140_10 {X : Nat × (Nat → Int32)} {d : Nat} (n : Nat) (x1 : Int32) (x2 : Int32) (S : St) : ex X d 140 19 [.ref 29, .int x1, .int x2, .int ((16 * x2) + x1)] [.int ((16 * x2) + x1), .ref 30] (hh S) (n + 4) = if (kd 30).1 = 0 ∧ xa_in ((16 * x2) + x1) (kd 30).2 then ex X d 140 33 [.ref 29, .int x1, .int x2, .int ((16 * x2) + x1)] [] (hh (xa_u S.1 30 ((((16 * x2) + x1)).toNatClampNeg) (S.1 29 13), S.2.1, S.2.2)) n else none := rfl
theorem B_140_11 {X : Nat × (Nat → Int32)} {d : Nat} (n : Nat) (x1 : Int32) (x2 : Int32) (S : St) : ex X d 140 33 [.ref 29, .int x1, .int x2, .int ((16 * x2) + x1)] [] (hh (xa_u S.1 30 ((((16 * x2) + x1)).toNatClampNeg) (S.1 29 13), S.2.1, S.2.2)) (n + 6) = if ((xa_u S.1 30 ((((16 * x2) + x1)).toNatClampNeg) (S.1 29 13)) 29 14) < 0 then ex X d 140 52 [.ref 29, .int x1, .int x2, .int ((16 * x2) + x1)] [.int ((16 * x2) + x1), .ref 31] (hh (xa_u S.1 30 ((((16 * x2) + x1)).toNatClampNeg) (S.1 29 13), S.2.1, S.2.2)) n else ex X d 140 45 [.ref 29, .int x1, .int x2, .int ((16 * x2) + x1)] [.int ((16 * x2) + x1), .ref 31] (hh (xa_u S.1 30 ((((16 * x2) + x1)).toNatClampNeg) (S.1 29 13), S.2.1, S.2.2)) n := rfl
theorem B_140_12 {X : Nat × (Nat → Int32)} {d : Nat} (n : Nat) (x1 : Int32) (x2 : Int32) (S : St) : ex X d 140 52 [.ref 29, .int x1, .int x2, .int ((16 * x2) + x1)] [.int ((16 * x2) + x1), .ref 31] (hh (xa_u S.1 30 ((((16 * x2) + x1)).toNatClampNeg) (S.1 29 13), S.2.1, S.2.2)) (n + 4) = if (kd 31).1 = 0 ∧ xa_in ((16 * x2) + x1) (kd 31).2 then ex X d 140 58 [.ref 29, .int x1, .int x2, .int ((16 * x2) + x1)] [.int ((xa_u S.1 30 ((((16 * x2) + x1)).toNatClampNeg) (S.1 29 13)) 31 (((16 * x2) + x1)).toNatClampNeg), .int ((16 * x2) + x1), .ref 31] (hh (xa_u S.1 30 ((((16 * x2) + x1)).toNatClampNeg) (S.1 29 13), S.2.1, S.2.2)) n else none := rfl
theorem B_140_13 {X : Nat × (Nat → Int32)} {d : Nat} (n : Nat) (x1 : Int32) (x2 : Int32) (S : St) : ex X d 140 58 [.ref 29, .int x1, .int x2, .int ((16 * x2) + x1)] [.int ((xa_u S.1 30 ((((16 * x2) + x1)).toNatClampNeg) (S.1 29 13)) 31 (((16 * x2) + x1)).toNatClampNeg), .int ((16 * x2) + x1), .ref 31] (hh (xa_u S.1 30 ((((16 * x2) + x1)).toNatClampNeg) (S.1 29 13), S.2.1, S.2.2)) (n + 1) = if (kd 31).1 = 0 ∧ xa_in ((16 * x2) + x1) (kd 31).2 then ex X d 140 59 [.ref 29, .int x1, .int x2, .int ((16 * x2) + x1)] [] (hh (xa_u (xa_u S.1 30 ((((16 * x2) + x1)).toNatClampNeg) (S.1 29 13)) 31 ((((16 * x2) + x1)).toNatClampNeg) ((xa_u S.1 30 ((((16 * x2) + x1)).toNatClampNeg) (S.1 29 13)) 31 (((16 * x2) + x1)).toNatClampNeg), S.2.1, S.2.2)) n else none := rfl
theorem B_140_14 {X : Nat × (Nat → Int32)} {d : Nat} (n : Nat) (x1 : Int32) (x2 : Int32) (S : St) : ex X d 140 33 [.ref 29, .int x1, .int x2, .int ((16 * x2) + x1)] [] (hh (xa_u S.1 30 ((((16 * x2) + x1)).toNatClampNeg) (S.1 29 13), S.2.1, S.2.2)) (n + 6) = if ((xa_u S.1 30 ((((16 * x2) + x1)).toNatClampNeg) (S.1 29 13)) 29 14) < 0 then ex X d 140 52 [.ref 29, .int x1, .int x2, .int ((16 * x2) + x1)] [.int ((16 * x2) + x1), .ref 31] (hh (xa_u S.1 30 ((((16 * x2) + x1)).toNatClampNeg) (S.1 29 13), S.2.1, S.2.2)) n else ex X d 140 45 [.ref 29, .int x1, .int x2, .int ((16 * x2) + x1)] [.int ((16 * x2) + x1), .ref 31] (hh (xa_u S.1 30 ((((16 * x2) + x1)).toNatClampNeg) (S.1 29 13), S.2.1, S.2.2)) n := rfl
theorem B_140_15 {X : Nat × (Nat → Int32)} {d : Nat} (n : Nat) (x1 : Int32) (x2 : Int32) (S : St) : ex X d 140 45 [.ref 29, .int x1, .int x2, .int ((16 * x2) + x1)] [.int ((16 * x2) + x1), .ref 31] (hh (xa_u S.1 30 ((((16 * x2) + x1)).toNatClampNeg) (S.1 29 13), S.2.1, S.2.2)) (n + 4) = if (kd 31).1 = 0 ∧ xa_in ((16 * x2) + x1) (kd 31).2 then ex X d 140 59 [.ref 29, .int x1, .int x2, .int ((16 * x2) + x1)] [] (hh (xa_u (xa_u S.1 30 ((((16 * x2) + x1)).toNatClampNeg) (S.1 29 13)) 31 ((((16 * x2) + x1)).toNatClampNeg) ((xa_u S.1 30 ((((16 * x2) + x1)).toNatClampNeg) (S.1 29 13)) 29 14), S.2.1, S.2.2)) n else none := rfl
set_option maxRecDepth 200000 in
theorem T_140 {X : Nat × (Nat → Int32)} (S : St) (x1 : Int32) (x2 : Int32) (r : Unit) (S' : St) (hG : G_140 S x1 x2 = some (r, S')) : Ev X 0 140 0 [.ref 29, .int x1, .int x2, .retAddr 0] [] (hh S) (xV r, hh S') := by
  unfold G_140 at hG
  by_cases c1 : (S.1 29 13) < 0
  · rw [if_pos c1] at hG
    refine Ev.t (c := (S.1 29 13) < 0) (p1 := 26) (L1 := [.ref 29, .int x1, .int x2, .int ((16 * x2) + x1)]) (s1 := [.int ((16 * x2) + x1), .ref 30]) (h1 := hh S) (p2 := 19) (L2 := [.ref 29, .int x1, .int x2, .int ((16 * x2) + x1)]) (s2 := [.int ((16 * x2) + x1), .ref 30]) (h2 := hh S) 12 (fun n => B_140_1 n x1 x2 S) c1 ?_
    by_cases g2 : xa_in ((16 * x2) + x1) 192
    rotate_left
    · rw [if_neg g2] at hG; cases hG
    rw [if_pos g2] at hG
    refine Ev.g (c := (kd 30).1 = 0 ∧ xa_in ((16 * x2) + x1) (kd 30).2) (p1 := 32) (L1 := [.ref 29, .int x1, .int x2, .int ((16 * x2) + x1)]) (s1 := [.int (S.1 30 (((16 * x2) + x1)).toNatClampNeg), .int ((16 * x2) + x1), .ref 30]) (h1 := hh S) 4 (fun n => B_140_2 n x1 x2 S) (⟨rfl, g2⟩) ?_
    refine Ev.g (c := (kd 30).1 = 0 ∧ xa_in ((16 * x2) + x1) (kd 30).2) (p1 := 33) (L1 := [.ref 29, .int x1, .int x2, .int ((16 * x2) + x1)]) (s1 := []) (h1 := hh (xa_u S.1 30 ((((16 * x2) + x1)).toNatClampNeg) (S.1 30 (((16 * x2) + x1)).toNatClampNeg), S.2.1, S.2.2)) 1 (fun n => B_140_3 n x1 x2 S) (⟨rfl, g2⟩) ?_
    by_cases c3 : ((xa_u S.1 30 ((((16 * x2) + x1)).toNatClampNeg) (S.1 30 (((16 * x2) + x1)).toNatClampNeg)) 29 14) < 0
    · rw [if_pos c3] at hG
      refine Ev.t (c := ((xa_u S.1 30 ((((16 * x2) + x1)).toNatClampNeg) (S.1 30 (((16 * x2) + x1)).toNatClampNeg)) 29 14) < 0) (p1 := 52) (L1 := [.ref 29, .int x1, .int x2, .int ((16 * x2) + x1)]) (s1 := [.int ((16 * x2) + x1), .ref 31]) (h1 := hh (xa_u S.1 30 ((((16 * x2) + x1)).toNatClampNeg) (S.1 30 (((16 * x2) + x1)).toNatClampNeg), S.2.1, S.2.2)) (p2 := 45) (L2 := [.ref 29, .int x1, .int x2, .int ((16 * x2) + x1)]) (s2 := [.int ((16 * x2) + x1), .ref 31]) (h2 := hh (xa_u S.1 30 ((((16 * x2) + x1)).toNatClampNeg) (S.1 30 (((16 * x2) + x1)).toNatClampNeg), S.2.1, S.2.2)) 6 (fun n => B_140_4 n x1 x2 S) c3 ?_
      refine Ev.g (c := (kd 31).1 = 0 ∧ xa_in ((16 * x2) + x1) (kd 31).2) (p1 := 58) (L1 := [.ref 29, .int x1, .int x2, .int ((16 * x2) + x1)]) (s1 := [.int ((xa_u S.1 30 ((((16 * x2) + x1)).toNatClampNeg) (S.1 30 (((16 * x2) + x1)).toNatClampNeg)) 31 (((16 * x2) + x1)).toNatClampNeg), .int ((16 * x2) + x1), .ref 31]) (h1 := hh (xa_u S.1 30 ((((16 * x2) + x1)).toNatClampNeg) (S.1 30 (((16 * x2) + x1)).toNatClampNeg), S.2.1, S.2.2)) 4 (fun n => B_140_5 n x1 x2 S) (⟨rfl, g2⟩) ?_
      refine Ev.g (c := (kd 31).1 = 0 ∧ xa_in ((16 * x2) + x1) (kd 31).2) (p1 := 59) (L1 := [.ref 29, .int x1, .int x2, .int ((16 * x2) + x1)]) (s1 := []) (h1 := hh (xa_u (xa_u S.1 30 ((((16 * x2) + x1)).toNatClampNeg) (S.1 30 (((16 * x2) + x1)).toNatClampNeg)) 31 ((((16 * x2) + x1)).toNatClampNeg) ((xa_u S.1 30 ((((16 * x2) + x1)).toNatClampNeg) (S.1 30 (((16 * x2) + x1)).toNatClampNeg)) 31 (((16 * x2) + x1)).toNatClampNeg), S.2.1, S.2.2)) 1 (fun n => B_140_6 n x1 x2 S) (⟨rfl, g2⟩) ?_
      obtain ⟨e1, e2⟩ := Prod.mk.inj (Option.some.inj hG)
      subst e1
      subst e2
      exact Ev.r 1 (fun n => rfl)
    · rw [if_neg c3] at hG
      refine Ev.f (c := ((xa_u S.1 30 ((((16 * x2) + x1)).toNatClampNeg) (S.1 30 (((16 * x2) + x1)).toNatClampNeg)) 29 14) < 0) (p1 := 52) (L1 := [.ref 29, .int x1, .int x2, .int ((16 * x2) + x1)]) (s1 := [.int ((16 * x2) + x1), .ref 31]) (h1 := hh (xa_u S.1 30 ((((16 * x2) + x1)).toNatClampNeg) (S.1 30 (((16 * x2) + x1)).toNatClampNeg), S.2.1, S.2.2)) (p2 := 45) (L2 := [.ref 29, .int x1, .int x2, .int ((16 * x2) + x1)]) (s2 := [.int ((16 * x2) + x1), .ref 31]) (h2 := hh (xa_u S.1 30 ((((16 * x2) + x1)).toNatClampNeg) (S.1 30 (((16 * x2) + x1)).toNatClampNeg), S.2.1, S.2.2)) 6 (fun n => B_140_7 n x1 x2 S) c3 ?_
      refine Ev.g (c := (kd 31).1 = 0 ∧ xa_in ((16 * x2) + x1) (kd 31).2) (p1 := 59) (L1 := [.ref 29, .int x1, .int x2, .int ((16 * x2) + x1)]) (s1 := []) (h1 := hh (xa_u (xa_u S.1 30 ((((16 * x2) + x1)).toNatClampNeg) (S.1 30 (((16 * x2) + x1)).toNatClampNeg)) 31 ((((16 * x2) + x1)).toNatClampNeg) ((xa_u S.1 30 ((((16 * x2) + x1)).toNatClampNeg) (S.1 30 (((16 * x2) + x1)).toNatClampNeg)) 29 14), S.2.1, S.2.2)) 4 (fun n => B_140_8 n x1 x2 S) (⟨rfl, g2⟩) ?_
      obtain ⟨e1, e2⟩ := Prod.mk.inj (Option.some.inj hG)
      subst e1
      subst e2
      exact Ev.r 1 (fun n => rfl)
  · rw [if_neg c1] at hG
    refine Ev.f (c := (S.1 29 13) < 0) (p1 := 26) (L1 := [.ref 29, .int x1, .int x2, .int ((16 * x2) + x1)]) (s1 := [.int ((16 * x2) + x1), .ref 30]) (h1 := hh S) (p2 := 19) (L2 := [.ref 29, .int x1, .int x2, .int ((16 * x2) + x1)]) (s2 := [.int ((16 * x2) + x1), .ref 30]) (h2 := hh S) 12 (fun n => B_140_9 n x1 x2 S) c1 ?_
    by_cases g4 : xa_in ((16 * x2) + x1) 192
    rotate_left
    · rw [if_neg g4] at hG; cases hG
    rw [if_pos g4] at hG
    refine Ev.g (c := (kd 30).1 = 0 ∧ xa_in ((16 * x2) + x1) (kd 30).2) (p1 := 33) (L1 := [.ref 29, .int x1, .int x2, .int ((16 * x2) + x1)]) (s1 := []) (h1 := hh (xa_u S.1 30 ((((16 * x2) + x1)).toNatClampNeg) (S.1 29 13), S.2.1, S.2.2)) 4 (fun n => B_140_10 n x1 x2 S) (⟨rfl, g4⟩) ?_
    by_cases c5 : ((xa_u S.1 30 ((((16 * x2) + x1)).toNatClampNeg) (S.1 29 13)) 29 14) < 0
    · rw [if_pos c5] at hG
      refine Ev.t (c := ((xa_u S.1 30 ((((16 * x2) + x1)).toNatClampNeg) (S.1 29 13)) 29 14) < 0) (p1 := 52) (L1 := [.ref 29, .int x1, .int x2, .int ((16 * x2) + x1)]) (s1 := [.int ((16 * x2) + x1), .ref 31]) (h1 := hh (xa_u S.1 30 ((((16 * x2) + x1)).toNatClampNeg) (S.1 29 13), S.2.1, S.2.2)) (p2 := 45) (L2 := [.ref 29, .int x1, .int x2, .int ((16 * x2) + x1)]) (s2 := [.int ((16 * x2) + x1), .ref 31]) (h2 := hh (xa_u S.1 30 ((((16 * x2) + x1)).toNatClampNeg) (S.1 29 13), S.2.1, S.2.2)) 6 (fun n => B_140_11 n x1 x2 S) c5 ?_
      refine Ev.g (c := (kd 31).1 = 0 ∧ xa_in ((16 * x2) + x1) (kd 31).2) (p1 := 58) (L1 := [.ref 29, .int x1, .int x2, .int ((16 * x2) + x1)]) (s1 := [.int ((xa_u S.1 30 ((((16 * x2) + x1)).toNatClampNeg) (S.1 29 13)) 31 (((16 * x2) + x1)).toNatClampNeg), .int ((16 * x2) + x1), .ref 31]) (h1 := hh (xa_u S.1 30 ((((16 * x2) + x1)).toNatClampNeg) (S.1 29 13), S.2.1, S.2.2)) 4 (fun n => B_140_12 n x1 x2 S) (⟨rfl, g4⟩) ?_
      refine Ev.g (c := (kd 31).1 = 0 ∧ xa_in ((16 * x2) + x1) (kd 31).2) (p1 := 59) (L1 := [.ref 29, .int x1, .int x2, .int ((16 * x2) + x1)]) (s1 := []) (h1 := hh (xa_u (xa_u S.1 30 ((((16 * x2) + x1)).toNatClampNeg) (S.1 29 13)) 31 ((((16 * x2) + x1)).toNatClampNeg) ((xa_u S.1 30 ((((16 * x2) + x1)).toNatClampNeg) (S.1 29 13)) 31 (((16 * x2) + x1)).toNatClampNeg), S.2.1, S.2.2)) 1 (fun n => B_140_13 n x1 x2 S) (⟨rfl, g4⟩) ?_
      obtain ⟨e1, e2⟩ := Prod.mk.inj (Option.some.inj hG)
      subst e1
      subst e2
      exact Ev.r 1 (fun n => rfl)
    · rw [if_neg c5] at hG
      refine Ev.f (c := ((xa_u S.1 30 ((((16 * x2) + x1)).toNatClampNeg) (S.1 29 13)) 29 14) < 0) (p1 := 52) (L1 := [.ref 29, .int x1, .int x2, .int ((16 * x2) + x1)]) (s1 := [.int ((16 * x2) + x1), .ref 31]) (h1 := hh (xa_u S.1 30 ((((16 * x2) + x1)).toNatClampNeg) (S.1 29 13), S.2.1, S.2.2)) (p2 := 45) (L2 := [.ref 29, .int x1, .int x2, .int ((16 * x2) + x1)]) (s2 := [.int ((16 * x2) + x1), .ref 31]) (h2 := hh (xa_u S.1 30 ((((16 * x2) + x1)).toNatClampNeg) (S.1 29 13), S.2.1, S.2.2)) 6 (fun n => B_140_14 n x1 x2 S) c5 ?_
      refine Ev.g (c := (kd 31).1 = 0 ∧ xa_in ((16 * x2) + x1) (kd 31).2) (p1 := 59) (L1 := [.ref 29, .int x1, .int x2, .int ((16 * x2) + x1)]) (s1 := []) (h1 := hh (xa_u (xa_u S.1 30 ((((16 * x2) + x1)).toNatClampNeg) (S.1 29 13)) 31 ((((16 * x2) + x1)).toNatClampNeg) ((xa_u S.1 30 ((((16 * x2) + x1)).toNatClampNeg) (S.1 29 13)) 29 14), S.2.1, S.2.2)) 4 (fun n => B_140_15 n x1 x2 S) (⟨rfl, g4⟩) ?_
      obtain ⟨e1, e2⟩ := Prod.mk.inj (Option.some.inj hG)
      subst e1
      subst e2
      exact Ev.r 1 (fun n => rfl)
/-- 137: SceneCycleModel.fill(II)V -/
def GL_137_0 : Nat → St → Int32 → Option (Unit × St)
  | 0, _, _ => none
  | n + 1, S, y6 =>
    (if 192 ≤ y6 then
      some ((), S)
    else
      (if xa_in y6 192 then
        (if (S.1 32 (y6).toNatClampNeg) = 0 then
          GL_137_0 n S (y6 + 1)
        else
          (match G_140 S (y6 - y6 / 16 * 16) (y6 / 16) with
          | none => none
          | some (v4, S4) =>
            GL_137_0 n S4 (y6 + 1)
          )
        )
      else none)
    )
theorem B_137_1 {X : Nat × (Nat → Int32)} {d : Nat} (n : Nat) (w1 : Value) (w2 : Value) (w3 : Value) (w4 : Value) (w5 : Value) (y6 : Int32) (w7 : Value) (S : St) : ex X d 137 204 [.ref 29, w1, w2, w3, w4, w5, .int y6, w7] [] (hh S) (n + 3) = if 192 ≤ y6 then ex X d 137 242 [.ref 29, w1, w2, w3, w4, w5, .int y6, w7] [] (hh S) n else ex X d 137 212 [.ref 29, w1, w2, w3, w4, w5, .int y6, w7] [] (hh S) n := rfl
theorem B_137_2 {X : Nat × (Nat → Int32)} {d : Nat} (n : Nat) (w1 : Value) (w2 : Value) (w3 : Value) (w4 : Value) (w5 : Value) (y6 : Int32) (w7 : Value) (S : St) : ex X d 137 204 [.ref 29, w1, w2, w3, w4, w5, .int y6, w7] [] (hh S) (n + 3) = if 192 ≤ y6 then ex X d 137 242 [.ref 29, w1, w2, w3, w4, w5, .int y6, w7] [] (hh S) n else ex X d 137 212 [.ref 29, w1, w2, w3, w4, w5, .int y6, w7] [] (hh S) n := rfl
theorem B_137_3 {X : Nat × (Nat → Int32)} {d : Nat} (n : Nat) (w1 : Value) (w2 : Value) (w3 : Value) (w4 : Value) (w5 : Value) (y6 : Int32) (w7 : Value) (S : St) : ex X d 137 212 [.ref 29, w1, w2, w3, w4, w5, .int y6, w7] [] (hh S) (n + 4) = if (kd 32).1 = 1 ∧ xa_in y6 (kd 32).2 then ex X d 137 219 [.ref 29, w1, w2, w3, w4, w5, .int y6, w7] [.int (S.1 32 (y6).toNatClampNeg)] (hh S) n else none := rfl
theorem B_137_4 {X : Nat × (Nat → Int32)} {d : Nat} (n : Nat) (w1 : Value) (w2 : Value) (w3 : Value) (w4 : Value) (w5 : Value) (y6 : Int32) (w7 : Value) (S : St) : ex X d 137 219 [.ref 29, w1, w2, w3, w4, w5, .int y6, w7] [.int (S.1 32 (y6).toNatClampNeg)] (hh S) (n + 1) = if (S.1 32 (y6).toNatClampNeg) = 0 then ex X d 137 236 [.ref 29, w1, w2, w3, w4, w5, .int y6, w7] [] (hh S) n else ex X d 137 222 [.ref 29, w1, w2, w3, w4, w5, .int y6, w7] [] (hh S) n := rfl
theorem B_137_5 {X : Nat × (Nat → Int32)} {d : Nat} (n : Nat) (w1 : Value) (w2 : Value) (w3 : Value) (w4 : Value) (w5 : Value) (y6 : Int32) (w7 : Value) (S : St) : ex X d 137 236 [.ref 29, w1, w2, w3, w4, w5, .int y6, w7] [] (hh S) (n + 2) = ex X d 137 204 [.ref 29, w1, w2, w3, w4, w5, .int (y6 + 1), w7] [] (hh S) n := rfl
theorem B_137_6 {X : Nat × (Nat → Int32)} {d : Nat} (n : Nat) (w1 : Value) (w2 : Value) (w3 : Value) (w4 : Value) (w5 : Value) (y6 : Int32) (w7 : Value) (S : St) : ex X d 137 219 [.ref 29, w1, w2, w3, w4, w5, .int y6, w7] [.int (S.1 32 (y6).toNatClampNeg)] (hh S) (n + 1) = if (S.1 32 (y6).toNatClampNeg) = 0 then ex X d 137 236 [.ref 29, w1, w2, w3, w4, w5, .int y6, w7] [] (hh S) n else ex X d 137 222 [.ref 29, w1, w2, w3, w4, w5, .int y6, w7] [] (hh S) n := rfl
theorem B_137_7 {X : Nat × (Nat → Int32)} {d : Nat} (n : Nat) (w1 : Value) (w2 : Value) (w3 : Value) (w4 : Value) (w5 : Value) (y6 : Int32) (w7 : Value) (S : St) : ex X d 137 222 [.ref 29, w1, w2, w3, w4, w5, .int y6, w7] [] (hh S) (n + 4) = if (16 : Int32) = 0 then none else ex X d 137 228 [.ref 29, w1, w2, w3, w4, w5, .int y6, w7] [.int (y6 - y6 / 16 * 16), .ref 29] (hh S) n := rfl
theorem B_137_8 {X : Nat × (Nat → Int32)} {d : Nat} (n : Nat) (w1 : Value) (w2 : Value) (w3 : Value) (w4 : Value) (w5 : Value) (y6 : Int32) (w7 : Value) (S : St) : ex X d 137 228 [.ref 29, w1, w2, w3, w4, w5, .int y6, w7] [.int (y6 - y6 / 16 * 16), .ref 29] (hh S) (n + 3) = if (16 : Int32) = 0 then none else ex X d 137 233 [.ref 29, w1, w2, w3, w4, w5, .int y6, w7] [.int (y6 / 16), .int (y6 - y6 / 16 * 16), .ref 29] (hh S) n := rfl
theorem B_137_9 {X : Nat × (Nat → Int32)} {d : Nat} (n : Nat) (w1 : Value) (w2 : Value) (w3 : Value) (w4 : Value) (w5 : Value) (y6 : Int32) (w7 : Value) (S : St) : ex X (d + 1) 137 233 [.ref 29, w1, w2, w3, w4, w5, .int y6, w7] [.int (y6 / 16), .int (y6 - y6 / 16 * 16), .ref 29] (hh S) (n + 1) = (match ex X d 140 0 [.ref 29, .int (y6 - y6 / 16 * 16), .int (y6 / 16), .retAddr 0] [] (hh S) n with | some (v, h') => ex X (d + 1) 137 236 [.ref 29, w1, w2, w3, w4, w5, .int y6, w7] (v.toList ++ []) h' n | none => none) := rfl
theorem B_137_10 {X : Nat × (Nat → Int32)} {d : Nat} (n : Nat) (w1 : Value) (w2 : Value) (w3 : Value) (w4 : Value) (w5 : Value) (y6 : Int32) (w7 : Value) (S4 : St) : ex X d 137 236 [.ref 29, w1, w2, w3, w4, w5, .int y6, w7] [] (hh S4) (n + 2) = ex X d 137 204 [.ref 29, w1, w2, w3, w4, w5, .int (y6 + 1), w7] [] (hh S4) n := rfl
set_option maxRecDepth 200000 in
theorem TL_137_0 {X : Nat × (Nat → Int32)} : ∀ (n : Nat) (S : St) (y6 : Int32) (r : Unit) (S' : St), GL_137_0 n S y6 = some (r, S') → ∀ (w1 w2 w3 w4 w5 w7 : Value), Ev X 1 137 204 [.ref 29, w1, w2, w3, w4, w5, .int y6, w7] [] (hh S) (xV r, hh S') := by
  intro n
  induction n with
  | zero => intro S y6 r S' hG; simp [GL_137_0] at hG
  | succ n ih =>
    intro S y6 r S' hG w1 w2 w3 w4 w5 w7
    rw [GL_137_0] at hG
    by_cases c1 : 192 ≤ y6
    · rw [if_pos c1] at hG
      refine Ev.t (c := 192 ≤ y6) (p1 := 242) (L1 := [.ref 29, w1, w2, w3, w4, w5, .int y6, w7]) (s1 := []) (h1 := hh S) (p2 := 212) (L2 := [.ref 29, w1, w2, w3, w4, w5, .int y6, w7]) (s2 := []) (h2 := hh S) 3 (fun n => B_137_1 n w1 w2 w3 w4 w5 y6 w7 S) c1 ?_
      obtain ⟨e1, e2⟩ := Prod.mk.inj (Option.some.inj hG)
      subst e1
      subst e2
      exact Ev.r 1 (fun n => rfl)
    · rw [if_neg c1] at hG
      refine Ev.f (c := 192 ≤ y6) (p1 := 242) (L1 := [.ref 29, w1, w2, w3, w4, w5, .int y6, w7]) (s1 := []) (h1 := hh S) (p2 := 212) (L2 := [.ref 29, w1, w2, w3, w4, w5, .int y6, w7]) (s2 := []) (h2 := hh S) 3 (fun n => B_137_2 n w1 w2 w3 w4 w5 y6 w7 S) c1 ?_
      by_cases g2 : xa_in y6 192
      rotate_left
      · rw [if_neg g2] at hG; cases hG
      rw [if_pos g2] at hG
      refine Ev.g (c := (kd 32).1 = 1 ∧ xa_in y6 (kd 32).2) (p1 := 219) (L1 := [.ref 29, w1, w2, w3, w4, w5, .int y6, w7]) (s1 := [.int (S.1 32 (y6).toNatClampNeg)]) (h1 := hh S) 4 (fun n => B_137_3 n w1 w2 w3 w4 w5 y6 w7 S) (⟨rfl, g2⟩) ?_
      by_cases c3 : (S.1 32 (y6).toNatClampNeg) = 0
      · rw [if_pos c3] at hG
        refine Ev.t (c := (S.1 32 (y6).toNatClampNeg) = 0) (p1 := 236) (L1 := [.ref 29, w1, w2, w3, w4, w5, .int y6, w7]) (s1 := []) (h1 := hh S) (p2 := 222) (L2 := [.ref 29, w1, w2, w3, w4, w5, .int y6, w7]) (s2 := []) (h2 := hh S) 1 (fun n => B_137_4 n w1 w2 w3 w4 w5 y6 w7 S) c3 ?_
        exact Ev.b (pc' := 204) (L' := [.ref 29, w1, w2, w3, w4, w5, .int (y6 + 1), w7]) (st' := []) (h' := hh S) 2 (fun n => B_137_5 n w1 w2 w3 w4 w5 y6 w7 S) (ih S (y6 + 1) _ _ hG w1 w2 w3 w4 w5 w7)
      · rw [if_neg c3] at hG
        refine Ev.f (c := (S.1 32 (y6).toNatClampNeg) = 0) (p1 := 236) (L1 := [.ref 29, w1, w2, w3, w4, w5, .int y6, w7]) (s1 := []) (h1 := hh S) (p2 := 222) (L2 := [.ref 29, w1, w2, w3, w4, w5, .int y6, w7]) (s2 := []) (h2 := hh S) 1 (fun n => B_137_6 n w1 w2 w3 w4 w5 y6 w7 S) c3 ?_
        refine Ev.z (c := (16 : Int32) = 0) (p1 := 228) (L1 := [.ref 29, w1, w2, w3, w4, w5, .int y6, w7]) (s1 := [.int (y6 - y6 / 16 * 16), .ref 29]) (h1 := hh S) 4 (fun n => B_137_7 n w1 w2 w3 w4 w5 y6 w7 S) (by decide) ?_
        refine Ev.z (c := (16 : Int32) = 0) (p1 := 233) (L1 := [.ref 29, w1, w2, w3, w4, w5, .int y6, w7]) (s1 := [.int (y6 / 16), .int (y6 - y6 / 16 * 16), .ref 29]) (h1 := hh S) 3 (fun n => B_137_8 n w1 w2 w3 w4 w5 y6 w7 S) (by decide) ?_
        rcases h4 : G_140 S (y6 - y6 / 16 * 16) (y6 / 16) with _ | ⟨v4, S4⟩
        · rw [h4] at hG; cases hG
        rw [h4] at hG
        dsimp only at hG
        refine Ev.c (a := 140) (A := [.ref 29, .int (y6 - y6 / 16 * 16), .int (y6 / 16), .retAddr 0]) (h1 := hh S) (pc' := 236) (L' := [.ref 29, w1, w2, w3, w4, w5, .int y6, w7]) (rest := []) (r1 := none) (h2 := hh S4) 1 (fun n => B_137_9 n w1 w2 w3 w4 w5 y6 w7 S) (Ev.up (by decide) (T_140 S (y6 - y6 / 16 * 16) (y6 / 16) _ _ h4)) ?_
        show Ev X _ 137 236 [.ref 29, w1, w2, w3, w4, w5, .int y6, w7] [] (hh S4) _
        exact Ev.b (pc' := 204) (L' := [.ref 29, w1, w2, w3, w4, w5, .int (y6 + 1), w7]) (st' := []) (h' := hh S4) 2 (fun n => B_137_10 n w1 w2 w3 w4 w5 y6 w7 S4) (ih S4 (y6 + 1) _ _ hG w1 w2 w3 w4 w5 w7)
def GL_137_1 : Nat → Nat → St → Int32 → Int32 → Int32 → Int32 → Option (Unit × St)
  | 0, _, _, _, _, _, _ => none
  | n + 1, 0, S, y3, y5, y6, y7 =>
    (if 192 ≤ y6 then
      GL_137_0 xFu S (0 : Int32)
    else
      (if y5 = 0 then
        GL_137_0 xFu S (0 : Int32)
      else
        GL_137_1 n 1 S y3 (0 : Int32) y6 (0 : Int32)
      )
    )
  | n + 1, _ + 1, S, y3, y5, y6, y7 =>
    (if 192 ≤ y7 then
      GL_137_1 n 0 S y3 y5 (y6 + 1) 0
    else
      (if xa_in y7 192 then
        (if (S.1 32 (y7).toNatClampNeg) = 0 then
          (match G_138 S y7 y3 with
          | none => none
          | some (v10, S10) =>
            (if v10 = 0 then
              GL_137_1 n 1 S10 y3 y5 y6 (y7 + 1)
            else
              (match G_139 S10 y7 with
              | none => none
              | some (v12, S12) =>
                (if v12 = 0 then
                  GL_137_1 n 1 S12 y3 y5 y6 (y7 + 1)
                else
                  GL_137_1 n 1 (xa_u S12.1 32 ((y7).toNatClampNeg) 1, S12.2.1, S12.2.2) y3 (1 : Int32) y6 (y7 + 1)
                )
              )
            )
          )
        else
          GL_137_1 n 1 S y3 y5 y6 (y7 + 1)
        )
      else none)
    )
theorem B_137_11 {X : Nat × (Nat → Int32)} {d : Nat} (n : Nat) (w1 : Value) (w2 : Value) (y3 : Int32) (w4 : Value) (y5 : Int32) (y6 : Int32) (w7 : Value) (S : St) : ex X d 137 122 [.ref 29, w1, w2, .int y3, w4, .int y5, .int y6, w7] [] (hh S) (n + 3) = if 192 ≤ y6 then ex X d 137 201 [.ref 29, w1, w2, .int y3, w4, .int y5, .int y6, w7] [] (hh S) n else ex X d 137 130 [.ref 29, w1, w2, .int y3, w4, .int y5, .int y6, w7] [] (hh S) n := rfl
theorem B_137_12 {X : Nat × (Nat → Int32)} {d : Nat} (n : Nat) (w1 : Value) (w2 : Value) (y3 : Int32) (w4 : Value) (y5 : Int32) (y6 : Int32) (w7 : Value) (S : St) : ex X d 137 201 [.ref 29, w1, w2, .int y3, w4, .int y5, .int y6, w7] [] (hh S) (n + 2) = ex X d 137 204 [.ref 29, w1, w2, .int y3, w4, .int y5, .int 0, w7] [] (hh S) n := rfl
theorem B_137_13 {X : Nat × (Nat → Int32)} {d : Nat} (n : Nat) (w1 : Value) (w2 : Value) (y3 : Int32) (w4 : Value) (y5 : Int32) (y6 : Int32) (w7 : Value) (S : St) : ex X d 137 122 [.ref 29, w1, w2, .int y3, w4, .int y5, .int y6, w7] [] (hh S) (n + 3) = if 192 ≤ y6 then ex X d 137 201 [.ref 29, w1, w2, .int y3, w4, .int y5, .int y6, w7] [] (hh S) n else ex X d 137 130 [.ref 29, w1, w2, .int y3, w4, .int y5, .int y6, w7] [] (hh S) n := rfl
theorem B_137_14 {X : Nat × (Nat → Int32)} {d : Nat} (n : Nat) (w1 : Value) (w2 : Value) (y3 : Int32) (w4 : Value) (y5 : Int32) (y6 : Int32) (w7 : Value) (S : St) : ex X d 137 130 [.ref 29, w1, w2, .int y3, w4, .int y5, .int y6, w7] [] (hh S) (n + 2) = if y5 = 0 then ex X d 137 201 [.ref 29, w1, w2, .int y3, w4, .int y5, .int y6, w7] [] (hh S) n else ex X d 137 135 [.ref 29, w1, w2, .int y3, w4, .int y5, .int y6, w7] [] (hh S) n := rfl
theorem B_137_15 {X : Nat × (Nat → Int32)} {d : Nat} (n : Nat) (w1 : Value) (w2 : Value) (y3 : Int32) (w4 : Value) (y5 : Int32) (y6 : Int32) (w7 : Value) (S : St) : ex X d 137 201 [.ref 29, w1, w2, .int y3, w4, .int y5, .int y6, w7] [] (hh S) (n + 2) = ex X d 137 204 [.ref 29, w1, w2, .int y3, w4, .int y5, .int 0, w7] [] (hh S) n := rfl
theorem B_137_16 {X : Nat × (Nat → Int32)} {d : Nat} (n : Nat) (w1 : Value) (w2 : Value) (y3 : Int32) (w4 : Value) (y5 : Int32) (y6 : Int32) (w7 : Value) (S : St) : ex X d 137 130 [.ref 29, w1, w2, .int y3, w4, .int y5, .int y6, w7] [] (hh S) (n + 2) = if y5 = 0 then ex X d 137 201 [.ref 29, w1, w2, .int y3, w4, .int y5, .int y6, w7] [] (hh S) n else ex X d 137 135 [.ref 29, w1, w2, .int y3, w4, .int y5, .int y6, w7] [] (hh S) n := rfl
theorem B_137_17 {X : Nat × (Nat → Int32)} {d : Nat} (n : Nat) (w1 : Value) (w2 : Value) (y3 : Int32) (w4 : Value) (y5 : Int32) (y6 : Int32) (w7 : Value) (S : St) : ex X d 137 135 [.ref 29, w1, w2, .int y3, w4, .int y5, .int y6, w7] [] (hh S) (n + 4) = ex X d 137 141 [.ref 29, w1, w2, .int y3, w4, .int 0, .int y6, .int 0] [] (hh S) n := rfl
theorem B_137_18 {X : Nat × (Nat → Int32)} {d : Nat} (n : Nat) (w1 : Value) (w2 : Value) (y3 : Int32) (w4 : Value) (y5 : Int32) (y6 : Int32) (y7 : Int32) (S : St) : ex X d 137 141 [.ref 29, w1, w2, .int y3, w4, .int y5, .int y6, .int y7] [] (hh S) (n + 3) = if 192 ≤ y7 then ex X d 137 195 [.ref 29, w1, w2, .int y3, w4, .int y5, .int y6, .int y7] [] (hh S) n else ex X d 137 149 [.ref 29, w1, w2, .int y3, w4, .int y5, .int y6, .int y7] [] (hh S) n := rfl
theorem B_137_19 {X : Nat × (Nat → Int32)} {d : Nat} (n : Nat) (w1 : Value) (w2 : Value) (y3 : Int32) (w4 : Value) (y5 : Int32) (y6 : Int32) (y7 : Int32) (S : St) : ex X d 137 195 [.ref 29, w1, w2, .int y3, w4, .int y5, .int y6, .int y7] [] (hh S) (n + 2) = ex X d 137 122 [.ref 29, w1, w2, .int y3, w4, .int y5, .int (y6 + 1), .int y7] [] (hh S) n := rfl
theorem B_137_20 {X : Nat × (Nat → Int32)} {d : Nat} (n : Nat) (w1 : Value) (w2 : Value) (y3 : Int32) (w4 : Value) (y5 : Int32) (y6 : Int32) (y7 : Int32) (S : St) : ex X d 137 141 [.ref 29, w1, w2, .int y3, w4, .int y5, .int y6, .int y7] [] (hh S) (n + 3) = if 192 ≤ y7 then ex X d 137 195 [.ref 29, w1, w2, .int y3, w4, .int y5, .int y6, .int y7] [] (hh S) n else ex X d 137 149 [.ref 29, w1, w2, .int y3, w4, .int y5, .int y6, .int y7] [] (hh S) n := rfl
theorem B_137_21 {X : Nat × (Nat → Int32)} {d : Nat} (n : Nat) (w1 : Value) (w2 : Value) (y3 : Int32) (w4 : Value) (y5 : Int32) (y6 : Int32) (y7 : Int32) (S : St) : ex X d 137 149 [.ref 29, w1, w2, .int y3, w4, .int y5, .int y6, .int y7] [] (hh S) (n + 4) = if (kd 32).1 = 1 ∧ xa_in y7 (kd 32).2 then ex X d 137 156 [.ref 29, w1, w2, .int y3, w4, .int y5, .int y6, .int y7] [.int (S.1 32 (y7).toNatClampNeg)] (hh S) n else none := rfl
theorem B_137_22 {X : Nat × (Nat → Int32)} {d : Nat} (n : Nat) (w1 : Value) (w2 : Value) (y3 : Int32) (w4 : Value) (y5 : Int32) (y6 : Int32) (y7 : Int32) (S : St) : ex X d 137 156 [.ref 29, w1, w2, .int y3, w4, .int y5, .int y6, .int y7] [.int (S.1 32 (y7).toNatClampNeg)] (hh S) (n + 1) = if (S.1 32 (y7).toNatClampNeg) = 0 then ex X d 137 159 [.ref 29, w1, w2, .int y3, w4, .int y5, .int y6, .int y7] [] (hh S) n else ex X d 137 189 [.ref 29, w1, w2, .int y3, w4, .int y5, .int y6, .int y7] [] (hh S) n := rfl
theorem B_137_23 {X : Nat × (Nat → Int32)} {d : Nat} (n : Nat) (w1 : Value) (w2 : Value) (y3 : Int32) (w4 : Value) (y5 : Int32) (y6 : Int32) (y7 : Int32) (S : St) : ex X (d + 1) 137 159 [.ref 29, w1, w2, .int y3, w4, .int y5, .int y6, .int y7] [] (hh S) (n + 4) = (match ex X d 138 0 [.ref 29, .int y7, .int y3] [] (hh S) n with | some (v, h') => ex X (d + 1) 137 166 [.ref 29, w1, w2, .int y3, w4, .int y5, .int y6, .int y7] (v.toList ++ []) h' n | none => none) := rfl
theorem B_137_24 {X : Nat × (Nat → Int32)} {d : Nat} (n : Nat) (w1 : Value) (w2 : Value) (y3 : Int32) (w4 : Value) (y5 : Int32) (y6 : Int32) (y7 : Int32) (v10 : Int32) (S10 : St) : ex X d 137 166 [.ref 29, w1, w2, .int y3, w4, .int y5, .int y6, .int y7] [.int v10] (hh S10) (n + 1) = if v10 = 0 then ex X d 137 189 [.ref 29, w1, w2, .int y3, w4, .int y5, .int y6, .int y7] [] (hh S10) n else ex X d 137 169 [.ref 29, w1, w2, .int y3, w4, .int y5, .int y6, .int y7] [] (hh S10) n := rfl
theorem B_137_25 {X : Nat × (Nat → Int32)} {d : Nat} (n : Nat) (w1 : Value) (w2 : Value) (y3 : Int32) (w4 : Value) (y5 : Int32) (y6 : Int32) (y7 : Int32) (S10 : St) : ex X d 137 189 [.ref 29, w1, w2, .int y3, w4, .int y5, .int y6, .int y7] [] (hh S10) (n + 2) = ex X d 137 141 [.ref 29, w1, w2, .int y3, w4, .int y5, .int y6, .int (y7 + 1)] [] (hh S10) n := rfl
theorem B_137_26 {X : Nat × (Nat → Int32)} {d : Nat} (n : Nat) (w1 : Value) (w2 : Value) (y3 : Int32) (w4 : Value) (y5 : Int32) (y6 : Int32) (y7 : Int32) (v10 : Int32) (S10 : St) : ex X d 137 166 [.ref 29, w1, w2, .int y3, w4, .int y5, .int y6, .int y7] [.int v10] (hh S10) (n + 1) = if v10 = 0 then ex X d 137 189 [.ref 29, w1, w2, .int y3, w4, .int y5, .int y6, .int y7] [] (hh S10) n else ex X d 137 169 [.ref 29, w1, w2, .int y3, w4, .int y5, .int y6, .int y7] [] (hh S10) n := rfl
theorem B_137_27 {X : Nat × (Nat → Int32)} {d : Nat} (n : Nat) (w1 : Value) (w2 : Value) (y3 : Int32) (w4 : Value) (y5 : Int32) (y6 : Int32) (y7 : Int32) (S10 : St) : ex X (d + 1) 137 169 [.ref 29, w1, w2, .int y3, w4, .int y5, .int y6, .int y7] [] (hh S10) (n + 3) = (match ex X d 139 0 [.ref 29, .int y7, .retAddr 0] [] (hh S10) n with | some (v, h') => ex X (d + 1) 137 175 [.ref 29, w1, w2, .int y3, w4, .int y5, .int y6, .int y7] (v.toList ++ []) h' n | none => none) := rfl
theorem B_137_28 {X : Nat × (Nat → Int32)} {d : Nat} (n : Nat) (w1 : Value) (w2 : Value) (y3 : Int32) (w4 : Value) (y5 : Int32) (y6 : Int32) (y7 : Int32) (v12 : Int32) (S12 : St) : ex X d 137 175 [.ref 29, w1, w2, .int y3, w4, .int y5, .int y6, .int y7] [.int v12] (hh S12) (n + 1) = if v12 = 0 then ex X d 137 189 [.ref 29, w1, w2, .int y3, w4, .int y5, .int y6, .int y7] [] (hh S12) n else ex X d 137 178 [.ref 29, w1, w2, .int y3, w4, .int y5, .int y6, .int y7] [] (hh S12) n := rfl
theorem B_137_29 {X : Nat × (Nat → Int32)} {d : Nat} (n : Nat) (w1 : Value) (w2 : Value) (y3 : Int32) (w4 : Value) (y5 : Int32) (y6 : Int32) (y7 : Int32) (S12 : St) : ex X d 137 189 [.ref 29, w1, w2, .int y3, w4, .int y5, .int y6, .int y7] [] (hh S12) (n + 2) = ex X d 137 141 [.ref 29, w1, w2, .int y3, w4, .int y5, .int y6, .int (y7 + 1)] [] (hh S12) n := rfl
theorem B_137_30 {X : Nat × (Nat → Int32)} {d : Nat} (n : Nat) (w1 : Value) (w2 : Value) (y3 : Int32) (w4 : Value) (y5 : Int32) (y6 : Int32) (y7 : Int32) (v12 : Int32) (S12 : St) : ex X d 137 175 [.ref 29, w1, w2, .int y3, w4, .int y5, .int y6, .int y7] [.int v12] (hh S12) (n + 1) = if v12 = 0 then ex X d 137 189 [.ref 29, w1, w2, .int y3, w4, .int y5, .int y6, .int y7] [] (hh S12) n else ex X d 137 178 [.ref 29, w1, w2, .int y3, w4, .int y5, .int y6, .int y7] [] (hh S12) n := rfl
theorem B_137_31 {X : Nat × (Nat → Int32)} {d : Nat} (n : Nat) (w1 : Value) (w2 : Value) (y3 : Int32) (w4 : Value) (y5 : Int32) (y6 : Int32) (y7 : Int32) (S12 : St) : ex X d 137 178 [.ref 29, w1, w2, .int y3, w4, .int y5, .int y6, .int y7] [] (hh S12) (n + 5) = if (kd 32).1 = 1 ∧ xa_in y7 (kd 32).2 ∧ ((1 : Int32) = 0 ∨ (1 : Int32) = 1) then ex X d 137 186 [.ref 29, w1, w2, .int y3, w4, .int y5, .int y6, .int y7] [] (hh (xa_u S12.1 32 ((y7).toNatClampNeg) 1, S12.2.1, S12.2.2)) n else none := rfl
theorem B_137_32 {X : Nat × (Nat → Int32)} {d : Nat} (n : Nat) (w1 : Value) (w2 : Value) (y3 : Int32) (w4 : Value) (y5 : Int32) (y6 : Int32) (y7 : Int32) (S12 : St) : ex X d 137 186 [.ref 29, w1, w2, .int y3, w4, .int y5, .int y6, .int y7] [] (hh (xa_u S12.1 32 ((y7).toNatClampNeg) 1, S12.2.1, S12.2.2)) (n + 4) = ex X d 137 141 [.ref 29, w1, w2, .int y3, w4, .int 1, .int y6, .int (y7 + 1)] [] (hh (xa_u S12.1 32 ((y7).toNatClampNeg) 1, S12.2.1, S12.2.2)) n := rfl
theorem B_137_33 {X : Nat × (Nat → Int32)} {d : Nat} (n : Nat) (w1 : Value) (w2 : Value) (y3 : Int32) (w4 : Value) (y5 : Int32) (y6 : Int32) (y7 : Int32) (S : St) : ex X d 137 156 [.ref 29, w1, w2, .int y3, w4, .int y5, .int y6, .int y7] [.int (S.1 32 (y7).toNatClampNeg)] (hh S) (n + 1) = if (S.1 32 (y7).toNatClampNeg) = 0 then ex X d 137 159 [.ref 29, w1, w2, .int y3, w4, .int y5, .int y6, .int y7] [] (hh S) n else ex X d 137 189 [.ref 29, w1, w2, .int y3, w4, .int y5, .int y6, .int y7] [] (hh S) n := rfl
theorem B_137_34 {X : Nat × (Nat → Int32)} {d : Nat} (n : Nat) (w1 : Value) (w2 : Value) (y3 : Int32) (w4 : Value) (y5 : Int32) (y6 : Int32) (y7 : Int32) (S : St) : ex X d 137 189 [.ref 29, w1, w2, .int y3, w4, .int y5, .int y6, .int y7] [] (hh S) (n + 2) = ex X d 137 141 [.ref 29, w1, w2, .int y3, w4, .int y5, .int y6, .int (y7 + 1)] [] (hh S) n := rfl
set_option maxRecDepth 200000 in
theorem TL_137_1 {X : Nat × (Nat → Int32)} : ∀ (n : Nat) (S : St) (y3 : Int32) (y5 : Int32) (y6 : Int32) (y7 : Int32) (r : Unit) (S' : St), (GL_137_1 n 0 S y3 y5 y6 y7 = some (r, S') → ∀ (w1 w2 w4 w7 : Value), Ev X 1 137 122 [.ref 29, w1, w2, .int y3, w4, .int y5, .int y6, w7] [] (hh S) (xV r, hh S')) ∧ (GL_137_1 n 1 S y3 y5 y6 y7 = some (r, S') → ∀ (w1 w2 w4 : Value), Ev X 1 137 141 [.ref 29, w1, w2, .int y3, w4, .int y5, .int y6, .int y7] [] (hh S) (xV r, hh S')) := by
  intro n
  induction n with
  | zero => intro S y3 y5 y6 y7 r S'; refine ⟨?_, ?_⟩ <;> intro hG <;> simp [GL_137_1] at hG
  | succ n ih =>
    intro S y3 y5 y6 y7 r S'
    refine ⟨?_, ?_⟩
    · intro hG w1 w2 w4 w7
      rw [GL_137_1] at hG
      by_cases c5 : 192 ≤ y6
      · rw [if_pos c5] at hG
        refine Ev.t (c := 192 ≤ y6) (p1 := 201) (L1 := [.ref 29, w1, w2, .int y3, w4, .int y5, .int y6, w7]) (s1 := []) (h1 := hh S) (p2 := 130) (L2 := [.ref 29, w1, w2, .int y3, w4, .int y5, .int y6, w7]) (s2 := []) (h2 := hh S) 3 (fun n => B_137_11 n w1 w2 y3 w4 y5 y6 w7 S) c5 ?_
        exact Ev.b (pc' := 204) (L' := [.ref 29, w1, w2, .int y3, w4, .int y5, .int 0, w7]) (st' := []) (h' := hh S) 2 (fun n => B_137_12 n w1 w2 y3 w4 y5 y6 w7 S) (TL_137_0 xFu S (0 : Int32) _ _ hG w1 w2 (.int y3) w4 (.int y5) w7)
      · rw [if_neg c5] at hG
        refine Ev.f (c := 192 ≤ y6) (p1 := 201) (L1 := [.ref 29, w1, w2, .int y3, w4, .int y5, .int y6, w7]) (s1 := []) (h1 := hh S) (p2 := 130) (L2 := [.ref 29, w1, w2, .int y3, w4, .int y5, .int y6, w7]) (s2 := []) (h2 := hh S) 3 (fun n => B_137_13 n w1 w2 y3 w4 y5 y6 w7 S) c5 ?_
        by_cases c6 : y5 = 0
        · rw [if_pos c6] at hG
          refine Ev.t (c := y5 = 0) (p1 := 201) (L1 := [.ref 29, w1, w2, .int y3, w4, .int y5, .int y6, w7]) (s1 := []) (h1 := hh S) (p2 := 135) (L2 := [.ref 29, w1, w2, .int y3, w4, .int y5, .int y6, w7]) (s2 := []) (h2 := hh S) 2 (fun n => B_137_14 n w1 w2 y3 w4 y5 y6 w7 S) c6 ?_
          exact Ev.b (pc' := 204) (L' := [.ref 29, w1, w2, .int y3, w4, .int y5, .int 0, w7]) (st' := []) (h' := hh S) 2 (fun n => B_137_15 n w1 w2 y3 w4 y5 y6 w7 S) (TL_137_0 xFu S (0 : Int32) _ _ hG w1 w2 (.int y3) w4 (.int y5) w7)
        · rw [if_neg c6] at hG
          refine Ev.f (c := y5 = 0) (p1 := 201) (L1 := [.ref 29, w1, w2, .int y3, w4, .int y5, .int y6, w7]) (s1 := []) (h1 := hh S) (p2 := 135) (L2 := [.ref 29, w1, w2, .int y3, w4, .int y5, .int y6, w7]) (s2 := []) (h2 := hh S) 2 (fun n => B_137_16 n w1 w2 y3 w4 y5 y6 w7 S) c6 ?_
          exact Ev.b (pc' := 141) (L' := [.ref 29, w1, w2, .int y3, w4, .int 0, .int y6, .int 0]) (st' := []) (h' := hh S) 4 (fun n => B_137_17 n w1 w2 y3 w4 y5 y6 w7 S) ((ih S y3 (0 : Int32) y6 (0 : Int32) _ _).2 hG w1 w2 w4)
    · intro hG w1 w2 w4
      rw [GL_137_1] at hG
      by_cases c7 : 192 ≤ y7
      · rw [if_pos c7] at hG
        refine Ev.t (c := 192 ≤ y7) (p1 := 195) (L1 := [.ref 29, w1, w2, .int y3, w4, .int y5, .int y6, .int y7]) (s1 := []) (h1 := hh S) (p2 := 149) (L2 := [.ref 29, w1, w2, .int y3, w4, .int y5, .int y6, .int y7]) (s2 := []) (h2 := hh S) 3 (fun n => B_137_18 n w1 w2 y3 w4 y5 y6 y7 S) c7 ?_
        exact Ev.b (pc' := 122) (L' := [.ref 29, w1, w2, .int y3, w4, .int y5, .int (y6 + 1), .int y7]) (st' := []) (h' := hh S) 2 (fun n => B_137_19 n w1 w2 y3 w4 y5 y6 y7 S) ((ih S y3 y5 (y6 + 1) 0 _ _).1 hG w1 w2 w4 (.int y7))
      · rw [if_neg c7] at hG
        refine Ev.f (c := 192 ≤ y7) (p1 := 195) (L1 := [.ref 29, w1, w2, .int y3, w4, .int y5, .int y6, .int y7]) (s1 := []) (h1 := hh S) (p2 := 149) (L2 := [.ref 29, w1, w2, .int y3, w4, .int y5, .int y6, .int y7]) (s2 := []) (h2 := hh S) 3 (fun n => B_137_20 n w1 w2 y3 w4 y5 y6 y7 S) c7 ?_
        by_cases g8 : xa_in y7 192
        rotate_left
        · rw [if_neg g8] at hG; cases hG
        rw [if_pos g8] at hG
        refine Ev.g (c := (kd 32).1 = 1 ∧ xa_in y7 (kd 32).2) (p1 := 156) (L1 := [.ref 29, w1, w2, .int y3, w4, .int y5, .int y6, .int y7]) (s1 := [.int (S.1 32 (y7).toNatClampNeg)]) (h1 := hh S) 4 (fun n => B_137_21 n w1 w2 y3 w4 y5 y6 y7 S) (⟨rfl, g8⟩) ?_
        by_cases c9 : (S.1 32 (y7).toNatClampNeg) = 0
        · rw [if_pos c9] at hG
          refine Ev.t (c := (S.1 32 (y7).toNatClampNeg) = 0) (p1 := 159) (L1 := [.ref 29, w1, w2, .int y3, w4, .int y5, .int y6, .int y7]) (s1 := []) (h1 := hh S) (p2 := 189) (L2 := [.ref 29, w1, w2, .int y3, w4, .int y5, .int y6, .int y7]) (s2 := []) (h2 := hh S) 1 (fun n => B_137_22 n w1 w2 y3 w4 y5 y6 y7 S) c9 ?_
          rcases h10 : G_138 S y7 y3 with _ | ⟨v10, S10⟩
          · rw [h10] at hG; cases hG
          rw [h10] at hG
          dsimp only at hG
          refine Ev.c (a := 138) (A := [.ref 29, .int y7, .int y3]) (h1 := hh S) (pc' := 166) (L' := [.ref 29, w1, w2, .int y3, w4, .int y5, .int y6, .int y7]) (rest := []) (r1 := some (.int v10)) (h2 := hh S10) 4 (fun n => B_137_23 n w1 w2 y3 w4 y5 y6 y7 S) (Ev.up (by decide) (T_138 S y7 y3 _ _ h10)) ?_
          show Ev X _ 137 166 [.ref 29, w1, w2, .int y3, w4, .int y5, .int y6, .int y7] [.int v10] (hh S10) _
          by_cases c11 : v10 = 0
          · rw [if_pos c11] at hG
            refine Ev.t (c := v10 = 0) (p1 := 189) (L1 := [.ref 29, w1, w2, .int y3, w4, .int y5, .int y6, .int y7]) (s1 := []) (h1 := hh S10) (p2 := 169) (L2 := [.ref 29, w1, w2, .int y3, w4, .int y5, .int y6, .int y7]) (s2 := []) (h2 := hh S10) 1 (fun n => B_137_24 n w1 w2 y3 w4 y5 y6 y7 v10 S10) c11 ?_
            exact Ev.b (pc' := 141) (L' := [.ref 29, w1, w2, .int y3, w4, .int y5, .int y6, .int (y7 + 1)]) (st' := []) (h' := hh S10) 2 (fun n => B_137_25 n w1 w2 y3 w4 y5 y6 y7 S10) ((ih S10 y3 y5 y6 (y7 + 1) _ _).2 hG w1 w2 w4)
          · rw [if_neg c11] at hG
            refine Ev.f (c := v10 = 0) (p1 := 189) (L1 := [.ref 29, w1, w2, .int y3, w4, .int y5, .int y6, .int y7]) (s1 := []) (h1 := hh S10) (p2 := 169) (L2 := [.ref 29, w1, w2, .int y3, w4, .int y5, .int y6, .int y7]) (s2 := []) (h2 := hh S10) 1 (fun n => B_137_26 n w1 w2 y3 w4 y5 y6 y7 v10 S10) c11 ?_
            rcases h12 : G_139 S10 y7 with _ | ⟨v12, S12⟩
            · rw [h12] at hG; cases hG
            rw [h12] at hG
            dsimp only at hG
            refine Ev.c (a := 139) (A := [.ref 29, .int y7, .retAddr 0]) (h1 := hh S10) (pc' := 175) (L' := [.ref 29, w1, w2, .int y3, w4, .int y5, .int y6, .int y7]) (rest := []) (r1 := some (.int v12)) (h2 := hh S12) 3 (fun n => B_137_27 n w1 w2 y3 w4 y5 y6 y7 S10) (Ev.up (by decide) (T_139 S10 y7 _ _ h12)) ?_
            show Ev X _ 137 175 [.ref 29, w1, w2, .int y3, w4, .int y5, .int y6, .int y7] [.int v12] (hh S12) _
            by_cases c13 : v12 = 0
            · rw [if_pos c13] at hG
              refine Ev.t (c := v12 = 0) (p1 := 189) (L1 := [.ref 29, w1, w2, .int y3, w4, .int y5, .int y6, .int y7]) (s1 := []) (h1 := hh S12) (p2 := 178) (L2 := [.ref 29, w1, w2, .int y3, w4, .int y5, .int y6, .int y7]) (s2 := []) (h2 := hh S12) 1 (fun n => B_137_28 n w1 w2 y3 w4 y5 y6 y7 v12 S12) c13 ?_
              exact Ev.b (pc' := 141) (L' := [.ref 29, w1, w2, .int y3, w4, .int y5, .int y6, .int (y7 + 1)]) (st' := []) (h' := hh S12) 2 (fun n => B_137_29 n w1 w2 y3 w4 y5 y6 y7 S12) ((ih S12 y3 y5 y6 (y7 + 1) _ _).2 hG w1 w2 w4)
            · rw [if_neg c13] at hG
              refine Ev.f (c := v12 = 0) (p1 := 189) (L1 := [.ref 29, w1, w2, .int y3, w4, .int y5, .int y6, .int y7]) (s1 := []) (h1 := hh S12) (p2 := 178) (L2 := [.ref 29, w1, w2, .int y3, w4, .int y5, .int y6, .int y7]) (s2 := []) (h2 := hh S12) 1 (fun n => B_137_30 n w1 w2 y3 w4 y5 y6 y7 v12 S12) c13 ?_
              refine Ev.g (c := (kd 32).1 = 1 ∧ xa_in y7 (kd 32).2 ∧ ((1 : Int32) = 0 ∨ (1 : Int32) = 1)) (p1 := 186) (L1 := [.ref 29, w1, w2, .int y3, w4, .int y5, .int y6, .int y7]) (s1 := []) (h1 := hh (xa_u S12.1 32 ((y7).toNatClampNeg) 1, S12.2.1, S12.2.2)) 5 (fun n => B_137_31 n w1 w2 y3 w4 y5 y6 y7 S12) (⟨rfl, g8, by decide⟩) ?_
              exact Ev.b (pc' := 141) (L' := [.ref 29, w1, w2, .int y3, w4, .int 1, .int y6, .int (y7 + 1)]) (st' := []) (h' := hh (xa_u S12.1 32 ((y7).toNatClampNeg) 1, S12.2.1, S12.2.2)) 4 (fun n => B_137_32 n w1 w2 y3 w4 y5 y6 y7 S12) ((ih (xa_u S12.1 32 ((y7).toNatClampNeg) 1, S12.2.1, S12.2.2) y3 (1 : Int32) y6 (y7 + 1) _ _).2 hG w1 w2 w4)
        · rw [if_neg c9] at hG
          refine Ev.f (c := (S.1 32 (y7).toNatClampNeg) = 0) (p1 := 159) (L1 := [.ref 29, w1, w2, .int y3, w4, .int y5, .int y6, .int y7]) (s1 := []) (h1 := hh S) (p2 := 189) (L2 := [.ref 29, w1, w2, .int y3, w4, .int y5, .int y6, .int y7]) (s2 := []) (h2 := hh S) 1 (fun n => B_137_33 n w1 w2 y3 w4 y5 y6 y7 S) c9 ?_
          exact Ev.b (pc' := 141) (L' := [.ref 29, w1, w2, .int y3, w4, .int y5, .int y6, .int (y7 + 1)]) (st' := []) (h' := hh S) 2 (fun n => B_137_34 n w1 w2 y3 w4 y5 y6 y7 S) ((ih S y3 y5 y6 (y7 + 1) _ _).2 hG w1 w2 w4)
def GL_137_2 : Nat → St → Int32 → Int32 → Int32 → Int32 → Option (Unit × St)
  | 0, _, _, _, _, _ => none
  | n + 1, S, y1, y2, y3, y5 =>
    (if 192 ≤ y5 then
      GL_137_1 xFu 0 S y3 (1 : Int32) (0 : Int32) 0
    else
      (if y5 = ((16 * y2) + y1) then
        (if xa_in y5 192 then
          GL_137_2 n (xa_u S.1 32 ((y5).toNatClampNeg) 1, S.2.1, S.2.2) y1 y2 y3 (y5 + 1)
        else none)
      else
        (if xa_in y5 192 then
          GL_137_2 n (xa_u S.1 32 ((y5).toNatClampNeg) 0, S.2.1, S.2.2) y1 y2 y3 (y5 + 1)
        else none)
      )
    )
theorem B_137_35 {X : Nat × (Nat → Int32)} {d : Nat} (n : Nat) (y1 : Int32) (y2 : Int32) (y3 : Int32) (w4 : Value) (y5 : Int32) (w6 : Value) (w7 : Value) (S : St) : ex X d 137 79 [.ref 29, .int y1, .int y2, .int y3, w4, .int y5, w6, w7] [] (hh S) (n + 3) = if 192 ≤ y5 then ex X d 137 116 [.ref 29, .int y1, .int y2, .int y3, w4, .int y5, w6, w7] [] (hh S) n else ex X d 137 87 [.ref 29, .int y1, .int y2, .int y3, w4, .int y5, w6, w7] [] (hh S) n := rfl
theorem B_137_36 {X : Nat × (Nat → Int32)} {d : Nat} (n : Nat) (y1 : Int32) (y2 : Int32) (y3 : Int32) (w4 : Value) (y5 : Int32) (w6 : Value) (w7 : Value) (S : St) : ex X d 137 116 [.ref 29, .int y1, .int y2, .int y3, w4, .int y5, w6, w7] [] (hh S) (n + 4) = ex X d 137 122 [.ref 29, .int y1, .int y2, .int y3, w4, .int 1, .int 0, w7] [] (hh S) n := rfl
theorem B_137_37 {X : Nat × (Nat → Int32)} {d : Nat} (n : Nat) (y1 : Int32) (y2 : Int32) (y3 : Int32) (w4 : Value) (y5 : Int32) (w6 : Value) (w7 : Value) (S : St) : ex X d 137 79 [.ref 29, .int y1, .int y2, .int y3, w4, .int y5, w6, w7] [] (hh S) (n + 3) = if 192 ≤ y5 then ex X d 137 116 [.ref 29, .int y1, .int y2, .int y3, w4, .int y5, w6, w7] [] (hh S) n else ex X d 137 87 [.ref 29, .int y1, .int y2, .int y3, w4, .int y5, w6, w7] [] (hh S) n := rfl
theorem B_137_38 {X : Nat × (Nat → Int32)} {d : Nat} (n : Nat) (y1 : Int32) (y2 : Int32) (y3 : Int32) (w4 : Value) (y5 : Int32) (w6 : Value) (w7 : Value) (S : St) : ex X d 137 87 [.ref 29, .int y1, .int y2, .int y3, w4, .int y5, w6, w7] [] (hh S) (n + 10) = if y5 = ((16 * y2) + y1) then ex X d 137 104 [.ref 29, .int y1, .int y2, .int y3, w4, .int y5, w6, w7] [.int y5, .ref 32] (hh S) n else ex X d 137 108 [.ref 29, .int y1, .int y2, .int y3, w4, .int y5, w6, w7] [.int y5, .ref 32] (hh S) n := rfl
theorem B_137_39 {X : Nat × (Nat → Int32)} {d : Nat} (n : Nat) (y1 : Int32) (y2 : Int32) (y3 : Int32) (w4 : Value) (y5 : Int32) (w6 : Value) (w7 : Value) (S : St) : ex X d 137 104 [.ref 29, .int y1, .int y2, .int y3, w4, .int y5, w6, w7] [.int y5, .ref 32] (hh S) (n + 3) = if (kd 32).1 = 1 ∧ xa_in y5 (kd 32).2 ∧ ((1 : Int32) = 0 ∨ (1 : Int32) = 1) then ex X d 137 110 [.ref 29, .int y1, .int y2, .int y3, w4, .int y5, w6, w7] [] (hh (xa_u S.1 32 ((y5).toNatClampNeg) 1, S.2.1, S.2.2)) n else none := rfl
theorem B_137_40 {X : Nat × (Nat → Int32)} {d : Nat} (n : Nat) (y1 : Int32) (y2 : Int32) (y3 : Int32) (w4 : Value) (y5 : Int32) (w6 : Value) (w7 : Value) (S : St) : ex X d 137 110 [.ref 29, .int y1, .int y2, .int y3, w4, .int y5, w6, w7] [] (hh (xa_u S.1 32 ((y5).toNatClampNeg) 1, S.2.1, S.2.2)) (n + 2) = ex X d 137 79 [.ref 29, .int y1, .int y2, .int y3, w4, .int (y5 + 1), w6, w7] [] (hh (xa_u S.1 32 ((y5).toNatClampNeg) 1, S.2.1, S.2.2)) n := rfl
theorem B_137_41 {X : Nat × (Nat → Int32)} {d : Nat} (n : Nat) (y1 : Int32) (y2 : Int32) (y3 : Int32) (w4 : Value) (y5 : Int32) (w6 : Value) (w7 : Value) (S : St) : ex X d 137 87 [.ref 29, .int y1, .int y2, .int y3, w4, .int y5, w6, w7] [] (hh S) (n + 10) = if y5 = ((16 * y2) + y1) then ex X d 137 104 [.ref 29, .int y1, .int y2, .int y3, w4, .int y5, w6, w7] [.int y5, .ref 32] (hh S) n else ex X d 137 108 [.ref 29, .int y1, .int y2, .int y3, w4, .int y5, w6, w7] [.int y5, .ref 32] (hh S) n := rfl
theorem B_137_42 {X : Nat × (Nat → Int32)} {d : Nat} (n : Nat) (y1 : Int32) (y2 : Int32) (y3 : Int32) (w4 : Value) (y5 : Int32) (w6 : Value) (w7 : Value) (S : St) : ex X d 137 108 [.ref 29, .int y1, .int y2, .int y3, w4, .int y5, w6, w7] [.int y5, .ref 32] (hh S) (n + 2) = if (kd 32).1 = 1 ∧ xa_in y5 (kd 32).2 ∧ ((0 : Int32) = 0 ∨ (0 : Int32) = 1) then ex X d 137 110 [.ref 29, .int y1, .int y2, .int y3, w4, .int y5, w6, w7] [] (hh (xa_u S.1 32 ((y5).toNatClampNeg) 0, S.2.1, S.2.2)) n else none := rfl
theorem B_137_43 {X : Nat × (Nat → Int32)} {d : Nat} (n : Nat) (y1 : Int32) (y2 : Int32) (y3 : Int32) (w4 : Value) (y5 : Int32) (w6 : Value) (w7 : Value) (S : St) : ex X d 137 110 [.ref 29, .int y1, .int y2, .int y3, w4, .int y5, w6, w7] [] (hh (xa_u S.1 32 ((y5).toNatClampNeg) 0, S.2.1, S.2.2)) (n + 2) = ex X d 137 79 [.ref 29, .int y1, .int y2, .int y3, w4, .int (y5 + 1), w6, w7] [] (hh (xa_u S.1 32 ((y5).toNatClampNeg) 0, S.2.1, S.2.2)) n := rfl
set_option maxRecDepth 200000 in
theorem TL_137_2 {X : Nat × (Nat → Int32)} : ∀ (n : Nat) (S : St) (y1 : Int32) (y2 : Int32) (y3 : Int32) (y5 : Int32) (r : Unit) (S' : St), GL_137_2 n S y1 y2 y3 y5 = some (r, S') → ∀ (w4 w6 w7 : Value), Ev X 1 137 79 [.ref 29, .int y1, .int y2, .int y3, w4, .int y5, w6, w7] [] (hh S) (xV r, hh S') := by
  intro n
  induction n with
  | zero => intro S y1 y2 y3 y5 r S' hG; simp [GL_137_2] at hG
  | succ n ih =>
    intro S y1 y2 y3 y5 r S' hG w4 w6 w7
    rw [GL_137_2] at hG
    by_cases c14 : 192 ≤ y5
    · rw [if_pos c14] at hG
      refine Ev.t (c := 192 ≤ y5) (p1 := 116) (L1 := [.ref 29, .int y1, .int y2, .int y3, w4, .int y5, w6, w7]) (s1 := []) (h1 := hh S) (p2 := 87) (L2 := [.ref 29, .int y1, .int y2, .int y3, w4, .int y5, w6, w7]) (s2 := []) (h2 := hh S) 3 (fun n => B_137_35 n y1 y2 y3 w4 y5 w6 w7 S) c14 ?_
      exact Ev.b (pc' := 122) (L' := [.ref 29, .int y1, .int y2, .int y3, w4, .int 1, .int 0, w7]) (st' := []) (h' := hh S) 4 (fun n => B_137_36 n y1 y2 y3 w4 y5 w6 w7 S) ((TL_137_1 xFu S y3 (1 : Int32) (0 : Int32) 0 _ _).1 hG (.int y1) (.int y2) w4 w7)
    · rw [if_neg c14] at hG
      refine Ev.f (c := 192 ≤ y5) (p1 := 116) (L1 := [.ref 29, .int y1, .int y2, .int y3, w4, .int y5, w6, w7]) (s1 := []) (h1 := hh S) (p2 := 87) (L2 := [.ref 29, .int y1, .int y2, .int y3, w4, .int y5, w6, w7]) (s2 := []) (h2 := hh S) 3 (fun n => B_137_37 n y1 y2 y3 w4 y5 w6 w7 S) c14 ?_
      by_cases c15 : y5 = ((16 * y2) + y1)
      · rw [if_pos c15] at hG
        refine Ev.t (c := y5 = ((16 * y2) + y1)) (p1 := 104) (L1 := [.ref 29, .int y1, .int y2, .int y3, w4, .int y5, w6, w7]) (s1 := [.int y5, .ref 32]) (h1 := hh S) (p2 := 108) (L2 := [.ref 29, .int y1, .int y2, .int y3, w4, .int y5, w6, w7]) (s2 := [.int y5, .ref 32]) (h2 := hh S) 10 (fun n => B_137_38 n y1 y2 y3 w4 y5 w6 w7 S) c15 ?_
        by_cases g16 : xa_in y5 192
        rotate_left
        · rw [if_neg g16] at hG; cases hG
        rw [if_pos g16] at hG
        refine Ev.g (c := (kd 32).1 = 1 ∧ xa_in y5 (kd 32).2 ∧ ((1 : Int32) = 0 ∨ (1 : Int32) = 1)) (p1 := 110) (L1 := [.ref 29, .int y1, .int y2, .int y3, w4, .int y5, w6, w7]) (s1 := []) (h1 := hh (xa_u S.1 32 ((y5).toNatClampNeg) 1, S.2.1, S.2.2)) 3 (fun n => B_137_39 n y1 y2 y3 w4 y5 w6 w7 S) (⟨rfl, g16, by decide⟩) ?_
        exact Ev.b (pc' := 79) (L' := [.ref 29, .int y1, .int y2, .int y3, w4, .int (y5 + 1), w6, w7]) (st' := []) (h' := hh (xa_u S.1 32 ((y5).toNatClampNeg) 1, S.2.1, S.2.2)) 2 (fun n => B_137_40 n y1 y2 y3 w4 y5 w6 w7 S) (ih (xa_u S.1 32 ((y5).toNatClampNeg) 1, S.2.1, S.2.2) y1 y2 y3 (y5 + 1) _ _ hG w4 w6 w7)
      · rw [if_neg c15] at hG
        refine Ev.f (c := y5 = ((16 * y2) + y1)) (p1 := 104) (L1 := [.ref 29, .int y1, .int y2, .int y3, w4, .int y5, w6, w7]) (s1 := [.int y5, .ref 32]) (h1 := hh S) (p2 := 108) (L2 := [.ref 29, .int y1, .int y2, .int y3, w4, .int y5, w6, w7]) (s2 := [.int y5, .ref 32]) (h2 := hh S) 10 (fun n => B_137_41 n y1 y2 y3 w4 y5 w6 w7 S) c15 ?_
        by_cases g17 : xa_in y5 192
        rotate_left
        · rw [if_neg g17] at hG; cases hG
        rw [if_pos g17] at hG
        refine Ev.g (c := (kd 32).1 = 1 ∧ xa_in y5 (kd 32).2 ∧ ((0 : Int32) = 0 ∨ (0 : Int32) = 1)) (p1 := 110) (L1 := [.ref 29, .int y1, .int y2, .int y3, w4, .int y5, w6, w7]) (s1 := []) (h1 := hh (xa_u S.1 32 ((y5).toNatClampNeg) 0, S.2.1, S.2.2)) 2 (fun n => B_137_42 n y1 y2 y3 w4 y5 w6 w7 S) (⟨rfl, g17, by decide⟩) ?_
        exact Ev.b (pc' := 79) (L' := [.ref 29, .int y1, .int y2, .int y3, w4, .int (y5 + 1), w6, w7]) (st' := []) (h' := hh (xa_u S.1 32 ((y5).toNatClampNeg) 0, S.2.1, S.2.2)) 2 (fun n => B_137_43 n y1 y2 y3 w4 y5 w6 w7 S) (ih (xa_u S.1 32 ((y5).toNatClampNeg) 0, S.2.1, S.2.2) y1 y2 y3 (y5 + 1) _ _ hG w4 w6 w7)
def G_137 (S : St) (x1 : Int32) (x2 : Int32) : Option (Unit × St) :=
  (if (S.1 29 13) < 0 then
    (if (S.1 29 14) < 0 then
      some ((), S)
    else
      (if (S.1 29 14) = 4 then
        some ((), S)
      else
        (match G_138 S ((16 * x2) + x1) (0 : Int32) with
        | none => none
        | some (v21, S21) =>
          (if v21 = 0 then
            some ((), S21)
          else
            GL_137_2 xFu S21 x1 x2 (0 : Int32) (0 : Int32)
          )
        )
      )
    )
  else
    (if (S.1 29 13) = 15 then
      some ((), S)
    else
      (match G_138 S ((16 * x2) + x1) (1 : Int32) with
      | none => none
      | some (v24, S24) =>
        (if v24 = 0 then
          some ((), S24)
        else
          GL_137_2 xFu S24 x1 x2 (1 : Int32) (0 : Int32)
        )
      )
    )
  )
theorem B_137_44 {X : Nat × (Nat → Int32)} {d : Nat} (n : Nat) (x1 : Int32) (x2 : Int32) (S : St) : ex X d 137 0 [.ref 29, .int x1, .int x2, .retAddr 0, .retAddr 0, .retAddr 0, .retAddr 0, .retAddr 0] [] (hh S) (n + 3) = if (S.1 29 13) < 0 then ex X d 137 11 [.ref 29, .int x1, .int x2, .retAddr 0, .retAddr 0, .retAddr 0, .retAddr 0, .retAddr 0] [] (hh S) n else ex X d 137 7 [.ref 29, .int x1, .int x2, .retAddr 0, .retAddr 0, .retAddr 0, .retAddr 0, .retAddr 0] [] (hh S) n := rfl
theorem B_137_45 {X : Nat × (Nat → Int32)} {d : Nat} (n : Nat) (x1 : Int32) (x2 : Int32) (S : St) : ex X d 137 11 [.ref 29, .int x1, .int x2, .retAddr 0, .retAddr 0, .retAddr 0, .retAddr 0, .retAddr 0] [] (hh S) (n + 4) = if (0 : Int32) = 0 then ex X d 137 34 [.ref 29, .int x1, .int x2, .int 0, .retAddr 0, .retAddr 0, .retAddr 0, .retAddr 0] [] (hh S) n else ex X d 137 17 [.ref 29, .int x1, .int x2, .int 0, .retAddr 0, .retAddr 0, .retAddr 0, .retAddr 0] [] (hh S) n := rfl
theorem B_137_46 {X : Nat × (Nat → Int32)} {d : Nat} (n : Nat) (x1 : Int32) (x2 : Int32) (S : St) : ex X d 137 34 [.ref 29, .int x1, .int x2, .int 0, .retAddr 0, .retAddr 0, .retAddr 0, .retAddr 0] [] (hh S) (n + 3) = if (S.1 29 14) < 0 then ex X d 137 53 [.ref 29, .int x1, .int x2, .int 0, .retAddr 0, .retAddr 0, .retAddr 0, .retAddr 0] [] (hh S) n else ex X d 137 41 [.ref 29, .int x1, .int x2, .int 0, .retAddr 0, .retAddr 0, .retAddr 0, .retAddr 0] [] (hh S) n := rfl
theorem B_137_47 {X : Nat × (Nat → Int32)} {d : Nat} (n : Nat) (x1 : Int32) (x2 : Int32) (S : St) : ex X d 137 53 [.ref 29, .int x1, .int x2, .int 0, .retAddr 0, .retAddr 0, .retAddr 0, .retAddr 0] [] (hh S) (n + 4) = if (0 : Int32) = 0 then ex X d 137 75 [.ref 29, .int x1, .int x2, .int 0, .int 0, .retAddr 0, .retAddr 0, .retAddr 0] [] (hh S) n else ex X d 137 61 [.ref 29, .int x1, .int x2, .int 0, .int 0, .retAddr 0, .retAddr 0, .retAddr 0] [] (hh S) n := rfl
theorem B_137_48 {X : Nat × (Nat → Int32)} {d : Nat} (n : Nat) (x1 : Int32) (x2 : Int32) (S : St) : ex X d 137 34 [.ref 29, .int x1, .int x2, .int 0, .retAddr 0, .retAddr 0, .retAddr 0, .retAddr 0] [] (hh S) (n + 3) = if (S.1 29 14) < 0 then ex X d 137 53 [.ref 29, .int x1, .int x2, .int 0, .retAddr 0, .retAddr 0, .retAddr 0, .retAddr 0] [] (hh S) n else ex X d 137 41 [.ref 29, .int x1, .int x2, .int 0, .retAddr 0, .retAddr 0, .retAddr 0, .retAddr 0] [] (hh S) n := rfl
theorem B_137_49 {X : Nat × (Nat → Int32)} {d : Nat} (n : Nat) (x1 : Int32) (x2 : Int32) (S : St) : ex X d 137 41 [.ref 29, .int x1, .int x2, .int 0, .retAddr 0, .retAddr 0, .retAddr 0, .retAddr 0] [] (hh S) (n + 4) = if (S.1 29 14) = 4 then ex X d 137 53 [.ref 29, .int x1, .int x2, .int 0, .retAddr 0, .retAddr 0, .retAddr 0, .retAddr 0] [] (hh S) n else ex X d 137 49 [.ref 29, .int x1, .int x2, .int 0, .retAddr 0, .retAddr 0, .retAddr 0, .retAddr 0] [] (hh S) n := rfl
theorem B_137_50 {X : Nat × (Nat → Int32)} {d : Nat} (n : Nat) (x1 : Int32) (x2 : Int32) (S : St) : ex X d 137 53 [.ref 29, .int x1, .int x2, .int 0, .retAddr 0, .retAddr 0, .retAddr 0, .retAddr 0] [] (hh S) (n + 4) = if (0 : Int32) = 0 then ex X d 137 75 [.ref 29, .int x1, .int x2, .int 0, .int 0, .retAddr 0, .retAddr 0, .retAddr 0] [] (hh S) n else ex X d 137 61 [.ref 29, .int x1, .int x2, .int 0, .int 0, .retAddr 0, .retAddr 0, .retAddr 0] [] (hh S) n := rfl
theorem B_137_51 {X : Nat × (Nat → Int32)} {d : Nat} (n : Nat) (x1 : Int32) (x2 : Int32) (S : St) : ex X d 137 41 [.ref 29, .int x1, .int x2, .int 0, .retAddr 0, .retAddr 0, .retAddr 0, .retAddr 0] [] (hh S) (n + 4) = if (S.1 29 14) = 4 then ex X d 137 53 [.ref 29, .int x1, .int x2, .int 0, .retAddr 0, .retAddr 0, .retAddr 0, .retAddr 0] [] (hh S) n else ex X d 137 49 [.ref 29, .int x1, .int x2, .int 0, .retAddr 0, .retAddr 0, .retAddr 0, .retAddr 0] [] (hh S) n := rfl
theorem B_137_52 {X : Nat × (Nat → Int32)} {d : Nat} (n : Nat) (x1 : Int32) (x2 : Int32) (S : St) : ex X d 137 49 [.ref 29, .int x1, .int x2, .int 0, .retAddr 0, .retAddr 0, .retAddr 0, .retAddr 0] [] (hh S) (n + 5) = if (1 : Int32) = 0 then ex X d 137 75 [.ref 29, .int x1, .int x2, .int 0, .int 1, .retAddr 0, .retAddr 0, .retAddr 0] [] (hh S) n else ex X d 137 61 [.ref 29, .int x1, .int x2, .int 0, .int 1, .retAddr 0, .retAddr 0, .retAddr 0] [] (hh S) n := rfl
theorem B_137_53 {X : Nat × (Nat → Int32)} {d : Nat} (n : Nat) (x1 : Int32) (x2 : Int32) (S : St) : ex X (d + 1) 137 61 [.ref 29, .int x1, .int x2, .int 0, .int 1, .retAddr 0, .retAddr 0, .retAddr 0] [] (hh S) (n + 8) = (match ex X d 138 0 [.ref 29, .int ((16 * x2) + x1), .int 0] [] (hh S) n with | some (v, h') => ex X (d + 1) 137 72 [.ref 29, .int x1, .int x2, .int 0, .int 1, .retAddr 0, .retAddr 0, .retAddr 0] (v.toList ++ []) h' n | none => none) := rfl
theorem B_137_54 {X : Nat × (Nat → Int32)} {d : Nat} (n : Nat) (x1 : Int32) (x2 : Int32) (v21 : Int32) (S21 : St) : ex X d 137 72 [.ref 29, .int x1, .int x2, .int 0, .int 1, .retAddr 0, .retAddr 0, .retAddr 0] [.int v21] (hh S21) (n + 1) = if v21 = 0 then ex X d 137 75 [.ref 29, .int x1, .int x2, .int 0, .int 1, .retAddr 0, .retAddr 0, .retAddr 0] [] (hh S21) n else ex X d 137 76 [.ref 29, .int x1, .int x2, .int 0, .int 1, .retAddr 0, .retAddr 0, .retAddr 0] [] (hh S21) n := rfl
theorem B_137_55 {X : Nat × (Nat → Int32)} {d : Nat} (n : Nat) (x1 : Int32) (x2 : Int32) (v21 : Int32) (S21 : St) : ex X d 137 72 [.ref 29, .int x1, .int x2, .int 0, .int 1, .retAddr 0, .retAddr 0, .retAddr 0] [.int v21] (hh S21) (n + 1) = if v21 = 0 then ex X d 137 75 [.ref 29, .int x1, .int x2, .int 0, .int 1, .retAddr 0, .retAddr 0, .retAddr 0] [] (hh S21) n else ex X d 137 76 [.ref 29, .int x1, .int x2, .int 0, .int 1, .retAddr 0, .retAddr 0, .retAddr 0] [] (hh S21) n := rfl
theorem B_137_56 {X : Nat × (Nat → Int32)} {d : Nat} (n : Nat) (x1 : Int32) (x2 : Int32) (S21 : St) : ex X d 137 76 [.ref 29, .int x1, .int x2, .int 0, .int 1, .retAddr 0, .retAddr 0, .retAddr 0] [] (hh S21) (n + 2) = ex X d 137 79 [.ref 29, .int x1, .int x2, .int 0, .int 1, .int 0, .retAddr 0, .retAddr 0] [] (hh S21) n := rfl
theorem B_137_57 {X : Nat × (Nat → Int32)} {d : Nat} (n : Nat) (x1 : Int32) (x2 : Int32) (S : St) : ex X d 137 0 [.ref 29, .int x1, .int x2, .retAddr 0, .retAddr 0, .retAddr 0, .retAddr 0, .retAddr 0] [] (hh S) (n + 3) = if (S.1 29 13) < 0 then ex X d 137 11 [.ref 29, .int x1, .int x2, .retAddr 0, .retAddr 0, .retAddr 0, .retAddr 0, .retAddr 0] [] (hh S) n else ex X d 137 7 [.ref 29, .int x1, .int x2, .retAddr 0, .retAddr 0, .retAddr 0, .retAddr 0, .retAddr 0] [] (hh S) n := rfl
theorem B_137_58 {X : Nat × (Nat → Int32)} {d : Nat} (n : Nat) (x1 : Int32) (x2 : Int32) (S : St) : ex X d 137 7 [.ref 29, .int x1, .int x2, .retAddr 0, .retAddr 0, .retAddr 0, .retAddr 0, .retAddr 0] [] (hh S) (n + 5) = if (1 : Int32) = 0 then ex X d 137 34 [.ref 29, .int x1, .int x2, .int 1, .retAddr 0, .retAddr 0, .retAddr 0, .retAddr 0] [] (hh S) n else ex X d 137 17 [.ref 29, .int x1, .int x2, .int 1, .retAddr 0, .retAddr 0, .retAddr 0, .retAddr 0] [] (hh S) n := rfl
theorem B_137_59 {X : Nat × (Nat → Int32)} {d : Nat} (n : Nat) (x1 : Int32) (x2 : Int32) (S : St) : ex X d 137 17 [.ref 29, .int x1, .int x2, .int 1, .retAddr 0, .retAddr 0, .retAddr 0, .retAddr 0] [] (hh S) (n + 4) = if (S.1 29 13) = 15 then ex X d 137 30 [.ref 29, .int x1, .int x2, .int 1, .retAddr 0, .retAddr 0, .retAddr 0, .retAddr 0] [] (hh S) n else ex X d 137 26 [.ref 29, .int x1, .int x2, .int 1, .retAddr 0, .retAddr 0, .retAddr 0, .retAddr 0] [] (hh S) n := rfl
theorem B_137_60 {X : Nat × (Nat → Int32)} {d : Nat} (n : Nat) (x1 : Int32) (x2 : Int32) (S : St) : ex X d 137 30 [.ref 29, .int x1, .int x2, .int 1, .retAddr 0, .retAddr 0, .retAddr 0, .retAddr 0] [] (hh S) (n + 5) = if (0 : Int32) = 0 then ex X d 137 75 [.ref 29, .int x1, .int x2, .int 1, .int 0, .retAddr 0, .retAddr 0, .retAddr 0] [] (hh S) n else ex X d 137 61 [.ref 29, .int x1, .int x2, .int 1, .int 0, .retAddr 0, .retAddr 0, .retAddr 0] [] (hh S) n := rfl
theorem B_137_61 {X : Nat × (Nat → Int32)} {d : Nat} (n : Nat) (x1 : Int32) (x2 : Int32) (S : St) : ex X d 137 17 [.ref 29, .int x1, .int x2, .int 1, .retAddr 0, .retAddr 0, .retAddr 0, .retAddr 0] [] (hh S) (n + 4) = if (S.1 29 13) = 15 then ex X d 137 30 [.ref 29, .int x1, .int x2, .int 1, .retAddr 0, .retAddr 0, .retAddr 0, .retAddr 0] [] (hh S) n else ex X d 137 26 [.ref 29, .int x1, .int x2, .int 1, .retAddr 0, .retAddr 0, .retAddr 0, .retAddr 0] [] (hh S) n := rfl
theorem B_137_62 {X : Nat × (Nat → Int32)} {d : Nat} (n : Nat) (x1 : Int32) (x2 : Int32) (S : St) : ex X d 137 26 [.ref 29, .int x1, .int x2, .int 1, .retAddr 0, .retAddr 0, .retAddr 0, .retAddr 0] [] (hh S) (n + 5) = if (1 : Int32) = 0 then ex X d 137 75 [.ref 29, .int x1, .int x2, .int 1, .int 1, .retAddr 0, .retAddr 0, .retAddr 0] [] (hh S) n else ex X d 137 61 [.ref 29, .int x1, .int x2, .int 1, .int 1, .retAddr 0, .retAddr 0, .retAddr 0] [] (hh S) n := rfl
theorem B_137_63 {X : Nat × (Nat → Int32)} {d : Nat} (n : Nat) (x1 : Int32) (x2 : Int32) (S : St) : ex X (d + 1) 137 61 [.ref 29, .int x1, .int x2, .int 1, .int 1, .retAddr 0, .retAddr 0, .retAddr 0] [] (hh S) (n + 8) = (match ex X d 138 0 [.ref 29, .int ((16 * x2) + x1), .int 1] [] (hh S) n with | some (v, h') => ex X (d + 1) 137 72 [.ref 29, .int x1, .int x2, .int 1, .int 1, .retAddr 0, .retAddr 0, .retAddr 0] (v.toList ++ []) h' n | none => none) := rfl
theorem B_137_64 {X : Nat × (Nat → Int32)} {d : Nat} (n : Nat) (x1 : Int32) (x2 : Int32) (v24 : Int32) (S24 : St) : ex X d 137 72 [.ref 29, .int x1, .int x2, .int 1, .int 1, .retAddr 0, .retAddr 0, .retAddr 0] [.int v24] (hh S24) (n + 1) = if v24 = 0 then ex X d 137 75 [.ref 29, .int x1, .int x2, .int 1, .int 1, .retAddr 0, .retAddr 0, .retAddr 0] [] (hh S24) n else ex X d 137 76 [.ref 29, .int x1, .int x2, .int 1, .int 1, .retAddr 0, .retAddr 0, .retAddr 0] [] (hh S24) n := rfl
theorem B_137_65 {X : Nat × (Nat → Int32)} {d : Nat} (n : Nat) (x1 : Int32) (x2 : Int32) (v24 : Int32) (S24 : St) : ex X d 137 72 [.ref 29, .int x1, .int x2, .int 1, .int 1, .retAddr 0, .retAddr 0, .retAddr 0] [.int v24] (hh S24) (n + 1) = if v24 = 0 then ex X d 137 75 [.ref 29, .int x1, .int x2, .int 1, .int 1, .retAddr 0, .retAddr 0, .retAddr 0] [] (hh S24) n else ex X d 137 76 [.ref 29, .int x1, .int x2, .int 1, .int 1, .retAddr 0, .retAddr 0, .retAddr 0] [] (hh S24) n := rfl
theorem B_137_66 {X : Nat × (Nat → Int32)} {d : Nat} (n : Nat) (x1 : Int32) (x2 : Int32) (S24 : St) : ex X d 137 76 [.ref 29, .int x1, .int x2, .int 1, .int 1, .retAddr 0, .retAddr 0, .retAddr 0] [] (hh S24) (n + 2) = ex X d 137 79 [.ref 29, .int x1, .int x2, .int 1, .int 1, .int 0, .retAddr 0, .retAddr 0] [] (hh S24) n := rfl
set_option maxRecDepth 200000 in
theorem T_137 {X : Nat × (Nat → Int32)} (S : St) (x1 : Int32) (x2 : Int32) (r : Unit) (S' : St) (hG : G_137 S x1 x2 = some (r, S')) : Ev X 1 137 0 [.ref 29, .int x1, .int x2, .retAddr 0, .retAddr 0, .retAddr 0, .retAddr 0, .retAddr 0] [] (hh S) (xV r, hh S') := by
  unfold G_137 at hG
  by_cases c18 : (S.1 29 13) < 0
  · rw [if_pos c18] at hG
    refine Ev.t (c := (S.1 29 13) < 0) (p1 := 11) (L1 := [.ref 29, .int x1, .int x2, .retAddr 0, .retAddr 0, .retAddr 0, .retAddr 0, .retAddr 0]) (s1 := []) (h1 := hh S) (p2 := 7) (L2 := [.ref 29, .int x1, .int x2, .retAddr 0, .retAddr 0, .retAddr 0, .retAddr 0, .retAddr 0]) (s2 := []) (h2 := hh S) 3 (fun n => B_137_44 n x1 x2 S) c18 ?_
    refine Ev.t (c := (0 : Int32) = 0) (p1 := 34) (L1 := [.ref 29, .int x1, .int x2, .int 0, .retAddr 0, .retAddr 0, .retAddr 0, .retAddr 0]) (s1 := []) (h1 := hh S) (p2 := 17) (L2 := [.ref 29, .int x1, .int x2, .int 0, .retAddr 0, .retAddr 0, .retAddr 0, .retAddr 0]) (s2 := []) (h2 := hh S) 4 (fun n => B_137_45 n x1 x2 S) (by decide) ?_
    by_cases c19 : (S.1 29 14) < 0
    · rw [if_pos c19] at hG
      refine Ev.t (c := (S.1 29 14) < 0) (p1 := 53) (L1 := [.ref 29, .int x1, .int x2, .int 0, .retAddr 0, .retAddr 0, .retAddr 0, .retAddr 0]) (s1 := []) (h1 := hh S) (p2 := 41) (L2 := [.ref 29, .int x1, .int x2, .int 0, .retAddr 0, .retAddr 0, .retAddr 0, .retAddr 0]) (s2 := []) (h2 := hh S) 3 (fun n => B_137_46 n x1 x2 S) c19 ?_
      refine Ev.t (c := (0 : Int32) = 0) (p1 := 75) (L1 := [.ref 29, .int x1, .int x2, .int 0, .int 0, .retAddr 0, .retAddr 0, .retAddr 0]) (s1 := []) (h1 := hh S) (p2 := 61) (L2 := [.ref 29, .int x1, .int x2, .int 0, .int 0, .retAddr 0, .retAddr 0, .retAddr 0]) (s2 := []) (h2 := hh S) 4 (fun n => B_137_47 n x1 x2 S) (by decide) ?_
      obtain ⟨e1, e2⟩ := Prod.mk.inj (Option.some.inj hG)
      subst e1
      subst e2
      exact Ev.r 1 (fun n => rfl)
    · rw [if_neg c19] at hG
      refine Ev.f (c := (S.1 29 14) < 0) (p1 := 53) (L1 := [.ref 29, .int x1, .int x2, .int 0, .retAddr 0, .retAddr 0, .retAddr 0, .retAddr 0]) (s1 := []) (h1 := hh S) (p2 := 41) (L2 := [.ref 29, .int x1, .int x2, .int 0, .retAddr 0, .retAddr 0, .retAddr 0, .retAddr 0]) (s2 := []) (h2 := hh S) 3 (fun n => B_137_48 n x1 x2 S) c19 ?_
      by_cases c20 : (S.1 29 14) = 4
      · rw [if_pos c20] at hG
        refine Ev.t (c := (S.1 29 14) = 4) (p1 := 53) (L1 := [.ref 29, .int x1, .int x2, .int 0, .retAddr 0, .retAddr 0, .retAddr 0, .retAddr 0]) (s1 := []) (h1 := hh S) (p2 := 49) (L2 := [.ref 29, .int x1, .int x2, .int 0, .retAddr 0, .retAddr 0, .retAddr 0, .retAddr 0]) (s2 := []) (h2 := hh S) 4 (fun n => B_137_49 n x1 x2 S) c20 ?_
        refine Ev.t (c := (0 : Int32) = 0) (p1 := 75) (L1 := [.ref 29, .int x1, .int x2, .int 0, .int 0, .retAddr 0, .retAddr 0, .retAddr 0]) (s1 := []) (h1 := hh S) (p2 := 61) (L2 := [.ref 29, .int x1, .int x2, .int 0, .int 0, .retAddr 0, .retAddr 0, .retAddr 0]) (s2 := []) (h2 := hh S) 4 (fun n => B_137_50 n x1 x2 S) (by decide) ?_
        obtain ⟨e1, e2⟩ := Prod.mk.inj (Option.some.inj hG)
        subst e1
        subst e2
        exact Ev.r 1 (fun n => rfl)
      · rw [if_neg c20] at hG
        refine Ev.f (c := (S.1 29 14) = 4) (p1 := 53) (L1 := [.ref 29, .int x1, .int x2, .int 0, .retAddr 0, .retAddr 0, .retAddr 0, .retAddr 0]) (s1 := []) (h1 := hh S) (p2 := 49) (L2 := [.ref 29, .int x1, .int x2, .int 0, .retAddr 0, .retAddr 0, .retAddr 0, .retAddr 0]) (s2 := []) (h2 := hh S) 4 (fun n => B_137_51 n x1 x2 S) c20 ?_
        refine Ev.f (c := (1 : Int32) = 0) (p1 := 75) (L1 := [.ref 29, .int x1, .int x2, .int 0, .int 1, .retAddr 0, .retAddr 0, .retAddr 0]) (s1 := []) (h1 := hh S) (p2 := 61) (L2 := [.ref 29, .int x1, .int x2, .int 0, .int 1, .retAddr 0, .retAddr 0, .retAddr 0]) (s2 := []) (h2 := hh S) 5 (fun n => B_137_52 n x1 x2 S) (by decide) ?_
        rcases h21 : G_138 S ((16 * x2) + x1) (0 : Int32) with _ | ⟨v21, S21⟩
        · rw [h21] at hG; cases hG
        rw [h21] at hG
        dsimp only at hG
        refine Ev.c (a := 138) (A := [.ref 29, .int ((16 * x2) + x1), .int 0]) (h1 := hh S) (pc' := 72) (L' := [.ref 29, .int x1, .int x2, .int 0, .int 1, .retAddr 0, .retAddr 0, .retAddr 0]) (rest := []) (r1 := some (.int v21)) (h2 := hh S21) 8 (fun n => B_137_53 n x1 x2 S) (Ev.up (by decide) (T_138 S ((16 * x2) + x1) (0 : Int32) _ _ h21)) ?_
        show Ev X _ 137 72 [.ref 29, .int x1, .int x2, .int 0, .int 1, .retAddr 0, .retAddr 0, .retAddr 0] [.int v21] (hh S21) _
        by_cases c22 : v21 = 0
        · rw [if_pos c22] at hG
          refine Ev.t (c := v21 = 0) (p1 := 75) (L1 := [.ref 29, .int x1, .int x2, .int 0, .int 1, .retAddr 0, .retAddr 0, .retAddr 0]) (s1 := []) (h1 := hh S21) (p2 := 76) (L2 := [.ref 29, .int x1, .int x2, .int 0, .int 1, .retAddr 0, .retAddr 0, .retAddr 0]) (s2 := []) (h2 := hh S21) 1 (fun n => B_137_54 n x1 x2 v21 S21) c22 ?_
          obtain ⟨e1, e2⟩ := Prod.mk.inj (Option.some.inj hG)
          subst e1
          subst e2
          exact Ev.r 1 (fun n => rfl)
        · rw [if_neg c22] at hG
          refine Ev.f (c := v21 = 0) (p1 := 75) (L1 := [.ref 29, .int x1, .int x2, .int 0, .int 1, .retAddr 0, .retAddr 0, .retAddr 0]) (s1 := []) (h1 := hh S21) (p2 := 76) (L2 := [.ref 29, .int x1, .int x2, .int 0, .int 1, .retAddr 0, .retAddr 0, .retAddr 0]) (s2 := []) (h2 := hh S21) 1 (fun n => B_137_55 n x1 x2 v21 S21) c22 ?_
          exact Ev.b (pc' := 79) (L' := [.ref 29, .int x1, .int x2, .int 0, .int 1, .int 0, .retAddr 0, .retAddr 0]) (st' := []) (h' := hh S21) 2 (fun n => B_137_56 n x1 x2 S21) (TL_137_2 xFu S21 x1 x2 (0 : Int32) (0 : Int32) _ _ hG (.int 1) (.retAddr 0) (.retAddr 0))
  · rw [if_neg c18] at hG
    refine Ev.f (c := (S.1 29 13) < 0) (p1 := 11) (L1 := [.ref 29, .int x1, .int x2, .retAddr 0, .retAddr 0, .retAddr 0, .retAddr 0, .retAddr 0]) (s1 := []) (h1 := hh S) (p2 := 7) (L2 := [.ref 29, .int x1, .int x2, .retAddr 0, .retAddr 0, .retAddr 0, .retAddr 0, .retAddr 0]) (s2 := []) (h2 := hh S) 3 (fun n => B_137_57 n x1 x2 S) c18 ?_
    refine Ev.f (c := (1 : Int32) = 0) (p1 := 34) (L1 := [.ref 29, .int x1, .int x2, .int 1, .retAddr 0, .retAddr 0, .retAddr 0, .retAddr 0]) (s1 := []) (h1 := hh S) (p2 := 17) (L2 := [.ref 29, .int x1, .int x2, .int 1, .retAddr 0, .retAddr 0, .retAddr 0, .retAddr 0]) (s2 := []) (h2 := hh S) 5 (fun n => B_137_58 n x1 x2 S) (by decide) ?_
    by_cases c23 : (S.1 29 13) = 15
    · rw [if_pos c23] at hG
      refine Ev.t (c := (S.1 29 13) = 15) (p1 := 30) (L1 := [.ref 29, .int x1, .int x2, .int 1, .retAddr 0, .retAddr 0, .retAddr 0, .retAddr 0]) (s1 := []) (h1 := hh S) (p2 := 26) (L2 := [.ref 29, .int x1, .int x2, .int 1, .retAddr 0, .retAddr 0, .retAddr 0, .retAddr 0]) (s2 := []) (h2 := hh S) 4 (fun n => B_137_59 n x1 x2 S) c23 ?_
      refine Ev.t (c := (0 : Int32) = 0) (p1 := 75) (L1 := [.ref 29, .int x1, .int x2, .int 1, .int 0, .retAddr 0, .retAddr 0, .retAddr 0]) (s1 := []) (h1 := hh S) (p2 := 61) (L2 := [.ref 29, .int x1, .int x2, .int 1, .int 0, .retAddr 0, .retAddr 0, .retAddr 0]) (s2 := []) (h2 := hh S) 5 (fun n => B_137_60 n x1 x2 S) (by decide) ?_
      obtain ⟨e1, e2⟩ := Prod.mk.inj (Option.some.inj hG)
      subst e1
      subst e2
      exact Ev.r 1 (fun n => rfl)
    · rw [if_neg c23] at hG
      refine Ev.f (c := (S.1 29 13) = 15) (p1 := 30) (L1 := [.ref 29, .int x1, .int x2, .int 1, .retAddr 0, .retAddr 0, .retAddr 0, .retAddr 0]) (s1 := []) (h1 := hh S) (p2 := 26) (L2 := [.ref 29, .int x1, .int x2, .int 1, .retAddr 0, .retAddr 0, .retAddr 0, .retAddr 0]) (s2 := []) (h2 := hh S) 4 (fun n => B_137_61 n x1 x2 S) c23 ?_
      refine Ev.f (c := (1 : Int32) = 0) (p1 := 75) (L1 := [.ref 29, .int x1, .int x2, .int 1, .int 1, .retAddr 0, .retAddr 0, .retAddr 0]) (s1 := []) (h1 := hh S) (p2 := 61) (L2 := [.ref 29, .int x1, .int x2, .int 1, .int 1, .retAddr 0, .retAddr 0, .retAddr 0]) (s2 := []) (h2 := hh S) 5 (fun n => B_137_62 n x1 x2 S) (by decide) ?_
      rcases h24 : G_138 S ((16 * x2) + x1) (1 : Int32) with _ | ⟨v24, S24⟩
      · rw [h24] at hG; cases hG
      rw [h24] at hG
      dsimp only at hG
      refine Ev.c (a := 138) (A := [.ref 29, .int ((16 * x2) + x1), .int 1]) (h1 := hh S) (pc' := 72) (L' := [.ref 29, .int x1, .int x2, .int 1, .int 1, .retAddr 0, .retAddr 0, .retAddr 0]) (rest := []) (r1 := some (.int v24)) (h2 := hh S24) 8 (fun n => B_137_63 n x1 x2 S) (Ev.up (by decide) (T_138 S ((16 * x2) + x1) (1 : Int32) _ _ h24)) ?_
      show Ev X _ 137 72 [.ref 29, .int x1, .int x2, .int 1, .int 1, .retAddr 0, .retAddr 0, .retAddr 0] [.int v24] (hh S24) _
      by_cases c25 : v24 = 0
      · rw [if_pos c25] at hG
        refine Ev.t (c := v24 = 0) (p1 := 75) (L1 := [.ref 29, .int x1, .int x2, .int 1, .int 1, .retAddr 0, .retAddr 0, .retAddr 0]) (s1 := []) (h1 := hh S24) (p2 := 76) (L2 := [.ref 29, .int x1, .int x2, .int 1, .int 1, .retAddr 0, .retAddr 0, .retAddr 0]) (s2 := []) (h2 := hh S24) 1 (fun n => B_137_64 n x1 x2 v24 S24) c25 ?_
        obtain ⟨e1, e2⟩ := Prod.mk.inj (Option.some.inj hG)
        subst e1
        subst e2
        exact Ev.r 1 (fun n => rfl)
      · rw [if_neg c25] at hG
        refine Ev.f (c := v24 = 0) (p1 := 75) (L1 := [.ref 29, .int x1, .int x2, .int 1, .int 1, .retAddr 0, .retAddr 0, .retAddr 0]) (s1 := []) (h1 := hh S24) (p2 := 76) (L2 := [.ref 29, .int x1, .int x2, .int 1, .int 1, .retAddr 0, .retAddr 0, .retAddr 0]) (s2 := []) (h2 := hh S24) 1 (fun n => B_137_65 n x1 x2 v24 S24) c25 ?_
        exact Ev.b (pc' := 79) (L' := [.ref 29, .int x1, .int x2, .int 1, .int 1, .int 0, .retAddr 0, .retAddr 0]) (st' := []) (h' := hh S24) 2 (fun n => B_137_66 n x1 x2 S24) (TL_137_2 xFu S24 x1 x2 (1 : Int32) (0 : Int32) _ _ hG (.int 1) (.retAddr 0) (.retAddr 0))
/-- 142: SceneCycleModel.quotient(II)I -/
def G_142 (S : St) (x0 : Int32) (x1 : Int32) : Option (Int32 × St) :=
  (if x0 < 0 then
    (if x1 = 0 then none else
      some ((-(((x1 - 1) - x0) / x1)), S)
    )
  else
    (if x1 = 0 then none else
      some ((x0 / x1), S)
    )
  )
theorem B_142_1 {X : Nat × (Nat → Int32)} {d : Nat} (n : Nat) (x0 : Int32) (x1 : Int32) (S : St) : ex X d 142 0 [.int x0, .int x1] [] (hh S) (n + 2) = if x0 < 0 then ex X d 142 10 [.int x0, .int x1] [] (hh S) n else ex X d 142 4 [.int x0, .int x1] [] (hh S) n := rfl
theorem B_142_2 {X : Nat × (Nat → Int32)} {d : Nat} (n : Nat) (x0 : Int32) (x1 : Int32) (S : St) : ex X d 142 10 [.int x0, .int x1] [] (hh S) (n + 7) = if x1 = 0 then none else ex X d 142 17 [.int x0, .int x1] [.int (((x1 - 1) - x0) / x1)] (hh S) n := rfl
theorem B_142_3 {X : Nat × (Nat → Int32)} {d : Nat} (n : Nat) (x0 : Int32) (x1 : Int32) (S : St) : ex X d 142 0 [.int x0, .int x1] [] (hh S) (n + 2) = if x0 < 0 then ex X d 142 10 [.int x0, .int x1] [] (hh S) n else ex X d 142 4 [.int x0, .int x1] [] (hh S) n := rfl
theorem B_142_4 {X : Nat × (Nat → Int32)} {d : Nat} (n : Nat) (x0 : Int32) (x1 : Int32) (S : St) : ex X d 142 4 [.int x0, .int x1] [] (hh S) (n + 3) = if x1 = 0 then none else ex X d 142 7 [.int x0, .int x1] [.int (x0 / x1)] (hh S) n := rfl
set_option maxRecDepth 200000 in
theorem T_142 {X : Nat × (Nat → Int32)} (S : St) (x0 : Int32) (x1 : Int32) (r : Int32) (S' : St) (hG : G_142 S x0 x1 = some (r, S')) : Ev X 0 142 0 [.int x0, .int x1] [] (hh S) (xI r, hh S') := by
  unfold G_142 at hG
  by_cases c1 : x0 < 0
  · rw [if_pos c1] at hG
    refine Ev.t (c := x0 < 0) (p1 := 10) (L1 := [.int x0, .int x1]) (s1 := []) (h1 := hh S) (p2 := 4) (L2 := [.int x0, .int x1]) (s2 := []) (h2 := hh S) 2 (fun n => B_142_1 n x0 x1 S) c1 ?_
    by_cases g2 : x1 = 0
    · rw [if_pos g2] at hG; cases hG
    rw [if_neg g2] at hG
    refine Ev.z (c := x1 = 0) (p1 := 17) (L1 := [.int x0, .int x1]) (s1 := [.int (((x1 - 1) - x0) / x1)]) (h1 := hh S) 7 (fun n => B_142_2 n x0 x1 S) g2 ?_
    obtain ⟨e1, e2⟩ := Prod.mk.inj (Option.some.inj hG)
    subst e1
    subst e2
    exact Ev.r 2 (fun n => rfl)
  · rw [if_neg c1] at hG
    refine Ev.f (c := x0 < 0) (p1 := 10) (L1 := [.int x0, .int x1]) (s1 := []) (h1 := hh S) (p2 := 4) (L2 := [.int x0, .int x1]) (s2 := []) (h2 := hh S) 2 (fun n => B_142_3 n x0 x1 S) c1 ?_
    by_cases g3 : x1 = 0
    · rw [if_pos g3] at hG; cases hG
    rw [if_neg g3] at hG
    refine Ev.z (c := x1 = 0) (p1 := 7) (L1 := [.int x0, .int x1]) (s1 := [.int (x0 / x1)]) (h1 := hh S) 3 (fun n => B_142_4 n x0 x1 S) g3 ?_
    obtain ⟨e1, e2⟩ := Prod.mk.inj (Option.some.inj hG)
    subst e1
    subst e2
    exact Ev.r 2 (fun n => rfl)
/-- 141: SceneCycleModel.line(IIII)V -/
def GL_141_0 : Nat → St → Int32 → Int32 → Int32 → Int32 → Int32 → Int32 → Option (Unit × St)
  | 0, _, _, _, _, _, _, _ => none
  | n + 1, S, y1, y2, y3, y4, y7, y8 =>
    (if y7 < y8 then
      some ((), S)
    else
      (if y7 ≤ 0 then
        some ((), S)
      else
        (match G_142 S (((2 * y8) * (y3 - y1)) + y7) (2 * y7) with
        | none => none
        | some (v3, S3) =>
          (match G_142 S3 (((2 * y8) * (y4 - y2)) + y7) (2 * y7) with
          | none => none
          | some (v4, S4) =>
            (match G_140 S4 (y1 + v3) (y2 + v4) with
            | none => none
            | some (v5, S5) =>
              GL_141_0 n S5 y1 y2 y3 y4 y7 (y8 + 1)
            )
          )
        )
      )
    )
theorem B_141_1 {X : Nat × (Nat → Int32)} {d : Nat} (n : Nat) (y1 : Int32) (y2 : Int32) (y3 : Int32) (y4 : Int32) (w5 : Value) (w6 : Value) (y7 : Int32) (y8 : Int32) (w9 : Value) (w10 : Value) (S : St) : ex X d 141 65 [.ref 29, .int y1, .int y2, .int y3, .int y4, w5, w6, .int y7, .int y8, w9, w10] [] (hh S) (n + 3) = if y7 < y8 then ex X d 141 136 [.ref 29, .int y1, .int y2, .int y3, .int y4, w5, w6, .int y7, .int y8, w9, w10] [] (hh S) n else ex X d 141 72 [.ref 29, .int y1, .int y2, .int y3, .int y4, w5, w6, .int y7, .int y8, w9, w10] [] (hh S) n := rfl
theorem B_141_2 {X : Nat × (Nat → Int32)} {d : Nat} (n : Nat) (y1 : Int32) (y2 : Int32) (y3 : Int32) (y4 : Int32) (w5 : Value) (w6 : Value) (y7 : Int32) (y8 : Int32) (w9 : Value) (w10 : Value) (S : St) : ex X d 141 65 [.ref 29, .int y1, .int y2, .int y3, .int y4, w5, w6, .int y7, .int y8, w9, w10] [] (hh S) (n + 3) = if y7 < y8 then ex X d 141 136 [.ref 29, .int y1, .int y2, .int y3, .int y4, w5, w6, .int y7, .int y8, w9, w10] [] (hh S) n else ex X d 141 72 [.ref 29, .int y1, .int y2, .int y3, .int y4, w5, w6, .int y7, .int y8, w9, w10] [] (hh S) n := rfl
theorem B_141_3 {X : Nat × (Nat → Int32)} {d : Nat} (n : Nat) (y1 : Int32) (y2 : Int32) (y3 : Int32) (y4 : Int32) (w5 : Value) (w6 : Value) (y7 : Int32) (y8 : Int32) (w9 : Value) (w10 : Value) (S : St) : ex X d 141 72 [.ref 29, .int y1, .int y2, .int y3, .int y4, w5, w6, .int y7, .int y8, w9, w10] [] (hh S) (n + 2) = if y7 ≤ 0 then ex X d 141 136 [.ref 29, .int y1, .int y2, .int y3, .int y4, w5, w6, .int y7, .int y8, w9, w10] [] (hh S) n else ex X d 141 77 [.ref 29, .int y1, .int y2, .int y3, .int y4, w5, w6, .int y7, .int y8, w9, w10] [] (hh S) n := rfl
theorem B_141_4 {X : Nat × (Nat → Int32)} {d : Nat} (n : Nat) (y1 : Int32) (y2 : Int32) (y3 : Int32) (y4 : Int32) (w5 : Value) (w6 : Value) (y7 : Int32) (y8 : Int32) (w9 : Value) (w10 : Value) (S : St) : ex X d 141 72 [.ref 29, .int y1, .int y2, .int y3, .int y4, w5, w6, .int y7, .int y8, w9, w10] [] (hh S) (n + 2) = if y7 ≤ 0 then ex X d 141 136 [.ref 29, .int y1, .int y2, .int y3, .int y4, w5, w6, .int y7, .int y8, w9, w10] [] (hh S) n else ex X d 141 77 [.ref 29, .int y1, .int y2, .int y3, .int y4, w5, w6, .int y7, .int y8, w9, w10] [] (hh S) n := rfl
theorem B_141_5 {X : Nat × (Nat → Int32)} {d : Nat} (n : Nat) (y1 : Int32) (y2 : Int32) (y3 : Int32) (y4 : Int32) (w5 : Value) (w6 : Value) (y7 : Int32) (y8 : Int32) (w9 : Value) (w10 : Value) (S : St) : ex X (d + 1) 141 77 [.ref 29, .int y1, .int y2, .int y3, .int y4, w5, w6, .int y7, .int y8, w9, w10] [] (hh S) (n + 14) = (match ex X d 142 0 [.int (((2 * y8) * (y3 - y1)) + y7), .int (2 * y7)] [] (hh S) n with | some (v, h') => ex X (d + 1) 141 96 [.ref 29, .int y1, .int y2, .int y3, .int y4, w5, w6, .int y7, .int y8, w9, w10] (v.toList ++ [.int y1]) h' n | none => none) := rfl
theorem B_141_6 {X : Nat × (Nat → Int32)} {d : Nat} (n : Nat) (y1 : Int32) (y2 : Int32) (y3 : Int32) (y4 : Int32) (w5 : Value) (w6 : Value) (y7 : Int32) (y8 : Int32) (w9 : Value) (w10 : Value) (v3 : Int32) (S3 : St) : ex X (d + 1) 141 96 [.ref 29, .int y1, .int y2, .int y3, .int y4, w5, w6, .int y7, .int y8, w9, w10] [.int v3, .int y1] (hh S3) (n + 16) = (match ex X d 142 0 [.int (((2 * y8) * (y4 - y2)) + y7), .int (2 * y7)] [] (hh S3) n with | some (v, h') => ex X (d + 1) 141 119 [.ref 29, .int y1, .int y2, .int y3, .int y4, w5, w6, .int y7, .int y8, .int (y1 + v3), w10] (v.toList ++ [.int y2]) h' n | none => none) := rfl
theorem B_141_7 {X : Nat × (Nat → Int32)} {d : Nat} (n : Nat) (y1 : Int32) (y2 : Int32) (y3 : Int32) (y4 : Int32) (w5 : Value) (w6 : Value) (y7 : Int32) (y8 : Int32) (v3 : Int32) (w10 : Value) (v4 : Int32) (S4 : St) : ex X (d + 1) 141 119 [.ref 29, .int y1, .int y2, .int y3, .int y4, w5, w6, .int y7, .int y8, .int (y1 + v3), w10] [.int v4, .int y2] (hh S4) (n + 6) = (match ex X d 140 0 [.ref 29, .int (y1 + v3), .int (y2 + v4), .retAddr 0] [] (hh S4) n with | some (v, h') => ex X (d + 1) 141 130 [.ref 29, .int y1, .int y2, .int y3, .int y4, w5, w6, .int y7, .int y8, .int (y1 + v3), .int (y2 + v4)] (v.toList ++ []) h' n | none => none) := rfl
theorem B_141_8 {X : Nat × (Nat → Int32)} {d : Nat} (n : Nat) (y1 : Int32) (y2 : Int32) (y3 : Int32) (y4 : Int32) (w5 : Value) (w6 : Value) (y7 : Int32) (y8 : Int32) (v3 : Int32) (v4 : Int32) (S5 : St) : ex X d 141 130 [.ref 29, .int y1, .int y2, .int y3, .int y4, w5, w6, .int y7, .int y8, .int (y1 + v3), .int (y2 + v4)] [] (hh S5) (n + 2) = ex X d 141 65 [.ref 29, .int y1, .int y2, .int y3, .int y4, w5, w6, .int y7, .int (y8 + 1), .int (y1 + v3), .int (y2 + v4)] [] (hh S5) n := rfl
set_option maxRecDepth 200000 in
theorem TL_141_0 {X : Nat × (Nat → Int32)} : ∀ (n : Nat) (S : St) (y1 : Int32) (y2 : Int32) (y3 : Int32) (y4 : Int32) (y7 : Int32) (y8 : Int32) (r : Unit) (S' : St), GL_141_0 n S y1 y2 y3 y4 y7 y8 = some (r, S') → ∀ (w5 w6 w9 w10 : Value), Ev X 1 141 65 [.ref 29, .int y1, .int y2, .int y3, .int y4, w5, w6, .int y7, .int y8, w9, w10] [] (hh S) (xV r, hh S') := by
  intro n
  induction n with
  | zero => intro S y1 y2 y3 y4 y7 y8 r S' hG; simp [GL_141_0] at hG
  | succ n ih =>
    intro S y1 y2 y3 y4 y7 y8 r S' hG w5 w6 w9 w10
    rw [GL_141_0] at hG
    by_cases c1 : y7 < y8
    · rw [if_pos c1] at hG
      refine Ev.t (c := y7 < y8) (p1 := 136) (L1 := [.ref 29, .int y1, .int y2, .int y3, .int y4, w5, w6, .int y7, .int y8, w9, w10]) (s1 := []) (h1 := hh S) (p2 := 72) (L2 := [.ref 29, .int y1, .int y2, .int y3, .int y4, w5, w6, .int y7, .int y8, w9, w10]) (s2 := []) (h2 := hh S) 3 (fun n => B_141_1 n y1 y2 y3 y4 w5 w6 y7 y8 w9 w10 S) c1 ?_
      obtain ⟨e1, e2⟩ := Prod.mk.inj (Option.some.inj hG)
      subst e1
      subst e2
      exact Ev.r 1 (fun n => rfl)
    · rw [if_neg c1] at hG
      refine Ev.f (c := y7 < y8) (p1 := 136) (L1 := [.ref 29, .int y1, .int y2, .int y3, .int y4, w5, w6, .int y7, .int y8, w9, w10]) (s1 := []) (h1 := hh S) (p2 := 72) (L2 := [.ref 29, .int y1, .int y2, .int y3, .int y4, w5, w6, .int y7, .int y8, w9, w10]) (s2 := []) (h2 := hh S) 3 (fun n => B_141_2 n y1 y2 y3 y4 w5 w6 y7 y8 w9 w10 S) c1 ?_
      by_cases c2 : y7 ≤ 0
      · rw [if_pos c2] at hG
        refine Ev.t (c := y7 ≤ 0) (p1 := 136) (L1 := [.ref 29, .int y1, .int y2, .int y3, .int y4, w5, w6, .int y7, .int y8, w9, w10]) (s1 := []) (h1 := hh S) (p2 := 77) (L2 := [.ref 29, .int y1, .int y2, .int y3, .int y4, w5, w6, .int y7, .int y8, w9, w10]) (s2 := []) (h2 := hh S) 2 (fun n => B_141_3 n y1 y2 y3 y4 w5 w6 y7 y8 w9 w10 S) c2 ?_
        obtain ⟨e1, e2⟩ := Prod.mk.inj (Option.some.inj hG)
        subst e1
        subst e2
        exact Ev.r 1 (fun n => rfl)
      · rw [if_neg c2] at hG
        refine Ev.f (c := y7 ≤ 0) (p1 := 136) (L1 := [.ref 29, .int y1, .int y2, .int y3, .int y4, w5, w6, .int y7, .int y8, w9, w10]) (s1 := []) (h1 := hh S) (p2 := 77) (L2 := [.ref 29, .int y1, .int y2, .int y3, .int y4, w5, w6, .int y7, .int y8, w9, w10]) (s2 := []) (h2 := hh S) 2 (fun n => B_141_4 n y1 y2 y3 y4 w5 w6 y7 y8 w9 w10 S) c2 ?_
        rcases h3 : G_142 S (((2 * y8) * (y3 - y1)) + y7) (2 * y7) with _ | ⟨v3, S3⟩
        · rw [h3] at hG; cases hG
        rw [h3] at hG
        dsimp only at hG
        refine Ev.c (a := 142) (A := [.int (((2 * y8) * (y3 - y1)) + y7), .int (2 * y7)]) (h1 := hh S) (pc' := 96) (L' := [.ref 29, .int y1, .int y2, .int y3, .int y4, w5, w6, .int y7, .int y8, w9, w10]) (rest := [.int y1]) (r1 := some (.int v3)) (h2 := hh S3) 14 (fun n => B_141_5 n y1 y2 y3 y4 w5 w6 y7 y8 w9 w10 S) (Ev.up (by decide) (T_142 S (((2 * y8) * (y3 - y1)) + y7) (2 * y7) _ _ h3)) ?_
        show Ev X _ 141 96 [.ref 29, .int y1, .int y2, .int y3, .int y4, w5, w6, .int y7, .int y8, w9, w10] [.int v3, .int y1] (hh S3) _
        rcases h4 : G_142 S3 (((2 * y8) * (y4 - y2)) + y7) (2 * y7) with _ | ⟨v4, S4⟩
        · rw [h4] at hG; cases hG
        rw [h4] at hG
        dsimp only at hG
        refine Ev.c (a := 142) (A := [.int (((2 * y8) * (y4 - y2)) + y7), .int (2 * y7)]) (h1 := hh S3) (pc' := 119) (L' := [.ref 29, .int y1, .int y2, .int y3, .int y4, w5, w6, .int y7, .int y8, .int (y1 + v3), w10]) (rest := [.int y2]) (r1 := some (.int v4)) (h2 := hh S4) 16 (fun n => B_141_6 n y1 y2 y3 y4 w5 w6 y7 y8 w9 w10 v3 S3) (Ev.up (by decide) (T_142 S3 (((2 * y8) * (y4 - y2)) + y7) (2 * y7) _ _ h4)) ?_
        show Ev X _ 141 119 [.ref 29, .int y1, .int y2, .int y3, .int y4, w5, w6, .int y7, .int y8, .int (y1 + v3), w10] [.int v4, .int y2] (hh S4) _
        rcases h5 : G_140 S4 (y1 + v3) (y2 + v4) with _ | ⟨v5, S5⟩
        · rw [h5] at hG; cases hG
        rw [h5] at hG
        dsimp only at hG
        refine Ev.c (a := 140) (A := [.ref 29, .int (y1 + v3), .int (y2 + v4), .retAddr 0]) (h1 := hh S4) (pc' := 130) (L' := [.ref 29, .int y1, .int y2, .int y3, .int y4, w5, w6, .int y7, .int y8, .int (y1 + v3), .int (y2 + v4)]) (rest := []) (r1 := none) (h2 := hh S5) 6 (fun n => B_141_7 n y1 y2 y3 y4 w5 w6 y7 y8 v3 w10 v4 S4) (Ev.up (by decide) (T_140 S4 (y1 + v3) (y2 + v4) _ _ h5)) ?_
        show Ev X _ 141 130 [.ref 29, .int y1, .int y2, .int y3, .int y4, w5, w6, .int y7, .int y8, .int (y1 + v3), .int (y2 + v4)] [] (hh S5) _
        exact Ev.b (pc' := 65) (L' := [.ref 29, .int y1, .int y2, .int y3, .int y4, w5, w6, .int y7, .int (y8 + 1), .int (y1 + v3), .int (y2 + v4)]) (st' := []) (h' := hh S5) 2 (fun n => B_141_8 n y1 y2 y3 y4 w5 w6 y7 y8 v3 v4 S5) (ih S5 y1 y2 y3 y4 y7 (y8 + 1) _ _ hG w5 w6 (.int (y1 + v3)) (.int (y2 + v4)))
def G_141 (S : St) (x1 : Int32) (x2 : Int32) (x3 : Int32) (x4 : Int32) : Option (Unit × St) :=
  (if x3 ≤ x1 then
    (if x4 ≤ x2 then
      (if (x1 - x3) ≤ (x2 - x4) then
        (if (x2 - x4) = 0 then
          (match G_140 S x1 x2 with
          | none => none
          | some (v10, S10) =>
            GL_141_0 xFu S10 x1 x2 x3 x4 (x2 - x4) (0 : Int32)
          )
        else
          GL_141_0 xFu S x1 x2 x3 x4 (x2 - x4) (0 : Int32)
        )
      else
        (if (x1 - x3) = 0 then
          (match G_140 S x1 x2 with
          | none => none
          | some (v12, S12) =>
            GL_141_0 xFu S12 x1 x2 x3 x4 (x1 - x3) (0 : Int32)
          )
        else
          GL_141_0 xFu S x1 x2 x3 x4 (x1 - x3) (0 : Int32)
        )
      )
    else
      (if (x1 - x3) ≤ (x4 - x2) then
        (if (x4 - x2) = 0 then
          (match G_140 S x1 x2 with
          | none => none
          | some (v15, S15) =>
            GL_141_0 xFu S15 x1 x2 x3 x4 (x4 - x2) (0 : Int32)
          )
        else
          GL_141_0 xFu S x1 x2 x3 x4 (x4 - x2) (0 : Int32)
        )
      else
        (if (x1 - x3) = 0 then
          (match G_140 S x1 x2 with
          | none => none
          | some (v17, S17) =>
            GL_141_0 xFu S17 x1 x2 x3 x4 (x1 - x3) (0 : Int32)
          )
        else
          GL_141_0 xFu S x1 x2 x3 x4 (x1 - x3) (0 : Int32)
        )
      )
    )
  else
    (if x4 ≤ x2 then
      (if (x3 - x1) ≤ (x2 - x4) then
        (if (x2 - x4) = 0 then
          (match G_140 S x1 x2 with
          | none => none
          | some (v21, S21) =>
            GL_141_0 xFu S21 x1 x2 x3 x4 (x2 - x4) (0 : Int32)
          )
        else
          GL_141_0 xFu S x1 x2 x3 x4 (x2 - x4) (0 : Int32)
        )
      else
        (if (x3 - x1) = 0 then
          (match G_140 S x1 x2 with
          | none => none
          | some (v23, S23) =>
            GL_141_0 xFu S23 x1 x2 x3 x4 (x3 - x1) (0 : Int32)
          )
        else
          GL_141_0 xFu S x1 x2 x3 x4 (x3 - x1) (0 : Int32)
        )
      )
    else
      (if (x3 - x1) ≤ (x4 - x2) then
        (if (x4 - x2) = 0 then
          (match G_140 S x1 x2 with
          | none => none
          | some (v26, S26) =>
            GL_141_0 xFu S26 x1 x2 x3 x4 (x4 - x2) (0 : Int32)
          )
        else
          GL_141_0 xFu S x1 x2 x3 x4 (x4 - x2) (0 : Int32)
        )
      else
        (if (x3 - x1) = 0 then
          (match G_140 S x1 x2 with
          | none => none
          | some (v28, S28) =>
            GL_141_0 xFu S28 x1 x2 x3 x4 (x3 - x1) (0 : Int32)
          )
        else
          GL_141_0 xFu S x1 x2 x3 x4 (x3 - x1) (0 : Int32)
        )
      )
    )
  )
theorem B_141_9 {X : Nat × (Nat → Int32)} {d : Nat} (n : Nat) (x1 : Int32) (x2 : Int32) (x3 : Int32) (x4 : Int32) (S : St) : ex X d 141 0 [.ref 29, .int x1, .int x2, .int x3, .int x4, .retAddr 0, .retAddr 0, .retAddr 0, .retAddr 0, .retAddr 0, .retAddr 0] [] (hh S) (n + 3) = if x3 ≤ x1 then ex X d 141 11 [.ref 29, .int x1, .int x2, .int x3, .int x4, .retAddr 0, .retAddr 0, .retAddr 0, .retAddr 0, .retAddr 0, .retAddr 0] [] (hh S) n else ex X d 141 5 [.ref 29, .int x1, .int x2, .int x3, .int x4, .retAddr 0, .retAddr 0, .retAddr 0, .retAddr 0, .retAddr 0, .retAddr 0] [] (hh S) n := rfl
theorem B_141_10 {X : Nat × (Nat → Int32)} {d : Nat} (n : Nat) (x1 : Int32) (x2 : Int32) (x3 : Int32) (x4 : Int32) (S : St) : ex X d 141 11 [.ref 29, .int x1, .int x2, .int x3, .int x4, .retAddr 0, .retAddr 0, .retAddr 0, .retAddr 0, .retAddr 0, .retAddr 0] [] (hh S) (n + 7) = if x4 ≤ x2 then ex X d 141 29 [.ref 29, .int x1, .int x2, .int x3, .int x4, .int (x1 - x3), .retAddr 0, .retAddr 0, .retAddr 0, .retAddr 0, .retAddr 0] [] (hh S) n else ex X d 141 22 [.ref 29, .int x1, .int x2, .int x3, .int x4, .int (x1 - x3), .retAddr 0, .retAddr 0, .retAddr 0, .retAddr 0, .retAddr 0] [] (hh S) n := rfl
theorem B_141_11 {X : Nat × (Nat → Int32)} {d : Nat} (n : Nat) (x1 : Int32) (x2 : Int32) (x3 : Int32) (x4 : Int32) (S : St) : ex X d 141 29 [.ref 29, .int x1, .int x2, .int x3, .int x4, .int (x1 - x3), .retAddr 0, .retAddr 0, .retAddr 0, .retAddr 0, .retAddr 0] [] (hh S) (n + 7) = if (x1 - x3) ≤ (x2 - x4) then ex X d 141 47 [.ref 29, .int x1, .int x2, .int x3, .int x4, .int (x1 - x3), .int (x2 - x4), .retAddr 0, .retAddr 0, .retAddr 0, .retAddr 0] [] (hh S) n else ex X d 141 42 [.ref 29, .int x1, .int x2, .int x3, .int x4, .int (x1 - x3), .int (x2 - x4), .retAddr 0, .retAddr 0, .retAddr 0, .retAddr 0] [] (hh S) n := rfl
theorem B_141_12 {X : Nat × (Nat → Int32)} {d : Nat} (n : Nat) (x1 : Int32) (x2 : Int32) (x3 : Int32) (x4 : Int32) (S : St) : ex X d 141 47 [.ref 29, .int x1, .int x2, .int x3, .int x4, .int (x1 - x3), .int (x2 - x4), .retAddr 0, .retAddr 0, .retAddr 0, .retAddr 0] [] (hh S) (n + 4) = if (x2 - x4) = 0 then ex X d 141 56 [.ref 29, .int x1, .int x2, .int x3, .int x4, .int (x1 - x3), .int (x2 - x4), .int (x2 - x4), .retAddr 0, .retAddr 0, .retAddr 0] [] (hh S) n else ex X d 141 62 [.ref 29, .int x1, .int x2, .int x3, .int x4, .int (x1 - x3), .int (x2 - x4), .int (x2 - x4), .retAddr 0, .retAddr 0, .retAddr 0] [] (hh S) n := rfl
theorem B_141_13 {X : Nat × (Nat → Int32)} {d : Nat} (n : Nat) (x1 : Int32) (x2 : Int32) (x3 : Int32) (x4 : Int32) (S : St) : ex X (d + 1) 141 56 [.ref 29, .int x1, .int x2, .int x3, .int x4, .int (x1 - x3), .int (x2 - x4), .int (x2 - x4), .retAddr 0, .retAddr 0, .retAddr 0] [] (hh S) (n + 4) = (match ex X d 140 0 [.ref 29, .int x1, .int x2, .retAddr 0] [] (hh S) n with | some (v, h') => ex X (d + 1) 141 62 [.ref 29, .int x1, .int x2, .int x3, .int x4, .int (x1 - x3), .int (x2 - x4), .int (x2 - x4), .retAddr 0, .retAddr 0, .retAddr 0] (v.toList ++ []) h' n | none => none) := rfl
theorem B_141_14 {X : Nat × (Nat → Int32)} {d : Nat} (n : Nat) (x1 : Int32) (x2 : Int32) (x3 : Int32) (x4 : Int32) (S10 : St) : ex X d 141 62 [.ref 29, .int x1, .int x2, .int x3, .int x4, .int (x1 - x3), .int (x2 - x4), .int (x2 - x4), .retAddr 0, .retAddr 0, .retAddr 0] [] (hh S10) (n + 2) = ex X d 141 65 [.ref 29, .int x1, .int x2, .int x3, .int x4, .int (x1 - x3), .int (x2 - x4), .int (x2 - x4), .int 0, .retAddr 0, .retAddr 0] [] (hh S10) n := rfl
theorem B_141_15 {X : Nat × (Nat → Int32)} {d : Nat} (n : Nat) (x1 : Int32) (x2 : Int32) (x3 : Int32) (x4 : Int32) (S : St) : ex X d 141 47 [.ref 29, .int x1, .int x2, .int x3, .int x4, .int (x1 - x3), .int (x2 - x4), .retAddr 0, .retAddr 0, .retAddr 0, .retAddr 0] [] (hh S) (n + 4) = if (x2 - x4) = 0 then ex X d 141 56 [.ref 29, .int x1, .int x2, .int x3, .int x4, .int (x1 - x3), .int (x2 - x4), .int (x2 - x4), .retAddr 0, .retAddr 0, .retAddr 0] [] (hh S) n else ex X d 141 62 [.ref 29, .int x1, .int x2, .int x3, .int x4, .int (x1 - x3), .int (x2 - x4), .int (x2 - x4), .retAddr 0, .retAddr 0, .retAddr 0] [] (hh S) n := rfl
theorem B_141_16 {X : Nat × (Nat → Int32)} {d : Nat} (n : Nat) (x1 : Int32) (x2 : Int32) (x3 : Int32) (x4 : Int32) (S : St) : ex X d 141 62 [.ref 29, .int x1, .int x2, .int x3, .int x4, .int (x1 - x3), .int (x2 - x4), .int (x2 - x4), .retAddr 0, .retAddr 0, .retAddr 0] [] (hh S) (n + 2) = ex X d 141 65 [.ref 29, .int x1, .int x2, .int x3, .int x4, .int (x1 - x3), .int (x2 - x4), .int (x2 - x4), .int 0, .retAddr 0, .retAddr 0] [] (hh S) n := rfl
theorem B_141_17 {X : Nat × (Nat → Int32)} {d : Nat} (n : Nat) (x1 : Int32) (x2 : Int32) (x3 : Int32) (x4 : Int32) (S : St) : ex X d 141 29 [.ref 29, .int x1, .int x2, .int x3, .int x4, .int (x1 - x3), .retAddr 0, .retAddr 0, .retAddr 0, .retAddr 0, .retAddr 0] [] (hh S) (n + 7) = if (x1 - x3) ≤ (x2 - x4) then ex X d 141 47 [.ref 29, .int x1, .int x2, .int x3, .int x4, .int (x1 - x3), .int (x2 - x4), .retAddr 0, .retAddr 0, .retAddr 0, .retAddr 0] [] (hh S) n else ex X d 141 42 [.ref 29, .int x1, .int x2, .int x3, .int x4, .int (x1 - x3), .int (x2 - x4), .retAddr 0, .retAddr 0, .retAddr 0, .retAddr 0] [] (hh S) n := rfl
theorem B_141_18 {X : Nat × (Nat → Int32)} {d : Nat} (n : Nat) (x1 : Int32) (x2 : Int32) (x3 : Int32) (x4 : Int32) (S : St) : ex X d 141 42 [.ref 29, .int x1, .int x2, .int x3, .int x4, .int (x1 - x3), .int (x2 - x4), .retAddr 0, .retAddr 0, .retAddr 0, .retAddr 0] [] (hh S) (n + 5) = if (x1 - x3) = 0 then ex X d 141 56 [.ref 29, .int x1, .int x2, .int x3, .int x4, .int (x1 - x3), .int (x2 - x4), .int (x1 - x3), .retAddr 0, .retAddr 0, .retAddr 0] [] (hh S) n else ex X d 141 62 [.ref 29, .int x1, .int x2, .int x3, .int x4, .int (x1 - x3), .int (x2 - x4), .int (x1 - x3), .retAddr 0, .retAddr 0, .retAddr 0] [] (hh S) n := rfl
theorem B_141_19 {X : Nat × (Nat → Int32)} {d : Nat} (n : Nat) (x1 : Int32) (x2 : Int32) (x3 : Int32) (x4 : Int32) (S : St) : ex X (d + 1) 141 56 [.ref 29, .int x1, .int x2, .int x3, .int x4, .int (x1 - x3), .int (x2 - x4), .int (x1 - x3), .retAddr 0, .retAddr 0, .retAddr 0] [] (hh S) (n + 4) = (match ex X d 140 0 [.ref 29, .int x1, .int x2, .retAddr 0] [] (hh S) n with | some (v, h') => ex X (d + 1) 141 62 [.ref 29, .int x1, .int x2, .int x3, .int x4, .int (x1 - x3), .int (x2 - x4), .int (x1 - x3), .retAddr 0, .retAddr 0, .retAddr 0] (v.toList ++ []) h' n | none => none) := rfl
theorem B_141_20 {X : Nat × (Nat → Int32)} {d : Nat} (n : Nat) (x1 : Int32) (x2 : Int32) (x3 : Int32) (x4 : Int32) (S12 : St) : ex X d 141 62 [.ref 29, .int x1, .int x2, .int x3, .int x4, .int (x1 - x3), .int (x2 - x4), .int (x1 - x3), .retAddr 0, .retAddr 0, .retAddr 0] [] (hh S12) (n + 2) = ex X d 141 65 [.ref 29, .int x1, .int x2, .int x3, .int x4, .int (x1 - x3), .int (x2 - x4), .int (x1 - x3), .int 0, .retAddr 0, .retAddr 0] [] (hh S12) n := rfl
theorem B_141_21 {X : Nat × (Nat → Int32)} {d : Nat} (n : Nat) (x1 : Int32) (x2 : Int32) (x3 : Int32) (x4 : Int32) (S : St) : ex X d 141 42 [.ref 29, .int x1, .int x2, .int x3, .int x4, .int (x1 - x3), .int (x2 - x4), .retAddr 0, .retAddr 0, .retAddr 0, .retAddr 0] [] (hh S) (n + 5) = if (x1 - x3) = 0 then ex X d 141 56 [.ref 29, .int x1, .int x2, .int x3, .int x4, .int (x1 - x3), .int (x2 - x4), .int (x1 - x3), .retAddr 0, .retAddr 0, .retAddr 0] [] (hh S) n else ex X d 141 62 [.ref 29, .int x1, .int x2, .int x3, .int x4, .int (x1 - x3), .int (x2 - x4), .int (x1 - x3), .retAddr 0, .retAddr 0, .retAddr 0] [] (hh S) n := rfl
theorem B_141_22 {X : Nat × (Nat → Int32)} {d : Nat} (n : Nat) (x1 : Int32) (x2 : Int32) (x3 : Int32) (x4 : Int32) (S : St) : ex X d 141 62 [.ref 29, .int x1, .int x2, .int x3, .int x4, .int (x1 - x3), .int (x2 - x4), .int (x1 - x3), .retAddr 0, .retAddr 0, .retAddr 0] [] (hh S) (n + 2) = ex X d 141 65 [.ref 29, .int x1, .int x2, .int x3, .int x4, .int (x1 - x3), .int (x2 - x4), .int (x1 - x3), .int 0, .retAddr 0, .retAddr 0] [] (hh S) n := rfl
theorem B_141_23 {X : Nat × (Nat → Int32)} {d : Nat} (n : Nat) (x1 : Int32) (x2 : Int32) (x3 : Int32) (x4 : Int32) (S : St) : ex X d 141 11 [.ref 29, .int x1, .int x2, .int x3, .int x4, .retAddr 0, .retAddr 0, .retAddr 0, .retAddr 0, .retAddr 0, .retAddr 0] [] (hh S) (n + 7) = if x4 ≤ x2 then ex X d 141 29 [.ref 29, .int x1, .int x2, .int x3, .int x4, .int (x1 - x3), .retAddr 0, .retAddr 0, .retAddr 0, .retAddr 0, .retAddr 0] [] (hh S) n else ex X d 141 22 [.ref 29, .int x1, .int x2, .int x3, .int x4, .int (x1 - x3), .retAddr 0, .retAddr 0, .retAddr 0, .retAddr 0, .retAddr 0] [] (hh S) n := rfl
theorem B_141_24 {X : Nat × (Nat → Int32)} {d : Nat} (n : Nat) (x1 : Int32) (x2 : Int32) (x3 : Int32) (x4 : Int32) (S : St) : ex X d 141 22 [.ref 29, .int x1, .int x2, .int x3, .int x4, .int (x1 - x3), .retAddr 0, .retAddr 0, .retAddr 0, .retAddr 0, .retAddr 0] [] (hh S) (n + 8) = if (x1 - x3) ≤ (x4 - x2) then ex X d 141 47 [.ref 29, .int x1, .int x2, .int x3, .int x4, .int (x1 - x3), .int (x4 - x2), .retAddr 0, .retAddr 0, .retAddr 0, .retAddr 0] [] (hh S) n else ex X d 141 42 [.ref 29, .int x1, .int x2, .int x3, .int x4, .int (x1 - x3), .int (x4 - x2), .retAddr 0, .retAddr 0, .retAddr 0, .retAddr 0] [] (hh S) n := rfl
theorem B_141_25 {X : Nat × (Nat → Int32)} {d : Nat} (n : Nat) (x1 : Int32) (x2 : Int32) (x3 : Int32) (x4 : Int32) (S : St) : ex X d 141 47 [.ref 29, .int x1, .int x2, .int x3, .int x4, .int (x1 - x3), .int (x4 - x2), .retAddr 0, .retAddr 0, .retAddr 0, .retAddr 0] [] (hh S) (n + 4) = if (x4 - x2) = 0 then ex X d 141 56 [.ref 29, .int x1, .int x2, .int x3, .int x4, .int (x1 - x3), .int (x4 - x2), .int (x4 - x2), .retAddr 0, .retAddr 0, .retAddr 0] [] (hh S) n else ex X d 141 62 [.ref 29, .int x1, .int x2, .int x3, .int x4, .int (x1 - x3), .int (x4 - x2), .int (x4 - x2), .retAddr 0, .retAddr 0, .retAddr 0] [] (hh S) n := rfl
theorem B_141_26 {X : Nat × (Nat → Int32)} {d : Nat} (n : Nat) (x1 : Int32) (x2 : Int32) (x3 : Int32) (x4 : Int32) (S : St) : ex X (d + 1) 141 56 [.ref 29, .int x1, .int x2, .int x3, .int x4, .int (x1 - x3), .int (x4 - x2), .int (x4 - x2), .retAddr 0, .retAddr 0, .retAddr 0] [] (hh S) (n + 4) = (match ex X d 140 0 [.ref 29, .int x1, .int x2, .retAddr 0] [] (hh S) n with | some (v, h') => ex X (d + 1) 141 62 [.ref 29, .int x1, .int x2, .int x3, .int x4, .int (x1 - x3), .int (x4 - x2), .int (x4 - x2), .retAddr 0, .retAddr 0, .retAddr 0] (v.toList ++ []) h' n | none => none) := rfl
theorem B_141_27 {X : Nat × (Nat → Int32)} {d : Nat} (n : Nat) (x1 : Int32) (x2 : Int32) (x3 : Int32) (x4 : Int32) (S15 : St) : ex X d 141 62 [.ref 29, .int x1, .int x2, .int x3, .int x4, .int (x1 - x3), .int (x4 - x2), .int (x4 - x2), .retAddr 0, .retAddr 0, .retAddr 0] [] (hh S15) (n + 2) = ex X d 141 65 [.ref 29, .int x1, .int x2, .int x3, .int x4, .int (x1 - x3), .int (x4 - x2), .int (x4 - x2), .int 0, .retAddr 0, .retAddr 0] [] (hh S15) n := rfl
theorem B_141_28 {X : Nat × (Nat → Int32)} {d : Nat} (n : Nat) (x1 : Int32) (x2 : Int32) (x3 : Int32) (x4 : Int32) (S : St) : ex X d 141 47 [.ref 29, .int x1, .int x2, .int x3, .int x4, .int (x1 - x3), .int (x4 - x2), .retAddr 0, .retAddr 0, .retAddr 0, .retAddr 0] [] (hh S) (n + 4) = if (x4 - x2) = 0 then ex X d 141 56 [.ref 29, .int x1, .int x2, .int x3, .int x4, .int (x1 - x3), .int (x4 - x2), .int (x4 - x2), .retAddr 0, .retAddr 0, .retAddr 0] [] (hh S) n else ex X d 141 62 [.ref 29, .int x1, .int x2, .int x3, .int x4, .int (x1 - x3), .int (x4 - x2), .int (x4 - x2), .retAddr 0, .retAddr 0, .retAddr 0] [] (hh S) n := rfl
theorem B_141_29 {X : Nat × (Nat → Int32)} {d : Nat} (n : Nat) (x1 : Int32) (x2 : Int32) (x3 : Int32) (x4 : Int32) (S : St) : ex X d 141 62 [.ref 29, .int x1, .int x2, .int x3, .int x4, .int (x1 - x3), .int (x4 - x2), .int (x4 - x2), .retAddr 0, .retAddr 0, .retAddr 0] [] (hh S) (n + 2) = ex X d 141 65 [.ref 29, .int x1, .int x2, .int x3, .int x4, .int (x1 - x3), .int (x4 - x2), .int (x4 - x2), .int 0, .retAddr 0, .retAddr 0] [] (hh S) n := rfl
theorem B_141_30 {X : Nat × (Nat → Int32)} {d : Nat} (n : Nat) (x1 : Int32) (x2 : Int32) (x3 : Int32) (x4 : Int32) (S : St) : ex X d 141 22 [.ref 29, .int x1, .int x2, .int x3, .int x4, .int (x1 - x3), .retAddr 0, .retAddr 0, .retAddr 0, .retAddr 0, .retAddr 0] [] (hh S) (n + 8) = if (x1 - x3) ≤ (x4 - x2) then ex X d 141 47 [.ref 29, .int x1, .int x2, .int x3, .int x4, .int (x1 - x3), .int (x4 - x2), .retAddr 0, .retAddr 0, .retAddr 0, .retAddr 0] [] (hh S) n else ex X d 141 42 [.ref 29, .int x1, .int x2, .int x3, .int x4, .int (x1 - x3), .int (x4 - x2), .retAddr 0, .retAddr 0, .retAddr 0, .retAddr 0] [] (hh S) n := rfl
theorem B_141_31 {X : Nat × (Nat → Int32)} {d : Nat} (n : Nat) (x1 : Int32) (x2 : Int32) (x3 : Int32) (x4 : Int32) (S : St) : ex X d 141 42 [.ref 29, .int x1, .int x2, .int x3, .int x4, .int (x1 - x3), .int (x4 - x2), .retAddr 0, .retAddr 0, .retAddr 0, .retAddr 0] [] (hh S) (n + 5) = if (x1 - x3) = 0 then ex X d 141 56 [.ref 29, .int x1, .int x2, .int x3, .int x4, .int (x1 - x3), .int (x4 - x2), .int (x1 - x3), .retAddr 0, .retAddr 0, .retAddr 0] [] (hh S) n else ex X d 141 62 [.ref 29, .int x1, .int x2, .int x3, .int x4, .int (x1 - x3), .int (x4 - x2), .int (x1 - x3), .retAddr 0, .retAddr 0, .retAddr 0] [] (hh S) n := rfl
theorem B_141_32 {X : Nat × (Nat → Int32)} {d : Nat} (n : Nat) (x1 : Int32) (x2 : Int32) (x3 : Int32) (x4 : Int32) (S : St) : ex X (d + 1) 141 56 [.ref 29, .int x1, .int x2, .int x3, .int x4, .int (x1 - x3), .int (x4 - x2), .int (x1 - x3), .retAddr 0, .retAddr 0, .retAddr 0] [] (hh S) (n + 4) = (match ex X d 140 0 [.ref 29, .int x1, .int x2, .retAddr 0] [] (hh S) n with | some (v, h') => ex X (d + 1) 141 62 [.ref 29, .int x1, .int x2, .int x3, .int x4, .int (x1 - x3), .int (x4 - x2), .int (x1 - x3), .retAddr 0, .retAddr 0, .retAddr 0] (v.toList ++ []) h' n | none => none) := rfl
theorem B_141_33 {X : Nat × (Nat → Int32)} {d : Nat} (n : Nat) (x1 : Int32) (x2 : Int32) (x3 : Int32) (x4 : Int32) (S17 : St) : ex X d 141 62 [.ref 29, .int x1, .int x2, .int x3, .int x4, .int (x1 - x3), .int (x4 - x2), .int (x1 - x3), .retAddr 0, .retAddr 0, .retAddr 0] [] (hh S17) (n + 2) = ex X d 141 65 [.ref 29, .int x1, .int x2, .int x3, .int x4, .int (x1 - x3), .int (x4 - x2), .int (x1 - x3), .int 0, .retAddr 0, .retAddr 0] [] (hh S17) n := rfl
theorem B_141_34 {X : Nat × (Nat → Int32)} {d : Nat} (n : Nat) (x1 : Int32) (x2 : Int32) (x3 : Int32) (x4 : Int32) (S : St) : ex X d 141 42 [.ref 29, .int x1, .int x2, .int x3, .int x4, .int (x1 - x3), .int (x4 - x2), .retAddr 0, .retAddr 0, .retAddr 0, .retAddr 0] [] (hh S) (n + 5) = if (x1 - x3) = 0 then ex X d 141 56 [.ref 29, .int x1, .int x2, .int x3, .int x4, .int (x1 - x3), .int (x4 - x2), .int (x1 - x3), .retAddr 0, .retAddr 0, .retAddr 0] [] (hh S) n else ex X d 141 62 [.ref 29, .int x1, .int x2, .int x3, .int x4, .int (x1 - x3), .int (x4 - x2), .int (x1 - x3), .retAddr 0, .retAddr 0, .retAddr 0] [] (hh S) n := rfl
theorem B_141_35 {X : Nat × (Nat → Int32)} {d : Nat} (n : Nat) (x1 : Int32) (x2 : Int32) (x3 : Int32) (x4 : Int32) (S : St) : ex X d 141 62 [.ref 29, .int x1, .int x2, .int x3, .int x4, .int (x1 - x3), .int (x4 - x2), .int (x1 - x3), .retAddr 0, .retAddr 0, .retAddr 0] [] (hh S) (n + 2) = ex X d 141 65 [.ref 29, .int x1, .int x2, .int x3, .int x4, .int (x1 - x3), .int (x4 - x2), .int (x1 - x3), .int 0, .retAddr 0, .retAddr 0] [] (hh S) n := rfl
theorem B_141_36 {X : Nat × (Nat → Int32)} {d : Nat} (n : Nat) (x1 : Int32) (x2 : Int32) (x3 : Int32) (x4 : Int32) (S : St) : ex X d 141 0 [.ref 29, .int x1, .int x2, .int x3, .int x4, .retAddr 0, .retAddr 0, .retAddr 0, .retAddr 0, .retAddr 0, .retAddr 0] [] (hh S) (n + 3) = if x3 ≤ x1 then ex X d 141 11 [.ref 29, .int x1, .int x2, .int x3, .int x4, .retAddr 0, .retAddr 0, .retAddr 0, .retAddr 0, .retAddr 0, .retAddr 0] [] (hh S) n else ex X d 141 5 [.ref 29, .int x1, .int x2, .int x3, .int x4, .retAddr 0, .retAddr 0, .retAddr 0, .retAddr 0, .retAddr 0, .retAddr 0] [] (hh S) n := rfl
theorem B_141_37 {X : Nat × (Nat → Int32)} {d : Nat} (n : Nat) (x1 : Int32) (x2 : Int32) (x3 : Int32) (x4 : Int32) (S : St) : ex X d 141 5 [.ref 29, .int x1, .int x2, .int x3, .int x4, .retAddr 0, .retAddr 0, .retAddr 0, .retAddr 0, .retAddr 0, .retAddr 0] [] (hh S) (n + 8) = if x4 ≤ x2 then ex X d 141 29 [.ref 29, .int x1, .int x2, .int x3, .int x4, .int (x3 - x1), .retAddr 0, .retAddr 0, .retAddr 0, .retAddr 0, .retAddr 0] [] (hh S) n else ex X d 141 22 [.ref 29, .int x1, .int x2, .int x3, .int x4, .int (x3 - x1), .retAddr 0, .retAddr 0, .retAddr 0, .retAddr 0, .retAddr 0] [] (hh S) n := rfl
theorem B_141_38 {X : Nat × (Nat → Int32)} {d : Nat} (n : Nat) (x1 : Int32) (x2 : Int32) (x3 : Int32) (x4 : Int32) (S : St) : ex X d 141 29 [.ref 29, .int x1, .int x2, .int x3, .int x4, .int (x3 - x1), .retAddr 0, .retAddr 0, .retAddr 0, .retAddr 0, .retAddr 0] [] (hh S) (n + 7) = if (x3 - x1) ≤ (x2 - x4) then ex X d 141 47 [.ref 29, .int x1, .int x2, .int x3, .int x4, .int (x3 - x1), .int (x2 - x4), .retAddr 0, .retAddr 0, .retAddr 0, .retAddr 0] [] (hh S) n else ex X d 141 42 [.ref 29, .int x1, .int x2, .int x3, .int x4, .int (x3 - x1), .int (x2 - x4), .retAddr 0, .retAddr 0, .retAddr 0, .retAddr 0] [] (hh S) n := rfl
theorem B_141_39 {X : Nat × (Nat → Int32)} {d : Nat} (n : Nat) (x1 : Int32) (x2 : Int32) (x3 : Int32) (x4 : Int32) (S : St) : ex X d 141 47 [.ref 29, .int x1, .int x2, .int x3, .int x4, .int (x3 - x1), .int (x2 - x4), .retAddr 0, .retAddr 0, .retAddr 0, .retAddr 0] [] (hh S) (n + 4) = if (x2 - x4) = 0 then ex X d 141 56 [.ref 29, .int x1, .int x2, .int x3, .int x4, .int (x3 - x1), .int (x2 - x4), .int (x2 - x4), .retAddr 0, .retAddr 0, .retAddr 0] [] (hh S) n else ex X d 141 62 [.ref 29, .int x1, .int x2, .int x3, .int x4, .int (x3 - x1), .int (x2 - x4), .int (x2 - x4), .retAddr 0, .retAddr 0, .retAddr 0] [] (hh S) n := rfl
theorem B_141_40 {X : Nat × (Nat → Int32)} {d : Nat} (n : Nat) (x1 : Int32) (x2 : Int32) (x3 : Int32) (x4 : Int32) (S : St) : ex X (d + 1) 141 56 [.ref 29, .int x1, .int x2, .int x3, .int x4, .int (x3 - x1), .int (x2 - x4), .int (x2 - x4), .retAddr 0, .retAddr 0, .retAddr 0] [] (hh S) (n + 4) = (match ex X d 140 0 [.ref 29, .int x1, .int x2, .retAddr 0] [] (hh S) n with | some (v, h') => ex X (d + 1) 141 62 [.ref 29, .int x1, .int x2, .int x3, .int x4, .int (x3 - x1), .int (x2 - x4), .int (x2 - x4), .retAddr 0, .retAddr 0, .retAddr 0] (v.toList ++ []) h' n | none => none) := rfl
theorem B_141_41 {X : Nat × (Nat → Int32)} {d : Nat} (n : Nat) (x1 : Int32) (x2 : Int32) (x3 : Int32) (x4 : Int32) (S21 : St) : ex X d 141 62 [.ref 29, .int x1, .int x2, .int x3, .int x4, .int (x3 - x1), .int (x2 - x4), .int (x2 - x4), .retAddr 0, .retAddr 0, .retAddr 0] [] (hh S21) (n + 2) = ex X d 141 65 [.ref 29, .int x1, .int x2, .int x3, .int x4, .int (x3 - x1), .int (x2 - x4), .int (x2 - x4), .int 0, .retAddr 0, .retAddr 0] [] (hh S21) n := rfl
theorem B_141_42 {X : Nat × (Nat → Int32)} {d : Nat} (n : Nat) (x1 : Int32) (x2 : Int32) (x3 : Int32) (x4 : Int32) (S : St) : ex X d 141 47 [.ref 29, .int x1, .int x2, .int x3, .int x4, .int (x3 - x1), .int (x2 - x4), .retAddr 0, .retAddr 0, .retAddr 0, .retAddr 0] [] (hh S) (n + 4) = if (x2 - x4) = 0 then ex X d 141 56 [.ref 29, .int x1, .int x2, .int x3, .int x4, .int (x3 - x1), .int (x2 - x4), .int (x2 - x4), .retAddr 0, .retAddr 0, .retAddr 0] [] (hh S) n else ex X d 141 62 [.ref 29, .int x1, .int x2, .int x3, .int x4, .int (x3 - x1), .int (x2 - x4), .int (x2 - x4), .retAddr 0, .retAddr 0, .retAddr 0] [] (hh S) n := rfl
theorem B_141_43 {X : Nat × (Nat → Int32)} {d : Nat} (n : Nat) (x1 : Int32) (x2 : Int32) (x3 : Int32) (x4 : Int32) (S : St) : ex X d 141 62 [.ref 29, .int x1, .int x2, .int x3, .int x4, .int (x3 - x1), .int (x2 - x4), .int (x2 - x4), .retAddr 0, .retAddr 0, .retAddr 0] [] (hh S) (n + 2) = ex X d 141 65 [.ref 29, .int x1, .int x2, .int x3, .int x4, .int (x3 - x1), .int (x2 - x4), .int (x2 - x4), .int 0, .retAddr 0, .retAddr 0] [] (hh S) n := rfl
theorem B_141_44 {X : Nat × (Nat → Int32)} {d : Nat} (n : Nat) (x1 : Int32) (x2 : Int32) (x3 : Int32) (x4 : Int32) (S : St) : ex X d 141 29 [.ref 29, .int x1, .int x2, .int x3, .int x4, .int (x3 - x1), .retAddr 0, .retAddr 0, .retAddr 0, .retAddr 0, .retAddr 0] [] (hh S) (n + 7) = if (x3 - x1) ≤ (x2 - x4) then ex X d 141 47 [.ref 29, .int x1, .int x2, .int x3, .int x4, .int (x3 - x1), .int (x2 - x4), .retAddr 0, .retAddr 0, .retAddr 0, .retAddr 0] [] (hh S) n else ex X d 141 42 [.ref 29, .int x1, .int x2, .int x3, .int x4, .int (x3 - x1), .int (x2 - x4), .retAddr 0, .retAddr 0, .retAddr 0, .retAddr 0] [] (hh S) n := rfl
theorem B_141_45 {X : Nat × (Nat → Int32)} {d : Nat} (n : Nat) (x1 : Int32) (x2 : Int32) (x3 : Int32) (x4 : Int32) (S : St) : ex X d 141 42 [.ref 29, .int x1, .int x2, .int x3, .int x4, .int (x3 - x1), .int (x2 - x4), .retAddr 0, .retAddr 0, .retAddr 0, .retAddr 0] [] (hh S) (n + 5) = if (x3 - x1) = 0 then ex X d 141 56 [.ref 29, .int x1, .int x2, .int x3, .int x4, .int (x3 - x1), .int (x2 - x4), .int (x3 - x1), .retAddr 0, .retAddr 0, .retAddr 0] [] (hh S) n else ex X d 141 62 [.ref 29, .int x1, .int x2, .int x3, .int x4, .int (x3 - x1), .int (x2 - x4), .int (x3 - x1), .retAddr 0, .retAddr 0, .retAddr 0] [] (hh S) n := rfl
theorem B_141_46 {X : Nat × (Nat → Int32)} {d : Nat} (n : Nat) (x1 : Int32) (x2 : Int32) (x3 : Int32) (x4 : Int32) (S : St) : ex X (d + 1) 141 56 [.ref 29, .int x1, .int x2, .int x3, .int x4, .int (x3 - x1), .int (x2 - x4), .int (x3 - x1), .retAddr 0, .retAddr 0, .retAddr 0] [] (hh S) (n + 4) = (match ex X d 140 0 [.ref 29, .int x1, .int x2, .retAddr 0] [] (hh S) n with | some (v, h') => ex X (d + 1) 141 62 [.ref 29, .int x1, .int x2, .int x3, .int x4, .int (x3 - x1), .int (x2 - x4), .int (x3 - x1), .retAddr 0, .retAddr 0, .retAddr 0] (v.toList ++ []) h' n | none => none) := rfl
theorem B_141_47 {X : Nat × (Nat → Int32)} {d : Nat} (n : Nat) (x1 : Int32) (x2 : Int32) (x3 : Int32) (x4 : Int32) (S23 : St) : ex X d 141 62 [.ref 29, .int x1, .int x2, .int x3, .int x4, .int (x3 - x1), .int (x2 - x4), .int (x3 - x1), .retAddr 0, .retAddr 0, .retAddr 0] [] (hh S23) (n + 2) = ex X d 141 65 [.ref 29, .int x1, .int x2, .int x3, .int x4, .int (x3 - x1), .int (x2 - x4), .int (x3 - x1), .int 0, .retAddr 0, .retAddr 0] [] (hh S23) n := rfl
theorem B_141_48 {X : Nat × (Nat → Int32)} {d : Nat} (n : Nat) (x1 : Int32) (x2 : Int32) (x3 : Int32) (x4 : Int32) (S : St) : ex X d 141 42 [.ref 29, .int x1, .int x2, .int x3, .int x4, .int (x3 - x1), .int (x2 - x4), .retAddr 0, .retAddr 0, .retAddr 0, .retAddr 0] [] (hh S) (n + 5) = if (x3 - x1) = 0 then ex X d 141 56 [.ref 29, .int x1, .int x2, .int x3, .int x4, .int (x3 - x1), .int (x2 - x4), .int (x3 - x1), .retAddr 0, .retAddr 0, .retAddr 0] [] (hh S) n else ex X d 141 62 [.ref 29, .int x1, .int x2, .int x3, .int x4, .int (x3 - x1), .int (x2 - x4), .int (x3 - x1), .retAddr 0, .retAddr 0, .retAddr 0] [] (hh S) n := rfl
theorem B_141_49 {X : Nat × (Nat → Int32)} {d : Nat} (n : Nat) (x1 : Int32) (x2 : Int32) (x3 : Int32) (x4 : Int32) (S : St) : ex X d 141 62 [.ref 29, .int x1, .int x2, .int x3, .int x4, .int (x3 - x1), .int (x2 - x4), .int (x3 - x1), .retAddr 0, .retAddr 0, .retAddr 0] [] (hh S) (n + 2) = ex X d 141 65 [.ref 29, .int x1, .int x2, .int x3, .int x4, .int (x3 - x1), .int (x2 - x4), .int (x3 - x1), .int 0, .retAddr 0, .retAddr 0] [] (hh S) n := rfl
theorem B_141_50 {X : Nat × (Nat → Int32)} {d : Nat} (n : Nat) (x1 : Int32) (x2 : Int32) (x3 : Int32) (x4 : Int32) (S : St) : ex X d 141 5 [.ref 29, .int x1, .int x2, .int x3, .int x4, .retAddr 0, .retAddr 0, .retAddr 0, .retAddr 0, .retAddr 0, .retAddr 0] [] (hh S) (n + 8) = if x4 ≤ x2 then ex X d 141 29 [.ref 29, .int x1, .int x2, .int x3, .int x4, .int (x3 - x1), .retAddr 0, .retAddr 0, .retAddr 0, .retAddr 0, .retAddr 0] [] (hh S) n else ex X d 141 22 [.ref 29, .int x1, .int x2, .int x3, .int x4, .int (x3 - x1), .retAddr 0, .retAddr 0, .retAddr 0, .retAddr 0, .retAddr 0] [] (hh S) n := rfl
theorem B_141_51 {X : Nat × (Nat → Int32)} {d : Nat} (n : Nat) (x1 : Int32) (x2 : Int32) (x3 : Int32) (x4 : Int32) (S : St) : ex X d 141 22 [.ref 29, .int x1, .int x2, .int x3, .int x4, .int (x3 - x1), .retAddr 0, .retAddr 0, .retAddr 0, .retAddr 0, .retAddr 0] [] (hh S) (n + 8) = if (x3 - x1) ≤ (x4 - x2) then ex X d 141 47 [.ref 29, .int x1, .int x2, .int x3, .int x4, .int (x3 - x1), .int (x4 - x2), .retAddr 0, .retAddr 0, .retAddr 0, .retAddr 0] [] (hh S) n else ex X d 141 42 [.ref 29, .int x1, .int x2, .int x3, .int x4, .int (x3 - x1), .int (x4 - x2), .retAddr 0, .retAddr 0, .retAddr 0, .retAddr 0] [] (hh S) n := rfl
theorem B_141_52 {X : Nat × (Nat → Int32)} {d : Nat} (n : Nat) (x1 : Int32) (x2 : Int32) (x3 : Int32) (x4 : Int32) (S : St) : ex X d 141 47 [.ref 29, .int x1, .int x2, .int x3, .int x4, .int (x3 - x1), .int (x4 - x2), .retAddr 0, .retAddr 0, .retAddr 0, .retAddr 0] [] (hh S) (n + 4) = if (x4 - x2) = 0 then ex X d 141 56 [.ref 29, .int x1, .int x2, .int x3, .int x4, .int (x3 - x1), .int (x4 - x2), .int (x4 - x2), .retAddr 0, .retAddr 0, .retAddr 0] [] (hh S) n else ex X d 141 62 [.ref 29, .int x1, .int x2, .int x3, .int x4, .int (x3 - x1), .int (x4 - x2), .int (x4 - x2), .retAddr 0, .retAddr 0, .retAddr 0] [] (hh S) n := rfl
theorem B_141_53 {X : Nat × (Nat → Int32)} {d : Nat} (n : Nat) (x1 : Int32) (x2 : Int32) (x3 : Int32) (x4 : Int32) (S : St) : ex X (d + 1) 141 56 [.ref 29, .int x1, .int x2, .int x3, .int x4, .int (x3 - x1), .int (x4 - x2), .int (x4 - x2), .retAddr 0, .retAddr 0, .retAddr 0] [] (hh S) (n + 4) = (match ex X d 140 0 [.ref 29, .int x1, .int x2, .retAddr 0] [] (hh S) n with | some (v, h') => ex X (d + 1) 141 62 [.ref 29, .int x1, .int x2, .int x3, .int x4, .int (x3 - x1), .int (x4 - x2), .int (x4 - x2), .retAddr 0, .retAddr 0, .retAddr 0] (v.toList ++ []) h' n | none => none) := rfl
theorem B_141_54 {X : Nat × (Nat → Int32)} {d : Nat} (n : Nat) (x1 : Int32) (x2 : Int32) (x3 : Int32) (x4 : Int32) (S26 : St) : ex X d 141 62 [.ref 29, .int x1, .int x2, .int x3, .int x4, .int (x3 - x1), .int (x4 - x2), .int (x4 - x2), .retAddr 0, .retAddr 0, .retAddr 0] [] (hh S26) (n + 2) = ex X d 141 65 [.ref 29, .int x1, .int x2, .int x3, .int x4, .int (x3 - x1), .int (x4 - x2), .int (x4 - x2), .int 0, .retAddr 0, .retAddr 0] [] (hh S26) n := rfl
theorem B_141_55 {X : Nat × (Nat → Int32)} {d : Nat} (n : Nat) (x1 : Int32) (x2 : Int32) (x3 : Int32) (x4 : Int32) (S : St) : ex X d 141 47 [.ref 29, .int x1, .int x2, .int x3, .int x4, .int (x3 - x1), .int (x4 - x2), .retAddr 0, .retAddr 0, .retAddr 0, .retAddr 0] [] (hh S) (n + 4) = if (x4 - x2) = 0 then ex X d 141 56 [.ref 29, .int x1, .int x2, .int x3, .int x4, .int (x3 - x1), .int (x4 - x2), .int (x4 - x2), .retAddr 0, .retAddr 0, .retAddr 0] [] (hh S) n else ex X d 141 62 [.ref 29, .int x1, .int x2, .int x3, .int x4, .int (x3 - x1), .int (x4 - x2), .int (x4 - x2), .retAddr 0, .retAddr 0, .retAddr 0] [] (hh S) n := rfl
theorem B_141_56 {X : Nat × (Nat → Int32)} {d : Nat} (n : Nat) (x1 : Int32) (x2 : Int32) (x3 : Int32) (x4 : Int32) (S : St) : ex X d 141 62 [.ref 29, .int x1, .int x2, .int x3, .int x4, .int (x3 - x1), .int (x4 - x2), .int (x4 - x2), .retAddr 0, .retAddr 0, .retAddr 0] [] (hh S) (n + 2) = ex X d 141 65 [.ref 29, .int x1, .int x2, .int x3, .int x4, .int (x3 - x1), .int (x4 - x2), .int (x4 - x2), .int 0, .retAddr 0, .retAddr 0] [] (hh S) n := rfl
theorem B_141_57 {X : Nat × (Nat → Int32)} {d : Nat} (n : Nat) (x1 : Int32) (x2 : Int32) (x3 : Int32) (x4 : Int32) (S : St) : ex X d 141 22 [.ref 29, .int x1, .int x2, .int x3, .int x4, .int (x3 - x1), .retAddr 0, .retAddr 0, .retAddr 0, .retAddr 0, .retAddr 0] [] (hh S) (n + 8) = if (x3 - x1) ≤ (x4 - x2) then ex X d 141 47 [.ref 29, .int x1, .int x2, .int x3, .int x4, .int (x3 - x1), .int (x4 - x2), .retAddr 0, .retAddr 0, .retAddr 0, .retAddr 0] [] (hh S) n else ex X d 141 42 [.ref 29, .int x1, .int x2, .int x3, .int x4, .int (x3 - x1), .int (x4 - x2), .retAddr 0, .retAddr 0, .retAddr 0, .retAddr 0] [] (hh S) n := rfl
theorem B_141_58 {X : Nat × (Nat → Int32)} {d : Nat} (n : Nat) (x1 : Int32) (x2 : Int32) (x3 : Int32) (x4 : Int32) (S : St) : ex X d 141 42 [.ref 29, .int x1, .int x2, .int x3, .int x4, .int (x3 - x1), .int (x4 - x2), .retAddr 0, .retAddr 0, .retAddr 0, .retAddr 0] [] (hh S) (n + 5) = if (x3 - x1) = 0 then ex X d 141 56 [.ref 29, .int x1, .int x2, .int x3, .int x4, .int (x3 - x1), .int (x4 - x2), .int (x3 - x1), .retAddr 0, .retAddr 0, .retAddr 0] [] (hh S) n else ex X d 141 62 [.ref 29, .int x1, .int x2, .int x3, .int x4, .int (x3 - x1), .int (x4 - x2), .int (x3 - x1), .retAddr 0, .retAddr 0, .retAddr 0] [] (hh S) n := rfl
theorem B_141_59 {X : Nat × (Nat → Int32)} {d : Nat} (n : Nat) (x1 : Int32) (x2 : Int32) (x3 : Int32) (x4 : Int32) (S : St) : ex X (d + 1) 141 56 [.ref 29, .int x1, .int x2, .int x3, .int x4, .int (x3 - x1), .int (x4 - x2), .int (x3 - x1), .retAddr 0, .retAddr 0, .retAddr 0] [] (hh S) (n + 4) = (match ex X d 140 0 [.ref 29, .int x1, .int x2, .retAddr 0] [] (hh S) n with | some (v, h') => ex X (d + 1) 141 62 [.ref 29, .int x1, .int x2, .int x3, .int x4, .int (x3 - x1), .int (x4 - x2), .int (x3 - x1), .retAddr 0, .retAddr 0, .retAddr 0] (v.toList ++ []) h' n | none => none) := rfl
theorem B_141_60 {X : Nat × (Nat → Int32)} {d : Nat} (n : Nat) (x1 : Int32) (x2 : Int32) (x3 : Int32) (x4 : Int32) (S28 : St) : ex X d 141 62 [.ref 29, .int x1, .int x2, .int x3, .int x4, .int (x3 - x1), .int (x4 - x2), .int (x3 - x1), .retAddr 0, .retAddr 0, .retAddr 0] [] (hh S28) (n + 2) = ex X d 141 65 [.ref 29, .int x1, .int x2, .int x3, .int x4, .int (x3 - x1), .int (x4 - x2), .int (x3 - x1), .int 0, .retAddr 0, .retAddr 0] [] (hh S28) n := rfl
theorem B_141_61 {X : Nat × (Nat → Int32)} {d : Nat} (n : Nat) (x1 : Int32) (x2 : Int32) (x3 : Int32) (x4 : Int32) (S : St) : ex X d 141 42 [.ref 29, .int x1, .int x2, .int x3, .int x4, .int (x3 - x1), .int (x4 - x2), .retAddr 0, .retAddr 0, .retAddr 0, .retAddr 0] [] (hh S) (n + 5) = if (x3 - x1) = 0 then ex X d 141 56 [.ref 29, .int x1, .int x2, .int x3, .int x4, .int (x3 - x1), .int (x4 - x2), .int (x3 - x1), .retAddr 0, .retAddr 0, .retAddr 0] [] (hh S) n else ex X d 141 62 [.ref 29, .int x1, .int x2, .int x3, .int x4, .int (x3 - x1), .int (x4 - x2), .int (x3 - x1), .retAddr 0, .retAddr 0, .retAddr 0] [] (hh S) n := rfl
theorem B_141_62 {X : Nat × (Nat → Int32)} {d : Nat} (n : Nat) (x1 : Int32) (x2 : Int32) (x3 : Int32) (x4 : Int32) (S : St) : ex X d 141 62 [.ref 29, .int x1, .int x2, .int x3, .int x4, .int (x3 - x1), .int (x4 - x2), .int (x3 - x1), .retAddr 0, .retAddr 0, .retAddr 0] [] (hh S) (n + 2) = ex X d 141 65 [.ref 29, .int x1, .int x2, .int x3, .int x4, .int (x3 - x1), .int (x4 - x2), .int (x3 - x1), .int 0, .retAddr 0, .retAddr 0] [] (hh S) n := rfl
set_option maxRecDepth 200000 in
theorem T_141 {X : Nat × (Nat → Int32)} (S : St) (x1 : Int32) (x2 : Int32) (x3 : Int32) (x4 : Int32) (r : Unit) (S' : St) (hG : G_141 S x1 x2 x3 x4 = some (r, S')) : Ev X 1 141 0 [.ref 29, .int x1, .int x2, .int x3, .int x4, .retAddr 0, .retAddr 0, .retAddr 0, .retAddr 0, .retAddr 0, .retAddr 0] [] (hh S) (xV r, hh S') := by
  unfold G_141 at hG
  by_cases c6 : x3 ≤ x1
  · rw [if_pos c6] at hG
    refine Ev.t (c := x3 ≤ x1) (p1 := 11) (L1 := [.ref 29, .int x1, .int x2, .int x3, .int x4, .retAddr 0, .retAddr 0, .retAddr 0, .retAddr 0, .retAddr 0, .retAddr 0]) (s1 := []) (h1 := hh S) (p2 := 5) (L2 := [.ref 29, .int x1, .int x2, .int x3, .int x4, .retAddr 0, .retAddr 0, .retAddr 0, .retAddr 0, .retAddr 0, .retAddr 0]) (s2 := []) (h2 := hh S) 3 (fun n => B_141_9 n x1 x2 x3 x4 S) c6 ?_
    by_cases c7 : x4 ≤ x2
    · rw [if_pos c7] at hG
      refine Ev.t (c := x4 ≤ x2) (p1 := 29) (L1 := [.ref 29, .int x1, .int x2, .int x3, .int x4, .int (x1 - x3), .retAddr 0, .retAddr 0, .retAddr 0, .retAddr 0, .retAddr 0]) (s1 := []) (h1 := hh S) (p2 := 22) (L2 := [.ref 29, .int x1, .int x2, .int x3, .int x4, .int (x1 - x3), .retAddr 0, .retAddr 0, .retAddr 0, .retAddr 0, .retAddr 0]) (s2 := []) (h2 := hh S) 7 (fun n => B_141_10 n x1 x2 x3 x4 S) c7 ?_
      by_cases c8 : (x1 - x3) ≤ (x2 - x4)
      · rw [if_pos c8] at hG
        refine Ev.t (c := (x1 - x3) ≤ (x2 - x4)) (p1 := 47) (L1 := [.ref 29, .int x1, .int x2, .int x3, .int x4, .int (x1 - x3), .int (x2 - x4), .retAddr 0, .retAddr 0, .retAddr 0, .retAddr 0]) (s1 := []) (h1 := hh S) (p2 := 42) (L2 := [.ref 29, .int x1, .int x2, .int x3, .int x4, .int (x1 - x3), .int (x2 - x4), .retAddr 0, .retAddr 0, .retAddr 0, .retAddr 0]) (s2 := []) (h2 := hh S) 7 (fun n => B_141_11 n x1 x2 x3 x4 S) c8 ?_
        by_cases c9 : (x2 - x4) = 0
        · rw [if_pos c9] at hG
          refine Ev.t (c := (x2 - x4) = 0) (p1 := 56) (L1 := [.ref 29, .int x1, .int x2, .int x3, .int x4, .int (x1 - x3), .int (x2 - x4), .int (x2 - x4), .retAddr 0, .retAddr 0, .retAddr 0]) (s1 := []) (h1 := hh S) (p2 := 62) (L2 := [.ref 29, .int x1, .int x2, .int x3, .int x4, .int (x1 - x3), .int (x2 - x4), .int (x2 - x4), .retAddr 0, .retAddr 0, .retAddr 0]) (s2 := []) (h2 := hh S) 4 (fun n => B_141_12 n x1 x2 x3 x4 S) c9 ?_
          rcases h10 : G_140 S x1 x2 with _ | ⟨v10, S10⟩
          · rw [h10] at hG; cases hG
          rw [h10] at hG
          dsimp only at hG
          refine Ev.c (a := 140) (A := [.ref 29, .int x1, .int x2, .retAddr 0]) (h1 := hh S) (pc' := 62) (L' := [.ref 29, .int x1, .int x2, .int x3, .int x4, .int (x1 - x3), .int (x2 - x4), .int (x2 - x4), .retAddr 0, .retAddr 0, .retAddr 0]) (rest := []) (r1 := none) (h2 := hh S10) 4 (fun n => B_141_13 n x1 x2 x3 x4 S) (Ev.up (by decide) (T_140 S x1 x2 _ _ h10)) ?_
          show Ev X _ 141 62 [.ref 29, .int x1, .int x2, .int x3, .int x4, .int (x1 - x3), .int (x2 - x4), .int (x2 - x4), .retAddr 0, .retAddr 0, .retAddr 0] [] (hh S10) _
          exact Ev.b (pc' := 65) (L' := [.ref 29, .int x1, .int x2, .int x3, .int x4, .int (x1 - x3), .int (x2 - x4), .int (x2 - x4), .int 0, .retAddr 0, .retAddr 0]) (st' := []) (h' := hh S10) 2 (fun n => B_141_14 n x1 x2 x3 x4 S10) (TL_141_0 xFu S10 x1 x2 x3 x4 (x2 - x4) (0 : Int32) _ _ hG (.int (x1 - x3)) (.int (x2 - x4)) (.retAddr 0) (.retAddr 0))
        · rw [if_neg c9] at hG
          refine Ev.f (c := (x2 - x4) = 0) (p1 := 56) (L1 := [.ref 29, .int x1, .int x2, .int x3, .int x4, .int (x1 - x3), .int (x2 - x4), .int (x2 - x4), .retAddr 0, .retAddr 0, .retAddr 0]) (s1 := []) (h1 := hh S) (p2 := 62) (L2 := [.ref 29, .int x1, .int x2, .int x3, .int x4, .int (x1 - x3), .int (x2 - x4), .int (x2 - x4), .retAddr 0, .retAddr 0, .retAddr 0]) (s2 := []) (h2 := hh S) 4 (fun n => B_141_15 n x1 x2 x3 x4 S) c9 ?_
          exact Ev.b (pc' := 65) (L' := [.ref 29, .int x1, .int x2, .int x3, .int x4, .int (x1 - x3), .int (x2 - x4), .int (x2 - x4), .int 0, .retAddr 0, .retAddr 0]) (st' := []) (h' := hh S) 2 (fun n => B_141_16 n x1 x2 x3 x4 S) (TL_141_0 xFu S x1 x2 x3 x4 (x2 - x4) (0 : Int32) _ _ hG (.int (x1 - x3)) (.int (x2 - x4)) (.retAddr 0) (.retAddr 0))
      · rw [if_neg c8] at hG
        refine Ev.f (c := (x1 - x3) ≤ (x2 - x4)) (p1 := 47) (L1 := [.ref 29, .int x1, .int x2, .int x3, .int x4, .int (x1 - x3), .int (x2 - x4), .retAddr 0, .retAddr 0, .retAddr 0, .retAddr 0]) (s1 := []) (h1 := hh S) (p2 := 42) (L2 := [.ref 29, .int x1, .int x2, .int x3, .int x4, .int (x1 - x3), .int (x2 - x4), .retAddr 0, .retAddr 0, .retAddr 0, .retAddr 0]) (s2 := []) (h2 := hh S) 7 (fun n => B_141_17 n x1 x2 x3 x4 S) c8 ?_
        by_cases c11 : (x1 - x3) = 0
        · rw [if_pos c11] at hG
          refine Ev.t (c := (x1 - x3) = 0) (p1 := 56) (L1 := [.ref 29, .int x1, .int x2, .int x3, .int x4, .int (x1 - x3), .int (x2 - x4), .int (x1 - x3), .retAddr 0, .retAddr 0, .retAddr 0]) (s1 := []) (h1 := hh S) (p2 := 62) (L2 := [.ref 29, .int x1, .int x2, .int x3, .int x4, .int (x1 - x3), .int (x2 - x4), .int (x1 - x3), .retAddr 0, .retAddr 0, .retAddr 0]) (s2 := []) (h2 := hh S) 5 (fun n => B_141_18 n x1 x2 x3 x4 S) c11 ?_
          rcases h12 : G_140 S x1 x2 with _ | ⟨v12, S12⟩
          · rw [h12] at hG; cases hG
          rw [h12] at hG
          dsimp only at hG
          refine Ev.c (a := 140) (A := [.ref 29, .int x1, .int x2, .retAddr 0]) (h1 := hh S) (pc' := 62) (L' := [.ref 29, .int x1, .int x2, .int x3, .int x4, .int (x1 - x3), .int (x2 - x4), .int (x1 - x3), .retAddr 0, .retAddr 0, .retAddr 0]) (rest := []) (r1 := none) (h2 := hh S12) 4 (fun n => B_141_19 n x1 x2 x3 x4 S) (Ev.up (by decide) (T_140 S x1 x2 _ _ h12)) ?_
          show Ev X _ 141 62 [.ref 29, .int x1, .int x2, .int x3, .int x4, .int (x1 - x3), .int (x2 - x4), .int (x1 - x3), .retAddr 0, .retAddr 0, .retAddr 0] [] (hh S12) _
          exact Ev.b (pc' := 65) (L' := [.ref 29, .int x1, .int x2, .int x3, .int x4, .int (x1 - x3), .int (x2 - x4), .int (x1 - x3), .int 0, .retAddr 0, .retAddr 0]) (st' := []) (h' := hh S12) 2 (fun n => B_141_20 n x1 x2 x3 x4 S12) (TL_141_0 xFu S12 x1 x2 x3 x4 (x1 - x3) (0 : Int32) _ _ hG (.int (x1 - x3)) (.int (x2 - x4)) (.retAddr 0) (.retAddr 0))
        · rw [if_neg c11] at hG
          refine Ev.f (c := (x1 - x3) = 0) (p1 := 56) (L1 := [.ref 29, .int x1, .int x2, .int x3, .int x4, .int (x1 - x3), .int (x2 - x4), .int (x1 - x3), .retAddr 0, .retAddr 0, .retAddr 0]) (s1 := []) (h1 := hh S) (p2 := 62) (L2 := [.ref 29, .int x1, .int x2, .int x3, .int x4, .int (x1 - x3), .int (x2 - x4), .int (x1 - x3), .retAddr 0, .retAddr 0, .retAddr 0]) (s2 := []) (h2 := hh S) 5 (fun n => B_141_21 n x1 x2 x3 x4 S) c11 ?_
          exact Ev.b (pc' := 65) (L' := [.ref 29, .int x1, .int x2, .int x3, .int x4, .int (x1 - x3), .int (x2 - x4), .int (x1 - x3), .int 0, .retAddr 0, .retAddr 0]) (st' := []) (h' := hh S) 2 (fun n => B_141_22 n x1 x2 x3 x4 S) (TL_141_0 xFu S x1 x2 x3 x4 (x1 - x3) (0 : Int32) _ _ hG (.int (x1 - x3)) (.int (x2 - x4)) (.retAddr 0) (.retAddr 0))
    · rw [if_neg c7] at hG
      refine Ev.f (c := x4 ≤ x2) (p1 := 29) (L1 := [.ref 29, .int x1, .int x2, .int x3, .int x4, .int (x1 - x3), .retAddr 0, .retAddr 0, .retAddr 0, .retAddr 0, .retAddr 0]) (s1 := []) (h1 := hh S) (p2 := 22) (L2 := [.ref 29, .int x1, .int x2, .int x3, .int x4, .int (x1 - x3), .retAddr 0, .retAddr 0, .retAddr 0, .retAddr 0, .retAddr 0]) (s2 := []) (h2 := hh S) 7 (fun n => B_141_23 n x1 x2 x3 x4 S) c7 ?_
      by_cases c13 : (x1 - x3) ≤ (x4 - x2)
      · rw [if_pos c13] at hG
        refine Ev.t (c := (x1 - x3) ≤ (x4 - x2)) (p1 := 47) (L1 := [.ref 29, .int x1, .int x2, .int x3, .int x4, .int (x1 - x3), .int (x4 - x2), .retAddr 0, .retAddr 0, .retAddr 0, .retAddr 0]) (s1 := []) (h1 := hh S) (p2 := 42) (L2 := [.ref 29, .int x1, .int x2, .int x3, .int x4, .int (x1 - x3), .int (x4 - x2), .retAddr 0, .retAddr 0, .retAddr 0, .retAddr 0]) (s2 := []) (h2 := hh S) 8 (fun n => B_141_24 n x1 x2 x3 x4 S) c13 ?_
        by_cases c14 : (x4 - x2) = 0
        · rw [if_pos c14] at hG
          refine Ev.t (c := (x4 - x2) = 0) (p1 := 56) (L1 := [.ref 29, .int x1, .int x2, .int x3, .int x4, .int (x1 - x3), .int (x4 - x2), .int (x4 - x2), .retAddr 0, .retAddr 0, .retAddr 0]) (s1 := []) (h1 := hh S) (p2 := 62) (L2 := [.ref 29, .int x1, .int x2, .int x3, .int x4, .int (x1 - x3), .int (x4 - x2), .int (x4 - x2), .retAddr 0, .retAddr 0, .retAddr 0]) (s2 := []) (h2 := hh S) 4 (fun n => B_141_25 n x1 x2 x3 x4 S) c14 ?_
          rcases h15 : G_140 S x1 x2 with _ | ⟨v15, S15⟩
          · rw [h15] at hG; cases hG
          rw [h15] at hG
          dsimp only at hG
          refine Ev.c (a := 140) (A := [.ref 29, .int x1, .int x2, .retAddr 0]) (h1 := hh S) (pc' := 62) (L' := [.ref 29, .int x1, .int x2, .int x3, .int x4, .int (x1 - x3), .int (x4 - x2), .int (x4 - x2), .retAddr 0, .retAddr 0, .retAddr 0]) (rest := []) (r1 := none) (h2 := hh S15) 4 (fun n => B_141_26 n x1 x2 x3 x4 S) (Ev.up (by decide) (T_140 S x1 x2 _ _ h15)) ?_
          show Ev X _ 141 62 [.ref 29, .int x1, .int x2, .int x3, .int x4, .int (x1 - x3), .int (x4 - x2), .int (x4 - x2), .retAddr 0, .retAddr 0, .retAddr 0] [] (hh S15) _
          exact Ev.b (pc' := 65) (L' := [.ref 29, .int x1, .int x2, .int x3, .int x4, .int (x1 - x3), .int (x4 - x2), .int (x4 - x2), .int 0, .retAddr 0, .retAddr 0]) (st' := []) (h' := hh S15) 2 (fun n => B_141_27 n x1 x2 x3 x4 S15) (TL_141_0 xFu S15 x1 x2 x3 x4 (x4 - x2) (0 : Int32) _ _ hG (.int (x1 - x3)) (.int (x4 - x2)) (.retAddr 0) (.retAddr 0))
        · rw [if_neg c14] at hG
          refine Ev.f (c := (x4 - x2) = 0) (p1 := 56) (L1 := [.ref 29, .int x1, .int x2, .int x3, .int x4, .int (x1 - x3), .int (x4 - x2), .int (x4 - x2), .retAddr 0, .retAddr 0, .retAddr 0]) (s1 := []) (h1 := hh S) (p2 := 62) (L2 := [.ref 29, .int x1, .int x2, .int x3, .int x4, .int (x1 - x3), .int (x4 - x2), .int (x4 - x2), .retAddr 0, .retAddr 0, .retAddr 0]) (s2 := []) (h2 := hh S) 4 (fun n => B_141_28 n x1 x2 x3 x4 S) c14 ?_
          exact Ev.b (pc' := 65) (L' := [.ref 29, .int x1, .int x2, .int x3, .int x4, .int (x1 - x3), .int (x4 - x2), .int (x4 - x2), .int 0, .retAddr 0, .retAddr 0]) (st' := []) (h' := hh S) 2 (fun n => B_141_29 n x1 x2 x3 x4 S) (TL_141_0 xFu S x1 x2 x3 x4 (x4 - x2) (0 : Int32) _ _ hG (.int (x1 - x3)) (.int (x4 - x2)) (.retAddr 0) (.retAddr 0))
      · rw [if_neg c13] at hG
        refine Ev.f (c := (x1 - x3) ≤ (x4 - x2)) (p1 := 47) (L1 := [.ref 29, .int x1, .int x2, .int x3, .int x4, .int (x1 - x3), .int (x4 - x2), .retAddr 0, .retAddr 0, .retAddr 0, .retAddr 0]) (s1 := []) (h1 := hh S) (p2 := 42) (L2 := [.ref 29, .int x1, .int x2, .int x3, .int x4, .int (x1 - x3), .int (x4 - x2), .retAddr 0, .retAddr 0, .retAddr 0, .retAddr 0]) (s2 := []) (h2 := hh S) 8 (fun n => B_141_30 n x1 x2 x3 x4 S) c13 ?_
        by_cases c16 : (x1 - x3) = 0
        · rw [if_pos c16] at hG
          refine Ev.t (c := (x1 - x3) = 0) (p1 := 56) (L1 := [.ref 29, .int x1, .int x2, .int x3, .int x4, .int (x1 - x3), .int (x4 - x2), .int (x1 - x3), .retAddr 0, .retAddr 0, .retAddr 0]) (s1 := []) (h1 := hh S) (p2 := 62) (L2 := [.ref 29, .int x1, .int x2, .int x3, .int x4, .int (x1 - x3), .int (x4 - x2), .int (x1 - x3), .retAddr 0, .retAddr 0, .retAddr 0]) (s2 := []) (h2 := hh S) 5 (fun n => B_141_31 n x1 x2 x3 x4 S) c16 ?_
          rcases h17 : G_140 S x1 x2 with _ | ⟨v17, S17⟩
          · rw [h17] at hG; cases hG
          rw [h17] at hG
          dsimp only at hG
          refine Ev.c (a := 140) (A := [.ref 29, .int x1, .int x2, .retAddr 0]) (h1 := hh S) (pc' := 62) (L' := [.ref 29, .int x1, .int x2, .int x3, .int x4, .int (x1 - x3), .int (x4 - x2), .int (x1 - x3), .retAddr 0, .retAddr 0, .retAddr 0]) (rest := []) (r1 := none) (h2 := hh S17) 4 (fun n => B_141_32 n x1 x2 x3 x4 S) (Ev.up (by decide) (T_140 S x1 x2 _ _ h17)) ?_
          show Ev X _ 141 62 [.ref 29, .int x1, .int x2, .int x3, .int x4, .int (x1 - x3), .int (x4 - x2), .int (x1 - x3), .retAddr 0, .retAddr 0, .retAddr 0] [] (hh S17) _
          exact Ev.b (pc' := 65) (L' := [.ref 29, .int x1, .int x2, .int x3, .int x4, .int (x1 - x3), .int (x4 - x2), .int (x1 - x3), .int 0, .retAddr 0, .retAddr 0]) (st' := []) (h' := hh S17) 2 (fun n => B_141_33 n x1 x2 x3 x4 S17) (TL_141_0 xFu S17 x1 x2 x3 x4 (x1 - x3) (0 : Int32) _ _ hG (.int (x1 - x3)) (.int (x4 - x2)) (.retAddr 0) (.retAddr 0))
        · rw [if_neg c16] at hG
          refine Ev.f (c := (x1 - x3) = 0) (p1 := 56) (L1 := [.ref 29, .int x1, .int x2, .int x3, .int x4, .int (x1 - x3), .int (x4 - x2), .int (x1 - x3), .retAddr 0, .retAddr 0, .retAddr 0]) (s1 := []) (h1 := hh S) (p2 := 62) (L2 := [.ref 29, .int x1, .int x2, .int x3, .int x4, .int (x1 - x3), .int (x4 - x2), .int (x1 - x3), .retAddr 0, .retAddr 0, .retAddr 0]) (s2 := []) (h2 := hh S) 5 (fun n => B_141_34 n x1 x2 x3 x4 S) c16 ?_
          exact Ev.b (pc' := 65) (L' := [.ref 29, .int x1, .int x2, .int x3, .int x4, .int (x1 - x3), .int (x4 - x2), .int (x1 - x3), .int 0, .retAddr 0, .retAddr 0]) (st' := []) (h' := hh S) 2 (fun n => B_141_35 n x1 x2 x3 x4 S) (TL_141_0 xFu S x1 x2 x3 x4 (x1 - x3) (0 : Int32) _ _ hG (.int (x1 - x3)) (.int (x4 - x2)) (.retAddr 0) (.retAddr 0))
  · rw [if_neg c6] at hG
    refine Ev.f (c := x3 ≤ x1) (p1 := 11) (L1 := [.ref 29, .int x1, .int x2, .int x3, .int x4, .retAddr 0, .retAddr 0, .retAddr 0, .retAddr 0, .retAddr 0, .retAddr 0]) (s1 := []) (h1 := hh S) (p2 := 5) (L2 := [.ref 29, .int x1, .int x2, .int x3, .int x4, .retAddr 0, .retAddr 0, .retAddr 0, .retAddr 0, .retAddr 0, .retAddr 0]) (s2 := []) (h2 := hh S) 3 (fun n => B_141_36 n x1 x2 x3 x4 S) c6 ?_
    by_cases c18 : x4 ≤ x2
    · rw [if_pos c18] at hG
      refine Ev.t (c := x4 ≤ x2) (p1 := 29) (L1 := [.ref 29, .int x1, .int x2, .int x3, .int x4, .int (x3 - x1), .retAddr 0, .retAddr 0, .retAddr 0, .retAddr 0, .retAddr 0]) (s1 := []) (h1 := hh S) (p2 := 22) (L2 := [.ref 29, .int x1, .int x2, .int x3, .int x4, .int (x3 - x1), .retAddr 0, .retAddr 0, .retAddr 0, .retAddr 0, .retAddr 0]) (s2 := []) (h2 := hh S) 8 (fun n => B_141_37 n x1 x2 x3 x4 S) c18 ?_
      by_cases c19 : (x3 - x1) ≤ (x2 - x4)
      · rw [if_pos c19] at hG
        refine Ev.t (c := (x3 - x1) ≤ (x2 - x4)) (p1 := 47) (L1 := [.ref 29, .int x1, .int x2, .int x3, .int x4, .int (x3 - x1), .int (x2 - x4), .retAddr 0, .retAddr 0, .retAddr 0, .retAddr 0]) (s1 := []) (h1 := hh S) (p2 := 42) (L2 := [.ref 29, .int x1, .int x2, .int x3, .int x4, .int (x3 - x1), .int (x2 - x4), .retAddr 0, .retAddr 0, .retAddr 0, .retAddr 0]) (s2 := []) (h2 := hh S) 7 (fun n => B_141_38 n x1 x2 x3 x4 S) c19 ?_
        by_cases c20 : (x2 - x4) = 0
        · rw [if_pos c20] at hG
          refine Ev.t (c := (x2 - x4) = 0) (p1 := 56) (L1 := [.ref 29, .int x1, .int x2, .int x3, .int x4, .int (x3 - x1), .int (x2 - x4), .int (x2 - x4), .retAddr 0, .retAddr 0, .retAddr 0]) (s1 := []) (h1 := hh S) (p2 := 62) (L2 := [.ref 29, .int x1, .int x2, .int x3, .int x4, .int (x3 - x1), .int (x2 - x4), .int (x2 - x4), .retAddr 0, .retAddr 0, .retAddr 0]) (s2 := []) (h2 := hh S) 4 (fun n => B_141_39 n x1 x2 x3 x4 S) c20 ?_
          rcases h21 : G_140 S x1 x2 with _ | ⟨v21, S21⟩
          · rw [h21] at hG; cases hG
          rw [h21] at hG
          dsimp only at hG
          refine Ev.c (a := 140) (A := [.ref 29, .int x1, .int x2, .retAddr 0]) (h1 := hh S) (pc' := 62) (L' := [.ref 29, .int x1, .int x2, .int x3, .int x4, .int (x3 - x1), .int (x2 - x4), .int (x2 - x4), .retAddr 0, .retAddr 0, .retAddr 0]) (rest := []) (r1 := none) (h2 := hh S21) 4 (fun n => B_141_40 n x1 x2 x3 x4 S) (Ev.up (by decide) (T_140 S x1 x2 _ _ h21)) ?_
          show Ev X _ 141 62 [.ref 29, .int x1, .int x2, .int x3, .int x4, .int (x3 - x1), .int (x2 - x4), .int (x2 - x4), .retAddr 0, .retAddr 0, .retAddr 0] [] (hh S21) _
          exact Ev.b (pc' := 65) (L' := [.ref 29, .int x1, .int x2, .int x3, .int x4, .int (x3 - x1), .int (x2 - x4), .int (x2 - x4), .int 0, .retAddr 0, .retAddr 0]) (st' := []) (h' := hh S21) 2 (fun n => B_141_41 n x1 x2 x3 x4 S21) (TL_141_0 xFu S21 x1 x2 x3 x4 (x2 - x4) (0 : Int32) _ _ hG (.int (x3 - x1)) (.int (x2 - x4)) (.retAddr 0) (.retAddr 0))
        · rw [if_neg c20] at hG
          refine Ev.f (c := (x2 - x4) = 0) (p1 := 56) (L1 := [.ref 29, .int x1, .int x2, .int x3, .int x4, .int (x3 - x1), .int (x2 - x4), .int (x2 - x4), .retAddr 0, .retAddr 0, .retAddr 0]) (s1 := []) (h1 := hh S) (p2 := 62) (L2 := [.ref 29, .int x1, .int x2, .int x3, .int x4, .int (x3 - x1), .int (x2 - x4), .int (x2 - x4), .retAddr 0, .retAddr 0, .retAddr 0]) (s2 := []) (h2 := hh S) 4 (fun n => B_141_42 n x1 x2 x3 x4 S) c20 ?_
          exact Ev.b (pc' := 65) (L' := [.ref 29, .int x1, .int x2, .int x3, .int x4, .int (x3 - x1), .int (x2 - x4), .int (x2 - x4), .int 0, .retAddr 0, .retAddr 0]) (st' := []) (h' := hh S) 2 (fun n => B_141_43 n x1 x2 x3 x4 S) (TL_141_0 xFu S x1 x2 x3 x4 (x2 - x4) (0 : Int32) _ _ hG (.int (x3 - x1)) (.int (x2 - x4)) (.retAddr 0) (.retAddr 0))
      · rw [if_neg c19] at hG
        refine Ev.f (c := (x3 - x1) ≤ (x2 - x4)) (p1 := 47) (L1 := [.ref 29, .int x1, .int x2, .int x3, .int x4, .int (x3 - x1), .int (x2 - x4), .retAddr 0, .retAddr 0, .retAddr 0, .retAddr 0]) (s1 := []) (h1 := hh S) (p2 := 42) (L2 := [.ref 29, .int x1, .int x2, .int x3, .int x4, .int (x3 - x1), .int (x2 - x4), .retAddr 0, .retAddr 0, .retAddr 0, .retAddr 0]) (s2 := []) (h2 := hh S) 7 (fun n => B_141_44 n x1 x2 x3 x4 S) c19 ?_
        by_cases c22 : (x3 - x1) = 0
        · rw [if_pos c22] at hG
          refine Ev.t (c := (x3 - x1) = 0) (p1 := 56) (L1 := [.ref 29, .int x1, .int x2, .int x3, .int x4, .int (x3 - x1), .int (x2 - x4), .int (x3 - x1), .retAddr 0, .retAddr 0, .retAddr 0]) (s1 := []) (h1 := hh S) (p2 := 62) (L2 := [.ref 29, .int x1, .int x2, .int x3, .int x4, .int (x3 - x1), .int (x2 - x4), .int (x3 - x1), .retAddr 0, .retAddr 0, .retAddr 0]) (s2 := []) (h2 := hh S) 5 (fun n => B_141_45 n x1 x2 x3 x4 S) c22 ?_
          rcases h23 : G_140 S x1 x2 with _ | ⟨v23, S23⟩
          · rw [h23] at hG; cases hG
          rw [h23] at hG
          dsimp only at hG
          refine Ev.c (a := 140) (A := [.ref 29, .int x1, .int x2, .retAddr 0]) (h1 := hh S) (pc' := 62) (L' := [.ref 29, .int x1, .int x2, .int x3, .int x4, .int (x3 - x1), .int (x2 - x4), .int (x3 - x1), .retAddr 0, .retAddr 0, .retAddr 0]) (rest := []) (r1 := none) (h2 := hh S23) 4 (fun n => B_141_46 n x1 x2 x3 x4 S) (Ev.up (by decide) (T_140 S x1 x2 _ _ h23)) ?_
          show Ev X _ 141 62 [.ref 29, .int x1, .int x2, .int x3, .int x4, .int (x3 - x1), .int (x2 - x4), .int (x3 - x1), .retAddr 0, .retAddr 0, .retAddr 0] [] (hh S23) _
          exact Ev.b (pc' := 65) (L' := [.ref 29, .int x1, .int x2, .int x3, .int x4, .int (x3 - x1), .int (x2 - x4), .int (x3 - x1), .int 0, .retAddr 0, .retAddr 0]) (st' := []) (h' := hh S23) 2 (fun n => B_141_47 n x1 x2 x3 x4 S23) (TL_141_0 xFu S23 x1 x2 x3 x4 (x3 - x1) (0 : Int32) _ _ hG (.int (x3 - x1)) (.int (x2 - x4)) (.retAddr 0) (.retAddr 0))
        · rw [if_neg c22] at hG
          refine Ev.f (c := (x3 - x1) = 0) (p1 := 56) (L1 := [.ref 29, .int x1, .int x2, .int x3, .int x4, .int (x3 - x1), .int (x2 - x4), .int (x3 - x1), .retAddr 0, .retAddr 0, .retAddr 0]) (s1 := []) (h1 := hh S) (p2 := 62) (L2 := [.ref 29, .int x1, .int x2, .int x3, .int x4, .int (x3 - x1), .int (x2 - x4), .int (x3 - x1), .retAddr 0, .retAddr 0, .retAddr 0]) (s2 := []) (h2 := hh S) 5 (fun n => B_141_48 n x1 x2 x3 x4 S) c22 ?_
          exact Ev.b (pc' := 65) (L' := [.ref 29, .int x1, .int x2, .int x3, .int x4, .int (x3 - x1), .int (x2 - x4), .int (x3 - x1), .int 0, .retAddr 0, .retAddr 0]) (st' := []) (h' := hh S) 2 (fun n => B_141_49 n x1 x2 x3 x4 S) (TL_141_0 xFu S x1 x2 x3 x4 (x3 - x1) (0 : Int32) _ _ hG (.int (x3 - x1)) (.int (x2 - x4)) (.retAddr 0) (.retAddr 0))
    · rw [if_neg c18] at hG
      refine Ev.f (c := x4 ≤ x2) (p1 := 29) (L1 := [.ref 29, .int x1, .int x2, .int x3, .int x4, .int (x3 - x1), .retAddr 0, .retAddr 0, .retAddr 0, .retAddr 0, .retAddr 0]) (s1 := []) (h1 := hh S) (p2 := 22) (L2 := [.ref 29, .int x1, .int x2, .int x3, .int x4, .int (x3 - x1), .retAddr 0, .retAddr 0, .retAddr 0, .retAddr 0, .retAddr 0]) (s2 := []) (h2 := hh S) 8 (fun n => B_141_50 n x1 x2 x3 x4 S) c18 ?_
      by_cases c24 : (x3 - x1) ≤ (x4 - x2)
      · rw [if_pos c24] at hG
        refine Ev.t (c := (x3 - x1) ≤ (x4 - x2)) (p1 := 47) (L1 := [.ref 29, .int x1, .int x2, .int x3, .int x4, .int (x3 - x1), .int (x4 - x2), .retAddr 0, .retAddr 0, .retAddr 0, .retAddr 0]) (s1 := []) (h1 := hh S) (p2 := 42) (L2 := [.ref 29, .int x1, .int x2, .int x3, .int x4, .int (x3 - x1), .int (x4 - x2), .retAddr 0, .retAddr 0, .retAddr 0, .retAddr 0]) (s2 := []) (h2 := hh S) 8 (fun n => B_141_51 n x1 x2 x3 x4 S) c24 ?_
        by_cases c25 : (x4 - x2) = 0
        · rw [if_pos c25] at hG
          refine Ev.t (c := (x4 - x2) = 0) (p1 := 56) (L1 := [.ref 29, .int x1, .int x2, .int x3, .int x4, .int (x3 - x1), .int (x4 - x2), .int (x4 - x2), .retAddr 0, .retAddr 0, .retAddr 0]) (s1 := []) (h1 := hh S) (p2 := 62) (L2 := [.ref 29, .int x1, .int x2, .int x3, .int x4, .int (x3 - x1), .int (x4 - x2), .int (x4 - x2), .retAddr 0, .retAddr 0, .retAddr 0]) (s2 := []) (h2 := hh S) 4 (fun n => B_141_52 n x1 x2 x3 x4 S) c25 ?_
          rcases h26 : G_140 S x1 x2 with _ | ⟨v26, S26⟩
          · rw [h26] at hG; cases hG
          rw [h26] at hG
          dsimp only at hG
          refine Ev.c (a := 140) (A := [.ref 29, .int x1, .int x2, .retAddr 0]) (h1 := hh S) (pc' := 62) (L' := [.ref 29, .int x1, .int x2, .int x3, .int x4, .int (x3 - x1), .int (x4 - x2), .int (x4 - x2), .retAddr 0, .retAddr 0, .retAddr 0]) (rest := []) (r1 := none) (h2 := hh S26) 4 (fun n => B_141_53 n x1 x2 x3 x4 S) (Ev.up (by decide) (T_140 S x1 x2 _ _ h26)) ?_
          show Ev X _ 141 62 [.ref 29, .int x1, .int x2, .int x3, .int x4, .int (x3 - x1), .int (x4 - x2), .int (x4 - x2), .retAddr 0, .retAddr 0, .retAddr 0] [] (hh S26) _
          exact Ev.b (pc' := 65) (L' := [.ref 29, .int x1, .int x2, .int x3, .int x4, .int (x3 - x1), .int (x4 - x2), .int (x4 - x2), .int 0, .retAddr 0, .retAddr 0]) (st' := []) (h' := hh S26) 2 (fun n => B_141_54 n x1 x2 x3 x4 S26) (TL_141_0 xFu S26 x1 x2 x3 x4 (x4 - x2) (0 : Int32) _ _ hG (.int (x3 - x1)) (.int (x4 - x2)) (.retAddr 0) (.retAddr 0))
        · rw [if_neg c25] at hG
          refine Ev.f (c := (x4 - x2) = 0) (p1 := 56) (L1 := [.ref 29, .int x1, .int x2, .int x3, .int x4, .int (x3 - x1), .int (x4 - x2), .int (x4 - x2), .retAddr 0, .retAddr 0, .retAddr 0]) (s1 := []) (h1 := hh S) (p2 := 62) (L2 := [.ref 29, .int x1, .int x2, .int x3, .int x4, .int (x3 - x1), .int (x4 - x2), .int (x4 - x2), .retAddr 0, .retAddr 0, .retAddr 0]) (s2 := []) (h2 := hh S) 4 (fun n => B_141_55 n x1 x2 x3 x4 S) c25 ?_
          exact Ev.b (pc' := 65) (L' := [.ref 29, .int x1, .int x2, .int x3, .int x4, .int (x3 - x1), .int (x4 - x2), .int (x4 - x2), .int 0, .retAddr 0, .retAddr 0]) (st' := []) (h' := hh S) 2 (fun n => B_141_56 n x1 x2 x3 x4 S) (TL_141_0 xFu S x1 x2 x3 x4 (x4 - x2) (0 : Int32) _ _ hG (.int (x3 - x1)) (.int (x4 - x2)) (.retAddr 0) (.retAddr 0))
      · rw [if_neg c24] at hG
        refine Ev.f (c := (x3 - x1) ≤ (x4 - x2)) (p1 := 47) (L1 := [.ref 29, .int x1, .int x2, .int x3, .int x4, .int (x3 - x1), .int (x4 - x2), .retAddr 0, .retAddr 0, .retAddr 0, .retAddr 0]) (s1 := []) (h1 := hh S) (p2 := 42) (L2 := [.ref 29, .int x1, .int x2, .int x3, .int x4, .int (x3 - x1), .int (x4 - x2), .retAddr 0, .retAddr 0, .retAddr 0, .retAddr 0]) (s2 := []) (h2 := hh S) 8 (fun n => B_141_57 n x1 x2 x3 x4 S) c24 ?_
        by_cases c27 : (x3 - x1) = 0
        · rw [if_pos c27] at hG
          refine Ev.t (c := (x3 - x1) = 0) (p1 := 56) (L1 := [.ref 29, .int x1, .int x2, .int x3, .int x4, .int (x3 - x1), .int (x4 - x2), .int (x3 - x1), .retAddr 0, .retAddr 0, .retAddr 0]) (s1 := []) (h1 := hh S) (p2 := 62) (L2 := [.ref 29, .int x1, .int x2, .int x3, .int x4, .int (x3 - x1), .int (x4 - x2), .int (x3 - x1), .retAddr 0, .retAddr 0, .retAddr 0]) (s2 := []) (h2 := hh S) 5 (fun n => B_141_58 n x1 x2 x3 x4 S) c27 ?_
          rcases h28 : G_140 S x1 x2 with _ | ⟨v28, S28⟩
          · rw [h28] at hG; cases hG
          rw [h28] at hG
          dsimp only at hG
          refine Ev.c (a := 140) (A := [.ref 29, .int x1, .int x2, .retAddr 0]) (h1 := hh S) (pc' := 62) (L' := [.ref 29, .int x1, .int x2, .int x3, .int x4, .int (x3 - x1), .int (x4 - x2), .int (x3 - x1), .retAddr 0, .retAddr 0, .retAddr 0]) (rest := []) (r1 := none) (h2 := hh S28) 4 (fun n => B_141_59 n x1 x2 x3 x4 S) (Ev.up (by decide) (T_140 S x1 x2 _ _ h28)) ?_
          show Ev X _ 141 62 [.ref 29, .int x1, .int x2, .int x3, .int x4, .int (x3 - x1), .int (x4 - x2), .int (x3 - x1), .retAddr 0, .retAddr 0, .retAddr 0] [] (hh S28) _
          exact Ev.b (pc' := 65) (L' := [.ref 29, .int x1, .int x2, .int x3, .int x4, .int (x3 - x1), .int (x4 - x2), .int (x3 - x1), .int 0, .retAddr 0, .retAddr 0]) (st' := []) (h' := hh S28) 2 (fun n => B_141_60 n x1 x2 x3 x4 S28) (TL_141_0 xFu S28 x1 x2 x3 x4 (x3 - x1) (0 : Int32) _ _ hG (.int (x3 - x1)) (.int (x4 - x2)) (.retAddr 0) (.retAddr 0))
        · rw [if_neg c27] at hG
          refine Ev.f (c := (x3 - x1) = 0) (p1 := 56) (L1 := [.ref 29, .int x1, .int x2, .int x3, .int x4, .int (x3 - x1), .int (x4 - x2), .int (x3 - x1), .retAddr 0, .retAddr 0, .retAddr 0]) (s1 := []) (h1 := hh S) (p2 := 62) (L2 := [.ref 29, .int x1, .int x2, .int x3, .int x4, .int (x3 - x1), .int (x4 - x2), .int (x3 - x1), .retAddr 0, .retAddr 0, .retAddr 0]) (s2 := []) (h2 := hh S) 5 (fun n => B_141_61 n x1 x2 x3 x4 S) c27 ?_
          exact Ev.b (pc' := 65) (L' := [.ref 29, .int x1, .int x2, .int x3, .int x4, .int (x3 - x1), .int (x4 - x2), .int (x3 - x1), .int 0, .retAddr 0, .retAddr 0]) (st' := []) (h' := hh S) 2 (fun n => B_141_62 n x1 x2 x3 x4 S) (TL_141_0 xFu S x1 x2 x3 x4 (x3 - x1) (0 : Int32) _ _ hG (.int (x3 - x1)) (.int (x4 - x2)) (.retAddr 0) (.retAddr 0))
