/-- 169: the law's loop -/
def GLaw (X : Nat × (Nat → Int32)) : Nat → St → Int32 → Option (Int32 × St)
  | 0, _, _ => none
  | n + 1, S, y3 =>
    (if ((Int32.ofNat X.1) - 4) < y3 then
      some (1, S)
    else
      (if xa_in y3 X.1 then
        (if ((X.2 (y3).toNatClampNeg) &&& 15) = 0 then
          (if xa_in (y3 + 1) X.1 then
            (if xa_in (y3 + 2) X.1 then
              (if xa_in (y3 + 3) X.1 then
                (match G_98 S (X.2 ((y3 + 1)).toNatClampNeg) (X.2 ((y3 + 2)).toNatClampNeg) (X.2 ((y3 + 3)).toNatClampNeg) with
                | none => none
                | some (v7, S7) =>
                  (match G_114 S7 (X.2 ((y3 + 1)).toNatClampNeg) (X.2 ((y3 + 2)).toNatClampNeg) (X.2 ((y3 + 3)).toNatClampNeg) with
                  | none => none
                  | some (v8, S8) =>
                    (if v7 = v8 then
                      GLaw X n S8 (y3 + 4)
                    else
                      some (0, S8)
                    )
                  )
                )
              else none)
            else none)
          else none)
        else
          (if ((X.2 (y3).toNatClampNeg) &&& 15) = 1 then
            (if xa_in (y3 + 1) X.1 then
              (match G_99 S (X.2 ((y3 + 1)).toNatClampNeg) with
              | none => none
              | some (v12, S12) =>
                (match G_116 S12 (X.2 ((y3 + 1)).toNatClampNeg) with
                | none => none
                | some (v13, S13) =>
                  (if v12 = v13 then
                    GLaw X n S13 (y3 + 4)
                  else
                    some (0, S13)
                  )
                )
              )
            else none)
          else
            (if ((X.2 (y3).toNatClampNeg) &&& 15) = 2 then
              (if xa_in (y3 + 1) X.1 then
                (if xa_in (y3 + 2) X.1 then
                  (if xa_in (y3 + 3) X.1 then
                    (match G_101 S (X.2 ((y3 + 1)).toNatClampNeg) (X.2 ((y3 + 2)).toNatClampNeg) (X.2 ((y3 + 3)).toNatClampNeg) with
                    | none => none
                    | some (v19, S19) =>
                      (match G_129 S19 (X.2 ((y3 + 1)).toNatClampNeg) (X.2 ((y3 + 2)).toNatClampNeg) (X.2 ((y3 + 3)).toNatClampNeg) with
                      | none => none
                      | some (v20, S20) =>
                        (if v19 = v20 then
                          GLaw X n S20 (y3 + 4)
                        else
                          some (0, S20)
                        )
                      )
                    )
                  else none)
                else none)
              else none)
            else
              (if ((X.2 (y3).toNatClampNeg) &&& 15) = 3 then
                (match G_103 S with
                | none => none
                | some (v23, S23) =>
                  (match G_156 S23 with
                  | none => none
                  | some (v24, S24) =>
                    (if v23 = v24 then
                      GLaw X n S24 (y3 + 4)
                    else
                      some (0, S24)
                    )
                  )
                )
              else
                (if ((X.2 (y3).toNatClampNeg) &&& 15) = 4 then
                  (match G_104 S with
                  | none => none
                  | some (v27, S27) =>
                    (match G_157 S27 with
                    | none => none
                    | some (v28, S28) =>
                      (if v27 = v28 then
                        GLaw X n S28 (y3 + 4)
                      else
                        some (0, S28)
                      )
                    )
                  )
                else
                  (if ((X.2 (y3).toNatClampNeg) &&& 15) = 5 then
                    (if xa_in (y3 + 1) X.1 then
                      (match G_105 S (X.2 ((y3 + 1)).toNatClampNeg) with
                      | none => none
                      | some (v32, S32) =>
                        (match G_158 S32 (X.2 ((y3 + 1)).toNatClampNeg) with
                        | none => none
                        | some (v33, S33) =>
                          (if v32 = v33 then
                            GLaw X n S33 (y3 + 4)
                          else
                            some (0, S33)
                          )
                        )
                      )
                    else none)
                  else
                    (if ((X.2 (y3).toNatClampNeg) &&& 15) = 6 then
                      (if xa_in (y3 + 1) X.1 then
                        (if xa_in (y3 + 2) X.1 then
                          (match G_106 S (X.2 ((y3 + 1)).toNatClampNeg) (X.2 ((y3 + 2)).toNatClampNeg) with
                          | none => none
                          | some (v38, S38) =>
                            (match G_159 S38 (X.2 ((y3 + 1)).toNatClampNeg) (X.2 ((y3 + 2)).toNatClampNeg) with
                            | none => none
                            | some (v39, S39) =>
                              (if v38 = v39 then
                                GLaw X n S39 (y3 + 4)
                              else
                                some (0, S39)
                              )
                            )
                          )
                        else none)
                      else none)
                    else
                      (if ((X.2 (y3).toNatClampNeg) &&& 15) = 7 then
                        (if xa_in (y3 + 1) X.1 then
                          (match G_107 S (X.2 ((y3 + 1)).toNatClampNeg) with
                          | none => none
                          | some (v43, S43) =>
                            (match G_160 S43 (X.2 ((y3 + 1)).toNatClampNeg) with
                            | none => none
                            | some (v44, S44) =>
                              (if v43 = v44 then
                                GLaw X n S44 (y3 + 4)
                              else
                                some (0, S44)
                              )
                            )
                          )
                        else none)
                      else
                        (if ((X.2 (y3).toNatClampNeg) &&& 15) = 8 then
                          (if xa_in (y3 + 1) X.1 then
                            (if xa_in (y3 + 2) X.1 then
                              (if (X.2 ((y3 + 2)).toNatClampNeg) = 0 then
                                (match G_108 S (X.2 ((y3 + 1)).toNatClampNeg) (0 : Int32) with
                                | none => none
                                | some (v50, S50) =>
                                  (match G_161 S50 (X.2 ((y3 + 1)).toNatClampNeg) (0 : Int32) with
                                  | none => none
                                  | some (v51, S51) =>
                                    (if v50 = v51 then
                                      GLaw X n S51 (y3 + 4)
                                    else
                                      some (0, S51)
                                    )
                                  )
                                )
                              else
                                (match G_108 S (X.2 ((y3 + 1)).toNatClampNeg) (1 : Int32) with
                                | none => none
                                | some (v53, S53) =>
                                  (match G_161 S53 (X.2 ((y3 + 1)).toNatClampNeg) (1 : Int32) with
                                  | none => none
                                  | some (v54, S54) =>
                                    (if v53 = v54 then
                                      GLaw X n S54 (y3 + 4)
                                    else
                                      some (0, S54)
                                    )
                                  )
                                )
                              )
                            else none)
                          else none)
                        else
                          (if ((X.2 (y3).toNatClampNeg) &&& 15) = 9 then
                            (if xa_in (y3 + 1) X.1 then
                              (if xa_in (y3 + 2) X.1 then
                                (match G_109 S (X.2 ((y3 + 1)).toNatClampNeg) (X.2 ((y3 + 2)).toNatClampNeg) with
                                | none => none
                                | some (v59, S59) =>
                                  (match G_162 S59 (X.2 ((y3 + 1)).toNatClampNeg) (X.2 ((y3 + 2)).toNatClampNeg) with
                                  | none => none
                                  | some (v60, S60) =>
                                    (if v59 = v60 then
                                      GLaw X n S60 (y3 + 4)
                                    else
                                      some (0, S60)
                                    )
                                  )
                                )
                              else none)
                            else none)
                          else
                            (if ((X.2 (y3).toNatClampNeg) &&& 15) = 10 then
                              (if xa_in (y3 + 1) X.1 then
                                (if xa_in (y3 + 2) X.1 then
                                  (if xa_in (y3 + 3) X.1 then
                                    (match G_110 S (X.2 ((y3 + 1)).toNatClampNeg) (X.2 ((y3 + 2)).toNatClampNeg) (X.2 ((y3 + 3)).toNatClampNeg) with
                                    | none => none
                                    | some (v66, S66) =>
                                      (match G_163 S66 (X.2 ((y3 + 1)).toNatClampNeg) (X.2 ((y3 + 2)).toNatClampNeg) (X.2 ((y3 + 3)).toNatClampNeg) with
                                      | none => none
                                      | some (v67, S67) =>
                                        (if v66 = v67 then
                                          GLaw X n S67 (y3 + 4)
                                        else
                                          some (0, S67)
                                        )
                                      )
                                    )
                                  else none)
                                else none)
                              else none)
                            else
                              (if ((X.2 (y3).toNatClampNeg) &&& 15) = 11 then
                                (if xa_in (y3 + 1) X.1 then
                                  (if xa_in (y3 + 2) X.1 then
                                    (match G_111 S (X.2 ((y3 + 1)).toNatClampNeg) (X.2 ((y3 + 2)).toNatClampNeg) with
                                    | none => none
                                    | some (v72, S72) =>
                                      (match G_164 S72 (X.2 ((y3 + 1)).toNatClampNeg) (X.2 ((y3 + 2)).toNatClampNeg) with
                                      | none => none
                                      | some (v73, S73) =>
                                        (if v72 = v73 then
                                          GLaw X n S73 (y3 + 4)
                                        else
                                          some (0, S73)
                                        )
                                      )
                                    )
                                  else none)
                                else none)
                              else
                                GLaw X n S (y3 + 4)
                              )
                            )
                          )
                        )
                      )
                    )
                  )
                )
              )
            )
          )
        )
      else none)
    )
theorem B_169_1 {X : Nat × (Nat → Int32)} {d : Nat} (n : Nat) (y3 : Int32) (S : St) : ex X d 169 28 [.ref 1000, .ref 0, .ref 29, .int y3] [] (hh S) (n + 6) = if ((Int32.ofNat X.1) - 4) < y3 then ex X d 169 482 [.ref 1000, .ref 0, .ref 29, .int y3] [] (hh S) n else ex X d 169 36 [.ref 1000, .ref 0, .ref 29, .int y3] [] (hh S) n := rfl
theorem B_169_2 {X : Nat × (Nat → Int32)} {d : Nat} (n : Nat) (y3 : Int32) (S : St) : ex X d 169 28 [.ref 1000, .ref 0, .ref 29, .int y3] [] (hh S) (n + 6) = if ((Int32.ofNat X.1) - 4) < y3 then ex X d 169 482 [.ref 1000, .ref 0, .ref 29, .int y3] [] (hh S) n else ex X d 169 36 [.ref 1000, .ref 0, .ref 29, .int y3] [] (hh S) n := rfl
theorem B_169_3 {X : Nat × (Nat → Int32)} {d : Nat} (n : Nat) (y3 : Int32) (S : St) : ex X d 169 36 [.ref 1000, .ref 0, .ref 29, .int y3] [] (hh S) (n + 3) = if xa_in y3 X.1 then ex X d 169 39 [.ref 1000, .ref 0, .ref 29, .int y3] [.int (X.2 (y3).toNatClampNeg)] (hh S) n else none := rfl
theorem B_169_4 {X : Nat × (Nat → Int32)} {d : Nat} (n : Nat) (y3 : Int32) (S : St) : ex X d 169 39 [.ref 1000, .ref 0, .ref 29, .int y3] [.int (X.2 (y3).toNatClampNeg)] (hh S) (n + 3) = xa_sw [(0, 104), (1, 147), (2, 170), (3, 213), (4, 226), (5, 239), (6, 262), (7, 295), (8, 318), (9, 367), (10, 400), (11, 443)] ((X.2 (y3).toNatClampNeg) &&& 15) 476 (fun t => ex X d 169 t [.ref 1000, .ref 0, .ref 29, .int y3] [] (hh S) n) := rfl
theorem B_169_5 {X : Nat × (Nat → Int32)} {d : Nat} (n : Nat) (y3 : Int32) (S : St) : ex X d 169 104 [.ref 1000, .ref 0, .ref 29, .int y3] [] (hh S) (n + 6) = if xa_in (y3 + 1) X.1 then ex X d 169 110 [.ref 1000, .ref 0, .ref 29, .int y3] [.int (X.2 ((y3 + 1)).toNatClampNeg), .ref 0] (hh S) n else none := rfl
theorem B_169_6 {X : Nat × (Nat → Int32)} {d : Nat} (n : Nat) (y3 : Int32) (S : St) : ex X d 169 110 [.ref 1000, .ref 0, .ref 29, .int y3] [.int (X.2 ((y3 + 1)).toNatClampNeg), .ref 0] (hh S) (n + 5) = if xa_in (y3 + 2) X.1 then ex X d 169 115 [.ref 1000, .ref 0, .ref 29, .int y3] [.int (X.2 ((y3 + 2)).toNatClampNeg), .int (X.2 ((y3 + 1)).toNatClampNeg), .ref 0] (hh S) n else none := rfl
theorem B_169_7 {X : Nat × (Nat → Int32)} {d : Nat} (n : Nat) (y3 : Int32) (S : St) : ex X d 169 115 [.ref 1000, .ref 0, .ref 29, .int y3] [.int (X.2 ((y3 + 2)).toNatClampNeg), .int (X.2 ((y3 + 1)).toNatClampNeg), .ref 0] (hh S) (n + 5) = if xa_in (y3 + 3) X.1 then ex X d 169 120 [.ref 1000, .ref 0, .ref 29, .int y3] [.int (X.2 ((y3 + 3)).toNatClampNeg), .int (X.2 ((y3 + 2)).toNatClampNeg), .int (X.2 ((y3 + 1)).toNatClampNeg), .ref 0] (hh S) n else none := rfl
theorem B_169_8 {X : Nat × (Nat → Int32)} {d : Nat} (n : Nat) (y3 : Int32) (S : St) : ex X (d + 1) 169 120 [.ref 1000, .ref 0, .ref 29, .int y3] [.int (X.2 ((y3 + 3)).toNatClampNeg), .int (X.2 ((y3 + 2)).toNatClampNeg), .int (X.2 ((y3 + 1)).toNatClampNeg), .ref 0] (hh S) (n + 1) = (match ex X d 98 0 [.ref 0, .int (X.2 ((y3 + 1)).toNatClampNeg), .int (X.2 ((y3 + 2)).toNatClampNeg), .int (X.2 ((y3 + 3)).toNatClampNeg), .retAddr 0] [] (hh S) n with | some (v, h') => ex X (d + 1) 169 123 [.ref 1000, .ref 0, .ref 29, .int y3] (v.toList ++ []) h' n | none => none) := rfl
theorem B_169_9 {X : Nat × (Nat → Int32)} {d : Nat} (n : Nat) (y3 : Int32) (v7 : Int32) (S7 : St) : ex X d 169 123 [.ref 1000, .ref 0, .ref 29, .int y3] [.int v7] (hh S7) (n + 6) = if xa_in (y3 + 1) X.1 then ex X d 169 129 [.ref 1000, .ref 0, .ref 29, .int y3] [.int (X.2 ((y3 + 1)).toNatClampNeg), .ref 29, .int v7] (hh S7) n else none := rfl
theorem B_169_10 {X : Nat × (Nat → Int32)} {d : Nat} (n : Nat) (y3 : Int32) (v7 : Int32) (S7 : St) : ex X d 169 129 [.ref 1000, .ref 0, .ref 29, .int y3] [.int (X.2 ((y3 + 1)).toNatClampNeg), .ref 29, .int v7] (hh S7) (n + 5) = if xa_in (y3 + 2) X.1 then ex X d 169 134 [.ref 1000, .ref 0, .ref 29, .int y3] [.int (X.2 ((y3 + 2)).toNatClampNeg), .int (X.2 ((y3 + 1)).toNatClampNeg), .ref 29, .int v7] (hh S7) n else none := rfl
theorem B_169_11 {X : Nat × (Nat → Int32)} {d : Nat} (n : Nat) (y3 : Int32) (v7 : Int32) (S7 : St) : ex X d 169 134 [.ref 1000, .ref 0, .ref 29, .int y3] [.int (X.2 ((y3 + 2)).toNatClampNeg), .int (X.2 ((y3 + 1)).toNatClampNeg), .ref 29, .int v7] (hh S7) (n + 5) = if xa_in (y3 + 3) X.1 then ex X d 169 139 [.ref 1000, .ref 0, .ref 29, .int y3] [.int (X.2 ((y3 + 3)).toNatClampNeg), .int (X.2 ((y3 + 2)).toNatClampNeg), .int (X.2 ((y3 + 1)).toNatClampNeg), .ref 29, .int v7] (hh S7) n else none := rfl
theorem B_169_12 {X : Nat × (Nat → Int32)} {d : Nat} (n : Nat) (y3 : Int32) (v7 : Int32) (S7 : St) : ex X (d + 1) 169 139 [.ref 1000, .ref 0, .ref 29, .int y3] [.int (X.2 ((y3 + 3)).toNatClampNeg), .int (X.2 ((y3 + 2)).toNatClampNeg), .int (X.2 ((y3 + 1)).toNatClampNeg), .ref 29, .int v7] (hh S7) (n + 1) = (match ex X d 114 0 [.ref 29, .int (X.2 ((y3 + 1)).toNatClampNeg), .int (X.2 ((y3 + 2)).toNatClampNeg), .int (X.2 ((y3 + 3)).toNatClampNeg), .retAddr 0] [] (hh S7) n with | some (v, h') => ex X (d + 1) 169 142 [.ref 1000, .ref 0, .ref 29, .int y3] (v.toList ++ [.int v7]) h' n | none => none) := rfl
theorem B_169_13 {X : Nat × (Nat → Int32)} {d : Nat} (n : Nat) (y3 : Int32) (v8 : Int32) (v7 : Int32) (S8 : St) : ex X d 169 142 [.ref 1000, .ref 0, .ref 29, .int y3] [.int v8, .int v7] (hh S8) (n + 1) = if v7 = v8 then ex X d 169 476 [.ref 1000, .ref 0, .ref 29, .int y3] [] (hh S8) n else ex X d 169 145 [.ref 1000, .ref 0, .ref 29, .int y3] [] (hh S8) n := rfl
theorem B_169_14 {X : Nat × (Nat → Int32)} {d : Nat} (n : Nat) (y3 : Int32) (S8 : St) : ex X d 169 476 [.ref 1000, .ref 0, .ref 29, .int y3] [] (hh S8) (n + 2) = ex X d 169 28 [.ref 1000, .ref 0, .ref 29, .int (y3 + 4)] [] (hh S8) n := rfl
theorem B_169_15 {X : Nat × (Nat → Int32)} {d : Nat} (n : Nat) (y3 : Int32) (v8 : Int32) (v7 : Int32) (S8 : St) : ex X d 169 142 [.ref 1000, .ref 0, .ref 29, .int y3] [.int v8, .int v7] (hh S8) (n + 1) = if v7 = v8 then ex X d 169 476 [.ref 1000, .ref 0, .ref 29, .int y3] [] (hh S8) n else ex X d 169 145 [.ref 1000, .ref 0, .ref 29, .int y3] [] (hh S8) n := rfl
theorem B_169_16 {X : Nat × (Nat → Int32)} {d : Nat} (n : Nat) (y3 : Int32) (S : St) : ex X d 169 147 [.ref 1000, .ref 0, .ref 29, .int y3] [] (hh S) (n + 6) = if xa_in (y3 + 1) X.1 then ex X d 169 153 [.ref 1000, .ref 0, .ref 29, .int y3] [.int (X.2 ((y3 + 1)).toNatClampNeg), .ref 0] (hh S) n else none := rfl
theorem B_169_17 {X : Nat × (Nat → Int32)} {d : Nat} (n : Nat) (y3 : Int32) (S : St) : ex X (d + 1) 169 153 [.ref 1000, .ref 0, .ref 29, .int y3] [.int (X.2 ((y3 + 1)).toNatClampNeg), .ref 0] (hh S) (n + 1) = (match ex X d 99 0 [.ref 0, .int (X.2 ((y3 + 1)).toNatClampNeg), .retAddr 0, .retAddr 0] [] (hh S) n with | some (v, h') => ex X (d + 1) 169 156 [.ref 1000, .ref 0, .ref 29, .int y3] (v.toList ++ []) h' n | none => none) := rfl
theorem B_169_18 {X : Nat × (Nat → Int32)} {d : Nat} (n : Nat) (y3 : Int32) (v12 : Int32) (S12 : St) : ex X d 169 156 [.ref 1000, .ref 0, .ref 29, .int y3] [.int v12] (hh S12) (n + 6) = if xa_in (y3 + 1) X.1 then ex X d 169 162 [.ref 1000, .ref 0, .ref 29, .int y3] [.int (X.2 ((y3 + 1)).toNatClampNeg), .ref 29, .int v12] (hh S12) n else none := rfl
theorem B_169_19 {X : Nat × (Nat → Int32)} {d : Nat} (n : Nat) (y3 : Int32) (v12 : Int32) (S12 : St) : ex X (d + 1) 169 162 [.ref 1000, .ref 0, .ref 29, .int y3] [.int (X.2 ((y3 + 1)).toNatClampNeg), .ref 29, .int v12] (hh S12) (n + 1) = (match ex X d 116 0 [.ref 29, .int (X.2 ((y3 + 1)).toNatClampNeg), .retAddr 0] [] (hh S12) n with | some (v, h') => ex X (d + 1) 169 165 [.ref 1000, .ref 0, .ref 29, .int y3] (v.toList ++ [.int v12]) h' n | none => none) := rfl
theorem B_169_20 {X : Nat × (Nat → Int32)} {d : Nat} (n : Nat) (y3 : Int32) (v13 : Int32) (v12 : Int32) (S13 : St) : ex X d 169 165 [.ref 1000, .ref 0, .ref 29, .int y3] [.int v13, .int v12] (hh S13) (n + 1) = if v12 = v13 then ex X d 169 476 [.ref 1000, .ref 0, .ref 29, .int y3] [] (hh S13) n else ex X d 169 168 [.ref 1000, .ref 0, .ref 29, .int y3] [] (hh S13) n := rfl
theorem B_169_21 {X : Nat × (Nat → Int32)} {d : Nat} (n : Nat) (y3 : Int32) (S13 : St) : ex X d 169 476 [.ref 1000, .ref 0, .ref 29, .int y3] [] (hh S13) (n + 2) = ex X d 169 28 [.ref 1000, .ref 0, .ref 29, .int (y3 + 4)] [] (hh S13) n := rfl
theorem B_169_22 {X : Nat × (Nat → Int32)} {d : Nat} (n : Nat) (y3 : Int32) (v13 : Int32) (v12 : Int32) (S13 : St) : ex X d 169 165 [.ref 1000, .ref 0, .ref 29, .int y3] [.int v13, .int v12] (hh S13) (n + 1) = if v12 = v13 then ex X d 169 476 [.ref 1000, .ref 0, .ref 29, .int y3] [] (hh S13) n else ex X d 169 168 [.ref 1000, .ref 0, .ref 29, .int y3] [] (hh S13) n := rfl
theorem B_169_23 {X : Nat × (Nat → Int32)} {d : Nat} (n : Nat) (y3 : Int32) (S : St) : ex X d 169 170 [.ref 1000, .ref 0, .ref 29, .int y3] [] (hh S) (n + 6) = if xa_in (y3 + 1) X.1 then ex X d 169 176 [.ref 1000, .ref 0, .ref 29, .int y3] [.int (X.2 ((y3 + 1)).toNatClampNeg), .ref 0] (hh S) n else none := rfl
theorem B_169_24 {X : Nat × (Nat → Int32)} {d : Nat} (n : Nat) (y3 : Int32) (S : St) : ex X d 169 176 [.ref 1000, .ref 0, .ref 29, .int y3] [.int (X.2 ((y3 + 1)).toNatClampNeg), .ref 0] (hh S) (n + 5) = if xa_in (y3 + 2) X.1 then ex X d 169 181 [.ref 1000, .ref 0, .ref 29, .int y3] [.int (X.2 ((y3 + 2)).toNatClampNeg), .int (X.2 ((y3 + 1)).toNatClampNeg), .ref 0] (hh S) n else none := rfl
theorem B_169_25 {X : Nat × (Nat → Int32)} {d : Nat} (n : Nat) (y3 : Int32) (S : St) : ex X d 169 181 [.ref 1000, .ref 0, .ref 29, .int y3] [.int (X.2 ((y3 + 2)).toNatClampNeg), .int (X.2 ((y3 + 1)).toNatClampNeg), .ref 0] (hh S) (n + 5) = if xa_in (y3 + 3) X.1 then ex X d 169 186 [.ref 1000, .ref 0, .ref 29, .int y3] [.int (X.2 ((y3 + 3)).toNatClampNeg), .int (X.2 ((y3 + 2)).toNatClampNeg), .int (X.2 ((y3 + 1)).toNatClampNeg), .ref 0] (hh S) n else none := rfl
theorem B_169_26 {X : Nat × (Nat → Int32)} {d : Nat} (n : Nat) (y3 : Int32) (S : St) : ex X (d + 1) 169 186 [.ref 1000, .ref 0, .ref 29, .int y3] [.int (X.2 ((y3 + 3)).toNatClampNeg), .int (X.2 ((y3 + 2)).toNatClampNeg), .int (X.2 ((y3 + 1)).toNatClampNeg), .ref 0] (hh S) (n + 1) = (match ex X d 101 0 [.ref 0, .int (X.2 ((y3 + 1)).toNatClampNeg), .int (X.2 ((y3 + 2)).toNatClampNeg), .int (X.2 ((y3 + 3)).toNatClampNeg), .retAddr 0] [] (hh S) n with | some (v, h') => ex X (d + 1) 169 189 [.ref 1000, .ref 0, .ref 29, .int y3] (v.toList ++ []) h' n | none => none) := rfl
theorem B_169_27 {X : Nat × (Nat → Int32)} {d : Nat} (n : Nat) (y3 : Int32) (v19 : Int32) (S19 : St) : ex X d 169 189 [.ref 1000, .ref 0, .ref 29, .int y3] [.int v19] (hh S19) (n + 6) = if xa_in (y3 + 1) X.1 then ex X d 169 195 [.ref 1000, .ref 0, .ref 29, .int y3] [.int (X.2 ((y3 + 1)).toNatClampNeg), .ref 29, .int v19] (hh S19) n else none := rfl
theorem B_169_28 {X : Nat × (Nat → Int32)} {d : Nat} (n : Nat) (y3 : Int32) (v19 : Int32) (S19 : St) : ex X d 169 195 [.ref 1000, .ref 0, .ref 29, .int y3] [.int (X.2 ((y3 + 1)).toNatClampNeg), .ref 29, .int v19] (hh S19) (n + 5) = if xa_in (y3 + 2) X.1 then ex X d 169 200 [.ref 1000, .ref 0, .ref 29, .int y3] [.int (X.2 ((y3 + 2)).toNatClampNeg), .int (X.2 ((y3 + 1)).toNatClampNeg), .ref 29, .int v19] (hh S19) n else none := rfl
theorem B_169_29 {X : Nat × (Nat → Int32)} {d : Nat} (n : Nat) (y3 : Int32) (v19 : Int32) (S19 : St) : ex X d 169 200 [.ref 1000, .ref 0, .ref 29, .int y3] [.int (X.2 ((y3 + 2)).toNatClampNeg), .int (X.2 ((y3 + 1)).toNatClampNeg), .ref 29, .int v19] (hh S19) (n + 5) = if xa_in (y3 + 3) X.1 then ex X d 169 205 [.ref 1000, .ref 0, .ref 29, .int y3] [.int (X.2 ((y3 + 3)).toNatClampNeg), .int (X.2 ((y3 + 2)).toNatClampNeg), .int (X.2 ((y3 + 1)).toNatClampNeg), .ref 29, .int v19] (hh S19) n else none := rfl
theorem B_169_30 {X : Nat × (Nat → Int32)} {d : Nat} (n : Nat) (y3 : Int32) (v19 : Int32) (S19 : St) : ex X (d + 1) 169 205 [.ref 1000, .ref 0, .ref 29, .int y3] [.int (X.2 ((y3 + 3)).toNatClampNeg), .int (X.2 ((y3 + 2)).toNatClampNeg), .int (X.2 ((y3 + 1)).toNatClampNeg), .ref 29, .int v19] (hh S19) (n + 1) = (match ex X d 129 0 [.ref 29, .int (X.2 ((y3 + 1)).toNatClampNeg), .int (X.2 ((y3 + 2)).toNatClampNeg), .int (X.2 ((y3 + 3)).toNatClampNeg), .retAddr 0, .retAddr 0] [] (hh S19) n with | some (v, h') => ex X (d + 1) 169 208 [.ref 1000, .ref 0, .ref 29, .int y3] (v.toList ++ [.int v19]) h' n | none => none) := rfl
theorem B_169_31 {X : Nat × (Nat → Int32)} {d : Nat} (n : Nat) (y3 : Int32) (v20 : Int32) (v19 : Int32) (S20 : St) : ex X d 169 208 [.ref 1000, .ref 0, .ref 29, .int y3] [.int v20, .int v19] (hh S20) (n + 1) = if v19 = v20 then ex X d 169 476 [.ref 1000, .ref 0, .ref 29, .int y3] [] (hh S20) n else ex X d 169 211 [.ref 1000, .ref 0, .ref 29, .int y3] [] (hh S20) n := rfl
theorem B_169_32 {X : Nat × (Nat → Int32)} {d : Nat} (n : Nat) (y3 : Int32) (S20 : St) : ex X d 169 476 [.ref 1000, .ref 0, .ref 29, .int y3] [] (hh S20) (n + 2) = ex X d 169 28 [.ref 1000, .ref 0, .ref 29, .int (y3 + 4)] [] (hh S20) n := rfl
theorem B_169_33 {X : Nat × (Nat → Int32)} {d : Nat} (n : Nat) (y3 : Int32) (v20 : Int32) (v19 : Int32) (S20 : St) : ex X d 169 208 [.ref 1000, .ref 0, .ref 29, .int y3] [.int v20, .int v19] (hh S20) (n + 1) = if v19 = v20 then ex X d 169 476 [.ref 1000, .ref 0, .ref 29, .int y3] [] (hh S20) n else ex X d 169 211 [.ref 1000, .ref 0, .ref 29, .int y3] [] (hh S20) n := rfl
theorem B_169_34 {X : Nat × (Nat → Int32)} {d : Nat} (n : Nat) (y3 : Int32) (S : St) : ex X (d + 1) 169 213 [.ref 1000, .ref 0, .ref 29, .int y3] [] (hh S) (n + 2) = (match ex X d 103 0 [.ref 0] [] (hh S) n with | some (v, h') => ex X (d + 1) 169 217 [.ref 1000, .ref 0, .ref 29, .int y3] (v.toList ++ []) h' n | none => none) := rfl
theorem B_169_35 {X : Nat × (Nat → Int32)} {d : Nat} (n : Nat) (y3 : Int32) (v23 : Int32) (S23 : St) : ex X (d + 1) 169 217 [.ref 1000, .ref 0, .ref 29, .int y3] [.int v23] (hh S23) (n + 2) = (match ex X d 156 0 [.ref 29] [] (hh S23) n with | some (v, h') => ex X (d + 1) 169 221 [.ref 1000, .ref 0, .ref 29, .int y3] (v.toList ++ [.int v23]) h' n | none => none) := rfl
theorem B_169_36 {X : Nat × (Nat → Int32)} {d : Nat} (n : Nat) (y3 : Int32) (v24 : Int32) (v23 : Int32) (S24 : St) : ex X d 169 221 [.ref 1000, .ref 0, .ref 29, .int y3] [.int v24, .int v23] (hh S24) (n + 1) = if v23 = v24 then ex X d 169 476 [.ref 1000, .ref 0, .ref 29, .int y3] [] (hh S24) n else ex X d 169 224 [.ref 1000, .ref 0, .ref 29, .int y3] [] (hh S24) n := rfl
theorem B_169_37 {X : Nat × (Nat → Int32)} {d : Nat} (n : Nat) (y3 : Int32) (S24 : St) : ex X d 169 476 [.ref 1000, .ref 0, .ref 29, .int y3] [] (hh S24) (n + 2) = ex X d 169 28 [.ref 1000, .ref 0, .ref 29, .int (y3 + 4)] [] (hh S24) n := rfl
theorem B_169_38 {X : Nat × (Nat → Int32)} {d : Nat} (n : Nat) (y3 : Int32) (v24 : Int32) (v23 : Int32) (S24 : St) : ex X d 169 221 [.ref 1000, .ref 0, .ref 29, .int y3] [.int v24, .int v23] (hh S24) (n + 1) = if v23 = v24 then ex X d 169 476 [.ref 1000, .ref 0, .ref 29, .int y3] [] (hh S24) n else ex X d 169 224 [.ref 1000, .ref 0, .ref 29, .int y3] [] (hh S24) n := rfl
theorem B_169_39 {X : Nat × (Nat → Int32)} {d : Nat} (n : Nat) (y3 : Int32) (S : St) : ex X (d + 1) 169 226 [.ref 1000, .ref 0, .ref 29, .int y3] [] (hh S) (n + 2) = (match ex X d 104 0 [.ref 0] [] (hh S) n with | some (v, h') => ex X (d + 1) 169 230 [.ref 1000, .ref 0, .ref 29, .int y3] (v.toList ++ []) h' n | none => none) := rfl
theorem B_169_40 {X : Nat × (Nat → Int32)} {d : Nat} (n : Nat) (y3 : Int32) (v27 : Int32) (S27 : St) : ex X (d + 1) 169 230 [.ref 1000, .ref 0, .ref 29, .int y3] [.int v27] (hh S27) (n + 2) = (match ex X d 157 0 [.ref 29] [] (hh S27) n with | some (v, h') => ex X (d + 1) 169 234 [.ref 1000, .ref 0, .ref 29, .int y3] (v.toList ++ [.int v27]) h' n | none => none) := rfl
theorem B_169_41 {X : Nat × (Nat → Int32)} {d : Nat} (n : Nat) (y3 : Int32) (v28 : Int32) (v27 : Int32) (S28 : St) : ex X d 169 234 [.ref 1000, .ref 0, .ref 29, .int y3] [.int v28, .int v27] (hh S28) (n + 1) = if v27 = v28 then ex X d 169 476 [.ref 1000, .ref 0, .ref 29, .int y3] [] (hh S28) n else ex X d 169 237 [.ref 1000, .ref 0, .ref 29, .int y3] [] (hh S28) n := rfl
theorem B_169_42 {X : Nat × (Nat → Int32)} {d : Nat} (n : Nat) (y3 : Int32) (S28 : St) : ex X d 169 476 [.ref 1000, .ref 0, .ref 29, .int y3] [] (hh S28) (n + 2) = ex X d 169 28 [.ref 1000, .ref 0, .ref 29, .int (y3 + 4)] [] (hh S28) n := rfl
theorem B_169_43 {X : Nat × (Nat → Int32)} {d : Nat} (n : Nat) (y3 : Int32) (v28 : Int32) (v27 : Int32) (S28 : St) : ex X d 169 234 [.ref 1000, .ref 0, .ref 29, .int y3] [.int v28, .int v27] (hh S28) (n + 1) = if v27 = v28 then ex X d 169 476 [.ref 1000, .ref 0, .ref 29, .int y3] [] (hh S28) n else ex X d 169 237 [.ref 1000, .ref 0, .ref 29, .int y3] [] (hh S28) n := rfl
theorem B_169_44 {X : Nat × (Nat → Int32)} {d : Nat} (n : Nat) (y3 : Int32) (S : St) : ex X d 169 239 [.ref 1000, .ref 0, .ref 29, .int y3] [] (hh S) (n + 6) = if xa_in (y3 + 1) X.1 then ex X d 169 245 [.ref 1000, .ref 0, .ref 29, .int y3] [.int (X.2 ((y3 + 1)).toNatClampNeg), .ref 0] (hh S) n else none := rfl
theorem B_169_45 {X : Nat × (Nat → Int32)} {d : Nat} (n : Nat) (y3 : Int32) (S : St) : ex X (d + 1) 169 245 [.ref 1000, .ref 0, .ref 29, .int y3] [.int (X.2 ((y3 + 1)).toNatClampNeg), .ref 0] (hh S) (n + 1) = (match ex X d 105 0 [.ref 0, .int (X.2 ((y3 + 1)).toNatClampNeg)] [] (hh S) n with | some (v, h') => ex X (d + 1) 169 248 [.ref 1000, .ref 0, .ref 29, .int y3] (v.toList ++ []) h' n | none => none) := rfl
theorem B_169_46 {X : Nat × (Nat → Int32)} {d : Nat} (n : Nat) (y3 : Int32) (v32 : Int32) (S32 : St) : ex X d 169 248 [.ref 1000, .ref 0, .ref 29, .int y3] [.int v32] (hh S32) (n + 6) = if xa_in (y3 + 1) X.1 then ex X d 169 254 [.ref 1000, .ref 0, .ref 29, .int y3] [.int (X.2 ((y3 + 1)).toNatClampNeg), .ref 29, .int v32] (hh S32) n else none := rfl
theorem B_169_47 {X : Nat × (Nat → Int32)} {d : Nat} (n : Nat) (y3 : Int32) (v32 : Int32) (S32 : St) : ex X (d + 1) 169 254 [.ref 1000, .ref 0, .ref 29, .int y3] [.int (X.2 ((y3 + 1)).toNatClampNeg), .ref 29, .int v32] (hh S32) (n + 1) = (match ex X d 158 0 [.ref 29, .int (X.2 ((y3 + 1)).toNatClampNeg)] [] (hh S32) n with | some (v, h') => ex X (d + 1) 169 257 [.ref 1000, .ref 0, .ref 29, .int y3] (v.toList ++ [.int v32]) h' n | none => none) := rfl
theorem B_169_48 {X : Nat × (Nat → Int32)} {d : Nat} (n : Nat) (y3 : Int32) (v33 : Int32) (v32 : Int32) (S33 : St) : ex X d 169 257 [.ref 1000, .ref 0, .ref 29, .int y3] [.int v33, .int v32] (hh S33) (n + 1) = if v32 = v33 then ex X d 169 476 [.ref 1000, .ref 0, .ref 29, .int y3] [] (hh S33) n else ex X d 169 260 [.ref 1000, .ref 0, .ref 29, .int y3] [] (hh S33) n := rfl
theorem B_169_49 {X : Nat × (Nat → Int32)} {d : Nat} (n : Nat) (y3 : Int32) (S33 : St) : ex X d 169 476 [.ref 1000, .ref 0, .ref 29, .int y3] [] (hh S33) (n + 2) = ex X d 169 28 [.ref 1000, .ref 0, .ref 29, .int (y3 + 4)] [] (hh S33) n := rfl
theorem B_169_50 {X : Nat × (Nat → Int32)} {d : Nat} (n : Nat) (y3 : Int32) (v33 : Int32) (v32 : Int32) (S33 : St) : ex X d 169 257 [.ref 1000, .ref 0, .ref 29, .int y3] [.int v33, .int v32] (hh S33) (n + 1) = if v32 = v33 then ex X d 169 476 [.ref 1000, .ref 0, .ref 29, .int y3] [] (hh S33) n else ex X d 169 260 [.ref 1000, .ref 0, .ref 29, .int y3] [] (hh S33) n := rfl
theorem B_169_51 {X : Nat × (Nat → Int32)} {d : Nat} (n : Nat) (y3 : Int32) (S : St) : ex X d 169 262 [.ref 1000, .ref 0, .ref 29, .int y3] [] (hh S) (n + 6) = if xa_in (y3 + 1) X.1 then ex X d 169 268 [.ref 1000, .ref 0, .ref 29, .int y3] [.int (X.2 ((y3 + 1)).toNatClampNeg), .ref 0] (hh S) n else none := rfl
theorem B_169_52 {X : Nat × (Nat → Int32)} {d : Nat} (n : Nat) (y3 : Int32) (S : St) : ex X d 169 268 [.ref 1000, .ref 0, .ref 29, .int y3] [.int (X.2 ((y3 + 1)).toNatClampNeg), .ref 0] (hh S) (n + 5) = if xa_in (y3 + 2) X.1 then ex X d 169 273 [.ref 1000, .ref 0, .ref 29, .int y3] [.int (X.2 ((y3 + 2)).toNatClampNeg), .int (X.2 ((y3 + 1)).toNatClampNeg), .ref 0] (hh S) n else none := rfl
theorem B_169_53 {X : Nat × (Nat → Int32)} {d : Nat} (n : Nat) (y3 : Int32) (S : St) : ex X (d + 1) 169 273 [.ref 1000, .ref 0, .ref 29, .int y3] [.int (X.2 ((y3 + 2)).toNatClampNeg), .int (X.2 ((y3 + 1)).toNatClampNeg), .ref 0] (hh S) (n + 1) = (match ex X d 106 0 [.ref 0, .int (X.2 ((y3 + 1)).toNatClampNeg), .int (X.2 ((y3 + 2)).toNatClampNeg)] [] (hh S) n with | some (v, h') => ex X (d + 1) 169 276 [.ref 1000, .ref 0, .ref 29, .int y3] (v.toList ++ []) h' n | none => none) := rfl
theorem B_169_54 {X : Nat × (Nat → Int32)} {d : Nat} (n : Nat) (y3 : Int32) (v38 : Int32) (S38 : St) : ex X d 169 276 [.ref 1000, .ref 0, .ref 29, .int y3] [.int v38] (hh S38) (n + 6) = if xa_in (y3 + 1) X.1 then ex X d 169 282 [.ref 1000, .ref 0, .ref 29, .int y3] [.int (X.2 ((y3 + 1)).toNatClampNeg), .ref 29, .int v38] (hh S38) n else none := rfl
theorem B_169_55 {X : Nat × (Nat → Int32)} {d : Nat} (n : Nat) (y3 : Int32) (v38 : Int32) (S38 : St) : ex X d 169 282 [.ref 1000, .ref 0, .ref 29, .int y3] [.int (X.2 ((y3 + 1)).toNatClampNeg), .ref 29, .int v38] (hh S38) (n + 5) = if xa_in (y3 + 2) X.1 then ex X d 169 287 [.ref 1000, .ref 0, .ref 29, .int y3] [.int (X.2 ((y3 + 2)).toNatClampNeg), .int (X.2 ((y3 + 1)).toNatClampNeg), .ref 29, .int v38] (hh S38) n else none := rfl
theorem B_169_56 {X : Nat × (Nat → Int32)} {d : Nat} (n : Nat) (y3 : Int32) (v38 : Int32) (S38 : St) : ex X (d + 1) 169 287 [.ref 1000, .ref 0, .ref 29, .int y3] [.int (X.2 ((y3 + 2)).toNatClampNeg), .int (X.2 ((y3 + 1)).toNatClampNeg), .ref 29, .int v38] (hh S38) (n + 1) = (match ex X d 159 0 [.ref 29, .int (X.2 ((y3 + 1)).toNatClampNeg), .int (X.2 ((y3 + 2)).toNatClampNeg)] [] (hh S38) n with | some (v, h') => ex X (d + 1) 169 290 [.ref 1000, .ref 0, .ref 29, .int y3] (v.toList ++ [.int v38]) h' n | none => none) := rfl
theorem B_169_57 {X : Nat × (Nat → Int32)} {d : Nat} (n : Nat) (y3 : Int32) (v39 : Int32) (v38 : Int32) (S39 : St) : ex X d 169 290 [.ref 1000, .ref 0, .ref 29, .int y3] [.int v39, .int v38] (hh S39) (n + 1) = if v38 = v39 then ex X d 169 476 [.ref 1000, .ref 0, .ref 29, .int y3] [] (hh S39) n else ex X d 169 293 [.ref 1000, .ref 0, .ref 29, .int y3] [] (hh S39) n := rfl
theorem B_169_58 {X : Nat × (Nat → Int32)} {d : Nat} (n : Nat) (y3 : Int32) (S39 : St) : ex X d 169 476 [.ref 1000, .ref 0, .ref 29, .int y3] [] (hh S39) (n + 2) = ex X d 169 28 [.ref 1000, .ref 0, .ref 29, .int (y3 + 4)] [] (hh S39) n := rfl
theorem B_169_59 {X : Nat × (Nat → Int32)} {d : Nat} (n : Nat) (y3 : Int32) (v39 : Int32) (v38 : Int32) (S39 : St) : ex X d 169 290 [.ref 1000, .ref 0, .ref 29, .int y3] [.int v39, .int v38] (hh S39) (n + 1) = if v38 = v39 then ex X d 169 476 [.ref 1000, .ref 0, .ref 29, .int y3] [] (hh S39) n else ex X d 169 293 [.ref 1000, .ref 0, .ref 29, .int y3] [] (hh S39) n := rfl
theorem B_169_60 {X : Nat × (Nat → Int32)} {d : Nat} (n : Nat) (y3 : Int32) (S : St) : ex X d 169 295 [.ref 1000, .ref 0, .ref 29, .int y3] [] (hh S) (n + 6) = if xa_in (y3 + 1) X.1 then ex X d 169 301 [.ref 1000, .ref 0, .ref 29, .int y3] [.int (X.2 ((y3 + 1)).toNatClampNeg), .ref 0] (hh S) n else none := rfl
theorem B_169_61 {X : Nat × (Nat → Int32)} {d : Nat} (n : Nat) (y3 : Int32) (S : St) : ex X (d + 1) 169 301 [.ref 1000, .ref 0, .ref 29, .int y3] [.int (X.2 ((y3 + 1)).toNatClampNeg), .ref 0] (hh S) (n + 1) = (match ex X d 107 0 [.ref 0, .int (X.2 ((y3 + 1)).toNatClampNeg)] [] (hh S) n with | some (v, h') => ex X (d + 1) 169 304 [.ref 1000, .ref 0, .ref 29, .int y3] (v.toList ++ []) h' n | none => none) := rfl
theorem B_169_62 {X : Nat × (Nat → Int32)} {d : Nat} (n : Nat) (y3 : Int32) (v43 : Int32) (S43 : St) : ex X d 169 304 [.ref 1000, .ref 0, .ref 29, .int y3] [.int v43] (hh S43) (n + 6) = if xa_in (y3 + 1) X.1 then ex X d 169 310 [.ref 1000, .ref 0, .ref 29, .int y3] [.int (X.2 ((y3 + 1)).toNatClampNeg), .ref 29, .int v43] (hh S43) n else none := rfl
theorem B_169_63 {X : Nat × (Nat → Int32)} {d : Nat} (n : Nat) (y3 : Int32) (v43 : Int32) (S43 : St) : ex X (d + 1) 169 310 [.ref 1000, .ref 0, .ref 29, .int y3] [.int (X.2 ((y3 + 1)).toNatClampNeg), .ref 29, .int v43] (hh S43) (n + 1) = (match ex X d 160 0 [.ref 29, .int (X.2 ((y3 + 1)).toNatClampNeg)] [] (hh S43) n with | some (v, h') => ex X (d + 1) 169 313 [.ref 1000, .ref 0, .ref 29, .int y3] (v.toList ++ [.int v43]) h' n | none => none) := rfl
theorem B_169_64 {X : Nat × (Nat → Int32)} {d : Nat} (n : Nat) (y3 : Int32) (v44 : Int32) (v43 : Int32) (S44 : St) : ex X d 169 313 [.ref 1000, .ref 0, .ref 29, .int y3] [.int v44, .int v43] (hh S44) (n + 1) = if v43 = v44 then ex X d 169 476 [.ref 1000, .ref 0, .ref 29, .int y3] [] (hh S44) n else ex X d 169 316 [.ref 1000, .ref 0, .ref 29, .int y3] [] (hh S44) n := rfl
theorem B_169_65 {X : Nat × (Nat → Int32)} {d : Nat} (n : Nat) (y3 : Int32) (S44 : St) : ex X d 169 476 [.ref 1000, .ref 0, .ref 29, .int y3] [] (hh S44) (n + 2) = ex X d 169 28 [.ref 1000, .ref 0, .ref 29, .int (y3 + 4)] [] (hh S44) n := rfl
theorem B_169_66 {X : Nat × (Nat → Int32)} {d : Nat} (n : Nat) (y3 : Int32) (v44 : Int32) (v43 : Int32) (S44 : St) : ex X d 169 313 [.ref 1000, .ref 0, .ref 29, .int y3] [.int v44, .int v43] (hh S44) (n + 1) = if v43 = v44 then ex X d 169 476 [.ref 1000, .ref 0, .ref 29, .int y3] [] (hh S44) n else ex X d 169 316 [.ref 1000, .ref 0, .ref 29, .int y3] [] (hh S44) n := rfl
theorem B_169_67 {X : Nat × (Nat → Int32)} {d : Nat} (n : Nat) (y3 : Int32) (S : St) : ex X d 169 318 [.ref 1000, .ref 0, .ref 29, .int y3] [] (hh S) (n + 6) = if xa_in (y3 + 1) X.1 then ex X d 169 324 [.ref 1000, .ref 0, .ref 29, .int y3] [.int (X.2 ((y3 + 1)).toNatClampNeg), .ref 0] (hh S) n else none := rfl
theorem B_169_68 {X : Nat × (Nat → Int32)} {d : Nat} (n : Nat) (y3 : Int32) (S : St) : ex X d 169 324 [.ref 1000, .ref 0, .ref 29, .int y3] [.int (X.2 ((y3 + 1)).toNatClampNeg), .ref 0] (hh S) (n + 5) = if xa_in (y3 + 2) X.1 then ex X d 169 329 [.ref 1000, .ref 0, .ref 29, .int y3] [.int (X.2 ((y3 + 2)).toNatClampNeg), .int (X.2 ((y3 + 1)).toNatClampNeg), .ref 0] (hh S) n else none := rfl
theorem B_169_69 {X : Nat × (Nat → Int32)} {d : Nat} (n : Nat) (y3 : Int32) (S : St) : ex X d 169 329 [.ref 1000, .ref 0, .ref 29, .int y3] [.int (X.2 ((y3 + 2)).toNatClampNeg), .int (X.2 ((y3 + 1)).toNatClampNeg), .ref 0] (hh S) (n + 1) = if (X.2 ((y3 + 2)).toNatClampNeg) = 0 then ex X d 169 336 [.ref 1000, .ref 0, .ref 29, .int y3] [.int (X.2 ((y3 + 1)).toNatClampNeg), .ref 0] (hh S) n else ex X d 169 332 [.ref 1000, .ref 0, .ref 29, .int y3] [.int (X.2 ((y3 + 1)).toNatClampNeg), .ref 0] (hh S) n := rfl
theorem B_169_70 {X : Nat × (Nat → Int32)} {d : Nat} (n : Nat) (y3 : Int32) (S : St) : ex X (d + 1) 169 336 [.ref 1000, .ref 0, .ref 29, .int y3] [.int (X.2 ((y3 + 1)).toNatClampNeg), .ref 0] (hh S) (n + 2) = (match ex X d 108 0 [.ref 0, .int (X.2 ((y3 + 1)).toNatClampNeg), .int 0] [] (hh S) n with | some (v, h') => ex X (d + 1) 169 340 [.ref 1000, .ref 0, .ref 29, .int y3] (v.toList ++ []) h' n | none => none) := rfl
theorem B_169_71 {X : Nat × (Nat → Int32)} {d : Nat} (n : Nat) (y3 : Int32) (v50 : Int32) (S50 : St) : ex X d 169 340 [.ref 1000, .ref 0, .ref 29, .int y3] [.int v50] (hh S50) (n + 6) = if xa_in (y3 + 1) X.1 then ex X d 169 346 [.ref 1000, .ref 0, .ref 29, .int y3] [.int (X.2 ((y3 + 1)).toNatClampNeg), .ref 29, .int v50] (hh S50) n else none := rfl
theorem B_169_72 {X : Nat × (Nat → Int32)} {d : Nat} (n : Nat) (y3 : Int32) (v50 : Int32) (S50 : St) : ex X d 169 346 [.ref 1000, .ref 0, .ref 29, .int y3] [.int (X.2 ((y3 + 1)).toNatClampNeg), .ref 29, .int v50] (hh S50) (n + 5) = if xa_in (y3 + 2) X.1 then ex X d 169 351 [.ref 1000, .ref 0, .ref 29, .int y3] [.int (X.2 ((y3 + 2)).toNatClampNeg), .int (X.2 ((y3 + 1)).toNatClampNeg), .ref 29, .int v50] (hh S50) n else none := rfl
theorem B_169_73 {X : Nat × (Nat → Int32)} {d : Nat} (n : Nat) (y3 : Int32) (v50 : Int32) (S50 : St) : ex X d 169 351 [.ref 1000, .ref 0, .ref 29, .int y3] [.int (X.2 ((y3 + 2)).toNatClampNeg), .int (X.2 ((y3 + 1)).toNatClampNeg), .ref 29, .int v50] (hh S50) (n + 1) = if (X.2 ((y3 + 2)).toNatClampNeg) = 0 then ex X d 169 358 [.ref 1000, .ref 0, .ref 29, .int y3] [.int (X.2 ((y3 + 1)).toNatClampNeg), .ref 29, .int v50] (hh S50) n else ex X d 169 354 [.ref 1000, .ref 0, .ref 29, .int y3] [.int (X.2 ((y3 + 1)).toNatClampNeg), .ref 29, .int v50] (hh S50) n := rfl
theorem B_169_74 {X : Nat × (Nat → Int32)} {d : Nat} (n : Nat) (y3 : Int32) (v50 : Int32) (S50 : St) : ex X (d + 1) 169 358 [.ref 1000, .ref 0, .ref 29, .int y3] [.int (X.2 ((y3 + 1)).toNatClampNeg), .ref 29, .int v50] (hh S50) (n + 2) = (match ex X d 161 0 [.ref 29, .int (X.2 ((y3 + 1)).toNatClampNeg), .int 0] [] (hh S50) n with | some (v, h') => ex X (d + 1) 169 362 [.ref 1000, .ref 0, .ref 29, .int y3] (v.toList ++ [.int v50]) h' n | none => none) := rfl
theorem B_169_75 {X : Nat × (Nat → Int32)} {d : Nat} (n : Nat) (y3 : Int32) (v51 : Int32) (v50 : Int32) (S51 : St) : ex X d 169 362 [.ref 1000, .ref 0, .ref 29, .int y3] [.int v51, .int v50] (hh S51) (n + 1) = if v50 = v51 then ex X d 169 476 [.ref 1000, .ref 0, .ref 29, .int y3] [] (hh S51) n else ex X d 169 365 [.ref 1000, .ref 0, .ref 29, .int y3] [] (hh S51) n := rfl
theorem B_169_76 {X : Nat × (Nat → Int32)} {d : Nat} (n : Nat) (y3 : Int32) (S51 : St) : ex X d 169 476 [.ref 1000, .ref 0, .ref 29, .int y3] [] (hh S51) (n + 2) = ex X d 169 28 [.ref 1000, .ref 0, .ref 29, .int (y3 + 4)] [] (hh S51) n := rfl
theorem B_169_77 {X : Nat × (Nat → Int32)} {d : Nat} (n : Nat) (y3 : Int32) (v51 : Int32) (v50 : Int32) (S51 : St) : ex X d 169 362 [.ref 1000, .ref 0, .ref 29, .int y3] [.int v51, .int v50] (hh S51) (n + 1) = if v50 = v51 then ex X d 169 476 [.ref 1000, .ref 0, .ref 29, .int y3] [] (hh S51) n else ex X d 169 365 [.ref 1000, .ref 0, .ref 29, .int y3] [] (hh S51) n := rfl
theorem B_169_78 {X : Nat × (Nat → Int32)} {d : Nat} (n : Nat) (y3 : Int32) (S : St) : ex X d 169 329 [.ref 1000, .ref 0, .ref 29, .int y3] [.int (X.2 ((y3 + 2)).toNatClampNeg), .int (X.2 ((y3 + 1)).toNatClampNeg), .ref 0] (hh S) (n + 1) = if (X.2 ((y3 + 2)).toNatClampNeg) = 0 then ex X d 169 336 [.ref 1000, .ref 0, .ref 29, .int y3] [.int (X.2 ((y3 + 1)).toNatClampNeg), .ref 0] (hh S) n else ex X d 169 332 [.ref 1000, .ref 0, .ref 29, .int y3] [.int (X.2 ((y3 + 1)).toNatClampNeg), .ref 0] (hh S) n := rfl
theorem B_169_79 {X : Nat × (Nat → Int32)} {d : Nat} (n : Nat) (y3 : Int32) (S : St) : ex X (d + 1) 169 332 [.ref 1000, .ref 0, .ref 29, .int y3] [.int (X.2 ((y3 + 1)).toNatClampNeg), .ref 0] (hh S) (n + 3) = (match ex X d 108 0 [.ref 0, .int (X.2 ((y3 + 1)).toNatClampNeg), .int 1] [] (hh S) n with | some (v, h') => ex X (d + 1) 169 340 [.ref 1000, .ref 0, .ref 29, .int y3] (v.toList ++ []) h' n | none => none) := rfl
theorem B_169_80 {X : Nat × (Nat → Int32)} {d : Nat} (n : Nat) (y3 : Int32) (v53 : Int32) (S53 : St) : ex X d 169 340 [.ref 1000, .ref 0, .ref 29, .int y3] [.int v53] (hh S53) (n + 6) = if xa_in (y3 + 1) X.1 then ex X d 169 346 [.ref 1000, .ref 0, .ref 29, .int y3] [.int (X.2 ((y3 + 1)).toNatClampNeg), .ref 29, .int v53] (hh S53) n else none := rfl
theorem B_169_81 {X : Nat × (Nat → Int32)} {d : Nat} (n : Nat) (y3 : Int32) (v53 : Int32) (S53 : St) : ex X d 169 346 [.ref 1000, .ref 0, .ref 29, .int y3] [.int (X.2 ((y3 + 1)).toNatClampNeg), .ref 29, .int v53] (hh S53) (n + 5) = if xa_in (y3 + 2) X.1 then ex X d 169 351 [.ref 1000, .ref 0, .ref 29, .int y3] [.int (X.2 ((y3 + 2)).toNatClampNeg), .int (X.2 ((y3 + 1)).toNatClampNeg), .ref 29, .int v53] (hh S53) n else none := rfl
theorem B_169_82 {X : Nat × (Nat → Int32)} {d : Nat} (n : Nat) (y3 : Int32) (v53 : Int32) (S53 : St) : ex X d 169 351 [.ref 1000, .ref 0, .ref 29, .int y3] [.int (X.2 ((y3 + 2)).toNatClampNeg), .int (X.2 ((y3 + 1)).toNatClampNeg), .ref 29, .int v53] (hh S53) (n + 1) = if (X.2 ((y3 + 2)).toNatClampNeg) = 0 then ex X d 169 358 [.ref 1000, .ref 0, .ref 29, .int y3] [.int (X.2 ((y3 + 1)).toNatClampNeg), .ref 29, .int v53] (hh S53) n else ex X d 169 354 [.ref 1000, .ref 0, .ref 29, .int y3] [.int (X.2 ((y3 + 1)).toNatClampNeg), .ref 29, .int v53] (hh S53) n := rfl
theorem B_169_83 {X : Nat × (Nat → Int32)} {d : Nat} (n : Nat) (y3 : Int32) (v53 : Int32) (S53 : St) : ex X (d + 1) 169 354 [.ref 1000, .ref 0, .ref 29, .int y3] [.int (X.2 ((y3 + 1)).toNatClampNeg), .ref 29, .int v53] (hh S53) (n + 3) = (match ex X d 161 0 [.ref 29, .int (X.2 ((y3 + 1)).toNatClampNeg), .int 1] [] (hh S53) n with | some (v, h') => ex X (d + 1) 169 362 [.ref 1000, .ref 0, .ref 29, .int y3] (v.toList ++ [.int v53]) h' n | none => none) := rfl
theorem B_169_84 {X : Nat × (Nat → Int32)} {d : Nat} (n : Nat) (y3 : Int32) (v54 : Int32) (v53 : Int32) (S54 : St) : ex X d 169 362 [.ref 1000, .ref 0, .ref 29, .int y3] [.int v54, .int v53] (hh S54) (n + 1) = if v53 = v54 then ex X d 169 476 [.ref 1000, .ref 0, .ref 29, .int y3] [] (hh S54) n else ex X d 169 365 [.ref 1000, .ref 0, .ref 29, .int y3] [] (hh S54) n := rfl
theorem B_169_85 {X : Nat × (Nat → Int32)} {d : Nat} (n : Nat) (y3 : Int32) (S54 : St) : ex X d 169 476 [.ref 1000, .ref 0, .ref 29, .int y3] [] (hh S54) (n + 2) = ex X d 169 28 [.ref 1000, .ref 0, .ref 29, .int (y3 + 4)] [] (hh S54) n := rfl
theorem B_169_86 {X : Nat × (Nat → Int32)} {d : Nat} (n : Nat) (y3 : Int32) (v54 : Int32) (v53 : Int32) (S54 : St) : ex X d 169 362 [.ref 1000, .ref 0, .ref 29, .int y3] [.int v54, .int v53] (hh S54) (n + 1) = if v53 = v54 then ex X d 169 476 [.ref 1000, .ref 0, .ref 29, .int y3] [] (hh S54) n else ex X d 169 365 [.ref 1000, .ref 0, .ref 29, .int y3] [] (hh S54) n := rfl
theorem B_169_87 {X : Nat × (Nat → Int32)} {d : Nat} (n : Nat) (y3 : Int32) (S : St) : ex X d 169 367 [.ref 1000, .ref 0, .ref 29, .int y3] [] (hh S) (n + 6) = if xa_in (y3 + 1) X.1 then ex X d 169 373 [.ref 1000, .ref 0, .ref 29, .int y3] [.int (X.2 ((y3 + 1)).toNatClampNeg), .ref 0] (hh S) n else none := rfl
theorem B_169_88 {X : Nat × (Nat → Int32)} {d : Nat} (n : Nat) (y3 : Int32) (S : St) : ex X d 169 373 [.ref 1000, .ref 0, .ref 29, .int y3] [.int (X.2 ((y3 + 1)).toNatClampNeg), .ref 0] (hh S) (n + 5) = if xa_in (y3 + 2) X.1 then ex X d 169 378 [.ref 1000, .ref 0, .ref 29, .int y3] [.int (X.2 ((y3 + 2)).toNatClampNeg), .int (X.2 ((y3 + 1)).toNatClampNeg), .ref 0] (hh S) n else none := rfl
theorem B_169_89 {X : Nat × (Nat → Int32)} {d : Nat} (n : Nat) (y3 : Int32) (S : St) : ex X (d + 1) 169 378 [.ref 1000, .ref 0, .ref 29, .int y3] [.int (X.2 ((y3 + 2)).toNatClampNeg), .int (X.2 ((y3 + 1)).toNatClampNeg), .ref 0] (hh S) (n + 1) = (match ex X d 109 0 [.ref 0, .int (X.2 ((y3 + 1)).toNatClampNeg), .int (X.2 ((y3 + 2)).toNatClampNeg), .retAddr 0] [] (hh S) n with | some (v, h') => ex X (d + 1) 169 381 [.ref 1000, .ref 0, .ref 29, .int y3] (v.toList ++ []) h' n | none => none) := rfl
theorem B_169_90 {X : Nat × (Nat → Int32)} {d : Nat} (n : Nat) (y3 : Int32) (v59 : Int32) (S59 : St) : ex X d 169 381 [.ref 1000, .ref 0, .ref 29, .int y3] [.int v59] (hh S59) (n + 6) = if xa_in (y3 + 1) X.1 then ex X d 169 387 [.ref 1000, .ref 0, .ref 29, .int y3] [.int (X.2 ((y3 + 1)).toNatClampNeg), .ref 29, .int v59] (hh S59) n else none := rfl
theorem B_169_91 {X : Nat × (Nat → Int32)} {d : Nat} (n : Nat) (y3 : Int32) (v59 : Int32) (S59 : St) : ex X d 169 387 [.ref 1000, .ref 0, .ref 29, .int y3] [.int (X.2 ((y3 + 1)).toNatClampNeg), .ref 29, .int v59] (hh S59) (n + 5) = if xa_in (y3 + 2) X.1 then ex X d 169 392 [.ref 1000, .ref 0, .ref 29, .int y3] [.int (X.2 ((y3 + 2)).toNatClampNeg), .int (X.2 ((y3 + 1)).toNatClampNeg), .ref 29, .int v59] (hh S59) n else none := rfl
theorem B_169_92 {X : Nat × (Nat → Int32)} {d : Nat} (n : Nat) (y3 : Int32) (v59 : Int32) (S59 : St) : ex X (d + 1) 169 392 [.ref 1000, .ref 0, .ref 29, .int y3] [.int (X.2 ((y3 + 2)).toNatClampNeg), .int (X.2 ((y3 + 1)).toNatClampNeg), .ref 29, .int v59] (hh S59) (n + 1) = (match ex X d 162 0 [.ref 29, .int (X.2 ((y3 + 1)).toNatClampNeg), .int (X.2 ((y3 + 2)).toNatClampNeg)] [] (hh S59) n with | some (v, h') => ex X (d + 1) 169 395 [.ref 1000, .ref 0, .ref 29, .int y3] (v.toList ++ [.int v59]) h' n | none => none) := rfl
theorem B_169_93 {X : Nat × (Nat → Int32)} {d : Nat} (n : Nat) (y3 : Int32) (v60 : Int32) (v59 : Int32) (S60 : St) : ex X d 169 395 [.ref 1000, .ref 0, .ref 29, .int y3] [.int v60, .int v59] (hh S60) (n + 1) = if v59 = v60 then ex X d 169 476 [.ref 1000, .ref 0, .ref 29, .int y3] [] (hh S60) n else ex X d 169 398 [.ref 1000, .ref 0, .ref 29, .int y3] [] (hh S60) n := rfl
theorem B_169_94 {X : Nat × (Nat → Int32)} {d : Nat} (n : Nat) (y3 : Int32) (S60 : St) : ex X d 169 476 [.ref 1000, .ref 0, .ref 29, .int y3] [] (hh S60) (n + 2) = ex X d 169 28 [.ref 1000, .ref 0, .ref 29, .int (y3 + 4)] [] (hh S60) n := rfl
theorem B_169_95 {X : Nat × (Nat → Int32)} {d : Nat} (n : Nat) (y3 : Int32) (v60 : Int32) (v59 : Int32) (S60 : St) : ex X d 169 395 [.ref 1000, .ref 0, .ref 29, .int y3] [.int v60, .int v59] (hh S60) (n + 1) = if v59 = v60 then ex X d 169 476 [.ref 1000, .ref 0, .ref 29, .int y3] [] (hh S60) n else ex X d 169 398 [.ref 1000, .ref 0, .ref 29, .int y3] [] (hh S60) n := rfl
theorem B_169_96 {X : Nat × (Nat → Int32)} {d : Nat} (n : Nat) (y3 : Int32) (S : St) : ex X d 169 400 [.ref 1000, .ref 0, .ref 29, .int y3] [] (hh S) (n + 6) = if xa_in (y3 + 1) X.1 then ex X d 169 406 [.ref 1000, .ref 0, .ref 29, .int y3] [.int (X.2 ((y3 + 1)).toNatClampNeg), .ref 0] (hh S) n else none := rfl
theorem B_169_97 {X : Nat × (Nat → Int32)} {d : Nat} (n : Nat) (y3 : Int32) (S : St) : ex X d 169 406 [.ref 1000, .ref 0, .ref 29, .int y3] [.int (X.2 ((y3 + 1)).toNatClampNeg), .ref 0] (hh S) (n + 5) = if xa_in (y3 + 2) X.1 then ex X d 169 411 [.ref 1000, .ref 0, .ref 29, .int y3] [.int (X.2 ((y3 + 2)).toNatClampNeg), .int (X.2 ((y3 + 1)).toNatClampNeg), .ref 0] (hh S) n else none := rfl
theorem B_169_98 {X : Nat × (Nat → Int32)} {d : Nat} (n : Nat) (y3 : Int32) (S : St) : ex X d 169 411 [.ref 1000, .ref 0, .ref 29, .int y3] [.int (X.2 ((y3 + 2)).toNatClampNeg), .int (X.2 ((y3 + 1)).toNatClampNeg), .ref 0] (hh S) (n + 5) = if xa_in (y3 + 3) X.1 then ex X d 169 416 [.ref 1000, .ref 0, .ref 29, .int y3] [.int (X.2 ((y3 + 3)).toNatClampNeg), .int (X.2 ((y3 + 2)).toNatClampNeg), .int (X.2 ((y3 + 1)).toNatClampNeg), .ref 0] (hh S) n else none := rfl
theorem B_169_99 {X : Nat × (Nat → Int32)} {d : Nat} (n : Nat) (y3 : Int32) (S : St) : ex X (d + 1) 169 416 [.ref 1000, .ref 0, .ref 29, .int y3] [.int (X.2 ((y3 + 3)).toNatClampNeg), .int (X.2 ((y3 + 2)).toNatClampNeg), .int (X.2 ((y3 + 1)).toNatClampNeg), .ref 0] (hh S) (n + 1) = (match ex X d 110 0 [.ref 0, .int (X.2 ((y3 + 1)).toNatClampNeg), .int (X.2 ((y3 + 2)).toNatClampNeg), .int (X.2 ((y3 + 3)).toNatClampNeg)] [] (hh S) n with | some (v, h') => ex X (d + 1) 169 419 [.ref 1000, .ref 0, .ref 29, .int y3] (v.toList ++ []) h' n | none => none) := rfl
theorem B_169_100 {X : Nat × (Nat → Int32)} {d : Nat} (n : Nat) (y3 : Int32) (v66 : Int32) (S66 : St) : ex X d 169 419 [.ref 1000, .ref 0, .ref 29, .int y3] [.int v66] (hh S66) (n + 6) = if xa_in (y3 + 1) X.1 then ex X d 169 425 [.ref 1000, .ref 0, .ref 29, .int y3] [.int (X.2 ((y3 + 1)).toNatClampNeg), .ref 29, .int v66] (hh S66) n else none := rfl
theorem B_169_101 {X : Nat × (Nat → Int32)} {d : Nat} (n : Nat) (y3 : Int32) (v66 : Int32) (S66 : St) : ex X d 169 425 [.ref 1000, .ref 0, .ref 29, .int y3] [.int (X.2 ((y3 + 1)).toNatClampNeg), .ref 29, .int v66] (hh S66) (n + 5) = if xa_in (y3 + 2) X.1 then ex X d 169 430 [.ref 1000, .ref 0, .ref 29, .int y3] [.int (X.2 ((y3 + 2)).toNatClampNeg), .int (X.2 ((y3 + 1)).toNatClampNeg), .ref 29, .int v66] (hh S66) n else none := rfl
theorem B_169_102 {X : Nat × (Nat → Int32)} {d : Nat} (n : Nat) (y3 : Int32) (v66 : Int32) (S66 : St) : ex X d 169 430 [.ref 1000, .ref 0, .ref 29, .int y3] [.int (X.2 ((y3 + 2)).toNatClampNeg), .int (X.2 ((y3 + 1)).toNatClampNeg), .ref 29, .int v66] (hh S66) (n + 5) = if xa_in (y3 + 3) X.1 then ex X d 169 435 [.ref 1000, .ref 0, .ref 29, .int y3] [.int (X.2 ((y3 + 3)).toNatClampNeg), .int (X.2 ((y3 + 2)).toNatClampNeg), .int (X.2 ((y3 + 1)).toNatClampNeg), .ref 29, .int v66] (hh S66) n else none := rfl
theorem B_169_103 {X : Nat × (Nat → Int32)} {d : Nat} (n : Nat) (y3 : Int32) (v66 : Int32) (S66 : St) : ex X (d + 1) 169 435 [.ref 1000, .ref 0, .ref 29, .int y3] [.int (X.2 ((y3 + 3)).toNatClampNeg), .int (X.2 ((y3 + 2)).toNatClampNeg), .int (X.2 ((y3 + 1)).toNatClampNeg), .ref 29, .int v66] (hh S66) (n + 1) = (match ex X d 163 0 [.ref 29, .int (X.2 ((y3 + 1)).toNatClampNeg), .int (X.2 ((y3 + 2)).toNatClampNeg), .int (X.2 ((y3 + 3)).toNatClampNeg)] [] (hh S66) n with | some (v, h') => ex X (d + 1) 169 438 [.ref 1000, .ref 0, .ref 29, .int y3] (v.toList ++ [.int v66]) h' n | none => none) := rfl
theorem B_169_104 {X : Nat × (Nat → Int32)} {d : Nat} (n : Nat) (y3 : Int32) (v67 : Int32) (v66 : Int32) (S67 : St) : ex X d 169 438 [.ref 1000, .ref 0, .ref 29, .int y3] [.int v67, .int v66] (hh S67) (n + 1) = if v66 = v67 then ex X d 169 476 [.ref 1000, .ref 0, .ref 29, .int y3] [] (hh S67) n else ex X d 169 441 [.ref 1000, .ref 0, .ref 29, .int y3] [] (hh S67) n := rfl
theorem B_169_105 {X : Nat × (Nat → Int32)} {d : Nat} (n : Nat) (y3 : Int32) (S67 : St) : ex X d 169 476 [.ref 1000, .ref 0, .ref 29, .int y3] [] (hh S67) (n + 2) = ex X d 169 28 [.ref 1000, .ref 0, .ref 29, .int (y3 + 4)] [] (hh S67) n := rfl
theorem B_169_106 {X : Nat × (Nat → Int32)} {d : Nat} (n : Nat) (y3 : Int32) (v67 : Int32) (v66 : Int32) (S67 : St) : ex X d 169 438 [.ref 1000, .ref 0, .ref 29, .int y3] [.int v67, .int v66] (hh S67) (n + 1) = if v66 = v67 then ex X d 169 476 [.ref 1000, .ref 0, .ref 29, .int y3] [] (hh S67) n else ex X d 169 441 [.ref 1000, .ref 0, .ref 29, .int y3] [] (hh S67) n := rfl
theorem B_169_107 {X : Nat × (Nat → Int32)} {d : Nat} (n : Nat) (y3 : Int32) (S : St) : ex X d 169 443 [.ref 1000, .ref 0, .ref 29, .int y3] [] (hh S) (n + 6) = if xa_in (y3 + 1) X.1 then ex X d 169 449 [.ref 1000, .ref 0, .ref 29, .int y3] [.int (X.2 ((y3 + 1)).toNatClampNeg), .ref 0] (hh S) n else none := rfl
theorem B_169_108 {X : Nat × (Nat → Int32)} {d : Nat} (n : Nat) (y3 : Int32) (S : St) : ex X d 169 449 [.ref 1000, .ref 0, .ref 29, .int y3] [.int (X.2 ((y3 + 1)).toNatClampNeg), .ref 0] (hh S) (n + 5) = if xa_in (y3 + 2) X.1 then ex X d 169 454 [.ref 1000, .ref 0, .ref 29, .int y3] [.int (X.2 ((y3 + 2)).toNatClampNeg), .int (X.2 ((y3 + 1)).toNatClampNeg), .ref 0] (hh S) n else none := rfl
theorem B_169_109 {X : Nat × (Nat → Int32)} {d : Nat} (n : Nat) (y3 : Int32) (S : St) : ex X (d + 1) 169 454 [.ref 1000, .ref 0, .ref 29, .int y3] [.int (X.2 ((y3 + 2)).toNatClampNeg), .int (X.2 ((y3 + 1)).toNatClampNeg), .ref 0] (hh S) (n + 1) = (match ex X d 111 0 [.ref 0, .int (X.2 ((y3 + 1)).toNatClampNeg), .int (X.2 ((y3 + 2)).toNatClampNeg), .retAddr 0] [] (hh S) n with | some (v, h') => ex X (d + 1) 169 457 [.ref 1000, .ref 0, .ref 29, .int y3] (v.toList ++ []) h' n | none => none) := rfl
theorem B_169_110 {X : Nat × (Nat → Int32)} {d : Nat} (n : Nat) (y3 : Int32) (v72 : Int32) (S72 : St) : ex X d 169 457 [.ref 1000, .ref 0, .ref 29, .int y3] [.int v72] (hh S72) (n + 6) = if xa_in (y3 + 1) X.1 then ex X d 169 463 [.ref 1000, .ref 0, .ref 29, .int y3] [.int (X.2 ((y3 + 1)).toNatClampNeg), .ref 29, .int v72] (hh S72) n else none := rfl
theorem B_169_111 {X : Nat × (Nat → Int32)} {d : Nat} (n : Nat) (y3 : Int32) (v72 : Int32) (S72 : St) : ex X d 169 463 [.ref 1000, .ref 0, .ref 29, .int y3] [.int (X.2 ((y3 + 1)).toNatClampNeg), .ref 29, .int v72] (hh S72) (n + 5) = if xa_in (y3 + 2) X.1 then ex X d 169 468 [.ref 1000, .ref 0, .ref 29, .int y3] [.int (X.2 ((y3 + 2)).toNatClampNeg), .int (X.2 ((y3 + 1)).toNatClampNeg), .ref 29, .int v72] (hh S72) n else none := rfl
theorem B_169_112 {X : Nat × (Nat → Int32)} {d : Nat} (n : Nat) (y3 : Int32) (v72 : Int32) (S72 : St) : ex X (d + 1) 169 468 [.ref 1000, .ref 0, .ref 29, .int y3] [.int (X.2 ((y3 + 2)).toNatClampNeg), .int (X.2 ((y3 + 1)).toNatClampNeg), .ref 29, .int v72] (hh S72) (n + 1) = (match ex X d 164 0 [.ref 29, .int (X.2 ((y3 + 1)).toNatClampNeg), .int (X.2 ((y3 + 2)).toNatClampNeg), .retAddr 0, .retAddr 0, .retAddr 0, .retAddr 0] [] (hh S72) n with | some (v, h') => ex X (d + 1) 169 471 [.ref 1000, .ref 0, .ref 29, .int y3] (v.toList ++ [.int v72]) h' n | none => none) := rfl
theorem B_169_113 {X : Nat × (Nat → Int32)} {d : Nat} (n : Nat) (y3 : Int32) (v73 : Int32) (v72 : Int32) (S73 : St) : ex X d 169 471 [.ref 1000, .ref 0, .ref 29, .int y3] [.int v73, .int v72] (hh S73) (n + 1) = if v72 = v73 then ex X d 169 476 [.ref 1000, .ref 0, .ref 29, .int y3] [] (hh S73) n else ex X d 169 474 [.ref 1000, .ref 0, .ref 29, .int y3] [] (hh S73) n := rfl
theorem B_169_114 {X : Nat × (Nat → Int32)} {d : Nat} (n : Nat) (y3 : Int32) (S73 : St) : ex X d 169 476 [.ref 1000, .ref 0, .ref 29, .int y3] [] (hh S73) (n + 2) = ex X d 169 28 [.ref 1000, .ref 0, .ref 29, .int (y3 + 4)] [] (hh S73) n := rfl
theorem B_169_115 {X : Nat × (Nat → Int32)} {d : Nat} (n : Nat) (y3 : Int32) (v73 : Int32) (v72 : Int32) (S73 : St) : ex X d 169 471 [.ref 1000, .ref 0, .ref 29, .int y3] [.int v73, .int v72] (hh S73) (n + 1) = if v72 = v73 then ex X d 169 476 [.ref 1000, .ref 0, .ref 29, .int y3] [] (hh S73) n else ex X d 169 474 [.ref 1000, .ref 0, .ref 29, .int y3] [] (hh S73) n := rfl
theorem B_169_116 {X : Nat × (Nat → Int32)} {d : Nat} (n : Nat) (y3 : Int32) (S : St) : ex X d 169 476 [.ref 1000, .ref 0, .ref 29, .int y3] [] (hh S) (n + 2) = ex X d 169 28 [.ref 1000, .ref 0, .ref 29, .int (y3 + 4)] [] (hh S) n := rfl
set_option maxRecDepth 200000 in
theorem TLaw {X : Nat × (Nat → Int32)} : ∀ (n : Nat) (S : St) (y3 : Int32) (r : Int32) (S' : St), GLaw X n S y3 = some (r, S') → Ev X 208 169 28 [.ref 1000, .ref 0, .ref 29, .int y3] [] (hh S) (xI r, hh S') := by
  intro n
  induction n with
  | zero => intro S y3 r S' hG; simp [GLaw] at hG
  | succ n ih =>
    intro S y3 r S' hG
    rw [GLaw] at hG
    by_cases c1 : ((Int32.ofNat X.1) - 4) < y3
    · rw [if_pos c1] at hG
      refine Ev.t (c := ((Int32.ofNat X.1) - 4) < y3) (p1 := 482) (L1 := [.ref 1000, .ref 0, .ref 29, .int y3]) (s1 := []) (h1 := hh S) (p2 := 36) (L2 := [.ref 1000, .ref 0, .ref 29, .int y3]) (s2 := []) (h2 := hh S) 6 (fun n => B_169_1 n y3 S) c1 ?_
      obtain ⟨e1, e2⟩ := Prod.mk.inj (Option.some.inj hG)
      subst e1
      subst e2
      exact Ev.rg (c := (xm_z 169 = 0 ∨ (xm_z 169 = 1 ∧ ((1 : Int32) = 0 ∨ (1 : Int32) = 1)) ∨ (xm_z 169 = 2 ∧ ((1 : Int32)).toInt8.toInt32 = (1 : Int32)) ∨ (xm_z 169 = 3 ∧ ((1 : Int32)).toUInt32.toUInt16.toUInt32.toInt32 = (1 : Int32)))) 2 (fun n => rfl) (Or.inr (Or.inl ⟨rfl, by decide⟩))
    · rw [if_neg c1] at hG
      refine Ev.f (c := ((Int32.ofNat X.1) - 4) < y3) (p1 := 482) (L1 := [.ref 1000, .ref 0, .ref 29, .int y3]) (s1 := []) (h1 := hh S) (p2 := 36) (L2 := [.ref 1000, .ref 0, .ref 29, .int y3]) (s2 := []) (h2 := hh S) 6 (fun n => B_169_2 n y3 S) c1 ?_
      by_cases g2 : xa_in y3 X.1
      rotate_left
      · rw [if_neg g2] at hG; cases hG
      rw [if_pos g2] at hG
      refine Ev.g (c := xa_in y3 X.1) (p1 := 39) (L1 := [.ref 1000, .ref 0, .ref 29, .int y3]) (s1 := [.int (X.2 (y3).toNatClampNeg)]) (h1 := hh S) 3 (fun n => B_169_3 n y3 S) g2 ?_
      refine Ev.sw (ks := [(0, 104), (1, 147), (2, 170), (3, 213), (4, 226), (5, 239), (6, 262), (7, 295), (8, 318), (9, 367), (10, 400), (11, 443)]) (x := ((X.2 (y3).toNatClampNeg) &&& 15)) (df := 476) (L1 := [.ref 1000, .ref 0, .ref 29, .int y3]) (s1 := []) (h1 := hh S) 3 (fun n => B_169_4 n y3 S) ?_
      by_cases c3 : ((X.2 (y3).toNatClampNeg) &&& 15) = 0
      · rw [if_pos c3] at hG
        rw [xa_sw, if_pos c3]
        show Ev X _ 169 104 [.ref 1000, .ref 0, .ref 29, .int y3] [] (hh S) _
        by_cases g4 : xa_in (y3 + 1) X.1
        rotate_left
        · rw [if_neg g4] at hG; cases hG
        rw [if_pos g4] at hG
        refine Ev.g (c := xa_in (y3 + 1) X.1) (p1 := 110) (L1 := [.ref 1000, .ref 0, .ref 29, .int y3]) (s1 := [.int (X.2 ((y3 + 1)).toNatClampNeg), .ref 0]) (h1 := hh S) 6 (fun n => B_169_5 n y3 S) g4 ?_
        by_cases g5 : xa_in (y3 + 2) X.1
        rotate_left
        · rw [if_neg g5] at hG; cases hG
        rw [if_pos g5] at hG
        refine Ev.g (c := xa_in (y3 + 2) X.1) (p1 := 115) (L1 := [.ref 1000, .ref 0, .ref 29, .int y3]) (s1 := [.int (X.2 ((y3 + 2)).toNatClampNeg), .int (X.2 ((y3 + 1)).toNatClampNeg), .ref 0]) (h1 := hh S) 5 (fun n => B_169_6 n y3 S) g5 ?_
        by_cases g6 : xa_in (y3 + 3) X.1
        rotate_left
        · rw [if_neg g6] at hG; cases hG
        rw [if_pos g6] at hG
        refine Ev.g (c := xa_in (y3 + 3) X.1) (p1 := 120) (L1 := [.ref 1000, .ref 0, .ref 29, .int y3]) (s1 := [.int (X.2 ((y3 + 3)).toNatClampNeg), .int (X.2 ((y3 + 2)).toNatClampNeg), .int (X.2 ((y3 + 1)).toNatClampNeg), .ref 0]) (h1 := hh S) 5 (fun n => B_169_7 n y3 S) g6 ?_
        rcases h7 : G_98 S (X.2 ((y3 + 1)).toNatClampNeg) (X.2 ((y3 + 2)).toNatClampNeg) (X.2 ((y3 + 3)).toNatClampNeg) with _ | ⟨v7, S7⟩
        · rw [h7] at hG; cases hG
        rw [h7] at hG
        dsimp only at hG
        refine Ev.c (a := 98) (A := [.ref 0, .int (X.2 ((y3 + 1)).toNatClampNeg), .int (X.2 ((y3 + 2)).toNatClampNeg), .int (X.2 ((y3 + 3)).toNatClampNeg), .retAddr 0]) (h1 := hh S) (pc' := 123) (L' := [.ref 1000, .ref 0, .ref 29, .int y3]) (rest := []) (r1 := some (.int v7)) (h2 := hh S7) 1 (fun n => B_169_8 n y3 S) (Ev.up (by decide) (T_98 S (X.2 ((y3 + 1)).toNatClampNeg) (X.2 ((y3 + 2)).toNatClampNeg) (X.2 ((y3 + 3)).toNatClampNeg) _ _ h7)) ?_
        show Ev X _ 169 123 [.ref 1000, .ref 0, .ref 29, .int y3] [.int v7] (hh S7) _
        refine Ev.g (c := xa_in (y3 + 1) X.1) (p1 := 129) (L1 := [.ref 1000, .ref 0, .ref 29, .int y3]) (s1 := [.int (X.2 ((y3 + 1)).toNatClampNeg), .ref 29, .int v7]) (h1 := hh S7) 6 (fun n => B_169_9 n y3 v7 S7) g4 ?_
        refine Ev.g (c := xa_in (y3 + 2) X.1) (p1 := 134) (L1 := [.ref 1000, .ref 0, .ref 29, .int y3]) (s1 := [.int (X.2 ((y3 + 2)).toNatClampNeg), .int (X.2 ((y3 + 1)).toNatClampNeg), .ref 29, .int v7]) (h1 := hh S7) 5 (fun n => B_169_10 n y3 v7 S7) g5 ?_
        refine Ev.g (c := xa_in (y3 + 3) X.1) (p1 := 139) (L1 := [.ref 1000, .ref 0, .ref 29, .int y3]) (s1 := [.int (X.2 ((y3 + 3)).toNatClampNeg), .int (X.2 ((y3 + 2)).toNatClampNeg), .int (X.2 ((y3 + 1)).toNatClampNeg), .ref 29, .int v7]) (h1 := hh S7) 5 (fun n => B_169_11 n y3 v7 S7) g6 ?_
        rcases h8 : G_114 S7 (X.2 ((y3 + 1)).toNatClampNeg) (X.2 ((y3 + 2)).toNatClampNeg) (X.2 ((y3 + 3)).toNatClampNeg) with _ | ⟨v8, S8⟩
        · rw [h8] at hG; cases hG
        rw [h8] at hG
        dsimp only at hG
        refine Ev.c (a := 114) (A := [.ref 29, .int (X.2 ((y3 + 1)).toNatClampNeg), .int (X.2 ((y3 + 2)).toNatClampNeg), .int (X.2 ((y3 + 3)).toNatClampNeg), .retAddr 0]) (h1 := hh S7) (pc' := 142) (L' := [.ref 1000, .ref 0, .ref 29, .int y3]) (rest := [.int v7]) (r1 := some (.int v8)) (h2 := hh S8) 1 (fun n => B_169_12 n y3 v7 S7) (Ev.up (by decide) (T_114 S7 (X.2 ((y3 + 1)).toNatClampNeg) (X.2 ((y3 + 2)).toNatClampNeg) (X.2 ((y3 + 3)).toNatClampNeg) _ _ h8)) ?_
        show Ev X _ 169 142 [.ref 1000, .ref 0, .ref 29, .int y3] [.int v8, .int v7] (hh S8) _
        by_cases c9 : v7 = v8
        · rw [if_pos c9] at hG
          refine Ev.t (c := v7 = v8) (p1 := 476) (L1 := [.ref 1000, .ref 0, .ref 29, .int y3]) (s1 := []) (h1 := hh S8) (p2 := 145) (L2 := [.ref 1000, .ref 0, .ref 29, .int y3]) (s2 := []) (h2 := hh S8) 1 (fun n => B_169_13 n y3 v8 v7 S8) c9 ?_
          exact Ev.b (pc' := 28) (L' := [.ref 1000, .ref 0, .ref 29, .int (y3 + 4)]) (st' := []) (h' := hh S8) 2 (fun n => B_169_14 n y3 S8) (ih S8 (y3 + 4) _ _ hG)
        · rw [if_neg c9] at hG
          refine Ev.f (c := v7 = v8) (p1 := 476) (L1 := [.ref 1000, .ref 0, .ref 29, .int y3]) (s1 := []) (h1 := hh S8) (p2 := 145) (L2 := [.ref 1000, .ref 0, .ref 29, .int y3]) (s2 := []) (h2 := hh S8) 1 (fun n => B_169_15 n y3 v8 v7 S8) c9 ?_
          obtain ⟨e1, e2⟩ := Prod.mk.inj (Option.some.inj hG)
          subst e1
          subst e2
          exact Ev.rg (c := (xm_z 169 = 0 ∨ (xm_z 169 = 1 ∧ ((0 : Int32) = 0 ∨ (0 : Int32) = 1)) ∨ (xm_z 169 = 2 ∧ ((0 : Int32)).toInt8.toInt32 = (0 : Int32)) ∨ (xm_z 169 = 3 ∧ ((0 : Int32)).toUInt32.toUInt16.toUInt32.toInt32 = (0 : Int32)))) 2 (fun n => rfl) (Or.inr (Or.inl ⟨rfl, by decide⟩))
      rw [if_neg c3] at hG
      rw [xa_sw, if_neg c3]
      by_cases c10 : ((X.2 (y3).toNatClampNeg) &&& 15) = 1
      · rw [if_pos c10] at hG
        rw [xa_sw, if_pos c10]
        show Ev X _ 169 147 [.ref 1000, .ref 0, .ref 29, .int y3] [] (hh S) _
        by_cases g11 : xa_in (y3 + 1) X.1
        rotate_left
        · rw [if_neg g11] at hG; cases hG
        rw [if_pos g11] at hG
        refine Ev.g (c := xa_in (y3 + 1) X.1) (p1 := 153) (L1 := [.ref 1000, .ref 0, .ref 29, .int y3]) (s1 := [.int (X.2 ((y3 + 1)).toNatClampNeg), .ref 0]) (h1 := hh S) 6 (fun n => B_169_16 n y3 S) g11 ?_
        rcases h12 : G_99 S (X.2 ((y3 + 1)).toNatClampNeg) with _ | ⟨v12, S12⟩
        · rw [h12] at hG; cases hG
        rw [h12] at hG
        dsimp only at hG
        refine Ev.c (a := 99) (A := [.ref 0, .int (X.2 ((y3 + 1)).toNatClampNeg), .retAddr 0, .retAddr 0]) (h1 := hh S) (pc' := 156) (L' := [.ref 1000, .ref 0, .ref 29, .int y3]) (rest := []) (r1 := some (.int v12)) (h2 := hh S12) 1 (fun n => B_169_17 n y3 S) (Ev.up (by decide) (T_99 S (X.2 ((y3 + 1)).toNatClampNeg) _ _ h12)) ?_
        show Ev X _ 169 156 [.ref 1000, .ref 0, .ref 29, .int y3] [.int v12] (hh S12) _
        refine Ev.g (c := xa_in (y3 + 1) X.1) (p1 := 162) (L1 := [.ref 1000, .ref 0, .ref 29, .int y3]) (s1 := [.int (X.2 ((y3 + 1)).toNatClampNeg), .ref 29, .int v12]) (h1 := hh S12) 6 (fun n => B_169_18 n y3 v12 S12) g11 ?_
        rcases h13 : G_116 S12 (X.2 ((y3 + 1)).toNatClampNeg) with _ | ⟨v13, S13⟩
        · rw [h13] at hG; cases hG
        rw [h13] at hG
        dsimp only at hG
        refine Ev.c (a := 116) (A := [.ref 29, .int (X.2 ((y3 + 1)).toNatClampNeg), .retAddr 0]) (h1 := hh S12) (pc' := 165) (L' := [.ref 1000, .ref 0, .ref 29, .int y3]) (rest := [.int v12]) (r1 := some (.int v13)) (h2 := hh S13) 1 (fun n => B_169_19 n y3 v12 S12) (Ev.up (by decide) (T_116 S12 (X.2 ((y3 + 1)).toNatClampNeg) _ _ h13)) ?_
        show Ev X _ 169 165 [.ref 1000, .ref 0, .ref 29, .int y3] [.int v13, .int v12] (hh S13) _
        by_cases c14 : v12 = v13
        · rw [if_pos c14] at hG
          refine Ev.t (c := v12 = v13) (p1 := 476) (L1 := [.ref 1000, .ref 0, .ref 29, .int y3]) (s1 := []) (h1 := hh S13) (p2 := 168) (L2 := [.ref 1000, .ref 0, .ref 29, .int y3]) (s2 := []) (h2 := hh S13) 1 (fun n => B_169_20 n y3 v13 v12 S13) c14 ?_
          exact Ev.b (pc' := 28) (L' := [.ref 1000, .ref 0, .ref 29, .int (y3 + 4)]) (st' := []) (h' := hh S13) 2 (fun n => B_169_21 n y3 S13) (ih S13 (y3 + 4) _ _ hG)
        · rw [if_neg c14] at hG
          refine Ev.f (c := v12 = v13) (p1 := 476) (L1 := [.ref 1000, .ref 0, .ref 29, .int y3]) (s1 := []) (h1 := hh S13) (p2 := 168) (L2 := [.ref 1000, .ref 0, .ref 29, .int y3]) (s2 := []) (h2 := hh S13) 1 (fun n => B_169_22 n y3 v13 v12 S13) c14 ?_
          obtain ⟨e1, e2⟩ := Prod.mk.inj (Option.some.inj hG)
          subst e1
          subst e2
          exact Ev.rg (c := (xm_z 169 = 0 ∨ (xm_z 169 = 1 ∧ ((0 : Int32) = 0 ∨ (0 : Int32) = 1)) ∨ (xm_z 169 = 2 ∧ ((0 : Int32)).toInt8.toInt32 = (0 : Int32)) ∨ (xm_z 169 = 3 ∧ ((0 : Int32)).toUInt32.toUInt16.toUInt32.toInt32 = (0 : Int32)))) 2 (fun n => rfl) (Or.inr (Or.inl ⟨rfl, by decide⟩))
      rw [if_neg c10] at hG
      rw [xa_sw, if_neg c10]
      by_cases c15 : ((X.2 (y3).toNatClampNeg) &&& 15) = 2
      · rw [if_pos c15] at hG
        rw [xa_sw, if_pos c15]
        show Ev X _ 169 170 [.ref 1000, .ref 0, .ref 29, .int y3] [] (hh S) _
        by_cases g16 : xa_in (y3 + 1) X.1
        rotate_left
        · rw [if_neg g16] at hG; cases hG
        rw [if_pos g16] at hG
        refine Ev.g (c := xa_in (y3 + 1) X.1) (p1 := 176) (L1 := [.ref 1000, .ref 0, .ref 29, .int y3]) (s1 := [.int (X.2 ((y3 + 1)).toNatClampNeg), .ref 0]) (h1 := hh S) 6 (fun n => B_169_23 n y3 S) g16 ?_
        by_cases g17 : xa_in (y3 + 2) X.1
        rotate_left
        · rw [if_neg g17] at hG; cases hG
        rw [if_pos g17] at hG
        refine Ev.g (c := xa_in (y3 + 2) X.1) (p1 := 181) (L1 := [.ref 1000, .ref 0, .ref 29, .int y3]) (s1 := [.int (X.2 ((y3 + 2)).toNatClampNeg), .int (X.2 ((y3 + 1)).toNatClampNeg), .ref 0]) (h1 := hh S) 5 (fun n => B_169_24 n y3 S) g17 ?_
        by_cases g18 : xa_in (y3 + 3) X.1
        rotate_left
        · rw [if_neg g18] at hG; cases hG
        rw [if_pos g18] at hG
        refine Ev.g (c := xa_in (y3 + 3) X.1) (p1 := 186) (L1 := [.ref 1000, .ref 0, .ref 29, .int y3]) (s1 := [.int (X.2 ((y3 + 3)).toNatClampNeg), .int (X.2 ((y3 + 2)).toNatClampNeg), .int (X.2 ((y3 + 1)).toNatClampNeg), .ref 0]) (h1 := hh S) 5 (fun n => B_169_25 n y3 S) g18 ?_
        rcases h19 : G_101 S (X.2 ((y3 + 1)).toNatClampNeg) (X.2 ((y3 + 2)).toNatClampNeg) (X.2 ((y3 + 3)).toNatClampNeg) with _ | ⟨v19, S19⟩
        · rw [h19] at hG; cases hG
        rw [h19] at hG
        dsimp only at hG
        refine Ev.c (a := 101) (A := [.ref 0, .int (X.2 ((y3 + 1)).toNatClampNeg), .int (X.2 ((y3 + 2)).toNatClampNeg), .int (X.2 ((y3 + 3)).toNatClampNeg), .retAddr 0]) (h1 := hh S) (pc' := 189) (L' := [.ref 1000, .ref 0, .ref 29, .int y3]) (rest := []) (r1 := some (.int v19)) (h2 := hh S19) 1 (fun n => B_169_26 n y3 S) (Ev.up (by decide) (T_101 S (X.2 ((y3 + 1)).toNatClampNeg) (X.2 ((y3 + 2)).toNatClampNeg) (X.2 ((y3 + 3)).toNatClampNeg) _ _ h19)) ?_
        show Ev X _ 169 189 [.ref 1000, .ref 0, .ref 29, .int y3] [.int v19] (hh S19) _
        refine Ev.g (c := xa_in (y3 + 1) X.1) (p1 := 195) (L1 := [.ref 1000, .ref 0, .ref 29, .int y3]) (s1 := [.int (X.2 ((y3 + 1)).toNatClampNeg), .ref 29, .int v19]) (h1 := hh S19) 6 (fun n => B_169_27 n y3 v19 S19) g16 ?_
        refine Ev.g (c := xa_in (y3 + 2) X.1) (p1 := 200) (L1 := [.ref 1000, .ref 0, .ref 29, .int y3]) (s1 := [.int (X.2 ((y3 + 2)).toNatClampNeg), .int (X.2 ((y3 + 1)).toNatClampNeg), .ref 29, .int v19]) (h1 := hh S19) 5 (fun n => B_169_28 n y3 v19 S19) g17 ?_
        refine Ev.g (c := xa_in (y3 + 3) X.1) (p1 := 205) (L1 := [.ref 1000, .ref 0, .ref 29, .int y3]) (s1 := [.int (X.2 ((y3 + 3)).toNatClampNeg), .int (X.2 ((y3 + 2)).toNatClampNeg), .int (X.2 ((y3 + 1)).toNatClampNeg), .ref 29, .int v19]) (h1 := hh S19) 5 (fun n => B_169_29 n y3 v19 S19) g18 ?_
        rcases h20 : G_129 S19 (X.2 ((y3 + 1)).toNatClampNeg) (X.2 ((y3 + 2)).toNatClampNeg) (X.2 ((y3 + 3)).toNatClampNeg) with _ | ⟨v20, S20⟩
        · rw [h20] at hG; cases hG
        rw [h20] at hG
        dsimp only at hG
        refine Ev.c (a := 129) (A := [.ref 29, .int (X.2 ((y3 + 1)).toNatClampNeg), .int (X.2 ((y3 + 2)).toNatClampNeg), .int (X.2 ((y3 + 3)).toNatClampNeg), .retAddr 0, .retAddr 0]) (h1 := hh S19) (pc' := 208) (L' := [.ref 1000, .ref 0, .ref 29, .int y3]) (rest := [.int v19]) (r1 := some (.int v20)) (h2 := hh S20) 1 (fun n => B_169_30 n y3 v19 S19) (Ev.up (by decide) (T_129 S19 (X.2 ((y3 + 1)).toNatClampNeg) (X.2 ((y3 + 2)).toNatClampNeg) (X.2 ((y3 + 3)).toNatClampNeg) _ _ h20)) ?_
        show Ev X _ 169 208 [.ref 1000, .ref 0, .ref 29, .int y3] [.int v20, .int v19] (hh S20) _
        by_cases c21 : v19 = v20
        · rw [if_pos c21] at hG
          refine Ev.t (c := v19 = v20) (p1 := 476) (L1 := [.ref 1000, .ref 0, .ref 29, .int y3]) (s1 := []) (h1 := hh S20) (p2 := 211) (L2 := [.ref 1000, .ref 0, .ref 29, .int y3]) (s2 := []) (h2 := hh S20) 1 (fun n => B_169_31 n y3 v20 v19 S20) c21 ?_
          exact Ev.b (pc' := 28) (L' := [.ref 1000, .ref 0, .ref 29, .int (y3 + 4)]) (st' := []) (h' := hh S20) 2 (fun n => B_169_32 n y3 S20) (ih S20 (y3 + 4) _ _ hG)
        · rw [if_neg c21] at hG
          refine Ev.f (c := v19 = v20) (p1 := 476) (L1 := [.ref 1000, .ref 0, .ref 29, .int y3]) (s1 := []) (h1 := hh S20) (p2 := 211) (L2 := [.ref 1000, .ref 0, .ref 29, .int y3]) (s2 := []) (h2 := hh S20) 1 (fun n => B_169_33 n y3 v20 v19 S20) c21 ?_
          obtain ⟨e1, e2⟩ := Prod.mk.inj (Option.some.inj hG)
          subst e1
          subst e2
          exact Ev.rg (c := (xm_z 169 = 0 ∨ (xm_z 169 = 1 ∧ ((0 : Int32) = 0 ∨ (0 : Int32) = 1)) ∨ (xm_z 169 = 2 ∧ ((0 : Int32)).toInt8.toInt32 = (0 : Int32)) ∨ (xm_z 169 = 3 ∧ ((0 : Int32)).toUInt32.toUInt16.toUInt32.toInt32 = (0 : Int32)))) 2 (fun n => rfl) (Or.inr (Or.inl ⟨rfl, by decide⟩))
      rw [if_neg c15] at hG
      rw [xa_sw, if_neg c15]
      by_cases c22 : ((X.2 (y3).toNatClampNeg) &&& 15) = 3
      · rw [if_pos c22] at hG
        rw [xa_sw, if_pos c22]
        show Ev X _ 169 213 [.ref 1000, .ref 0, .ref 29, .int y3] [] (hh S) _
        rcases h23 : G_103 S with _ | ⟨v23, S23⟩
        · rw [h23] at hG; cases hG
        rw [h23] at hG
        dsimp only at hG
        refine Ev.c (a := 103) (A := [.ref 0]) (h1 := hh S) (pc' := 217) (L' := [.ref 1000, .ref 0, .ref 29, .int y3]) (rest := []) (r1 := some (.int v23)) (h2 := hh S23) 2 (fun n => B_169_34 n y3 S) (Ev.up (by decide) (T_103 S  _ _ h23)) ?_
        show Ev X _ 169 217 [.ref 1000, .ref 0, .ref 29, .int y3] [.int v23] (hh S23) _
        rcases h24 : G_156 S23 with _ | ⟨v24, S24⟩
        · rw [h24] at hG; cases hG
        rw [h24] at hG
        dsimp only at hG
        refine Ev.c (a := 156) (A := [.ref 29]) (h1 := hh S23) (pc' := 221) (L' := [.ref 1000, .ref 0, .ref 29, .int y3]) (rest := [.int v23]) (r1 := some (.int v24)) (h2 := hh S24) 2 (fun n => B_169_35 n y3 v23 S23) (Ev.up (by decide) (T_156 S23  _ _ h24)) ?_
        show Ev X _ 169 221 [.ref 1000, .ref 0, .ref 29, .int y3] [.int v24, .int v23] (hh S24) _
        by_cases c25 : v23 = v24
        · rw [if_pos c25] at hG
          refine Ev.t (c := v23 = v24) (p1 := 476) (L1 := [.ref 1000, .ref 0, .ref 29, .int y3]) (s1 := []) (h1 := hh S24) (p2 := 224) (L2 := [.ref 1000, .ref 0, .ref 29, .int y3]) (s2 := []) (h2 := hh S24) 1 (fun n => B_169_36 n y3 v24 v23 S24) c25 ?_
          exact Ev.b (pc' := 28) (L' := [.ref 1000, .ref 0, .ref 29, .int (y3 + 4)]) (st' := []) (h' := hh S24) 2 (fun n => B_169_37 n y3 S24) (ih S24 (y3 + 4) _ _ hG)
        · rw [if_neg c25] at hG
          refine Ev.f (c := v23 = v24) (p1 := 476) (L1 := [.ref 1000, .ref 0, .ref 29, .int y3]) (s1 := []) (h1 := hh S24) (p2 := 224) (L2 := [.ref 1000, .ref 0, .ref 29, .int y3]) (s2 := []) (h2 := hh S24) 1 (fun n => B_169_38 n y3 v24 v23 S24) c25 ?_
          obtain ⟨e1, e2⟩ := Prod.mk.inj (Option.some.inj hG)
          subst e1
          subst e2
          exact Ev.rg (c := (xm_z 169 = 0 ∨ (xm_z 169 = 1 ∧ ((0 : Int32) = 0 ∨ (0 : Int32) = 1)) ∨ (xm_z 169 = 2 ∧ ((0 : Int32)).toInt8.toInt32 = (0 : Int32)) ∨ (xm_z 169 = 3 ∧ ((0 : Int32)).toUInt32.toUInt16.toUInt32.toInt32 = (0 : Int32)))) 2 (fun n => rfl) (Or.inr (Or.inl ⟨rfl, by decide⟩))
      rw [if_neg c22] at hG
      rw [xa_sw, if_neg c22]
      by_cases c26 : ((X.2 (y3).toNatClampNeg) &&& 15) = 4
      · rw [if_pos c26] at hG
        rw [xa_sw, if_pos c26]
        show Ev X _ 169 226 [.ref 1000, .ref 0, .ref 29, .int y3] [] (hh S) _
        rcases h27 : G_104 S with _ | ⟨v27, S27⟩
        · rw [h27] at hG; cases hG
        rw [h27] at hG
        dsimp only at hG
        refine Ev.c (a := 104) (A := [.ref 0]) (h1 := hh S) (pc' := 230) (L' := [.ref 1000, .ref 0, .ref 29, .int y3]) (rest := []) (r1 := some (.int v27)) (h2 := hh S27) 2 (fun n => B_169_39 n y3 S) (Ev.up (by decide) (T_104 S  _ _ h27)) ?_
        show Ev X _ 169 230 [.ref 1000, .ref 0, .ref 29, .int y3] [.int v27] (hh S27) _
        rcases h28 : G_157 S27 with _ | ⟨v28, S28⟩
        · rw [h28] at hG; cases hG
        rw [h28] at hG
        dsimp only at hG
        refine Ev.c (a := 157) (A := [.ref 29]) (h1 := hh S27) (pc' := 234) (L' := [.ref 1000, .ref 0, .ref 29, .int y3]) (rest := [.int v27]) (r1 := some (.int v28)) (h2 := hh S28) 2 (fun n => B_169_40 n y3 v27 S27) (Ev.up (by decide) (T_157 S27  _ _ h28)) ?_
        show Ev X _ 169 234 [.ref 1000, .ref 0, .ref 29, .int y3] [.int v28, .int v27] (hh S28) _
        by_cases c29 : v27 = v28
        · rw [if_pos c29] at hG
          refine Ev.t (c := v27 = v28) (p1 := 476) (L1 := [.ref 1000, .ref 0, .ref 29, .int y3]) (s1 := []) (h1 := hh S28) (p2 := 237) (L2 := [.ref 1000, .ref 0, .ref 29, .int y3]) (s2 := []) (h2 := hh S28) 1 (fun n => B_169_41 n y3 v28 v27 S28) c29 ?_
          exact Ev.b (pc' := 28) (L' := [.ref 1000, .ref 0, .ref 29, .int (y3 + 4)]) (st' := []) (h' := hh S28) 2 (fun n => B_169_42 n y3 S28) (ih S28 (y3 + 4) _ _ hG)
        · rw [if_neg c29] at hG
          refine Ev.f (c := v27 = v28) (p1 := 476) (L1 := [.ref 1000, .ref 0, .ref 29, .int y3]) (s1 := []) (h1 := hh S28) (p2 := 237) (L2 := [.ref 1000, .ref 0, .ref 29, .int y3]) (s2 := []) (h2 := hh S28) 1 (fun n => B_169_43 n y3 v28 v27 S28) c29 ?_
          obtain ⟨e1, e2⟩ := Prod.mk.inj (Option.some.inj hG)
          subst e1
          subst e2
          exact Ev.rg (c := (xm_z 169 = 0 ∨ (xm_z 169 = 1 ∧ ((0 : Int32) = 0 ∨ (0 : Int32) = 1)) ∨ (xm_z 169 = 2 ∧ ((0 : Int32)).toInt8.toInt32 = (0 : Int32)) ∨ (xm_z 169 = 3 ∧ ((0 : Int32)).toUInt32.toUInt16.toUInt32.toInt32 = (0 : Int32)))) 2 (fun n => rfl) (Or.inr (Or.inl ⟨rfl, by decide⟩))
      rw [if_neg c26] at hG
      rw [xa_sw, if_neg c26]
      by_cases c30 : ((X.2 (y3).toNatClampNeg) &&& 15) = 5
      · rw [if_pos c30] at hG
        rw [xa_sw, if_pos c30]
        show Ev X _ 169 239 [.ref 1000, .ref 0, .ref 29, .int y3] [] (hh S) _
        by_cases g31 : xa_in (y3 + 1) X.1
        rotate_left
        · rw [if_neg g31] at hG; cases hG
        rw [if_pos g31] at hG
        refine Ev.g (c := xa_in (y3 + 1) X.1) (p1 := 245) (L1 := [.ref 1000, .ref 0, .ref 29, .int y3]) (s1 := [.int (X.2 ((y3 + 1)).toNatClampNeg), .ref 0]) (h1 := hh S) 6 (fun n => B_169_44 n y3 S) g31 ?_
        rcases h32 : G_105 S (X.2 ((y3 + 1)).toNatClampNeg) with _ | ⟨v32, S32⟩
        · rw [h32] at hG; cases hG
        rw [h32] at hG
        dsimp only at hG
        refine Ev.c (a := 105) (A := [.ref 0, .int (X.2 ((y3 + 1)).toNatClampNeg)]) (h1 := hh S) (pc' := 248) (L' := [.ref 1000, .ref 0, .ref 29, .int y3]) (rest := []) (r1 := some (.int v32)) (h2 := hh S32) 1 (fun n => B_169_45 n y3 S) (Ev.up (by decide) (T_105 S (X.2 ((y3 + 1)).toNatClampNeg) _ _ h32)) ?_
        show Ev X _ 169 248 [.ref 1000, .ref 0, .ref 29, .int y3] [.int v32] (hh S32) _
        refine Ev.g (c := xa_in (y3 + 1) X.1) (p1 := 254) (L1 := [.ref 1000, .ref 0, .ref 29, .int y3]) (s1 := [.int (X.2 ((y3 + 1)).toNatClampNeg), .ref 29, .int v32]) (h1 := hh S32) 6 (fun n => B_169_46 n y3 v32 S32) g31 ?_
        rcases h33 : G_158 S32 (X.2 ((y3 + 1)).toNatClampNeg) with _ | ⟨v33, S33⟩
        · rw [h33] at hG; cases hG
        rw [h33] at hG
        dsimp only at hG
        refine Ev.c (a := 158) (A := [.ref 29, .int (X.2 ((y3 + 1)).toNatClampNeg)]) (h1 := hh S32) (pc' := 257) (L' := [.ref 1000, .ref 0, .ref 29, .int y3]) (rest := [.int v32]) (r1 := some (.int v33)) (h2 := hh S33) 1 (fun n => B_169_47 n y3 v32 S32) (Ev.up (by decide) (T_158 S32 (X.2 ((y3 + 1)).toNatClampNeg) _ _ h33)) ?_
        show Ev X _ 169 257 [.ref 1000, .ref 0, .ref 29, .int y3] [.int v33, .int v32] (hh S33) _
        by_cases c34 : v32 = v33
        · rw [if_pos c34] at hG
          refine Ev.t (c := v32 = v33) (p1 := 476) (L1 := [.ref 1000, .ref 0, .ref 29, .int y3]) (s1 := []) (h1 := hh S33) (p2 := 260) (L2 := [.ref 1000, .ref 0, .ref 29, .int y3]) (s2 := []) (h2 := hh S33) 1 (fun n => B_169_48 n y3 v33 v32 S33) c34 ?_
          exact Ev.b (pc' := 28) (L' := [.ref 1000, .ref 0, .ref 29, .int (y3 + 4)]) (st' := []) (h' := hh S33) 2 (fun n => B_169_49 n y3 S33) (ih S33 (y3 + 4) _ _ hG)
        · rw [if_neg c34] at hG
          refine Ev.f (c := v32 = v33) (p1 := 476) (L1 := [.ref 1000, .ref 0, .ref 29, .int y3]) (s1 := []) (h1 := hh S33) (p2 := 260) (L2 := [.ref 1000, .ref 0, .ref 29, .int y3]) (s2 := []) (h2 := hh S33) 1 (fun n => B_169_50 n y3 v33 v32 S33) c34 ?_
          obtain ⟨e1, e2⟩ := Prod.mk.inj (Option.some.inj hG)
          subst e1
          subst e2
          exact Ev.rg (c := (xm_z 169 = 0 ∨ (xm_z 169 = 1 ∧ ((0 : Int32) = 0 ∨ (0 : Int32) = 1)) ∨ (xm_z 169 = 2 ∧ ((0 : Int32)).toInt8.toInt32 = (0 : Int32)) ∨ (xm_z 169 = 3 ∧ ((0 : Int32)).toUInt32.toUInt16.toUInt32.toInt32 = (0 : Int32)))) 2 (fun n => rfl) (Or.inr (Or.inl ⟨rfl, by decide⟩))
      rw [if_neg c30] at hG
      rw [xa_sw, if_neg c30]
      by_cases c35 : ((X.2 (y3).toNatClampNeg) &&& 15) = 6
      · rw [if_pos c35] at hG
        rw [xa_sw, if_pos c35]
        show Ev X _ 169 262 [.ref 1000, .ref 0, .ref 29, .int y3] [] (hh S) _
        by_cases g36 : xa_in (y3 + 1) X.1
        rotate_left
        · rw [if_neg g36] at hG; cases hG
        rw [if_pos g36] at hG
        refine Ev.g (c := xa_in (y3 + 1) X.1) (p1 := 268) (L1 := [.ref 1000, .ref 0, .ref 29, .int y3]) (s1 := [.int (X.2 ((y3 + 1)).toNatClampNeg), .ref 0]) (h1 := hh S) 6 (fun n => B_169_51 n y3 S) g36 ?_
        by_cases g37 : xa_in (y3 + 2) X.1
        rotate_left
        · rw [if_neg g37] at hG; cases hG
        rw [if_pos g37] at hG
        refine Ev.g (c := xa_in (y3 + 2) X.1) (p1 := 273) (L1 := [.ref 1000, .ref 0, .ref 29, .int y3]) (s1 := [.int (X.2 ((y3 + 2)).toNatClampNeg), .int (X.2 ((y3 + 1)).toNatClampNeg), .ref 0]) (h1 := hh S) 5 (fun n => B_169_52 n y3 S) g37 ?_
        rcases h38 : G_106 S (X.2 ((y3 + 1)).toNatClampNeg) (X.2 ((y3 + 2)).toNatClampNeg) with _ | ⟨v38, S38⟩
        · rw [h38] at hG; cases hG
        rw [h38] at hG
        dsimp only at hG
        refine Ev.c (a := 106) (A := [.ref 0, .int (X.2 ((y3 + 1)).toNatClampNeg), .int (X.2 ((y3 + 2)).toNatClampNeg)]) (h1 := hh S) (pc' := 276) (L' := [.ref 1000, .ref 0, .ref 29, .int y3]) (rest := []) (r1 := some (.int v38)) (h2 := hh S38) 1 (fun n => B_169_53 n y3 S) (Ev.up (by decide) (T_106 S (X.2 ((y3 + 1)).toNatClampNeg) (X.2 ((y3 + 2)).toNatClampNeg) _ _ h38)) ?_
        show Ev X _ 169 276 [.ref 1000, .ref 0, .ref 29, .int y3] [.int v38] (hh S38) _
        refine Ev.g (c := xa_in (y3 + 1) X.1) (p1 := 282) (L1 := [.ref 1000, .ref 0, .ref 29, .int y3]) (s1 := [.int (X.2 ((y3 + 1)).toNatClampNeg), .ref 29, .int v38]) (h1 := hh S38) 6 (fun n => B_169_54 n y3 v38 S38) g36 ?_
        refine Ev.g (c := xa_in (y3 + 2) X.1) (p1 := 287) (L1 := [.ref 1000, .ref 0, .ref 29, .int y3]) (s1 := [.int (X.2 ((y3 + 2)).toNatClampNeg), .int (X.2 ((y3 + 1)).toNatClampNeg), .ref 29, .int v38]) (h1 := hh S38) 5 (fun n => B_169_55 n y3 v38 S38) g37 ?_
        rcases h39 : G_159 S38 (X.2 ((y3 + 1)).toNatClampNeg) (X.2 ((y3 + 2)).toNatClampNeg) with _ | ⟨v39, S39⟩
        · rw [h39] at hG; cases hG
        rw [h39] at hG
        dsimp only at hG
        refine Ev.c (a := 159) (A := [.ref 29, .int (X.2 ((y3 + 1)).toNatClampNeg), .int (X.2 ((y3 + 2)).toNatClampNeg)]) (h1 := hh S38) (pc' := 290) (L' := [.ref 1000, .ref 0, .ref 29, .int y3]) (rest := [.int v38]) (r1 := some (.int v39)) (h2 := hh S39) 1 (fun n => B_169_56 n y3 v38 S38) (Ev.up (by decide) (T_159 S38 (X.2 ((y3 + 1)).toNatClampNeg) (X.2 ((y3 + 2)).toNatClampNeg) _ _ h39)) ?_
        show Ev X _ 169 290 [.ref 1000, .ref 0, .ref 29, .int y3] [.int v39, .int v38] (hh S39) _
        by_cases c40 : v38 = v39
        · rw [if_pos c40] at hG
          refine Ev.t (c := v38 = v39) (p1 := 476) (L1 := [.ref 1000, .ref 0, .ref 29, .int y3]) (s1 := []) (h1 := hh S39) (p2 := 293) (L2 := [.ref 1000, .ref 0, .ref 29, .int y3]) (s2 := []) (h2 := hh S39) 1 (fun n => B_169_57 n y3 v39 v38 S39) c40 ?_
          exact Ev.b (pc' := 28) (L' := [.ref 1000, .ref 0, .ref 29, .int (y3 + 4)]) (st' := []) (h' := hh S39) 2 (fun n => B_169_58 n y3 S39) (ih S39 (y3 + 4) _ _ hG)
        · rw [if_neg c40] at hG
          refine Ev.f (c := v38 = v39) (p1 := 476) (L1 := [.ref 1000, .ref 0, .ref 29, .int y3]) (s1 := []) (h1 := hh S39) (p2 := 293) (L2 := [.ref 1000, .ref 0, .ref 29, .int y3]) (s2 := []) (h2 := hh S39) 1 (fun n => B_169_59 n y3 v39 v38 S39) c40 ?_
          obtain ⟨e1, e2⟩ := Prod.mk.inj (Option.some.inj hG)
          subst e1
          subst e2
          exact Ev.rg (c := (xm_z 169 = 0 ∨ (xm_z 169 = 1 ∧ ((0 : Int32) = 0 ∨ (0 : Int32) = 1)) ∨ (xm_z 169 = 2 ∧ ((0 : Int32)).toInt8.toInt32 = (0 : Int32)) ∨ (xm_z 169 = 3 ∧ ((0 : Int32)).toUInt32.toUInt16.toUInt32.toInt32 = (0 : Int32)))) 2 (fun n => rfl) (Or.inr (Or.inl ⟨rfl, by decide⟩))
      rw [if_neg c35] at hG
      rw [xa_sw, if_neg c35]
      by_cases c41 : ((X.2 (y3).toNatClampNeg) &&& 15) = 7
      · rw [if_pos c41] at hG
        rw [xa_sw, if_pos c41]
        show Ev X _ 169 295 [.ref 1000, .ref 0, .ref 29, .int y3] [] (hh S) _
        by_cases g42 : xa_in (y3 + 1) X.1
        rotate_left
        · rw [if_neg g42] at hG; cases hG
        rw [if_pos g42] at hG
        refine Ev.g (c := xa_in (y3 + 1) X.1) (p1 := 301) (L1 := [.ref 1000, .ref 0, .ref 29, .int y3]) (s1 := [.int (X.2 ((y3 + 1)).toNatClampNeg), .ref 0]) (h1 := hh S) 6 (fun n => B_169_60 n y3 S) g42 ?_
        rcases h43 : G_107 S (X.2 ((y3 + 1)).toNatClampNeg) with _ | ⟨v43, S43⟩
        · rw [h43] at hG; cases hG
        rw [h43] at hG
        dsimp only at hG
        refine Ev.c (a := 107) (A := [.ref 0, .int (X.2 ((y3 + 1)).toNatClampNeg)]) (h1 := hh S) (pc' := 304) (L' := [.ref 1000, .ref 0, .ref 29, .int y3]) (rest := []) (r1 := some (.int v43)) (h2 := hh S43) 1 (fun n => B_169_61 n y3 S) (Ev.up (by decide) (T_107 S (X.2 ((y3 + 1)).toNatClampNeg) _ _ h43)) ?_
        show Ev X _ 169 304 [.ref 1000, .ref 0, .ref 29, .int y3] [.int v43] (hh S43) _
        refine Ev.g (c := xa_in (y3 + 1) X.1) (p1 := 310) (L1 := [.ref 1000, .ref 0, .ref 29, .int y3]) (s1 := [.int (X.2 ((y3 + 1)).toNatClampNeg), .ref 29, .int v43]) (h1 := hh S43) 6 (fun n => B_169_62 n y3 v43 S43) g42 ?_
        rcases h44 : G_160 S43 (X.2 ((y3 + 1)).toNatClampNeg) with _ | ⟨v44, S44⟩
        · rw [h44] at hG; cases hG
        rw [h44] at hG
        dsimp only at hG
        refine Ev.c (a := 160) (A := [.ref 29, .int (X.2 ((y3 + 1)).toNatClampNeg)]) (h1 := hh S43) (pc' := 313) (L' := [.ref 1000, .ref 0, .ref 29, .int y3]) (rest := [.int v43]) (r1 := some (.int v44)) (h2 := hh S44) 1 (fun n => B_169_63 n y3 v43 S43) (Ev.up (by decide) (T_160 S43 (X.2 ((y3 + 1)).toNatClampNeg) _ _ h44)) ?_
        show Ev X _ 169 313 [.ref 1000, .ref 0, .ref 29, .int y3] [.int v44, .int v43] (hh S44) _
        by_cases c45 : v43 = v44
        · rw [if_pos c45] at hG
          refine Ev.t (c := v43 = v44) (p1 := 476) (L1 := [.ref 1000, .ref 0, .ref 29, .int y3]) (s1 := []) (h1 := hh S44) (p2 := 316) (L2 := [.ref 1000, .ref 0, .ref 29, .int y3]) (s2 := []) (h2 := hh S44) 1 (fun n => B_169_64 n y3 v44 v43 S44) c45 ?_
          exact Ev.b (pc' := 28) (L' := [.ref 1000, .ref 0, .ref 29, .int (y3 + 4)]) (st' := []) (h' := hh S44) 2 (fun n => B_169_65 n y3 S44) (ih S44 (y3 + 4) _ _ hG)
        · rw [if_neg c45] at hG
          refine Ev.f (c := v43 = v44) (p1 := 476) (L1 := [.ref 1000, .ref 0, .ref 29, .int y3]) (s1 := []) (h1 := hh S44) (p2 := 316) (L2 := [.ref 1000, .ref 0, .ref 29, .int y3]) (s2 := []) (h2 := hh S44) 1 (fun n => B_169_66 n y3 v44 v43 S44) c45 ?_
          obtain ⟨e1, e2⟩ := Prod.mk.inj (Option.some.inj hG)
          subst e1
          subst e2
          exact Ev.rg (c := (xm_z 169 = 0 ∨ (xm_z 169 = 1 ∧ ((0 : Int32) = 0 ∨ (0 : Int32) = 1)) ∨ (xm_z 169 = 2 ∧ ((0 : Int32)).toInt8.toInt32 = (0 : Int32)) ∨ (xm_z 169 = 3 ∧ ((0 : Int32)).toUInt32.toUInt16.toUInt32.toInt32 = (0 : Int32)))) 2 (fun n => rfl) (Or.inr (Or.inl ⟨rfl, by decide⟩))
      rw [if_neg c41] at hG
      rw [xa_sw, if_neg c41]
      by_cases c46 : ((X.2 (y3).toNatClampNeg) &&& 15) = 8
      · rw [if_pos c46] at hG
        rw [xa_sw, if_pos c46]
        show Ev X _ 169 318 [.ref 1000, .ref 0, .ref 29, .int y3] [] (hh S) _
        by_cases g47 : xa_in (y3 + 1) X.1
        rotate_left
        · rw [if_neg g47] at hG; cases hG
        rw [if_pos g47] at hG
        refine Ev.g (c := xa_in (y3 + 1) X.1) (p1 := 324) (L1 := [.ref 1000, .ref 0, .ref 29, .int y3]) (s1 := [.int (X.2 ((y3 + 1)).toNatClampNeg), .ref 0]) (h1 := hh S) 6 (fun n => B_169_67 n y3 S) g47 ?_
        by_cases g48 : xa_in (y3 + 2) X.1
        rotate_left
        · rw [if_neg g48] at hG; cases hG
        rw [if_pos g48] at hG
        refine Ev.g (c := xa_in (y3 + 2) X.1) (p1 := 329) (L1 := [.ref 1000, .ref 0, .ref 29, .int y3]) (s1 := [.int (X.2 ((y3 + 2)).toNatClampNeg), .int (X.2 ((y3 + 1)).toNatClampNeg), .ref 0]) (h1 := hh S) 5 (fun n => B_169_68 n y3 S) g48 ?_
        by_cases c49 : (X.2 ((y3 + 2)).toNatClampNeg) = 0
        · rw [if_pos c49] at hG
          refine Ev.t (c := (X.2 ((y3 + 2)).toNatClampNeg) = 0) (p1 := 336) (L1 := [.ref 1000, .ref 0, .ref 29, .int y3]) (s1 := [.int (X.2 ((y3 + 1)).toNatClampNeg), .ref 0]) (h1 := hh S) (p2 := 332) (L2 := [.ref 1000, .ref 0, .ref 29, .int y3]) (s2 := [.int (X.2 ((y3 + 1)).toNatClampNeg), .ref 0]) (h2 := hh S) 1 (fun n => B_169_69 n y3 S) c49 ?_
          rcases h50 : G_108 S (X.2 ((y3 + 1)).toNatClampNeg) (0 : Int32) with _ | ⟨v50, S50⟩
          · rw [h50] at hG; cases hG
          rw [h50] at hG
          dsimp only at hG
          refine Ev.c (a := 108) (A := [.ref 0, .int (X.2 ((y3 + 1)).toNatClampNeg), .int 0]) (h1 := hh S) (pc' := 340) (L' := [.ref 1000, .ref 0, .ref 29, .int y3]) (rest := []) (r1 := some (.int v50)) (h2 := hh S50) 2 (fun n => B_169_70 n y3 S) (Ev.up (by decide) (T_108 S (X.2 ((y3 + 1)).toNatClampNeg) (0 : Int32) _ _ h50)) ?_
          show Ev X _ 169 340 [.ref 1000, .ref 0, .ref 29, .int y3] [.int v50] (hh S50) _
          refine Ev.g (c := xa_in (y3 + 1) X.1) (p1 := 346) (L1 := [.ref 1000, .ref 0, .ref 29, .int y3]) (s1 := [.int (X.2 ((y3 + 1)).toNatClampNeg), .ref 29, .int v50]) (h1 := hh S50) 6 (fun n => B_169_71 n y3 v50 S50) g47 ?_
          refine Ev.g (c := xa_in (y3 + 2) X.1) (p1 := 351) (L1 := [.ref 1000, .ref 0, .ref 29, .int y3]) (s1 := [.int (X.2 ((y3 + 2)).toNatClampNeg), .int (X.2 ((y3 + 1)).toNatClampNeg), .ref 29, .int v50]) (h1 := hh S50) 5 (fun n => B_169_72 n y3 v50 S50) g48 ?_
          refine Ev.t (c := (X.2 ((y3 + 2)).toNatClampNeg) = 0) (p1 := 358) (L1 := [.ref 1000, .ref 0, .ref 29, .int y3]) (s1 := [.int (X.2 ((y3 + 1)).toNatClampNeg), .ref 29, .int v50]) (h1 := hh S50) (p2 := 354) (L2 := [.ref 1000, .ref 0, .ref 29, .int y3]) (s2 := [.int (X.2 ((y3 + 1)).toNatClampNeg), .ref 29, .int v50]) (h2 := hh S50) 1 (fun n => B_169_73 n y3 v50 S50) c49 ?_
          rcases h51 : G_161 S50 (X.2 ((y3 + 1)).toNatClampNeg) (0 : Int32) with _ | ⟨v51, S51⟩
          · rw [h51] at hG; cases hG
          rw [h51] at hG
          dsimp only at hG
          refine Ev.c (a := 161) (A := [.ref 29, .int (X.2 ((y3 + 1)).toNatClampNeg), .int 0]) (h1 := hh S50) (pc' := 362) (L' := [.ref 1000, .ref 0, .ref 29, .int y3]) (rest := [.int v50]) (r1 := some (.int v51)) (h2 := hh S51) 2 (fun n => B_169_74 n y3 v50 S50) (Ev.up (by decide) (T_161 S50 (X.2 ((y3 + 1)).toNatClampNeg) (0 : Int32) _ _ h51)) ?_
          show Ev X _ 169 362 [.ref 1000, .ref 0, .ref 29, .int y3] [.int v51, .int v50] (hh S51) _
          by_cases c52 : v50 = v51
          · rw [if_pos c52] at hG
            refine Ev.t (c := v50 = v51) (p1 := 476) (L1 := [.ref 1000, .ref 0, .ref 29, .int y3]) (s1 := []) (h1 := hh S51) (p2 := 365) (L2 := [.ref 1000, .ref 0, .ref 29, .int y3]) (s2 := []) (h2 := hh S51) 1 (fun n => B_169_75 n y3 v51 v50 S51) c52 ?_
            exact Ev.b (pc' := 28) (L' := [.ref 1000, .ref 0, .ref 29, .int (y3 + 4)]) (st' := []) (h' := hh S51) 2 (fun n => B_169_76 n y3 S51) (ih S51 (y3 + 4) _ _ hG)
          · rw [if_neg c52] at hG
            refine Ev.f (c := v50 = v51) (p1 := 476) (L1 := [.ref 1000, .ref 0, .ref 29, .int y3]) (s1 := []) (h1 := hh S51) (p2 := 365) (L2 := [.ref 1000, .ref 0, .ref 29, .int y3]) (s2 := []) (h2 := hh S51) 1 (fun n => B_169_77 n y3 v51 v50 S51) c52 ?_
            obtain ⟨e1, e2⟩ := Prod.mk.inj (Option.some.inj hG)
            subst e1
            subst e2
            exact Ev.rg (c := (xm_z 169 = 0 ∨ (xm_z 169 = 1 ∧ ((0 : Int32) = 0 ∨ (0 : Int32) = 1)) ∨ (xm_z 169 = 2 ∧ ((0 : Int32)).toInt8.toInt32 = (0 : Int32)) ∨ (xm_z 169 = 3 ∧ ((0 : Int32)).toUInt32.toUInt16.toUInt32.toInt32 = (0 : Int32)))) 2 (fun n => rfl) (Or.inr (Or.inl ⟨rfl, by decide⟩))
        · rw [if_neg c49] at hG
          refine Ev.f (c := (X.2 ((y3 + 2)).toNatClampNeg) = 0) (p1 := 336) (L1 := [.ref 1000, .ref 0, .ref 29, .int y3]) (s1 := [.int (X.2 ((y3 + 1)).toNatClampNeg), .ref 0]) (h1 := hh S) (p2 := 332) (L2 := [.ref 1000, .ref 0, .ref 29, .int y3]) (s2 := [.int (X.2 ((y3 + 1)).toNatClampNeg), .ref 0]) (h2 := hh S) 1 (fun n => B_169_78 n y3 S) c49 ?_
          rcases h53 : G_108 S (X.2 ((y3 + 1)).toNatClampNeg) (1 : Int32) with _ | ⟨v53, S53⟩
          · rw [h53] at hG; cases hG
          rw [h53] at hG
          dsimp only at hG
          refine Ev.c (a := 108) (A := [.ref 0, .int (X.2 ((y3 + 1)).toNatClampNeg), .int 1]) (h1 := hh S) (pc' := 340) (L' := [.ref 1000, .ref 0, .ref 29, .int y3]) (rest := []) (r1 := some (.int v53)) (h2 := hh S53) 3 (fun n => B_169_79 n y3 S) (Ev.up (by decide) (T_108 S (X.2 ((y3 + 1)).toNatClampNeg) (1 : Int32) _ _ h53)) ?_
          show Ev X _ 169 340 [.ref 1000, .ref 0, .ref 29, .int y3] [.int v53] (hh S53) _
          refine Ev.g (c := xa_in (y3 + 1) X.1) (p1 := 346) (L1 := [.ref 1000, .ref 0, .ref 29, .int y3]) (s1 := [.int (X.2 ((y3 + 1)).toNatClampNeg), .ref 29, .int v53]) (h1 := hh S53) 6 (fun n => B_169_80 n y3 v53 S53) g47 ?_
          refine Ev.g (c := xa_in (y3 + 2) X.1) (p1 := 351) (L1 := [.ref 1000, .ref 0, .ref 29, .int y3]) (s1 := [.int (X.2 ((y3 + 2)).toNatClampNeg), .int (X.2 ((y3 + 1)).toNatClampNeg), .ref 29, .int v53]) (h1 := hh S53) 5 (fun n => B_169_81 n y3 v53 S53) g48 ?_
          refine Ev.f (c := (X.2 ((y3 + 2)).toNatClampNeg) = 0) (p1 := 358) (L1 := [.ref 1000, .ref 0, .ref 29, .int y3]) (s1 := [.int (X.2 ((y3 + 1)).toNatClampNeg), .ref 29, .int v53]) (h1 := hh S53) (p2 := 354) (L2 := [.ref 1000, .ref 0, .ref 29, .int y3]) (s2 := [.int (X.2 ((y3 + 1)).toNatClampNeg), .ref 29, .int v53]) (h2 := hh S53) 1 (fun n => B_169_82 n y3 v53 S53) c49 ?_
          rcases h54 : G_161 S53 (X.2 ((y3 + 1)).toNatClampNeg) (1 : Int32) with _ | ⟨v54, S54⟩
          · rw [h54] at hG; cases hG
          rw [h54] at hG
          dsimp only at hG
          refine Ev.c (a := 161) (A := [.ref 29, .int (X.2 ((y3 + 1)).toNatClampNeg), .int 1]) (h1 := hh S53) (pc' := 362) (L' := [.ref 1000, .ref 0, .ref 29, .int y3]) (rest := [.int v53]) (r1 := some (.int v54)) (h2 := hh S54) 3 (fun n => B_169_83 n y3 v53 S53) (Ev.up (by decide) (T_161 S53 (X.2 ((y3 + 1)).toNatClampNeg) (1 : Int32) _ _ h54)) ?_
          show Ev X _ 169 362 [.ref 1000, .ref 0, .ref 29, .int y3] [.int v54, .int v53] (hh S54) _
          by_cases c55 : v53 = v54
          · rw [if_pos c55] at hG
            refine Ev.t (c := v53 = v54) (p1 := 476) (L1 := [.ref 1000, .ref 0, .ref 29, .int y3]) (s1 := []) (h1 := hh S54) (p2 := 365) (L2 := [.ref 1000, .ref 0, .ref 29, .int y3]) (s2 := []) (h2 := hh S54) 1 (fun n => B_169_84 n y3 v54 v53 S54) c55 ?_
            exact Ev.b (pc' := 28) (L' := [.ref 1000, .ref 0, .ref 29, .int (y3 + 4)]) (st' := []) (h' := hh S54) 2 (fun n => B_169_85 n y3 S54) (ih S54 (y3 + 4) _ _ hG)
          · rw [if_neg c55] at hG
            refine Ev.f (c := v53 = v54) (p1 := 476) (L1 := [.ref 1000, .ref 0, .ref 29, .int y3]) (s1 := []) (h1 := hh S54) (p2 := 365) (L2 := [.ref 1000, .ref 0, .ref 29, .int y3]) (s2 := []) (h2 := hh S54) 1 (fun n => B_169_86 n y3 v54 v53 S54) c55 ?_
            obtain ⟨e1, e2⟩ := Prod.mk.inj (Option.some.inj hG)
            subst e1
            subst e2
            exact Ev.rg (c := (xm_z 169 = 0 ∨ (xm_z 169 = 1 ∧ ((0 : Int32) = 0 ∨ (0 : Int32) = 1)) ∨ (xm_z 169 = 2 ∧ ((0 : Int32)).toInt8.toInt32 = (0 : Int32)) ∨ (xm_z 169 = 3 ∧ ((0 : Int32)).toUInt32.toUInt16.toUInt32.toInt32 = (0 : Int32)))) 2 (fun n => rfl) (Or.inr (Or.inl ⟨rfl, by decide⟩))
      rw [if_neg c46] at hG
      rw [xa_sw, if_neg c46]
      by_cases c56 : ((X.2 (y3).toNatClampNeg) &&& 15) = 9
      · rw [if_pos c56] at hG
        rw [xa_sw, if_pos c56]
        show Ev X _ 169 367 [.ref 1000, .ref 0, .ref 29, .int y3] [] (hh S) _
        by_cases g57 : xa_in (y3 + 1) X.1
        rotate_left
        · rw [if_neg g57] at hG; cases hG
        rw [if_pos g57] at hG
        refine Ev.g (c := xa_in (y3 + 1) X.1) (p1 := 373) (L1 := [.ref 1000, .ref 0, .ref 29, .int y3]) (s1 := [.int (X.2 ((y3 + 1)).toNatClampNeg), .ref 0]) (h1 := hh S) 6 (fun n => B_169_87 n y3 S) g57 ?_
        by_cases g58 : xa_in (y3 + 2) X.1
        rotate_left
        · rw [if_neg g58] at hG; cases hG
        rw [if_pos g58] at hG
        refine Ev.g (c := xa_in (y3 + 2) X.1) (p1 := 378) (L1 := [.ref 1000, .ref 0, .ref 29, .int y3]) (s1 := [.int (X.2 ((y3 + 2)).toNatClampNeg), .int (X.2 ((y3 + 1)).toNatClampNeg), .ref 0]) (h1 := hh S) 5 (fun n => B_169_88 n y3 S) g58 ?_
        rcases h59 : G_109 S (X.2 ((y3 + 1)).toNatClampNeg) (X.2 ((y3 + 2)).toNatClampNeg) with _ | ⟨v59, S59⟩
        · rw [h59] at hG; cases hG
        rw [h59] at hG
        dsimp only at hG
        refine Ev.c (a := 109) (A := [.ref 0, .int (X.2 ((y3 + 1)).toNatClampNeg), .int (X.2 ((y3 + 2)).toNatClampNeg), .retAddr 0]) (h1 := hh S) (pc' := 381) (L' := [.ref 1000, .ref 0, .ref 29, .int y3]) (rest := []) (r1 := some (.int v59)) (h2 := hh S59) 1 (fun n => B_169_89 n y3 S) (Ev.up (by decide) (T_109 S (X.2 ((y3 + 1)).toNatClampNeg) (X.2 ((y3 + 2)).toNatClampNeg) _ _ h59)) ?_
        show Ev X _ 169 381 [.ref 1000, .ref 0, .ref 29, .int y3] [.int v59] (hh S59) _
        refine Ev.g (c := xa_in (y3 + 1) X.1) (p1 := 387) (L1 := [.ref 1000, .ref 0, .ref 29, .int y3]) (s1 := [.int (X.2 ((y3 + 1)).toNatClampNeg), .ref 29, .int v59]) (h1 := hh S59) 6 (fun n => B_169_90 n y3 v59 S59) g57 ?_
        refine Ev.g (c := xa_in (y3 + 2) X.1) (p1 := 392) (L1 := [.ref 1000, .ref 0, .ref 29, .int y3]) (s1 := [.int (X.2 ((y3 + 2)).toNatClampNeg), .int (X.2 ((y3 + 1)).toNatClampNeg), .ref 29, .int v59]) (h1 := hh S59) 5 (fun n => B_169_91 n y3 v59 S59) g58 ?_
        rcases h60 : G_162 S59 (X.2 ((y3 + 1)).toNatClampNeg) (X.2 ((y3 + 2)).toNatClampNeg) with _ | ⟨v60, S60⟩
        · rw [h60] at hG; cases hG
        rw [h60] at hG
        dsimp only at hG
        refine Ev.c (a := 162) (A := [.ref 29, .int (X.2 ((y3 + 1)).toNatClampNeg), .int (X.2 ((y3 + 2)).toNatClampNeg)]) (h1 := hh S59) (pc' := 395) (L' := [.ref 1000, .ref 0, .ref 29, .int y3]) (rest := [.int v59]) (r1 := some (.int v60)) (h2 := hh S60) 1 (fun n => B_169_92 n y3 v59 S59) (Ev.up (by decide) (T_162 S59 (X.2 ((y3 + 1)).toNatClampNeg) (X.2 ((y3 + 2)).toNatClampNeg) _ _ h60)) ?_
        show Ev X _ 169 395 [.ref 1000, .ref 0, .ref 29, .int y3] [.int v60, .int v59] (hh S60) _
        by_cases c61 : v59 = v60
        · rw [if_pos c61] at hG
          refine Ev.t (c := v59 = v60) (p1 := 476) (L1 := [.ref 1000, .ref 0, .ref 29, .int y3]) (s1 := []) (h1 := hh S60) (p2 := 398) (L2 := [.ref 1000, .ref 0, .ref 29, .int y3]) (s2 := []) (h2 := hh S60) 1 (fun n => B_169_93 n y3 v60 v59 S60) c61 ?_
          exact Ev.b (pc' := 28) (L' := [.ref 1000, .ref 0, .ref 29, .int (y3 + 4)]) (st' := []) (h' := hh S60) 2 (fun n => B_169_94 n y3 S60) (ih S60 (y3 + 4) _ _ hG)
        · rw [if_neg c61] at hG
          refine Ev.f (c := v59 = v60) (p1 := 476) (L1 := [.ref 1000, .ref 0, .ref 29, .int y3]) (s1 := []) (h1 := hh S60) (p2 := 398) (L2 := [.ref 1000, .ref 0, .ref 29, .int y3]) (s2 := []) (h2 := hh S60) 1 (fun n => B_169_95 n y3 v60 v59 S60) c61 ?_
          obtain ⟨e1, e2⟩ := Prod.mk.inj (Option.some.inj hG)
          subst e1
          subst e2
          exact Ev.rg (c := (xm_z 169 = 0 ∨ (xm_z 169 = 1 ∧ ((0 : Int32) = 0 ∨ (0 : Int32) = 1)) ∨ (xm_z 169 = 2 ∧ ((0 : Int32)).toInt8.toInt32 = (0 : Int32)) ∨ (xm_z 169 = 3 ∧ ((0 : Int32)).toUInt32.toUInt16.toUInt32.toInt32 = (0 : Int32)))) 2 (fun n => rfl) (Or.inr (Or.inl ⟨rfl, by decide⟩))
      rw [if_neg c56] at hG
      rw [xa_sw, if_neg c56]
      by_cases c62 : ((X.2 (y3).toNatClampNeg) &&& 15) = 10
      · rw [if_pos c62] at hG
        rw [xa_sw, if_pos c62]
        show Ev X _ 169 400 [.ref 1000, .ref 0, .ref 29, .int y3] [] (hh S) _
        by_cases g63 : xa_in (y3 + 1) X.1
        rotate_left
        · rw [if_neg g63] at hG; cases hG
        rw [if_pos g63] at hG
        refine Ev.g (c := xa_in (y3 + 1) X.1) (p1 := 406) (L1 := [.ref 1000, .ref 0, .ref 29, .int y3]) (s1 := [.int (X.2 ((y3 + 1)).toNatClampNeg), .ref 0]) (h1 := hh S) 6 (fun n => B_169_96 n y3 S) g63 ?_
        by_cases g64 : xa_in (y3 + 2) X.1
        rotate_left
        · rw [if_neg g64] at hG; cases hG
        rw [if_pos g64] at hG
        refine Ev.g (c := xa_in (y3 + 2) X.1) (p1 := 411) (L1 := [.ref 1000, .ref 0, .ref 29, .int y3]) (s1 := [.int (X.2 ((y3 + 2)).toNatClampNeg), .int (X.2 ((y3 + 1)).toNatClampNeg), .ref 0]) (h1 := hh S) 5 (fun n => B_169_97 n y3 S) g64 ?_
        by_cases g65 : xa_in (y3 + 3) X.1
        rotate_left
        · rw [if_neg g65] at hG; cases hG
        rw [if_pos g65] at hG
        refine Ev.g (c := xa_in (y3 + 3) X.1) (p1 := 416) (L1 := [.ref 1000, .ref 0, .ref 29, .int y3]) (s1 := [.int (X.2 ((y3 + 3)).toNatClampNeg), .int (X.2 ((y3 + 2)).toNatClampNeg), .int (X.2 ((y3 + 1)).toNatClampNeg), .ref 0]) (h1 := hh S) 5 (fun n => B_169_98 n y3 S) g65 ?_
        rcases h66 : G_110 S (X.2 ((y3 + 1)).toNatClampNeg) (X.2 ((y3 + 2)).toNatClampNeg) (X.2 ((y3 + 3)).toNatClampNeg) with _ | ⟨v66, S66⟩
        · rw [h66] at hG; cases hG
        rw [h66] at hG
        dsimp only at hG
        refine Ev.c (a := 110) (A := [.ref 0, .int (X.2 ((y3 + 1)).toNatClampNeg), .int (X.2 ((y3 + 2)).toNatClampNeg), .int (X.2 ((y3 + 3)).toNatClampNeg)]) (h1 := hh S) (pc' := 419) (L' := [.ref 1000, .ref 0, .ref 29, .int y3]) (rest := []) (r1 := some (.int v66)) (h2 := hh S66) 1 (fun n => B_169_99 n y3 S) (Ev.up (by decide) (T_110 S (X.2 ((y3 + 1)).toNatClampNeg) (X.2 ((y3 + 2)).toNatClampNeg) (X.2 ((y3 + 3)).toNatClampNeg) _ _ h66)) ?_
        show Ev X _ 169 419 [.ref 1000, .ref 0, .ref 29, .int y3] [.int v66] (hh S66) _
        refine Ev.g (c := xa_in (y3 + 1) X.1) (p1 := 425) (L1 := [.ref 1000, .ref 0, .ref 29, .int y3]) (s1 := [.int (X.2 ((y3 + 1)).toNatClampNeg), .ref 29, .int v66]) (h1 := hh S66) 6 (fun n => B_169_100 n y3 v66 S66) g63 ?_
        refine Ev.g (c := xa_in (y3 + 2) X.1) (p1 := 430) (L1 := [.ref 1000, .ref 0, .ref 29, .int y3]) (s1 := [.int (X.2 ((y3 + 2)).toNatClampNeg), .int (X.2 ((y3 + 1)).toNatClampNeg), .ref 29, .int v66]) (h1 := hh S66) 5 (fun n => B_169_101 n y3 v66 S66) g64 ?_
        refine Ev.g (c := xa_in (y3 + 3) X.1) (p1 := 435) (L1 := [.ref 1000, .ref 0, .ref 29, .int y3]) (s1 := [.int (X.2 ((y3 + 3)).toNatClampNeg), .int (X.2 ((y3 + 2)).toNatClampNeg), .int (X.2 ((y3 + 1)).toNatClampNeg), .ref 29, .int v66]) (h1 := hh S66) 5 (fun n => B_169_102 n y3 v66 S66) g65 ?_
        rcases h67 : G_163 S66 (X.2 ((y3 + 1)).toNatClampNeg) (X.2 ((y3 + 2)).toNatClampNeg) (X.2 ((y3 + 3)).toNatClampNeg) with _ | ⟨v67, S67⟩
        · rw [h67] at hG; cases hG
        rw [h67] at hG
        dsimp only at hG
        refine Ev.c (a := 163) (A := [.ref 29, .int (X.2 ((y3 + 1)).toNatClampNeg), .int (X.2 ((y3 + 2)).toNatClampNeg), .int (X.2 ((y3 + 3)).toNatClampNeg)]) (h1 := hh S66) (pc' := 438) (L' := [.ref 1000, .ref 0, .ref 29, .int y3]) (rest := [.int v66]) (r1 := some (.int v67)) (h2 := hh S67) 1 (fun n => B_169_103 n y3 v66 S66) (Ev.up (by decide) (T_163 S66 (X.2 ((y3 + 1)).toNatClampNeg) (X.2 ((y3 + 2)).toNatClampNeg) (X.2 ((y3 + 3)).toNatClampNeg) _ _ h67)) ?_
        show Ev X _ 169 438 [.ref 1000, .ref 0, .ref 29, .int y3] [.int v67, .int v66] (hh S67) _
        by_cases c68 : v66 = v67
        · rw [if_pos c68] at hG
          refine Ev.t (c := v66 = v67) (p1 := 476) (L1 := [.ref 1000, .ref 0, .ref 29, .int y3]) (s1 := []) (h1 := hh S67) (p2 := 441) (L2 := [.ref 1000, .ref 0, .ref 29, .int y3]) (s2 := []) (h2 := hh S67) 1 (fun n => B_169_104 n y3 v67 v66 S67) c68 ?_
          exact Ev.b (pc' := 28) (L' := [.ref 1000, .ref 0, .ref 29, .int (y3 + 4)]) (st' := []) (h' := hh S67) 2 (fun n => B_169_105 n y3 S67) (ih S67 (y3 + 4) _ _ hG)
        · rw [if_neg c68] at hG
          refine Ev.f (c := v66 = v67) (p1 := 476) (L1 := [.ref 1000, .ref 0, .ref 29, .int y3]) (s1 := []) (h1 := hh S67) (p2 := 441) (L2 := [.ref 1000, .ref 0, .ref 29, .int y3]) (s2 := []) (h2 := hh S67) 1 (fun n => B_169_106 n y3 v67 v66 S67) c68 ?_
          obtain ⟨e1, e2⟩ := Prod.mk.inj (Option.some.inj hG)
          subst e1
          subst e2
          exact Ev.rg (c := (xm_z 169 = 0 ∨ (xm_z 169 = 1 ∧ ((0 : Int32) = 0 ∨ (0 : Int32) = 1)) ∨ (xm_z 169 = 2 ∧ ((0 : Int32)).toInt8.toInt32 = (0 : Int32)) ∨ (xm_z 169 = 3 ∧ ((0 : Int32)).toUInt32.toUInt16.toUInt32.toInt32 = (0 : Int32)))) 2 (fun n => rfl) (Or.inr (Or.inl ⟨rfl, by decide⟩))
      rw [if_neg c62] at hG
      rw [xa_sw, if_neg c62]
      by_cases c69 : ((X.2 (y3).toNatClampNeg) &&& 15) = 11
      · rw [if_pos c69] at hG
        rw [xa_sw, if_pos c69]
        show Ev X _ 169 443 [.ref 1000, .ref 0, .ref 29, .int y3] [] (hh S) _
        by_cases g70 : xa_in (y3 + 1) X.1
        rotate_left
        · rw [if_neg g70] at hG; cases hG
        rw [if_pos g70] at hG
        refine Ev.g (c := xa_in (y3 + 1) X.1) (p1 := 449) (L1 := [.ref 1000, .ref 0, .ref 29, .int y3]) (s1 := [.int (X.2 ((y3 + 1)).toNatClampNeg), .ref 0]) (h1 := hh S) 6 (fun n => B_169_107 n y3 S) g70 ?_
        by_cases g71 : xa_in (y3 + 2) X.1
        rotate_left
        · rw [if_neg g71] at hG; cases hG
        rw [if_pos g71] at hG
        refine Ev.g (c := xa_in (y3 + 2) X.1) (p1 := 454) (L1 := [.ref 1000, .ref 0, .ref 29, .int y3]) (s1 := [.int (X.2 ((y3 + 2)).toNatClampNeg), .int (X.2 ((y3 + 1)).toNatClampNeg), .ref 0]) (h1 := hh S) 5 (fun n => B_169_108 n y3 S) g71 ?_
        rcases h72 : G_111 S (X.2 ((y3 + 1)).toNatClampNeg) (X.2 ((y3 + 2)).toNatClampNeg) with _ | ⟨v72, S72⟩
        · rw [h72] at hG; cases hG
        rw [h72] at hG
        dsimp only at hG
        refine Ev.c (a := 111) (A := [.ref 0, .int (X.2 ((y3 + 1)).toNatClampNeg), .int (X.2 ((y3 + 2)).toNatClampNeg), .retAddr 0]) (h1 := hh S) (pc' := 457) (L' := [.ref 1000, .ref 0, .ref 29, .int y3]) (rest := []) (r1 := some (.int v72)) (h2 := hh S72) 1 (fun n => B_169_109 n y3 S) (Ev.up (by decide) (T_111 S (X.2 ((y3 + 1)).toNatClampNeg) (X.2 ((y3 + 2)).toNatClampNeg) _ _ h72)) ?_
        show Ev X _ 169 457 [.ref 1000, .ref 0, .ref 29, .int y3] [.int v72] (hh S72) _
        refine Ev.g (c := xa_in (y3 + 1) X.1) (p1 := 463) (L1 := [.ref 1000, .ref 0, .ref 29, .int y3]) (s1 := [.int (X.2 ((y3 + 1)).toNatClampNeg), .ref 29, .int v72]) (h1 := hh S72) 6 (fun n => B_169_110 n y3 v72 S72) g70 ?_
        refine Ev.g (c := xa_in (y3 + 2) X.1) (p1 := 468) (L1 := [.ref 1000, .ref 0, .ref 29, .int y3]) (s1 := [.int (X.2 ((y3 + 2)).toNatClampNeg), .int (X.2 ((y3 + 1)).toNatClampNeg), .ref 29, .int v72]) (h1 := hh S72) 5 (fun n => B_169_111 n y3 v72 S72) g71 ?_
        rcases h73 : G_164 S72 (X.2 ((y3 + 1)).toNatClampNeg) (X.2 ((y3 + 2)).toNatClampNeg) with _ | ⟨v73, S73⟩
        · rw [h73] at hG; cases hG
        rw [h73] at hG
        dsimp only at hG
        refine Ev.c (a := 164) (A := [.ref 29, .int (X.2 ((y3 + 1)).toNatClampNeg), .int (X.2 ((y3 + 2)).toNatClampNeg), .retAddr 0, .retAddr 0, .retAddr 0, .retAddr 0]) (h1 := hh S72) (pc' := 471) (L' := [.ref 1000, .ref 0, .ref 29, .int y3]) (rest := [.int v72]) (r1 := some (.int v73)) (h2 := hh S73) 1 (fun n => B_169_112 n y3 v72 S72) (Ev.up (by decide) (T_164 S72 (X.2 ((y3 + 1)).toNatClampNeg) (X.2 ((y3 + 2)).toNatClampNeg) _ _ h73)) ?_
        show Ev X _ 169 471 [.ref 1000, .ref 0, .ref 29, .int y3] [.int v73, .int v72] (hh S73) _
        by_cases c74 : v72 = v73
        · rw [if_pos c74] at hG
          refine Ev.t (c := v72 = v73) (p1 := 476) (L1 := [.ref 1000, .ref 0, .ref 29, .int y3]) (s1 := []) (h1 := hh S73) (p2 := 474) (L2 := [.ref 1000, .ref 0, .ref 29, .int y3]) (s2 := []) (h2 := hh S73) 1 (fun n => B_169_113 n y3 v73 v72 S73) c74 ?_
          exact Ev.b (pc' := 28) (L' := [.ref 1000, .ref 0, .ref 29, .int (y3 + 4)]) (st' := []) (h' := hh S73) 2 (fun n => B_169_114 n y3 S73) (ih S73 (y3 + 4) _ _ hG)
        · rw [if_neg c74] at hG
          refine Ev.f (c := v72 = v73) (p1 := 476) (L1 := [.ref 1000, .ref 0, .ref 29, .int y3]) (s1 := []) (h1 := hh S73) (p2 := 474) (L2 := [.ref 1000, .ref 0, .ref 29, .int y3]) (s2 := []) (h2 := hh S73) 1 (fun n => B_169_115 n y3 v73 v72 S73) c74 ?_
          obtain ⟨e1, e2⟩ := Prod.mk.inj (Option.some.inj hG)
          subst e1
          subst e2
          exact Ev.rg (c := (xm_z 169 = 0 ∨ (xm_z 169 = 1 ∧ ((0 : Int32) = 0 ∨ (0 : Int32) = 1)) ∨ (xm_z 169 = 2 ∧ ((0 : Int32)).toInt8.toInt32 = (0 : Int32)) ∨ (xm_z 169 = 3 ∧ ((0 : Int32)).toUInt32.toUInt16.toUInt32.toInt32 = (0 : Int32)))) 2 (fun n => rfl) (Or.inr (Or.inl ⟨rfl, by decide⟩))
      rw [if_neg c69] at hG
      rw [xa_sw, if_neg c69]
      rw [xa_sw]
      show Ev X _ 169 476 [.ref 1000, .ref 0, .ref 29, .int y3] [] (hh S) _
      exact Ev.b (pc' := 28) (L' := [.ref 1000, .ref 0, .ref 29, .int (y3 + 4)]) (st' := []) (h' := hh S) 2 (fun n => B_169_116 n y3 S) (ih S (y3 + 4) _ _ hG)
