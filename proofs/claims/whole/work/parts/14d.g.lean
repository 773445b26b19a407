/-- 77: SceneCycle$Runner.changeValue(LSceneCycle$World;I)V -/
def G_77 (S : St) (x2 : Int32) : Option (Unit × St) :=
  (match G_76 S with
  | none => none
  | some (v1, S1) =>
    (match G_76 S1 with
    | none => none
    | some (v2, S2) =>
      (if x2 = 1 then
        (match G_51 S2 v1 v2 with
        | none => none
        | some (v4, S4) =>
          some ((), S4)
        )
      else
        (if x2 = 2 then
          (match G_52 S2 v1 with
          | none => none
          | some (v6, S6) =>
            (match G_51 S6 v1 ((v6 + v2) - (v6 + v2) / 256 * 256) with
            | none => none
            | some (v7, S7) =>
              some ((), S7)
            )
          )
        else
          (match G_52 S2 v2 with
          | none => none
          | some (v8, S8) =>
            (match G_51 S8 v1 v8 with
            | none => none
            | some (v9, S9) =>
              some ((), S9)
            )
          )
        )
      )
    )
  )
theorem B_77_1 {X : Nat × (Nat → Int32)} {d : Nat} (n : Nat) (x2 : Int32) (S : St) : ex X (d + 1) 77 0 [.ref 23, .ref 1, .int x2, .retAddr 0, .retAddr 0] [] (hh S) (n + 2) = (match ex X d 76 0 [.ref 23, .retAddr 0] [] (hh S) n with | some (v, h') => ex X (d + 1) 77 4 [.ref 23, .ref 1, .int x2, .retAddr 0, .retAddr 0] (v.toList ++ []) h' n | none => none) := rfl
theorem B_77_2 {X : Nat × (Nat → Int32)} {d : Nat} (n : Nat) (x2 : Int32) (v1 : Int32) (S1 : St) : ex X (d + 1) 77 4 [.ref 23, .ref 1, .int x2, .retAddr 0, .retAddr 0] [.int v1] (hh S1) (n + 3) = (match ex X d 76 0 [.ref 23, .retAddr 0] [] (hh S1) n with | some (v, h') => ex X (d + 1) 77 9 [.ref 23, .ref 1, .int x2, .int v1, .retAddr 0] (v.toList ++ []) h' n | none => none) := rfl
theorem B_77_3 {X : Nat × (Nat → Int32)} {d : Nat} (n : Nat) (x2 : Int32) (v1 : Int32) (v2 : Int32) (S2 : St) : ex X d 77 9 [.ref 23, .ref 1, .int x2, .int v1, .retAddr 0] [.int v2] (hh S2) (n + 4) = if x2 = 1 then ex X d 77 16 [.ref 23, .ref 1, .int x2, .int v1, .int v2] [] (hh S2) n else ex X d 77 27 [.ref 23, .ref 1, .int x2, .int v1, .int v2] [] (hh S2) n := rfl
theorem B_77_4 {X : Nat × (Nat → Int32)} {d : Nat} (n : Nat) (x2 : Int32) (v1 : Int32) (v2 : Int32) (S2 : St) : ex X (d + 1) 77 16 [.ref 23, .ref 1, .int x2, .int v1, .int v2] [] (hh S2) (n + 4) = (match ex X d 51 0 [.ref 1, .int v1, .int v2] [] (hh S2) n with | some (v, h') => ex X (d + 1) 77 23 [.ref 23, .ref 1, .int x2, .int v1, .int v2] (v.toList ++ []) h' n | none => none) := rfl
theorem B_77_5 {X : Nat × (Nat → Int32)} {d : Nat} (n : Nat) (x2 : Int32) (v1 : Int32) (v2 : Int32) (S2 : St) : ex X d 77 9 [.ref 23, .ref 1, .int x2, .int v1, .retAddr 0] [.int v2] (hh S2) (n + 4) = if x2 = 1 then ex X d 77 16 [.ref 23, .ref 1, .int x2, .int v1, .int v2] [] (hh S2) n else ex X d 77 27 [.ref 23, .ref 1, .int x2, .int v1, .int v2] [] (hh S2) n := rfl
theorem B_77_6 {X : Nat × (Nat → Int32)} {d : Nat} (n : Nat) (x2 : Int32) (v1 : Int32) (v2 : Int32) (S2 : St) : ex X d 77 27 [.ref 23, .ref 1, .int x2, .int v1, .int v2] [] (hh S2) (n + 3) = if x2 = 2 then ex X d 77 32 [.ref 23, .ref 1, .int x2, .int v1, .int v2] [] (hh S2) n else ex X d 77 53 [.ref 23, .ref 1, .int x2, .int v1, .int v2] [] (hh S2) n := rfl
theorem B_77_7 {X : Nat × (Nat → Int32)} {d : Nat} (n : Nat) (x2 : Int32) (v1 : Int32) (v2 : Int32) (S2 : St) : ex X (d + 1) 77 32 [.ref 23, .ref 1, .int x2, .int v1, .int v2] [] (hh S2) (n + 5) = (match ex X d 52 0 [.ref 1, .int v1] [] (hh S2) n with | some (v, h') => ex X (d + 1) 77 39 [.ref 23, .ref 1, .int x2, .int v1, .int v2] (v.toList ++ [.int v1, .ref 1]) h' n | none => none) := rfl
theorem B_77_8 {X : Nat × (Nat → Int32)} {d : Nat} (n : Nat) (x2 : Int32) (v1 : Int32) (v2 : Int32) (v6 : Int32) (S6 : St) : ex X d 77 39 [.ref 23, .ref 1, .int x2, .int v1, .int v2] [.int v6, .int v1, .ref 1] (hh S6) (n + 4) = if (256 : Int32) = 0 then none else ex X d 77 46 [.ref 23, .ref 1, .int x2, .int v1, .int v2] [.int ((v6 + v2) - (v6 + v2) / 256 * 256), .int v1, .ref 1] (hh S6) n := rfl
theorem B_77_9 {X : Nat × (Nat → Int32)} {d : Nat} (n : Nat) (x2 : Int32) (v1 : Int32) (v2 : Int32) (v6 : Int32) (S6 : St) : ex X (d + 1) 77 46 [.ref 23, .ref 1, .int x2, .int v1, .int v2] [.int ((v6 + v2) - (v6 + v2) / 256 * 256), .int v1, .ref 1] (hh S6) (n + 1) = (match ex X d 51 0 [.ref 1, .int v1, .int ((v6 + v2) - (v6 + v2) / 256 * 256)] [] (hh S6) n with | some (v, h') => ex X (d + 1) 77 49 [.ref 23, .ref 1, .int x2, .int v1, .int v2] (v.toList ++ []) h' n | none => none) := rfl
theorem B_77_10 {X : Nat × (Nat → Int32)} {d : Nat} (n : Nat) (x2 : Int32) (v1 : Int32) (v2 : Int32) (S2 : St) : ex X d 77 27 [.ref 23, .ref 1, .int x2, .int v1, .int v2] [] (hh S2) (n + 3) = if x2 = 2 then ex X d 77 32 [.ref 23, .ref 1, .int x2, .int v1, .int v2] [] (hh S2) n else ex X d 77 53 [.ref 23, .ref 1, .int x2, .int v1, .int v2] [] (hh S2) n := rfl
theorem B_77_11 {X : Nat × (Nat → Int32)} {d : Nat} (n : Nat) (x2 : Int32) (v1 : Int32) (v2 : Int32) (S2 : St) : ex X (d + 1) 77 53 [.ref 23, .ref 1, .int x2, .int v1, .int v2] [] (hh S2) (n + 5) = (match ex X d 52 0 [.ref 1, .int v2] [] (hh S2) n with | some (v, h') => ex X (d + 1) 77 61 [.ref 23, .ref 1, .int x2, .int v1, .int v2] (v.toList ++ [.int v1, .ref 1]) h' n | none => none) := rfl
theorem B_77_12 {X : Nat × (Nat → Int32)} {d : Nat} (n : Nat) (x2 : Int32) (v1 : Int32) (v2 : Int32) (v8 : Int32) (S8 : St) : ex X (d + 1) 77 61 [.ref 23, .ref 1, .int x2, .int v1, .int v2] [.int v8, .int v1, .ref 1] (hh S8) (n + 1) = (match ex X d 51 0 [.ref 1, .int v1, .int v8] [] (hh S8) n with | some (v, h') => ex X (d + 1) 77 64 [.ref 23, .ref 1, .int x2, .int v1, .int v2] (v.toList ++ []) h' n | none => none) := rfl
set_option maxRecDepth 200000 in
theorem T_77 {X : Nat × (Nat → Int32)} (S : St) (x2 : Int32) (r : Unit) (S' : St) (hG : G_77 S x2 = some (r, S')) : Ev X 2 77 0 [.ref 23, .ref 1, .int x2, .retAddr 0, .retAddr 0] [] (hh S) (xV r, hh S') := by
  unfold G_77 at hG
  rcases h1 : G_76 S with _ | ⟨v1, S1⟩
  · rw [h1] at hG; cases hG
  rw [h1] at hG
  dsimp only at hG
  refine Ev.c (a := 76) (A := [.ref 23, .retAddr 0]) (h1 := hh S) (pc' := 4) (L' := [.ref 23, .ref 1, .int x2, .retAddr 0, .retAddr 0]) (rest := []) (r1 := some (.int v1)) (h2 := hh S1) 2 (fun n => B_77_1 n x2 S) (Ev.up (by decide) (T_76 S  _ _ h1)) ?_
  show Ev X _ 77 4 [.ref 23, .ref 1, .int x2, .retAddr 0, .retAddr 0] [.int v1] (hh S1) _
  rcases h2 : G_76 S1 with _ | ⟨v2, S2⟩
  · rw [h2] at hG; cases hG
  rw [h2] at hG
  dsimp only at hG
  refine Ev.c (a := 76) (A := [.ref 23, .retAddr 0]) (h1 := hh S1) (pc' := 9) (L' := [.ref 23, .ref 1, .int x2, .int v1, .retAddr 0]) (rest := []) (r1 := some (.int v2)) (h2 := hh S2) 3 (fun n => B_77_2 n x2 v1 S1) (Ev.up (by decide) (T_76 S1  _ _ h2)) ?_
  show Ev X _ 77 9 [.ref 23, .ref 1, .int x2, .int v1, .retAddr 0] [.int v2] (hh S2) _
  by_cases c3 : x2 = 1
  · rw [if_pos c3] at hG
    refine Ev.t (c := x2 = 1) (p1 := 16) (L1 := [.ref 23, .ref 1, .int x2, .int v1, .int v2]) (s1 := []) (h1 := hh S2) (p2 := 27) (L2 := [.ref 23, .ref 1, .int x2, .int v1, .int v2]) (s2 := []) (h2 := hh S2) 4 (fun n => B_77_3 n x2 v1 v2 S2) c3 ?_
    rcases h4 : G_51 S2 v1 v2 with _ | ⟨v4, S4⟩
    · rw [h4] at hG; cases hG
    rw [h4] at hG
    dsimp only at hG
    refine Ev.c (a := 51) (A := [.ref 1, .int v1, .int v2]) (h1 := hh S2) (pc' := 23) (L' := [.ref 23, .ref 1, .int x2, .int v1, .int v2]) (rest := []) (r1 := some (.int v4)) (h2 := hh S4) 4 (fun n => B_77_4 n x2 v1 v2 S2) (Ev.up (by decide) (T_51 S2 v1 v2 _ _ h4)) ?_
    show Ev X _ 77 23 [.ref 23, .ref 1, .int x2, .int v1, .int v2] [.int v4] (hh S4) _
    obtain ⟨e1, e2⟩ := Prod.mk.inj (Option.some.inj hG)
    subst e1
    subst e2
    exact Ev.r 3 (fun n => rfl)
  · rw [if_neg c3] at hG
    refine Ev.f (c := x2 = 1) (p1 := 16) (L1 := [.ref 23, .ref 1, .int x2, .int v1, .int v2]) (s1 := []) (h1 := hh S2) (p2 := 27) (L2 := [.ref 23, .ref 1, .int x2, .int v1, .int v2]) (s2 := []) (h2 := hh S2) 4 (fun n => B_77_5 n x2 v1 v2 S2) c3 ?_
    by_cases c5 : x2 = 2
    · rw [if_pos c5] at hG
      refine Ev.t (c := x2 = 2) (p1 := 32) (L1 := [.ref 23, .ref 1, .int x2, .int v1, .int v2]) (s1 := []) (h1 := hh S2) (p2 := 53) (L2 := [.ref 23, .ref 1, .int x2, .int v1, .int v2]) (s2 := []) (h2 := hh S2) 3 (fun n => B_77_6 n x2 v1 v2 S2) c5 ?_
      rcases h6 : G_52 S2 v1 with _ | ⟨v6, S6⟩
      · rw [h6] at hG; cases hG
      rw [h6] at hG
      dsimp only at hG
      refine Ev.c (a := 52) (A := [.ref 1, .int v1]) (h1 := hh S2) (pc' := 39) (L' := [.ref 23, .ref 1, .int x2, .int v1, .int v2]) (rest := [.int v1, .ref 1]) (r1 := some (.int v6)) (h2 := hh S6) 5 (fun n => B_77_7 n x2 v1 v2 S2) (Ev.up (by decide) (T_52 S2 v1 _ _ h6)) ?_
      show Ev X _ 77 39 [.ref 23, .ref 1, .int x2, .int v1, .int v2] [.int v6, .int v1, .ref 1] (hh S6) _
      refine Ev.z (c := (256 : Int32) = 0) (p1 := 46) (L1 := [.ref 23, .ref 1, .int x2, .int v1, .int v2]) (s1 := [.int ((v6 + v2) - (v6 + v2) / 256 * 256), .int v1, .ref 1]) (h1 := hh S6) 4 (fun n => B_77_8 n x2 v1 v2 v6 S6) (by decide) ?_
      rcases h7 : G_51 S6 v1 ((v6 + v2) - (v6 + v2) / 256 * 256) with _ | ⟨v7, S7⟩
      · rw [h7] at hG; cases hG
      rw [h7] at hG
      dsimp only at hG
      refine Ev.c (a := 51) (A := [.ref 1, .int v1, .int ((v6 + v2) - (v6 + v2) / 256 * 256)]) (h1 := hh S6) (pc' := 49) (L' := [.ref 23, .ref 1, .int x2, .int v1, .int v2]) (rest := []) (r1 := some (.int v7)) (h2 := hh S7) 1 (fun n => B_77_9 n x2 v1 v2 v6 S6) (Ev.up (by decide) (T_51 S6 v1 ((v6 + v2) - (v6 + v2) / 256 * 256) _ _ h7)) ?_
      show Ev X _ 77 49 [.ref 23, .ref 1, .int x2, .int v1, .int v2] [.int v7] (hh S7) _
      obtain ⟨e1, e2⟩ := Prod.mk.inj (Option.some.inj hG)
      subst e1
      subst e2
      exact Ev.r 3 (fun n => rfl)
    · rw [if_neg c5] at hG
      refine Ev.f (c := x2 = 2) (p1 := 32) (L1 := [.ref 23, .ref 1, .int x2, .int v1, .int v2]) (s1 := []) (h1 := hh S2) (p2 := 53) (L2 := [.ref 23, .ref 1, .int x2, .int v1, .int v2]) (s2 := []) (h2 := hh S2) 3 (fun n => B_77_10 n x2 v1 v2 S2) c5 ?_
      rcases h8 : G_52 S2 v2 with _ | ⟨v8, S8⟩
      · rw [h8] at hG; cases hG
      rw [h8] at hG
      dsimp only at hG
      refine Ev.c (a := 52) (A := [.ref 1, .int v2]) (h1 := hh S2) (pc' := 61) (L' := [.ref 23, .ref 1, .int x2, .int v1, .int v2]) (rest := [.int v1, .ref 1]) (r1 := some (.int v8)) (h2 := hh S8) 5 (fun n => B_77_11 n x2 v1 v2 S2) (Ev.up (by decide) (T_52 S2 v2 _ _ h8)) ?_
      show Ev X _ 77 61 [.ref 23, .ref 1, .int x2, .int v1, .int v2] [.int v8, .int v1, .ref 1] (hh S8) _
      rcases h9 : G_51 S8 v1 v8 with _ | ⟨v9, S9⟩
      · rw [h9] at hG; cases hG
      rw [h9] at hG
      dsimp only at hG
      refine Ev.c (a := 51) (A := [.ref 1, .int v1, .int v8]) (h1 := hh S8) (pc' := 64) (L' := [.ref 23, .ref 1, .int x2, .int v1, .int v2]) (rest := []) (r1 := some (.int v9)) (h2 := hh S9) 1 (fun n => B_77_12 n x2 v1 v2 v8 S8) (Ev.up (by decide) (T_51 S8 v1 v8 _ _ h9)) ?_
      show Ev X _ 77 64 [.ref 23, .ref 1, .int x2, .int v1, .int v2] [.int v9] (hh S9) _
      obtain ⟨e1, e2⟩ := Prod.mk.inj (Option.some.inj hG)
      subst e1
      subst e2
      exact Ev.r 2 (fun n => rfl)
/-- 78: SceneCycle$Runner.enter(LSceneCycle$Resource;)I -/
def G_78 (S : St) (x1 : Nat) : Option (Int32 × St) :=
  (if (kd x1).1 = 10 + 1 then
    (if (S.1 x1 2) = 0 then
      some (0, S)
    else
      (if ((S.1 23 2) + 1) < 4 then
        (match S.2.1 with
        | none =>
          none
        | some a4 =>
          (if xa_in (S.1 23 2) 4 ∧ (kd a4).1 = 10 + 1 then
            (if xa_in (S.1 23 2) 4 then
              some (0, (xa_u (xa_u (xa_u S.1 25 (((S.1 23 2)).toNatClampNeg) (S.1 23 4)) 23 2 (((xa_u S.1 25 (((S.1 23 2)).toNatClampNeg) (S.1 23 4)) 23 2) + 1)) 23 4 0, some x1, (va_up S.2.2 ((S.1 23 2)).toNatClampNeg (some a4))))
            else none)
          else none)
        )
      else
        some ((-3), S)
      )
    )
  else none)
theorem B_78_1 {X : Nat × (Nat → Int32)} {d : Nat} (n : Nat) (x1 : Nat) (S : St) : ex X d 78 0 [.ref 23, .ref x1] [] (hh S) (n + 4) = if (kd x1).1 = 10 + 1 then ex X d 78 8 [.ref 23, .ref x1] [.int (S.1 x1 2)] (hh S) n else none := rfl
theorem B_78_2 {X : Nat × (Nat → Int32)} {d : Nat} (n : Nat) (x1 : Nat) (S : St) : ex X d 78 8 [.ref 23, .ref x1] [.int (S.1 x1 2)] (hh S) (n + 1) = if (S.1 x1 2) = 0 then ex X d 78 11 [.ref 23, .ref x1] [] (hh S) n else ex X d 78 13 [.ref 23, .ref x1] [] (hh S) n := rfl
theorem B_78_3 {X : Nat × (Nat → Int32)} {d : Nat} (n : Nat) (x1 : Nat) (S : St) : ex X d 78 8 [.ref 23, .ref x1] [.int (S.1 x1 2)] (hh S) (n + 1) = if (S.1 x1 2) = 0 then ex X d 78 11 [.ref 23, .ref x1] [] (hh S) n else ex X d 78 13 [.ref 23, .ref x1] [] (hh S) n := rfl
theorem B_78_4 {X : Nat × (Nat → Int32)} {d : Nat} (n : Nat) (x1 : Nat) (S : St) : ex X d 78 13 [.ref 23, .ref x1] [] (hh S) (n + 6) = if ((S.1 23 2) + 1) < 4 then ex X d 78 26 [.ref 23, .ref x1] [] (hh S) n else ex X d 78 23 [.ref 23, .ref x1] [] (hh S) n := rfl
theorem B_78_5 {X : Nat × (Nat → Int32)} {d : Nat} (n : Nat) (x1 : Nat) (S : St) : ex X d 78 26 [.ref 23, .ref x1] [] (hh S) (n + 6) = ex X d 78 38 [.ref 23, .ref x1] [va_rf S.2.1, .int (S.1 23 2), .ref 24] (hh S) n := rfl
theorem B_78_6 {X : Nat × (Nat → Int32)} {d : Nat} (n : Nat) (x1 : Nat) (a4 : Nat) (S : St) : ex X d 78 38 [.ref 23, .ref x1] [.ref a4, .int (S.1 23 2), .ref 24] (hh S) (n + 1) = if (2 ≤ (kd 24).1 ∧ (kd 24).1 < xo_n) ∧ xa_in (S.1 23 2) (kd 24).2 ∧ (kd a4).1 = 10 + xo_c (kd 24).1 then ex X d 78 39 [.ref 23, .ref x1] [] ((xL_s, xL_n, S.1, xa_u (RC S.2.1 S.2.2) 24 ((S.1 23 2)).toNatClampNeg (some a4))) n else none := rfl
theorem B_78_7 {X : Nat × (Nat → Int32)} {d : Nat} (n : Nat) (x1 : Nat) (S : St) (a4 : Nat) : ex X d 78 39 [.ref 23, .ref x1] [] (hh (S.1, S.2.1, (va_up S.2.2 ((S.1 23 2)).toNatClampNeg (some a4)))) (n + 7) = if (kd 25).1 = 0 ∧ xa_in (S.1 23 2) (kd 25).2 then ex X d 78 52 [.ref 23, .ref x1] [] (hh (xa_u S.1 25 (((S.1 23 2)).toNatClampNeg) (S.1 23 4), S.2.1, (va_up S.2.2 ((S.1 23 2)).toNatClampNeg (some a4)))) n else none := rfl
theorem B_78_8 {X : Nat × (Nat → Int32)} {d : Nat} (n : Nat) (x1 : Nat) (S : St) (a4 : Nat) : ex X d 78 52 [.ref 23, .ref x1] [] (hh (xa_u S.1 25 (((S.1 23 2)).toNatClampNeg) (S.1 23 4), S.2.1, (va_up S.2.2 ((S.1 23 2)).toNatClampNeg (some a4)))) (n + 6) = if (kd 23).1 = 10 + 6 ∧ (xf_k 6 2 = 0 ∨ (xf_k 6 2 = 1 ∧ ((((xa_u S.1 25 (((S.1 23 2)).toNatClampNeg) (S.1 23 4)) 23 2) + 1) = 0 ∨ (((xa_u S.1 25 (((S.1 23 2)).toNatClampNeg) (S.1 23 4)) 23 2) + 1) = 1))) then ex X d 78 62 [.ref 23, .ref x1] [] (hh (xa_u (xa_u S.1 25 (((S.1 23 2)).toNatClampNeg) (S.1 23 4)) 23 2 (((xa_u S.1 25 (((S.1 23 2)).toNatClampNeg) (S.1 23 4)) 23 2) + 1), S.2.1, (va_up S.2.2 ((S.1 23 2)).toNatClampNeg (some a4)))) n else none := rfl
theorem B_78_9 {X : Nat × (Nat → Int32)} {d : Nat} (n : Nat) (x1 : Nat) (S : St) (a4 : Nat) : ex X d 78 62 [.ref 23, .ref x1] [] (hh (xa_u (xa_u S.1 25 (((S.1 23 2)).toNatClampNeg) (S.1 23 4)) 23 2 (((xa_u S.1 25 (((S.1 23 2)).toNatClampNeg) (S.1 23 4)) 23 2) + 1), S.2.1, (va_up S.2.2 ((S.1 23 2)).toNatClampNeg (some a4)))) (n + 3) = ex X d 78 67 [.ref 23, .ref x1] [] ((xL_s, xL_n, xa_u (xa_u S.1 25 (((S.1 23 2)).toNatClampNeg) (S.1 23 4)) 23 2 (((xa_u S.1 25 (((S.1 23 2)).toNatClampNeg) (S.1 23 4)) 23 2) + 1), xa_u (RC S.2.1 (va_up S.2.2 ((S.1 23 2)).toNatClampNeg (some a4))) 23 3 (some x1))) n := rfl
theorem B_78_10 {X : Nat × (Nat → Int32)} {d : Nat} (n : Nat) (x1 : Nat) (S : St) (a4 : Nat) : ex X d 78 67 [.ref 23, .ref x1] [] (hh (xa_u (xa_u S.1 25 (((S.1 23 2)).toNatClampNeg) (S.1 23 4)) 23 2 (((xa_u S.1 25 (((S.1 23 2)).toNatClampNeg) (S.1 23 4)) 23 2) + 1), some x1, (va_up S.2.2 ((S.1 23 2)).toNatClampNeg (some a4)))) (n + 3) = if (kd 23).1 = 10 + 6 ∧ (xf_k 6 4 = 0 ∨ (xf_k 6 4 = 1 ∧ ((0 : Int32) = 0 ∨ (0 : Int32) = 1))) then ex X d 78 72 [.ref 23, .ref x1] [] (hh (xa_u (xa_u (xa_u S.1 25 (((S.1 23 2)).toNatClampNeg) (S.1 23 4)) 23 2 (((xa_u S.1 25 (((S.1 23 2)).toNatClampNeg) (S.1 23 4)) 23 2) + 1)) 23 4 0, some x1, (va_up S.2.2 ((S.1 23 2)).toNatClampNeg (some a4)))) n else none := rfl
theorem B_78_11 {X : Nat × (Nat → Int32)} {d : Nat} (n : Nat) (x1 : Nat) (S : St) : ex X d 78 13 [.ref 23, .ref x1] [] (hh S) (n + 6) = if ((S.1 23 2) + 1) < 4 then ex X d 78 26 [.ref 23, .ref x1] [] (hh S) n else ex X d 78 23 [.ref 23, .ref x1] [] (hh S) n := rfl
set_option maxRecDepth 200000 in
theorem T_78 {X : Nat × (Nat → Int32)} (S : St) (x1 : Nat) (r : Int32) (S' : St) (hG : G_78 S x1 = some (r, S')) : Ev X 0 78 0 [.ref 23, .ref x1] [] (hh S) (xI r, hh S') := by
  unfold G_78 at hG
  by_cases g1 : (kd x1).1 = 10 + 1
  rotate_left
  · rw [if_neg g1] at hG; cases hG
  rw [if_pos g1] at hG
  refine Ev.g (c := (kd x1).1 = 10 + 1) (p1 := 8) (L1 := [.ref 23, .ref x1]) (s1 := [.int (S.1 x1 2)]) (h1 := hh S) 4 (fun n => B_78_1 n x1 S) g1 ?_
  by_cases c2 : (S.1 x1 2) = 0
  · rw [if_pos c2] at hG
    refine Ev.t (c := (S.1 x1 2) = 0) (p1 := 11) (L1 := [.ref 23, .ref x1]) (s1 := []) (h1 := hh S) (p2 := 13) (L2 := [.ref 23, .ref x1]) (s2 := []) (h2 := hh S) 1 (fun n => B_78_2 n x1 S) c2 ?_
    obtain ⟨e1, e2⟩ := Prod.mk.inj (Option.some.inj hG)
    subst e1
    subst e2
    exact Ev.r 2 (fun n => rfl)
  · rw [if_neg c2] at hG
    refine Ev.f (c := (S.1 x1 2) = 0) (p1 := 11) (L1 := [.ref 23, .ref x1]) (s1 := []) (h1 := hh S) (p2 := 13) (L2 := [.ref 23, .ref x1]) (s2 := []) (h2 := hh S) 1 (fun n => B_78_3 n x1 S) c2 ?_
    by_cases c3 : ((S.1 23 2) + 1) < 4
    · rw [if_pos c3] at hG
      refine Ev.t (c := ((S.1 23 2) + 1) < 4) (p1 := 26) (L1 := [.ref 23, .ref x1]) (s1 := []) (h1 := hh S) (p2 := 23) (L2 := [.ref 23, .ref x1]) (s2 := []) (h2 := hh S) 6 (fun n => B_78_4 n x1 S) c3 ?_
      refine Ev.b (pc' := 38) (L' := [.ref 23, .ref x1]) (st' := [va_rf S.2.1, .int (S.1 23 2), .ref 24]) (h' := hh S) 6 (fun n => B_78_5 n x1 S) ?_
      rcases o5 : S.2.1 with _ | a4
      · rw [o5] at hG
        dsimp only at hG
        try rw [o5]
        show Ev X _ 78 38 [.ref 23, .ref x1] [.null, .int (S.1 23 2), .ref 24] (hh S) _
        cases hG
      · rw [o5] at hG
        dsimp only at hG
        try rw [o5]
        show Ev X _ 78 38 [.ref 23, .ref x1] [.ref a4, .int (S.1 23 2), .ref 24] (hh S) _
        by_cases g6 : xa_in (S.1 23 2) 4 ∧ (kd a4).1 = 10 + 1
        rotate_left
        · rw [if_neg g6] at hG; cases hG
        rw [if_pos g6] at hG
        refine Ev.g (c := (2 ≤ (kd 24).1 ∧ (kd 24).1 < xo_n) ∧ xa_in (S.1 23 2) (kd 24).2 ∧ (kd a4).1 = 10 + xo_c (kd 24).1) (p1 := 39) (L1 := [.ref 23, .ref x1]) (s1 := []) (h1 := (xL_s, xL_n, S.1, xa_u (RC S.2.1 S.2.2) 24 ((S.1 23 2)).toNatClampNeg (some a4))) 1 (fun n => B_78_6 n x1 a4 S) ⟨⟨by decide, by decide⟩, g6.1, g6.2⟩ ?_
        rw [RC_cs]
        show Ev X _ 78 39 [.ref 23, .ref x1] [] (hh (S.1, S.2.1, (va_up S.2.2 ((S.1 23 2)).toNatClampNeg (some a4)))) _
        by_cases g7 : xa_in (S.1 23 2) 4
        rotate_left
        · rw [if_neg g7] at hG; cases hG
        rw [if_pos g7] at hG
        refine Ev.g (c := (kd 25).1 = 0 ∧ xa_in (S.1 23 2) (kd 25).2) (p1 := 52) (L1 := [.ref 23, .ref x1]) (s1 := []) (h1 := hh (xa_u S.1 25 (((S.1 23 2)).toNatClampNeg) (S.1 23 4), S.2.1, (va_up S.2.2 ((S.1 23 2)).toNatClampNeg (some a4)))) 7 (fun n => B_78_7 n x1 S a4) (⟨rfl, g7⟩) ?_
        refine Ev.g (c := (kd 23).1 = 10 + 6 ∧ (xf_k 6 2 = 0 ∨ (xf_k 6 2 = 1 ∧ ((((xa_u S.1 25 (((S.1 23 2)).toNatClampNeg) (S.1 23 4)) 23 2) + 1) = 0 ∨ (((xa_u S.1 25 (((S.1 23 2)).toNatClampNeg) (S.1 23 4)) 23 2) + 1) = 1)))) (p1 := 62) (L1 := [.ref 23, .ref x1]) (s1 := []) (h1 := hh (xa_u (xa_u S.1 25 (((S.1 23 2)).toNatClampNeg) (S.1 23 4)) 23 2 (((xa_u S.1 25 (((S.1 23 2)).toNatClampNeg) (S.1 23 4)) 23 2) + 1), S.2.1, (va_up S.2.2 ((S.1 23 2)).toNatClampNeg (some a4)))) 6 (fun n => B_78_8 n x1 S a4) (⟨rfl, Or.inl rfl⟩) ?_
        refine Ev.b (pc' := 67) (L' := [.ref 23, .ref x1]) (st' := []) (h' := (xL_s, xL_n, xa_u (xa_u S.1 25 (((S.1 23 2)).toNatClampNeg) (S.1 23 4)) 23 2 (((xa_u S.1 25 (((S.1 23 2)).toNatClampNeg) (S.1 23 4)) 23 2) + 1), xa_u (RC S.2.1 (va_up S.2.2 ((S.1 23 2)).toNatClampNeg (some a4))) 23 3 (some x1))) 3 (fun n => B_78_9 n x1 S a4) ?_
        rw [RC_lg]
        show Ev X _ 78 67 [.ref 23, .ref x1] [] (hh (xa_u (xa_u S.1 25 (((S.1 23 2)).toNatClampNeg) (S.1 23 4)) 23 2 (((xa_u S.1 25 (((S.1 23 2)).toNatClampNeg) (S.1 23 4)) 23 2) + 1), some x1, (va_up S.2.2 ((S.1 23 2)).toNatClampNeg (some a4)))) _
        refine Ev.g (c := (kd 23).1 = 10 + 6 ∧ (xf_k 6 4 = 0 ∨ (xf_k 6 4 = 1 ∧ ((0 : Int32) = 0 ∨ (0 : Int32) = 1)))) (p1 := 72) (L1 := [.ref 23, .ref x1]) (s1 := []) (h1 := hh (xa_u (xa_u (xa_u S.1 25 (((S.1 23 2)).toNatClampNeg) (S.1 23 4)) 23 2 (((xa_u S.1 25 (((S.1 23 2)).toNatClampNeg) (S.1 23 4)) 23 2) + 1)) 23 4 0, some x1, (va_up S.2.2 ((S.1 23 2)).toNatClampNeg (some a4)))) 3 (fun n => B_78_10 n x1 S a4) (⟨rfl, Or.inl rfl⟩) ?_
        obtain ⟨e1, e2⟩ := Prod.mk.inj (Option.some.inj hG)
        subst e1
        subst e2
        try rw [o5]
        exact Ev.r 2 (fun n => rfl)
    · rw [if_neg c3] at hG
      refine Ev.f (c := ((S.1 23 2) + 1) < 4) (p1 := 26) (L1 := [.ref 23, .ref x1]) (s1 := []) (h1 := hh S) (p2 := 23) (L2 := [.ref 23, .ref x1]) (s2 := []) (h2 := hh S) 6 (fun n => B_78_11 n x1 S) c3 ?_
      obtain ⟨e1, e2⟩ := Prod.mk.inj (Option.some.inj hG)
      subst e1
      subst e2
      exact Ev.r 2 (fun n => rfl)
/-- 79: SceneCycle$Runner.jumpIf(ZI)V -/
def G_79 (S : St) (x1 : Int32) (x2 : Int32) : Option (Unit × St) :=
  (match G_76 S with
  | none => none
  | some (v1, S1) =>
    (if x1 = 0 then
      some ((), S1)
    else
      (if x2 = 7 then
        (match G_71 S1 v1 with
        | none => none
        | some (v4, S4) =>
          some ((), (xa_u S4.1 23 4 ((S1.1 23 4) + v4), S4.2.1, S4.2.2))
        )
      else
        some ((), (xa_u S1.1 23 4 ((S1.1 23 4) + v1), S1.2.1, S1.2.2))
      )
    )
  )
theorem B_79_1 {X : Nat × (Nat → Int32)} {d : Nat} (n : Nat) (x1 : Int32) (x2 : Int32) (S : St) : ex X (d + 1) 79 0 [.ref 23, .int x1, .int x2, .retAddr 0] [] (hh S) (n + 2) = (match ex X d 76 0 [.ref 23, .retAddr 0] [] (hh S) n with | some (v, h') => ex X (d + 1) 79 4 [.ref 23, .int x1, .int x2, .retAddr 0] (v.toList ++ []) h' n | none => none) := rfl
theorem B_79_2 {X : Nat × (Nat → Int32)} {d : Nat} (n : Nat) (x1 : Int32) (x2 : Int32) (v1 : Int32) (S1 : St) : ex X d 79 4 [.ref 23, .int x1, .int x2, .retAddr 0] [.int v1] (hh S1) (n + 3) = if x1 = 0 then ex X d 79 32 [.ref 23, .int x1, .int x2, .int v1] [] (hh S1) n else ex X d 79 9 [.ref 23, .int x1, .int x2, .int v1] [] (hh S1) n := rfl
theorem B_79_3 {X : Nat × (Nat → Int32)} {d : Nat} (n : Nat) (x1 : Int32) (x2 : Int32) (v1 : Int32) (S1 : St) : ex X d 79 4 [.ref 23, .int x1, .int x2, .retAddr 0] [.int v1] (hh S1) (n + 3) = if x1 = 0 then ex X d 79 32 [.ref 23, .int x1, .int x2, .int v1] [] (hh S1) n else ex X d 79 9 [.ref 23, .int x1, .int x2, .int v1] [] (hh S1) n := rfl
theorem B_79_4 {X : Nat × (Nat → Int32)} {d : Nat} (n : Nat) (x1 : Int32) (x2 : Int32) (v1 : Int32) (S1 : St) : ex X d 79 9 [.ref 23, .int x1, .int x2, .int v1] [] (hh S1) (n + 6) = if x2 = 7 then ex X d 79 20 [.ref 23, .int x1, .int x2, .int v1] [.int (S1.1 23 4), .ref 23] (hh S1) n else ex X d 79 27 [.ref 23, .int x1, .int x2, .int v1] [.int (S1.1 23 4), .ref 23] (hh S1) n := rfl
theorem B_79_5 {X : Nat × (Nat → Int32)} {d : Nat} (n : Nat) (x1 : Int32) (x2 : Int32) (v1 : Int32) (S1 : St) : ex X (d + 1) 79 20 [.ref 23, .int x1, .int x2, .int v1] [.int (S1.1 23 4), .ref 23] (hh S1) (n + 2) = (match ex X d 71 0 [.int v1] [] (hh S1) n with | some (v, h') => ex X (d + 1) 79 24 [.ref 23, .int x1, .int x2, .int v1] (v.toList ++ [.int (S1.1 23 4), .ref 23]) h' n | none => none) := rfl
theorem B_79_6 {X : Nat × (Nat → Int32)} {d : Nat} (n : Nat) (x1 : Int32) (x2 : Int32) (v1 : Int32) (v4 : Int32) (S1 : St) (S4 : St) : ex X d 79 24 [.ref 23, .int x1, .int x2, .int v1] [.int v4, .int (S1.1 23 4), .ref 23] (hh S4) (n + 3) = if (kd 23).1 = 10 + 6 ∧ (xf_k 6 4 = 0 ∨ (xf_k 6 4 = 1 ∧ (((S1.1 23 4) + v4) = 0 ∨ ((S1.1 23 4) + v4) = 1))) then ex X d 79 32 [.ref 23, .int x1, .int x2, .int v1] [] (hh (xa_u S4.1 23 4 ((S1.1 23 4) + v4), S4.2.1, S4.2.2)) n else none := rfl
theorem B_79_7 {X : Nat × (Nat → Int32)} {d : Nat} (n : Nat) (x1 : Int32) (x2 : Int32) (v1 : Int32) (S1 : St) : ex X d 79 9 [.ref 23, .int x1, .int x2, .int v1] [] (hh S1) (n + 6) = if x2 = 7 then ex X d 79 20 [.ref 23, .int x1, .int x2, .int v1] [.int (S1.1 23 4), .ref 23] (hh S1) n else ex X d 79 27 [.ref 23, .int x1, .int x2, .int v1] [.int (S1.1 23 4), .ref 23] (hh S1) n := rfl
theorem B_79_8 {X : Nat × (Nat → Int32)} {d : Nat} (n : Nat) (x1 : Int32) (x2 : Int32) (v1 : Int32) (S1 : St) : ex X d 79 27 [.ref 23, .int x1, .int x2, .int v1] [.int (S1.1 23 4), .ref 23] (hh S1) (n + 3) = if (kd 23).1 = 10 + 6 ∧ (xf_k 6 4 = 0 ∨ (xf_k 6 4 = 1 ∧ (((S1.1 23 4) + v1) = 0 ∨ ((S1.1 23 4) + v1) = 1))) then ex X d 79 32 [.ref 23, .int x1, .int x2, .int v1] [] (hh (xa_u S1.1 23 4 ((S1.1 23 4) + v1), S1.2.1, S1.2.2)) n else none := rfl
set_option maxRecDepth 200000 in
theorem T_79 {X : Nat × (Nat → Int32)} (S : St) (x1 : Int32) (x2 : Int32) (r : Unit) (S' : St) (hG : G_79 S x1 x2 = some (r, S')) : Ev X 2 79 0 [.ref 23, .int x1, .int x2, .retAddr 0] [] (hh S) (xV r, hh S') := by
  unfold G_79 at hG
  rcases h1 : G_76 S with _ | ⟨v1, S1⟩
  · rw [h1] at hG; cases hG
  rw [h1] at hG
  dsimp only at hG
  refine Ev.c (a := 76) (A := [.ref 23, .retAddr 0]) (h1 := hh S) (pc' := 4) (L' := [.ref 23, .int x1, .int x2, .retAddr 0]) (rest := []) (r1 := some (.int v1)) (h2 := hh S1) 2 (fun n => B_79_1 n x1 x2 S) (Ev.up (by decide) (T_76 S  _ _ h1)) ?_
  show Ev X _ 79 4 [.ref 23, .int x1, .int x2, .retAddr 0] [.int v1] (hh S1) _
  by_cases c2 : x1 = 0
  · rw [if_pos c2] at hG
    refine Ev.t (c := x1 = 0) (p1 := 32) (L1 := [.ref 23, .int x1, .int x2, .int v1]) (s1 := []) (h1 := hh S1) (p2 := 9) (L2 := [.ref 23, .int x1, .int x2, .int v1]) (s2 := []) (h2 := hh S1) 3 (fun n => B_79_2 n x1 x2 v1 S1) c2 ?_
    obtain ⟨e1, e2⟩ := Prod.mk.inj (Option.some.inj hG)
    subst e1
    subst e2
    exact Ev.r 1 (fun n => rfl)
  · rw [if_neg c2] at hG
    refine Ev.f (c := x1 = 0) (p1 := 32) (L1 := [.ref 23, .int x1, .int x2, .int v1]) (s1 := []) (h1 := hh S1) (p2 := 9) (L2 := [.ref 23, .int x1, .int x2, .int v1]) (s2 := []) (h2 := hh S1) 3 (fun n => B_79_3 n x1 x2 v1 S1) c2 ?_
    by_cases c3 : x2 = 7
    · rw [if_pos c3] at hG
      refine Ev.t (c := x2 = 7) (p1 := 20) (L1 := [.ref 23, .int x1, .int x2, .int v1]) (s1 := [.int (S1.1 23 4), .ref 23]) (h1 := hh S1) (p2 := 27) (L2 := [.ref 23, .int x1, .int x2, .int v1]) (s2 := [.int (S1.1 23 4), .ref 23]) (h2 := hh S1) 6 (fun n => B_79_4 n x1 x2 v1 S1) c3 ?_
      rcases h4 : G_71 S1 v1 with _ | ⟨v4, S4⟩
      · rw [h4] at hG; cases hG
      rw [h4] at hG
      dsimp only at hG
      refine Ev.c (a := 71) (A := [.int v1]) (h1 := hh S1) (pc' := 24) (L' := [.ref 23, .int x1, .int x2, .int v1]) (rest := [.int (S1.1 23 4), .ref 23]) (r1 := some (.int v4)) (h2 := hh S4) 2 (fun n => B_79_5 n x1 x2 v1 S1) (Ev.up (by decide) (T_71 S1 v1 _ _ h4)) ?_
      show Ev X _ 79 24 [.ref 23, .int x1, .int x2, .int v1] [.int v4, .int (S1.1 23 4), .ref 23] (hh S4) _
      refine Ev.g (c := (kd 23).1 = 10 + 6 ∧ (xf_k 6 4 = 0 ∨ (xf_k 6 4 = 1 ∧ (((S1.1 23 4) + v4) = 0 ∨ ((S1.1 23 4) + v4) = 1)))) (p1 := 32) (L1 := [.ref 23, .int x1, .int x2, .int v1]) (s1 := []) (h1 := hh (xa_u S4.1 23 4 ((S1.1 23 4) + v4), S4.2.1, S4.2.2)) 3 (fun n => B_79_6 n x1 x2 v1 v4 S1 S4) (⟨rfl, Or.inl rfl⟩) ?_
      obtain ⟨e1, e2⟩ := Prod.mk.inj (Option.some.inj hG)
      subst e1
      subst e2
      exact Ev.r 1 (fun n => rfl)
    · rw [if_neg c3] at hG
      refine Ev.f (c := x2 = 7) (p1 := 20) (L1 := [.ref 23, .int x1, .int x2, .int v1]) (s1 := [.int (S1.1 23 4), .ref 23]) (h1 := hh S1) (p2 := 27) (L2 := [.ref 23, .int x1, .int x2, .int v1]) (s2 := [.int (S1.1 23 4), .ref 23]) (h2 := hh S1) 6 (fun n => B_79_7 n x1 x2 v1 S1) c3 ?_
      refine Ev.g (c := (kd 23).1 = 10 + 6 ∧ (xf_k 6 4 = 0 ∨ (xf_k 6 4 = 1 ∧ (((S1.1 23 4) + v1) = 0 ∨ ((S1.1 23 4) + v1) = 1)))) (p1 := 32) (L1 := [.ref 23, .int x1, .int x2, .int v1]) (s1 := []) (h1 := hh (xa_u S1.1 23 4 ((S1.1 23 4) + v1), S1.2.1, S1.2.2)) 3 (fun n => B_79_8 n x1 x2 v1 S1) (⟨rfl, Or.inl rfl⟩) ?_
      obtain ⟨e1, e2⟩ := Prod.mk.inj (Option.some.inj hG)
      subst e1
      subst e2
      exact Ev.r 1 (fun n => rfl)
/-- 82: SceneCycle$Runner.isWithin(LSceneCycle$Actor;)Z -/
def G_82 (S : St) (x1 : Nat) : Option (Int32 × St) :=
  (match G_76 S with
  | none => none
  | some (v1, S1) =>
    (match G_76 S1 with
    | none => none
    | some (v2, S2) =>
      (match G_76 S2 with
      | none => none
      | some (v3, S3) =>
        (match G_76 S3 with
        | none => none
        | some (v4, S4) =>
          (if (kd x1).1 = 10 + 0 then
            (if (S4.1 x1 7) = 0 then
              some (0, S4)
            else
              (match G_13 S4 x1 v1 v2 v3 v4 with
              | none => none
              | some (v7, S7) =>
                (if v7 = 0 then
                  some (0, S7)
                else
                  some (1, S7)
                )
              )
            )
          else none)
        )
      )
    )
  )
theorem B_82_1 {X : Nat × (Nat → Int32)} {d : Nat} (n : Nat) (x1 : Nat) (S : St) : ex X (d + 1) 82 0 [.ref 23, .ref x1, .retAddr 0, .retAddr 0, .retAddr 0, .retAddr 0] [] (hh S) (n + 2) = (match ex X d 76 0 [.ref 23, .retAddr 0] [] (hh S) n with | some (v, h') => ex X (d + 1) 82 4 [.ref 23, .ref x1, .retAddr 0, .retAddr 0, .retAddr 0, .retAddr 0] (v.toList ++ []) h' n | none => none) := rfl
theorem B_82_2 {X : Nat × (Nat → Int32)} {d : Nat} (n : Nat) (x1 : Nat) (v1 : Int32) (S1 : St) : ex X (d + 1) 82 4 [.ref 23, .ref x1, .retAddr 0, .retAddr 0, .retAddr 0, .retAddr 0] [.int v1] (hh S1) (n + 3) = (match ex X d 76 0 [.ref 23, .retAddr 0] [] (hh S1) n with | some (v, h') => ex X (d + 1) 82 9 [.ref 23, .ref x1, .int v1, .retAddr 0, .retAddr 0, .retAddr 0] (v.toList ++ []) h' n | none => none) := rfl
theorem B_82_3 {X : Nat × (Nat → Int32)} {d : Nat} (n : Nat) (x1 : Nat) (v1 : Int32) (v2 : Int32) (S2 : St) : ex X (d + 1) 82 9 [.ref 23, .ref x1, .int v1, .retAddr 0, .retAddr 0, .retAddr 0] [.int v2] (hh S2) (n + 3) = (match ex X d 76 0 [.ref 23, .retAddr 0] [] (hh S2) n with | some (v, h') => ex X (d + 1) 82 14 [.ref 23, .ref x1, .int v1, .int v2, .retAddr 0, .retAddr 0] (v.toList ++ []) h' n | none => none) := rfl
theorem B_82_4 {X : Nat × (Nat → Int32)} {d : Nat} (n : Nat) (x1 : Nat) (v1 : Int32) (v2 : Int32) (v3 : Int32) (S3 : St) : ex X (d + 1) 82 14 [.ref 23, .ref x1, .int v1, .int v2, .retAddr 0, .retAddr 0] [.int v3] (hh S3) (n + 3) = (match ex X d 76 0 [.ref 23, .retAddr 0] [] (hh S3) n with | some (v, h') => ex X (d + 1) 82 20 [.ref 23, .ref x1, .int v1, .int v2, .int v3, .retAddr 0] (v.toList ++ []) h' n | none => none) := rfl
theorem B_82_5 {X : Nat × (Nat → Int32)} {d : Nat} (n : Nat) (x1 : Nat) (v1 : Int32) (v2 : Int32) (v3 : Int32) (v4 : Int32) (S4 : St) : ex X d 82 20 [.ref 23, .ref x1, .int v1, .int v2, .int v3, .retAddr 0] [.int v4] (hh S4) (n + 5) = if (kd x1).1 = 10 + 0 then ex X d 82 30 [.ref 23, .ref x1, .int v1, .int v2, .int v3, .int v4] [.int (S4.1 x1 7)] (hh S4) n else none := rfl
theorem B_82_6 {X : Nat × (Nat → Int32)} {d : Nat} (n : Nat) (x1 : Nat) (v1 : Int32) (v2 : Int32) (v3 : Int32) (v4 : Int32) (S4 : St) : ex X d 82 30 [.ref 23, .ref x1, .int v1, .int v2, .int v3, .int v4] [.int (S4.1 x1 7)] (hh S4) (n + 1) = if (S4.1 x1 7) = 0 then ex X d 82 50 [.ref 23, .ref x1, .int v1, .int v2, .int v3, .int v4] [] (hh S4) n else ex X d 82 33 [.ref 23, .ref x1, .int v1, .int v2, .int v3, .int v4] [] (hh S4) n := rfl
theorem B_82_7 {X : Nat × (Nat → Int32)} {d : Nat} (n : Nat) (x1 : Nat) (v1 : Int32) (v2 : Int32) (v3 : Int32) (v4 : Int32) (S4 : St) : ex X d 82 30 [.ref 23, .ref x1, .int v1, .int v2, .int v3, .int v4] [.int (S4.1 x1 7)] (hh S4) (n + 1) = if (S4.1 x1 7) = 0 then ex X d 82 50 [.ref 23, .ref x1, .int v1, .int v2, .int v3, .int v4] [] (hh S4) n else ex X d 82 33 [.ref 23, .ref x1, .int v1, .int v2, .int v3, .int v4] [] (hh S4) n := rfl
theorem B_82_8 {X : Nat × (Nat → Int32)} {d : Nat} (n : Nat) (x1 : Nat) (v1 : Int32) (v2 : Int32) (v3 : Int32) (v4 : Int32) (S4 : St) : ex X (d + 1) 82 33 [.ref 23, .ref x1, .int v1, .int v2, .int v3, .int v4] [] (hh S4) (n + 6) = if (xm_o 13 = 200 ∧ 2000 ≤ x1 ∧ x1 < 2000 + xS_n) ∨ (xm_o 13 ≠ 200 ∧ (kd x1).1 = 10 + xm_o 13) then (match ex X d 13 0 [.ref x1, .int v1, .int v2, .int v3, .int v4] [] (hh S4) n with | some (v, h') => ex X (d + 1) 82 43 [.ref 23, .ref x1, .int v1, .int v2, .int v3, .int v4] (v.toList ++ []) h' n | none => none) else none := rfl
theorem B_82_9 {X : Nat × (Nat → Int32)} {d : Nat} (n : Nat) (x1 : Nat) (v1 : Int32) (v2 : Int32) (v3 : Int32) (v4 : Int32) (v7 : Int32) (S7 : St) : ex X d 82 43 [.ref 23, .ref x1, .int v1, .int v2, .int v3, .int v4] [.int v7] (hh S7) (n + 1) = if v7 = 0 then ex X d 82 50 [.ref 23, .ref x1, .int v1, .int v2, .int v3, .int v4] [] (hh S7) n else ex X d 82 46 [.ref 23, .ref x1, .int v1, .int v2, .int v3, .int v4] [] (hh S7) n := rfl
theorem B_82_10 {X : Nat × (Nat → Int32)} {d : Nat} (n : Nat) (x1 : Nat) (v1 : Int32) (v2 : Int32) (v3 : Int32) (v4 : Int32) (v7 : Int32) (S7 : St) : ex X d 82 43 [.ref 23, .ref x1, .int v1, .int v2, .int v3, .int v4] [.int v7] (hh S7) (n + 1) = if v7 = 0 then ex X d 82 50 [.ref 23, .ref x1, .int v1, .int v2, .int v3, .int v4] [] (hh S7) n else ex X d 82 46 [.ref 23, .ref x1, .int v1, .int v2, .int v3, .int v4] [] (hh S7) n := rfl
set_option maxRecDepth 200000 in
theorem T_82 {X : Nat × (Nat → Int32)} (S : St) (x1 : Nat) (r : Int32) (S' : St) (hG : G_82 S x1 = some (r, S')) : Ev X 2 82 0 [.ref 23, .ref x1, .retAddr 0, .retAddr 0, .retAddr 0, .retAddr 0] [] (hh S) (xI r, hh S') := by
  unfold G_82 at hG
  rcases h1 : G_76 S with _ | ⟨v1, S1⟩
  · rw [h1] at hG; cases hG
  rw [h1] at hG
  dsimp only at hG
  refine Ev.c (a := 76) (A := [.ref 23, .retAddr 0]) (h1 := hh S) (pc' := 4) (L' := [.ref 23, .ref x1, .retAddr 0, .retAddr 0, .retAddr 0, .retAddr 0]) (rest := []) (r1 := some (.int v1)) (h2 := hh S1) 2 (fun n => B_82_1 n x1 S) (Ev.up (by decide) (T_76 S  _ _ h1)) ?_
  show Ev X _ 82 4 [.ref 23, .ref x1, .retAddr 0, .retAddr 0, .retAddr 0, .retAddr 0] [.int v1] (hh S1) _
  rcases h2 : G_76 S1 with _ | ⟨v2, S2⟩
  · rw [h2] at hG; cases hG
  rw [h2] at hG
  dsimp only at hG
  refine Ev.c (a := 76) (A := [.ref 23, .retAddr 0]) (h1 := hh S1) (pc' := 9) (L' := [.ref 23, .ref x1, .int v1, .retAddr 0, .retAddr 0, .retAddr 0]) (rest := []) (r1 := some (.int v2)) (h2 := hh S2) 3 (fun n => B_82_2 n x1 v1 S1) (Ev.up (by decide) (T_76 S1  _ _ h2)) ?_
  show Ev X _ 82 9 [.ref 23, .ref x1, .int v1, .retAddr 0, .retAddr 0, .retAddr 0] [.int v2] (hh S2) _
  rcases h3 : G_76 S2 with _ | ⟨v3, S3⟩
  · rw [h3] at hG; cases hG
  rw [h3] at hG
  dsimp only at hG
  refine Ev.c (a := 76) (A := [.ref 23, .retAddr 0]) (h1 := hh S2) (pc' := 14) (L' := [.ref 23, .ref x1, .int v1, .int v2, .retAddr 0, .retAddr 0]) (rest := []) (r1 := some (.int v3)) (h2 := hh S3) 3 (fun n => B_82_3 n x1 v1 v2 S2) (Ev.up (by decide) (T_76 S2  _ _ h3)) ?_
  show Ev X _ 82 14 [.ref 23, .ref x1, .int v1, .int v2, .retAddr 0, .retAddr 0] [.int v3] (hh S3) _
  rcases h4 : G_76 S3 with _ | ⟨v4, S4⟩
  · rw [h4] at hG; cases hG
  rw [h4] at hG
  dsimp only at hG
  refine Ev.c (a := 76) (A := [.ref 23, .retAddr 0]) (h1 := hh S3) (pc' := 20) (L' := [.ref 23, .ref x1, .int v1, .int v2, .int v3, .retAddr 0]) (rest := []) (r1 := some (.int v4)) (h2 := hh S4) 3 (fun n => B_82_4 n x1 v1 v2 v3 S3) (Ev.up (by decide) (T_76 S3  _ _ h4)) ?_
  show Ev X _ 82 20 [.ref 23, .ref x1, .int v1, .int v2, .int v3, .retAddr 0] [.int v4] (hh S4) _
  by_cases g5 : (kd x1).1 = 10 + 0
  rotate_left
  · rw [if_neg g5] at hG; cases hG
  rw [if_pos g5] at hG
  refine Ev.g (c := (kd x1).1 = 10 + 0) (p1 := 30) (L1 := [.ref 23, .ref x1, .int v1, .int v2, .int v3, .int v4]) (s1 := [.int (S4.1 x1 7)]) (h1 := hh S4) 5 (fun n => B_82_5 n x1 v1 v2 v3 v4 S4) g5 ?_
  by_cases c6 : (S4.1 x1 7) = 0
  · rw [if_pos c6] at hG
    refine Ev.t (c := (S4.1 x1 7) = 0) (p1 := 50) (L1 := [.ref 23, .ref x1, .int v1, .int v2, .int v3, .int v4]) (s1 := []) (h1 := hh S4) (p2 := 33) (L2 := [.ref 23, .ref x1, .int v1, .int v2, .int v3, .int v4]) (s2 := []) (h2 := hh S4) 1 (fun n => B_82_6 n x1 v1 v2 v3 v4 S4) c6 ?_
    obtain ⟨e1, e2⟩ := Prod.mk.inj (Option.some.inj hG)
    subst e1
    subst e2
    exact Ev.rg (c := (xm_z 82 = 0 ∨ (xm_z 82 = 1 ∧ ((0 : Int32) = 0 ∨ (0 : Int32) = 1)) ∨ (xm_z 82 = 2 ∧ ((0 : Int32)).toInt8.toInt32 = (0 : Int32)) ∨ (xm_z 82 = 3 ∧ ((0 : Int32)).toUInt32.toUInt16.toUInt32.toInt32 = (0 : Int32)))) 2 (fun n => rfl) (Or.inr (Or.inl ⟨rfl, by decide⟩))
  · rw [if_neg c6] at hG
    refine Ev.f (c := (S4.1 x1 7) = 0) (p1 := 50) (L1 := [.ref 23, .ref x1, .int v1, .int v2, .int v3, .int v4]) (s1 := []) (h1 := hh S4) (p2 := 33) (L2 := [.ref 23, .ref x1, .int v1, .int v2, .int v3, .int v4]) (s2 := []) (h2 := hh S4) 1 (fun n => B_82_7 n x1 v1 v2 v3 v4 S4) c6 ?_
    rcases h7 : G_13 S4 x1 v1 v2 v3 v4 with _ | ⟨v7, S7⟩
    · rw [h7] at hG; cases hG
    rw [h7] at hG
    dsimp only at hG
    refine Ev.cg (c := (xm_o 13 = 200 ∧ 2000 ≤ x1 ∧ x1 < 2000 + xS_n) ∨ (xm_o 13 ≠ 200 ∧ (kd x1).1 = 10 + xm_o 13)) (a := 13) (A := [.ref x1, .int v1, .int v2, .int v3, .int v4]) (h1 := hh S4) (pc' := 43) (L' := [.ref 23, .ref x1, .int v1, .int v2, .int v3, .int v4]) (rest := []) (r1 := some (.int v7)) (h2 := hh S7) 6 (fun n => B_82_8 n x1 v1 v2 v3 v4 S4) (Or.inr ⟨by decide, g5⟩) (Ev.up (by decide) (T_13 S4 x1 v1 v2 v3 v4 _ _ h7)) ?_
    show Ev X _ 82 43 [.ref 23, .ref x1, .int v1, .int v2, .int v3, .int v4] [.int v7] (hh S7) _
    by_cases c8 : v7 = 0
    · rw [if_pos c8] at hG
      refine Ev.t (c := v7 = 0) (p1 := 50) (L1 := [.ref 23, .ref x1, .int v1, .int v2, .int v3, .int v4]) (s1 := []) (h1 := hh S7) (p2 := 46) (L2 := [.ref 23, .ref x1, .int v1, .int v2, .int v3, .int v4]) (s2 := []) (h2 := hh S7) 1 (fun n => B_82_9 n x1 v1 v2 v3 v4 v7 S7) c8 ?_
      obtain ⟨e1, e2⟩ := Prod.mk.inj (Option.some.inj hG)
      subst e1
      subst e2
      exact Ev.rg (c := (xm_z 82 = 0 ∨ (xm_z 82 = 1 ∧ ((0 : Int32) = 0 ∨ (0 : Int32) = 1)) ∨ (xm_z 82 = 2 ∧ ((0 : Int32)).toInt8.toInt32 = (0 : Int32)) ∨ (xm_z 82 = 3 ∧ ((0 : Int32)).toUInt32.toUInt16.toUInt32.toInt32 = (0 : Int32)))) 2 (fun n => rfl) (Or.inr (Or.inl ⟨rfl, by decide⟩))
    · rw [if_neg c8] at hG
      refine Ev.f (c := v7 = 0) (p1 := 50) (L1 := [.ref 23, .ref x1, .int v1, .int v2, .int v3, .int v4]) (s1 := []) (h1 := hh S7) (p2 := 46) (L2 := [.ref 23, .ref x1, .int v1, .int v2, .int v3, .int v4]) (s2 := []) (h2 := hh S7) 1 (fun n => B_82_10 n x1 v1 v2 v3 v4 v7 S7) c8 ?_
      obtain ⟨e1, e2⟩ := Prod.mk.inj (Option.some.inj hG)
      subst e1
      subst e2
      exact Ev.rg (c := (xm_z 82 = 0 ∨ (xm_z 82 = 1 ∧ ((1 : Int32) = 0 ∨ (1 : Int32) = 1)) ∨ (xm_z 82 = 2 ∧ ((1 : Int32)).toInt8.toInt32 = (1 : Int32)) ∨ (xm_z 82 = 3 ∧ ((1 : Int32)).toUInt32.toUInt16.toUInt32.toInt32 = (1 : Int32)))) 3 (fun n => rfl) (Or.inr (Or.inl ⟨rfl, by decide⟩))
/-- 84: SceneCycle$Runner.changeByTwoNumbers(LSceneCycle$Actor;I)V -/
def G_84 (S : St) (x1 : Nat) (x2 : Int32) : Option (Unit × St) :=
  (match G_76 S with
  | none => none
  | some (v1, S1) =>
    (match G_76 S1 with
    | none => none
    | some (v2, S2) =>
      (if x2 = 9 then
        (if (kd x1).1 = 10 + 0 then
          (match G_16 S2 x1 v1 v2 with
          | none => none
          | some (v4, S4) =>
            some ((), S4)
          )
        else none)
      else
        (if x2 = 11 then
          (if (kd x1).1 = 10 + 0 then
            (match G_17 S2 x1 v1 v2 with
            | none => none
            | some (v7, S7) =>
              some ((), S7)
            )
          else none)
        else
          (if x2 = 13 then
            (match G_76 S2 with
            | none => none
            | some (v10, S10) =>
              (if (kd x1).1 = 10 + 0 then
                (match G_18 S10 x1 v1 v2 v10 with
                | none => none
                | some (v11, S11) =>
                  some ((), S11)
                )
              else none)
            )
          else
            some ((), S2)
          )
        )
      )
    )
  )
theorem B_84_1 {X : Nat × (Nat → Int32)} {d : Nat} (n : Nat) (x1 : Nat) (x2 : Int32) (S : St) : ex X (d + 1) 84 0 [.ref 23, .ref x1, .int x2, .retAddr 0, .retAddr 0] [] (hh S) (n + 2) = (match ex X d 76 0 [.ref 23, .retAddr 0] [] (hh S) n with | some (v, h') => ex X (d + 1) 84 4 [.ref 23, .ref x1, .int x2, .retAddr 0, .retAddr 0] (v.toList ++ []) h' n | none => none) := rfl
theorem B_84_2 {X : Nat × (Nat → Int32)} {d : Nat} (n : Nat) (x1 : Nat) (x2 : Int32) (v1 : Int32) (S1 : St) : ex X (d + 1) 84 4 [.ref 23, .ref x1, .int x2, .retAddr 0, .retAddr 0] [.int v1] (hh S1) (n + 3) = (match ex X d 76 0 [.ref 23, .retAddr 0] [] (hh S1) n with | some (v, h') => ex X (d + 1) 84 9 [.ref 23, .ref x1, .int x2, .int v1, .retAddr 0] (v.toList ++ []) h' n | none => none) := rfl
theorem B_84_3 {X : Nat × (Nat → Int32)} {d : Nat} (n : Nat) (x1 : Nat) (x2 : Int32) (v1 : Int32) (v2 : Int32) (S2 : St) : ex X d 84 9 [.ref 23, .ref x1, .int x2, .int v1, .retAddr 0] [.int v2] (hh S2) (n + 4) = if x2 = 9 then ex X d 84 17 [.ref 23, .ref x1, .int x2, .int v1, .int v2] [] (hh S2) n else ex X d 84 27 [.ref 23, .ref x1, .int x2, .int v1, .int v2] [] (hh S2) n := rfl
theorem B_84_4 {X : Nat × (Nat → Int32)} {d : Nat} (n : Nat) (x1 : Nat) (x2 : Int32) (v1 : Int32) (v2 : Int32) (S2 : St) : ex X (d + 1) 84 17 [.ref 23, .ref x1, .int x2, .int v1, .int v2] [] (hh S2) (n + 4) = if (xm_o 16 = 200 ∧ 2000 ≤ x1 ∧ x1 < 2000 + xS_n) ∨ (xm_o 16 ≠ 200 ∧ (kd x1).1 = 10 + xm_o 16) then (match ex X d 16 0 [.ref x1, .int v1, .int v2] [] (hh S2) n with | some (v, h') => ex X (d + 1) 84 24 [.ref 23, .ref x1, .int x2, .int v1, .int v2] (v.toList ++ []) h' n | none => none) else none := rfl
theorem B_84_5 {X : Nat × (Nat → Int32)} {d : Nat} (n : Nat) (x1 : Nat) (x2 : Int32) (v1 : Int32) (v2 : Int32) (S2 : St) : ex X d 84 9 [.ref 23, .ref x1, .int x2, .int v1, .retAddr 0] [.int v2] (hh S2) (n + 4) = if x2 = 9 then ex X d 84 17 [.ref 23, .ref x1, .int x2, .int v1, .int v2] [] (hh S2) n else ex X d 84 27 [.ref 23, .ref x1, .int x2, .int v1, .int v2] [] (hh S2) n := rfl
theorem B_84_6 {X : Nat × (Nat → Int32)} {d : Nat} (n : Nat) (x1 : Nat) (x2 : Int32) (v1 : Int32) (v2 : Int32) (S2 : St) : ex X d 84 27 [.ref 23, .ref x1, .int x2, .int v1, .int v2] [] (hh S2) (n + 3) = if x2 = 11 then ex X d 84 33 [.ref 23, .ref x1, .int x2, .int v1, .int v2] [] (hh S2) n else ex X d 84 43 [.ref 23, .ref x1, .int x2, .int v1, .int v2] [] (hh S2) n := rfl
theorem B_84_7 {X : Nat × (Nat → Int32)} {d : Nat} (n : Nat) (x1 : Nat) (x2 : Int32) (v1 : Int32) (v2 : Int32) (S2 : St) : ex X (d + 1) 84 33 [.ref 23, .ref x1, .int x2, .int v1, .int v2] [] (hh S2) (n + 4) = if (xm_o 17 = 200 ∧ 2000 ≤ x1 ∧ x1 < 2000 + xS_n) ∨ (xm_o 17 ≠ 200 ∧ (kd x1).1 = 10 + xm_o 17) then (match ex X d 17 0 [.ref x1, .int v1, .int v2] [] (hh S2) n with | some (v, h') => ex X (d + 1) 84 40 [.ref 23, .ref x1, .int x2, .int v1, .int v2] (v.toList ++ []) h' n | none => none) else none := rfl
theorem B_84_8 {X : Nat × (Nat → Int32)} {d : Nat} (n : Nat) (x1 : Nat) (x2 : Int32) (v1 : Int32) (v2 : Int32) (S2 : St) : ex X d 84 27 [.ref 23, .ref x1, .int x2, .int v1, .int v2] [] (hh S2) (n + 3) = if x2 = 11 then ex X d 84 33 [.ref 23, .ref x1, .int x2, .int v1, .int v2] [] (hh S2) n else ex X d 84 43 [.ref 23, .ref x1, .int x2, .int v1, .int v2] [] (hh S2) n := rfl
theorem B_84_9 {X : Nat × (Nat → Int32)} {d : Nat} (n : Nat) (x1 : Nat) (x2 : Int32) (v1 : Int32) (v2 : Int32) (S2 : St) : ex X d 84 43 [.ref 23, .ref x1, .int x2, .int v1, .int v2] [] (hh S2) (n + 3) = if x2 = 13 then ex X d 84 49 [.ref 23, .ref x1, .int x2, .int v1, .int v2] [] (hh S2) n else ex X d 84 60 [.ref 23, .ref x1, .int x2, .int v1, .int v2] [] (hh S2) n := rfl
theorem B_84_10 {X : Nat × (Nat → Int32)} {d : Nat} (n : Nat) (x1 : Nat) (x2 : Int32) (v1 : Int32) (v2 : Int32) (S2 : St) : ex X (d + 1) 84 49 [.ref 23, .ref x1, .int x2, .int v1, .int v2] [] (hh S2) (n + 5) = (match ex X d 76 0 [.ref 23, .retAddr 0] [] (hh S2) n with | some (v, h') => ex X (d + 1) 84 57 [.ref 23, .ref x1, .int x2, .int v1, .int v2] (v.toList ++ [.int v2, .int v1, .ref x1]) h' n | none => none) := rfl
theorem B_84_11 {X : Nat × (Nat → Int32)} {d : Nat} (n : Nat) (x1 : Nat) (x2 : Int32) (v1 : Int32) (v2 : Int32) (v10 : Int32) (S10 : St) : ex X (d + 1) 84 57 [.ref 23, .ref x1, .int x2, .int v1, .int v2] [.int v10, .int v2, .int v1, .ref x1] (hh S10) (n + 1) = if (xm_o 18 = 200 ∧ 2000 ≤ x1 ∧ x1 < 2000 + xS_n) ∨ (xm_o 18 ≠ 200 ∧ (kd x1).1 = 10 + xm_o 18) then (match ex X d 18 0 [.ref x1, .int v1, .int v2, .int v10] [] (hh S10) n with | some (v, h') => ex X (d + 1) 84 60 [.ref 23, .ref x1, .int x2, .int v1, .int v2] (v.toList ++ []) h' n | none => none) else none := rfl
theorem B_84_12 {X : Nat × (Nat → Int32)} {d : Nat} (n : Nat) (x1 : Nat) (x2 : Int32) (v1 : Int32) (v2 : Int32) (S2 : St) : ex X d 84 43 [.ref 23, .ref x1, .int x2, .int v1, .int v2] [] (hh S2) (n + 3) = if x2 = 13 then ex X d 84 49 [.ref 23, .ref x1, .int x2, .int v1, .int v2] [] (hh S2) n else ex X d 84 60 [.ref 23, .ref x1, .int x2, .int v1, .int v2] [] (hh S2) n := rfl
set_option maxRecDepth 200000 in
theorem T_84 {X : Nat × (Nat → Int32)} (S : St) (x1 : Nat) (x2 : Int32) (r : Unit) (S' : St) (hG : G_84 S x1 x2 = some (r, S')) : Ev X 2 84 0 [.ref 23, .ref x1, .int x2, .retAddr 0, .retAddr 0] [] (hh S) (xV r, hh S') := by
  unfold G_84 at hG
  rcases h1 : G_76 S with _ | ⟨v1, S1⟩
  · rw [h1] at hG; cases hG
  rw [h1] at hG
  dsimp only at hG
  refine Ev.c (a := 76) (A := [.ref 23, .retAddr 0]) (h1 := hh S) (pc' := 4) (L' := [.ref 23, .ref x1, .int x2, .retAddr 0, .retAddr 0]) (rest := []) (r1 := some (.int v1)) (h2 := hh S1) 2 (fun n => B_84_1 n x1 x2 S) (Ev.up (by decide) (T_76 S  _ _ h1)) ?_
  show Ev X _ 84 4 [.ref 23, .ref x1, .int x2, .retAddr 0, .retAddr 0] [.int v1] (hh S1) _
  rcases h2 : G_76 S1 with _ | ⟨v2, S2⟩
  · rw [h2] at hG; cases hG
  rw [h2] at hG
  dsimp only at hG
  refine Ev.c (a := 76) (A := [.ref 23, .retAddr 0]) (h1 := hh S1) (pc' := 9) (L' := [.ref 23, .ref x1, .int x2, .int v1, .retAddr 0]) (rest := []) (r1 := some (.int v2)) (h2 := hh S2) 3 (fun n => B_84_2 n x1 x2 v1 S1) (Ev.up (by decide) (T_76 S1  _ _ h2)) ?_
  show Ev X _ 84 9 [.ref 23, .ref x1, .int x2, .int v1, .retAddr 0] [.int v2] (hh S2) _
  by_cases c3 : x2 = 9
  · rw [if_pos c3] at hG
    refine Ev.t (c := x2 = 9) (p1 := 17) (L1 := [.ref 23, .ref x1, .int x2, .int v1, .int v2]) (s1 := []) (h1 := hh S2) (p2 := 27) (L2 := [.ref 23, .ref x1, .int x2, .int v1, .int v2]) (s2 := []) (h2 := hh S2) 4 (fun n => B_84_3 n x1 x2 v1 v2 S2) c3 ?_
    by_cases g5 : (kd x1).1 = 10 + 0
    rotate_left
    · rw [if_neg g5] at hG; cases hG
    rw [if_pos g5] at hG
    rcases h4 : G_16 S2 x1 v1 v2 with _ | ⟨v4, S4⟩
    · rw [h4] at hG; cases hG
    rw [h4] at hG
    dsimp only at hG
    refine Ev.cg (c := (xm_o 16 = 200 ∧ 2000 ≤ x1 ∧ x1 < 2000 + xS_n) ∨ (xm_o 16 ≠ 200 ∧ (kd x1).1 = 10 + xm_o 16)) (a := 16) (A := [.ref x1, .int v1, .int v2]) (h1 := hh S2) (pc' := 24) (L' := [.ref 23, .ref x1, .int x2, .int v1, .int v2]) (rest := []) (r1 := none) (h2 := hh S4) 4 (fun n => B_84_4 n x1 x2 v1 v2 S2) (Or.inr ⟨by decide, g5⟩) (Ev.up (by decide) (T_16 S2 x1 v1 v2 _ _ h4)) ?_
    show Ev X _ 84 24 [.ref 23, .ref x1, .int x2, .int v1, .int v2] [] (hh S4) _
    obtain ⟨e1, e2⟩ := Prod.mk.inj (Option.some.inj hG)
    subst e1
    subst e2
    exact Ev.r 2 (fun n => rfl)
  · rw [if_neg c3] at hG
    refine Ev.f (c := x2 = 9) (p1 := 17) (L1 := [.ref 23, .ref x1, .int x2, .int v1, .int v2]) (s1 := []) (h1 := hh S2) (p2 := 27) (L2 := [.ref 23, .ref x1, .int x2, .int v1, .int v2]) (s2 := []) (h2 := hh S2) 4 (fun n => B_84_5 n x1 x2 v1 v2 S2) c3 ?_
    by_cases c6 : x2 = 11
    · rw [if_pos c6] at hG
      refine Ev.t (c := x2 = 11) (p1 := 33) (L1 := [.ref 23, .ref x1, .int x2, .int v1, .int v2]) (s1 := []) (h1 := hh S2) (p2 := 43) (L2 := [.ref 23, .ref x1, .int x2, .int v1, .int v2]) (s2 := []) (h2 := hh S2) 3 (fun n => B_84_6 n x1 x2 v1 v2 S2) c6 ?_
      by_cases g8 : (kd x1).1 = 10 + 0
      rotate_left
      · rw [if_neg g8] at hG; cases hG
      rw [if_pos g8] at hG
      rcases h7 : G_17 S2 x1 v1 v2 with _ | ⟨v7, S7⟩
      · rw [h7] at hG; cases hG
      rw [h7] at hG
      dsimp only at hG
      refine Ev.cg (c := (xm_o 17 = 200 ∧ 2000 ≤ x1 ∧ x1 < 2000 + xS_n) ∨ (xm_o 17 ≠ 200 ∧ (kd x1).1 = 10 + xm_o 17)) (a := 17) (A := [.ref x1, .int v1, .int v2]) (h1 := hh S2) (pc' := 40) (L' := [.ref 23, .ref x1, .int x2, .int v1, .int v2]) (rest := []) (r1 := none) (h2 := hh S7) 4 (fun n => B_84_7 n x1 x2 v1 v2 S2) (Or.inr ⟨by decide, g8⟩) (Ev.up (by decide) (T_17 S2 x1 v1 v2 _ _ h7)) ?_
      show Ev X _ 84 40 [.ref 23, .ref x1, .int x2, .int v1, .int v2] [] (hh S7) _
      obtain ⟨e1, e2⟩ := Prod.mk.inj (Option.some.inj hG)
      subst e1
      subst e2
      exact Ev.r 2 (fun n => rfl)
    · rw [if_neg c6] at hG
      refine Ev.f (c := x2 = 11) (p1 := 33) (L1 := [.ref 23, .ref x1, .int x2, .int v1, .int v2]) (s1 := []) (h1 := hh S2) (p2 := 43) (L2 := [.ref 23, .ref x1, .int x2, .int v1, .int v2]) (s2 := []) (h2 := hh S2) 3 (fun n => B_84_8 n x1 x2 v1 v2 S2) c6 ?_
      by_cases c9 : x2 = 13
      · rw [if_pos c9] at hG
        refine Ev.t (c := x2 = 13) (p1 := 49) (L1 := [.ref 23, .ref x1, .int x2, .int v1, .int v2]) (s1 := []) (h1 := hh S2) (p2 := 60) (L2 := [.ref 23, .ref x1, .int x2, .int v1, .int v2]) (s2 := []) (h2 := hh S2) 3 (fun n => B_84_9 n x1 x2 v1 v2 S2) c9 ?_
        rcases h10 : G_76 S2 with _ | ⟨v10, S10⟩
        · rw [h10] at hG; cases hG
        rw [h10] at hG
        dsimp only at hG
        refine Ev.c (a := 76) (A := [.ref 23, .retAddr 0]) (h1 := hh S2) (pc' := 57) (L' := [.ref 23, .ref x1, .int x2, .int v1, .int v2]) (rest := [.int v2, .int v1, .ref x1]) (r1 := some (.int v10)) (h2 := hh S10) 5 (fun n => B_84_10 n x1 x2 v1 v2 S2) (Ev.up (by decide) (T_76 S2  _ _ h10)) ?_
        show Ev X _ 84 57 [.ref 23, .ref x1, .int x2, .int v1, .int v2] [.int v10, .int v2, .int v1, .ref x1] (hh S10) _
        by_cases g12 : (kd x1).1 = 10 + 0
        rotate_left
        · rw [if_neg g12] at hG; cases hG
        rw [if_pos g12] at hG
        rcases h11 : G_18 S10 x1 v1 v2 v10 with _ | ⟨v11, S11⟩
        · rw [h11] at hG; cases hG
        rw [h11] at hG
        dsimp only at hG
        refine Ev.cg (c := (xm_o 18 = 200 ∧ 2000 ≤ x1 ∧ x1 < 2000 + xS_n) ∨ (xm_o 18 ≠ 200 ∧ (kd x1).1 = 10 + xm_o 18)) (a := 18) (A := [.ref x1, .int v1, .int v2, .int v10]) (h1 := hh S10) (pc' := 60) (L' := [.ref 23, .ref x1, .int x2, .int v1, .int v2]) (rest := []) (r1 := none) (h2 := hh S11) 1 (fun n => B_84_11 n x1 x2 v1 v2 v10 S10) (Or.inr ⟨by decide, g12⟩) (Ev.up (by decide) (T_18 S10 x1 v1 v2 v10 _ _ h11)) ?_
        show Ev X _ 84 60 [.ref 23, .ref x1, .int x2, .int v1, .int v2] [] (hh S11) _
        obtain ⟨e1, e2⟩ := Prod.mk.inj (Option.some.inj hG)
        subst e1
        subst e2
        exact Ev.r 1 (fun n => rfl)
      · rw [if_neg c9] at hG
        refine Ev.f (c := x2 = 13) (p1 := 49) (L1 := [.ref 23, .ref x1, .int x2, .int v1, .int v2]) (s1 := []) (h1 := hh S2) (p2 := 60) (L2 := [.ref 23, .ref x1, .int x2, .int v1, .int v2]) (s2 := []) (h2 := hh S2) 3 (fun n => B_84_12 n x1 x2 v1 v2 S2) c9 ?_
        obtain ⟨e1, e2⟩ := Prod.mk.inj (Option.some.inj hG)
        subst e1
        subst e2
        exact Ev.r 1 (fun n => rfl)
/-- 83: SceneCycle$Runner.changeActor(LSceneCycle$World;I)V -/
def G_83 (S : St) (x2 : Int32) : Option (Unit × St) :=
  (match G_76 S with
  | none => none
  | some (v1, S1) =>
    (match G_55 S1 v1 with
    | none => none
    | some (v2, S2) =>
      (match v2 with
      | none =>
        some ((), S2)
      | some a3 =>
        (if x2 = 10 then
          (if (kd a3).1 = 10 + 0 then
            some ((), (xa_u S2.1 a3 7 0, S2.2.1, S2.2.2))
          else none)
        else
          (if x2 = 12 then
            (match G_76 S2 with
            | none => none
            | some (v7, S7) =>
              (if (kd a3).1 = 10 + 0 then
                (match G_14 S7 a3 v7 with
                | none => none
                | some (v8, S8) =>
                  some ((), S8)
                )
              else none)
            )
          else
            (if x2 = 14 then
              (match G_76 S2 with
              | none => none
              | some (v11, S11) =>
                (if (kd a3).1 = 10 + 0 then
                  (match G_15 S11 a3 v11 with
                  | none => none
                  | some (v12, S12) =>
                    some ((), S12)
                  )
                else none)
              )
            else
              (if x2 = 15 then
                (if (kd a3).1 = 10 + 0 then
                  some ((), (xa_u S2.1 a3 5 3, S2.2.1, S2.2.2))
                else none)
              else
                (if x2 = 16 then
                  (match G_76 S2 with
                  | none => none
                  | some (v17, S17) =>
                    (if (kd a3).1 = 10 + 0 then
                      some ((), (xa_u S17.1 a3 6 v17, S17.2.1, S17.2.2))
                    else none)
                  )
                else
                  (if x2 = 17 then
                    (match G_76 S2 with
                    | none => none
                    | some (v20, S20) =>
                      (if v20 = 1 then
                        (if (kd a3).1 = 10 + 0 then
                          some ((), (xa_u S20.1 a3 8 1, S20.2.1, S20.2.2))
                        else none)
                      else
                        (if (kd a3).1 = 10 + 0 then
                          some ((), (xa_u S20.1 a3 8 0, S20.2.1, S20.2.2))
                        else none)
                      )
                    )
                  else
                    (match G_84 S2 a3 x2 with
                    | none => none
                    | some (v24, S24) =>
                      some ((), S24)
                    )
                  )
                )
              )
            )
          )
        )
      )
    )
  )
theorem B_83_1 {X : Nat × (Nat → Int32)} {d : Nat} (n : Nat) (x2 : Int32) (S : St) : ex X (d + 1) 83 0 [.ref 23, .ref 1, .int x2, .retAddr 0] [] (hh S) (n + 3) = (match ex X d 76 0 [.ref 23, .retAddr 0] [] (hh S) n with | some (v, h') => ex X (d + 1) 83 5 [.ref 23, .ref 1, .int x2, .retAddr 0] (v.toList ++ [.ref 1]) h' n | none => none) := rfl
theorem B_83_2 {X : Nat × (Nat → Int32)} {d : Nat} (n : Nat) (x2 : Int32) (v1 : Int32) (S1 : St) : ex X (d + 1) 83 5 [.ref 23, .ref 1, .int x2, .retAddr 0] [.int v1, .ref 1] (hh S1) (n + 1) = (match ex X d 55 0 [.ref 1, .int v1] [] (hh S1) n with | some (v, h') => ex X (d + 1) 83 8 [.ref 23, .ref 1, .int x2, .retAddr 0] (v.toList ++ []) h' n | none => none) := rfl
theorem B_83_3 {X : Nat × (Nat → Int32)} {d : Nat} (n : Nat) (x2 : Int32) (a3 : Nat) (S2 : St) : ex X d 83 8 [.ref 23, .ref 1, .int x2, .retAddr 0] [.ref a3] (hh S2) (n + 5) = xa_sw [(10, 60), (12, 68), (14, 79), (15, 90), (16, 98), (17, 109)] x2 129 (fun t => ex X d 83 t [.ref 23, .ref 1, .int x2, .ref a3] [] (hh S2) n) := rfl
theorem B_83_4 {X : Nat × (Nat → Int32)} {d : Nat} (n : Nat) (x2 : Int32) (a3 : Nat) (S2 : St) : ex X d 83 60 [.ref 23, .ref 1, .int x2, .ref a3] [] (hh S2) (n + 3) = if (kd a3).1 = 10 + 0 ∧ (xf_k 0 7 = 0 ∨ (xf_k 0 7 = 1 ∧ ((0 : Int32) = 0 ∨ (0 : Int32) = 1))) then ex X d 83 65 [.ref 23, .ref 1, .int x2, .ref a3] [] (hh (xa_u S2.1 a3 7 0, S2.2.1, S2.2.2)) n else none := rfl
theorem B_83_5 {X : Nat × (Nat → Int32)} {d : Nat} (n : Nat) (x2 : Int32) (a3 : Nat) (S2 : St) : ex X (d + 1) 83 68 [.ref 23, .ref 1, .int x2, .ref a3] [] (hh S2) (n + 3) = (match ex X d 76 0 [.ref 23, .retAddr 0] [] (hh S2) n with | some (v, h') => ex X (d + 1) 83 73 [.ref 23, .ref 1, .int x2, .ref a3] (v.toList ++ [.ref a3]) h' n | none => none) := rfl
theorem B_83_6 {X : Nat × (Nat → Int32)} {d : Nat} (n : Nat) (x2 : Int32) (a3 : Nat) (v7 : Int32) (S7 : St) : ex X (d + 1) 83 73 [.ref 23, .ref 1, .int x2, .ref a3] [.int v7, .ref a3] (hh S7) (n + 1) = if (xm_o 14 = 200 ∧ 2000 ≤ a3 ∧ a3 < 2000 + xS_n) ∨ (xm_o 14 ≠ 200 ∧ (kd a3).1 = 10 + xm_o 14) then (match ex X d 14 0 [.ref a3, .int v7] [] (hh S7) n with | some (v, h') => ex X (d + 1) 83 76 [.ref 23, .ref 1, .int x2, .ref a3] (v.toList ++ []) h' n | none => none) else none := rfl
theorem B_83_7 {X : Nat × (Nat → Int32)} {d : Nat} (n : Nat) (x2 : Int32) (a3 : Nat) (S2 : St) : ex X (d + 1) 83 79 [.ref 23, .ref 1, .int x2, .ref a3] [] (hh S2) (n + 3) = (match ex X d 76 0 [.ref 23, .retAddr 0] [] (hh S2) n with | some (v, h') => ex X (d + 1) 83 84 [.ref 23, .ref 1, .int x2, .ref a3] (v.toList ++ [.ref a3]) h' n | none => none) := rfl
theorem B_83_8 {X : Nat × (Nat → Int32)} {d : Nat} (n : Nat) (x2 : Int32) (a3 : Nat) (v11 : Int32) (S11 : St) : ex X (d + 1) 83 84 [.ref 23, .ref 1, .int x2, .ref a3] [.int v11, .ref a3] (hh S11) (n + 1) = if (xm_o 15 = 200 ∧ 2000 ≤ a3 ∧ a3 < 2000 + xS_n) ∨ (xm_o 15 ≠ 200 ∧ (kd a3).1 = 10 + xm_o 15) then (match ex X d 15 0 [.ref a3, .int v11] [] (hh S11) n with | some (v, h') => ex X (d + 1) 83 87 [.ref 23, .ref 1, .int x2, .ref a3] (v.toList ++ []) h' n | none => none) else none := rfl
theorem B_83_9 {X : Nat × (Nat → Int32)} {d : Nat} (n : Nat) (x2 : Int32) (a3 : Nat) (S2 : St) : ex X d 83 90 [.ref 23, .ref 1, .int x2, .ref a3] [] (hh S2) (n + 3) = if (kd a3).1 = 10 + 0 ∧ (xf_k 0 5 = 0 ∨ (xf_k 0 5 = 1 ∧ ((3 : Int32) = 0 ∨ (3 : Int32) = 1))) then ex X d 83 95 [.ref 23, .ref 1, .int x2, .ref a3] [] (hh (xa_u S2.1 a3 5 3, S2.2.1, S2.2.2)) n else none := rfl
theorem B_83_10 {X : Nat × (Nat → Int32)} {d : Nat} (n : Nat) (x2 : Int32) (a3 : Nat) (S2 : St) : ex X (d + 1) 83 98 [.ref 23, .ref 1, .int x2, .ref a3] [] (hh S2) (n + 3) = (match ex X d 76 0 [.ref 23, .retAddr 0] [] (hh S2) n with | some (v, h') => ex X (d + 1) 83 103 [.ref 23, .ref 1, .int x2, .ref a3] (v.toList ++ [.ref a3]) h' n | none => none) := rfl
theorem B_83_11 {X : Nat × (Nat → Int32)} {d : Nat} (n : Nat) (x2 : Int32) (a3 : Nat) (v17 : Int32) (S17 : St) : ex X d 83 103 [.ref 23, .ref 1, .int x2, .ref a3] [.int v17, .ref a3] (hh S17) (n + 1) = if (kd a3).1 = 10 + 0 ∧ (xf_k 0 6 = 0 ∨ (xf_k 0 6 = 1 ∧ (v17 = 0 ∨ v17 = 1))) then ex X d 83 106 [.ref 23, .ref 1, .int x2, .ref a3] [] (hh (xa_u S17.1 a3 6 v17, S17.2.1, S17.2.2)) n else none := rfl
theorem B_83_12 {X : Nat × (Nat → Int32)} {d : Nat} (n : Nat) (x2 : Int32) (a3 : Nat) (S2 : St) : ex X (d + 1) 83 109 [.ref 23, .ref 1, .int x2, .ref a3] [] (hh S2) (n + 3) = (match ex X d 76 0 [.ref 23, .retAddr 0] [] (hh S2) n with | some (v, h') => ex X (d + 1) 83 114 [.ref 23, .ref 1, .int x2, .ref a3] (v.toList ++ [.ref a3]) h' n | none => none) := rfl
theorem B_83_13 {X : Nat × (Nat → Int32)} {d : Nat} (n : Nat) (x2 : Int32) (a3 : Nat) (v20 : Int32) (S20 : St) : ex X d 83 114 [.ref 23, .ref 1, .int x2, .ref a3] [.int v20, .ref a3] (hh S20) (n + 2) = if v20 = 1 then ex X d 83 118 [.ref 23, .ref 1, .int x2, .ref a3] [.ref a3] (hh S20) n else ex X d 83 122 [.ref 23, .ref 1, .int x2, .ref a3] [.ref a3] (hh S20) n := rfl
theorem B_83_14 {X : Nat × (Nat → Int32)} {d : Nat} (n : Nat) (x2 : Int32) (a3 : Nat) (S20 : St) : ex X d 83 118 [.ref 23, .ref 1, .int x2, .ref a3] [.ref a3] (hh S20) (n + 3) = if (kd a3).1 = 10 + 0 ∧ (xf_k 0 8 = 0 ∨ (xf_k 0 8 = 1 ∧ ((1 : Int32) = 0 ∨ (1 : Int32) = 1))) then ex X d 83 126 [.ref 23, .ref 1, .int x2, .ref a3] [] (hh (xa_u S20.1 a3 8 1, S20.2.1, S20.2.2)) n else none := rfl
theorem B_83_15 {X : Nat × (Nat → Int32)} {d : Nat} (n : Nat) (x2 : Int32) (a3 : Nat) (v20 : Int32) (S20 : St) : ex X d 83 114 [.ref 23, .ref 1, .int x2, .ref a3] [.int v20, .ref a3] (hh S20) (n + 2) = if v20 = 1 then ex X d 83 118 [.ref 23, .ref 1, .int x2, .ref a3] [.ref a3] (hh S20) n else ex X d 83 122 [.ref 23, .ref 1, .int x2, .ref a3] [.ref a3] (hh S20) n := rfl
theorem B_83_16 {X : Nat × (Nat → Int32)} {d : Nat} (n : Nat) (x2 : Int32) (a3 : Nat) (S20 : St) : ex X d 83 122 [.ref 23, .ref 1, .int x2, .ref a3] [.ref a3] (hh S20) (n + 2) = if (kd a3).1 = 10 + 0 ∧ (xf_k 0 8 = 0 ∨ (xf_k 0 8 = 1 ∧ ((0 : Int32) = 0 ∨ (0 : Int32) = 1))) then ex X d 83 126 [.ref 23, .ref 1, .int x2, .ref a3] [] (hh (xa_u S20.1 a3 8 0, S20.2.1, S20.2.2)) n else none := rfl
theorem B_83_17 {X : Nat × (Nat → Int32)} {d : Nat} (n : Nat) (x2 : Int32) (a3 : Nat) (S2 : St) : ex X (d + 1) 83 129 [.ref 23, .ref 1, .int x2, .ref a3] [] (hh S2) (n + 4) = (match ex X d 84 0 [.ref 23, .ref a3, .int x2, .retAddr 0, .retAddr 0] [] (hh S2) n with | some (v, h') => ex X (d + 1) 83 135 [.ref 23, .ref 1, .int x2, .ref a3] (v.toList ++ []) h' n | none => none) := rfl
set_option maxRecDepth 200000 in
theorem T_83 {X : Nat × (Nat → Int32)} (S : St) (x2 : Int32) (r : Unit) (S' : St) (hG : G_83 S x2 = some (r, S')) : Ev X 3 83 0 [.ref 23, .ref 1, .int x2, .retAddr 0] [] (hh S) (xV r, hh S') := by
  unfold G_83 at hG
  rcases h1 : G_76 S with _ | ⟨v1, S1⟩
  · rw [h1] at hG; cases hG
  rw [h1] at hG
  dsimp only at hG
  refine Ev.c (a := 76) (A := [.ref 23, .retAddr 0]) (h1 := hh S) (pc' := 5) (L' := [.ref 23, .ref 1, .int x2, .retAddr 0]) (rest := [.ref 1]) (r1 := some (.int v1)) (h2 := hh S1) 3 (fun n => B_83_1 n x2 S) (Ev.up (by decide) (T_76 S  _ _ h1)) ?_
  show Ev X _ 83 5 [.ref 23, .ref 1, .int x2, .retAddr 0] [.int v1, .ref 1] (hh S1) _
  rcases h2 : G_55 S1 v1 with _ | ⟨v2, S2⟩
  · rw [h2] at hG; cases hG
  rw [h2] at hG
  dsimp only at hG
  refine Ev.c (a := 55) (A := [.ref 1, .int v1]) (h1 := hh S1) (pc' := 8) (L' := [.ref 23, .ref 1, .int x2, .retAddr 0]) (rest := []) (r1 := some (va_rf v2)) (h2 := hh S2) 1 (fun n => B_83_2 n x2 v1 S1) (Ev.up (by decide) (T_55 S1 v1 _ _ h2)) ?_
  rcases v2 with _ | a3
  · dsimp only at hG
    show Ev X _ 83 8 [.ref 23, .ref 1, .int x2, .retAddr 0] [.null] (hh S2) _
    obtain ⟨e1, e2⟩ := Prod.mk.inj (Option.some.inj hG)
    subst e1
    subst e2
    exact Ev.r 4 (fun n => rfl)
  · dsimp only at hG
    show Ev X _ 83 8 [.ref 23, .ref 1, .int x2, .retAddr 0] [.ref a3] (hh S2) _
    refine Ev.sw (ks := [(10, 60), (12, 68), (14, 79), (15, 90), (16, 98), (17, 109)]) (x := x2) (df := 129) (L1 := [.ref 23, .ref 1, .int x2, .ref a3]) (s1 := []) (h1 := hh S2) 5 (fun n => B_83_3 n x2 a3 S2) ?_
    by_cases c4 : x2 = 10
    · rw [if_pos c4] at hG
      rw [xa_sw, if_pos c4]
      show Ev X _ 83 60 [.ref 23, .ref 1, .int x2, .ref a3] [] (hh S2) _
      by_cases g5 : (kd a3).1 = 10 + 0
      rotate_left
      · rw [if_neg g5] at hG; cases hG
      rw [if_pos g5] at hG
      refine Ev.g (c := (kd a3).1 = 10 + 0 ∧ (xf_k 0 7 = 0 ∨ (xf_k 0 7 = 1 ∧ ((0 : Int32) = 0 ∨ (0 : Int32) = 1)))) (p1 := 65) (L1 := [.ref 23, .ref 1, .int x2, .ref a3]) (s1 := []) (h1 := hh (xa_u S2.1 a3 7 0, S2.2.1, S2.2.2)) 3 (fun n => B_83_4 n x2 a3 S2) (⟨g5, Or.inr ⟨rfl, by decide⟩⟩) ?_
      obtain ⟨e1, e2⟩ := Prod.mk.inj (Option.some.inj hG)
      subst e1
      subst e2
      exact Ev.r 2 (fun n => rfl)
    rw [if_neg c4] at hG
    rw [xa_sw, if_neg c4]
    by_cases c6 : x2 = 12
    · rw [if_pos c6] at hG
      rw [xa_sw, if_pos c6]
      show Ev X _ 83 68 [.ref 23, .ref 1, .int x2, .ref a3] [] (hh S2) _
      rcases h7 : G_76 S2 with _ | ⟨v7, S7⟩
      · rw [h7] at hG; cases hG
      rw [h7] at hG
      dsimp only at hG
      refine Ev.c (a := 76) (A := [.ref 23, .retAddr 0]) (h1 := hh S2) (pc' := 73) (L' := [.ref 23, .ref 1, .int x2, .ref a3]) (rest := [.ref a3]) (r1 := some (.int v7)) (h2 := hh S7) 3 (fun n => B_83_5 n x2 a3 S2) (Ev.up (by decide) (T_76 S2  _ _ h7)) ?_
      show Ev X _ 83 73 [.ref 23, .ref 1, .int x2, .ref a3] [.int v7, .ref a3] (hh S7) _
      by_cases g9 : (kd a3).1 = 10 + 0
      rotate_left
      · rw [if_neg g9] at hG; cases hG
      rw [if_pos g9] at hG
      rcases h8 : G_14 S7 a3 v7 with _ | ⟨v8, S8⟩
      · rw [h8] at hG; cases hG
      rw [h8] at hG
      dsimp only at hG
      refine Ev.cg (c := (xm_o 14 = 200 ∧ 2000 ≤ a3 ∧ a3 < 2000 + xS_n) ∨ (xm_o 14 ≠ 200 ∧ (kd a3).1 = 10 + xm_o 14)) (a := 14) (A := [.ref a3, .int v7]) (h1 := hh S7) (pc' := 76) (L' := [.ref 23, .ref 1, .int x2, .ref a3]) (rest := []) (r1 := none) (h2 := hh S8) 1 (fun n => B_83_6 n x2 a3 v7 S7) (Or.inr ⟨by decide, g9⟩) (Ev.up (by decide) (T_14 S7 a3 v7 _ _ h8)) ?_
      show Ev X _ 83 76 [.ref 23, .ref 1, .int x2, .ref a3] [] (hh S8) _
      obtain ⟨e1, e2⟩ := Prod.mk.inj (Option.some.inj hG)
      subst e1
      subst e2
      exact Ev.r 2 (fun n => rfl)
    rw [if_neg c6] at hG
    rw [xa_sw, if_neg c6]
    by_cases c10 : x2 = 14
    · rw [if_pos c10] at hG
      rw [xa_sw, if_pos c10]
      show Ev X _ 83 79 [.ref 23, .ref 1, .int x2, .ref a3] [] (hh S2) _
      rcases h11 : G_76 S2 with _ | ⟨v11, S11⟩
      · rw [h11] at hG; cases hG
      rw [h11] at hG
      dsimp only at hG
      refine Ev.c (a := 76) (A := [.ref 23, .retAddr 0]) (h1 := hh S2) (pc' := 84) (L' := [.ref 23, .ref 1, .int x2, .ref a3]) (rest := [.ref a3]) (r1 := some (.int v11)) (h2 := hh S11) 3 (fun n => B_83_7 n x2 a3 S2) (Ev.up (by decide) (T_76 S2  _ _ h11)) ?_
      show Ev X _ 83 84 [.ref 23, .ref 1, .int x2, .ref a3] [.int v11, .ref a3] (hh S11) _
      by_cases g13 : (kd a3).1 = 10 + 0
      rotate_left
      · rw [if_neg g13] at hG; cases hG
      rw [if_pos g13] at hG
      rcases h12 : G_15 S11 a3 v11 with _ | ⟨v12, S12⟩
      · rw [h12] at hG; cases hG
      rw [h12] at hG
      dsimp only at hG
      refine Ev.cg (c := (xm_o 15 = 200 ∧ 2000 ≤ a3 ∧ a3 < 2000 + xS_n) ∨ (xm_o 15 ≠ 200 ∧ (kd a3).1 = 10 + xm_o 15)) (a := 15) (A := [.ref a3, .int v11]) (h1 := hh S11) (pc' := 87) (L' := [.ref 23, .ref 1, .int x2, .ref a3]) (rest := []) (r1 := none) (h2 := hh S12) 1 (fun n => B_83_8 n x2 a3 v11 S11) (Or.inr ⟨by decide, g13⟩) (Ev.up (by decide) (T_15 S11 a3 v11 _ _ h12)) ?_
      show Ev X _ 83 87 [.ref 23, .ref 1, .int x2, .ref a3] [] (hh S12) _
      obtain ⟨e1, e2⟩ := Prod.mk.inj (Option.some.inj hG)
      subst e1
      subst e2
      exact Ev.r 2 (fun n => rfl)
    rw [if_neg c10] at hG
    rw [xa_sw, if_neg c10]
    by_cases c14 : x2 = 15
    · rw [if_pos c14] at hG
      rw [xa_sw, if_pos c14]
      show Ev X _ 83 90 [.ref 23, .ref 1, .int x2, .ref a3] [] (hh S2) _
      by_cases g15 : (kd a3).1 = 10 + 0
      rotate_left
      · rw [if_neg g15] at hG; cases hG
      rw [if_pos g15] at hG
      refine Ev.g (c := (kd a3).1 = 10 + 0 ∧ (xf_k 0 5 = 0 ∨ (xf_k 0 5 = 1 ∧ ((3 : Int32) = 0 ∨ (3 : Int32) = 1)))) (p1 := 95) (L1 := [.ref 23, .ref 1, .int x2, .ref a3]) (s1 := []) (h1 := hh (xa_u S2.1 a3 5 3, S2.2.1, S2.2.2)) 3 (fun n => B_83_9 n x2 a3 S2) (⟨g15, Or.inl rfl⟩) ?_
      obtain ⟨e1, e2⟩ := Prod.mk.inj (Option.some.inj hG)
      subst e1
      subst e2
      exact Ev.r 2 (fun n => rfl)
    rw [if_neg c14] at hG
    rw [xa_sw, if_neg c14]
    by_cases c16 : x2 = 16
    · rw [if_pos c16] at hG
      rw [xa_sw, if_pos c16]
      show Ev X _ 83 98 [.ref 23, .ref 1, .int x2, .ref a3] [] (hh S2) _
      rcases h17 : G_76 S2 with _ | ⟨v17, S17⟩
      · rw [h17] at hG; cases hG
      rw [h17] at hG
      dsimp only at hG
      refine Ev.c (a := 76) (A := [.ref 23, .retAddr 0]) (h1 := hh S2) (pc' := 103) (L' := [.ref 23, .ref 1, .int x2, .ref a3]) (rest := [.ref a3]) (r1 := some (.int v17)) (h2 := hh S17) 3 (fun n => B_83_10 n x2 a3 S2) (Ev.up (by decide) (T_76 S2  _ _ h17)) ?_
      show Ev X _ 83 103 [.ref 23, .ref 1, .int x2, .ref a3] [.int v17, .ref a3] (hh S17) _
      by_cases g18 : (kd a3).1 = 10 + 0
      rotate_left
      · rw [if_neg g18] at hG; cases hG
      rw [if_pos g18] at hG
      refine Ev.g (c := (kd a3).1 = 10 + 0 ∧ (xf_k 0 6 = 0 ∨ (xf_k 0 6 = 1 ∧ (v17 = 0 ∨ v17 = 1)))) (p1 := 106) (L1 := [.ref 23, .ref 1, .int x2, .ref a3]) (s1 := []) (h1 := hh (xa_u S17.1 a3 6 v17, S17.2.1, S17.2.2)) 1 (fun n => B_83_11 n x2 a3 v17 S17) (⟨g18, Or.inl rfl⟩) ?_
      obtain ⟨e1, e2⟩ := Prod.mk.inj (Option.some.inj hG)
      subst e1
      subst e2
      exact Ev.r 2 (fun n => rfl)
    rw [if_neg c16] at hG
    rw [xa_sw, if_neg c16]
    by_cases c19 : x2 = 17
    · rw [if_pos c19] at hG
      rw [xa_sw, if_pos c19]
      show Ev X _ 83 109 [.ref 23, .ref 1, .int x2, .ref a3] [] (hh S2) _
      rcases h20 : G_76 S2 with _ | ⟨v20, S20⟩
      · rw [h20] at hG; cases hG
      rw [h20] at hG
      dsimp only at hG
      refine Ev.c (a := 76) (A := [.ref 23, .retAddr 0]) (h1 := hh S2) (pc' := 114) (L' := [.ref 23, .ref 1, .int x2, .ref a3]) (rest := [.ref a3]) (r1 := some (.int v20)) (h2 := hh S20) 3 (fun n => B_83_12 n x2 a3 S2) (Ev.up (by decide) (T_76 S2  _ _ h20)) ?_
      show Ev X _ 83 114 [.ref 23, .ref 1, .int x2, .ref a3] [.int v20, .ref a3] (hh S20) _
      by_cases c21 : v20 = 1
      · rw [if_pos c21] at hG
        refine Ev.t (c := v20 = 1) (p1 := 118) (L1 := [.ref 23, .ref 1, .int x2, .ref a3]) (s1 := [.ref a3]) (h1 := hh S20) (p2 := 122) (L2 := [.ref 23, .ref 1, .int x2, .ref a3]) (s2 := [.ref a3]) (h2 := hh S20) 2 (fun n => B_83_13 n x2 a3 v20 S20) c21 ?_
        by_cases g22 : (kd a3).1 = 10 + 0
        rotate_left
        · rw [if_neg g22] at hG; cases hG
        rw [if_pos g22] at hG
        refine Ev.g (c := (kd a3).1 = 10 + 0 ∧ (xf_k 0 8 = 0 ∨ (xf_k 0 8 = 1 ∧ ((1 : Int32) = 0 ∨ (1 : Int32) = 1)))) (p1 := 126) (L1 := [.ref 23, .ref 1, .int x2, .ref a3]) (s1 := []) (h1 := hh (xa_u S20.1 a3 8 1, S20.2.1, S20.2.2)) 3 (fun n => B_83_14 n x2 a3 S20) (⟨g22, Or.inr ⟨rfl, by decide⟩⟩) ?_
        obtain ⟨e1, e2⟩ := Prod.mk.inj (Option.some.inj hG)
        subst e1
        subst e2
        exact Ev.r 2 (fun n => rfl)
      · rw [if_neg c21] at hG
        refine Ev.f (c := v20 = 1) (p1 := 118) (L1 := [.ref 23, .ref 1, .int x2, .ref a3]) (s1 := [.ref a3]) (h1 := hh S20) (p2 := 122) (L2 := [.ref 23, .ref 1, .int x2, .ref a3]) (s2 := [.ref a3]) (h2 := hh S20) 2 (fun n => B_83_15 n x2 a3 v20 S20) c21 ?_
        by_cases g23 : (kd a3).1 = 10 + 0
        rotate_left
        · rw [if_neg g23] at hG; cases hG
        rw [if_pos g23] at hG
        refine Ev.g (c := (kd a3).1 = 10 + 0 ∧ (xf_k 0 8 = 0 ∨ (xf_k 0 8 = 1 ∧ ((0 : Int32) = 0 ∨ (0 : Int32) = 1)))) (p1 := 126) (L1 := [.ref 23, .ref 1, .int x2, .ref a3]) (s1 := []) (h1 := hh (xa_u S20.1 a3 8 0, S20.2.1, S20.2.2)) 2 (fun n => B_83_16 n x2 a3 S20) (⟨g23, Or.inr ⟨rfl, by decide⟩⟩) ?_
        obtain ⟨e1, e2⟩ := Prod.mk.inj (Option.some.inj hG)
        subst e1
        subst e2
        exact Ev.r 2 (fun n => rfl)
    rw [if_neg c19] at hG
    rw [xa_sw, if_neg c19]
    rw [xa_sw]
    show Ev X _ 83 129 [.ref 23, .ref 1, .int x2, .ref a3] [] (hh S2) _
    rcases h24 : G_84 S2 a3 x2 with _ | ⟨v24, S24⟩
    · rw [h24] at hG; cases hG
    rw [h24] at hG
    dsimp only at hG
    refine Ev.c (a := 84) (A := [.ref 23, .ref a3, .int x2, .retAddr 0, .retAddr 0]) (h1 := hh S2) (pc' := 135) (L' := [.ref 23, .ref 1, .int x2, .ref a3]) (rest := []) (r1 := none) (h2 := hh S24) 4 (fun n => B_83_17 n x2 a3 S2) (Ev.up (by decide) (T_84 S2 a3 x2 _ _ h24)) ?_
    show Ev X _ 83 135 [.ref 23, .ref 1, .int x2, .ref a3] [] (hh S24) _
    obtain ⟨e1, e2⟩ := Prod.mk.inj (Option.some.inj hG)
    subst e1
    subst e2
    exact Ev.r 1 (fun n => rfl)
/-- 96: SceneCycle$Motion.markGround(LSceneCycle$World;LSceneCycle$Actor;)V -/
def G_96 (S : St) (x1 : Nat) : Option (Unit × St) :=
  (if (kd x1).1 = 10 + 0 then
    (match G_45 S (3 : Int32) (S.1 x1 0) (S.1 x1 1) (S.1 x1 2) with
    | none => none
    | some (v2, S2) =>
      (match G_45 S2 (2 : Int32) (S2.1 x1 0) (S2.1 x1 1) (S2.1 x1 2) with
      | none => none
      | some (v3, S3) =>
        (if v2 = (S3.1 x1 2) then
          (match G_53 S3 (0 : Int32) (1 : Int32) with
          | none => none
          | some (v5, S5) =>
            (if v3 ≤ 0 then
              (match G_53 S5 (1 : Int32) (0 : Int32) with
              | none => none
              | some (v7, S7) =>
                some ((), S7)
              )
            else
              (match G_53 S5 (1 : Int32) (1 : Int32) with
              | none => none
              | some (v8, S8) =>
                some ((), S8)
              )
            )
          )
        else
          (match G_53 S3 (0 : Int32) (0 : Int32) with
          | none => none
          | some (v9, S9) =>
            (if v3 ≤ 0 then
              (match G_53 S9 (1 : Int32) (0 : Int32) with
              | none => none
              | some (v11, S11) =>
                some ((), S11)
              )
            else
              (match G_53 S9 (1 : Int32) (1 : Int32) with
              | none => none
              | some (v12, S12) =>
                some ((), S12)
              )
            )
          )
        )
      )
    )
  else none)
theorem B_96_1 {X : Nat × (Nat → Int32)} {d : Nat} (n : Nat) (x1 : Nat) (S : St) : ex X d 96 0 [.ref 1, .ref x1, .retAddr 0, .retAddr 0] [] (hh S) (n + 5) = if (kd x1).1 = 10 + 0 then ex X d 96 9 [.ref 1, .ref x1, .retAddr 0, .retAddr 0] [.int (S.1 x1 0), .int 3, .ref 2] (hh S) n else none := rfl
theorem B_96_2 {X : Nat × (Nat → Int32)} {d : Nat} (n : Nat) (x1 : Nat) (S : St) : ex X d 96 9 [.ref 1, .ref x1, .retAddr 0, .retAddr 0] [.int (S.1 x1 0), .int 3, .ref 2] (hh S) (n + 2) = if (kd x1).1 = 10 + 0 then ex X d 96 13 [.ref 1, .ref x1, .retAddr 0, .retAddr 0] [.int (S.1 x1 1), .int (S.1 x1 0), .int 3, .ref 2] (hh S) n else none := rfl
theorem B_96_3 {X : Nat × (Nat → Int32)} {d : Nat} (n : Nat) (x1 : Nat) (S : St) : ex X d 96 13 [.ref 1, .ref x1, .retAddr 0, .retAddr 0] [.int (S.1 x1 1), .int (S.1 x1 0), .int 3, .ref 2] (hh S) (n + 2) = if (kd x1).1 = 10 + 0 then ex X d 96 17 [.ref 1, .ref x1, .retAddr 0, .retAddr 0] [.int (S.1 x1 2), .int (S.1 x1 1), .int (S.1 x1 0), .int 3, .ref 2] (hh S) n else none := rfl
theorem B_96_4 {X : Nat × (Nat → Int32)} {d : Nat} (n : Nat) (x1 : Nat) (S : St) : ex X (d + 1) 96 17 [.ref 1, .ref x1, .retAddr 0, .retAddr 0] [.int (S.1 x1 2), .int (S.1 x1 1), .int (S.1 x1 0), .int 3, .ref 2] (hh S) (n + 1) = (match ex X d 45 0 [.ref 2, .int 3, .int (S.1 x1 0), .int (S.1 x1 1), .int (S.1 x1 2), .retAddr 0, .retAddr 0] [] (hh S) n with | some (v, h') => ex X (d + 1) 96 20 [.ref 1, .ref x1, .retAddr 0, .retAddr 0] (v.toList ++ []) h' n | none => none) := rfl
theorem B_96_5 {X : Nat × (Nat → Int32)} {d : Nat} (n : Nat) (x1 : Nat) (v2 : Int32) (S2 : St) : ex X d 96 20 [.ref 1, .ref x1, .retAddr 0, .retAddr 0] [.int v2] (hh S2) (n + 6) = if (kd x1).1 = 10 + 0 then ex X d 96 30 [.ref 1, .ref x1, .int v2, .retAddr 0] [.int (S2.1 x1 0), .int 2, .ref 2] (hh S2) n else none := rfl
theorem B_96_6 {X : Nat × (Nat → Int32)} {d : Nat} (n : Nat) (x1 : Nat) (v2 : Int32) (S2 : St) : ex X d 96 30 [.ref 1, .ref x1, .int v2, .retAddr 0] [.int (S2.1 x1 0), .int 2, .ref 2] (hh S2) (n + 2) = if (kd x1).1 = 10 + 0 then ex X d 96 34 [.ref 1, .ref x1, .int v2, .retAddr 0] [.int (S2.1 x1 1), .int (S2.1 x1 0), .int 2, .ref 2] (hh S2) n else none := rfl
theorem B_96_7 {X : Nat × (Nat → Int32)} {d : Nat} (n : Nat) (x1 : Nat) (v2 : Int32) (S2 : St) : ex X d 96 34 [.ref 1, .ref x1, .int v2, .retAddr 0] [.int (S2.1 x1 1), .int (S2.1 x1 0), .int 2, .ref 2] (hh S2) (n + 2) = if (kd x1).1 = 10 + 0 then ex X d 96 38 [.ref 1, .ref x1, .int v2, .retAddr 0] [.int (S2.1 x1 2), .int (S2.1 x1 1), .int (S2.1 x1 0), .int 2, .ref 2] (hh S2) n else none := rfl
theorem B_96_8 {X : Nat × (Nat → Int32)} {d : Nat} (n : Nat) (x1 : Nat) (v2 : Int32) (S2 : St) : ex X (d + 1) 96 38 [.ref 1, .ref x1, .int v2, .retAddr 0] [.int (S2.1 x1 2), .int (S2.1 x1 1), .int (S2.1 x1 0), .int 2, .ref 2] (hh S2) (n + 1) = (match ex X d 45 0 [.ref 2, .int 2, .int (S2.1 x1 0), .int (S2.1 x1 1), .int (S2.1 x1 2), .retAddr 0, .retAddr 0] [] (hh S2) n with | some (v, h') => ex X (d + 1) 96 41 [.ref 1, .ref x1, .int v2, .retAddr 0] (v.toList ++ []) h' n | none => none) := rfl
theorem B_96_9 {X : Nat × (Nat → Int32)} {d : Nat} (n : Nat) (x1 : Nat) (v2 : Int32) (v3 : Int32) (S3 : St) : ex X d 96 41 [.ref 1, .ref x1, .int v2, .retAddr 0] [.int v3] (hh S3) (n + 6) = if (kd x1).1 = 10 + 0 then ex X d 96 49 [.ref 1, .ref x1, .int v2, .int v3] [.int (S3.1 x1 2), .int v2, .int 0, .ref 1] (hh S3) n else none := rfl
theorem B_96_10 {X : Nat × (Nat → Int32)} {d : Nat} (n : Nat) (x1 : Nat) (v2 : Int32) (v3 : Int32) (S3 : St) : ex X d 96 49 [.ref 1, .ref x1, .int v2, .int v3] [.int (S3.1 x1 2), .int v2, .int 0, .ref 1] (hh S3) (n + 1) = if v2 = (S3.1 x1 2) then ex X d 96 52 [.ref 1, .ref x1, .int v2, .int v3] [.int 0, .ref 1] (hh S3) n else ex X d 96 56 [.ref 1, .ref x1, .int v2, .int v3] [.int 0, .ref 1] (hh S3) n := rfl
theorem B_96_11 {X : Nat × (Nat → Int32)} {d : Nat} (n : Nat) (x1 : Nat) (v2 : Int32) (v3 : Int32) (S3 : St) : ex X (d + 1) 96 52 [.ref 1, .ref x1, .int v2, .int v3] [.int 0, .ref 1] (hh S3) (n + 3) = (match ex X d 53 0 [.ref 1, .int 0, .int 1] [] (hh S3) n with | some (v, h') => ex X (d + 1) 96 60 [.ref 1, .ref x1, .int v2, .int v3] (v.toList ++ []) h' n | none => none) := rfl
theorem B_96_12 {X : Nat × (Nat → Int32)} {d : Nat} (n : Nat) (x1 : Nat) (v2 : Int32) (v3 : Int32) (v5 : Int32) (S5 : St) : ex X d 96 60 [.ref 1, .ref x1, .int v2, .int v3] [.int v5] (hh S5) (n + 5) = if v3 ≤ 0 then ex X d 96 71 [.ref 1, .ref x1, .int v2, .int v3] [.int 1, .ref 1] (hh S5) n else ex X d 96 67 [.ref 1, .ref x1, .int v2, .int v3] [.int 1, .ref 1] (hh S5) n := rfl
theorem B_96_13 {X : Nat × (Nat → Int32)} {d : Nat} (n : Nat) (x1 : Nat) (v2 : Int32) (v3 : Int32) (S5 : St) : ex X (d + 1) 96 71 [.ref 1, .ref x1, .int v2, .int v3] [.int 1, .ref 1] (hh S5) (n + 2) = (match ex X d 53 0 [.ref 1, .int 1, .int 0] [] (hh S5) n with | some (v, h') => ex X (d + 1) 96 75 [.ref 1, .ref x1, .int v2, .int v3] (v.toList ++ []) h' n | none => none) := rfl
theorem B_96_14 {X : Nat × (Nat → Int32)} {d : Nat} (n : Nat) (x1 : Nat) (v2 : Int32) (v3 : Int32) (v5 : Int32) (S5 : St) : ex X d 96 60 [.ref 1, .ref x1, .int v2, .int v3] [.int v5] (hh S5) (n + 5) = if v3 ≤ 0 then ex X d 96 71 [.ref 1, .ref x1, .int v2, .int v3] [.int 1, .ref 1] (hh S5) n else ex X d 96 67 [.ref 1, .ref x1, .int v2, .int v3] [.int 1, .ref 1] (hh S5) n := rfl
theorem B_96_15 {X : Nat × (Nat → Int32)} {d : Nat} (n : Nat) (x1 : Nat) (v2 : Int32) (v3 : Int32) (S5 : St) : ex X (d + 1) 96 67 [.ref 1, .ref x1, .int v2, .int v3] [.int 1, .ref 1] (hh S5) (n + 3) = (match ex X d 53 0 [.ref 1, .int 1, .int 1] [] (hh S5) n with | some (v, h') => ex X (d + 1) 96 75 [.ref 1, .ref x1, .int v2, .int v3] (v.toList ++ []) h' n | none => none) := rfl
theorem B_96_16 {X : Nat × (Nat → Int32)} {d : Nat} (n : Nat) (x1 : Nat) (v2 : Int32) (v3 : Int32) (S3 : St) : ex X d 96 49 [.ref 1, .ref x1, .int v2, .int v3] [.int (S3.1 x1 2), .int v2, .int 0, .ref 1] (hh S3) (n + 1) = if v2 = (S3.1 x1 2) then ex X d 96 52 [.ref 1, .ref x1, .int v2, .int v3] [.int 0, .ref 1] (hh S3) n else ex X d 96 56 [.ref 1, .ref x1, .int v2, .int v3] [.int 0, .ref 1] (hh S3) n := rfl
theorem B_96_17 {X : Nat × (Nat → Int32)} {d : Nat} (n : Nat) (x1 : Nat) (v2 : Int32) (v3 : Int32) (S3 : St) : ex X (d + 1) 96 56 [.ref 1, .ref x1, .int v2, .int v3] [.int 0, .ref 1] (hh S3) (n + 2) = (match ex X d 53 0 [.ref 1, .int 0, .int 0] [] (hh S3) n with | some (v, h') => ex X (d + 1) 96 60 [.ref 1, .ref x1, .int v2, .int v3] (v.toList ++ []) h' n | none => none) := rfl
theorem B_96_18 {X : Nat × (Nat → Int32)} {d : Nat} (n : Nat) (x1 : Nat) (v2 : Int32) (v3 : Int32) (v9 : Int32) (S9 : St) : ex X d 96 60 [.ref 1, .ref x1, .int v2, .int v3] [.int v9] (hh S9) (n + 5) = if v3 ≤ 0 then ex X d 96 71 [.ref 1, .ref x1, .int v2, .int v3] [.int 1, .ref 1] (hh S9) n else ex X d 96 67 [.ref 1, .ref x1, .int v2, .int v3] [.int 1, .ref 1] (hh S9) n := rfl
theorem B_96_19 {X : Nat × (Nat → Int32)} {d : Nat} (n : Nat) (x1 : Nat) (v2 : Int32) (v3 : Int32) (S9 : St) : ex X (d + 1) 96 71 [.ref 1, .ref x1, .int v2, .int v3] [.int 1, .ref 1] (hh S9) (n + 2) = (match ex X d 53 0 [.ref 1, .int 1, .int 0] [] (hh S9) n with | some (v, h') => ex X (d + 1) 96 75 [.ref 1, .ref x1, .int v2, .int v3] (v.toList ++ []) h' n | none => none) := rfl
theorem B_96_20 {X : Nat × (Nat → Int32)} {d : Nat} (n : Nat) (x1 : Nat) (v2 : Int32) (v3 : Int32) (v9 : Int32) (S9 : St) : ex X d 96 60 [.ref 1, .ref x1, .int v2, .int v3] [.int v9] (hh S9) (n + 5) = if v3 ≤ 0 then ex X d 96 71 [.ref 1, .ref x1, .int v2, .int v3] [.int 1, .ref 1] (hh S9) n else ex X d 96 67 [.ref 1, .ref x1, .int v2, .int v3] [.int 1, .ref 1] (hh S9) n := rfl
theorem B_96_21 {X : Nat × (Nat → Int32)} {d : Nat} (n : Nat) (x1 : Nat) (v2 : Int32) (v3 : Int32) (S9 : St) : ex X (d + 1) 96 67 [.ref 1, .ref x1, .int v2, .int v3] [.int 1, .ref 1] (hh S9) (n + 3) = (match ex X d 53 0 [.ref 1, .int 1, .int 1] [] (hh S9) n with | some (v, h') => ex X (d + 1) 96 75 [.ref 1, .ref x1, .int v2, .int v3] (v.toList ++ []) h' n | none => none) := rfl
set_option maxRecDepth 200000 in
theorem T_96 {X : Nat × (Nat → Int32)} (S : St) (x1 : Nat) (r : Unit) (S' : St) (hG : G_96 S x1 = some (r, S')) : Ev X 3 96 0 [.ref 1, .ref x1, .retAddr 0, .retAddr 0] [] (hh S) (xV r, hh S') := by
  unfold G_96 at hG
  by_cases g1 : (kd x1).1 = 10 + 0
  rotate_left
  · rw [if_neg g1] at hG; cases hG
  rw [if_pos g1] at hG
  refine Ev.g (c := (kd x1).1 = 10 + 0) (p1 := 9) (L1 := [.ref 1, .ref x1, .retAddr 0, .retAddr 0]) (s1 := [.int (S.1 x1 0), .int 3, .ref 2]) (h1 := hh S) 5 (fun n => B_96_1 n x1 S) g1 ?_
  refine Ev.g (c := (kd x1).1 = 10 + 0) (p1 := 13) (L1 := [.ref 1, .ref x1, .retAddr 0, .retAddr 0]) (s1 := [.int (S.1 x1 1), .int (S.1 x1 0), .int 3, .ref 2]) (h1 := hh S) 2 (fun n => B_96_2 n x1 S) g1 ?_
  refine Ev.g (c := (kd x1).1 = 10 + 0) (p1 := 17) (L1 := [.ref 1, .ref x1, .retAddr 0, .retAddr 0]) (s1 := [.int (S.1 x1 2), .int (S.1 x1 1), .int (S.1 x1 0), .int 3, .ref 2]) (h1 := hh S) 2 (fun n => B_96_3 n x1 S) g1 ?_
  rcases h2 : G_45 S (3 : Int32) (S.1 x1 0) (S.1 x1 1) (S.1 x1 2) with _ | ⟨v2, S2⟩
  · rw [h2] at hG; cases hG
  rw [h2] at hG
  dsimp only at hG
  refine Ev.c (a := 45) (A := [.ref 2, .int 3, .int (S.1 x1 0), .int (S.1 x1 1), .int (S.1 x1 2), .retAddr 0, .retAddr 0]) (h1 := hh S) (pc' := 20) (L' := [.ref 1, .ref x1, .retAddr 0, .retAddr 0]) (rest := []) (r1 := some (.int v2)) (h2 := hh S2) 1 (fun n => B_96_4 n x1 S) (Ev.up (by decide) (T_45 S (3 : Int32) (S.1 x1 0) (S.1 x1 1) (S.1 x1 2) _ _ h2)) ?_
  show Ev X _ 96 20 [.ref 1, .ref x1, .retAddr 0, .retAddr 0] [.int v2] (hh S2) _
  refine Ev.g (c := (kd x1).1 = 10 + 0) (p1 := 30) (L1 := [.ref 1, .ref x1, .int v2, .retAddr 0]) (s1 := [.int (S2.1 x1 0), .int 2, .ref 2]) (h1 := hh S2) 6 (fun n => B_96_5 n x1 v2 S2) g1 ?_
  refine Ev.g (c := (kd x1).1 = 10 + 0) (p1 := 34) (L1 := [.ref 1, .ref x1, .int v2, .retAddr 0]) (s1 := [.int (S2.1 x1 1), .int (S2.1 x1 0), .int 2, .ref 2]) (h1 := hh S2) 2 (fun n => B_96_6 n x1 v2 S2) g1 ?_
  refine Ev.g (c := (kd x1).1 = 10 + 0) (p1 := 38) (L1 := [.ref 1, .ref x1, .int v2, .retAddr 0]) (s1 := [.int (S2.1 x1 2), .int (S2.1 x1 1), .int (S2.1 x1 0), .int 2, .ref 2]) (h1 := hh S2) 2 (fun n => B_96_7 n x1 v2 S2) g1 ?_
  rcases h3 : G_45 S2 (2 : Int32) (S2.1 x1 0) (S2.1 x1 1) (S2.1 x1 2) with _ | ⟨v3, S3⟩
  · rw [h3] at hG; cases hG
  rw [h3] at hG
  dsimp only at hG
  refine Ev.c (a := 45) (A := [.ref 2, .int 2, .int (S2.1 x1 0), .int (S2.1 x1 1), .int (S2.1 x1 2), .retAddr 0, .retAddr 0]) (h1 := hh S2) (pc' := 41) (L' := [.ref 1, .ref x1, .int v2, .retAddr 0]) (rest := []) (r1 := some (.int v3)) (h2 := hh S3) 1 (fun n => B_96_8 n x1 v2 S2) (Ev.up (by decide) (T_45 S2 (2 : Int32) (S2.1 x1 0) (S2.1 x1 1) (S2.1 x1 2) _ _ h3)) ?_
  show Ev X _ 96 41 [.ref 1, .ref x1, .int v2, .retAddr 0] [.int v3] (hh S3) _
  refine Ev.g (c := (kd x1).1 = 10 + 0) (p1 := 49) (L1 := [.ref 1, .ref x1, .int v2, .int v3]) (s1 := [.int (S3.1 x1 2), .int v2, .int 0, .ref 1]) (h1 := hh S3) 6 (fun n => B_96_9 n x1 v2 v3 S3) g1 ?_
  by_cases c4 : v2 = (S3.1 x1 2)
  · rw [if_pos c4] at hG
    refine Ev.t (c := v2 = (S3.1 x1 2)) (p1 := 52) (L1 := [.ref 1, .ref x1, .int v2, .int v3]) (s1 := [.int 0, .ref 1]) (h1 := hh S3) (p2 := 56) (L2 := [.ref 1, .ref x1, .int v2, .int v3]) (s2 := [.int 0, .ref 1]) (h2 := hh S3) 1 (fun n => B_96_10 n x1 v2 v3 S3) c4 ?_
    rcases h5 : G_53 S3 (0 : Int32) (1 : Int32) with _ | ⟨v5, S5⟩
    · rw [h5] at hG; cases hG
    rw [h5] at hG
    dsimp only at hG
    refine Ev.c (a := 53) (A := [.ref 1, .int 0, .int 1]) (h1 := hh S3) (pc' := 60) (L' := [.ref 1, .ref x1, .int v2, .int v3]) (rest := []) (r1 := some (.int v5)) (h2 := hh S5) 3 (fun n => B_96_11 n x1 v2 v3 S3) (Ev.up (by decide) (T_53 S3 (0 : Int32) (1 : Int32) _ _ h5)) ?_
    show Ev X _ 96 60 [.ref 1, .ref x1, .int v2, .int v3] [.int v5] (hh S5) _
    by_cases c6 : v3 ≤ 0
    · rw [if_pos c6] at hG
      refine Ev.t (c := v3 ≤ 0) (p1 := 71) (L1 := [.ref 1, .ref x1, .int v2, .int v3]) (s1 := [.int 1, .ref 1]) (h1 := hh S5) (p2 := 67) (L2 := [.ref 1, .ref x1, .int v2, .int v3]) (s2 := [.int 1, .ref 1]) (h2 := hh S5) 5 (fun n => B_96_12 n x1 v2 v3 v5 S5) c6 ?_
      rcases h7 : G_53 S5 (1 : Int32) (0 : Int32) with _ | ⟨v7, S7⟩
      · rw [h7] at hG; cases hG
      rw [h7] at hG
      dsimp only at hG
      refine Ev.c (a := 53) (A := [.ref 1, .int 1, .int 0]) (h1 := hh S5) (pc' := 75) (L' := [.ref 1, .ref x1, .int v2, .int v3]) (rest := []) (r1 := some (.int v7)) (h2 := hh S7) 2 (fun n => B_96_13 n x1 v2 v3 S5) (Ev.up (by decide) (T_53 S5 (1 : Int32) (0 : Int32) _ _ h7)) ?_
      show Ev X _ 96 75 [.ref 1, .ref x1, .int v2, .int v3] [.int v7] (hh S7) _
      obtain ⟨e1, e2⟩ := Prod.mk.inj (Option.some.inj hG)
      subst e1
      subst e2
      exact Ev.r 2 (fun n => rfl)
    · rw [if_neg c6] at hG
      refine Ev.f (c := v3 ≤ 0) (p1 := 71) (L1 := [.ref 1, .ref x1, .int v2, .int v3]) (s1 := [.int 1, .ref 1]) (h1 := hh S5) (p2 := 67) (L2 := [.ref 1, .ref x1, .int v2, .int v3]) (s2 := [.int 1, .ref 1]) (h2 := hh S5) 5 (fun n => B_96_14 n x1 v2 v3 v5 S5) c6 ?_
      rcases h8 : G_53 S5 (1 : Int32) (1 : Int32) with _ | ⟨v8, S8⟩
      · rw [h8] at hG; cases hG
      rw [h8] at hG
      dsimp only at hG
      refine Ev.c (a := 53) (A := [.ref 1, .int 1, .int 1]) (h1 := hh S5) (pc' := 75) (L' := [.ref 1, .ref x1, .int v2, .int v3]) (rest := []) (r1 := some (.int v8)) (h2 := hh S8) 3 (fun n => B_96_15 n x1 v2 v3 S5) (Ev.up (by decide) (T_53 S5 (1 : Int32) (1 : Int32) _ _ h8)) ?_
      show Ev X _ 96 75 [.ref 1, .ref x1, .int v2, .int v3] [.int v8] (hh S8) _
      obtain ⟨e1, e2⟩ := Prod.mk.inj (Option.some.inj hG)
      subst e1
      subst e2
      exact Ev.r 2 (fun n => rfl)
  · rw [if_neg c4] at hG
    refine Ev.f (c := v2 = (S3.1 x1 2)) (p1 := 52) (L1 := [.ref 1, .ref x1, .int v2, .int v3]) (s1 := [.int 0, .ref 1]) (h1 := hh S3) (p2 := 56) (L2 := [.ref 1, .ref x1, .int v2, .int v3]) (s2 := [.int 0, .ref 1]) (h2 := hh S3) 1 (fun n => B_96_16 n x1 v2 v3 S3) c4 ?_
    rcases h9 : G_53 S3 (0 : Int32) (0 : Int32) with _ | ⟨v9, S9⟩
    · rw [h9] at hG; cases hG
    rw [h9] at hG
    dsimp only at hG
    refine Ev.c (a := 53) (A := [.ref 1, .int 0, .int 0]) (h1 := hh S3) (pc' := 60) (L' := [.ref 1, .ref x1, .int v2, .int v3]) (rest := []) (r1 := some (.int v9)) (h2 := hh S9) 2 (fun n => B_96_17 n x1 v2 v3 S3) (Ev.up (by decide) (T_53 S3 (0 : Int32) (0 : Int32) _ _ h9)) ?_
    show Ev X _ 96 60 [.ref 1, .ref x1, .int v2, .int v3] [.int v9] (hh S9) _
    by_cases c10 : v3 ≤ 0
    · rw [if_pos c10] at hG
      refine Ev.t (c := v3 ≤ 0) (p1 := 71) (L1 := [.ref 1, .ref x1, .int v2, .int v3]) (s1 := [.int 1, .ref 1]) (h1 := hh S9) (p2 := 67) (L2 := [.ref 1, .ref x1, .int v2, .int v3]) (s2 := [.int 1, .ref 1]) (h2 := hh S9) 5 (fun n => B_96_18 n x1 v2 v3 v9 S9) c10 ?_
      rcases h11 : G_53 S9 (1 : Int32) (0 : Int32) with _ | ⟨v11, S11⟩
      · rw [h11] at hG; cases hG
      rw [h11] at hG
      dsimp only at hG
      refine Ev.c (a := 53) (A := [.ref 1, .int 1, .int 0]) (h1 := hh S9) (pc' := 75) (L' := [.ref 1, .ref x1, .int v2, .int v3]) (rest := []) (r1 := some (.int v11)) (h2 := hh S11) 2 (fun n => B_96_19 n x1 v2 v3 S9) (Ev.up (by decide) (T_53 S9 (1 : Int32) (0 : Int32) _ _ h11)) ?_
      show Ev X _ 96 75 [.ref 1, .ref x1, .int v2, .int v3] [.int v11] (hh S11) _
      obtain ⟨e1, e2⟩ := Prod.mk.inj (Option.some.inj hG)
      subst e1
      subst e2
      exact Ev.r 2 (fun n => rfl)
    · rw [if_neg c10] at hG
      refine Ev.f (c := v3 ≤ 0) (p1 := 71) (L1 := [.ref 1, .ref x1, .int v2, .int v3]) (s1 := [.int 1, .ref 1]) (h1 := hh S9) (p2 := 67) (L2 := [.ref 1, .ref x1, .int v2, .int v3]) (s2 := [.int 1, .ref 1]) (h2 := hh S9) 5 (fun n => B_96_20 n x1 v2 v3 v9 S9) c10 ?_
      rcases h12 : G_53 S9 (1 : Int32) (1 : Int32) with _ | ⟨v12, S12⟩
      · rw [h12] at hG; cases hG
      rw [h12] at hG
      dsimp only at hG
      refine Ev.c (a := 53) (A := [.ref 1, .int 1, .int 1]) (h1 := hh S9) (pc' := 75) (L' := [.ref 1, .ref x1, .int v2, .int v3]) (rest := []) (r1 := some (.int v12)) (h2 := hh S12) 3 (fun n => B_96_21 n x1 v2 v3 S9) (Ev.up (by decide) (T_53 S9 (1 : Int32) (1 : Int32) _ _ h12)) ?_
      show Ev X _ 96 75 [.ref 1, .ref x1, .int v2, .int v3] [.int v12] (hh S12) _
      obtain ⟨e1, e2⟩ := Prod.mk.inj (Option.some.inj hG)
      subst e1
      subst e2
      exact Ev.r 2 (fun n => rfl)
/-- 91: SceneCycle$Motion.columnsOf(I)I -/
def G_91 (S : St) (x0 : Int32) : Option (Int32 × St) :=
  (if x0 < 2 then
    (if x0 < 6 then
      some (0, S)
    else
      some ((-1), S)
    )
  else
    (if 4 < x0 then
      (if x0 < 6 then
        some (0, S)
      else
        some ((-1), S)
      )
    else
      some (1, S)
    )
  )
theorem B_91_1 {X : Nat × (Nat → Int32)} {d : Nat} (n : Nat) (x0 : Int32) (S : St) : ex X d 91 0 [.int x0] [] (hh S) (n + 3) = if x0 < 2 then ex X d 91 12 [.int x0] [] (hh S) n else ex X d 91 5 [.int x0] [] (hh S) n := rfl
theorem B_91_2 {X : Nat × (Nat → Int32)} {d : Nat} (n : Nat) (x0 : Int32) (S : St) : ex X d 91 12 [.int x0] [] (hh S) (n + 3) = if x0 < 6 then ex X d 91 22 [.int x0] [] (hh S) n else ex X d 91 18 [.int x0] [] (hh S) n := rfl
theorem B_91_3 {X : Nat × (Nat → Int32)} {d : Nat} (n : Nat) (x0 : Int32) (S : St) : ex X d 91 12 [.int x0] [] (hh S) (n + 3) = if x0 < 6 then ex X d 91 22 [.int x0] [] (hh S) n else ex X d 91 18 [.int x0] [] (hh S) n := rfl
theorem B_91_4 {X : Nat × (Nat → Int32)} {d : Nat} (n : Nat) (x0 : Int32) (S : St) : ex X d 91 0 [.int x0] [] (hh S) (n + 3) = if x0 < 2 then ex X d 91 12 [.int x0] [] (hh S) n else ex X d 91 5 [.int x0] [] (hh S) n := rfl
theorem B_91_5 {X : Nat × (Nat → Int32)} {d : Nat} (n : Nat) (x0 : Int32) (S : St) : ex X d 91 5 [.int x0] [] (hh S) (n + 3) = if 4 < x0 then ex X d 91 12 [.int x0] [] (hh S) n else ex X d 91 10 [.int x0] [] (hh S) n := rfl
theorem B_91_6 {X : Nat × (Nat → Int32)} {d : Nat} (n : Nat) (x0 : Int32) (S : St) : ex X d 91 12 [.int x0] [] (hh S) (n + 3) = if x0 < 6 then ex X d 91 22 [.int x0] [] (hh S) n else ex X d 91 18 [.int x0] [] (hh S) n := rfl
theorem B_91_7 {X : Nat × (Nat → Int32)} {d : Nat} (n : Nat) (x0 : Int32) (S : St) : ex X d 91 12 [.int x0] [] (hh S) (n + 3) = if x0 < 6 then ex X d 91 22 [.int x0] [] (hh S) n else ex X d 91 18 [.int x0] [] (hh S) n := rfl
theorem B_91_8 {X : Nat × (Nat → Int32)} {d : Nat} (n : Nat) (x0 : Int32) (S : St) : ex X d 91 5 [.int x0] [] (hh S) (n + 3) = if 4 < x0 then ex X d 91 12 [.int x0] [] (hh S) n else ex X d 91 10 [.int x0] [] (hh S) n := rfl
set_option maxRecDepth 200000 in
theorem T_91 {X : Nat × (Nat → Int32)} (S : St) (x0 : Int32) (r : Int32) (S' : St) (hG : G_91 S x0 = some (r, S')) : Ev X 0 91 0 [.int x0] [] (hh S) (xI r, hh S') := by
  unfold G_91 at hG
  by_cases c1 : x0 < 2
  · rw [if_pos c1] at hG
    refine Ev.t (c := x0 < 2) (p1 := 12) (L1 := [.int x0]) (s1 := []) (h1 := hh S) (p2 := 5) (L2 := [.int x0]) (s2 := []) (h2 := hh S) 3 (fun n => B_91_1 n x0 S) c1 ?_
    by_cases c2 : x0 < 6
    · rw [if_pos c2] at hG
      refine Ev.t (c := x0 < 6) (p1 := 22) (L1 := [.int x0]) (s1 := []) (h1 := hh S) (p2 := 18) (L2 := [.int x0]) (s2 := []) (h2 := hh S) 3 (fun n => B_91_2 n x0 S) c2 ?_
      obtain ⟨e1, e2⟩ := Prod.mk.inj (Option.some.inj hG)
      subst e1
      subst e2
      exact Ev.r 2 (fun n => rfl)
    · rw [if_neg c2] at hG
      refine Ev.f (c := x0 < 6) (p1 := 22) (L1 := [.int x0]) (s1 := []) (h1 := hh S) (p2 := 18) (L2 := [.int x0]) (s2 := []) (h2 := hh S) 3 (fun n => B_91_3 n x0 S) c2 ?_
      obtain ⟨e1, e2⟩ := Prod.mk.inj (Option.some.inj hG)
      subst e1
      subst e2
      exact Ev.r 3 (fun n => rfl)
  · rw [if_neg c1] at hG
    refine Ev.f (c := x0 < 2) (p1 := 12) (L1 := [.int x0]) (s1 := []) (h1 := hh S) (p2 := 5) (L2 := [.int x0]) (s2 := []) (h2 := hh S) 3 (fun n => B_91_4 n x0 S) c1 ?_
    by_cases c3 : 4 < x0
    · rw [if_pos c3] at hG
      refine Ev.t (c := 4 < x0) (p1 := 12) (L1 := [.int x0]) (s1 := []) (h1 := hh S) (p2 := 10) (L2 := [.int x0]) (s2 := []) (h2 := hh S) 3 (fun n => B_91_5 n x0 S) c3 ?_
      by_cases c4 : x0 < 6
      · rw [if_pos c4] at hG
        refine Ev.t (c := x0 < 6) (p1 := 22) (L1 := [.int x0]) (s1 := []) (h1 := hh S) (p2 := 18) (L2 := [.int x0]) (s2 := []) (h2 := hh S) 3 (fun n => B_91_6 n x0 S) c4 ?_
        obtain ⟨e1, e2⟩ := Prod.mk.inj (Option.some.inj hG)
        subst e1
        subst e2
        exact Ev.r 2 (fun n => rfl)
      · rw [if_neg c4] at hG
        refine Ev.f (c := x0 < 6) (p1 := 22) (L1 := [.int x0]) (s1 := []) (h1 := hh S) (p2 := 18) (L2 := [.int x0]) (s2 := []) (h2 := hh S) 3 (fun n => B_91_7 n x0 S) c4 ?_
        obtain ⟨e1, e2⟩ := Prod.mk.inj (Option.some.inj hG)
        subst e1
        subst e2
        exact Ev.r 3 (fun n => rfl)
    · rw [if_neg c3] at hG
      refine Ev.f (c := 4 < x0) (p1 := 12) (L1 := [.int x0]) (s1 := []) (h1 := hh S) (p2 := 10) (L2 := [.int x0]) (s2 := []) (h2 := hh S) 3 (fun n => B_91_8 n x0 S) c3 ?_
      obtain ⟨e1, e2⟩ := Prod.mk.inj (Option.some.inj hG)
      subst e1
      subst e2
      exact Ev.r 2 (fun n => rfl)
/-- 92: SceneCycle$Motion.rowsOf(I)I -/
def G_92 (S : St) (x0 : Int32) : Option (Int32 × St) :=
  (if x0 < 4 then
    (if x0 = 8 then
      some ((-1), S)
    else
      (if x0 = 1 then
        some ((-1), S)
      else
        (if x0 = 2 then
          some ((-1), S)
        else
          some (0, S)
        )
      )
    )
  else
    (if 6 < x0 then
      (if x0 = 8 then
        some ((-1), S)
      else
        (if x0 = 1 then
          some ((-1), S)
        else
          (if x0 = 2 then
            some ((-1), S)
          else
            some (0, S)
          )
        )
      )
    else
      some (1, S)
    )
  )
theorem B_92_1 {X : Nat × (Nat → Int32)} {d : Nat} (n : Nat) (x0 : Int32) (S : St) : ex X d 92 0 [.int x0] [] (hh S) (n + 3) = if x0 < 4 then ex X d 92 13 [.int x0] [] (hh S) n else ex X d 92 5 [.int x0] [] (hh S) n := rfl
theorem B_92_2 {X : Nat × (Nat → Int32)} {d : Nat} (n : Nat) (x0 : Int32) (S : St) : ex X d 92 13 [.int x0] [] (hh S) (n + 3) = if x0 = 8 then ex X d 92 29 [.int x0] [] (hh S) n else ex X d 92 19 [.int x0] [] (hh S) n := rfl
theorem B_92_3 {X : Nat × (Nat → Int32)} {d : Nat} (n : Nat) (x0 : Int32) (S : St) : ex X d 92 13 [.int x0] [] (hh S) (n + 3) = if x0 = 8 then ex X d 92 29 [.int x0] [] (hh S) n else ex X d 92 19 [.int x0] [] (hh S) n := rfl
theorem B_92_4 {X : Nat × (Nat → Int32)} {d : Nat} (n : Nat) (x0 : Int32) (S : St) : ex X d 92 19 [.int x0] [] (hh S) (n + 3) = if x0 = 1 then ex X d 92 29 [.int x0] [] (hh S) n else ex X d 92 24 [.int x0] [] (hh S) n := rfl
theorem B_92_5 {X : Nat × (Nat → Int32)} {d : Nat} (n : Nat) (x0 : Int32) (S : St) : ex X d 92 19 [.int x0] [] (hh S) (n + 3) = if x0 = 1 then ex X d 92 29 [.int x0] [] (hh S) n else ex X d 92 24 [.int x0] [] (hh S) n := rfl
theorem B_92_6 {X : Nat × (Nat → Int32)} {d : Nat} (n : Nat) (x0 : Int32) (S : St) : ex X d 92 24 [.int x0] [] (hh S) (n + 3) = if x0 = 2 then ex X d 92 29 [.int x0] [] (hh S) n else ex X d 92 33 [.int x0] [] (hh S) n := rfl
theorem B_92_7 {X : Nat × (Nat → Int32)} {d : Nat} (n : Nat) (x0 : Int32) (S : St) : ex X d 92 24 [.int x0] [] (hh S) (n + 3) = if x0 = 2 then ex X d 92 29 [.int x0] [] (hh S) n else ex X d 92 33 [.int x0] [] (hh S) n := rfl
theorem B_92_8 {X : Nat × (Nat → Int32)} {d : Nat} (n : Nat) (x0 : Int32) (S : St) : ex X d 92 0 [.int x0] [] (hh S) (n + 3) = if x0 < 4 then ex X d 92 13 [.int x0] [] (hh S) n else ex X d 92 5 [.int x0] [] (hh S) n := rfl
theorem B_92_9 {X : Nat × (Nat → Int32)} {d : Nat} (n : Nat) (x0 : Int32) (S : St) : ex X d 92 5 [.int x0] [] (hh S) (n + 3) = if 6 < x0 then ex X d 92 13 [.int x0] [] (hh S) n else ex X d 92 11 [.int x0] [] (hh S) n := rfl
theorem B_92_10 {X : Nat × (Nat → Int32)} {d : Nat} (n : Nat) (x0 : Int32) (S : St) : ex X d 92 13 [.int x0] [] (hh S) (n + 3) = if x0 = 8 then ex X d 92 29 [.int x0] [] (hh S) n else ex X d 92 19 [.int x0] [] (hh S) n := rfl
theorem B_92_11 {X : Nat × (Nat → Int32)} {d : Nat} (n : Nat) (x0 : Int32) (S : St) : ex X d 92 13 [.int x0] [] (hh S) (n + 3) = if x0 = 8 then ex X d 92 29 [.int x0] [] (hh S) n else ex X d 92 19 [.int x0] [] (hh S) n := rfl
theorem B_92_12 {X : Nat × (Nat → Int32)} {d : Nat} (n : Nat) (x0 : Int32) (S : St) : ex X d 92 19 [.int x0] [] (hh S) (n + 3) = if x0 = 1 then ex X d 92 29 [.int x0] [] (hh S) n else ex X d 92 24 [.int x0] [] (hh S) n := rfl
theorem B_92_13 {X : Nat × (Nat → Int32)} {d : Nat} (n : Nat) (x0 : Int32) (S : St) : ex X d 92 19 [.int x0] [] (hh S) (n + 3) = if x0 = 1 then ex X d 92 29 [.int x0] [] (hh S) n else ex X d 92 24 [.int x0] [] (hh S) n := rfl
theorem B_92_14 {X : Nat × (Nat → Int32)} {d : Nat} (n : Nat) (x0 : Int32) (S : St) : ex X d 92 24 [.int x0] [] (hh S) (n + 3) = if x0 = 2 then ex X d 92 29 [.int x0] [] (hh S) n else ex X d 92 33 [.int x0] [] (hh S) n := rfl
theorem B_92_15 {X : Nat × (Nat → Int32)} {d : Nat} (n : Nat) (x0 : Int32) (S : St) : ex X d 92 24 [.int x0] [] (hh S) (n + 3) = if x0 = 2 then ex X d 92 29 [.int x0] [] (hh S) n else ex X d 92 33 [.int x0] [] (hh S) n := rfl
theorem B_92_16 {X : Nat × (Nat → Int32)} {d : Nat} (n : Nat) (x0 : Int32) (S : St) : ex X d 92 5 [.int x0] [] (hh S) (n + 3) = if 6 < x0 then ex X d 92 13 [.int x0] [] (hh S) n else ex X d 92 11 [.int x0] [] (hh S) n := rfl
set_option maxRecDepth 200000 in
theorem T_92 {X : Nat × (Nat → Int32)} (S : St) (x0 : Int32) (r : Int32) (S' : St) (hG : G_92 S x0 = some (r, S')) : Ev X 0 92 0 [.int x0] [] (hh S) (xI r, hh S') := by
  unfold G_92 at hG
  by_cases c1 : x0 < 4
  · rw [if_pos c1] at hG
    refine Ev.t (c := x0 < 4) (p1 := 13) (L1 := [.int x0]) (s1 := []) (h1 := hh S) (p2 := 5) (L2 := [.int x0]) (s2 := []) (h2 := hh S) 3 (fun n => B_92_1 n x0 S) c1 ?_
    by_cases c2 : x0 = 8
    · rw [if_pos c2] at hG
      refine Ev.t (c := x0 = 8) (p1 := 29) (L1 := [.int x0]) (s1 := []) (h1 := hh S) (p2 := 19) (L2 := [.int x0]) (s2 := []) (h2 := hh S) 3 (fun n => B_92_2 n x0 S) c2 ?_
      obtain ⟨e1, e2⟩ := Prod.mk.inj (Option.some.inj hG)
      subst e1
      subst e2
      exact Ev.r 3 (fun n => rfl)
    · rw [if_neg c2] at hG
      refine Ev.f (c := x0 = 8) (p1 := 29) (L1 := [.int x0]) (s1 := []) (h1 := hh S) (p2 := 19) (L2 := [.int x0]) (s2 := []) (h2 := hh S) 3 (fun n => B_92_3 n x0 S) c2 ?_
      by_cases c3 : x0 = 1
      · rw [if_pos c3] at hG
        refine Ev.t (c := x0 = 1) (p1 := 29) (L1 := [.int x0]) (s1 := []) (h1 := hh S) (p2 := 24) (L2 := [.int x0]) (s2 := []) (h2 := hh S) 3 (fun n => B_92_4 n x0 S) c3 ?_
        obtain ⟨e1, e2⟩ := Prod.mk.inj (Option.some.inj hG)
        subst e1
        subst e2
        exact Ev.r 3 (fun n => rfl)
      · rw [if_neg c3] at hG
        refine Ev.f (c := x0 = 1) (p1 := 29) (L1 := [.int x0]) (s1 := []) (h1 := hh S) (p2 := 24) (L2 := [.int x0]) (s2 := []) (h2 := hh S) 3 (fun n => B_92_5 n x0 S) c3 ?_
        by_cases c4 : x0 = 2
        · rw [if_pos c4] at hG
          refine Ev.t (c := x0 = 2) (p1 := 29) (L1 := [.int x0]) (s1 := []) (h1 := hh S) (p2 := 33) (L2 := [.int x0]) (s2 := []) (h2 := hh S) 3 (fun n => B_92_6 n x0 S) c4 ?_
          obtain ⟨e1, e2⟩ := Prod.mk.inj (Option.some.inj hG)
          subst e1
          subst e2
          exact Ev.r 3 (fun n => rfl)
        · rw [if_neg c4] at hG
          refine Ev.f (c := x0 = 2) (p1 := 29) (L1 := [.int x0]) (s1 := []) (h1 := hh S) (p2 := 33) (L2 := [.int x0]) (s2 := []) (h2 := hh S) 3 (fun n => B_92_7 n x0 S) c4 ?_
          obtain ⟨e1, e2⟩ := Prod.mk.inj (Option.some.inj hG)
          subst e1
          subst e2
          exact Ev.r 2 (fun n => rfl)
  · rw [if_neg c1] at hG
    refine Ev.f (c := x0 < 4) (p1 := 13) (L1 := [.int x0]) (s1 := []) (h1 := hh S) (p2 := 5) (L2 := [.int x0]) (s2 := []) (h2 := hh S) 3 (fun n => B_92_8 n x0 S) c1 ?_
    by_cases c5 : 6 < x0
    · rw [if_pos c5] at hG
      refine Ev.t (c := 6 < x0) (p1 := 13) (L1 := [.int x0]) (s1 := []) (h1 := hh S) (p2 := 11) (L2 := [.int x0]) (s2 := []) (h2 := hh S) 3 (fun n => B_92_9 n x0 S) c5 ?_
      by_cases c6 : x0 = 8
      · rw [if_pos c6] at hG
        refine Ev.t (c := x0 = 8) (p1 := 29) (L1 := [.int x0]) (s1 := []) (h1 := hh S) (p2 := 19) (L2 := [.int x0]) (s2 := []) (h2 := hh S) 3 (fun n => B_92_10 n x0 S) c6 ?_
        obtain ⟨e1, e2⟩ := Prod.mk.inj (Option.some.inj hG)
        subst e1
        subst e2
        exact Ev.r 3 (fun n => rfl)
      · rw [if_neg c6] at hG
        refine Ev.f (c := x0 = 8) (p1 := 29) (L1 := [.int x0]) (s1 := []) (h1 := hh S) (p2 := 19) (L2 := [.int x0]) (s2 := []) (h2 := hh S) 3 (fun n => B_92_11 n x0 S) c6 ?_
        by_cases c7 : x0 = 1
        · rw [if_pos c7] at hG
          refine Ev.t (c := x0 = 1) (p1 := 29) (L1 := [.int x0]) (s1 := []) (h1 := hh S) (p2 := 24) (L2 := [.int x0]) (s2 := []) (h2 := hh S) 3 (fun n => B_92_12 n x0 S) c7 ?_
          obtain ⟨e1, e2⟩ := Prod.mk.inj (Option.some.inj hG)
          subst e1
          subst e2
          exact Ev.r 3 (fun n => rfl)
        · rw [if_neg c7] at hG
          refine Ev.f (c := x0 = 1) (p1 := 29) (L1 := [.int x0]) (s1 := []) (h1 := hh S) (p2 := 24) (L2 := [.int x0]) (s2 := []) (h2 := hh S) 3 (fun n => B_92_13 n x0 S) c7 ?_
          by_cases c8 : x0 = 2
          · rw [if_pos c8] at hG
            refine Ev.t (c := x0 = 2) (p1 := 29) (L1 := [.int x0]) (s1 := []) (h1 := hh S) (p2 := 33) (L2 := [.int x0]) (s2 := []) (h2 := hh S) 3 (fun n => B_92_14 n x0 S) c8 ?_
            obtain ⟨e1, e2⟩ := Prod.mk.inj (Option.some.inj hG)
            subst e1
            subst e2
            exact Ev.r 3 (fun n => rfl)
          · rw [if_neg c8] at hG
            refine Ev.f (c := x0 = 2) (p1 := 29) (L1 := [.int x0]) (s1 := []) (h1 := hh S) (p2 := 33) (L2 := [.int x0]) (s2 := []) (h2 := hh S) 3 (fun n => B_92_15 n x0 S) c8 ?_
            obtain ⟨e1, e2⟩ := Prod.mk.inj (Option.some.inj hG)
            subst e1
            subst e2
            exact Ev.r 2 (fun n => rfl)
    · rw [if_neg c5] at hG
      refine Ev.f (c := 6 < x0) (p1 := 13) (L1 := [.int x0]) (s1 := []) (h1 := hh S) (p2 := 11) (L2 := [.int x0]) (s2 := []) (h2 := hh S) 3 (fun n => B_92_16 n x0 S) c5 ?_
      obtain ⟨e1, e2⟩ := Prod.mk.inj (Option.some.inj hG)
      subst e1
      subst e2
      exact Ev.r 2 (fun n => rfl)
/-- 93: SceneCycle$Motion.edgeAt(III)I -/
def G_93 (S : St) (x0 : Int32) (x1 : Int32) (x2 : Int32) : Option (Int32 × St) :=
  (if 0 ≤ x0 then
    (if (x0 + x2) ≤ 16 then
      (if x1 < 12 then
        (if 3 ≤ x1 then
          some (0, S)
        else
          some (1, S)
        )
      else
        some (3, S)
      )
    else
      some (2, S)
    )
  else
    some (4, S)
  )
theorem B_93_1 {X : Nat × (Nat → Int32)} {d : Nat} (n : Nat) (x0 : Int32) (x1 : Int32) (x2 : Int32) (S : St) : ex X d 93 0 [.int x0, .int x1, .int x2] [] (hh S) (n + 2) = if 0 ≤ x0 then ex X d 93 6 [.int x0, .int x1, .int x2] [] (hh S) n else ex X d 93 4 [.int x0, .int x1, .int x2] [] (hh S) n := rfl
theorem B_93_2 {X : Nat × (Nat → Int32)} {d : Nat} (n : Nat) (x0 : Int32) (x1 : Int32) (x2 : Int32) (S : St) : ex X d 93 6 [.int x0, .int x1, .int x2] [] (hh S) (n + 5) = if (x0 + x2) ≤ 16 then ex X d 93 16 [.int x0, .int x1, .int x2] [] (hh S) n else ex X d 93 14 [.int x0, .int x1, .int x2] [] (hh S) n := rfl
theorem B_93_3 {X : Nat × (Nat → Int32)} {d : Nat} (n : Nat) (x0 : Int32) (x1 : Int32) (x2 : Int32) (S : St) : ex X d 93 16 [.int x0, .int x1, .int x2] [] (hh S) (n + 3) = if x1 < 12 then ex X d 93 24 [.int x0, .int x1, .int x2] [] (hh S) n else ex X d 93 22 [.int x0, .int x1, .int x2] [] (hh S) n := rfl
theorem B_93_4 {X : Nat × (Nat → Int32)} {d : Nat} (n : Nat) (x0 : Int32) (x1 : Int32) (x2 : Int32) (S : St) : ex X d 93 24 [.int x0, .int x1, .int x2] [] (hh S) (n + 3) = if 3 ≤ x1 then ex X d 93 33 [.int x0, .int x1, .int x2] [] (hh S) n else ex X d 93 29 [.int x0, .int x1, .int x2] [] (hh S) n := rfl
theorem B_93_5 {X : Nat × (Nat → Int32)} {d : Nat} (n : Nat) (x0 : Int32) (x1 : Int32) (x2 : Int32) (S : St) : ex X d 93 24 [.int x0, .int x1, .int x2] [] (hh S) (n + 3) = if 3 ≤ x1 then ex X d 93 33 [.int x0, .int x1, .int x2] [] (hh S) n else ex X d 93 29 [.int x0, .int x1, .int x2] [] (hh S) n := rfl
theorem B_93_6 {X : Nat × (Nat → Int32)} {d : Nat} (n : Nat) (x0 : Int32) (x1 : Int32) (x2 : Int32) (S : St) : ex X d 93 16 [.int x0, .int x1, .int x2] [] (hh S) (n + 3) = if x1 < 12 then ex X d 93 24 [.int x0, .int x1, .int x2] [] (hh S) n else ex X d 93 22 [.int x0, .int x1, .int x2] [] (hh S) n := rfl
theorem B_93_7 {X : Nat × (Nat → Int32)} {d : Nat} (n : Nat) (x0 : Int32) (x1 : Int32) (x2 : Int32) (S : St) : ex X d 93 6 [.int x0, .int x1, .int x2] [] (hh S) (n + 5) = if (x0 + x2) ≤ 16 then ex X d 93 16 [.int x0, .int x1, .int x2] [] (hh S) n else ex X d 93 14 [.int x0, .int x1, .int x2] [] (hh S) n := rfl
theorem B_93_8 {X : Nat × (Nat → Int32)} {d : Nat} (n : Nat) (x0 : Int32) (x1 : Int32) (x2 : Int32) (S : St) : ex X d 93 0 [.int x0, .int x1, .int x2] [] (hh S) (n + 2) = if 0 ≤ x0 then ex X d 93 6 [.int x0, .int x1, .int x2] [] (hh S) n else ex X d 93 4 [.int x0, .int x1, .int x2] [] (hh S) n := rfl
set_option maxRecDepth 200000 in
theorem T_93 {X : Nat × (Nat → Int32)} (S : St) (x0 : Int32) (x1 : Int32) (x2 : Int32) (r : Int32) (S' : St) (hG : G_93 S x0 x1 x2 = some (r, S')) : Ev X 0 93 0 [.int x0, .int x1, .int x2] [] (hh S) (xI r, hh S') := by
  unfold G_93 at hG
  by_cases c1 : 0 ≤ x0
  · rw [if_pos c1] at hG
    refine Ev.t (c := 0 ≤ x0) (p1 := 6) (L1 := [.int x0, .int x1, .int x2]) (s1 := []) (h1 := hh S) (p2 := 4) (L2 := [.int x0, .int x1, .int x2]) (s2 := []) (h2 := hh S) 2 (fun n => B_93_1 n x0 x1 x2 S) c1 ?_
    by_cases c2 : (x0 + x2) ≤ 16
    · rw [if_pos c2] at hG
      refine Ev.t (c := (x0 + x2) ≤ 16) (p1 := 16) (L1 := [.int x0, .int x1, .int x2]) (s1 := []) (h1 := hh S) (p2 := 14) (L2 := [.int x0, .int x1, .int x2]) (s2 := []) (h2 := hh S) 5 (fun n => B_93_2 n x0 x1 x2 S) c2 ?_
      by_cases c3 : x1 < 12
      · rw [if_pos c3] at hG
        refine Ev.t (c := x1 < 12) (p1 := 24) (L1 := [.int x0, .int x1, .int x2]) (s1 := []) (h1 := hh S) (p2 := 22) (L2 := [.int x0, .int x1, .int x2]) (s2 := []) (h2 := hh S) 3 (fun n => B_93_3 n x0 x1 x2 S) c3 ?_
        by_cases c4 : 3 ≤ x1
        · rw [if_pos c4] at hG
          refine Ev.t (c := 3 ≤ x1) (p1 := 33) (L1 := [.int x0, .int x1, .int x2]) (s1 := []) (h1 := hh S) (p2 := 29) (L2 := [.int x0, .int x1, .int x2]) (s2 := []) (h2 := hh S) 3 (fun n => B_93_4 n x0 x1 x2 S) c4 ?_
          obtain ⟨e1, e2⟩ := Prod.mk.inj (Option.some.inj hG)
          subst e1
          subst e2
          exact Ev.r 2 (fun n => rfl)
        · rw [if_neg c4] at hG
          refine Ev.f (c := 3 ≤ x1) (p1 := 33) (L1 := [.int x0, .int x1, .int x2]) (s1 := []) (h1 := hh S) (p2 := 29) (L2 := [.int x0, .int x1, .int x2]) (s2 := []) (h2 := hh S) 3 (fun n => B_93_5 n x0 x1 x2 S) c4 ?_
          obtain ⟨e1, e2⟩ := Prod.mk.inj (Option.some.inj hG)
          subst e1
          subst e2
          exact Ev.r 3 (fun n => rfl)
      · rw [if_neg c3] at hG
        refine Ev.f (c := x1 < 12) (p1 := 24) (L1 := [.int x0, .int x1, .int x2]) (s1 := []) (h1 := hh S) (p2 := 22) (L2 := [.int x0, .int x1, .int x2]) (s2 := []) (h2 := hh S) 3 (fun n => B_93_6 n x0 x1 x2 S) c3 ?_
        obtain ⟨e1, e2⟩ := Prod.mk.inj (Option.some.inj hG)
        subst e1
        subst e2
        exact Ev.r 2 (fun n => rfl)
    · rw [if_neg c2] at hG
      refine Ev.f (c := (x0 + x2) ≤ 16) (p1 := 16) (L1 := [.int x0, .int x1, .int x2]) (s1 := []) (h1 := hh S) (p2 := 14) (L2 := [.int x0, .int x1, .int x2]) (s2 := []) (h2 := hh S) 5 (fun n => B_93_7 n x0 x1 x2 S) c2 ?_
      obtain ⟨e1, e2⟩ := Prod.mk.inj (Option.some.inj hG)
      subst e1
      subst e2
      exact Ev.r 2 (fun n => rfl)
  · rw [if_neg c1] at hG
    refine Ev.f (c := 0 ≤ x0) (p1 := 6) (L1 := [.int x0, .int x1, .int x2]) (s1 := []) (h1 := hh S) (p2 := 4) (L2 := [.int x0, .int x1, .int x2]) (s2 := []) (h2 := hh S) 2 (fun n => B_93_8 n x0 x1 x2 S) c1 ?_
    obtain ⟨e1, e2⟩ := Prod.mk.inj (Option.some.inj hG)
    subst e1
    subst e2
    exact Ev.r 2 (fun n => rfl)
/-- 94: SceneCycle$Motion.isBarred(LSceneCycle$Screen;LSceneCycle$Actor;II)Z -/
def G_94 (S : St) (x1 : Nat) (x2 : Int32) (x3 : Int32) : Option (Int32 × St) :=
  (if (kd x1).1 = 10 + 0 then
    (match G_19 S x1 with
    | none => none
    | some (v1, S1) =>
      (if v1 = 15 then
        some (0, S1)
      else
        (match G_45 S1 (0 : Int32) x2 x3 (S1.1 x1 2) with
        | none => none
        | some (v4, S4) =>
          (if v4 ≤ 0 then
            (if (S4.1 x1 8) = 0 then
              (match G_45 S4 (1 : Int32) x2 x3 (S4.1 x1 2) with
              | none => none
              | some (v7, S7) =>
                (if v7 ≤ 0 then
                  some (0, S7)
                else
                  some (1, S7)
                )
              )
            else
              some (0, S4)
            )
          else
            some (1, S4)
          )
        )
      )
    )
  else none)
theorem B_94_1 {X : Nat × (Nat → Int32)} {d : Nat} (n : Nat) (x1 : Nat) (x2 : Int32) (x3 : Int32) (S : St) : ex X (d + 1) 94 0 [.ref 2, .ref x1, .int x2, .int x3] [] (hh S) (n + 2) = if (xm_o 19 = 200 ∧ 2000 ≤ x1 ∧ x1 < 2000 + xS_n) ∨ (xm_o 19 ≠ 200 ∧ (kd x1).1 = 10 + xm_o 19) then (match ex X d 19 0 [.ref x1] [] (hh S) n with | some (v, h') => ex X (d + 1) 94 4 [.ref 2, .ref x1, .int x2, .int x3] (v.toList ++ []) h' n | none => none) else none := rfl
theorem B_94_2 {X : Nat × (Nat → Int32)} {d : Nat} (n : Nat) (x1 : Nat) (x2 : Int32) (x3 : Int32) (v1 : Int32) (S1 : St) : ex X d 94 4 [.ref 2, .ref x1, .int x2, .int x3] [.int v1] (hh S1) (n + 2) = if v1 = 15 then ex X d 94 9 [.ref 2, .ref x1, .int x2, .int x3] [] (hh S1) n else ex X d 94 11 [.ref 2, .ref x1, .int x2, .int x3] [] (hh S1) n := rfl
theorem B_94_3 {X : Nat × (Nat → Int32)} {d : Nat} (n : Nat) (x1 : Nat) (x2 : Int32) (x3 : Int32) (v1 : Int32) (S1 : St) : ex X d 94 4 [.ref 2, .ref x1, .int x2, .int x3] [.int v1] (hh S1) (n + 2) = if v1 = 15 then ex X d 94 9 [.ref 2, .ref x1, .int x2, .int x3] [] (hh S1) n else ex X d 94 11 [.ref 2, .ref x1, .int x2, .int x3] [] (hh S1) n := rfl
theorem B_94_4 {X : Nat × (Nat → Int32)} {d : Nat} (n : Nat) (x1 : Nat) (x2 : Int32) (x3 : Int32) (S1 : St) : ex X d 94 11 [.ref 2, .ref x1, .int x2, .int x3] [] (hh S1) (n + 6) = if (kd x1).1 = 10 + 0 then ex X d 94 19 [.ref 2, .ref x1, .int x2, .int x3] [.int (S1.1 x1 2), .int x3, .int x2, .int 0, .ref 2] (hh S1) n else none := rfl
theorem B_94_5 {X : Nat × (Nat → Int32)} {d : Nat} (n : Nat) (x1 : Nat) (x2 : Int32) (x3 : Int32) (S1 : St) : ex X (d + 1) 94 19 [.ref 2, .ref x1, .int x2, .int x3] [.int (S1.1 x1 2), .int x3, .int x2, .int 0, .ref 2] (hh S1) (n + 1) = (match ex X d 45 0 [.ref 2, .int 0, .int x2, .int x3, .int (S1.1 x1 2), .retAddr 0, .retAddr 0] [] (hh S1) n with | some (v, h') => ex X (d + 1) 94 22 [.ref 2, .ref x1, .int x2, .int x3] (v.toList ++ []) h' n | none => none) := rfl
theorem B_94_6 {X : Nat × (Nat → Int32)} {d : Nat} (n : Nat) (x1 : Nat) (x2 : Int32) (x3 : Int32) (v4 : Int32) (S4 : St) : ex X d 94 22 [.ref 2, .ref x1, .int x2, .int x3] [.int v4] (hh S4) (n + 1) = if v4 ≤ 0 then ex X d 94 27 [.ref 2, .ref x1, .int x2, .int x3] [] (hh S4) n else ex X d 94 25 [.ref 2, .ref x1, .int x2, .int x3] [] (hh S4) n := rfl
theorem B_94_7 {X : Nat × (Nat → Int32)} {d : Nat} (n : Nat) (x1 : Nat) (x2 : Int32) (x3 : Int32) (S4 : St) : ex X d 94 27 [.ref 2, .ref x1, .int x2, .int x3] [] (hh S4) (n + 2) = if (kd x1).1 = 10 + 0 then ex X d 94 31 [.ref 2, .ref x1, .int x2, .int x3] [.int (S4.1 x1 8)] (hh S4) n else none := rfl
theorem B_94_8 {X : Nat × (Nat → Int32)} {d : Nat} (n : Nat) (x1 : Nat) (x2 : Int32) (x3 : Int32) (S4 : St) : ex X d 94 31 [.ref 2, .ref x1, .int x2, .int x3] [.int (S4.1 x1 8)] (hh S4) (n + 1) = if (S4.1 x1 8) = 0 then ex X d 94 34 [.ref 2, .ref x1, .int x2, .int x3] [] (hh S4) n else ex X d 94 52 [.ref 2, .ref x1, .int x2, .int x3] [] (hh S4) n := rfl
theorem B_94_9 {X : Nat × (Nat → Int32)} {d : Nat} (n : Nat) (x1 : Nat) (x2 : Int32) (x3 : Int32) (S4 : St) : ex X d 94 34 [.ref 2, .ref x1, .int x2, .int x3] [] (hh S4) (n + 6) = if (kd x1).1 = 10 + 0 then ex X d 94 42 [.ref 2, .ref x1, .int x2, .int x3] [.int (S4.1 x1 2), .int x3, .int x2, .int 1, .ref 2] (hh S4) n else none := rfl
theorem B_94_10 {X : Nat × (Nat → Int32)} {d : Nat} (n : Nat) (x1 : Nat) (x2 : Int32) (x3 : Int32) (S4 : St) : ex X (d + 1) 94 42 [.ref 2, .ref x1, .int x2, .int x3] [.int (S4.1 x1 2), .int x3, .int x2, .int 1, .ref 2] (hh S4) (n + 1) = (match ex X d 45 0 [.ref 2, .int 1, .int x2, .int x3, .int (S4.1 x1 2), .retAddr 0, .retAddr 0] [] (hh S4) n with | some (v, h') => ex X (d + 1) 94 45 [.ref 2, .ref x1, .int x2, .int x3] (v.toList ++ []) h' n | none => none) := rfl
theorem B_94_11 {X : Nat × (Nat → Int32)} {d : Nat} (n : Nat) (x1 : Nat) (x2 : Int32) (x3 : Int32) (v7 : Int32) (S7 : St) : ex X d 94 45 [.ref 2, .ref x1, .int x2, .int x3] [.int v7] (hh S7) (n + 1) = if v7 ≤ 0 then ex X d 94 52 [.ref 2, .ref x1, .int x2, .int x3] [] (hh S7) n else ex X d 94 48 [.ref 2, .ref x1, .int x2, .int x3] [] (hh S7) n := rfl
theorem B_94_12 {X : Nat × (Nat → Int32)} {d : Nat} (n : Nat) (x1 : Nat) (x2 : Int32) (x3 : Int32) (v7 : Int32) (S7 : St) : ex X d 94 45 [.ref 2, .ref x1, .int x2, .int x3] [.int v7] (hh S7) (n + 1) = if v7 ≤ 0 then ex X d 94 52 [.ref 2, .ref x1, .int x2, .int x3] [] (hh S7) n else ex X d 94 48 [.ref 2, .ref x1, .int x2, .int x3] [] (hh S7) n := rfl
theorem B_94_13 {X : Nat × (Nat → Int32)} {d : Nat} (n : Nat) (x1 : Nat) (x2 : Int32) (x3 : Int32) (S4 : St) : ex X d 94 31 [.ref 2, .ref x1, .int x2, .int x3] [.int (S4.1 x1 8)] (hh S4) (n + 1) = if (S4.1 x1 8) = 0 then ex X d 94 34 [.ref 2, .ref x1, .int x2, .int x3] [] (hh S4) n else ex X d 94 52 [.ref 2, .ref x1, .int x2, .int x3] [] (hh S4) n := rfl
theorem B_94_14 {X : Nat × (Nat → Int32)} {d : Nat} (n : Nat) (x1 : Nat) (x2 : Int32) (x3 : Int32) (v4 : Int32) (S4 : St) : ex X d 94 22 [.ref 2, .ref x1, .int x2, .int x3] [.int v4] (hh S4) (n + 1) = if v4 ≤ 0 then ex X d 94 27 [.ref 2, .ref x1, .int x2, .int x3] [] (hh S4) n else ex X d 94 25 [.ref 2, .ref x1, .int x2, .int x3] [] (hh S4) n := rfl
set_option maxRecDepth 200000 in
theorem T_94 {X : Nat × (Nat → Int32)} (S : St) (x1 : Nat) (x2 : Int32) (x3 : Int32) (r : Int32) (S' : St) (hG : G_94 S x1 x2 x3 = some (r, S')) : Ev X 3 94 0 [.ref 2, .ref x1, .int x2, .int x3] [] (hh S) (xI r, hh S') := by
  unfold G_94 at hG
  by_cases g2 : (kd x1).1 = 10 + 0
  rotate_left
  · rw [if_neg g2] at hG; cases hG
  rw [if_pos g2] at hG
  rcases h1 : G_19 S x1 with _ | ⟨v1, S1⟩
  · rw [h1] at hG; cases hG
  rw [h1] at hG
  dsimp only at hG
  refine Ev.cg (c := (xm_o 19 = 200 ∧ 2000 ≤ x1 ∧ x1 < 2000 + xS_n) ∨ (xm_o 19 ≠ 200 ∧ (kd x1).1 = 10 + xm_o 19)) (a := 19) (A := [.ref x1]) (h1 := hh S) (pc' := 4) (L' := [.ref 2, .ref x1, .int x2, .int x3]) (rest := []) (r1 := some (.int v1)) (h2 := hh S1) 2 (fun n => B_94_1 n x1 x2 x3 S) (Or.inr ⟨by decide, g2⟩) (Ev.up (by decide) (T_19 S x1 _ _ h1)) ?_
  show Ev X _ 94 4 [.ref 2, .ref x1, .int x2, .int x3] [.int v1] (hh S1) _
  by_cases c3 : v1 = 15
  · rw [if_pos c3] at hG
    refine Ev.t (c := v1 = 15) (p1 := 9) (L1 := [.ref 2, .ref x1, .int x2, .int x3]) (s1 := []) (h1 := hh S1) (p2 := 11) (L2 := [.ref 2, .ref x1, .int x2, .int x3]) (s2 := []) (h2 := hh S1) 2 (fun n => B_94_2 n x1 x2 x3 v1 S1) c3 ?_
    obtain ⟨e1, e2⟩ := Prod.mk.inj (Option.some.inj hG)
    subst e1
    subst e2
    exact Ev.rg (c := (xm_z 94 = 0 ∨ (xm_z 94 = 1 ∧ ((0 : Int32) = 0 ∨ (0 : Int32) = 1)) ∨ (xm_z 94 = 2 ∧ ((0 : Int32)).toInt8.toInt32 = (0 : Int32)) ∨ (xm_z 94 = 3 ∧ ((0 : Int32)).toUInt32.toUInt16.toUInt32.toInt32 = (0 : Int32)))) 2 (fun n => rfl) (Or.inr (Or.inl ⟨rfl, by decide⟩))
  · rw [if_neg c3] at hG
    refine Ev.f (c := v1 = 15) (p1 := 9) (L1 := [.ref 2, .ref x1, .int x2, .int x3]) (s1 := []) (h1 := hh S1) (p2 := 11) (L2 := [.ref 2, .ref x1, .int x2, .int x3]) (s2 := []) (h2 := hh S1) 2 (fun n => B_94_3 n x1 x2 x3 v1 S1) c3 ?_
    refine Ev.g (c := (kd x1).1 = 10 + 0) (p1 := 19) (L1 := [.ref 2, .ref x1, .int x2, .int x3]) (s1 := [.int (S1.1 x1 2), .int x3, .int x2, .int 0, .ref 2]) (h1 := hh S1) 6 (fun n => B_94_4 n x1 x2 x3 S1) g2 ?_
    rcases h4 : G_45 S1 (0 : Int32) x2 x3 (S1.1 x1 2) with _ | ⟨v4, S4⟩
    · rw [h4] at hG; cases hG
    rw [h4] at hG
    dsimp only at hG
    refine Ev.c (a := 45) (A := [.ref 2, .int 0, .int x2, .int x3, .int (S1.1 x1 2), .retAddr 0, .retAddr 0]) (h1 := hh S1) (pc' := 22) (L' := [.ref 2, .ref x1, .int x2, .int x3]) (rest := []) (r1 := some (.int v4)) (h2 := hh S4) 1 (fun n => B_94_5 n x1 x2 x3 S1) (Ev.up (by decide) (T_45 S1 (0 : Int32) x2 x3 (S1.1 x1 2) _ _ h4)) ?_
    show Ev X _ 94 22 [.ref 2, .ref x1, .int x2, .int x3] [.int v4] (hh S4) _
    by_cases c5 : v4 ≤ 0
    · rw [if_pos c5] at hG
      refine Ev.t (c := v4 ≤ 0) (p1 := 27) (L1 := [.ref 2, .ref x1, .int x2, .int x3]) (s1 := []) (h1 := hh S4) (p2 := 25) (L2 := [.ref 2, .ref x1, .int x2, .int x3]) (s2 := []) (h2 := hh S4) 1 (fun n => B_94_6 n x1 x2 x3 v4 S4) c5 ?_
      refine Ev.g (c := (kd x1).1 = 10 + 0) (p1 := 31) (L1 := [.ref 2, .ref x1, .int x2, .int x3]) (s1 := [.int (S4.1 x1 8)]) (h1 := hh S4) 2 (fun n => B_94_7 n x1 x2 x3 S4) g2 ?_
      by_cases c6 : (S4.1 x1 8) = 0
      · rw [if_pos c6] at hG
        refine Ev.t (c := (S4.1 x1 8) = 0) (p1 := 34) (L1 := [.ref 2, .ref x1, .int x2, .int x3]) (s1 := []) (h1 := hh S4) (p2 := 52) (L2 := [.ref 2, .ref x1, .int x2, .int x3]) (s2 := []) (h2 := hh S4) 1 (fun n => B_94_8 n x1 x2 x3 S4) c6 ?_
        refine Ev.g (c := (kd x1).1 = 10 + 0) (p1 := 42) (L1 := [.ref 2, .ref x1, .int x2, .int x3]) (s1 := [.int (S4.1 x1 2), .int x3, .int x2, .int 1, .ref 2]) (h1 := hh S4) 6 (fun n => B_94_9 n x1 x2 x3 S4) g2 ?_
        rcases h7 : G_45 S4 (1 : Int32) x2 x3 (S4.1 x1 2) with _ | ⟨v7, S7⟩
        · rw [h7] at hG; cases hG
        rw [h7] at hG
        dsimp only at hG
        refine Ev.c (a := 45) (A := [.ref 2, .int 1, .int x2, .int x3, .int (S4.1 x1 2), .retAddr 0, .retAddr 0]) (h1 := hh S4) (pc' := 45) (L' := [.ref 2, .ref x1, .int x2, .int x3]) (rest := []) (r1 := some (.int v7)) (h2 := hh S7) 1 (fun n => B_94_10 n x1 x2 x3 S4) (Ev.up (by decide) (T_45 S4 (1 : Int32) x2 x3 (S4.1 x1 2) _ _ h7)) ?_
        show Ev X _ 94 45 [.ref 2, .ref x1, .int x2, .int x3] [.int v7] (hh S7) _
        by_cases c8 : v7 ≤ 0
        · rw [if_pos c8] at hG
          refine Ev.t (c := v7 ≤ 0) (p1 := 52) (L1 := [.ref 2, .ref x1, .int x2, .int x3]) (s1 := []) (h1 := hh S7) (p2 := 48) (L2 := [.ref 2, .ref x1, .int x2, .int x3]) (s2 := []) (h2 := hh S7) 1 (fun n => B_94_11 n x1 x2 x3 v7 S7) c8 ?_
          obtain ⟨e1, e2⟩ := Prod.mk.inj (Option.some.inj hG)
          subst e1
          subst e2
          exact Ev.rg (c := (xm_z 94 = 0 ∨ (xm_z 94 = 1 ∧ ((0 : Int32) = 0 ∨ (0 : Int32) = 1)) ∨ (xm_z 94 = 2 ∧ ((0 : Int32)).toInt8.toInt32 = (0 : Int32)) ∨ (xm_z 94 = 3 ∧ ((0 : Int32)).toUInt32.toUInt16.toUInt32.toInt32 = (0 : Int32)))) 2 (fun n => rfl) (Or.inr (Or.inl ⟨rfl, by decide⟩))
        · rw [if_neg c8] at hG
          refine Ev.f (c := v7 ≤ 0) (p1 := 52) (L1 := [.ref 2, .ref x1, .int x2, .int x3]) (s1 := []) (h1 := hh S7) (p2 := 48) (L2 := [.ref 2, .ref x1, .int x2, .int x3]) (s2 := []) (h2 := hh S7) 1 (fun n => B_94_12 n x1 x2 x3 v7 S7) c8 ?_
          obtain ⟨e1, e2⟩ := Prod.mk.inj (Option.some.inj hG)
          subst e1
          subst e2
          exact Ev.rg (c := (xm_z 94 = 0 ∨ (xm_z 94 = 1 ∧ ((1 : Int32) = 0 ∨ (1 : Int32) = 1)) ∨ (xm_z 94 = 2 ∧ ((1 : Int32)).toInt8.toInt32 = (1 : Int32)) ∨ (xm_z 94 = 3 ∧ ((1 : Int32)).toUInt32.toUInt16.toUInt32.toInt32 = (1 : Int32)))) 3 (fun n => rfl) (Or.inr (Or.inl ⟨rfl, by decide⟩))
      · rw [if_neg c6] at hG
        refine Ev.f (c := (S4.1 x1 8) = 0) (p1 := 34) (L1 := [.ref 2, .ref x1, .int x2, .int x3]) (s1 := []) (h1 := hh S4) (p2 := 52) (L2 := [.ref 2, .ref x1, .int x2, .int x3]) (s2 := []) (h2 := hh S4) 1 (fun n => B_94_13 n x1 x2 x3 S4) c6 ?_
        obtain ⟨e1, e2⟩ := Prod.mk.inj (Option.some.inj hG)
        subst e1
        subst e2
        exact Ev.rg (c := (xm_z 94 = 0 ∨ (xm_z 94 = 1 ∧ ((0 : Int32) = 0 ∨ (0 : Int32) = 1)) ∨ (xm_z 94 = 2 ∧ ((0 : Int32)).toInt8.toInt32 = (0 : Int32)) ∨ (xm_z 94 = 3 ∧ ((0 : Int32)).toUInt32.toUInt16.toUInt32.toInt32 = (0 : Int32)))) 2 (fun n => rfl) (Or.inr (Or.inl ⟨rfl, by decide⟩))
    · rw [if_neg c5] at hG
      refine Ev.f (c := v4 ≤ 0) (p1 := 27) (L1 := [.ref 2, .ref x1, .int x2, .int x3]) (s1 := []) (h1 := hh S4) (p2 := 25) (L2 := [.ref 2, .ref x1, .int x2, .int x3]) (s2 := []) (h2 := hh S4) 1 (fun n => B_94_14 n x1 x2 x3 v4 S4) c5 ?_
      obtain ⟨e1, e2⟩ := Prod.mk.inj (Option.some.inj hG)
      subst e1
      subst e2
      exact Ev.rg (c := (xm_z 94 = 0 ∨ (xm_z 94 = 1 ∧ ((1 : Int32) = 0 ∨ (1 : Int32) = 1)) ∨ (xm_z 94 = 2 ∧ ((1 : Int32)).toInt8.toInt32 = (1 : Int32)) ∨ (xm_z 94 = 3 ∧ ((1 : Int32)).toUInt32.toUInt16.toUInt32.toInt32 = (1 : Int32)))) 2 (fun n => rfl) (Or.inr (Or.inl ⟨rfl, by decide⟩))
/-- 95: SceneCycle$Motion.meetsOther(LSceneCycle$World;III)Z -/
def GL_95_0 : Nat → St → Int32 → Int32 → Int32 → Int32 → Int32 → Option (Int32 × St)
  | 0, _, _, _, _, _, _ => none
  | n + 1, S, y1, y2, y3, y4, y5 =>
    (if 4 ≤ y5 then
      some (0, S)
    else
      (if xa_in y5 4 then
        (if y5 = y1 then
          GL_95_0 n S y1 y2 y3 y4 (y5 + 1)
        else
          (if (kd (11 + (y5).toNatClampNeg)).1 = 10 + 0 then
            (if (S.1 (11 + (y5).toNatClampNeg) 7) = 0 then
              GL_95_0 n S y1 y2 y3 y4 (y5 + 1)
            else
              (match G_20 S (11 + (y5).toNatClampNeg) y2 y3 y4 with
              | none => none
              | some (v6, S6) =>
                (if v6 = 0 then
                  GL_95_0 n S6 y1 y2 y3 y4 (y5 + 1)
                else
                  some (1, S6)
                )
              )
            )
          else none)
        )
      else none)
    )
theorem B_95_1 {X : Nat × (Nat → Int32)} {d : Nat} (n : Nat) (y1 : Int32) (y2 : Int32) (y3 : Int32) (y4 : Int32) (y5 : Int32) (w6 : Value) (S : St) : ex X d 95 14 [.ref 1, .int y1, .int y2, .int y3, .int y4, .int y5, w6] [] (hh S) (n + 3) = if 4 ≤ y5 then ex X d 95 63 [.ref 1, .int y1, .int y2, .int y3, .int y4, .int y5, w6] [] (hh S) n else ex X d 95 20 [.ref 1, .int y1, .int y2, .int y3, .int y4, .int y5, w6] [] (hh S) n := rfl
theorem B_95_2 {X : Nat × (Nat → Int32)} {d : Nat} (n : Nat) (y1 : Int32) (y2 : Int32) (y3 : Int32) (y4 : Int32) (y5 : Int32) (w6 : Value) (S : St) : ex X d 95 14 [.ref 1, .int y1, .int y2, .int y3, .int y4, .int y5, w6] [] (hh S) (n + 3) = if 4 ≤ y5 then ex X d 95 63 [.ref 1, .int y1, .int y2, .int y3, .int y4, .int y5, w6] [] (hh S) n else ex X d 95 20 [.ref 1, .int y1, .int y2, .int y3, .int y4, .int y5, w6] [] (hh S) n := rfl
theorem B_95_3 {X : Nat × (Nat → Int32)} {d : Nat} (n : Nat) (y1 : Int32) (y2 : Int32) (y3 : Int32) (y4 : Int32) (y5 : Int32) (w6 : Value) (S : St) : ex X d 95 20 [.ref 1, .int y1, .int y2, .int y3, .int y4, .int y5, w6] [] (hh S) (n + 4) = if (2 ≤ (kd 7).1 ∧ (kd 7).1 < xo_n) ∧ xa_in y5 (kd 7).2 then ex X d 95 27 [.ref 1, .int y1, .int y2, .int y3, .int y4, .int y5, w6] [va_rf (RC S.2.1 S.2.2 7 (y5).toNatClampNeg)] (hh S) n else none := rfl
theorem B_95_4 {X : Nat × (Nat → Int32)} {d : Nat} (n : Nat) (y1 : Int32) (y2 : Int32) (y3 : Int32) (y4 : Int32) (y5 : Int32) (w6 : Value) (S : St) : ex X d 95 27 [.ref 1, .int y1, .int y2, .int y3, .int y4, .int y5, w6] [.ref (11 + (y5).toNatClampNeg)] (hh S) (n + 4) = if y5 = y1 then ex X d 95 57 [.ref 1, .int y1, .int y2, .int y3, .int y4, .int y5, .ref (11 + (y5).toNatClampNeg)] [] (hh S) n else ex X d 95 35 [.ref 1, .int y1, .int y2, .int y3, .int y4, .int y5, .ref (11 + (y5).toNatClampNeg)] [] (hh S) n := rfl
theorem B_95_5 {X : Nat × (Nat → Int32)} {d : Nat} (n : Nat) (y1 : Int32) (y2 : Int32) (y3 : Int32) (y4 : Int32) (y5 : Int32) (S : St) : ex X d 95 57 [.ref 1, .int y1, .int y2, .int y3, .int y4, .int y5, .ref (11 + (y5).toNatClampNeg)] [] (hh S) (n + 2) = ex X d 95 14 [.ref 1, .int y1, .int y2, .int y3, .int y4, .int (y5 + 1), .ref (11 + (y5).toNatClampNeg)] [] (hh S) n := rfl
theorem B_95_6 {X : Nat × (Nat → Int32)} {d : Nat} (n : Nat) (y1 : Int32) (y2 : Int32) (y3 : Int32) (y4 : Int32) (y5 : Int32) (w6 : Value) (S : St) : ex X d 95 27 [.ref 1, .int y1, .int y2, .int y3, .int y4, .int y5, w6] [.ref (11 + (y5).toNatClampNeg)] (hh S) (n + 4) = if y5 = y1 then ex X d 95 57 [.ref 1, .int y1, .int y2, .int y3, .int y4, .int y5, .ref (11 + (y5).toNatClampNeg)] [] (hh S) n else ex X d 95 35 [.ref 1, .int y1, .int y2, .int y3, .int y4, .int y5, .ref (11 + (y5).toNatClampNeg)] [] (hh S) n := rfl
theorem B_95_7 {X : Nat × (Nat → Int32)} {d : Nat} (n : Nat) (y1 : Int32) (y2 : Int32) (y3 : Int32) (y4 : Int32) (y5 : Int32) (S : St) : ex X d 95 35 [.ref 1, .int y1, .int y2, .int y3, .int y4, .int y5, .ref (11 + (y5).toNatClampNeg)] [] (hh S) (n + 2) = if (kd (11 + (y5).toNatClampNeg)).1 = 10 + 0 then ex X d 95 40 [.ref 1, .int y1, .int y2, .int y3, .int y4, .int y5, .ref (11 + (y5).toNatClampNeg)] [.int (S.1 (11 + (y5).toNatClampNeg) 7)] (hh S) n else none := rfl
theorem B_95_8 {X : Nat × (Nat → Int32)} {d : Nat} (n : Nat) (y1 : Int32) (y2 : Int32) (y3 : Int32) (y4 : Int32) (y5 : Int32) (S : St) : ex X d 95 40 [.ref 1, .int y1, .int y2, .int y3, .int y4, .int y5, .ref (11 + (y5).toNatClampNeg)] [.int (S.1 (11 + (y5).toNatClampNeg) 7)] (hh S) (n + 1) = if (S.1 (11 + (y5).toNatClampNeg) 7) = 0 then ex X d 95 57 [.ref 1, .int y1, .int y2, .int y3, .int y4, .int y5, .ref (11 + (y5).toNatClampNeg)] [] (hh S) n else ex X d 95 43 [.ref 1, .int y1, .int y2, .int y3, .int y4, .int y5, .ref (11 + (y5).toNatClampNeg)] [] (hh S) n := rfl
theorem B_95_9 {X : Nat × (Nat → Int32)} {d : Nat} (n : Nat) (y1 : Int32) (y2 : Int32) (y3 : Int32) (y4 : Int32) (y5 : Int32) (S : St) : ex X d 95 57 [.ref 1, .int y1, .int y2, .int y3, .int y4, .int y5, .ref (11 + (y5).toNatClampNeg)] [] (hh S) (n + 2) = ex X d 95 14 [.ref 1, .int y1, .int y2, .int y3, .int y4, .int (y5 + 1), .ref (11 + (y5).toNatClampNeg)] [] (hh S) n := rfl
theorem B_95_10 {X : Nat × (Nat → Int32)} {d : Nat} (n : Nat) (y1 : Int32) (y2 : Int32) (y3 : Int32) (y4 : Int32) (y5 : Int32) (S : St) : ex X d 95 40 [.ref 1, .int y1, .int y2, .int y3, .int y4, .int y5, .ref (11 + (y5).toNatClampNeg)] [.int (S.1 (11 + (y5).toNatClampNeg) 7)] (hh S) (n + 1) = if (S.1 (11 + (y5).toNatClampNeg) 7) = 0 then ex X d 95 57 [.ref 1, .int y1, .int y2, .int y3, .int y4, .int y5, .ref (11 + (y5).toNatClampNeg)] [] (hh S) n else ex X d 95 43 [.ref 1, .int y1, .int y2, .int y3, .int y4, .int y5, .ref (11 + (y5).toNatClampNeg)] [] (hh S) n := rfl
theorem B_95_11 {X : Nat × (Nat → Int32)} {d : Nat} (n : Nat) (y1 : Int32) (y2 : Int32) (y3 : Int32) (y4 : Int32) (y5 : Int32) (S : St) : ex X (d + 1) 95 43 [.ref 1, .int y1, .int y2, .int y3, .int y4, .int y5, .ref (11 + (y5).toNatClampNeg)] [] (hh S) (n + 5) = if (xm_o 20 = 200 ∧ 2000 ≤ (11 + (y5).toNatClampNeg) ∧ (11 + (y5).toNatClampNeg) < 2000 + xS_n) ∨ (xm_o 20 ≠ 200 ∧ (kd (11 + (y5).toNatClampNeg)).1 = 10 + xm_o 20) then (match ex X d 20 0 [.ref (11 + (y5).toNatClampNeg), .int y2, .int y3, .int y4] [] (hh S) n with | some (v, h') => ex X (d + 1) 95 52 [.ref 1, .int y1, .int y2, .int y3, .int y4, .int y5, .ref (11 + (y5).toNatClampNeg)] (v.toList ++ []) h' n | none => none) else none := rfl
theorem B_95_12 {X : Nat × (Nat → Int32)} {d : Nat} (n : Nat) (y1 : Int32) (y2 : Int32) (y3 : Int32) (y4 : Int32) (y5 : Int32) (v6 : Int32) (S6 : St) : ex X d 95 52 [.ref 1, .int y1, .int y2, .int y3, .int y4, .int y5, .ref (11 + (y5).toNatClampNeg)] [.int v6] (hh S6) (n + 1) = if v6 = 0 then ex X d 95 57 [.ref 1, .int y1, .int y2, .int y3, .int y4, .int y5, .ref (11 + (y5).toNatClampNeg)] [] (hh S6) n else ex X d 95 55 [.ref 1, .int y1, .int y2, .int y3, .int y4, .int y5, .ref (11 + (y5).toNatClampNeg)] [] (hh S6) n := rfl
theorem B_95_13 {X : Nat × (Nat → Int32)} {d : Nat} (n : Nat) (y1 : Int32) (y2 : Int32) (y3 : Int32) (y4 : Int32) (y5 : Int32) (S6 : St) : ex X d 95 57 [.ref 1, .int y1, .int y2, .int y3, .int y4, .int y5, .ref (11 + (y5).toNatClampNeg)] [] (hh S6) (n + 2) = ex X d 95 14 [.ref 1, .int y1, .int y2, .int y3, .int y4, .int (y5 + 1), .ref (11 + (y5).toNatClampNeg)] [] (hh S6) n := rfl
theorem B_95_14 {X : Nat × (Nat → Int32)} {d : Nat} (n : Nat) (y1 : Int32) (y2 : Int32) (y3 : Int32) (y4 : Int32) (y5 : Int32) (v6 : Int32) (S6 : St) : ex X d 95 52 [.ref 1, .int y1, .int y2, .int y3, .int y4, .int y5, .ref (11 + (y5).toNatClampNeg)] [.int v6] (hh S6) (n + 1) = if v6 = 0 then ex X d 95 57 [.ref 1, .int y1, .int y2, .int y3, .int y4, .int y5, .ref (11 + (y5).toNatClampNeg)] [] (hh S6) n else ex X d 95 55 [.ref 1, .int y1, .int y2, .int y3, .int y4, .int y5, .ref (11 + (y5).toNatClampNeg)] [] (hh S6) n := rfl
set_option maxRecDepth 200000 in
theorem TL_95_0 {X : Nat × (Nat → Int32)} : ∀ (n : Nat) (S : St) (y1 : Int32) (y2 : Int32) (y3 : Int32) (y4 : Int32) (y5 : Int32) (r : Int32) (S' : St), GL_95_0 n S y1 y2 y3 y4 y5 = some (r, S') → ∀ (w6 : Value), Ev X 1 95 14 [.ref 1, .int y1, .int y2, .int y3, .int y4, .int y5, w6] [] (hh S) (xI r, hh S') := by
  intro n
  induction n with
  | zero => intro S y1 y2 y3 y4 y5 r S' hG; simp [GL_95_0] at hG
  | succ n ih =>
    intro S y1 y2 y3 y4 y5 r S' hG w6
    rw [GL_95_0] at hG
    by_cases c1 : 4 ≤ y5
    · rw [if_pos c1] at hG
      refine Ev.t (c := 4 ≤ y5) (p1 := 63) (L1 := [.ref 1, .int y1, .int y2, .int y3, .int y4, .int y5, w6]) (s1 := []) (h1 := hh S) (p2 := 20) (L2 := [.ref 1, .int y1, .int y2, .int y3, .int y4, .int y5, w6]) (s2 := []) (h2 := hh S) 3 (fun n => B_95_1 n y1 y2 y3 y4 y5 w6 S) c1 ?_
      obtain ⟨e1, e2⟩ := Prod.mk.inj (Option.some.inj hG)
      subst e1
      subst e2
      exact Ev.rg (c := (xm_z 95 = 0 ∨ (xm_z 95 = 1 ∧ ((0 : Int32) = 0 ∨ (0 : Int32) = 1)) ∨ (xm_z 95 = 2 ∧ ((0 : Int32)).toInt8.toInt32 = (0 : Int32)) ∨ (xm_z 95 = 3 ∧ ((0 : Int32)).toUInt32.toUInt16.toUInt32.toInt32 = (0 : Int32)))) 2 (fun n => rfl) (Or.inr (Or.inl ⟨rfl, by decide⟩))
    · rw [if_neg c1] at hG
      refine Ev.f (c := 4 ≤ y5) (p1 := 63) (L1 := [.ref 1, .int y1, .int y2, .int y3, .int y4, .int y5, w6]) (s1 := []) (h1 := hh S) (p2 := 20) (L2 := [.ref 1, .int y1, .int y2, .int y3, .int y4, .int y5, w6]) (s2 := []) (h2 := hh S) 3 (fun n => B_95_2 n y1 y2 y3 y4 y5 w6 S) c1 ?_
      by_cases g2 : xa_in y5 4
      rotate_left
      · rw [if_neg g2] at hG; cases hG
      rw [if_pos g2] at hG
      refine Ev.g (c := (2 ≤ (kd 7).1 ∧ (kd 7).1 < xo_n) ∧ xa_in y5 (kd 7).2) (p1 := 27) (L1 := [.ref 1, .int y1, .int y2, .int y3, .int y4, .int y5, w6]) (s1 := [va_rf (RC S.2.1 S.2.2 7 (y5).toNatClampNeg)]) (h1 := hh S) 4 (fun n => B_95_3 n y1 y2 y3 y4 y5 w6 S) ⟨⟨by decide, by decide⟩, g2⟩ ?_
      rw [RC_7 (xa_lt (n := 4) g2)]
      show Ev X _ 95 27 [.ref 1, .int y1, .int y2, .int y3, .int y4, .int y5, w6] [.ref (11 + (y5).toNatClampNeg)] (hh S) _
      by_cases c3 : y5 = y1
      · rw [if_pos c3] at hG
        refine Ev.t (c := y5 = y1) (p1 := 57) (L1 := [.ref 1, .int y1, .int y2, .int y3, .int y4, .int y5, .ref (11 + (y5).toNatClampNeg)]) (s1 := []) (h1 := hh S) (p2 := 35) (L2 := [.ref 1, .int y1, .int y2, .int y3, .int y4, .int y5, .ref (11 + (y5).toNatClampNeg)]) (s2 := []) (h2 := hh S) 4 (fun n => B_95_4 n y1 y2 y3 y4 y5 w6 S) c3 ?_
        exact Ev.b (pc' := 14) (L' := [.ref 1, .int y1, .int y2, .int y3, .int y4, .int (y5 + 1), .ref (11 + (y5).toNatClampNeg)]) (st' := []) (h' := hh S) 2 (fun n => B_95_5 n y1 y2 y3 y4 y5 S) (ih S y1 y2 y3 y4 (y5 + 1) _ _ hG (.ref (11 + (y5).toNatClampNeg)))
      · rw [if_neg c3] at hG
        refine Ev.f (c := y5 = y1) (p1 := 57) (L1 := [.ref 1, .int y1, .int y2, .int y3, .int y4, .int y5, .ref (11 + (y5).toNatClampNeg)]) (s1 := []) (h1 := hh S) (p2 := 35) (L2 := [.ref 1, .int y1, .int y2, .int y3, .int y4, .int y5, .ref (11 + (y5).toNatClampNeg)]) (s2 := []) (h2 := hh S) 4 (fun n => B_95_6 n y1 y2 y3 y4 y5 w6 S) c3 ?_
        by_cases g4 : (kd (11 + (y5).toNatClampNeg)).1 = 10 + 0
        rotate_left
        · rw [if_neg g4] at hG; cases hG
        rw [if_pos g4] at hG
        refine Ev.g (c := (kd (11 + (y5).toNatClampNeg)).1 = 10 + 0) (p1 := 40) (L1 := [.ref 1, .int y1, .int y2, .int y3, .int y4, .int y5, .ref (11 + (y5).toNatClampNeg)]) (s1 := [.int (S.1 (11 + (y5).toNatClampNeg) 7)]) (h1 := hh S) 2 (fun n => B_95_7 n y1 y2 y3 y4 y5 S) g4 ?_
        by_cases c5 : (S.1 (11 + (y5).toNatClampNeg) 7) = 0
        · rw [if_pos c5] at hG
          refine Ev.t (c := (S.1 (11 + (y5).toNatClampNeg) 7) = 0) (p1 := 57) (L1 := [.ref 1, .int y1, .int y2, .int y3, .int y4, .int y5, .ref (11 + (y5).toNatClampNeg)]) (s1 := []) (h1 := hh S) (p2 := 43) (L2 := [.ref 1, .int y1, .int y2, .int y3, .int y4, .int y5, .ref (11 + (y5).toNatClampNeg)]) (s2 := []) (h2 := hh S) 1 (fun n => B_95_8 n y1 y2 y3 y4 y5 S) c5 ?_
          exact Ev.b (pc' := 14) (L' := [.ref 1, .int y1, .int y2, .int y3, .int y4, .int (y5 + 1), .ref (11 + (y5).toNatClampNeg)]) (st' := []) (h' := hh S) 2 (fun n => B_95_9 n y1 y2 y3 y4 y5 S) (ih S y1 y2 y3 y4 (y5 + 1) _ _ hG (.ref (11 + (y5).toNatClampNeg)))
        · rw [if_neg c5] at hG
          refine Ev.f (c := (S.1 (11 + (y5).toNatClampNeg) 7) = 0) (p1 := 57) (L1 := [.ref 1, .int y1, .int y2, .int y3, .int y4, .int y5, .ref (11 + (y5).toNatClampNeg)]) (s1 := []) (h1 := hh S) (p2 := 43) (L2 := [.ref 1, .int y1, .int y2, .int y3, .int y4, .int y5, .ref (11 + (y5).toNatClampNeg)]) (s2 := []) (h2 := hh S) 1 (fun n => B_95_10 n y1 y2 y3 y4 y5 S) c5 ?_
          rcases h6 : G_20 S (11 + (y5).toNatClampNeg) y2 y3 y4 with _ | ⟨v6, S6⟩
          · rw [h6] at hG; cases hG
          rw [h6] at hG
          dsimp only at hG
          refine Ev.cg (c := (xm_o 20 = 200 ∧ 2000 ≤ (11 + (y5).toNatClampNeg) ∧ (11 + (y5).toNatClampNeg) < 2000 + xS_n) ∨ (xm_o 20 ≠ 200 ∧ (kd (11 + (y5).toNatClampNeg)).1 = 10 + xm_o 20)) (a := 20) (A := [.ref (11 + (y5).toNatClampNeg), .int y2, .int y3, .int y4]) (h1 := hh S) (pc' := 52) (L' := [.ref 1, .int y1, .int y2, .int y3, .int y4, .int y5, .ref (11 + (y5).toNatClampNeg)]) (rest := []) (r1 := some (.int v6)) (h2 := hh S6) 5 (fun n => B_95_11 n y1 y2 y3 y4 y5 S) (Or.inr ⟨by decide, g4⟩) (Ev.up (by decide) (T_20 S (11 + (y5).toNatClampNeg) y2 y3 y4 _ _ h6)) ?_
          show Ev X _ 95 52 [.ref 1, .int y1, .int y2, .int y3, .int y4, .int y5, .ref (11 + (y5).toNatClampNeg)] [.int v6] (hh S6) _
          by_cases c7 : v6 = 0
          · rw [if_pos c7] at hG
            refine Ev.t (c := v6 = 0) (p1 := 57) (L1 := [.ref 1, .int y1, .int y2, .int y3, .int y4, .int y5, .ref (11 + (y5).toNatClampNeg)]) (s1 := []) (h1 := hh S6) (p2 := 55) (L2 := [.ref 1, .int y1, .int y2, .int y3, .int y4, .int y5, .ref (11 + (y5).toNatClampNeg)]) (s2 := []) (h2 := hh S6) 1 (fun n => B_95_12 n y1 y2 y3 y4 y5 v6 S6) c7 ?_
            exact Ev.b (pc' := 14) (L' := [.ref 1, .int y1, .int y2, .int y3, .int y4, .int (y5 + 1), .ref (11 + (y5).toNatClampNeg)]) (st' := []) (h' := hh S6) 2 (fun n => B_95_13 n y1 y2 y3 y4 y5 S6) (ih S6 y1 y2 y3 y4 (y5 + 1) _ _ hG (.ref (11 + (y5).toNatClampNeg)))
          · rw [if_neg c7] at hG
            refine Ev.f (c := v6 = 0) (p1 := 57) (L1 := [.ref 1, .int y1, .int y2, .int y3, .int y4, .int y5, .ref (11 + (y5).toNatClampNeg)]) (s1 := []) (h1 := hh S6) (p2 := 55) (L2 := [.ref 1, .int y1, .int y2, .int y3, .int y4, .int y5, .ref (11 + (y5).toNatClampNeg)]) (s2 := []) (h2 := hh S6) 1 (fun n => B_95_14 n y1 y2 y3 y4 y5 v6 S6) c7 ?_
            obtain ⟨e1, e2⟩ := Prod.mk.inj (Option.some.inj hG)
            subst e1
            subst e2
            exact Ev.rg (c := (xm_z 95 = 0 ∨ (xm_z 95 = 1 ∧ ((1 : Int32) = 0 ∨ (1 : Int32) = 1)) ∨ (xm_z 95 = 2 ∧ ((1 : Int32)).toInt8.toInt32 = (1 : Int32)) ∨ (xm_z 95 = 3 ∧ ((1 : Int32)).toUInt32.toUInt16.toUInt32.toInt32 = (1 : Int32)))) 2 (fun n => rfl) (Or.inr (Or.inl ⟨rfl, by decide⟩))
def G_95 (S : St) (x1 : Int32) (x2 : Int32) (x3 : Int32) : Option (Int32 × St) :=
  (if xa_in x1 4 then
    (if (kd (11 + (x1).toNatClampNeg)).1 = 10 + 0 then
      GL_95_0 xFu S x1 x2 x3 (S.1 (11 + (x1).toNatClampNeg) 2) (0 : Int32)
    else none)
  else none)
theorem B_95_15 {X : Nat × (Nat → Int32)} {d : Nat} (n : Nat) (x1 : Int32) (x2 : Int32) (x3 : Int32) (S : St) : ex X d 95 0 [.ref 1, .int x1, .int x2, .int x3, .retAddr 0, .retAddr 0, .retAddr 0] [] (hh S) (n + 4) = if (2 ≤ (kd 7).1 ∧ (kd 7).1 < xo_n) ∧ xa_in x1 (kd 7).2 then ex X d 95 6 [.ref 1, .int x1, .int x2, .int x3, .retAddr 0, .retAddr 0, .retAddr 0] [va_rf (RC S.2.1 S.2.2 7 (x1).toNatClampNeg)] (hh S) n else none := rfl
theorem B_95_16 {X : Nat × (Nat → Int32)} {d : Nat} (n : Nat) (x1 : Int32) (x2 : Int32) (x3 : Int32) (S : St) : ex X d 95 6 [.ref 1, .int x1, .int x2, .int x3, .retAddr 0, .retAddr 0, .retAddr 0] [.ref (11 + (x1).toNatClampNeg)] (hh S) (n + 1) = if (kd (11 + (x1).toNatClampNeg)).1 = 10 + 0 then ex X d 95 9 [.ref 1, .int x1, .int x2, .int x3, .retAddr 0, .retAddr 0, .retAddr 0] [.int (S.1 (11 + (x1).toNatClampNeg) 2)] (hh S) n else none := rfl
theorem B_95_17 {X : Nat × (Nat → Int32)} {d : Nat} (n : Nat) (x1 : Int32) (x2 : Int32) (x3 : Int32) (S : St) : ex X d 95 9 [.ref 1, .int x1, .int x2, .int x3, .retAddr 0, .retAddr 0, .retAddr 0] [.int (S.1 (11 + (x1).toNatClampNeg) 2)] (hh S) (n + 3) = ex X d 95 14 [.ref 1, .int x1, .int x2, .int x3, .int (S.1 (11 + (x1).toNatClampNeg) 2), .int 0, .retAddr 0] [] (hh S) n := rfl
set_option maxRecDepth 200000 in
theorem T_95 {X : Nat × (Nat → Int32)} (S : St) (x1 : Int32) (x2 : Int32) (x3 : Int32) (r : Int32) (S' : St) (hG : G_95 S x1 x2 x3 = some (r, S')) : Ev X 1 95 0 [.ref 1, .int x1, .int x2, .int x3, .retAddr 0, .retAddr 0, .retAddr 0] [] (hh S) (xI r, hh S') := by
  unfold G_95 at hG
  by_cases g8 : xa_in x1 4
  rotate_left
  · rw [if_neg g8] at hG; cases hG
  rw [if_pos g8] at hG
  refine Ev.g (c := (2 ≤ (kd 7).1 ∧ (kd 7).1 < xo_n) ∧ xa_in x1 (kd 7).2) (p1 := 6) (L1 := [.ref 1, .int x1, .int x2, .int x3, .retAddr 0, .retAddr 0, .retAddr 0]) (s1 := [va_rf (RC S.2.1 S.2.2 7 (x1).toNatClampNeg)]) (h1 := hh S) 4 (fun n => B_95_15 n x1 x2 x3 S) ⟨⟨by decide, by decide⟩, g8⟩ ?_
  rw [RC_7 (xa_lt (n := 4) g8)]
  show Ev X _ 95 6 [.ref 1, .int x1, .int x2, .int x3, .retAddr 0, .retAddr 0, .retAddr 0] [.ref (11 + (x1).toNatClampNeg)] (hh S) _
  by_cases g9 : (kd (11 + (x1).toNatClampNeg)).1 = 10 + 0
  rotate_left
  · rw [if_neg g9] at hG; cases hG
  rw [if_pos g9] at hG
  refine Ev.g (c := (kd (11 + (x1).toNatClampNeg)).1 = 10 + 0) (p1 := 9) (L1 := [.ref 1, .int x1, .int x2, .int x3, .retAddr 0, .retAddr 0, .retAddr 0]) (s1 := [.int (S.1 (11 + (x1).toNatClampNeg) 2)]) (h1 := hh S) 1 (fun n => B_95_16 n x1 x2 x3 S) g9 ?_
  exact Ev.b (pc' := 14) (L' := [.ref 1, .int x1, .int x2, .int x3, .int (S.1 (11 + (x1).toNatClampNeg) 2), .int 0, .retAddr 0]) (st' := []) (h' := hh S) 3 (fun n => B_95_17 n x1 x2 x3 S) (TL_95_0 xFu S x1 x2 x3 (S.1 (11 + (x1).toNatClampNeg) 2) (0 : Int32) _ _ hG (.retAddr 0))
