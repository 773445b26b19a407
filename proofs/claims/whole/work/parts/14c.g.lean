/-- 52: SceneCycle$World.valueOf(I)I -/
def G_52 (S : St) (x1 : Int32) : Option (Int32 × St) :=
  (if x1 < 0 then
    some ((-1), S)
  else
    (if 16 ≤ x1 then
      some ((-1), S)
    else
      (if xa_in x1 16 then
        some ((S.1 9 (x1).toNatClampNeg), S)
      else none)
    )
  )
theorem B_52_1 {X : Nat × (Nat → Int32)} {d : Nat} (n : Nat) (x1 : Int32) (S : St) : ex X d 52 0 [.ref 1, .int x1] [] (hh S) (n + 2) = if x1 < 0 then ex X d 52 19 [.ref 1, .int x1] [] (hh S) n else ex X d 52 4 [.ref 1, .int x1] [] (hh S) n := rfl
theorem B_52_2 {X : Nat × (Nat → Int32)} {d : Nat} (n : Nat) (x1 : Int32) (S : St) : ex X d 52 0 [.ref 1, .int x1] [] (hh S) (n + 2) = if x1 < 0 then ex X d 52 19 [.ref 1, .int x1] [] (hh S) n else ex X d 52 4 [.ref 1, .int x1] [] (hh S) n := rfl
theorem B_52_3 {X : Nat × (Nat → Int32)} {d : Nat} (n : Nat) (x1 : Int32) (S : St) : ex X d 52 4 [.ref 1, .int x1] [] (hh S) (n + 3) = if 16 ≤ x1 then ex X d 52 19 [.ref 1, .int x1] [] (hh S) n else ex X d 52 10 [.ref 1, .int x1] [] (hh S) n := rfl
theorem B_52_4 {X : Nat × (Nat → Int32)} {d : Nat} (n : Nat) (x1 : Int32) (S : St) : ex X d 52 4 [.ref 1, .int x1] [] (hh S) (n + 3) = if 16 ≤ x1 then ex X d 52 19 [.ref 1, .int x1] [] (hh S) n else ex X d 52 10 [.ref 1, .int x1] [] (hh S) n := rfl
theorem B_52_5 {X : Nat × (Nat → Int32)} {d : Nat} (n : Nat) (x1 : Int32) (S : St) : ex X d 52 10 [.ref 1, .int x1] [] (hh S) (n + 4) = if (kd 9).1 = 0 ∧ xa_in x1 (kd 9).2 then ex X d 52 16 [.ref 1, .int x1] [.int (S.1 9 (x1).toNatClampNeg)] (hh S) n else none := rfl
set_option maxRecDepth 200000 in
theorem T_52 {X : Nat × (Nat → Int32)} (S : St) (x1 : Int32) (r : Int32) (S' : St) (hG : G_52 S x1 = some (r, S')) : Ev X 0 52 0 [.ref 1, .int x1] [] (hh S) (xI r, hh S') := by
  unfold G_52 at hG
  by_cases c1 : x1 < 0
  · rw [if_pos c1] at hG
    refine Ev.t (c := x1 < 0) (p1 := 19) (L1 := [.ref 1, .int x1]) (s1 := []) (h1 := hh S) (p2 := 4) (L2 := [.ref 1, .int x1]) (s2 := []) (h2 := hh S) 2 (fun n => B_52_1 n x1 S) c1 ?_
    obtain ⟨e1, e2⟩ := Prod.mk.inj (Option.some.inj hG)
    subst e1
    subst e2
    exact Ev.r 2 (fun n => rfl)
  · rw [if_neg c1] at hG
    refine Ev.f (c := x1 < 0) (p1 := 19) (L1 := [.ref 1, .int x1]) (s1 := []) (h1 := hh S) (p2 := 4) (L2 := [.ref 1, .int x1]) (s2 := []) (h2 := hh S) 2 (fun n => B_52_2 n x1 S) c1 ?_
    by_cases c2 : 16 ≤ x1
    · rw [if_pos c2] at hG
      refine Ev.t (c := 16 ≤ x1) (p1 := 19) (L1 := [.ref 1, .int x1]) (s1 := []) (h1 := hh S) (p2 := 10) (L2 := [.ref 1, .int x1]) (s2 := []) (h2 := hh S) 3 (fun n => B_52_3 n x1 S) c2 ?_
      obtain ⟨e1, e2⟩ := Prod.mk.inj (Option.some.inj hG)
      subst e1
      subst e2
      exact Ev.r 2 (fun n => rfl)
    · rw [if_neg c2] at hG
      refine Ev.f (c := 16 ≤ x1) (p1 := 19) (L1 := [.ref 1, .int x1]) (s1 := []) (h1 := hh S) (p2 := 10) (L2 := [.ref 1, .int x1]) (s2 := []) (h2 := hh S) 3 (fun n => B_52_4 n x1 S) c2 ?_
      by_cases g3 : xa_in x1 16
      rotate_left
      · rw [if_neg g3] at hG; cases hG
      rw [if_pos g3] at hG
      refine Ev.g (c := (kd 9).1 = 0 ∧ xa_in x1 (kd 9).2) (p1 := 16) (L1 := [.ref 1, .int x1]) (s1 := [.int (S.1 9 (x1).toNatClampNeg)]) (h1 := hh S) 4 (fun n => B_52_5 n x1 S) (⟨rfl, g3⟩) ?_
      obtain ⟨e1, e2⟩ := Prod.mk.inj (Option.some.inj hG)
      subst e1
      subst e2
      exact Ev.r 2 (fun n => rfl)
/-- 53: SceneCycle$World.setFlag(IZ)Z -/
def G_53 (S : St) (x1 : Int32) (x2 : Int32) : Option (Int32 × St) :=
  (if x1 < 0 then
    some (0, S)
  else
    (if x1 < 16 then
      (if xa_in x1 16 then
        (if (x2 = 0 ∨ x2 = 1) then
          some (1, (xa_u S.1 10 ((x1).toNatClampNeg) x2, S.2.1, S.2.2))
        else none)
      else none)
    else
      some (0, S)
    )
  )
theorem B_53_1 {X : Nat × (Nat → Int32)} {d : Nat} (n : Nat) (x1 : Int32) (x2 : Int32) (S : St) : ex X d 53 0 [.ref 1, .int x1, .int x2] [] (hh S) (n + 2) = if x1 < 0 then ex X d 53 10 [.ref 1, .int x1, .int x2] [] (hh S) n else ex X d 53 4 [.ref 1, .int x1, .int x2] [] (hh S) n := rfl
theorem B_53_2 {X : Nat × (Nat → Int32)} {d : Nat} (n : Nat) (x1 : Int32) (x2 : Int32) (S : St) : ex X d 53 0 [.ref 1, .int x1, .int x2] [] (hh S) (n + 2) = if x1 < 0 then ex X d 53 10 [.ref 1, .int x1, .int x2] [] (hh S) n else ex X d 53 4 [.ref 1, .int x1, .int x2] [] (hh S) n := rfl
theorem B_53_3 {X : Nat × (Nat → Int32)} {d : Nat} (n : Nat) (x1 : Int32) (x2 : Int32) (S : St) : ex X d 53 4 [.ref 1, .int x1, .int x2] [] (hh S) (n + 3) = if x1 < 16 then ex X d 53 12 [.ref 1, .int x1, .int x2] [] (hh S) n else ex X d 53 10 [.ref 1, .int x1, .int x2] [] (hh S) n := rfl
theorem B_53_4 {X : Nat × (Nat → Int32)} {d : Nat} (n : Nat) (x1 : Int32) (x2 : Int32) (S : St) : ex X d 53 12 [.ref 1, .int x1, .int x2] [] (hh S) (n + 5) = if (kd 10).1 = 1 ∧ xa_in x1 (kd 10).2 ∧ (x2 = 0 ∨ x2 = 1) then ex X d 53 19 [.ref 1, .int x1, .int x2] [] (hh (xa_u S.1 10 ((x1).toNatClampNeg) x2, S.2.1, S.2.2)) n else none := rfl
theorem B_53_5 {X : Nat × (Nat → Int32)} {d : Nat} (n : Nat) (x1 : Int32) (x2 : Int32) (S : St) : ex X d 53 4 [.ref 1, .int x1, .int x2] [] (hh S) (n + 3) = if x1 < 16 then ex X d 53 12 [.ref 1, .int x1, .int x2] [] (hh S) n else ex X d 53 10 [.ref 1, .int x1, .int x2] [] (hh S) n := rfl
set_option maxRecDepth 200000 in
theorem T_53 {X : Nat × (Nat → Int32)} (S : St) (x1 : Int32) (x2 : Int32) (r : Int32) (S' : St) (hG : G_53 S x1 x2 = some (r, S')) : Ev X 0 53 0 [.ref 1, .int x1, .int x2] [] (hh S) (xI r, hh S') := by
  unfold G_53 at hG
  by_cases c1 : x1 < 0
  · rw [if_pos c1] at hG
    refine Ev.t (c := x1 < 0) (p1 := 10) (L1 := [.ref 1, .int x1, .int x2]) (s1 := []) (h1 := hh S) (p2 := 4) (L2 := [.ref 1, .int x1, .int x2]) (s2 := []) (h2 := hh S) 2 (fun n => B_53_1 n x1 x2 S) c1 ?_
    obtain ⟨e1, e2⟩ := Prod.mk.inj (Option.some.inj hG)
    subst e1
    subst e2
    exact Ev.rg (c := (xm_z 53 = 0 ∨ (xm_z 53 = 1 ∧ ((0 : Int32) = 0 ∨ (0 : Int32) = 1)) ∨ (xm_z 53 = 2 ∧ ((0 : Int32)).toInt8.toInt32 = (0 : Int32)) ∨ (xm_z 53 = 3 ∧ ((0 : Int32)).toUInt32.toUInt16.toUInt32.toInt32 = (0 : Int32)))) 2 (fun n => rfl) (Or.inr (Or.inl ⟨rfl, by decide⟩))
  · rw [if_neg c1] at hG
    refine Ev.f (c := x1 < 0) (p1 := 10) (L1 := [.ref 1, .int x1, .int x2]) (s1 := []) (h1 := hh S) (p2 := 4) (L2 := [.ref 1, .int x1, .int x2]) (s2 := []) (h2 := hh S) 2 (fun n => B_53_2 n x1 x2 S) c1 ?_
    by_cases c2 : x1 < 16
    · rw [if_pos c2] at hG
      refine Ev.t (c := x1 < 16) (p1 := 12) (L1 := [.ref 1, .int x1, .int x2]) (s1 := []) (h1 := hh S) (p2 := 10) (L2 := [.ref 1, .int x1, .int x2]) (s2 := []) (h2 := hh S) 3 (fun n => B_53_3 n x1 x2 S) c2 ?_
      by_cases g3 : xa_in x1 16
      rotate_left
      · rw [if_neg g3] at hG; cases hG
      rw [if_pos g3] at hG
      by_cases g4 : (x2 = 0 ∨ x2 = 1)
      rotate_left
      · rw [if_neg g4] at hG; cases hG
      rw [if_pos g4] at hG
      refine Ev.g (c := (kd 10).1 = 1 ∧ xa_in x1 (kd 10).2 ∧ (x2 = 0 ∨ x2 = 1)) (p1 := 19) (L1 := [.ref 1, .int x1, .int x2]) (s1 := []) (h1 := hh (xa_u S.1 10 ((x1).toNatClampNeg) x2, S.2.1, S.2.2)) 5 (fun n => B_53_4 n x1 x2 S) (⟨rfl, g3, g4⟩) ?_
      obtain ⟨e1, e2⟩ := Prod.mk.inj (Option.some.inj hG)
      subst e1
      subst e2
      exact Ev.rg (c := (xm_z 53 = 0 ∨ (xm_z 53 = 1 ∧ ((1 : Int32) = 0 ∨ (1 : Int32) = 1)) ∨ (xm_z 53 = 2 ∧ ((1 : Int32)).toInt8.toInt32 = (1 : Int32)) ∨ (xm_z 53 = 3 ∧ ((1 : Int32)).toUInt32.toUInt16.toUInt32.toInt32 = (1 : Int32)))) 2 (fun n => rfl) (Or.inr (Or.inl ⟨rfl, by decide⟩))
    · rw [if_neg c2] at hG
      refine Ev.f (c := x1 < 16) (p1 := 12) (L1 := [.ref 1, .int x1, .int x2]) (s1 := []) (h1 := hh S) (p2 := 10) (L2 := [.ref 1, .int x1, .int x2]) (s2 := []) (h2 := hh S) 3 (fun n => B_53_5 n x1 x2 S) c2 ?_
      obtain ⟨e1, e2⟩ := Prod.mk.inj (Option.some.inj hG)
      subst e1
      subst e2
      exact Ev.rg (c := (xm_z 53 = 0 ∨ (xm_z 53 = 1 ∧ ((0 : Int32) = 0 ∨ (0 : Int32) = 1)) ∨ (xm_z 53 = 2 ∧ ((0 : Int32)).toInt8.toInt32 = (0 : Int32)) ∨ (xm_z 53 = 3 ∧ ((0 : Int32)).toUInt32.toUInt16.toUInt32.toInt32 = (0 : Int32)))) 2 (fun n => rfl) (Or.inr (Or.inl ⟨rfl, by decide⟩))
/-- 54: SceneCycle$World.isSet(I)Z -/
def G_54 (S : St) (x1 : Int32) : Option (Int32 × St) :=
  (if x1 < 0 then
    some (0, S)
  else
    (if 16 ≤ x1 then
      some (0, S)
    else
      (if xa_in x1 16 then
        (if (S.1 10 (x1).toNatClampNeg) = 0 then
          some (0, S)
        else
          some (1, S)
        )
      else none)
    )
  )
theorem B_54_1 {X : Nat × (Nat → Int32)} {d : Nat} (n : Nat) (x1 : Int32) (S : St) : ex X d 54 0 [.ref 1, .int x1] [] (hh S) (n + 2) = if x1 < 0 then ex X d 54 23 [.ref 1, .int x1] [] (hh S) n else ex X d 54 4 [.ref 1, .int x1] [] (hh S) n := rfl
theorem B_54_2 {X : Nat × (Nat → Int32)} {d : Nat} (n : Nat) (x1 : Int32) (S : St) : ex X d 54 0 [.ref 1, .int x1] [] (hh S) (n + 2) = if x1 < 0 then ex X d 54 23 [.ref 1, .int x1] [] (hh S) n else ex X d 54 4 [.ref 1, .int x1] [] (hh S) n := rfl
theorem B_54_3 {X : Nat × (Nat → Int32)} {d : Nat} (n : Nat) (x1 : Int32) (S : St) : ex X d 54 4 [.ref 1, .int x1] [] (hh S) (n + 3) = if 16 ≤ x1 then ex X d 54 23 [.ref 1, .int x1] [] (hh S) n else ex X d 54 10 [.ref 1, .int x1] [] (hh S) n := rfl
theorem B_54_4 {X : Nat × (Nat → Int32)} {d : Nat} (n : Nat) (x1 : Int32) (S : St) : ex X d 54 4 [.ref 1, .int x1] [] (hh S) (n + 3) = if 16 ≤ x1 then ex X d 54 23 [.ref 1, .int x1] [] (hh S) n else ex X d 54 10 [.ref 1, .int x1] [] (hh S) n := rfl
theorem B_54_5 {X : Nat × (Nat → Int32)} {d : Nat} (n : Nat) (x1 : Int32) (S : St) : ex X d 54 10 [.ref 1, .int x1] [] (hh S) (n + 4) = if (kd 10).1 = 1 ∧ xa_in x1 (kd 10).2 then ex X d 54 16 [.ref 1, .int x1] [.int (S.1 10 (x1).toNatClampNeg)] (hh S) n else none := rfl
theorem B_54_6 {X : Nat × (Nat → Int32)} {d : Nat} (n : Nat) (x1 : Int32) (S : St) : ex X d 54 16 [.ref 1, .int x1] [.int (S.1 10 (x1).toNatClampNeg)] (hh S) (n + 1) = if (S.1 10 (x1).toNatClampNeg) = 0 then ex X d 54 23 [.ref 1, .int x1] [] (hh S) n else ex X d 54 19 [.ref 1, .int x1] [] (hh S) n := rfl
theorem B_54_7 {X : Nat × (Nat → Int32)} {d : Nat} (n : Nat) (x1 : Int32) (S : St) : ex X d 54 16 [.ref 1, .int x1] [.int (S.1 10 (x1).toNatClampNeg)] (hh S) (n + 1) = if (S.1 10 (x1).toNatClampNeg) = 0 then ex X d 54 23 [.ref 1, .int x1] [] (hh S) n else ex X d 54 19 [.ref 1, .int x1] [] (hh S) n := rfl
set_option maxRecDepth 200000 in
theorem T_54 {X : Nat × (Nat → Int32)} (S : St) (x1 : Int32) (r : Int32) (S' : St) (hG : G_54 S x1 = some (r, S')) : Ev X 0 54 0 [.ref 1, .int x1] [] (hh S) (xI r, hh S') := by
  unfold G_54 at hG
  by_cases c1 : x1 < 0
  · rw [if_pos c1] at hG
    refine Ev.t (c := x1 < 0) (p1 := 23) (L1 := [.ref 1, .int x1]) (s1 := []) (h1 := hh S) (p2 := 4) (L2 := [.ref 1, .int x1]) (s2 := []) (h2 := hh S) 2 (fun n => B_54_1 n x1 S) c1 ?_
    obtain ⟨e1, e2⟩ := Prod.mk.inj (Option.some.inj hG)
    subst e1
    subst e2
    exact Ev.rg (c := (xm_z 54 = 0 ∨ (xm_z 54 = 1 ∧ ((0 : Int32) = 0 ∨ (0 : Int32) = 1)) ∨ (xm_z 54 = 2 ∧ ((0 : Int32)).toInt8.toInt32 = (0 : Int32)) ∨ (xm_z 54 = 3 ∧ ((0 : Int32)).toUInt32.toUInt16.toUInt32.toInt32 = (0 : Int32)))) 2 (fun n => rfl) (Or.inr (Or.inl ⟨rfl, by decide⟩))
  · rw [if_neg c1] at hG
    refine Ev.f (c := x1 < 0) (p1 := 23) (L1 := [.ref 1, .int x1]) (s1 := []) (h1 := hh S) (p2 := 4) (L2 := [.ref 1, .int x1]) (s2 := []) (h2 := hh S) 2 (fun n => B_54_2 n x1 S) c1 ?_
    by_cases c2 : 16 ≤ x1
    · rw [if_pos c2] at hG
      refine Ev.t (c := 16 ≤ x1) (p1 := 23) (L1 := [.ref 1, .int x1]) (s1 := []) (h1 := hh S) (p2 := 10) (L2 := [.ref 1, .int x1]) (s2 := []) (h2 := hh S) 3 (fun n => B_54_3 n x1 S) c2 ?_
      obtain ⟨e1, e2⟩ := Prod.mk.inj (Option.some.inj hG)
      subst e1
      subst e2
      exact Ev.rg (c := (xm_z 54 = 0 ∨ (xm_z 54 = 1 ∧ ((0 : Int32) = 0 ∨ (0 : Int32) = 1)) ∨ (xm_z 54 = 2 ∧ ((0 : Int32)).toInt8.toInt32 = (0 : Int32)) ∨ (xm_z 54 = 3 ∧ ((0 : Int32)).toUInt32.toUInt16.toUInt32.toInt32 = (0 : Int32)))) 2 (fun n => rfl) (Or.inr (Or.inl ⟨rfl, by decide⟩))
    · rw [if_neg c2] at hG
      refine Ev.f (c := 16 ≤ x1) (p1 := 23) (L1 := [.ref 1, .int x1]) (s1 := []) (h1 := hh S) (p2 := 10) (L2 := [.ref 1, .int x1]) (s2 := []) (h2 := hh S) 3 (fun n => B_54_4 n x1 S) c2 ?_
      by_cases g3 : xa_in x1 16
      rotate_left
      · rw [if_neg g3] at hG; cases hG
      rw [if_pos g3] at hG
      refine Ev.g (c := (kd 10).1 = 1 ∧ xa_in x1 (kd 10).2) (p1 := 16) (L1 := [.ref 1, .int x1]) (s1 := [.int (S.1 10 (x1).toNatClampNeg)]) (h1 := hh S) 4 (fun n => B_54_5 n x1 S) (⟨rfl, g3⟩) ?_
      by_cases c4 : (S.1 10 (x1).toNatClampNeg) = 0
      · rw [if_pos c4] at hG
        refine Ev.t (c := (S.1 10 (x1).toNatClampNeg) = 0) (p1 := 23) (L1 := [.ref 1, .int x1]) (s1 := []) (h1 := hh S) (p2 := 19) (L2 := [.ref 1, .int x1]) (s2 := []) (h2 := hh S) 1 (fun n => B_54_6 n x1 S) c4 ?_
        obtain ⟨e1, e2⟩ := Prod.mk.inj (Option.some.inj hG)
        subst e1
        subst e2
        exact Ev.rg (c := (xm_z 54 = 0 ∨ (xm_z 54 = 1 ∧ ((0 : Int32) = 0 ∨ (0 : Int32) = 1)) ∨ (xm_z 54 = 2 ∧ ((0 : Int32)).toInt8.toInt32 = (0 : Int32)) ∨ (xm_z 54 = 3 ∧ ((0 : Int32)).toUInt32.toUInt16.toUInt32.toInt32 = (0 : Int32)))) 2 (fun n => rfl) (Or.inr (Or.inl ⟨rfl, by decide⟩))
      · rw [if_neg c4] at hG
        refine Ev.f (c := (S.1 10 (x1).toNatClampNeg) = 0) (p1 := 23) (L1 := [.ref 1, .int x1]) (s1 := []) (h1 := hh S) (p2 := 19) (L2 := [.ref 1, .int x1]) (s2 := []) (h2 := hh S) 1 (fun n => B_54_7 n x1 S) c4 ?_
        obtain ⟨e1, e2⟩ := Prod.mk.inj (Option.some.inj hG)
        subst e1
        subst e2
        exact Ev.rg (c := (xm_z 54 = 0 ∨ (xm_z 54 = 1 ∧ ((1 : Int32) = 0 ∨ (1 : Int32) = 1)) ∨ (xm_z 54 = 2 ∧ ((1 : Int32)).toInt8.toInt32 = (1 : Int32)) ∨ (xm_z 54 = 3 ∧ ((1 : Int32)).toUInt32.toUInt16.toUInt32.toInt32 = (1 : Int32)))) 3 (fun n => rfl) (Or.inr (Or.inl ⟨rfl, by decide⟩))
/-- 55: SceneCycle$World.actorAt(I)LSceneCycle$Actor; -/
def G_55 (S : St) (x1 : Int32) : Option (Option Nat × St) :=
  (if x1 < 0 then
    some (none, S)
  else
    (if 4 ≤ x1 then
      some (none, S)
    else
      (if xa_in x1 4 then
        some (some (11 + (x1).toNatClampNeg), S)
      else none)
    )
  )
theorem B_55_1 {X : Nat × (Nat → Int32)} {d : Nat} (n : Nat) (x1 : Int32) (S : St) : ex X d 55 0 [.ref 1, .int x1] [] (hh S) (n + 2) = if x1 < 0 then ex X d 55 18 [.ref 1, .int x1] [] (hh S) n else ex X d 55 4 [.ref 1, .int x1] [] (hh S) n := rfl
theorem B_55_2 {X : Nat × (Nat → Int32)} {d : Nat} (n : Nat) (x1 : Int32) (S : St) : ex X d 55 0 [.ref 1, .int x1] [] (hh S) (n + 2) = if x1 < 0 then ex X d 55 18 [.ref 1, .int x1] [] (hh S) n else ex X d 55 4 [.ref 1, .int x1] [] (hh S) n := rfl
theorem B_55_3 {X : Nat × (Nat → Int32)} {d : Nat} (n : Nat) (x1 : Int32) (S : St) : ex X d 55 4 [.ref 1, .int x1] [] (hh S) (n + 3) = if 4 ≤ x1 then ex X d 55 18 [.ref 1, .int x1] [] (hh S) n else ex X d 55 9 [.ref 1, .int x1] [] (hh S) n := rfl
theorem B_55_4 {X : Nat × (Nat → Int32)} {d : Nat} (n : Nat) (x1 : Int32) (S : St) : ex X d 55 4 [.ref 1, .int x1] [] (hh S) (n + 3) = if 4 ≤ x1 then ex X d 55 18 [.ref 1, .int x1] [] (hh S) n else ex X d 55 9 [.ref 1, .int x1] [] (hh S) n := rfl
theorem B_55_5 {X : Nat × (Nat → Int32)} {d : Nat} (n : Nat) (x1 : Int32) (S : St) : ex X d 55 9 [.ref 1, .int x1] [] (hh S) (n + 4) = if (2 ≤ (kd 7).1 ∧ (kd 7).1 < xo_n) ∧ xa_in x1 (kd 7).2 then ex X d 55 15 [.ref 1, .int x1] [va_rf (RC S.2.1 S.2.2 7 (x1).toNatClampNeg)] (hh S) n else none := rfl
set_option maxRecDepth 200000 in
theorem T_55 {X : Nat × (Nat → Int32)} (S : St) (x1 : Int32) (r : Option Nat) (S' : St) (hG : G_55 S x1 = some (r, S')) : Ev X 0 55 0 [.ref 1, .int x1] [] (hh S) (xO r, hh S') := by
  unfold G_55 at hG
  by_cases c1 : x1 < 0
  · rw [if_pos c1] at hG
    refine Ev.t (c := x1 < 0) (p1 := 18) (L1 := [.ref 1, .int x1]) (s1 := []) (h1 := hh S) (p2 := 4) (L2 := [.ref 1, .int x1]) (s2 := []) (h2 := hh S) 2 (fun n => B_55_1 n x1 S) c1 ?_
    obtain ⟨e1, e2⟩ := Prod.mk.inj (Option.some.inj hG)
    subst e1
    subst e2
    exact Ev.r 2 (fun n => rfl)
  · rw [if_neg c1] at hG
    refine Ev.f (c := x1 < 0) (p1 := 18) (L1 := [.ref 1, .int x1]) (s1 := []) (h1 := hh S) (p2 := 4) (L2 := [.ref 1, .int x1]) (s2 := []) (h2 := hh S) 2 (fun n => B_55_2 n x1 S) c1 ?_
    by_cases c2 : 4 ≤ x1
    · rw [if_pos c2] at hG
      refine Ev.t (c := 4 ≤ x1) (p1 := 18) (L1 := [.ref 1, .int x1]) (s1 := []) (h1 := hh S) (p2 := 9) (L2 := [.ref 1, .int x1]) (s2 := []) (h2 := hh S) 3 (fun n => B_55_3 n x1 S) c2 ?_
      obtain ⟨e1, e2⟩ := Prod.mk.inj (Option.some.inj hG)
      subst e1
      subst e2
      exact Ev.r 2 (fun n => rfl)
    · rw [if_neg c2] at hG
      refine Ev.f (c := 4 ≤ x1) (p1 := 18) (L1 := [.ref 1, .int x1]) (s1 := []) (h1 := hh S) (p2 := 9) (L2 := [.ref 1, .int x1]) (s2 := []) (h2 := hh S) 3 (fun n => B_55_4 n x1 S) c2 ?_
      by_cases g3 : xa_in x1 4
      rotate_left
      · rw [if_neg g3] at hG; cases hG
      rw [if_pos g3] at hG
      refine Ev.g (c := (2 ≤ (kd 7).1 ∧ (kd 7).1 < xo_n) ∧ xa_in x1 (kd 7).2) (p1 := 15) (L1 := [.ref 1, .int x1]) (s1 := [va_rf (RC S.2.1 S.2.2 7 (x1).toNatClampNeg)]) (h1 := hh S) 4 (fun n => B_55_5 n x1 S) ⟨⟨by decide, by decide⟩, g3⟩ ?_
      rw [RC_7 (xa_lt (n := 4) g3)]
      show Ev X _ 55 15 [.ref 1, .int x1] [.ref (11 + (x1).toNatClampNeg)] (hh S) _
      obtain ⟨e1, e2⟩ := Prod.mk.inj (Option.some.inj hG)
      subst e1
      subst e2
      exact Ev.r 2 (fun n => rfl)
/-- 56: SceneCycle$World.frontActor(III)I -/
def GL_56_0 : Nat → St → Int32 → Int32 → Int32 → Int32 → Int32 → Option (Int32 × St)
  | 0, _, _, _, _, _, _ => none
  | n + 1, S, y1, y2, y3, y4, y5 =>
    (if 4 ≤ y5 then
      some (y4, S)
    else
      (if xa_in y5 4 then
        (if (kd (11 + (y5).toNatClampNeg)).1 = 10 + 0 then
          (match G_21 S (11 + (y5).toNatClampNeg) y1 y2 with
          | none => none
          | some (v3, S3) =>
            (if v3 = 0 then
              GL_56_0 n S3 y1 y2 y3 y4 (y5 + 1)
            else
              (match G_19 S3 (11 + (y5).toNatClampNeg) with
              | none => none
              | some (v6, S6) =>
                (if v6 < y3 then
                  GL_56_0 n S6 y1 y2 y3 y4 (y5 + 1)
                else
                  (if y4 = (-1) then
                    GL_56_0 n S6 y1 y2 y3 y5 (y5 + 1)
                  else
                    (if xa_in y4 4 then
                      (match G_22 S6 (11 + (y5).toNatClampNeg) (11 + (y4).toNatClampNeg) with
                      | none => none
                      | some (v10, S10) =>
                        (if v10 = 0 then
                          GL_56_0 n S10 y1 y2 y3 y5 (y5 + 1)
                        else
                          GL_56_0 n S10 y1 y2 y3 y4 (y5 + 1)
                        )
                      )
                    else none)
                  )
                )
              )
            )
          )
        else none)
      else none)
    )
theorem B_56_1 {X : Nat × (Nat → Int32)} {d : Nat} (n : Nat) (y1 : Int32) (y2 : Int32) (y3 : Int32) (y4 : Int32) (y5 : Int32) (w6 : Value) (w7 : Value) (S : St) : ex X d 56 6 [.ref 1, .int y1, .int y2, .int y3, .int y4, .int y5, w6, w7] [] (hh S) (n + 3) = if 4 ≤ y5 then ex X d 56 83 [.ref 1, .int y1, .int y2, .int y3, .int y4, .int y5, w6, w7] [] (hh S) n else ex X d 56 12 [.ref 1, .int y1, .int y2, .int y3, .int y4, .int y5, w6, w7] [] (hh S) n := rfl
theorem B_56_2 {X : Nat × (Nat → Int32)} {d : Nat} (n : Nat) (y1 : Int32) (y2 : Int32) (y3 : Int32) (y4 : Int32) (y5 : Int32) (w6 : Value) (w7 : Value) (S : St) : ex X d 56 6 [.ref 1, .int y1, .int y2, .int y3, .int y4, .int y5, w6, w7] [] (hh S) (n + 3) = if 4 ≤ y5 then ex X d 56 83 [.ref 1, .int y1, .int y2, .int y3, .int y4, .int y5, w6, w7] [] (hh S) n else ex X d 56 12 [.ref 1, .int y1, .int y2, .int y3, .int y4, .int y5, w6, w7] [] (hh S) n := rfl
theorem B_56_3 {X : Nat × (Nat → Int32)} {d : Nat} (n : Nat) (y1 : Int32) (y2 : Int32) (y3 : Int32) (y4 : Int32) (y5 : Int32) (w6 : Value) (w7 : Value) (S : St) : ex X d 56 12 [.ref 1, .int y1, .int y2, .int y3, .int y4, .int y5, w6, w7] [] (hh S) (n + 4) = if (2 ≤ (kd 7).1 ∧ (kd 7).1 < xo_n) ∧ xa_in y5 (kd 7).2 then ex X d 56 19 [.ref 1, .int y1, .int y2, .int y3, .int y4, .int y5, w6, w7] [va_rf (RC S.2.1 S.2.2 7 (y5).toNatClampNeg)] (hh S) n else none := rfl
theorem B_56_4 {X : Nat × (Nat → Int32)} {d : Nat} (n : Nat) (y1 : Int32) (y2 : Int32) (y3 : Int32) (y4 : Int32) (y5 : Int32) (w6 : Value) (w7 : Value) (S : St) : ex X (d + 1) 56 19 [.ref 1, .int y1, .int y2, .int y3, .int y4, .int y5, w6, w7] [.ref (11 + (y5).toNatClampNeg)] (hh S) (n + 5) = if (xm_o 21 = 200 ∧ 2000 ≤ (11 + (y5).toNatClampNeg) ∧ (11 + (y5).toNatClampNeg) < 2000 + xS_n) ∨ (xm_o 21 ≠ 200 ∧ (kd (11 + (y5).toNatClampNeg)).1 = 10 + xm_o 21) then (match ex X d 21 0 [.ref (11 + (y5).toNatClampNeg), .int y1, .int y2] [] (hh S) n with | some (v, h') => ex X (d + 1) 56 28 [.ref 1, .int y1, .int y2, .int y3, .int y4, .int y5, .ref (11 + (y5).toNatClampNeg), w7] (v.toList ++ []) h' n | none => none) else none := rfl
theorem B_56_5 {X : Nat × (Nat → Int32)} {d : Nat} (n : Nat) (y1 : Int32) (y2 : Int32) (y3 : Int32) (y4 : Int32) (y5 : Int32) (w7 : Value) (v3 : Int32) (S3 : St) : ex X d 56 28 [.ref 1, .int y1, .int y2, .int y3, .int y4, .int y5, .ref (11 + (y5).toNatClampNeg), w7] [.int v3] (hh S3) (n + 1) = if v3 = 0 then ex X d 56 44 [.ref 1, .int y1, .int y2, .int y3, .int y4, .int y5, .ref (11 + (y5).toNatClampNeg), w7] [] (hh S3) n else ex X d 56 31 [.ref 1, .int y1, .int y2, .int y3, .int y4, .int y5, .ref (11 + (y5).toNatClampNeg), w7] [] (hh S3) n := rfl
theorem B_56_6 {X : Nat × (Nat → Int32)} {d : Nat} (n : Nat) (y1 : Int32) (y2 : Int32) (y3 : Int32) (y4 : Int32) (y5 : Int32) (w7 : Value) (S3 : St) : ex X d 56 44 [.ref 1, .int y1, .int y2, .int y3, .int y4, .int y5, .ref (11 + (y5).toNatClampNeg), w7] [] (hh S3) (n + 4) = if (0 : Int32) = 0 then ex X d 56 77 [.ref 1, .int y1, .int y2, .int y3, .int y4, .int y5, .ref (11 + (y5).toNatClampNeg), .int 0] [] (hh S3) n else ex X d 56 52 [.ref 1, .int y1, .int y2, .int y3, .int y4, .int y5, .ref (11 + (y5).toNatClampNeg), .int 0] [] (hh S3) n := rfl
theorem B_56_7 {X : Nat × (Nat → Int32)} {d : Nat} (n : Nat) (y1 : Int32) (y2 : Int32) (y3 : Int32) (y4 : Int32) (y5 : Int32) (S3 : St) : ex X d 56 77 [.ref 1, .int y1, .int y2, .int y3, .int y4, .int y5, .ref (11 + (y5).toNatClampNeg), .int 0] [] (hh S3) (n + 2) = ex X d 56 6 [.ref 1, .int y1, .int y2, .int y3, .int y4, .int (y5 + 1), .ref (11 + (y5).toNatClampNeg), .int 0] [] (hh S3) n := rfl
theorem B_56_8 {X : Nat × (Nat → Int32)} {d : Nat} (n : Nat) (y1 : Int32) (y2 : Int32) (y3 : Int32) (y4 : Int32) (y5 : Int32) (w7 : Value) (v3 : Int32) (S3 : St) : ex X d 56 28 [.ref 1, .int y1, .int y2, .int y3, .int y4, .int y5, .ref (11 + (y5).toNatClampNeg), w7] [.int v3] (hh S3) (n + 1) = if v3 = 0 then ex X d 56 44 [.ref 1, .int y1, .int y2, .int y3, .int y4, .int y5, .ref (11 + (y5).toNatClampNeg), w7] [] (hh S3) n else ex X d 56 31 [.ref 1, .int y1, .int y2, .int y3, .int y4, .int y5, .ref (11 + (y5).toNatClampNeg), w7] [] (hh S3) n := rfl
theorem B_56_9 {X : Nat × (Nat → Int32)} {d : Nat} (n : Nat) (y1 : Int32) (y2 : Int32) (y3 : Int32) (y4 : Int32) (y5 : Int32) (w7 : Value) (S3 : St) : ex X (d + 1) 56 31 [.ref 1, .int y1, .int y2, .int y3, .int y4, .int y5, .ref (11 + (y5).toNatClampNeg), w7] [] (hh S3) (n + 2) = if (xm_o 19 = 200 ∧ 2000 ≤ (11 + (y5).toNatClampNeg) ∧ (11 + (y5).toNatClampNeg) < 2000 + xS_n) ∨ (xm_o 19 ≠ 200 ∧ (kd (11 + (y5).toNatClampNeg)).1 = 10 + xm_o 19) then (match ex X d 19 0 [.ref (11 + (y5).toNatClampNeg)] [] (hh S3) n with | some (v, h') => ex X (d + 1) 56 36 [.ref 1, .int y1, .int y2, .int y3, .int y4, .int y5, .ref (11 + (y5).toNatClampNeg), w7] (v.toList ++ []) h' n | none => none) else none := rfl
theorem B_56_10 {X : Nat × (Nat → Int32)} {d : Nat} (n : Nat) (y1 : Int32) (y2 : Int32) (y3 : Int32) (y4 : Int32) (y5 : Int32) (w7 : Value) (v6 : Int32) (S6 : St) : ex X d 56 36 [.ref 1, .int y1, .int y2, .int y3, .int y4, .int y5, .ref (11 + (y5).toNatClampNeg), w7] [.int v6] (hh S6) (n + 2) = if v6 < y3 then ex X d 56 44 [.ref 1, .int y1, .int y2, .int y3, .int y4, .int y5, .ref (11 + (y5).toNatClampNeg), w7] [] (hh S6) n else ex X d 56 40 [.ref 1, .int y1, .int y2, .int y3, .int y4, .int y5, .ref (11 + (y5).toNatClampNeg), w7] [] (hh S6) n := rfl
theorem B_56_11 {X : Nat × (Nat → Int32)} {d : Nat} (n : Nat) (y1 : Int32) (y2 : Int32) (y3 : Int32) (y4 : Int32) (y5 : Int32) (w7 : Value) (S6 : St) : ex X d 56 44 [.ref 1, .int y1, .int y2, .int y3, .int y4, .int y5, .ref (11 + (y5).toNatClampNeg), w7] [] (hh S6) (n + 4) = if (0 : Int32) = 0 then ex X d 56 77 [.ref 1, .int y1, .int y2, .int y3, .int y4, .int y5, .ref (11 + (y5).toNatClampNeg), .int 0] [] (hh S6) n else ex X d 56 52 [.ref 1, .int y1, .int y2, .int y3, .int y4, .int y5, .ref (11 + (y5).toNatClampNeg), .int 0] [] (hh S6) n := rfl
theorem B_56_12 {X : Nat × (Nat → Int32)} {d : Nat} (n : Nat) (y1 : Int32) (y2 : Int32) (y3 : Int32) (y4 : Int32) (y5 : Int32) (S6 : St) : ex X d 56 77 [.ref 1, .int y1, .int y2, .int y3, .int y4, .int y5, .ref (11 + (y5).toNatClampNeg), .int 0] [] (hh S6) (n + 2) = ex X d 56 6 [.ref 1, .int y1, .int y2, .int y3, .int y4, .int (y5 + 1), .ref (11 + (y5).toNatClampNeg), .int 0] [] (hh S6) n := rfl
theorem B_56_13 {X : Nat × (Nat → Int32)} {d : Nat} (n : Nat) (y1 : Int32) (y2 : Int32) (y3 : Int32) (y4 : Int32) (y5 : Int32) (w7 : Value) (v6 : Int32) (S6 : St) : ex X d 56 36 [.ref 1, .int y1, .int y2, .int y3, .int y4, .int y5, .ref (11 + (y5).toNatClampNeg), w7] [.int v6] (hh S6) (n + 2) = if v6 < y3 then ex X d 56 44 [.ref 1, .int y1, .int y2, .int y3, .int y4, .int y5, .ref (11 + (y5).toNatClampNeg), w7] [] (hh S6) n else ex X d 56 40 [.ref 1, .int y1, .int y2, .int y3, .int y4, .int y5, .ref (11 + (y5).toNatClampNeg), w7] [] (hh S6) n := rfl
theorem B_56_14 {X : Nat × (Nat → Int32)} {d : Nat} (n : Nat) (y1 : Int32) (y2 : Int32) (y3 : Int32) (y4 : Int32) (y5 : Int32) (w7 : Value) (S6 : St) : ex X d 56 40 [.ref 1, .int y1, .int y2, .int y3, .int y4, .int y5, .ref (11 + (y5).toNatClampNeg), w7] [] (hh S6) (n + 5) = if (1 : Int32) = 0 then ex X d 56 77 [.ref 1, .int y1, .int y2, .int y3, .int y4, .int y5, .ref (11 + (y5).toNatClampNeg), .int 1] [] (hh S6) n else ex X d 56 52 [.ref 1, .int y1, .int y2, .int y3, .int y4, .int y5, .ref (11 + (y5).toNatClampNeg), .int 1] [] (hh S6) n := rfl
theorem B_56_15 {X : Nat × (Nat → Int32)} {d : Nat} (n : Nat) (y1 : Int32) (y2 : Int32) (y3 : Int32) (y4 : Int32) (y5 : Int32) (S6 : St) : ex X d 56 52 [.ref 1, .int y1, .int y2, .int y3, .int y4, .int y5, .ref (11 + (y5).toNatClampNeg), .int 1] [] (hh S6) (n + 3) = if y4 = (-1) then ex X d 56 73 [.ref 1, .int y1, .int y2, .int y3, .int y4, .int y5, .ref (11 + (y5).toNatClampNeg), .int 1] [] (hh S6) n else ex X d 56 58 [.ref 1, .int y1, .int y2, .int y3, .int y4, .int y5, .ref (11 + (y5).toNatClampNeg), .int 1] [] (hh S6) n := rfl
theorem B_56_16 {X : Nat × (Nat → Int32)} {d : Nat} (n : Nat) (y1 : Int32) (y2 : Int32) (y3 : Int32) (y4 : Int32) (y5 : Int32) (S6 : St) : ex X d 56 73 [.ref 1, .int y1, .int y2, .int y3, .int y4, .int y5, .ref (11 + (y5).toNatClampNeg), .int 1] [] (hh S6) (n + 4) = ex X d 56 6 [.ref 1, .int y1, .int y2, .int y3, .int y5, .int (y5 + 1), .ref (11 + (y5).toNatClampNeg), .int 1] [] (hh S6) n := rfl
theorem B_56_17 {X : Nat × (Nat → Int32)} {d : Nat} (n : Nat) (y1 : Int32) (y2 : Int32) (y3 : Int32) (y4 : Int32) (y5 : Int32) (S6 : St) : ex X d 56 52 [.ref 1, .int y1, .int y2, .int y3, .int y4, .int y5, .ref (11 + (y5).toNatClampNeg), .int 1] [] (hh S6) (n + 3) = if y4 = (-1) then ex X d 56 73 [.ref 1, .int y1, .int y2, .int y3, .int y4, .int y5, .ref (11 + (y5).toNatClampNeg), .int 1] [] (hh S6) n else ex X d 56 58 [.ref 1, .int y1, .int y2, .int y3, .int y4, .int y5, .ref (11 + (y5).toNatClampNeg), .int 1] [] (hh S6) n := rfl
theorem B_56_18 {X : Nat × (Nat → Int32)} {d : Nat} (n : Nat) (y1 : Int32) (y2 : Int32) (y3 : Int32) (y4 : Int32) (y5 : Int32) (S6 : St) : ex X d 56 58 [.ref 1, .int y1, .int y2, .int y3, .int y4, .int y5, .ref (11 + (y5).toNatClampNeg), .int 1] [] (hh S6) (n + 5) = if (2 ≤ (kd 7).1 ∧ (kd 7).1 < xo_n) ∧ xa_in y4 (kd 7).2 then ex X d 56 67 [.ref 1, .int y1, .int y2, .int y3, .int y4, .int y5, .ref (11 + (y5).toNatClampNeg), .int 1] [va_rf (RC S6.2.1 S6.2.2 7 (y4).toNatClampNeg), .ref (11 + (y5).toNatClampNeg)] (hh S6) n else none := rfl
theorem B_56_19 {X : Nat × (Nat → Int32)} {d : Nat} (n : Nat) (y1 : Int32) (y2 : Int32) (y3 : Int32) (y4 : Int32) (y5 : Int32) (S6 : St) : ex X (d + 1) 56 67 [.ref 1, .int y1, .int y2, .int y3, .int y4, .int y5, .ref (11 + (y5).toNatClampNeg), .int 1] [.ref (11 + (y4).toNatClampNeg), .ref (11 + (y5).toNatClampNeg)] (hh S6) (n + 1) = if (xm_o 22 = 200 ∧ 2000 ≤ (11 + (y5).toNatClampNeg) ∧ (11 + (y5).toNatClampNeg) < 2000 + xS_n) ∨ (xm_o 22 ≠ 200 ∧ (kd (11 + (y5).toNatClampNeg)).1 = 10 + xm_o 22) then (match ex X d 22 0 [.ref (11 + (y5).toNatClampNeg), .ref (11 + (y4).toNatClampNeg)] [] (hh S6) n with | some (v, h') => ex X (d + 1) 56 70 [.ref 1, .int y1, .int y2, .int y3, .int y4, .int y5, .ref (11 + (y5).toNatClampNeg), .int 1] (v.toList ++ []) h' n | none => none) else none := rfl
theorem B_56_20 {X : Nat × (Nat → Int32)} {d : Nat} (n : Nat) (y1 : Int32) (y2 : Int32) (y3 : Int32) (y4 : Int32) (y5 : Int32) (v10 : Int32) (S10 : St) : ex X d 56 70 [.ref 1, .int y1, .int y2, .int y3, .int y4, .int y5, .ref (11 + (y5).toNatClampNeg), .int 1] [.int v10] (hh S10) (n + 1) = if v10 = 0 then ex X d 56 73 [.ref 1, .int y1, .int y2, .int y3, .int y4, .int y5, .ref (11 + (y5).toNatClampNeg), .int 1] [] (hh S10) n else ex X d 56 77 [.ref 1, .int y1, .int y2, .int y3, .int y4, .int y5, .ref (11 + (y5).toNatClampNeg), .int 1] [] (hh S10) n := rfl
theorem B_56_21 {X : Nat × (Nat → Int32)} {d : Nat} (n : Nat) (y1 : Int32) (y2 : Int32) (y3 : Int32) (y4 : Int32) (y5 : Int32) (S10 : St) : ex X d 56 73 [.ref 1, .int y1, .int y2, .int y3, .int y4, .int y5, .ref (11 + (y5).toNatClampNeg), .int 1] [] (hh S10) (n + 4) = ex X d 56 6 [.ref 1, .int y1, .int y2, .int y3, .int y5, .int (y5 + 1), .ref (11 + (y5).toNatClampNeg), .int 1] [] (hh S10) n := rfl
theorem B_56_22 {X : Nat × (Nat → Int32)} {d : Nat} (n : Nat) (y1 : Int32) (y2 : Int32) (y3 : Int32) (y4 : Int32) (y5 : Int32) (v10 : Int32) (S10 : St) : ex X d 56 70 [.ref 1, .int y1, .int y2, .int y3, .int y4, .int y5, .ref (11 + (y5).toNatClampNeg), .int 1] [.int v10] (hh S10) (n + 1) = if v10 = 0 then ex X d 56 73 [.ref 1, .int y1, .int y2, .int y3, .int y4, .int y5, .ref (11 + (y5).toNatClampNeg), .int 1] [] (hh S10) n else ex X d 56 77 [.ref 1, .int y1, .int y2, .int y3, .int y4, .int y5, .ref (11 + (y5).toNatClampNeg), .int 1] [] (hh S10) n := rfl
theorem B_56_23 {X : Nat × (Nat → Int32)} {d : Nat} (n : Nat) (y1 : Int32) (y2 : Int32) (y3 : Int32) (y4 : Int32) (y5 : Int32) (S10 : St) : ex X d 56 77 [.ref 1, .int y1, .int y2, .int y3, .int y4, .int y5, .ref (11 + (y5).toNatClampNeg), .int 1] [] (hh S10) (n + 2) = ex X d 56 6 [.ref 1, .int y1, .int y2, .int y3, .int y4, .int (y5 + 1), .ref (11 + (y5).toNatClampNeg), .int 1] [] (hh S10) n := rfl
set_option maxRecDepth 200000 in
theorem TL_56_0 {X : Nat × (Nat → Int32)} : ∀ (n : Nat) (S : St) (y1 : Int32) (y2 : Int32) (y3 : Int32) (y4 : Int32) (y5 : Int32) (r : Int32) (S' : St), GL_56_0 n S y1 y2 y3 y4 y5 = some (r, S') → ∀ (w6 w7 : Value), Ev X 2 56 6 [.ref 1, .int y1, .int y2, .int y3, .int y4, .int y5, w6, w7] [] (hh S) (xI r, hh S') := by
  intro n
  induction n with
  | zero => intro S y1 y2 y3 y4 y5 r S' hG; simp [GL_56_0] at hG
  | succ n ih =>
    intro S y1 y2 y3 y4 y5 r S' hG w6 w7
    rw [GL_56_0] at hG
    by_cases c1 : 4 ≤ y5
    · rw [if_pos c1] at hG
      refine Ev.t (c := 4 ≤ y5) (p1 := 83) (L1 := [.ref 1, .int y1, .int y2, .int y3, .int y4, .int y5, w6, w7]) (s1 := []) (h1 := hh S) (p2 := 12) (L2 := [.ref 1, .int y1, .int y2, .int y3, .int y4, .int y5, w6, w7]) (s2 := []) (h2 := hh S) 3 (fun n => B_56_1 n y1 y2 y3 y4 y5 w6 w7 S) c1 ?_
      obtain ⟨e1, e2⟩ := Prod.mk.inj (Option.some.inj hG)
      subst e1
      subst e2
      exact Ev.r 2 (fun n => rfl)
    · rw [if_neg c1] at hG
      refine Ev.f (c := 4 ≤ y5) (p1 := 83) (L1 := [.ref 1, .int y1, .int y2, .int y3, .int y4, .int y5, w6, w7]) (s1 := []) (h1 := hh S) (p2 := 12) (L2 := [.ref 1, .int y1, .int y2, .int y3, .int y4, .int y5, w6, w7]) (s2 := []) (h2 := hh S) 3 (fun n => B_56_2 n y1 y2 y3 y4 y5 w6 w7 S) c1 ?_
      by_cases g2 : xa_in y5 4
      rotate_left
      · rw [if_neg g2] at hG; cases hG
      rw [if_pos g2] at hG
      refine Ev.g (c := (2 ≤ (kd 7).1 ∧ (kd 7).1 < xo_n) ∧ xa_in y5 (kd 7).2) (p1 := 19) (L1 := [.ref 1, .int y1, .int y2, .int y3, .int y4, .int y5, w6, w7]) (s1 := [va_rf (RC S.2.1 S.2.2 7 (y5).toNatClampNeg)]) (h1 := hh S) 4 (fun n => B_56_3 n y1 y2 y3 y4 y5 w6 w7 S) ⟨⟨by decide, by decide⟩, g2⟩ ?_
      rw [RC_7 (xa_lt (n := 4) g2)]
      show Ev X _ 56 19 [.ref 1, .int y1, .int y2, .int y3, .int y4, .int y5, w6, w7] [.ref (11 + (y5).toNatClampNeg)] (hh S) _
      by_cases g4 : (kd (11 + (y5).toNatClampNeg)).1 = 10 + 0
      rotate_left
      · rw [if_neg g4] at hG; cases hG
      rw [if_pos g4] at hG
      rcases h3 : G_21 S (11 + (y5).toNatClampNeg) y1 y2 with _ | ⟨v3, S3⟩
      · rw [h3] at hG; cases hG
      rw [h3] at hG
      dsimp only at hG
      refine Ev.cg (c := (xm_o 21 = 200 ∧ 2000 ≤ (11 + (y5).toNatClampNeg) ∧ (11 + (y5).toNatClampNeg) < 2000 + xS_n) ∨ (xm_o 21 ≠ 200 ∧ (kd (11 + (y5).toNatClampNeg)).1 = 10 + xm_o 21)) (a := 21) (A := [.ref (11 + (y5).toNatClampNeg), .int y1, .int y2]) (h1 := hh S) (pc' := 28) (L' := [.ref 1, .int y1, .int y2, .int y3, .int y4, .int y5, .ref (11 + (y5).toNatClampNeg), w7]) (rest := []) (r1 := some (.int v3)) (h2 := hh S3) 5 (fun n => B_56_4 n y1 y2 y3 y4 y5 w6 w7 S) (Or.inr ⟨by decide, g4⟩) (Ev.up (by decide) (T_21 S (11 + (y5).toNatClampNeg) y1 y2 _ _ h3)) ?_
      show Ev X _ 56 28 [.ref 1, .int y1, .int y2, .int y3, .int y4, .int y5, .ref (11 + (y5).toNatClampNeg), w7] [.int v3] (hh S3) _
      by_cases c5 : v3 = 0
      · rw [if_pos c5] at hG
        refine Ev.t (c := v3 = 0) (p1 := 44) (L1 := [.ref 1, .int y1, .int y2, .int y3, .int y4, .int y5, .ref (11 + (y5).toNatClampNeg), w7]) (s1 := []) (h1 := hh S3) (p2 := 31) (L2 := [.ref 1, .int y1, .int y2, .int y3, .int y4, .int y5, .ref (11 + (y5).toNatClampNeg), w7]) (s2 := []) (h2 := hh S3) 1 (fun n => B_56_5 n y1 y2 y3 y4 y5 w7 v3 S3) c5 ?_
        refine Ev.t (c := (0 : Int32) = 0) (p1 := 77) (L1 := [.ref 1, .int y1, .int y2, .int y3, .int y4, .int y5, .ref (11 + (y5).toNatClampNeg), .int 0]) (s1 := []) (h1 := hh S3) (p2 := 52) (L2 := [.ref 1, .int y1, .int y2, .int y3, .int y4, .int y5, .ref (11 + (y5).toNatClampNeg), .int 0]) (s2 := []) (h2 := hh S3) 4 (fun n => B_56_6 n y1 y2 y3 y4 y5 w7 S3) (by decide) ?_
        exact Ev.b (pc' := 6) (L' := [.ref 1, .int y1, .int y2, .int y3, .int y4, .int (y5 + 1), .ref (11 + (y5).toNatClampNeg), .int 0]) (st' := []) (h' := hh S3) 2 (fun n => B_56_7 n y1 y2 y3 y4 y5 S3) (ih S3 y1 y2 y3 y4 (y5 + 1) _ _ hG (.ref (11 + (y5).toNatClampNeg)) (.int 0))
      · rw [if_neg c5] at hG
        refine Ev.f (c := v3 = 0) (p1 := 44) (L1 := [.ref 1, .int y1, .int y2, .int y3, .int y4, .int y5, .ref (11 + (y5).toNatClampNeg), w7]) (s1 := []) (h1 := hh S3) (p2 := 31) (L2 := [.ref 1, .int y1, .int y2, .int y3, .int y4, .int y5, .ref (11 + (y5).toNatClampNeg), w7]) (s2 := []) (h2 := hh S3) 1 (fun n => B_56_8 n y1 y2 y3 y4 y5 w7 v3 S3) c5 ?_
        rcases h6 : G_19 S3 (11 + (y5).toNatClampNeg) with _ | ⟨v6, S6⟩
        · rw [h6] at hG; cases hG
        rw [h6] at hG
        dsimp only at hG
        refine Ev.cg (c := (xm_o 19 = 200 ∧ 2000 ≤ (11 + (y5).toNatClampNeg) ∧ (11 + (y5).toNatClampNeg) < 2000 + xS_n) ∨ (xm_o 19 ≠ 200 ∧ (kd (11 + (y5).toNatClampNeg)).1 = 10 + xm_o 19)) (a := 19) (A := [.ref (11 + (y5).toNatClampNeg)]) (h1 := hh S3) (pc' := 36) (L' := [.ref 1, .int y1, .int y2, .int y3, .int y4, .int y5, .ref (11 + (y5).toNatClampNeg), w7]) (rest := []) (r1 := some (.int v6)) (h2 := hh S6) 2 (fun n => B_56_9 n y1 y2 y3 y4 y5 w7 S3) (Or.inr ⟨by decide, g4⟩) (Ev.up (by decide) (T_19 S3 (11 + (y5).toNatClampNeg) _ _ h6)) ?_
        show Ev X _ 56 36 [.ref 1, .int y1, .int y2, .int y3, .int y4, .int y5, .ref (11 + (y5).toNatClampNeg), w7] [.int v6] (hh S6) _
        by_cases c7 : v6 < y3
        · rw [if_pos c7] at hG
          refine Ev.t (c := v6 < y3) (p1 := 44) (L1 := [.ref 1, .int y1, .int y2, .int y3, .int y4, .int y5, .ref (11 + (y5).toNatClampNeg), w7]) (s1 := []) (h1 := hh S6) (p2 := 40) (L2 := [.ref 1, .int y1, .int y2, .int y3, .int y4, .int y5, .ref (11 + (y5).toNatClampNeg), w7]) (s2 := []) (h2 := hh S6) 2 (fun n => B_56_10 n y1 y2 y3 y4 y5 w7 v6 S6) c7 ?_
          refine Ev.t (c := (0 : Int32) = 0) (p1 := 77) (L1 := [.ref 1, .int y1, .int y2, .int y3, .int y4, .int y5, .ref (11 + (y5).toNatClampNeg), .int 0]) (s1 := []) (h1 := hh S6) (p2 := 52) (L2 := [.ref 1, .int y1, .int y2, .int y3, .int y4, .int y5, .ref (11 + (y5).toNatClampNeg), .int 0]) (s2 := []) (h2 := hh S6) 4 (fun n => B_56_11 n y1 y2 y3 y4 y5 w7 S6) (by decide) ?_
          exact Ev.b (pc' := 6) (L' := [.ref 1, .int y1, .int y2, .int y3, .int y4, .int (y5 + 1), .ref (11 + (y5).toNatClampNeg), .int 0]) (st' := []) (h' := hh S6) 2 (fun n => B_56_12 n y1 y2 y3 y4 y5 S6) (ih S6 y1 y2 y3 y4 (y5 + 1) _ _ hG (.ref (11 + (y5).toNatClampNeg)) (.int 0))
        · rw [if_neg c7] at hG
          refine Ev.f (c := v6 < y3) (p1 := 44) (L1 := [.ref 1, .int y1, .int y2, .int y3, .int y4, .int y5, .ref (11 + (y5).toNatClampNeg), w7]) (s1 := []) (h1 := hh S6) (p2 := 40) (L2 := [.ref 1, .int y1, .int y2, .int y3, .int y4, .int y5, .ref (11 + (y5).toNatClampNeg), w7]) (s2 := []) (h2 := hh S6) 2 (fun n => B_56_13 n y1 y2 y3 y4 y5 w7 v6 S6) c7 ?_
          refine Ev.f (c := (1 : Int32) = 0) (p1 := 77) (L1 := [.ref 1, .int y1, .int y2, .int y3, .int y4, .int y5, .ref (11 + (y5).toNatClampNeg), .int 1]) (s1 := []) (h1 := hh S6) (p2 := 52) (L2 := [.ref 1, .int y1, .int y2, .int y3, .int y4, .int y5, .ref (11 + (y5).toNatClampNeg), .int 1]) (s2 := []) (h2 := hh S6) 5 (fun n => B_56_14 n y1 y2 y3 y4 y5 w7 S6) (by decide) ?_
          by_cases c8 : y4 = (-1)
          · rw [if_pos c8] at hG
            refine Ev.t (c := y4 = (-1)) (p1 := 73) (L1 := [.ref 1, .int y1, .int y2, .int y3, .int y4, .int y5, .ref (11 + (y5).toNatClampNeg), .int 1]) (s1 := []) (h1 := hh S6) (p2 := 58) (L2 := [.ref 1, .int y1, .int y2, .int y3, .int y4, .int y5, .ref (11 + (y5).toNatClampNeg), .int 1]) (s2 := []) (h2 := hh S6) 3 (fun n => B_56_15 n y1 y2 y3 y4 y5 S6) c8 ?_
            exact Ev.b (pc' := 6) (L' := [.ref 1, .int y1, .int y2, .int y3, .int y5, .int (y5 + 1), .ref (11 + (y5).toNatClampNeg), .int 1]) (st' := []) (h' := hh S6) 4 (fun n => B_56_16 n y1 y2 y3 y4 y5 S6) (ih S6 y1 y2 y3 y5 (y5 + 1) _ _ hG (.ref (11 + (y5).toNatClampNeg)) (.int 1))
          · rw [if_neg c8] at hG
            refine Ev.f (c := y4 = (-1)) (p1 := 73) (L1 := [.ref 1, .int y1, .int y2, .int y3, .int y4, .int y5, .ref (11 + (y5).toNatClampNeg), .int 1]) (s1 := []) (h1 := hh S6) (p2 := 58) (L2 := [.ref 1, .int y1, .int y2, .int y3, .int y4, .int y5, .ref (11 + (y5).toNatClampNeg), .int 1]) (s2 := []) (h2 := hh S6) 3 (fun n => B_56_17 n y1 y2 y3 y4 y5 S6) c8 ?_
            by_cases g9 : xa_in y4 4
            rotate_left
            · rw [if_neg g9] at hG; cases hG
            rw [if_pos g9] at hG
            refine Ev.g (c := (2 ≤ (kd 7).1 ∧ (kd 7).1 < xo_n) ∧ xa_in y4 (kd 7).2) (p1 := 67) (L1 := [.ref 1, .int y1, .int y2, .int y3, .int y4, .int y5, .ref (11 + (y5).toNatClampNeg), .int 1]) (s1 := [va_rf (RC S6.2.1 S6.2.2 7 (y4).toNatClampNeg), .ref (11 + (y5).toNatClampNeg)]) (h1 := hh S6) 5 (fun n => B_56_18 n y1 y2 y3 y4 y5 S6) ⟨⟨by decide, by decide⟩, g9⟩ ?_
            rw [RC_7 (xa_lt (n := 4) g9)]
            show Ev X _ 56 67 [.ref 1, .int y1, .int y2, .int y3, .int y4, .int y5, .ref (11 + (y5).toNatClampNeg), .int 1] [.ref (11 + (y4).toNatClampNeg), .ref (11 + (y5).toNatClampNeg)] (hh S6) _
            rcases h10 : G_22 S6 (11 + (y5).toNatClampNeg) (11 + (y4).toNatClampNeg) with _ | ⟨v10, S10⟩
            · rw [h10] at hG; cases hG
            rw [h10] at hG
            dsimp only at hG
            refine Ev.cg (c := (xm_o 22 = 200 ∧ 2000 ≤ (11 + (y5).toNatClampNeg) ∧ (11 + (y5).toNatClampNeg) < 2000 + xS_n) ∨ (xm_o 22 ≠ 200 ∧ (kd (11 + (y5).toNatClampNeg)).1 = 10 + xm_o 22)) (a := 22) (A := [.ref (11 + (y5).toNatClampNeg), .ref (11 + (y4).toNatClampNeg)]) (h1 := hh S6) (pc' := 70) (L' := [.ref 1, .int y1, .int y2, .int y3, .int y4, .int y5, .ref (11 + (y5).toNatClampNeg), .int 1]) (rest := []) (r1 := some (.int v10)) (h2 := hh S10) 1 (fun n => B_56_19 n y1 y2 y3 y4 y5 S6) (Or.inr ⟨by decide, g4⟩) (Ev.up (by decide) (T_22 S6 (11 + (y5).toNatClampNeg) (11 + (y4).toNatClampNeg) _ _ h10)) ?_
            show Ev X _ 56 70 [.ref 1, .int y1, .int y2, .int y3, .int y4, .int y5, .ref (11 + (y5).toNatClampNeg), .int 1] [.int v10] (hh S10) _
            by_cases c11 : v10 = 0
            · rw [if_pos c11] at hG
              refine Ev.t (c := v10 = 0) (p1 := 73) (L1 := [.ref 1, .int y1, .int y2, .int y3, .int y4, .int y5, .ref (11 + (y5).toNatClampNeg), .int 1]) (s1 := []) (h1 := hh S10) (p2 := 77) (L2 := [.ref 1, .int y1, .int y2, .int y3, .int y4, .int y5, .ref (11 + (y5).toNatClampNeg), .int 1]) (s2 := []) (h2 := hh S10) 1 (fun n => B_56_20 n y1 y2 y3 y4 y5 v10 S10) c11 ?_
              exact Ev.b (pc' := 6) (L' := [.ref 1, .int y1, .int y2, .int y3, .int y5, .int (y5 + 1), .ref (11 + (y5).toNatClampNeg), .int 1]) (st' := []) (h' := hh S10) 4 (fun n => B_56_21 n y1 y2 y3 y4 y5 S10) (ih S10 y1 y2 y3 y5 (y5 + 1) _ _ hG (.ref (11 + (y5).toNatClampNeg)) (.int 1))
            · rw [if_neg c11] at hG
              refine Ev.f (c := v10 = 0) (p1 := 73) (L1 := [.ref 1, .int y1, .int y2, .int y3, .int y4, .int y5, .ref (11 + (y5).toNatClampNeg), .int 1]) (s1 := []) (h1 := hh S10) (p2 := 77) (L2 := [.ref 1, .int y1, .int y2, .int y3, .int y4, .int y5, .ref (11 + (y5).toNatClampNeg), .int 1]) (s2 := []) (h2 := hh S10) 1 (fun n => B_56_22 n y1 y2 y3 y4 y5 v10 S10) c11 ?_
              exact Ev.b (pc' := 6) (L' := [.ref 1, .int y1, .int y2, .int y3, .int y4, .int (y5 + 1), .ref (11 + (y5).toNatClampNeg), .int 1]) (st' := []) (h' := hh S10) 2 (fun n => B_56_23 n y1 y2 y3 y4 y5 S10) (ih S10 y1 y2 y3 y4 (y5 + 1) _ _ hG (.ref (11 + (y5).toNatClampNeg)) (.int 1))
def G_56 (S : St) (x1 : Int32) (x2 : Int32) (x3 : Int32) : Option (Int32 × St) :=
  GL_56_0 xFu S x1 x2 x3 ((-1) : Int32) (0 : Int32)
theorem B_56_24 {X : Nat × (Nat → Int32)} {d : Nat} (n : Nat) (x1 : Int32) (x2 : Int32) (x3 : Int32) (S : St) : ex X d 56 0 [.ref 1, .int x1, .int x2, .int x3, .retAddr 0, .retAddr 0, .retAddr 0, .retAddr 0] [] (hh S) (n + 4) = ex X d 56 6 [.ref 1, .int x1, .int x2, .int x3, .int (-1), .int 0, .retAddr 0, .retAddr 0] [] (hh S) n := rfl
set_option maxRecDepth 200000 in
theorem T_56 {X : Nat × (Nat → Int32)} (S : St) (x1 : Int32) (x2 : Int32) (x3 : Int32) (r : Int32) (S' : St) (hG : G_56 S x1 x2 x3 = some (r, S')) : Ev X 2 56 0 [.ref 1, .int x1, .int x2, .int x3, .retAddr 0, .retAddr 0, .retAddr 0, .retAddr 0] [] (hh S) (xI r, hh S') := by
  unfold G_56 at hG
  exact Ev.b (pc' := 6) (L' := [.ref 1, .int x1, .int x2, .int x3, .int (-1), .int 0, .retAddr 0, .retAddr 0]) (st' := []) (h' := hh S) 4 (fun n => B_56_24 n x1 x2 x3 S) (TL_56_0 xFu S x1 x2 x3 ((-1) : Int32) (0 : Int32) _ _ hG (.retAddr 0) (.retAddr 0))
/-- 68: SceneCycle$LogicReader.isAtBeginning(I)Z -/
def G_68 (S : St) (x1 : Int32) : Option (Int32 × St) :=
  (if x1 < 0 then
    some (0, S)
  else
    (if 64 < x1 then
      some (0, S)
    else
      (if xa_in x1 65 then
        (if (S.1 28 (x1).toNatClampNeg) = 0 then
          some (0, S)
        else
          some (1, S)
        )
      else none)
    )
  )
theorem B_68_1 {X : Nat × (Nat → Int32)} {d : Nat} (n : Nat) (x1 : Int32) (S : St) : ex X d 68 0 [.ref 27, .int x1] [] (hh S) (n + 2) = if x1 < 0 then ex X d 68 23 [.ref 27, .int x1] [] (hh S) n else ex X d 68 4 [.ref 27, .int x1] [] (hh S) n := rfl
theorem B_68_2 {X : Nat × (Nat → Int32)} {d : Nat} (n : Nat) (x1 : Int32) (S : St) : ex X d 68 0 [.ref 27, .int x1] [] (hh S) (n + 2) = if x1 < 0 then ex X d 68 23 [.ref 27, .int x1] [] (hh S) n else ex X d 68 4 [.ref 27, .int x1] [] (hh S) n := rfl
theorem B_68_3 {X : Nat × (Nat → Int32)} {d : Nat} (n : Nat) (x1 : Int32) (S : St) : ex X d 68 4 [.ref 27, .int x1] [] (hh S) (n + 3) = if 64 < x1 then ex X d 68 23 [.ref 27, .int x1] [] (hh S) n else ex X d 68 10 [.ref 27, .int x1] [] (hh S) n := rfl
theorem B_68_4 {X : Nat × (Nat → Int32)} {d : Nat} (n : Nat) (x1 : Int32) (S : St) : ex X d 68 4 [.ref 27, .int x1] [] (hh S) (n + 3) = if 64 < x1 then ex X d 68 23 [.ref 27, .int x1] [] (hh S) n else ex X d 68 10 [.ref 27, .int x1] [] (hh S) n := rfl
theorem B_68_5 {X : Nat × (Nat → Int32)} {d : Nat} (n : Nat) (x1 : Int32) (S : St) : ex X d 68 10 [.ref 27, .int x1] [] (hh S) (n + 4) = if (kd 28).1 = 1 ∧ xa_in x1 (kd 28).2 then ex X d 68 16 [.ref 27, .int x1] [.int (S.1 28 (x1).toNatClampNeg)] (hh S) n else none := rfl
theorem B_68_6 {X : Nat × (Nat → Int32)} {d : Nat} (n : Nat) (x1 : Int32) (S : St) : ex X d 68 16 [.ref 27, .int x1] [.int (S.1 28 (x1).toNatClampNeg)] (hh S) (n + 1) = if (S.1 28 (x1).toNatClampNeg) = 0 then ex X d 68 23 [.ref 27, .int x1] [] (hh S) n else ex X d 68 19 [.ref 27, .int x1] [] (hh S) n := rfl
theorem B_68_7 {X : Nat × (Nat → Int32)} {d : Nat} (n : Nat) (x1 : Int32) (S : St) : ex X d 68 16 [.ref 27, .int x1] [.int (S.1 28 (x1).toNatClampNeg)] (hh S) (n + 1) = if (S.1 28 (x1).toNatClampNeg) = 0 then ex X d 68 23 [.ref 27, .int x1] [] (hh S) n else ex X d 68 19 [.ref 27, .int x1] [] (hh S) n := rfl
set_option maxRecDepth 200000 in
theorem T_68 {X : Nat × (Nat → Int32)} (S : St) (x1 : Int32) (r : Int32) (S' : St) (hG : G_68 S x1 = some (r, S')) : Ev X 0 68 0 [.ref 27, .int x1] [] (hh S) (xI r, hh S') := by
  unfold G_68 at hG
  by_cases c1 : x1 < 0
  · rw [if_pos c1] at hG
    refine Ev.t (c := x1 < 0) (p1 := 23) (L1 := [.ref 27, .int x1]) (s1 := []) (h1 := hh S) (p2 := 4) (L2 := [.ref 27, .int x1]) (s2 := []) (h2 := hh S) 2 (fun n => B_68_1 n x1 S) c1 ?_
    obtain ⟨e1, e2⟩ := Prod.mk.inj (Option.some.inj hG)
    subst e1
    subst e2
    exact Ev.rg (c := (xm_z 68 = 0 ∨ (xm_z 68 = 1 ∧ ((0 : Int32) = 0 ∨ (0 : Int32) = 1)) ∨ (xm_z 68 = 2 ∧ ((0 : Int32)).toInt8.toInt32 = (0 : Int32)) ∨ (xm_z 68 = 3 ∧ ((0 : Int32)).toUInt32.toUInt16.toUInt32.toInt32 = (0 : Int32)))) 2 (fun n => rfl) (Or.inr (Or.inl ⟨rfl, by decide⟩))
  · rw [if_neg c1] at hG
    refine Ev.f (c := x1 < 0) (p1 := 23) (L1 := [.ref 27, .int x1]) (s1 := []) (h1 := hh S) (p2 := 4) (L2 := [.ref 27, .int x1]) (s2 := []) (h2 := hh S) 2 (fun n => B_68_2 n x1 S) c1 ?_
    by_cases c2 : 64 < x1
    · rw [if_pos c2] at hG
      refine Ev.t (c := 64 < x1) (p1 := 23) (L1 := [.ref 27, .int x1]) (s1 := []) (h1 := hh S) (p2 := 10) (L2 := [.ref 27, .int x1]) (s2 := []) (h2 := hh S) 3 (fun n => B_68_3 n x1 S) c2 ?_
      obtain ⟨e1, e2⟩ := Prod.mk.inj (Option.some.inj hG)
      subst e1
      subst e2
      exact Ev.rg (c := (xm_z 68 = 0 ∨ (xm_z 68 = 1 ∧ ((0 : Int32) = 0 ∨ (0 : Int32) = 1)) ∨ (xm_z 68 = 2 ∧ ((0 : Int32)).toInt8.toInt32 = (0 : Int32)) ∨ (xm_z 68 = 3 ∧ ((0 : Int32)).toUInt32.toUInt16.toUInt32.toInt32 = (0 : Int32)))) 2 (fun n => rfl) (Or.inr (Or.inl ⟨rfl, by decide⟩))
    · rw [if_neg c2] at hG
      refine Ev.f (c := 64 < x1) (p1 := 23) (L1 := [.ref 27, .int x1]) (s1 := []) (h1 := hh S) (p2 := 10) (L2 := [.ref 27, .int x1]) (s2 := []) (h2 := hh S) 3 (fun n => B_68_4 n x1 S) c2 ?_
      by_cases g3 : xa_in x1 65
      rotate_left
      · rw [if_neg g3] at hG; cases hG
      rw [if_pos g3] at hG
      refine Ev.g (c := (kd 28).1 = 1 ∧ xa_in x1 (kd 28).2) (p1 := 16) (L1 := [.ref 27, .int x1]) (s1 := [.int (S.1 28 (x1).toNatClampNeg)]) (h1 := hh S) 4 (fun n => B_68_5 n x1 S) (⟨rfl, g3⟩) ?_
      by_cases c4 : (S.1 28 (x1).toNatClampNeg) = 0
      · rw [if_pos c4] at hG
        refine Ev.t (c := (S.1 28 (x1).toNatClampNeg) = 0) (p1 := 23) (L1 := [.ref 27, .int x1]) (s1 := []) (h1 := hh S) (p2 := 19) (L2 := [.ref 27, .int x1]) (s2 := []) (h2 := hh S) 1 (fun n => B_68_6 n x1 S) c4 ?_
        obtain ⟨e1, e2⟩ := Prod.mk.inj (Option.some.inj hG)
        subst e1
        subst e2
        exact Ev.rg (c := (xm_z 68 = 0 ∨ (xm_z 68 = 1 ∧ ((0 : Int32) = 0 ∨ (0 : Int32) = 1)) ∨ (xm_z 68 = 2 ∧ ((0 : Int32)).toInt8.toInt32 = (0 : Int32)) ∨ (xm_z 68 = 3 ∧ ((0 : Int32)).toUInt32.toUInt16.toUInt32.toInt32 = (0 : Int32)))) 2 (fun n => rfl) (Or.inr (Or.inl ⟨rfl, by decide⟩))
      · rw [if_neg c4] at hG
        refine Ev.f (c := (S.1 28 (x1).toNatClampNeg) = 0) (p1 := 23) (L1 := [.ref 27, .int x1]) (s1 := []) (h1 := hh S) (p2 := 19) (L2 := [.ref 27, .int x1]) (s2 := []) (h2 := hh S) 1 (fun n => B_68_7 n x1 S) c4 ?_
        obtain ⟨e1, e2⟩ := Prod.mk.inj (Option.some.inj hG)
        subst e1
        subst e2
        exact Ev.rg (c := (xm_z 68 = 0 ∨ (xm_z 68 = 1 ∧ ((1 : Int32) = 0 ∨ (1 : Int32) = 1)) ∨ (xm_z 68 = 2 ∧ ((1 : Int32)).toInt8.toInt32 = (1 : Int32)) ∨ (xm_z 68 = 3 ∧ ((1 : Int32)).toUInt32.toUInt16.toUInt32.toInt32 = (1 : Int32)))) 3 (fun n => rfl) (Or.inr (Or.inl ⟨rfl, by decide⟩))
/-- 71: SceneCycle$Runner.jumpOf(I)I -/
def G_71 (S : St) (x0 : Int32) : Option (Int32 × St) :=
  (if x0 ≤ 127 then
    some (x0, S)
  else
    some ((x0 - 256), S)
  )
theorem B_71_1 {X : Nat × (Nat → Int32)} {d : Nat} (n : Nat) (x0 : Int32) (S : St) : ex X d 71 0 [.int x0] [] (hh S) (n + 3) = if x0 ≤ 127 then ex X d 71 14 [.int x0] [] (hh S) n else ex X d 71 6 [.int x0] [] (hh S) n := rfl
theorem B_71_2 {X : Nat × (Nat → Int32)} {d : Nat} (n : Nat) (x0 : Int32) (S : St) : ex X d 71 0 [.int x0] [] (hh S) (n + 3) = if x0 ≤ 127 then ex X d 71 14 [.int x0] [] (hh S) n else ex X d 71 6 [.int x0] [] (hh S) n := rfl
set_option maxRecDepth 200000 in
theorem T_71 {X : Nat × (Nat → Int32)} (S : St) (x0 : Int32) (r : Int32) (S' : St) (hG : G_71 S x0 = some (r, S')) : Ev X 0 71 0 [.int x0] [] (hh S) (xI r, hh S') := by
  unfold G_71 at hG
  by_cases c1 : x0 ≤ 127
  · rw [if_pos c1] at hG
    refine Ev.t (c := x0 ≤ 127) (p1 := 14) (L1 := [.int x0]) (s1 := []) (h1 := hh S) (p2 := 6) (L2 := [.int x0]) (s2 := []) (h2 := hh S) 3 (fun n => B_71_1 n x0 S) c1 ?_
    obtain ⟨e1, e2⟩ := Prod.mk.inj (Option.some.inj hG)
    subst e1
    subst e2
    exact Ev.r 2 (fun n => rfl)
  · rw [if_neg c1] at hG
    refine Ev.f (c := x0 ≤ 127) (p1 := 14) (L1 := [.int x0]) (s1 := []) (h1 := hh S) (p2 := 6) (L2 := [.int x0]) (s2 := []) (h2 := hh S) 3 (fun n => B_71_2 n x0 S) c1 ?_
    obtain ⟨e1, e2⟩ := Prod.mk.inj (Option.some.inj hG)
    subst e1
    subst e2
    exact Ev.r 5 (fun n => rfl)
/-- 69: SceneCycle$LogicReader.leadsWell(LSceneCycle$Resource;II)Z -/
def G_69 (S : St) (x1 : Nat) (x2 : Int32) (x3 : Int32) : Option (Int32 × St) :=
  (if (kd x1).1 = 10 + 1 then
    (match G_25 S x1 x2 with
    | none => none
    | some (v1, S1) =>
      (match G_25 S1 x1 (x3 - 1) with
      | none => none
      | some (v3, S3) =>
        (if v1 = 7 then
          (match G_71 S3 v3 with
          | none => none
          | some (v5, S5) =>
            (match G_68 S5 (x3 + v5) with
            | none => none
            | some (v6, S6) =>
              (if (v6 = 0 ∨ v6 = 1) then some (v6, S6) else none)
            )
          )
        else
          (if v1 = 8 then
            (match G_68 S3 (x3 + v3) with
            | none => none
            | some (v9, S9) =>
              (if v9 = 0 then
                some (0, S9)
              else
                some (1, S9)
              )
            )
          else
            some (1, S3)
          )
        )
      )
    )
  else none)
theorem B_69_1 {X : Nat × (Nat → Int32)} {d : Nat} (n : Nat) (x1 : Nat) (x2 : Int32) (x3 : Int32) (S : St) : ex X (d + 1) 69 0 [.ref 27, .ref x1, .int x2, .int x3, .retAddr 0, .retAddr 0] [] (hh S) (n + 3) = if (xm_o 25 = 200 ∧ 2000 ≤ x1 ∧ x1 < 2000 + xS_n) ∨ (xm_o 25 ≠ 200 ∧ (kd x1).1 = 10 + xm_o 25) then (match ex X d 25 0 [.ref x1, .int x2] [] (hh S) n with | some (v, h') => ex X (d + 1) 69 5 [.ref 27, .ref x1, .int x2, .int x3, .retAddr 0, .retAddr 0] (v.toList ++ []) h' n | none => none) else none := rfl
theorem B_69_2 {X : Nat × (Nat → Int32)} {d : Nat} (n : Nat) (x1 : Nat) (x2 : Int32) (x3 : Int32) (v1 : Int32) (S1 : St) : ex X (d + 1) 69 5 [.ref 27, .ref x1, .int x2, .int x3, .retAddr 0, .retAddr 0] [.int v1] (hh S1) (n + 6) = if (xm_o 25 = 200 ∧ 2000 ≤ x1 ∧ x1 < 2000 + xS_n) ∨ (xm_o 25 ≠ 200 ∧ (kd x1).1 = 10 + xm_o 25) then (match ex X d 25 0 [.ref x1, .int (x3 - 1)] [] (hh S1) n with | some (v, h') => ex X (d + 1) 69 14 [.ref 27, .ref x1, .int x2, .int x3, .int v1, .retAddr 0] (v.toList ++ []) h' n | none => none) else none := rfl
theorem B_69_3 {X : Nat × (Nat → Int32)} {d : Nat} (n : Nat) (x1 : Nat) (x2 : Int32) (x3 : Int32) (v1 : Int32) (v3 : Int32) (S3 : St) : ex X d 69 14 [.ref 27, .ref x1, .int x2, .int x3, .int v1, .retAddr 0] [.int v3] (hh S3) (n + 4) = if v1 = 7 then ex X d 69 23 [.ref 27, .ref x1, .int x2, .int x3, .int v1, .int v3] [] (hh S3) n else ex X d 69 35 [.ref 27, .ref x1, .int x2, .int x3, .int v1, .int v3] [] (hh S3) n := rfl
theorem B_69_4 {X : Nat × (Nat → Int32)} {d : Nat} (n : Nat) (x1 : Nat) (x2 : Int32) (x3 : Int32) (v1 : Int32) (v3 : Int32) (S3 : St) : ex X (d + 1) 69 23 [.ref 27, .ref x1, .int x2, .int x3, .int v1, .int v3] [] (hh S3) (n + 4) = (match ex X d 71 0 [.int v3] [] (hh S3) n with | some (v, h') => ex X (d + 1) 69 30 [.ref 27, .ref x1, .int x2, .int x3, .int v1, .int v3] (v.toList ++ [.int x3, .ref 27]) h' n | none => none) := rfl
theorem B_69_5 {X : Nat × (Nat → Int32)} {d : Nat} (n : Nat) (x1 : Nat) (x2 : Int32) (x3 : Int32) (v1 : Int32) (v3 : Int32) (v5 : Int32) (S5 : St) : ex X (d + 1) 69 30 [.ref 27, .ref x1, .int x2, .int x3, .int v1, .int v3] [.int v5, .int x3, .ref 27] (hh S5) (n + 2) = (match ex X d 68 0 [.ref 27, .int (x3 + v5)] [] (hh S5) n with | some (v, h') => ex X (d + 1) 69 34 [.ref 27, .ref x1, .int x2, .int x3, .int v1, .int v3] (v.toList ++ []) h' n | none => none) := rfl
theorem B_69_6 {X : Nat × (Nat → Int32)} {d : Nat} (n : Nat) (x1 : Nat) (x2 : Int32) (x3 : Int32) (v1 : Int32) (v3 : Int32) (S3 : St) : ex X d 69 14 [.ref 27, .ref x1, .int x2, .int x3, .int v1, .retAddr 0] [.int v3] (hh S3) (n + 4) = if v1 = 7 then ex X d 69 23 [.ref 27, .ref x1, .int x2, .int x3, .int v1, .int v3] [] (hh S3) n else ex X d 69 35 [.ref 27, .ref x1, .int x2, .int x3, .int v1, .int v3] [] (hh S3) n := rfl
theorem B_69_7 {X : Nat × (Nat → Int32)} {d : Nat} (n : Nat) (x1 : Nat) (x2 : Int32) (x3 : Int32) (v1 : Int32) (v3 : Int32) (S3 : St) : ex X d 69 35 [.ref 27, .ref x1, .int x2, .int x3, .int v1, .int v3] [] (hh S3) (n + 3) = if v1 = 8 then ex X d 69 42 [.ref 27, .ref x1, .int x2, .int x3, .int v1, .int v3] [] (hh S3) n else ex X d 69 53 [.ref 27, .ref x1, .int x2, .int x3, .int v1, .int v3] [] (hh S3) n := rfl
theorem B_69_8 {X : Nat × (Nat → Int32)} {d : Nat} (n : Nat) (x1 : Nat) (x2 : Int32) (x3 : Int32) (v1 : Int32) (v3 : Int32) (S3 : St) : ex X (d + 1) 69 42 [.ref 27, .ref x1, .int x2, .int x3, .int v1, .int v3] [] (hh S3) (n + 5) = (match ex X d 68 0 [.ref 27, .int (x3 + v3)] [] (hh S3) n with | some (v, h') => ex X (d + 1) 69 50 [.ref 27, .ref x1, .int x2, .int x3, .int v1, .int v3] (v.toList ++ []) h' n | none => none) := rfl
theorem B_69_9 {X : Nat × (Nat → Int32)} {d : Nat} (n : Nat) (x1 : Nat) (x2 : Int32) (x3 : Int32) (v1 : Int32) (v3 : Int32) (v9 : Int32) (S9 : St) : ex X d 69 50 [.ref 27, .ref x1, .int x2, .int x3, .int v1, .int v3] [.int v9] (hh S9) (n + 1) = if v9 = 0 then ex X d 69 57 [.ref 27, .ref x1, .int x2, .int x3, .int v1, .int v3] [] (hh S9) n else ex X d 69 53 [.ref 27, .ref x1, .int x2, .int x3, .int v1, .int v3] [] (hh S9) n := rfl
theorem B_69_10 {X : Nat × (Nat → Int32)} {d : Nat} (n : Nat) (x1 : Nat) (x2 : Int32) (x3 : Int32) (v1 : Int32) (v3 : Int32) (v9 : Int32) (S9 : St) : ex X d 69 50 [.ref 27, .ref x1, .int x2, .int x3, .int v1, .int v3] [.int v9] (hh S9) (n + 1) = if v9 = 0 then ex X d 69 57 [.ref 27, .ref x1, .int x2, .int x3, .int v1, .int v3] [] (hh S9) n else ex X d 69 53 [.ref 27, .ref x1, .int x2, .int x3, .int v1, .int v3] [] (hh S9) n := rfl
theorem B_69_11 {X : Nat × (Nat → Int32)} {d : Nat} (n : Nat) (x1 : Nat) (x2 : Int32) (x3 : Int32) (v1 : Int32) (v3 : Int32) (S3 : St) : ex X d 69 35 [.ref 27, .ref x1, .int x2, .int x3, .int v1, .int v3] [] (hh S3) (n + 3) = if v1 = 8 then ex X d 69 42 [.ref 27, .ref x1, .int x2, .int x3, .int v1, .int v3] [] (hh S3) n else ex X d 69 53 [.ref 27, .ref x1, .int x2, .int x3, .int v1, .int v3] [] (hh S3) n := rfl
set_option maxRecDepth 200000 in
theorem T_69 {X : Nat × (Nat → Int32)} (S : St) (x1 : Nat) (x2 : Int32) (x3 : Int32) (r : Int32) (S' : St) (hG : G_69 S x1 x2 x3 = some (r, S')) : Ev X 1 69 0 [.ref 27, .ref x1, .int x2, .int x3, .retAddr 0, .retAddr 0] [] (hh S) (xI r, hh S') := by
  unfold G_69 at hG
  by_cases g2 : (kd x1).1 = 10 + 1
  rotate_left
  · rw [if_neg g2] at hG; cases hG
  rw [if_pos g2] at hG
  rcases h1 : G_25 S x1 x2 with _ | ⟨v1, S1⟩
  · rw [h1] at hG; cases hG
  rw [h1] at hG
  dsimp only at hG
  refine Ev.cg (c := (xm_o 25 = 200 ∧ 2000 ≤ x1 ∧ x1 < 2000 + xS_n) ∨ (xm_o 25 ≠ 200 ∧ (kd x1).1 = 10 + xm_o 25)) (a := 25) (A := [.ref x1, .int x2]) (h1 := hh S) (pc' := 5) (L' := [.ref 27, .ref x1, .int x2, .int x3, .retAddr 0, .retAddr 0]) (rest := []) (r1 := some (.int v1)) (h2 := hh S1) 3 (fun n => B_69_1 n x1 x2 x3 S) (Or.inr ⟨by decide, g2⟩) (Ev.up (by decide) (T_25 S x1 x2 _ _ h1)) ?_
  show Ev X _ 69 5 [.ref 27, .ref x1, .int x2, .int x3, .retAddr 0, .retAddr 0] [.int v1] (hh S1) _
  rcases h3 : G_25 S1 x1 (x3 - 1) with _ | ⟨v3, S3⟩
  · rw [h3] at hG; cases hG
  rw [h3] at hG
  dsimp only at hG
  refine Ev.cg (c := (xm_o 25 = 200 ∧ 2000 ≤ x1 ∧ x1 < 2000 + xS_n) ∨ (xm_o 25 ≠ 200 ∧ (kd x1).1 = 10 + xm_o 25)) (a := 25) (A := [.ref x1, .int (x3 - 1)]) (h1 := hh S1) (pc' := 14) (L' := [.ref 27, .ref x1, .int x2, .int x3, .int v1, .retAddr 0]) (rest := []) (r1 := some (.int v3)) (h2 := hh S3) 6 (fun n => B_69_2 n x1 x2 x3 v1 S1) (Or.inr ⟨by decide, g2⟩) (Ev.up (by decide) (T_25 S1 x1 (x3 - 1) _ _ h3)) ?_
  show Ev X _ 69 14 [.ref 27, .ref x1, .int x2, .int x3, .int v1, .retAddr 0] [.int v3] (hh S3) _
  by_cases c4 : v1 = 7
  · rw [if_pos c4] at hG
    refine Ev.t (c := v1 = 7) (p1 := 23) (L1 := [.ref 27, .ref x1, .int x2, .int x3, .int v1, .int v3]) (s1 := []) (h1 := hh S3) (p2 := 35) (L2 := [.ref 27, .ref x1, .int x2, .int x3, .int v1, .int v3]) (s2 := []) (h2 := hh S3) 4 (fun n => B_69_3 n x1 x2 x3 v1 v3 S3) c4 ?_
    rcases h5 : G_71 S3 v3 with _ | ⟨v5, S5⟩
    · rw [h5] at hG; cases hG
    rw [h5] at hG
    dsimp only at hG
    refine Ev.c (a := 71) (A := [.int v3]) (h1 := hh S3) (pc' := 30) (L' := [.ref 27, .ref x1, .int x2, .int x3, .int v1, .int v3]) (rest := [.int x3, .ref 27]) (r1 := some (.int v5)) (h2 := hh S5) 4 (fun n => B_69_4 n x1 x2 x3 v1 v3 S3) (Ev.up (by decide) (T_71 S3 v3 _ _ h5)) ?_
    show Ev X _ 69 30 [.ref 27, .ref x1, .int x2, .int x3, .int v1, .int v3] [.int v5, .int x3, .ref 27] (hh S5) _
    rcases h6 : G_68 S5 (x3 + v5) with _ | ⟨v6, S6⟩
    · rw [h6] at hG; cases hG
    rw [h6] at hG
    dsimp only at hG
    refine Ev.c (a := 68) (A := [.ref 27, .int (x3 + v5)]) (h1 := hh S5) (pc' := 34) (L' := [.ref 27, .ref x1, .int x2, .int x3, .int v1, .int v3]) (rest := []) (r1 := some (.int v6)) (h2 := hh S6) 2 (fun n => B_69_5 n x1 x2 x3 v1 v3 v5 S5) (Ev.up (by decide) (T_68 S5 (x3 + v5) _ _ h6)) ?_
    show Ev X _ 69 34 [.ref 27, .ref x1, .int x2, .int x3, .int v1, .int v3] [.int v6] (hh S6) _
    by_cases g7 : (v6 = 0 ∨ v6 = 1)
    rotate_left
    · rw [if_neg g7] at hG; cases hG
    rw [if_pos g7] at hG
    obtain ⟨e1, e2⟩ := Prod.mk.inj (Option.some.inj hG)
    subst e1
    subst e2
    exact Ev.rg (c := (xm_z 69 = 0 ∨ (xm_z 69 = 1 ∧ (v6 = 0 ∨ v6 = 1)) ∨ (xm_z 69 = 2 ∧ (v6).toInt8.toInt32 = v6) ∨ (xm_z 69 = 3 ∧ (v6).toUInt32.toUInt16.toUInt32.toInt32 = v6))) 1 (fun n => rfl) (Or.inr (Or.inl ⟨rfl, g7⟩))
  · rw [if_neg c4] at hG
    refine Ev.f (c := v1 = 7) (p1 := 23) (L1 := [.ref 27, .ref x1, .int x2, .int x3, .int v1, .int v3]) (s1 := []) (h1 := hh S3) (p2 := 35) (L2 := [.ref 27, .ref x1, .int x2, .int x3, .int v1, .int v3]) (s2 := []) (h2 := hh S3) 4 (fun n => B_69_6 n x1 x2 x3 v1 v3 S3) c4 ?_
    by_cases c8 : v1 = 8
    · rw [if_pos c8] at hG
      refine Ev.t (c := v1 = 8) (p1 := 42) (L1 := [.ref 27, .ref x1, .int x2, .int x3, .int v1, .int v3]) (s1 := []) (h1 := hh S3) (p2 := 53) (L2 := [.ref 27, .ref x1, .int x2, .int x3, .int v1, .int v3]) (s2 := []) (h2 := hh S3) 3 (fun n => B_69_7 n x1 x2 x3 v1 v3 S3) c8 ?_
      rcases h9 : G_68 S3 (x3 + v3) with _ | ⟨v9, S9⟩
      · rw [h9] at hG; cases hG
      rw [h9] at hG
      dsimp only at hG
      refine Ev.c (a := 68) (A := [.ref 27, .int (x3 + v3)]) (h1 := hh S3) (pc' := 50) (L' := [.ref 27, .ref x1, .int x2, .int x3, .int v1, .int v3]) (rest := []) (r1 := some (.int v9)) (h2 := hh S9) 5 (fun n => B_69_8 n x1 x2 x3 v1 v3 S3) (Ev.up (by decide) (T_68 S3 (x3 + v3) _ _ h9)) ?_
      show Ev X _ 69 50 [.ref 27, .ref x1, .int x2, .int x3, .int v1, .int v3] [.int v9] (hh S9) _
      by_cases c10 : v9 = 0
      · rw [if_pos c10] at hG
        refine Ev.t (c := v9 = 0) (p1 := 57) (L1 := [.ref 27, .ref x1, .int x2, .int x3, .int v1, .int v3]) (s1 := []) (h1 := hh S9) (p2 := 53) (L2 := [.ref 27, .ref x1, .int x2, .int x3, .int v1, .int v3]) (s2 := []) (h2 := hh S9) 1 (fun n => B_69_9 n x1 x2 x3 v1 v3 v9 S9) c10 ?_
        obtain ⟨e1, e2⟩ := Prod.mk.inj (Option.some.inj hG)
        subst e1
        subst e2
        exact Ev.rg (c := (xm_z 69 = 0 ∨ (xm_z 69 = 1 ∧ ((0 : Int32) = 0 ∨ (0 : Int32) = 1)) ∨ (xm_z 69 = 2 ∧ ((0 : Int32)).toInt8.toInt32 = (0 : Int32)) ∨ (xm_z 69 = 3 ∧ ((0 : Int32)).toUInt32.toUInt16.toUInt32.toInt32 = (0 : Int32)))) 2 (fun n => rfl) (Or.inr (Or.inl ⟨rfl, by decide⟩))
      · rw [if_neg c10] at hG
        refine Ev.f (c := v9 = 0) (p1 := 57) (L1 := [.ref 27, .ref x1, .int x2, .int x3, .int v1, .int v3]) (s1 := []) (h1 := hh S9) (p2 := 53) (L2 := [.ref 27, .ref x1, .int x2, .int x3, .int v1, .int v3]) (s2 := []) (h2 := hh S9) 1 (fun n => B_69_10 n x1 x2 x3 v1 v3 v9 S9) c10 ?_
        obtain ⟨e1, e2⟩ := Prod.mk.inj (Option.some.inj hG)
        subst e1
        subst e2
        exact Ev.rg (c := (xm_z 69 = 0 ∨ (xm_z 69 = 1 ∧ ((1 : Int32) = 0 ∨ (1 : Int32) = 1)) ∨ (xm_z 69 = 2 ∧ ((1 : Int32)).toInt8.toInt32 = (1 : Int32)) ∨ (xm_z 69 = 3 ∧ ((1 : Int32)).toUInt32.toUInt16.toUInt32.toInt32 = (1 : Int32)))) 3 (fun n => rfl) (Or.inr (Or.inl ⟨rfl, by decide⟩))
    · rw [if_neg c8] at hG
      refine Ev.f (c := v1 = 8) (p1 := 42) (L1 := [.ref 27, .ref x1, .int x2, .int x3, .int v1, .int v3]) (s1 := []) (h1 := hh S3) (p2 := 53) (L2 := [.ref 27, .ref x1, .int x2, .int x3, .int v1, .int v3]) (s2 := []) (h2 := hh S3) 3 (fun n => B_69_11 n x1 x2 x3 v1 v3 S3) c8 ?_
      obtain ⟨e1, e2⟩ := Prod.mk.inj (Option.some.inj hG)
      subst e1
      subst e2
      exact Ev.rg (c := (xm_z 69 = 0 ∨ (xm_z 69 = 1 ∧ ((1 : Int32) = 0 ∨ (1 : Int32) = 1)) ∨ (xm_z 69 = 2 ∧ ((1 : Int32)).toInt8.toInt32 = (1 : Int32)) ∨ (xm_z 69 = 3 ∧ ((1 : Int32)).toUInt32.toUInt16.toUInt32.toInt32 = (1 : Int32)))) 3 (fun n => rfl) (Or.inr (Or.inl ⟨rfl, by decide⟩))
/-- 67: SceneCycle$LogicReader.findWrongJump(LSceneCycle$Resource;)V -/
def GL_67_0 : Nat → St → Nat → Int32 → Int32 → Option (Unit × St)
  | 0, _, _, _, _ => none
  | n + 1, S, y1, y2, y3 =>
    (if y3 < 0 then
      some ((), S)
    else
      (match G_68 S y3 with
      | none => none
      | some (v2, S2) =>
        (if v2 = 0 then
          GL_67_0 n S2 y1 y2 (y3 + (-1))
        else
          (match G_69 S2 y1 y3 y2 with
          | none => none
          | some (v4, S4) =>
            (if v4 = 0 then
              GL_67_0 n (xa_u S4.1 27 2 y3, S4.2.1, S4.2.2) y1 y3 (y3 + (-1))
            else
              GL_67_0 n S4 y1 y3 (y3 + (-1))
            )
          )
        )
      )
    )
theorem B_67_1 {X : Nat × (Nat → Int32)} {d : Nat} (n : Nat) (y1 : Nat) (y2 : Int32) (y3 : Int32) (S : St) : ex X d 67 12 [.ref 27, .ref y1, .int y2, .int y3] [] (hh S) (n + 2) = if y3 < 0 then ex X d 67 47 [.ref 27, .ref y1, .int y2, .int y3] [] (hh S) n else ex X d 67 16 [.ref 27, .ref y1, .int y2, .int y3] [] (hh S) n := rfl
theorem B_67_2 {X : Nat × (Nat → Int32)} {d : Nat} (n : Nat) (y1 : Nat) (y2 : Int32) (y3 : Int32) (S : St) : ex X d 67 12 [.ref 27, .ref y1, .int y2, .int y3] [] (hh S) (n + 2) = if y3 < 0 then ex X d 67 47 [.ref 27, .ref y1, .int y2, .int y3] [] (hh S) n else ex X d 67 16 [.ref 27, .ref y1, .int y2, .int y3] [] (hh S) n := rfl
theorem B_67_3 {X : Nat × (Nat → Int32)} {d : Nat} (n : Nat) (y1 : Nat) (y2 : Int32) (y3 : Int32) (S : St) : ex X (d + 1) 67 16 [.ref 27, .ref y1, .int y2, .int y3] [] (hh S) (n + 3) = (match ex X d 68 0 [.ref 27, .int y3] [] (hh S) n with | some (v, h') => ex X (d + 1) 67 21 [.ref 27, .ref y1, .int y2, .int y3] (v.toList ++ []) h' n | none => none) := rfl
theorem B_67_4 {X : Nat × (Nat → Int32)} {d : Nat} (n : Nat) (y1 : Nat) (y2 : Int32) (y3 : Int32) (v2 : Int32) (S2 : St) : ex X d 67 21 [.ref 27, .ref y1, .int y2, .int y3] [.int v2] (hh S2) (n + 1) = if v2 = 0 then ex X d 67 41 [.ref 27, .ref y1, .int y2, .int y3] [] (hh S2) n else ex X d 67 24 [.ref 27, .ref y1, .int y2, .int y3] [] (hh S2) n := rfl
theorem B_67_5 {X : Nat × (Nat → Int32)} {d : Nat} (n : Nat) (y1 : Nat) (y2 : Int32) (y3 : Int32) (S2 : St) : ex X d 67 41 [.ref 27, .ref y1, .int y2, .int y3] [] (hh S2) (n + 2) = ex X d 67 12 [.ref 27, .ref y1, .int y2, .int (y3 + (-1))] [] (hh S2) n := rfl
theorem B_67_6 {X : Nat × (Nat → Int32)} {d : Nat} (n : Nat) (y1 : Nat) (y2 : Int32) (y3 : Int32) (v2 : Int32) (S2 : St) : ex X d 67 21 [.ref 27, .ref y1, .int y2, .int y3] [.int v2] (hh S2) (n + 1) = if v2 = 0 then ex X d 67 41 [.ref 27, .ref y1, .int y2, .int y3] [] (hh S2) n else ex X d 67 24 [.ref 27, .ref y1, .int y2, .int y3] [] (hh S2) n := rfl
theorem B_67_7 {X : Nat × (Nat → Int32)} {d : Nat} (n : Nat) (y1 : Nat) (y2 : Int32) (y3 : Int32) (S2 : St) : ex X (d + 1) 67 24 [.ref 27, .ref y1, .int y2, .int y3] [] (hh S2) (n + 5) = (match ex X d 69 0 [.ref 27, .ref y1, .int y3, .int y2, .retAddr 0, .retAddr 0] [] (hh S2) n with | some (v, h') => ex X (d + 1) 67 31 [.ref 27, .ref y1, .int y2, .int y3] (v.toList ++ []) h' n | none => none) := rfl
theorem B_67_8 {X : Nat × (Nat → Int32)} {d : Nat} (n : Nat) (y1 : Nat) (y2 : Int32) (y3 : Int32) (v4 : Int32) (S4 : St) : ex X d 67 31 [.ref 27, .ref y1, .int y2, .int y3] [.int v4] (hh S4) (n + 1) = if v4 = 0 then ex X d 67 34 [.ref 27, .ref y1, .int y2, .int y3] [] (hh S4) n else ex X d 67 39 [.ref 27, .ref y1, .int y2, .int y3] [] (hh S4) n := rfl
theorem B_67_9 {X : Nat × (Nat → Int32)} {d : Nat} (n : Nat) (y1 : Nat) (y2 : Int32) (y3 : Int32) (S4 : St) : ex X d 67 34 [.ref 27, .ref y1, .int y2, .int y3] [] (hh S4) (n + 3) = if (kd 27).1 = 10 + 5 ∧ (xf_k 5 2 = 0 ∨ (xf_k 5 2 = 1 ∧ (y3 = 0 ∨ y3 = 1))) then ex X d 67 39 [.ref 27, .ref y1, .int y2, .int y3] [] (hh (xa_u S4.1 27 2 y3, S4.2.1, S4.2.2)) n else none := rfl
theorem B_67_10 {X : Nat × (Nat → Int32)} {d : Nat} (n : Nat) (y1 : Nat) (y2 : Int32) (y3 : Int32) (S4 : St) : ex X d 67 39 [.ref 27, .ref y1, .int y2, .int y3] [] (hh (xa_u S4.1 27 2 y3, S4.2.1, S4.2.2)) (n + 4) = ex X d 67 12 [.ref 27, .ref y1, .int y3, .int (y3 + (-1))] [] (hh (xa_u S4.1 27 2 y3, S4.2.1, S4.2.2)) n := rfl
theorem B_67_11 {X : Nat × (Nat → Int32)} {d : Nat} (n : Nat) (y1 : Nat) (y2 : Int32) (y3 : Int32) (v4 : Int32) (S4 : St) : ex X d 67 31 [.ref 27, .ref y1, .int y2, .int y3] [.int v4] (hh S4) (n + 1) = if v4 = 0 then ex X d 67 34 [.ref 27, .ref y1, .int y2, .int y3] [] (hh S4) n else ex X d 67 39 [.ref 27, .ref y1, .int y2, .int y3] [] (hh S4) n := rfl
theorem B_67_12 {X : Nat × (Nat → Int32)} {d : Nat} (n : Nat) (y1 : Nat) (y2 : Int32) (y3 : Int32) (S4 : St) : ex X d 67 39 [.ref 27, .ref y1, .int y2, .int y3] [] (hh S4) (n + 4) = ex X d 67 12 [.ref 27, .ref y1, .int y3, .int (y3 + (-1))] [] (hh S4) n := rfl
set_option maxRecDepth 200000 in
theorem TL_67_0 {X : Nat × (Nat → Int32)} : ∀ (n : Nat) (S : St) (y1 : Nat) (y2 : Int32) (y3 : Int32) (r : Unit) (S' : St), GL_67_0 n S y1 y2 y3 = some (r, S') → Ev X 2 67 12 [.ref 27, .ref y1, .int y2, .int y3] [] (hh S) (xV r, hh S') := by
  intro n
  induction n with
  | zero => intro S y1 y2 y3 r S' hG; simp [GL_67_0] at hG
  | succ n ih =>
    intro S y1 y2 y3 r S' hG
    rw [GL_67_0] at hG
    by_cases c1 : y3 < 0
    · rw [if_pos c1] at hG
      refine Ev.t (c := y3 < 0) (p1 := 47) (L1 := [.ref 27, .ref y1, .int y2, .int y3]) (s1 := []) (h1 := hh S) (p2 := 16) (L2 := [.ref 27, .ref y1, .int y2, .int y3]) (s2 := []) (h2 := hh S) 2 (fun n => B_67_1 n y1 y2 y3 S) c1 ?_
      obtain ⟨e1, e2⟩ := Prod.mk.inj (Option.some.inj hG)
      subst e1
      subst e2
      exact Ev.r 1 (fun n => rfl)
    · rw [if_neg c1] at hG
      refine Ev.f (c := y3 < 0) (p1 := 47) (L1 := [.ref 27, .ref y1, .int y2, .int y3]) (s1 := []) (h1 := hh S) (p2 := 16) (L2 := [.ref 27, .ref y1, .int y2, .int y3]) (s2 := []) (h2 := hh S) 2 (fun n => B_67_2 n y1 y2 y3 S) c1 ?_
      rcases h2 : G_68 S y3 with _ | ⟨v2, S2⟩
      · rw [h2] at hG; cases hG
      rw [h2] at hG
      dsimp only at hG
      refine Ev.c (a := 68) (A := [.ref 27, .int y3]) (h1 := hh S) (pc' := 21) (L' := [.ref 27, .ref y1, .int y2, .int y3]) (rest := []) (r1 := some (.int v2)) (h2 := hh S2) 3 (fun n => B_67_3 n y1 y2 y3 S) (Ev.up (by decide) (T_68 S y3 _ _ h2)) ?_
      show Ev X _ 67 21 [.ref 27, .ref y1, .int y2, .int y3] [.int v2] (hh S2) _
      by_cases c3 : v2 = 0
      · rw [if_pos c3] at hG
        refine Ev.t (c := v2 = 0) (p1 := 41) (L1 := [.ref 27, .ref y1, .int y2, .int y3]) (s1 := []) (h1 := hh S2) (p2 := 24) (L2 := [.ref 27, .ref y1, .int y2, .int y3]) (s2 := []) (h2 := hh S2) 1 (fun n => B_67_4 n y1 y2 y3 v2 S2) c3 ?_
        exact Ev.b (pc' := 12) (L' := [.ref 27, .ref y1, .int y2, .int (y3 + (-1))]) (st' := []) (h' := hh S2) 2 (fun n => B_67_5 n y1 y2 y3 S2) (ih S2 y1 y2 (y3 + (-1)) _ _ hG )
      · rw [if_neg c3] at hG
        refine Ev.f (c := v2 = 0) (p1 := 41) (L1 := [.ref 27, .ref y1, .int y2, .int y3]) (s1 := []) (h1 := hh S2) (p2 := 24) (L2 := [.ref 27, .ref y1, .int y2, .int y3]) (s2 := []) (h2 := hh S2) 1 (fun n => B_67_6 n y1 y2 y3 v2 S2) c3 ?_
        rcases h4 : G_69 S2 y1 y3 y2 with _ | ⟨v4, S4⟩
        · rw [h4] at hG; cases hG
        rw [h4] at hG
        dsimp only at hG
        refine Ev.c (a := 69) (A := [.ref 27, .ref y1, .int y3, .int y2, .retAddr 0, .retAddr 0]) (h1 := hh S2) (pc' := 31) (L' := [.ref 27, .ref y1, .int y2, .int y3]) (rest := []) (r1 := some (.int v4)) (h2 := hh S4) 5 (fun n => B_67_7 n y1 y2 y3 S2) (Ev.up (by decide) (T_69 S2 y1 y3 y2 _ _ h4)) ?_
        show Ev X _ 67 31 [.ref 27, .ref y1, .int y2, .int y3] [.int v4] (hh S4) _
        by_cases c5 : v4 = 0
        · rw [if_pos c5] at hG
          refine Ev.t (c := v4 = 0) (p1 := 34) (L1 := [.ref 27, .ref y1, .int y2, .int y3]) (s1 := []) (h1 := hh S4) (p2 := 39) (L2 := [.ref 27, .ref y1, .int y2, .int y3]) (s2 := []) (h2 := hh S4) 1 (fun n => B_67_8 n y1 y2 y3 v4 S4) c5 ?_
          refine Ev.g (c := (kd 27).1 = 10 + 5 ∧ (xf_k 5 2 = 0 ∨ (xf_k 5 2 = 1 ∧ (y3 = 0 ∨ y3 = 1)))) (p1 := 39) (L1 := [.ref 27, .ref y1, .int y2, .int y3]) (s1 := []) (h1 := hh (xa_u S4.1 27 2 y3, S4.2.1, S4.2.2)) 3 (fun n => B_67_9 n y1 y2 y3 S4) (⟨rfl, Or.inl rfl⟩) ?_
          exact Ev.b (pc' := 12) (L' := [.ref 27, .ref y1, .int y3, .int (y3 + (-1))]) (st' := []) (h' := hh (xa_u S4.1 27 2 y3, S4.2.1, S4.2.2)) 4 (fun n => B_67_10 n y1 y2 y3 S4) (ih (xa_u S4.1 27 2 y3, S4.2.1, S4.2.2) y1 y3 (y3 + (-1)) _ _ hG )
        · rw [if_neg c5] at hG
          refine Ev.f (c := v4 = 0) (p1 := 34) (L1 := [.ref 27, .ref y1, .int y2, .int y3]) (s1 := []) (h1 := hh S4) (p2 := 39) (L2 := [.ref 27, .ref y1, .int y2, .int y3]) (s2 := []) (h2 := hh S4) 1 (fun n => B_67_11 n y1 y2 y3 v4 S4) c5 ?_
          exact Ev.b (pc' := 12) (L' := [.ref 27, .ref y1, .int y3, .int (y3 + (-1))]) (st' := []) (h' := hh S4) 4 (fun n => B_67_12 n y1 y2 y3 S4) (ih S4 y1 y3 (y3 + (-1)) _ _ hG )
def G_67 (S : St) (x1 : Nat) : Option (Unit × St) :=
  (if (kd x1).1 = 10 + 1 then
    GL_67_0 xFu S x1 (S.1 x1 1) ((S.1 x1 1) - 1)
  else none)
theorem B_67_13 {X : Nat × (Nat → Int32)} {d : Nat} (n : Nat) (x1 : Nat) (S : St) : ex X d 67 0 [.ref 27, .ref x1, .retAddr 0, .retAddr 0] [] (hh S) (n + 2) = if (kd x1).1 = 10 + 1 then ex X d 67 4 [.ref 27, .ref x1, .retAddr 0, .retAddr 0] [.int (S.1 x1 1)] (hh S) n else none := rfl
theorem B_67_14 {X : Nat × (Nat → Int32)} {d : Nat} (n : Nat) (x1 : Nat) (S : St) : ex X d 67 4 [.ref 27, .ref x1, .retAddr 0, .retAddr 0] [.int (S.1 x1 1)] (hh S) (n + 3) = if (kd x1).1 = 10 + 1 then ex X d 67 9 [.ref 27, .ref x1, .int (S.1 x1 1), .retAddr 0] [.int (S.1 x1 1)] (hh S) n else none := rfl
theorem B_67_15 {X : Nat × (Nat → Int32)} {d : Nat} (n : Nat) (x1 : Nat) (S : St) : ex X d 67 9 [.ref 27, .ref x1, .int (S.1 x1 1), .retAddr 0] [.int (S.1 x1 1)] (hh S) (n + 3) = ex X d 67 12 [.ref 27, .ref x1, .int (S.1 x1 1), .int ((S.1 x1 1) - 1)] [] (hh S) n := rfl
set_option maxRecDepth 200000 in
theorem T_67 {X : Nat × (Nat → Int32)} (S : St) (x1 : Nat) (r : Unit) (S' : St) (hG : G_67 S x1 = some (r, S')) : Ev X 2 67 0 [.ref 27, .ref x1, .retAddr 0, .retAddr 0] [] (hh S) (xV r, hh S') := by
  unfold G_67 at hG
  by_cases g6 : (kd x1).1 = 10 + 1
  rotate_left
  · rw [if_neg g6] at hG; cases hG
  rw [if_pos g6] at hG
  refine Ev.g (c := (kd x1).1 = 10 + 1) (p1 := 4) (L1 := [.ref 27, .ref x1, .retAddr 0, .retAddr 0]) (s1 := [.int (S.1 x1 1)]) (h1 := hh S) 2 (fun n => B_67_13 n x1 S) g6 ?_
  refine Ev.g (c := (kd x1).1 = 10 + 1) (p1 := 9) (L1 := [.ref 27, .ref x1, .int (S.1 x1 1), .retAddr 0]) (s1 := [.int (S.1 x1 1)]) (h1 := hh S) 3 (fun n => B_67_14 n x1 S) g6 ?_
  exact Ev.b (pc' := 12) (L' := [.ref 27, .ref x1, .int (S.1 x1 1), .int ((S.1 x1 1) - 1)]) (st' := []) (h' := hh S) 3 (fun n => B_67_15 n x1 S) (TL_67_0 xFu S x1 (S.1 x1 1) ((S.1 x1 1) - 1) _ _ hG )
/-- 60: SceneCycle$LogicReader.operandsOf(I)Ljava/lang/String; -/
def G_60 (S : St) (x0 : Int32) : Option (Option Nat × St) :=
  (if x0 = 1 then
    some (some 2000, S)
  else
    (if x0 = 2 then
      some (some 2000, S)
    else
      (if x0 = 3 then
        some (some 2001, S)
      else
        (if x0 = 4 then
          some (some 2002, S)
        else
          (if x0 = 5 then
            some (some 2002, S)
          else
            (if x0 = 6 then
              some (some 2003, S)
            else
              (if x0 = 7 then
                some (some 2004, S)
              else
                (if x0 = 8 then
                  some (some 2005, S)
                else
                  (if x0 = 9 then
                    some (some 2006, S)
                  else
                    (if x0 = 10 then
                      some (some 2007, S)
                    else
                      (if x0 = 11 then
                        some (some 2008, S)
                      else
                        (if x0 = 12 then
                          some (some 2009, S)
                        else
                          (if x0 = 13 then
                            some (some 2010, S)
                          else
                            (if x0 = 14 then
                              some (some 2011, S)
                            else
                              (if x0 = 15 then
                                some (some 2007, S)
                              else
                                (if x0 = 16 then
                                  some (some 2012, S)
                                else
                                  (if x0 = 17 then
                                    some (some 2013, S)
                                  else
                                    some (some 2014, S)
                                  )
                                )
                              )
                            )
                          )
                        )
                      )
                    )
                  )
                )
              )
            )
          )
        )
      )
    )
  )
theorem B_60_1 {X : Nat × (Nat → Int32)} {d : Nat} (n : Nat) (x0 : Int32) (S : St) : ex X d 60 0 [.int x0] [] (hh S) (n + 2) = xa_sw [(1, 84), (2, 84), (3, 87), (4, 90), (5, 90), (6, 93), (7, 96), (8, 99), (9, 102), (10, 105), (11, 108), (12, 111), (13, 114), (14, 117), (15, 105), (16, 120), (17, 123)] x0 126 (fun t => ex X d 60 t [.int x0] [] (hh S) n) := rfl
set_option maxRecDepth 200000 in
theorem T_60 {X : Nat × (Nat → Int32)} (S : St) (x0 : Int32) (r : Option Nat) (S' : St) (hG : G_60 S x0 = some (r, S')) : Ev X 0 60 0 [.int x0] [] (hh S) (xO r, hh S') := by
  unfold G_60 at hG
  refine Ev.sw (ks := [(1, 84), (2, 84), (3, 87), (4, 90), (5, 90), (6, 93), (7, 96), (8, 99), (9, 102), (10, 105), (11, 108), (12, 111), (13, 114), (14, 117), (15, 105), (16, 120), (17, 123)]) (x := x0) (df := 126) (L1 := [.int x0]) (s1 := []) (h1 := hh S) 2 (fun n => B_60_1 n x0 S) ?_
  by_cases c1 : x0 = 1
  · rw [if_pos c1] at hG
    rw [xa_sw, if_pos c1]
    show Ev X _ 60 84 [.int x0] [] (hh S) _
    obtain ⟨e1, e2⟩ := Prod.mk.inj (Option.some.inj hG)
    subst e1
    subst e2
    exact Ev.r 2 (fun n => rfl)
  rw [if_neg c1] at hG
  rw [xa_sw, if_neg c1]
  by_cases c2 : x0 = 2
  · rw [if_pos c2] at hG
    rw [xa_sw, if_pos c2]
    show Ev X _ 60 84 [.int x0] [] (hh S) _
    obtain ⟨e1, e2⟩ := Prod.mk.inj (Option.some.inj hG)
    subst e1
    subst e2
    exact Ev.r 2 (fun n => rfl)
  rw [if_neg c2] at hG
  rw [xa_sw, if_neg c2]
  by_cases c3 : x0 = 3
  · rw [if_pos c3] at hG
    rw [xa_sw, if_pos c3]
    show Ev X _ 60 87 [.int x0] [] (hh S) _
    obtain ⟨e1, e2⟩ := Prod.mk.inj (Option.some.inj hG)
    subst e1
    subst e2
    exact Ev.r 2 (fun n => rfl)
  rw [if_neg c3] at hG
  rw [xa_sw, if_neg c3]
  by_cases c4 : x0 = 4
  · rw [if_pos c4] at hG
    rw [xa_sw, if_pos c4]
    show Ev X _ 60 90 [.int x0] [] (hh S) _
    obtain ⟨e1, e2⟩ := Prod.mk.inj (Option.some.inj hG)
    subst e1
    subst e2
    exact Ev.r 2 (fun n => rfl)
  rw [if_neg c4] at hG
  rw [xa_sw, if_neg c4]
  by_cases c5 : x0 = 5
  · rw [if_pos c5] at hG
    rw [xa_sw, if_pos c5]
    show Ev X _ 60 90 [.int x0] [] (hh S) _
    obtain ⟨e1, e2⟩ := Prod.mk.inj (Option.some.inj hG)
    subst e1
    subst e2
    exact Ev.r 2 (fun n => rfl)
  rw [if_neg c5] at hG
  rw [xa_sw, if_neg c5]
  by_cases c6 : x0 = 6
  · rw [if_pos c6] at hG
    rw [xa_sw, if_pos c6]
    show Ev X _ 60 93 [.int x0] [] (hh S) _
    obtain ⟨e1, e2⟩ := Prod.mk.inj (Option.some.inj hG)
    subst e1
    subst e2
    exact Ev.r 2 (fun n => rfl)
  rw [if_neg c6] at hG
  rw [xa_sw, if_neg c6]
  by_cases c7 : x0 = 7
  · rw [if_pos c7] at hG
    rw [xa_sw, if_pos c7]
    show Ev X _ 60 96 [.int x0] [] (hh S) _
    obtain ⟨e1, e2⟩ := Prod.mk.inj (Option.some.inj hG)
    subst e1
    subst e2
    exact Ev.r 2 (fun n => rfl)
  rw [if_neg c7] at hG
  rw [xa_sw, if_neg c7]
  by_cases c8 : x0 = 8
  · rw [if_pos c8] at hG
    rw [xa_sw, if_pos c8]
    show Ev X _ 60 99 [.int x0] [] (hh S) _
    obtain ⟨e1, e2⟩ := Prod.mk.inj (Option.some.inj hG)
    subst e1
    subst e2
    exact Ev.r 2 (fun n => rfl)
  rw [if_neg c8] at hG
  rw [xa_sw, if_neg c8]
  by_cases c9 : x0 = 9
  · rw [if_pos c9] at hG
    rw [xa_sw, if_pos c9]
    show Ev X _ 60 102 [.int x0] [] (hh S) _
    obtain ⟨e1, e2⟩ := Prod.mk.inj (Option.some.inj hG)
    subst e1
    subst e2
    exact Ev.r 2 (fun n => rfl)
  rw [if_neg c9] at hG
  rw [xa_sw, if_neg c9]
  by_cases c10 : x0 = 10
  · rw [if_pos c10] at hG
    rw [xa_sw, if_pos c10]
    show Ev X _ 60 105 [.int x0] [] (hh S) _
    obtain ⟨e1, e2⟩ := Prod.mk.inj (Option.some.inj hG)
    subst e1
    subst e2
    exact Ev.r 2 (fun n => rfl)
  rw [if_neg c10] at hG
  rw [xa_sw, if_neg c10]
  by_cases c11 : x0 = 11
  · rw [if_pos c11] at hG
    rw [xa_sw, if_pos c11]
    show Ev X _ 60 108 [.int x0] [] (hh S) _
    obtain ⟨e1, e2⟩ := Prod.mk.inj (Option.some.inj hG)
    subst e1
    subst e2
    exact Ev.r 2 (fun n => rfl)
  rw [if_neg c11] at hG
  rw [xa_sw, if_neg c11]
  by_cases c12 : x0 = 12
  · rw [if_pos c12] at hG
    rw [xa_sw, if_pos c12]
    show Ev X _ 60 111 [.int x0] [] (hh S) _
    obtain ⟨e1, e2⟩ := Prod.mk.inj (Option.some.inj hG)
    subst e1
    subst e2
    exact Ev.r 2 (fun n => rfl)
  rw [if_neg c12] at hG
  rw [xa_sw, if_neg c12]
  by_cases c13 : x0 = 13
  · rw [if_pos c13] at hG
    rw [xa_sw, if_pos c13]
    show Ev X _ 60 114 [.int x0] [] (hh S) _
    obtain ⟨e1, e2⟩ := Prod.mk.inj (Option.some.inj hG)
    subst e1
    subst e2
    exact Ev.r 2 (fun n => rfl)
  rw [if_neg c13] at hG
  rw [xa_sw, if_neg c13]
  by_cases c14 : x0 = 14
  · rw [if_pos c14] at hG
    rw [xa_sw, if_pos c14]
    show Ev X _ 60 117 [.int x0] [] (hh S) _
    obtain ⟨e1, e2⟩ := Prod.mk.inj (Option.some.inj hG)
    subst e1
    subst e2
    exact Ev.r 2 (fun n => rfl)
  rw [if_neg c14] at hG
  rw [xa_sw, if_neg c14]
  by_cases c15 : x0 = 15
  · rw [if_pos c15] at hG
    rw [xa_sw, if_pos c15]
    show Ev X _ 60 105 [.int x0] [] (hh S) _
    obtain ⟨e1, e2⟩ := Prod.mk.inj (Option.some.inj hG)
    subst e1
    subst e2
    exact Ev.r 2 (fun n => rfl)
  rw [if_neg c15] at hG
  rw [xa_sw, if_neg c15]
  by_cases c16 : x0 = 16
  · rw [if_pos c16] at hG
    rw [xa_sw, if_pos c16]
    show Ev X _ 60 120 [.int x0] [] (hh S) _
    obtain ⟨e1, e2⟩ := Prod.mk.inj (Option.some.inj hG)
    subst e1
    subst e2
    exact Ev.r 2 (fun n => rfl)
  rw [if_neg c16] at hG
  rw [xa_sw, if_neg c16]
  by_cases c17 : x0 = 17
  · rw [if_pos c17] at hG
    rw [xa_sw, if_pos c17]
    show Ev X _ 60 123 [.int x0] [] (hh S) _
    obtain ⟨e1, e2⟩ := Prod.mk.inj (Option.some.inj hG)
    subst e1
    subst e2
    exact Ev.r 2 (fun n => rfl)
  rw [if_neg c17] at hG
  rw [xa_sw, if_neg c17]
  rw [xa_sw]
  show Ev X _ 60 126 [.int x0] [] (hh S) _
  obtain ⟨e1, e2⟩ := Prod.mk.inj (Option.some.inj hG)
  subst e1
  subst e2
  exact Ev.r 2 (fun n => rfl)
/-- 65: SceneCycle$LogicReader.leastOf(C)I -/
def G_65 (S : St) (x0 : Int32) : Option (Int32 × St) :=
  (if x0 = 101 then
    some (1, S)
  else
    (if x0 = 107 then
      some (1, S)
    else
      (if x0 = 114 then
        some (4, S)
      else
        (if x0 = 115 then
          some (1, S)
        else
          (if x0 = 119 then
            some (1, S)
          else
            some (0, S)
          )
        )
      )
    )
  )
theorem B_65_1 {X : Nat × (Nat → Int32)} {d : Nat} (n : Nat) (x0 : Int32) (S : St) : ex X d 65 0 [.int x0] [] (hh S) (n + 2) = xa_sw [(101, 52), (107, 52), (114, 54), (115, 52), (119, 52)] x0 56 (fun t => ex X d 65 t [.int x0] [] (hh S) n) := rfl
set_option maxRecDepth 200000 in
theorem T_65 {X : Nat × (Nat → Int32)} (S : St) (x0 : Int32) (r : Int32) (S' : St) (hG : G_65 S x0 = some (r, S')) : Ev X 0 65 0 [.int x0] [] (hh S) (xI r, hh S') := by
  unfold G_65 at hG
  refine Ev.sw (ks := [(101, 52), (107, 52), (114, 54), (115, 52), (119, 52)]) (x := x0) (df := 56) (L1 := [.int x0]) (s1 := []) (h1 := hh S) 2 (fun n => B_65_1 n x0 S) ?_
  by_cases c1 : x0 = 101
  · rw [if_pos c1] at hG
    rw [xa_sw, if_pos c1]
    show Ev X _ 65 52 [.int x0] [] (hh S) _
    obtain ⟨e1, e2⟩ := Prod.mk.inj (Option.some.inj hG)
    subst e1
    subst e2
    exact Ev.r 2 (fun n => rfl)
  rw [if_neg c1] at hG
  rw [xa_sw, if_neg c1]
  by_cases c2 : x0 = 107
  · rw [if_pos c2] at hG
    rw [xa_sw, if_pos c2]
    show Ev X _ 65 52 [.int x0] [] (hh S) _
    obtain ⟨e1, e2⟩ := Prod.mk.inj (Option.some.inj hG)
    subst e1
    subst e2
    exact Ev.r 2 (fun n => rfl)
  rw [if_neg c2] at hG
  rw [xa_sw, if_neg c2]
  by_cases c3 : x0 = 114
  · rw [if_pos c3] at hG
    rw [xa_sw, if_pos c3]
    show Ev X _ 65 54 [.int x0] [] (hh S) _
    obtain ⟨e1, e2⟩ := Prod.mk.inj (Option.some.inj hG)
    subst e1
    subst e2
    exact Ev.r 2 (fun n => rfl)
  rw [if_neg c3] at hG
  rw [xa_sw, if_neg c3]
  by_cases c4 : x0 = 115
  · rw [if_pos c4] at hG
    rw [xa_sw, if_pos c4]
    show Ev X _ 65 52 [.int x0] [] (hh S) _
    obtain ⟨e1, e2⟩ := Prod.mk.inj (Option.some.inj hG)
    subst e1
    subst e2
    exact Ev.r 2 (fun n => rfl)
  rw [if_neg c4] at hG
  rw [xa_sw, if_neg c4]
  by_cases c5 : x0 = 119
  · rw [if_pos c5] at hG
    rw [xa_sw, if_pos c5]
    show Ev X _ 65 52 [.int x0] [] (hh S) _
    obtain ⟨e1, e2⟩ := Prod.mk.inj (Option.some.inj hG)
    subst e1
    subst e2
    exact Ev.r 2 (fun n => rfl)
  rw [if_neg c5] at hG
  rw [xa_sw, if_neg c5]
  rw [xa_sw]
  show Ev X _ 65 56 [.int x0] [] (hh S) _
  obtain ⟨e1, e2⟩ := Prod.mk.inj (Option.some.inj hG)
  subst e1
  subst e2
  exact Ev.r 2 (fun n => rfl)
/-- 66: SceneCycle$LogicReader.greatestOf(C)I -/
def G_66 (S : St) (x0 : Int32) : Option (Int32 × St) :=
  (if x0 = 98 then
    some (1, S)
  else
    (if x0 = 100 then
      some (8, S)
    else
      (if x0 = 101 then
        some (3, S)
      else
        (if x0 = 102 then
          some (15, S)
        else
          (if x0 = 107 then
            some (3, S)
          else
            (if x0 = 111 then
              some (3, S)
            else
              (if x0 = 114 then
                some (15, S)
              else
                (if x0 = 115 then
                  some (4, S)
                else
                  (if x0 = 118 then
                    some (15, S)
                  else
                    (if x0 = 120 then
                      some (15, S)
                    else
                      (if x0 = 121 then
                        some (11, S)
                      else
                        some (255, S)
                      )
                    )
                  )
                )
              )
            )
          )
        )
      )
    )
  )
theorem B_66_1 {X : Nat × (Nat → Int32)} {d : Nat} (n : Nat) (x0 : Int32) (S : St) : ex X d 66 0 [.int x0] [] (hh S) (n + 2) = xa_sw [(98, 112), (100, 118), (101, 114), (102, 124), (107, 114), (111, 114), (114, 124), (115, 116), (118, 124), (120, 124), (121, 121)] x0 127 (fun t => ex X d 66 t [.int x0] [] (hh S) n) := rfl
set_option maxRecDepth 200000 in
theorem T_66 {X : Nat × (Nat → Int32)} (S : St) (x0 : Int32) (r : Int32) (S' : St) (hG : G_66 S x0 = some (r, S')) : Ev X 0 66 0 [.int x0] [] (hh S) (xI r, hh S') := by
  unfold G_66 at hG
  refine Ev.sw (ks := [(98, 112), (100, 118), (101, 114), (102, 124), (107, 114), (111, 114), (114, 124), (115, 116), (118, 124), (120, 124), (121, 121)]) (x := x0) (df := 127) (L1 := [.int x0]) (s1 := []) (h1 := hh S) 2 (fun n => B_66_1 n x0 S) ?_
  by_cases c1 : x0 = 98
  · rw [if_pos c1] at hG
    rw [xa_sw, if_pos c1]
    show Ev X _ 66 112 [.int x0] [] (hh S) _
    obtain ⟨e1, e2⟩ := Prod.mk.inj (Option.some.inj hG)
    subst e1
    subst e2
    exact Ev.r 2 (fun n => rfl)
  rw [if_neg c1] at hG
  rw [xa_sw, if_neg c1]
  by_cases c2 : x0 = 100
  · rw [if_pos c2] at hG
    rw [xa_sw, if_pos c2]
    show Ev X _ 66 118 [.int x0] [] (hh S) _
    obtain ⟨e1, e2⟩ := Prod.mk.inj (Option.some.inj hG)
    subst e1
    subst e2
    exact Ev.r 2 (fun n => rfl)
  rw [if_neg c2] at hG
  rw [xa_sw, if_neg c2]
  by_cases c3 : x0 = 101
  · rw [if_pos c3] at hG
    rw [xa_sw, if_pos c3]
    show Ev X _ 66 114 [.int x0] [] (hh S) _
    obtain ⟨e1, e2⟩ := Prod.mk.inj (Option.some.inj hG)
    subst e1
    subst e2
    exact Ev.r 2 (fun n => rfl)
  rw [if_neg c3] at hG
  rw [xa_sw, if_neg c3]
  by_cases c4 : x0 = 102
  · rw [if_pos c4] at hG
    rw [xa_sw, if_pos c4]
    show Ev X _ 66 124 [.int x0] [] (hh S) _
    obtain ⟨e1, e2⟩ := Prod.mk.inj (Option.some.inj hG)
    subst e1
    subst e2
    exact Ev.r 2 (fun n => rfl)
  rw [if_neg c4] at hG
  rw [xa_sw, if_neg c4]
  by_cases c5 : x0 = 107
  · rw [if_pos c5] at hG
    rw [xa_sw, if_pos c5]
    show Ev X _ 66 114 [.int x0] [] (hh S) _
    obtain ⟨e1, e2⟩ := Prod.mk.inj (Option.some.inj hG)
    subst e1
    subst e2
    exact Ev.r 2 (fun n => rfl)
  rw [if_neg c5] at hG
  rw [xa_sw, if_neg c5]
  by_cases c6 : x0 = 111
  · rw [if_pos c6] at hG
    rw [xa_sw, if_pos c6]
    show Ev X _ 66 114 [.int x0] [] (hh S) _
    obtain ⟨e1, e2⟩ := Prod.mk.inj (Option.some.inj hG)
    subst e1
    subst e2
    exact Ev.r 2 (fun n => rfl)
  rw [if_neg c6] at hG
  rw [xa_sw, if_neg c6]
  by_cases c7 : x0 = 114
  · rw [if_pos c7] at hG
    rw [xa_sw, if_pos c7]
    show Ev X _ 66 124 [.int x0] [] (hh S) _
    obtain ⟨e1, e2⟩ := Prod.mk.inj (Option.some.inj hG)
    subst e1
    subst e2
    exact Ev.r 2 (fun n => rfl)
  rw [if_neg c7] at hG
  rw [xa_sw, if_neg c7]
  by_cases c8 : x0 = 115
  · rw [if_pos c8] at hG
    rw [xa_sw, if_pos c8]
    show Ev X _ 66 116 [.int x0] [] (hh S) _
    obtain ⟨e1, e2⟩ := Prod.mk.inj (Option.some.inj hG)
    subst e1
    subst e2
    exact Ev.r 2 (fun n => rfl)
  rw [if_neg c8] at hG
  rw [xa_sw, if_neg c8]
  by_cases c9 : x0 = 118
  · rw [if_pos c9] at hG
    rw [xa_sw, if_pos c9]
    show Ev X _ 66 124 [.int x0] [] (hh S) _
    obtain ⟨e1, e2⟩ := Prod.mk.inj (Option.some.inj hG)
    subst e1
    subst e2
    exact Ev.r 2 (fun n => rfl)
  rw [if_neg c9] at hG
  rw [xa_sw, if_neg c9]
  by_cases c10 : x0 = 120
  · rw [if_pos c10] at hG
    rw [xa_sw, if_pos c10]
    show Ev X _ 66 124 [.int x0] [] (hh S) _
    obtain ⟨e1, e2⟩ := Prod.mk.inj (Option.some.inj hG)
    subst e1
    subst e2
    exact Ev.r 2 (fun n => rfl)
  rw [if_neg c10] at hG
  rw [xa_sw, if_neg c10]
  by_cases c11 : x0 = 121
  · rw [if_pos c11] at hG
    rw [xa_sw, if_pos c11]
    show Ev X _ 66 121 [.int x0] [] (hh S) _
    obtain ⟨e1, e2⟩ := Prod.mk.inj (Option.some.inj hG)
    subst e1
    subst e2
    exact Ev.r 2 (fun n => rfl)
  rw [if_neg c11] at hG
  rw [xa_sw, if_neg c11]
  rw [xa_sw]
  show Ev X _ 66 127 [.int x0] [] (hh S) _
  obtain ⟨e1, e2⟩ := Prod.mk.inj (Option.some.inj hG)
  subst e1
  subst e2
  exact Ev.r 2 (fun n => rfl)
/-- 64: SceneCycle$LogicReader.fits(CI)Z -/
def G_64 (S : St) (x0 : Int32) (x1 : Int32) : Option (Int32 × St) :=
  (if x0 = 114 then
    (if x1 = 0 then
      some (1, S)
    else
      (match G_65 S x0 with
      | none => none
      | some (v3, S3) =>
        (if x1 < v3 then
          some (0, S3)
        else
          (match G_66 S3 x0 with
          | none => none
          | some (v5, S5) =>
            (if v5 < x1 then
              some (0, S5)
            else
              some (1, S5)
            )
          )
        )
      )
    )
  else
    (match G_65 S x0 with
    | none => none
    | some (v7, S7) =>
      (if x1 < v7 then
        some (0, S7)
      else
        (match G_66 S7 x0 with
        | none => none
        | some (v9, S9) =>
          (if v9 < x1 then
            some (0, S9)
          else
            some (1, S9)
          )
        )
      )
    )
  )
theorem B_64_1 {X : Nat × (Nat → Int32)} {d : Nat} (n : Nat) (x0 : Int32) (x1 : Int32) (S : St) : ex X d 64 0 [.int x0, .int x1] [] (hh S) (n + 3) = if x0 = 114 then ex X d 64 6 [.int x0, .int x1] [] (hh S) n else ex X d 64 12 [.int x0, .int x1] [] (hh S) n := rfl
theorem B_64_2 {X : Nat × (Nat → Int32)} {d : Nat} (n : Nat) (x0 : Int32) (x1 : Int32) (S : St) : ex X d 64 6 [.int x0, .int x1] [] (hh S) (n + 2) = if x1 = 0 then ex X d 64 10 [.int x0, .int x1] [] (hh S) n else ex X d 64 12 [.int x0, .int x1] [] (hh S) n := rfl
theorem B_64_3 {X : Nat × (Nat → Int32)} {d : Nat} (n : Nat) (x0 : Int32) (x1 : Int32) (S : St) : ex X d 64 6 [.int x0, .int x1] [] (hh S) (n + 2) = if x1 = 0 then ex X d 64 10 [.int x0, .int x1] [] (hh S) n else ex X d 64 12 [.int x0, .int x1] [] (hh S) n := rfl
theorem B_64_4 {X : Nat × (Nat → Int32)} {d : Nat} (n : Nat) (x0 : Int32) (x1 : Int32) (S : St) : ex X (d + 1) 64 12 [.int x0, .int x1] [] (hh S) (n + 3) = (match ex X d 65 0 [.int x0] [] (hh S) n with | some (v, h') => ex X (d + 1) 64 17 [.int x0, .int x1] (v.toList ++ [.int x1]) h' n | none => none) := rfl
theorem B_64_5 {X : Nat × (Nat → Int32)} {d : Nat} (n : Nat) (x0 : Int32) (x1 : Int32) (v3 : Int32) (S3 : St) : ex X d 64 17 [.int x0, .int x1] [.int v3, .int x1] (hh S3) (n + 1) = if x1 < v3 then ex X d 64 32 [.int x0, .int x1] [] (hh S3) n else ex X d 64 20 [.int x0, .int x1] [] (hh S3) n := rfl
theorem B_64_6 {X : Nat × (Nat → Int32)} {d : Nat} (n : Nat) (x0 : Int32) (x1 : Int32) (v3 : Int32) (S3 : St) : ex X d 64 17 [.int x0, .int x1] [.int v3, .int x1] (hh S3) (n + 1) = if x1 < v3 then ex X d 64 32 [.int x0, .int x1] [] (hh S3) n else ex X d 64 20 [.int x0, .int x1] [] (hh S3) n := rfl
theorem B_64_7 {X : Nat × (Nat → Int32)} {d : Nat} (n : Nat) (x0 : Int32) (x1 : Int32) (S3 : St) : ex X (d + 1) 64 20 [.int x0, .int x1] [] (hh S3) (n + 3) = (match ex X d 66 0 [.int x0] [] (hh S3) n with | some (v, h') => ex X (d + 1) 64 25 [.int x0, .int x1] (v.toList ++ [.int x1]) h' n | none => none) := rfl
theorem B_64_8 {X : Nat × (Nat → Int32)} {d : Nat} (n : Nat) (x0 : Int32) (x1 : Int32) (v5 : Int32) (S5 : St) : ex X d 64 25 [.int x0, .int x1] [.int v5, .int x1] (hh S5) (n + 1) = if v5 < x1 then ex X d 64 32 [.int x0, .int x1] [] (hh S5) n else ex X d 64 28 [.int x0, .int x1] [] (hh S5) n := rfl
theorem B_64_9 {X : Nat × (Nat → Int32)} {d : Nat} (n : Nat) (x0 : Int32) (x1 : Int32) (v5 : Int32) (S5 : St) : ex X d 64 25 [.int x0, .int x1] [.int v5, .int x1] (hh S5) (n + 1) = if v5 < x1 then ex X d 64 32 [.int x0, .int x1] [] (hh S5) n else ex X d 64 28 [.int x0, .int x1] [] (hh S5) n := rfl
theorem B_64_10 {X : Nat × (Nat → Int32)} {d : Nat} (n : Nat) (x0 : Int32) (x1 : Int32) (S : St) : ex X d 64 0 [.int x0, .int x1] [] (hh S) (n + 3) = if x0 = 114 then ex X d 64 6 [.int x0, .int x1] [] (hh S) n else ex X d 64 12 [.int x0, .int x1] [] (hh S) n := rfl
theorem B_64_11 {X : Nat × (Nat → Int32)} {d : Nat} (n : Nat) (x0 : Int32) (x1 : Int32) (S : St) : ex X (d + 1) 64 12 [.int x0, .int x1] [] (hh S) (n + 3) = (match ex X d 65 0 [.int x0] [] (hh S) n with | some (v, h') => ex X (d + 1) 64 17 [.int x0, .int x1] (v.toList ++ [.int x1]) h' n | none => none) := rfl
theorem B_64_12 {X : Nat × (Nat → Int32)} {d : Nat} (n : Nat) (x0 : Int32) (x1 : Int32) (v7 : Int32) (S7 : St) : ex X d 64 17 [.int x0, .int x1] [.int v7, .int x1] (hh S7) (n + 1) = if x1 < v7 then ex X d 64 32 [.int x0, .int x1] [] (hh S7) n else ex X d 64 20 [.int x0, .int x1] [] (hh S7) n := rfl
theorem B_64_13 {X : Nat × (Nat → Int32)} {d : Nat} (n : Nat) (x0 : Int32) (x1 : Int32) (v7 : Int32) (S7 : St) : ex X d 64 17 [.int x0, .int x1] [.int v7, .int x1] (hh S7) (n + 1) = if x1 < v7 then ex X d 64 32 [.int x0, .int x1] [] (hh S7) n else ex X d 64 20 [.int x0, .int x1] [] (hh S7) n := rfl
theorem B_64_14 {X : Nat × (Nat → Int32)} {d : Nat} (n : Nat) (x0 : Int32) (x1 : Int32) (S7 : St) : ex X (d + 1) 64 20 [.int x0, .int x1] [] (hh S7) (n + 3) = (match ex X d 66 0 [.int x0] [] (hh S7) n with | some (v, h') => ex X (d + 1) 64 25 [.int x0, .int x1] (v.toList ++ [.int x1]) h' n | none => none) := rfl
theorem B_64_15 {X : Nat × (Nat → Int32)} {d : Nat} (n : Nat) (x0 : Int32) (x1 : Int32) (v9 : Int32) (S9 : St) : ex X d 64 25 [.int x0, .int x1] [.int v9, .int x1] (hh S9) (n + 1) = if v9 < x1 then ex X d 64 32 [.int x0, .int x1] [] (hh S9) n else ex X d 64 28 [.int x0, .int x1] [] (hh S9) n := rfl
theorem B_64_16 {X : Nat × (Nat → Int32)} {d : Nat} (n : Nat) (x0 : Int32) (x1 : Int32) (v9 : Int32) (S9 : St) : ex X d 64 25 [.int x0, .int x1] [.int v9, .int x1] (hh S9) (n + 1) = if v9 < x1 then ex X d 64 32 [.int x0, .int x1] [] (hh S9) n else ex X d 64 28 [.int x0, .int x1] [] (hh S9) n := rfl
set_option maxRecDepth 200000 in
theorem T_64 {X : Nat × (Nat → Int32)} (S : St) (x0 : Int32) (x1 : Int32) (r : Int32) (S' : St) (hG : G_64 S x0 x1 = some (r, S')) : Ev X 1 64 0 [.int x0, .int x1] [] (hh S) (xI r, hh S') := by
  unfold G_64 at hG
  by_cases c1 : x0 = 114
  · rw [if_pos c1] at hG
    refine Ev.t (c := x0 = 114) (p1 := 6) (L1 := [.int x0, .int x1]) (s1 := []) (h1 := hh S) (p2 := 12) (L2 := [.int x0, .int x1]) (s2 := []) (h2 := hh S) 3 (fun n => B_64_1 n x0 x1 S) c1 ?_
    by_cases c2 : x1 = 0
    · rw [if_pos c2] at hG
      refine Ev.t (c := x1 = 0) (p1 := 10) (L1 := [.int x0, .int x1]) (s1 := []) (h1 := hh S) (p2 := 12) (L2 := [.int x0, .int x1]) (s2 := []) (h2 := hh S) 2 (fun n => B_64_2 n x0 x1 S) c2 ?_
      obtain ⟨e1, e2⟩ := Prod.mk.inj (Option.some.inj hG)
      subst e1
      subst e2
      exact Ev.rg (c := (xm_z 64 = 0 ∨ (xm_z 64 = 1 ∧ ((1 : Int32) = 0 ∨ (1 : Int32) = 1)) ∨ (xm_z 64 = 2 ∧ ((1 : Int32)).toInt8.toInt32 = (1 : Int32)) ∨ (xm_z 64 = 3 ∧ ((1 : Int32)).toUInt32.toUInt16.toUInt32.toInt32 = (1 : Int32)))) 2 (fun n => rfl) (Or.inr (Or.inl ⟨rfl, by decide⟩))
    · rw [if_neg c2] at hG
      refine Ev.f (c := x1 = 0) (p1 := 10) (L1 := [.int x0, .int x1]) (s1 := []) (h1 := hh S) (p2 := 12) (L2 := [.int x0, .int x1]) (s2 := []) (h2 := hh S) 2 (fun n => B_64_3 n x0 x1 S) c2 ?_
      rcases h3 : G_65 S x0 with _ | ⟨v3, S3⟩
      · rw [h3] at hG; cases hG
      rw [h3] at hG
      dsimp only at hG
      refine Ev.c (a := 65) (A := [.int x0]) (h1 := hh S) (pc' := 17) (L' := [.int x0, .int x1]) (rest := [.int x1]) (r1 := some (.int v3)) (h2 := hh S3) 3 (fun n => B_64_4 n x0 x1 S) (Ev.up (by decide) (T_65 S x0 _ _ h3)) ?_
      show Ev X _ 64 17 [.int x0, .int x1] [.int v3, .int x1] (hh S3) _
      by_cases c4 : x1 < v3
      · rw [if_pos c4] at hG
        refine Ev.t (c := x1 < v3) (p1 := 32) (L1 := [.int x0, .int x1]) (s1 := []) (h1 := hh S3) (p2 := 20) (L2 := [.int x0, .int x1]) (s2 := []) (h2 := hh S3) 1 (fun n => B_64_5 n x0 x1 v3 S3) c4 ?_
        obtain ⟨e1, e2⟩ := Prod.mk.inj (Option.some.inj hG)
        subst e1
        subst e2
        exact Ev.rg (c := (xm_z 64 = 0 ∨ (xm_z 64 = 1 ∧ ((0 : Int32) = 0 ∨ (0 : Int32) = 1)) ∨ (xm_z 64 = 2 ∧ ((0 : Int32)).toInt8.toInt32 = (0 : Int32)) ∨ (xm_z 64 = 3 ∧ ((0 : Int32)).toUInt32.toUInt16.toUInt32.toInt32 = (0 : Int32)))) 2 (fun n => rfl) (Or.inr (Or.inl ⟨rfl, by decide⟩))
      · rw [if_neg c4] at hG
        refine Ev.f (c := x1 < v3) (p1 := 32) (L1 := [.int x0, .int x1]) (s1 := []) (h1 := hh S3) (p2 := 20) (L2 := [.int x0, .int x1]) (s2 := []) (h2 := hh S3) 1 (fun n => B_64_6 n x0 x1 v3 S3) c4 ?_
        rcases h5 : G_66 S3 x0 with _ | ⟨v5, S5⟩
        · rw [h5] at hG; cases hG
        rw [h5] at hG
        dsimp only at hG
        refine Ev.c (a := 66) (A := [.int x0]) (h1 := hh S3) (pc' := 25) (L' := [.int x0, .int x1]) (rest := [.int x1]) (r1 := some (.int v5)) (h2 := hh S5) 3 (fun n => B_64_7 n x0 x1 S3) (Ev.up (by decide) (T_66 S3 x0 _ _ h5)) ?_
        show Ev X _ 64 25 [.int x0, .int x1] [.int v5, .int x1] (hh S5) _
        by_cases c6 : v5 < x1
        · rw [if_pos c6] at hG
          refine Ev.t (c := v5 < x1) (p1 := 32) (L1 := [.int x0, .int x1]) (s1 := []) (h1 := hh S5) (p2 := 28) (L2 := [.int x0, .int x1]) (s2 := []) (h2 := hh S5) 1 (fun n => B_64_8 n x0 x1 v5 S5) c6 ?_
          obtain ⟨e1, e2⟩ := Prod.mk.inj (Option.some.inj hG)
          subst e1
          subst e2
          exact Ev.rg (c := (xm_z 64 = 0 ∨ (xm_z 64 = 1 ∧ ((0 : Int32) = 0 ∨ (0 : Int32) = 1)) ∨ (xm_z 64 = 2 ∧ ((0 : Int32)).toInt8.toInt32 = (0 : Int32)) ∨ (xm_z 64 = 3 ∧ ((0 : Int32)).toUInt32.toUInt16.toUInt32.toInt32 = (0 : Int32)))) 2 (fun n => rfl) (Or.inr (Or.inl ⟨rfl, by decide⟩))
        · rw [if_neg c6] at hG
          refine Ev.f (c := v5 < x1) (p1 := 32) (L1 := [.int x0, .int x1]) (s1 := []) (h1 := hh S5) (p2 := 28) (L2 := [.int x0, .int x1]) (s2 := []) (h2 := hh S5) 1 (fun n => B_64_9 n x0 x1 v5 S5) c6 ?_
          obtain ⟨e1, e2⟩ := Prod.mk.inj (Option.some.inj hG)
          subst e1
          subst e2
          exact Ev.rg (c := (xm_z 64 = 0 ∨ (xm_z 64 = 1 ∧ ((1 : Int32) = 0 ∨ (1 : Int32) = 1)) ∨ (xm_z 64 = 2 ∧ ((1 : Int32)).toInt8.toInt32 = (1 : Int32)) ∨ (xm_z 64 = 3 ∧ ((1 : Int32)).toUInt32.toUInt16.toUInt32.toInt32 = (1 : Int32)))) 3 (fun n => rfl) (Or.inr (Or.inl ⟨rfl, by decide⟩))
  · rw [if_neg c1] at hG
    refine Ev.f (c := x0 = 114) (p1 := 6) (L1 := [.int x0, .int x1]) (s1 := []) (h1 := hh S) (p2 := 12) (L2 := [.int x0, .int x1]) (s2 := []) (h2 := hh S) 3 (fun n => B_64_10 n x0 x1 S) c1 ?_
    rcases h7 : G_65 S x0 with _ | ⟨v7, S7⟩
    · rw [h7] at hG; cases hG
    rw [h7] at hG
    dsimp only at hG
    refine Ev.c (a := 65) (A := [.int x0]) (h1 := hh S) (pc' := 17) (L' := [.int x0, .int x1]) (rest := [.int x1]) (r1 := some (.int v7)) (h2 := hh S7) 3 (fun n => B_64_11 n x0 x1 S) (Ev.up (by decide) (T_65 S x0 _ _ h7)) ?_
    show Ev X _ 64 17 [.int x0, .int x1] [.int v7, .int x1] (hh S7) _
    by_cases c8 : x1 < v7
    · rw [if_pos c8] at hG
      refine Ev.t (c := x1 < v7) (p1 := 32) (L1 := [.int x0, .int x1]) (s1 := []) (h1 := hh S7) (p2 := 20) (L2 := [.int x0, .int x1]) (s2 := []) (h2 := hh S7) 1 (fun n => B_64_12 n x0 x1 v7 S7) c8 ?_
      obtain ⟨e1, e2⟩ := Prod.mk.inj (Option.some.inj hG)
      subst e1
      subst e2
      exact Ev.rg (c := (xm_z 64 = 0 ∨ (xm_z 64 = 1 ∧ ((0 : Int32) = 0 ∨ (0 : Int32) = 1)) ∨ (xm_z 64 = 2 ∧ ((0 : Int32)).toInt8.toInt32 = (0 : Int32)) ∨ (xm_z 64 = 3 ∧ ((0 : Int32)).toUInt32.toUInt16.toUInt32.toInt32 = (0 : Int32)))) 2 (fun n => rfl) (Or.inr (Or.inl ⟨rfl, by decide⟩))
    · rw [if_neg c8] at hG
      refine Ev.f (c := x1 < v7) (p1 := 32) (L1 := [.int x0, .int x1]) (s1 := []) (h1 := hh S7) (p2 := 20) (L2 := [.int x0, .int x1]) (s2 := []) (h2 := hh S7) 1 (fun n => B_64_13 n x0 x1 v7 S7) c8 ?_
      rcases h9 : G_66 S7 x0 with _ | ⟨v9, S9⟩
      · rw [h9] at hG; cases hG
      rw [h9] at hG
      dsimp only at hG
      refine Ev.c (a := 66) (A := [.int x0]) (h1 := hh S7) (pc' := 25) (L' := [.int x0, .int x1]) (rest := [.int x1]) (r1 := some (.int v9)) (h2 := hh S9) 3 (fun n => B_64_14 n x0 x1 S7) (Ev.up (by decide) (T_66 S7 x0 _ _ h9)) ?_
      show Ev X _ 64 25 [.int x0, .int x1] [.int v9, .int x1] (hh S9) _
      by_cases c10 : v9 < x1
      · rw [if_pos c10] at hG
        refine Ev.t (c := v9 < x1) (p1 := 32) (L1 := [.int x0, .int x1]) (s1 := []) (h1 := hh S9) (p2 := 28) (L2 := [.int x0, .int x1]) (s2 := []) (h2 := hh S9) 1 (fun n => B_64_15 n x0 x1 v9 S9) c10 ?_
        obtain ⟨e1, e2⟩ := Prod.mk.inj (Option.some.inj hG)
        subst e1
        subst e2
        exact Ev.rg (c := (xm_z 64 = 0 ∨ (xm_z 64 = 1 ∧ ((0 : Int32) = 0 ∨ (0 : Int32) = 1)) ∨ (xm_z 64 = 2 ∧ ((0 : Int32)).toInt8.toInt32 = (0 : Int32)) ∨ (xm_z 64 = 3 ∧ ((0 : Int32)).toUInt32.toUInt16.toUInt32.toInt32 = (0 : Int32)))) 2 (fun n => rfl) (Or.inr (Or.inl ⟨rfl, by decide⟩))
      · rw [if_neg c10] at hG
        refine Ev.f (c := v9 < x1) (p1 := 32) (L1 := [.int x0, .int x1]) (s1 := []) (h1 := hh S9) (p2 := 28) (L2 := [.int x0, .int x1]) (s2 := []) (h2 := hh S9) 1 (fun n => B_64_16 n x0 x1 v9 S9) c10 ?_
        obtain ⟨e1, e2⟩ := Prod.mk.inj (Option.some.inj hG)
        subst e1
        subst e2
        exact Ev.rg (c := (xm_z 64 = 0 ∨ (xm_z 64 = 1 ∧ ((1 : Int32) = 0 ∨ (1 : Int32) = 1)) ∨ (xm_z 64 = 2 ∧ ((1 : Int32)).toInt8.toInt32 = (1 : Int32)) ∨ (xm_z 64 = 3 ∧ ((1 : Int32)).toUInt32.toUInt16.toUInt32.toInt32 = (1 : Int32)))) 3 (fun n => rfl) (Or.inr (Or.inl ⟨rfl, by decide⟩))
/-- 63: SceneCycle$LogicReader.testOperandsOf(I)Ljava/lang/String; -/
def G_63 (S : St) (x0 : Int32) : Option (Option Nat × St) :=
  (if x0 = 0 then
    some (some 2000, S)
  else
    (if x0 = 1 then
      some (some 2000, S)
    else
      (if x0 = 2 then
        some (some 2002, S)
      else
        (if x0 = 3 then
          some (some 2015, S)
        else
          (if x0 = 4 then
            some (some 2016, S)
          else
            (if x0 = 5 then
              some (some 2017, S)
            else
              some (some 2018, S)
            )
          )
        )
      )
    )
  )
theorem B_63_1 {X : Nat × (Nat → Int32)} {d : Nat} (n : Nat) (x0 : Int32) (S : St) : ex X d 63 0 [.int x0] [] (hh S) (n + 2) = xa_sw [(0, 40), (1, 40), (2, 43), (3, 46), (4, 49), (5, 52)] x0 55 (fun t => ex X d 63 t [.int x0] [] (hh S) n) := rfl
set_option maxRecDepth 200000 in
theorem T_63 {X : Nat × (Nat → Int32)} (S : St) (x0 : Int32) (r : Option Nat) (S' : St) (hG : G_63 S x0 = some (r, S')) : Ev X 0 63 0 [.int x0] [] (hh S) (xO r, hh S') := by
  unfold G_63 at hG
  refine Ev.sw (ks := [(0, 40), (1, 40), (2, 43), (3, 46), (4, 49), (5, 52)]) (x := x0) (df := 55) (L1 := [.int x0]) (s1 := []) (h1 := hh S) 2 (fun n => B_63_1 n x0 S) ?_
  by_cases c1 : x0 = 0
  · rw [if_pos c1] at hG
    rw [xa_sw, if_pos c1]
    show Ev X _ 63 40 [.int x0] [] (hh S) _
    obtain ⟨e1, e2⟩ := Prod.mk.inj (Option.some.inj hG)
    subst e1
    subst e2
    exact Ev.r 2 (fun n => rfl)
  rw [if_neg c1] at hG
  rw [xa_sw, if_neg c1]
  by_cases c2 : x0 = 1
  · rw [if_pos c2] at hG
    rw [xa_sw, if_pos c2]
    show Ev X _ 63 40 [.int x0] [] (hh S) _
    obtain ⟨e1, e2⟩ := Prod.mk.inj (Option.some.inj hG)
    subst e1
    subst e2
    exact Ev.r 2 (fun n => rfl)
  rw [if_neg c2] at hG
  rw [xa_sw, if_neg c2]
  by_cases c3 : x0 = 2
  · rw [if_pos c3] at hG
    rw [xa_sw, if_pos c3]
    show Ev X _ 63 43 [.int x0] [] (hh S) _
    obtain ⟨e1, e2⟩ := Prod.mk.inj (Option.some.inj hG)
    subst e1
    subst e2
    exact Ev.r 2 (fun n => rfl)
  rw [if_neg c3] at hG
  rw [xa_sw, if_neg c3]
  by_cases c4 : x0 = 3
  · rw [if_pos c4] at hG
    rw [xa_sw, if_pos c4]
    show Ev X _ 63 46 [.int x0] [] (hh S) _
    obtain ⟨e1, e2⟩ := Prod.mk.inj (Option.some.inj hG)
    subst e1
    subst e2
    exact Ev.r 2 (fun n => rfl)
  rw [if_neg c4] at hG
  rw [xa_sw, if_neg c4]
  by_cases c5 : x0 = 4
  · rw [if_pos c5] at hG
    rw [xa_sw, if_pos c5]
    show Ev X _ 63 49 [.int x0] [] (hh S) _
    obtain ⟨e1, e2⟩ := Prod.mk.inj (Option.some.inj hG)
    subst e1
    subst e2
    exact Ev.r 2 (fun n => rfl)
  rw [if_neg c5] at hG
  rw [xa_sw, if_neg c5]
  by_cases c6 : x0 = 5
  · rw [if_pos c6] at hG
    rw [xa_sw, if_pos c6]
    show Ev X _ 63 52 [.int x0] [] (hh S) _
    obtain ⟨e1, e2⟩ := Prod.mk.inj (Option.some.inj hG)
    subst e1
    subst e2
    exact Ev.r 2 (fun n => rfl)
  rw [if_neg c6] at hG
  rw [xa_sw, if_neg c6]
  rw [xa_sw]
  show Ev X _ 63 55 [.int x0] [] (hh S) _
  obtain ⟨e1, e2⟩ := Prod.mk.inj (Option.some.inj hG)
  subst e1
  subst e2
  exact Ev.r 2 (fun n => rfl)
/-- 73: SceneCycle$Runner.isAtEnd()Z -/
def G_73 (S : St)  : Option (Int32 × St) :=
  (match S.2.1 with
  | none =>
    some (1, S)
  | some a1 =>
    (if (kd a1).1 = 10 + 1 then
      (if (S.1 23 4) < (S.1 a1 1) then
        some (0, S)
      else
        some (1, S)
      )
    else none)
  )
theorem B_73_1 {X : Nat × (Nat → Int32)} {d : Nat} (n : Nat) (S : St) : ex X d 73 0 [.ref 23] [] (hh S) (n + 2) = ex X d 73 4 [.ref 23] [va_rf S.2.1] (hh S) n := rfl
theorem B_73_2 {X : Nat × (Nat → Int32)} {d : Nat} (n : Nat) (a1 : Nat) (S : St) : ex X d 73 4 [.ref 23] [.ref a1] (hh S) (n + 5) = ex X d 73 15 [.ref 23] [va_rf S.2.1, .int (S.1 23 4)] (hh S) n := rfl
theorem B_73_3 {X : Nat × (Nat → Int32)} {d : Nat} (n : Nat) (a1 : Nat) (S : St) : ex X d 73 15 [.ref 23] [.ref a1, .int (S.1 23 4)] (hh S) (n + 1) = if (kd a1).1 = 10 + 1 then ex X d 73 18 [.ref 23] [.int (S.1 a1 1), .int (S.1 23 4)] (hh S) n else none := rfl
theorem B_73_4 {X : Nat × (Nat → Int32)} {d : Nat} (n : Nat) (S : St) (a1 : Nat) : ex X d 73 18 [.ref 23] [.int (S.1 a1 1), .int (S.1 23 4)] (hh S) (n + 1) = if (S.1 23 4) < (S.1 a1 1) then ex X d 73 25 [.ref 23] [] (hh S) n else ex X d 73 21 [.ref 23] [] (hh S) n := rfl
theorem B_73_5 {X : Nat × (Nat → Int32)} {d : Nat} (n : Nat) (S : St) (a1 : Nat) : ex X d 73 18 [.ref 23] [.int (S.1 a1 1), .int (S.1 23 4)] (hh S) (n + 1) = if (S.1 23 4) < (S.1 a1 1) then ex X d 73 25 [.ref 23] [] (hh S) n else ex X d 73 21 [.ref 23] [] (hh S) n := rfl
set_option maxRecDepth 200000 in
theorem T_73 {X : Nat × (Nat → Int32)} (S : St)  (r : Int32) (S' : St) (hG : G_73 S  = some (r, S')) : Ev X 0 73 0 [.ref 23] [] (hh S) (xI r, hh S') := by
  unfold G_73 at hG
  refine Ev.b (pc' := 4) (L' := [.ref 23]) (st' := [va_rf S.2.1]) (h' := hh S) 2 (fun n => B_73_1 n S) ?_
  rcases o2 : S.2.1 with _ | a1
  · rw [o2] at hG
    dsimp only at hG
    try rw [o2]
    show Ev X _ 73 4 [.ref 23] [.null] (hh S) _
    obtain ⟨e1, e2⟩ := Prod.mk.inj (Option.some.inj hG)
    subst e1
    subst e2
    try rw [o2]
    exact Ev.rg (c := (xm_z 73 = 0 ∨ (xm_z 73 = 1 ∧ ((1 : Int32) = 0 ∨ (1 : Int32) = 1)) ∨ (xm_z 73 = 2 ∧ ((1 : Int32)).toInt8.toInt32 = (1 : Int32)) ∨ (xm_z 73 = 3 ∧ ((1 : Int32)).toUInt32.toUInt16.toUInt32.toInt32 = (1 : Int32)))) 4 (fun n => rfl) (Or.inr (Or.inl ⟨rfl, by decide⟩))
  · rw [o2] at hG
    dsimp only at hG
    try rw [o2]
    show Ev X _ 73 4 [.ref 23] [.ref a1] (hh S) _
    refine Ev.b (pc' := 15) (L' := [.ref 23]) (st' := [va_rf S.2.1, .int (S.1 23 4)]) (h' := hh S) 5 (fun n => B_73_2 n a1 S) ?_
    try rw [o2]
    show Ev X _ 73 15 [.ref 23] [.ref a1, .int (S.1 23 4)] (hh S) _
    by_cases g3 : (kd a1).1 = 10 + 1
    rotate_left
    · rw [if_neg g3] at hG; cases hG
    rw [if_pos g3] at hG
    refine Ev.g (c := (kd a1).1 = 10 + 1) (p1 := 18) (L1 := [.ref 23]) (s1 := [.int (S.1 a1 1), .int (S.1 23 4)]) (h1 := hh S) 1 (fun n => B_73_3 n a1 S) g3 ?_
    by_cases c4 : (S.1 23 4) < (S.1 a1 1)
    · rw [if_pos c4] at hG
      refine Ev.t (c := (S.1 23 4) < (S.1 a1 1)) (p1 := 25) (L1 := [.ref 23]) (s1 := []) (h1 := hh S) (p2 := 21) (L2 := [.ref 23]) (s2 := []) (h2 := hh S) 1 (fun n => B_73_4 n S a1) c4 ?_
      obtain ⟨e1, e2⟩ := Prod.mk.inj (Option.some.inj hG)
      subst e1
      subst e2
      try rw [o2]
      exact Ev.rg (c := (xm_z 73 = 0 ∨ (xm_z 73 = 1 ∧ ((0 : Int32) = 0 ∨ (0 : Int32) = 1)) ∨ (xm_z 73 = 2 ∧ ((0 : Int32)).toInt8.toInt32 = (0 : Int32)) ∨ (xm_z 73 = 3 ∧ ((0 : Int32)).toUInt32.toUInt16.toUInt32.toInt32 = (0 : Int32)))) 2 (fun n => rfl) (Or.inr (Or.inl ⟨rfl, by decide⟩))
    · rw [if_neg c4] at hG
      refine Ev.f (c := (S.1 23 4) < (S.1 a1 1)) (p1 := 25) (L1 := [.ref 23]) (s1 := []) (h1 := hh S) (p2 := 21) (L2 := [.ref 23]) (s2 := []) (h2 := hh S) 1 (fun n => B_73_5 n S a1) c4 ?_
      obtain ⟨e1, e2⟩ := Prod.mk.inj (Option.some.inj hG)
      subst e1
      subst e2
      try rw [o2]
      exact Ev.rg (c := (xm_z 73 = 0 ∨ (xm_z 73 = 1 ∧ ((1 : Int32) = 0 ∨ (1 : Int32) = 1)) ∨ (xm_z 73 = 2 ∧ ((1 : Int32)).toInt8.toInt32 = (1 : Int32)) ∨ (xm_z 73 = 3 ∧ ((1 : Int32)).toUInt32.toUInt16.toUInt32.toInt32 = (1 : Int32)))) 3 (fun n => rfl) (Or.inr (Or.inl ⟨rfl, by decide⟩))
/-- 74: SceneCycle$Runner.leave()V -/
def G_74 (S : St)  : Option (Unit × St) :=
  (if 0 < (S.1 23 2) then
    (if xa_in ((xa_u S.1 23 2 ((S.1 23 2) - 1)) 23 2) 4 then
      (match S.2.2 (((xa_u S.1 23 2 ((S.1 23 2) - 1)) 23 2)).toNatClampNeg with
      | none =>
        none
      | some a3 =>
        some ((), (xa_u (xa_u S.1 23 2 ((S.1 23 2) - 1)) 23 4 ((xa_u S.1 23 2 ((S.1 23 2) - 1)) 25 (((xa_u S.1 23 2 ((S.1 23 2) - 1)) 23 2)).toNatClampNeg), some a3, S.2.2))
      )
    else none)
  else
    some ((), (xa_u S.1 23 5 1, S.2.1, S.2.2))
  )
theorem B_74_1 {X : Nat × (Nat → Int32)} {d : Nat} (n : Nat) (S : St) : ex X d 74 0 [.ref 23] [] (hh S) (n + 3) = if 0 < (S.1 23 2) then ex X d 74 13 [.ref 23] [] (hh S) n else ex X d 74 7 [.ref 23] [] (hh S) n := rfl
theorem B_74_2 {X : Nat × (Nat → Int32)} {d : Nat} (n : Nat) (S : St) : ex X d 74 13 [.ref 23] [] (hh S) (n + 6) = if (kd 23).1 = 10 + 6 ∧ (xf_k 6 2 = 0 ∨ (xf_k 6 2 = 1 ∧ (((S.1 23 2) - 1) = 0 ∨ ((S.1 23 2) - 1) = 1))) then ex X d 74 23 [.ref 23] [] (hh (xa_u S.1 23 2 ((S.1 23 2) - 1), S.2.1, S.2.2)) n else none := rfl
theorem B_74_3 {X : Nat × (Nat → Int32)} {d : Nat} (n : Nat) (S : St) : ex X d 74 23 [.ref 23] [] (hh (xa_u S.1 23 2 ((S.1 23 2) - 1), S.2.1, S.2.2)) (n + 6) = if (2 ≤ (kd 24).1 ∧ (kd 24).1 < xo_n) ∧ xa_in ((xa_u S.1 23 2 ((S.1 23 2) - 1)) 23 2) (kd 24).2 then ex X d 74 33 [.ref 23] [va_rf (S.2.2 (((xa_u S.1 23 2 ((S.1 23 2) - 1)) 23 2)).toNatClampNeg), .ref 23] (hh (xa_u S.1 23 2 ((S.1 23 2) - 1), S.2.1, S.2.2)) n else none := rfl
theorem B_74_4 {X : Nat × (Nat → Int32)} {d : Nat} (n : Nat) (a3 : Nat) (S : St) : ex X d 74 33 [.ref 23] [.ref a3, .ref 23] (hh (xa_u S.1 23 2 ((S.1 23 2) - 1), S.2.1, S.2.2)) (n + 1) = ex X d 74 36 [.ref 23] [] ((xL_s, xL_n, xa_u S.1 23 2 ((S.1 23 2) - 1), xa_u (RC S.2.1 S.2.2) 23 3 (some a3))) n := rfl
theorem B_74_5 {X : Nat × (Nat → Int32)} {d : Nat} (n : Nat) (S : St) (a3 : Nat) : ex X d 74 36 [.ref 23] [] (hh (xa_u S.1 23 2 ((S.1 23 2) - 1), some a3, S.2.2)) (n + 6) = if (kd 25).1 = 0 ∧ xa_in ((xa_u S.1 23 2 ((S.1 23 2) - 1)) 23 2) (kd 25).2 then ex X d 74 46 [.ref 23] [.int ((xa_u S.1 23 2 ((S.1 23 2) - 1)) 25 (((xa_u S.1 23 2 ((S.1 23 2) - 1)) 23 2)).toNatClampNeg), .ref 23] (hh (xa_u S.1 23 2 ((S.1 23 2) - 1), some a3, S.2.2)) n else none := rfl
theorem B_74_6 {X : Nat × (Nat → Int32)} {d : Nat} (n : Nat) (S : St) (a3 : Nat) : ex X d 74 46 [.ref 23] [.int ((xa_u S.1 23 2 ((S.1 23 2) - 1)) 25 (((xa_u S.1 23 2 ((S.1 23 2) - 1)) 23 2)).toNatClampNeg), .ref 23] (hh (xa_u S.1 23 2 ((S.1 23 2) - 1), some a3, S.2.2)) (n + 1) = if (kd 23).1 = 10 + 6 ∧ (xf_k 6 4 = 0 ∨ (xf_k 6 4 = 1 ∧ (((xa_u S.1 23 2 ((S.1 23 2) - 1)) 25 (((xa_u S.1 23 2 ((S.1 23 2) - 1)) 23 2)).toNatClampNeg) = 0 ∨ ((xa_u S.1 23 2 ((S.1 23 2) - 1)) 25 (((xa_u S.1 23 2 ((S.1 23 2) - 1)) 23 2)).toNatClampNeg) = 1))) then ex X d 74 49 [.ref 23] [] (hh (xa_u (xa_u S.1 23 2 ((S.1 23 2) - 1)) 23 4 ((xa_u S.1 23 2 ((S.1 23 2) - 1)) 25 (((xa_u S.1 23 2 ((S.1 23 2) - 1)) 23 2)).toNatClampNeg), some a3, S.2.2)) n else none := rfl
theorem B_74_7 {X : Nat × (Nat → Int32)} {d : Nat} (n : Nat) (S : St) : ex X d 74 0 [.ref 23] [] (hh S) (n + 3) = if 0 < (S.1 23 2) then ex X d 74 13 [.ref 23] [] (hh S) n else ex X d 74 7 [.ref 23] [] (hh S) n := rfl
theorem B_74_8 {X : Nat × (Nat → Int32)} {d : Nat} (n : Nat) (S : St) : ex X d 74 7 [.ref 23] [] (hh S) (n + 3) = if (kd 23).1 = 10 + 6 ∧ (xf_k 6 5 = 0 ∨ (xf_k 6 5 = 1 ∧ ((1 : Int32) = 0 ∨ (1 : Int32) = 1))) then ex X d 74 12 [.ref 23] [] (hh (xa_u S.1 23 5 1, S.2.1, S.2.2)) n else none := rfl
set_option maxRecDepth 200000 in
theorem T_74 {X : Nat × (Nat → Int32)} (S : St)  (r : Unit) (S' : St) (hG : G_74 S  = some (r, S')) : Ev X 0 74 0 [.ref 23] [] (hh S) (xV r, hh S') := by
  unfold G_74 at hG
  by_cases c1 : 0 < (S.1 23 2)
  · rw [if_pos c1] at hG
    refine Ev.t (c := 0 < (S.1 23 2)) (p1 := 13) (L1 := [.ref 23]) (s1 := []) (h1 := hh S) (p2 := 7) (L2 := [.ref 23]) (s2 := []) (h2 := hh S) 3 (fun n => B_74_1 n S) c1 ?_
    refine Ev.g (c := (kd 23).1 = 10 + 6 ∧ (xf_k 6 2 = 0 ∨ (xf_k 6 2 = 1 ∧ (((S.1 23 2) - 1) = 0 ∨ ((S.1 23 2) - 1) = 1)))) (p1 := 23) (L1 := [.ref 23]) (s1 := []) (h1 := hh (xa_u S.1 23 2 ((S.1 23 2) - 1), S.2.1, S.2.2)) 6 (fun n => B_74_2 n S) (⟨rfl, Or.inl rfl⟩) ?_
    by_cases g2 : xa_in ((xa_u S.1 23 2 ((S.1 23 2) - 1)) 23 2) 4
    rotate_left
    · rw [if_neg g2] at hG; cases hG
    rw [if_pos g2] at hG
    refine Ev.g (c := (2 ≤ (kd 24).1 ∧ (kd 24).1 < xo_n) ∧ xa_in ((xa_u S.1 23 2 ((S.1 23 2) - 1)) 23 2) (kd 24).2) (p1 := 33) (L1 := [.ref 23]) (s1 := [va_rf (S.2.2 (((xa_u S.1 23 2 ((S.1 23 2) - 1)) 23 2)).toNatClampNeg), .ref 23]) (h1 := hh (xa_u S.1 23 2 ((S.1 23 2) - 1), S.2.1, S.2.2)) 6 (fun n => B_74_3 n S) ⟨⟨by decide, by decide⟩, g2⟩ ?_
    rcases o4 : S.2.2 (((xa_u S.1 23 2 ((S.1 23 2) - 1)) 23 2)).toNatClampNeg with _ | a3
    · rw [o4] at hG
      dsimp only at hG
      try rw [o4]
      show Ev X _ 74 33 [.ref 23] [.null, .ref 23] (hh (xa_u S.1 23 2 ((S.1 23 2) - 1), S.2.1, S.2.2)) _
      cases hG
    · rw [o4] at hG
      dsimp only at hG
      try rw [o4]
      show Ev X _ 74 33 [.ref 23] [.ref a3, .ref 23] (hh (xa_u S.1 23 2 ((S.1 23 2) - 1), S.2.1, S.2.2)) _
      refine Ev.b (pc' := 36) (L' := [.ref 23]) (st' := []) (h' := (xL_s, xL_n, xa_u S.1 23 2 ((S.1 23 2) - 1), xa_u (RC S.2.1 S.2.2) 23 3 (some a3))) 1 (fun n => B_74_4 n a3 S) ?_
      rw [RC_lg]
      show Ev X _ 74 36 [.ref 23] [] (hh (xa_u S.1 23 2 ((S.1 23 2) - 1), some a3, S.2.2)) _
      refine Ev.g (c := (kd 25).1 = 0 ∧ xa_in ((xa_u S.1 23 2 ((S.1 23 2) - 1)) 23 2) (kd 25).2) (p1 := 46) (L1 := [.ref 23]) (s1 := [.int ((xa_u S.1 23 2 ((S.1 23 2) - 1)) 25 (((xa_u S.1 23 2 ((S.1 23 2) - 1)) 23 2)).toNatClampNeg), .ref 23]) (h1 := hh (xa_u S.1 23 2 ((S.1 23 2) - 1), some a3, S.2.2)) 6 (fun n => B_74_5 n S a3) (⟨rfl, g2⟩) ?_
      refine Ev.g (c := (kd 23).1 = 10 + 6 ∧ (xf_k 6 4 = 0 ∨ (xf_k 6 4 = 1 ∧ (((xa_u S.1 23 2 ((S.1 23 2) - 1)) 25 (((xa_u S.1 23 2 ((S.1 23 2) - 1)) 23 2)).toNatClampNeg) = 0 ∨ ((xa_u S.1 23 2 ((S.1 23 2) - 1)) 25 (((xa_u S.1 23 2 ((S.1 23 2) - 1)) 23 2)).toNatClampNeg) = 1)))) (p1 := 49) (L1 := [.ref 23]) (s1 := []) (h1 := hh (xa_u (xa_u S.1 23 2 ((S.1 23 2) - 1)) 23 4 ((xa_u S.1 23 2 ((S.1 23 2) - 1)) 25 (((xa_u S.1 23 2 ((S.1 23 2) - 1)) 23 2)).toNatClampNeg), some a3, S.2.2)) 1 (fun n => B_74_6 n S a3) (⟨rfl, Or.inl rfl⟩) ?_
      obtain ⟨e1, e2⟩ := Prod.mk.inj (Option.some.inj hG)
      subst e1
      subst e2
      try rw [o4]
      exact Ev.r 1 (fun n => rfl)
  · rw [if_neg c1] at hG
    refine Ev.f (c := 0 < (S.1 23 2)) (p1 := 13) (L1 := [.ref 23]) (s1 := []) (h1 := hh S) (p2 := 7) (L2 := [.ref 23]) (s2 := []) (h2 := hh S) 3 (fun n => B_74_7 n S) c1 ?_
    refine Ev.g (c := (kd 23).1 = 10 + 6 ∧ (xf_k 6 5 = 0 ∨ (xf_k 6 5 = 1 ∧ ((1 : Int32) = 0 ∨ (1 : Int32) = 1)))) (p1 := 12) (L1 := [.ref 23]) (s1 := []) (h1 := hh (xa_u S.1 23 5 1, S.2.1, S.2.2)) 3 (fun n => B_74_8 n S) (⟨rfl, Or.inr ⟨rfl, by decide⟩⟩) ?_
    obtain ⟨e1, e2⟩ := Prod.mk.inj (Option.some.inj hG)
    subst e1
    subst e2
    exact Ev.r 1 (fun n => rfl)
/-- 76: SceneCycle$Runner.next()I -/
def G_76 (S : St)  : Option (Int32 × St) :=
  (match S.2.1 with
  | none =>
    some (0, (xa_u S.1 23 4 ((S.1 23 4) + 1), S.2.1, S.2.2))
  | some a1 =>
    (if (kd a1).1 = 10 + 1 then
      (match G_25 S a1 (S.1 23 4) with
      | none => none
      | some (v3, S3) =>
        some (v3, (xa_u S3.1 23 4 ((S3.1 23 4) + 1), S3.2.1, S3.2.2))
      )
    else none)
  )
theorem B_76_1 {X : Nat × (Nat → Int32)} {d : Nat} (n : Nat) (S : St) : ex X d 76 0 [.ref 23, .retAddr 0] [] (hh S) (n + 2) = ex X d 76 4 [.ref 23, .retAddr 0] [va_rf S.2.1] (hh S) n := rfl
theorem B_76_2 {X : Nat × (Nat → Int32)} {d : Nat} (n : Nat) (S : St) : ex X d 76 4 [.ref 23, .retAddr 0] [.null] (hh S) (n + 10) = if (kd 23).1 = 10 + 6 ∧ (xf_k 6 4 = 0 ∨ (xf_k 6 4 = 1 ∧ (((S.1 23 4) + 1) = 0 ∨ ((S.1 23 4) + 1) = 1))) then ex X d 76 33 [.ref 23, .int 0] [] (hh (xa_u S.1 23 4 ((S.1 23 4) + 1), S.2.1, S.2.2)) n else none := rfl
theorem B_76_3 {X : Nat × (Nat → Int32)} {d : Nat} (n : Nat) (a1 : Nat) (S : St) : ex X d 76 4 [.ref 23, .retAddr 0] [.ref a1] (hh S) (n + 3) = ex X d 76 15 [.ref 23, .retAddr 0] [va_rf S.2.1] (hh S) n := rfl
theorem B_76_4 {X : Nat × (Nat → Int32)} {d : Nat} (n : Nat) (a1 : Nat) (S : St) : ex X (d + 1) 76 15 [.ref 23, .retAddr 0] [.ref a1] (hh S) (n + 3) = if (xm_o 25 = 200 ∧ 2000 ≤ a1 ∧ a1 < 2000 + xS_n) ∨ (xm_o 25 ≠ 200 ∧ (kd a1).1 = 10 + xm_o 25) then (match ex X d 25 0 [.ref a1, .int (S.1 23 4)] [] (hh S) n with | some (v, h') => ex X (d + 1) 76 22 [.ref 23, .retAddr 0] (v.toList ++ []) h' n | none => none) else none := rfl
theorem B_76_5 {X : Nat × (Nat → Int32)} {d : Nat} (n : Nat) (v3 : Int32) (S3 : St) : ex X d 76 22 [.ref 23, .retAddr 0] [.int v3] (hh S3) (n + 7) = if (kd 23).1 = 10 + 6 ∧ (xf_k 6 4 = 0 ∨ (xf_k 6 4 = 1 ∧ (((S3.1 23 4) + 1) = 0 ∨ ((S3.1 23 4) + 1) = 1))) then ex X d 76 33 [.ref 23, .int v3] [] (hh (xa_u S3.1 23 4 ((S3.1 23 4) + 1), S3.2.1, S3.2.2)) n else none := rfl
set_option maxRecDepth 200000 in
theorem T_76 {X : Nat × (Nat → Int32)} (S : St)  (r : Int32) (S' : St) (hG : G_76 S  = some (r, S')) : Ev X 1 76 0 [.ref 23, .retAddr 0] [] (hh S) (xI r, hh S') := by
  unfold G_76 at hG
  refine Ev.b (pc' := 4) (L' := [.ref 23, .retAddr 0]) (st' := [va_rf S.2.1]) (h' := hh S) 2 (fun n => B_76_1 n S) ?_
  rcases o2 : S.2.1 with _ | a1
  · rw [o2] at hG
    dsimp only at hG
    try rw [o2]
    show Ev X _ 76 4 [.ref 23, .retAddr 0] [.null] (hh S) _
    refine Ev.g (c := (kd 23).1 = 10 + 6 ∧ (xf_k 6 4 = 0 ∨ (xf_k 6 4 = 1 ∧ (((S.1 23 4) + 1) = 0 ∨ ((S.1 23 4) + 1) = 1)))) (p1 := 33) (L1 := [.ref 23, .int 0]) (s1 := []) (h1 := hh (xa_u S.1 23 4 ((S.1 23 4) + 1), S.2.1, S.2.2)) 10 (fun n => B_76_2 n S) (⟨rfl, Or.inl rfl⟩) ?_
    obtain ⟨e1, e2⟩ := Prod.mk.inj (Option.some.inj hG)
    subst e1
    subst e2
    try rw [o2]
    exact Ev.r 2 (fun n => rfl)
  · rw [o2] at hG
    dsimp only at hG
    try rw [o2]
    show Ev X _ 76 4 [.ref 23, .retAddr 0] [.ref a1] (hh S) _
    refine Ev.b (pc' := 15) (L' := [.ref 23, .retAddr 0]) (st' := [va_rf S.2.1]) (h' := hh S) 3 (fun n => B_76_3 n a1 S) ?_
    try rw [o2]
    show Ev X _ 76 15 [.ref 23, .retAddr 0] [.ref a1] (hh S) _
    by_cases g4 : (kd a1).1 = 10 + 1
    rotate_left
    · rw [if_neg g4] at hG; cases hG
    rw [if_pos g4] at hG
    rcases h3 : G_25 S a1 (S.1 23 4) with _ | ⟨v3, S3⟩
    · rw [h3] at hG; cases hG
    rw [h3] at hG
    dsimp only at hG
    refine Ev.cg (c := (xm_o 25 = 200 ∧ 2000 ≤ a1 ∧ a1 < 2000 + xS_n) ∨ (xm_o 25 ≠ 200 ∧ (kd a1).1 = 10 + xm_o 25)) (a := 25) (A := [.ref a1, .int (S.1 23 4)]) (h1 := hh S) (pc' := 22) (L' := [.ref 23, .retAddr 0]) (rest := []) (r1 := some (.int v3)) (h2 := hh S3) 3 (fun n => B_76_4 n a1 S) (Or.inr ⟨by decide, g4⟩) (Ev.up (by decide) (T_25 S a1 (S.1 23 4) _ _ h3)) ?_
    show Ev X _ 76 22 [.ref 23, .retAddr 0] [.int v3] (hh S3) _
    refine Ev.g (c := (kd 23).1 = 10 + 6 ∧ (xf_k 6 4 = 0 ∨ (xf_k 6 4 = 1 ∧ (((S3.1 23 4) + 1) = 0 ∨ ((S3.1 23 4) + 1) = 1)))) (p1 := 33) (L1 := [.ref 23, .int v3]) (s1 := []) (h1 := hh (xa_u S3.1 23 4 ((S3.1 23 4) + 1), S3.2.1, S3.2.2)) 7 (fun n => B_76_5 n v3 S3) (⟨rfl, Or.inl rfl⟩) ?_
    obtain ⟨e1, e2⟩ := Prod.mk.inj (Option.some.inj hG)
    subst e1
    subst e2
    try rw [o2]
    exact Ev.r 2 (fun n => rfl)
