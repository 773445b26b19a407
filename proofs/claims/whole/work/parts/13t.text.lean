/-! String.length and String.charAt on the nineteen constants (printed by a program of ours) -/
def G_6 (S : St) (x0 : Nat) : Option (Int32 × St) := if 2000 ≤ x0 ∧ x0 < 2000 + xS_n then some (Int32.ofNat (xS_L.getD (x0 - 2000) 0), S) else none
def G_8 (S : St) (x0 : Nat) (x1 : Int32) : Option (Int32 × St) := if (2000 ≤ x0 ∧ x0 < 2000 + xS_n) ∧ xa_in x1 (xS_L.getD (x0 - 2000) 0) then some ((xS_B.getD (x0 - 2000) []).getD x1.toNatClampNeg 0, S) else none
theorem e168a {X : Nat × (Nat → Int32)} {h : xa_H} {i n : Int32} {v : Value} (hv : v = .null ∨ v = .ref 4000) (h0 : ¬ i < 0) (h1 : i < n) : Ev X 0 168 0 [.int i, .int n, v] [] h (xI i, h) := by
  refine Ev.f (c := i < 0) (p1 := 9) (L1 := [.int i, .int n, v]) (s1 := []) (h1 := h) (p2 := 4) (L2 := [.int i, .int n, v]) (s2 := []) (h2 := h) 2 (fun n => rfl) h0 ?_
  refine Ev.t (c := i < n) (p1 := 16) (L1 := [.int i, .int n, v]) (s1 := []) (h1 := h) (p2 := 9) (L2 := [.int i, .int n, v]) (s2 := []) (h2 := h) 3 (fun n => rfl) h1 ?_
  exact Ev.r 2 (fun n => rfl)
theorem e167 {X : Nat × (Nat → Int32)} {h : xa_H} {i n : Int32} (h0 : ¬ i < 0) (h1 : i < n) : Ev X 1 167 0 [.int i, .int n] [] h (none, h) := by
  refine Ev.i (c := X.2 1000000000 = 0) (p1 := 5) (L1 := [.int i, .int n]) (s1 := [.null, .int n, .int i]) (h1 := h) (p2 := 5) (L2 := [.int i, .int n]) (s2 := [.ref 4000, .int n, .int i]) (h2 := h) 3 (fun n => rfl) (fun _ => ?_) (fun _ => ?_)
  · refine Ev.c (a := 168) (A := [.int i, .int n, .null]) (h1 := h) (pc' := 8) (L' := [.int i, .int n]) (rest := []) (r1 := xI i) (h2 := h) 1 (fun n => rfl) (e168a (Or.inl rfl) h0 h1) ?_
    exact Ev.r 2 (fun n => rfl)
  · refine Ev.c (a := 168) (A := [.int i, .int n, .ref 4000]) (h1 := h) (pc' := 8) (L' := [.int i, .int n]) (rest := []) (r1 := xI i) (h2 := h) 1 (fun n => rfl) (e168a (Or.inr rfl) h0 h1) ?_
    exact Ev.r 2 (fun n => rfl)
theorem s6_0 {X : Nat × (Nat → Int32)} (S : St) : Ev X 2 6 0 [.ref 2000] [] (hh S) (xI (Int32.ofNat 2), hh S) := ⟨20, rfl⟩
theorem s8_0_0 {X : Nat × (Nat → Int32)} (S : St) : Ev X 3 8 0 [.ref 2000, .int (nI 0)] [] (hh S) (xI 118, hh S) := by
  refine Ev.c (a := 9) (A := [.ref 2000]) (h1 := hh S) (pc' := 4) (L' := [.ref 2000, .int (nI 0)]) (rest := []) (r1 := xI 1) (h2 := hh S) 2 (fun n => rfl) ⟨20, rfl⟩ ?_
  refine Ev.c (a := 10) (A := [.ref 3000, .int (nI 0)]) (h1 := hh S) (pc' := 15) (L' := [.ref 2000, .int (nI 0)]) (rest := []) (r1 := xI 118) (h2 := hh S) 5 (fun n => rfl) ?_ (Ev.r 1 (fun n => rfl))
  refine Ev.c (a := 167) (A := [.int (nI 0), .int (Int32.ofNat 2)]) (h1 := hh S) (pc' := 6) (L' := [.ref 3000, .int (nI 0)]) (rest := []) (r1 := none) (h2 := hh S) 4 (fun n => rfl) (e167 (by decide) (by decide)) ?_
  exact Ev.r 7 (fun n => rfl)
theorem s8_0_1 {X : Nat × (Nat → Int32)} (S : St) : Ev X 3 8 0 [.ref 2000, .int (nI 1)] [] (hh S) (xI 110, hh S) := by
  refine Ev.c (a := 9) (A := [.ref 2000]) (h1 := hh S) (pc' := 4) (L' := [.ref 2000, .int (nI 1)]) (rest := []) (r1 := xI 1) (h2 := hh S) 2 (fun n => rfl) ⟨20, rfl⟩ ?_
  refine Ev.c (a := 10) (A := [.ref 3000, .int (nI 1)]) (h1 := hh S) (pc' := 15) (L' := [.ref 2000, .int (nI 1)]) (rest := []) (r1 := xI 110) (h2 := hh S) 5 (fun n => rfl) ?_ (Ev.r 1 (fun n => rfl))
  refine Ev.c (a := 167) (A := [.int (nI 1), .int (Int32.ofNat 2)]) (h1 := hh S) (pc' := 6) (L' := [.ref 3000, .int (nI 1)]) (rest := []) (r1 := none) (h2 := hh S) 4 (fun n => rfl) (e167 (by decide) (by decide)) ?_
  exact Ev.r 7 (fun n => rfl)
theorem s6_1 {X : Nat × (Nat → Int32)} (S : St) : Ev X 2 6 0 [.ref 2001] [] (hh S) (xI (Int32.ofNat 2), hh S) := ⟨20, rfl⟩
theorem s8_1_0 {X : Nat × (Nat → Int32)} (S : St) : Ev X 3 8 0 [.ref 2001, .int (nI 0)] [] (hh S) (xI 118, hh S) := by
  refine Ev.c (a := 9) (A := [.ref 2001]) (h1 := hh S) (pc' := 4) (L' := [.ref 2001, .int (nI 0)]) (rest := []) (r1 := xI 1) (h2 := hh S) 2 (fun n => rfl) ⟨20, rfl⟩ ?_
  refine Ev.c (a := 10) (A := [.ref 3001, .int (nI 0)]) (h1 := hh S) (pc' := 15) (L' := [.ref 2001, .int (nI 0)]) (rest := []) (r1 := xI 118) (h2 := hh S) 5 (fun n => rfl) ?_ (Ev.r 1 (fun n => rfl))
  refine Ev.c (a := 167) (A := [.int (nI 0), .int (Int32.ofNat 2)]) (h1 := hh S) (pc' := 6) (L' := [.ref 3001, .int (nI 0)]) (rest := []) (r1 := none) (h2 := hh S) 4 (fun n => rfl) (e167 (by decide) (by decide)) ?_
  exact Ev.r 7 (fun n => rfl)
theorem s8_1_1 {X : Nat × (Nat → Int32)} (S : St) : Ev X 3 8 0 [.ref 2001, .int (nI 1)] [] (hh S) (xI 118, hh S) := by
  refine Ev.c (a := 9) (A := [.ref 2001]) (h1 := hh S) (pc' := 4) (L' := [.ref 2001, .int (nI 1)]) (rest := []) (r1 := xI 1) (h2 := hh S) 2 (fun n => rfl) ⟨20, rfl⟩ ?_
  refine Ev.c (a := 10) (A := [.ref 3001, .int (nI 1)]) (h1 := hh S) (pc' := 15) (L' := [.ref 2001, .int (nI 1)]) (rest := []) (r1 := xI 118) (h2 := hh S) 5 (fun n => rfl) ?_ (Ev.r 1 (fun n => rfl))
  refine Ev.c (a := 167) (A := [.int (nI 1), .int (Int32.ofNat 2)]) (h1 := hh S) (pc' := 6) (L' := [.ref 3001, .int (nI 1)]) (rest := []) (r1 := none) (h2 := hh S) 4 (fun n => rfl) (e167 (by decide) (by decide)) ?_
  exact Ev.r 7 (fun n => rfl)
theorem s6_2 {X : Nat × (Nat → Int32)} (S : St) : Ev X 2 6 0 [.ref 2002] [] (hh S) (xI (Int32.ofNat 1), hh S) := ⟨20, rfl⟩
theorem s8_2_0 {X : Nat × (Nat → Int32)} (S : St) : Ev X 3 8 0 [.ref 2002, .int (nI 0)] [] (hh S) (xI 102, hh S) := by
  refine Ev.c (a := 9) (A := [.ref 2002]) (h1 := hh S) (pc' := 4) (L' := [.ref 2002, .int (nI 0)]) (rest := []) (r1 := xI 1) (h2 := hh S) 2 (fun n => rfl) ⟨20, rfl⟩ ?_
  refine Ev.c (a := 10) (A := [.ref 3002, .int (nI 0)]) (h1 := hh S) (pc' := 15) (L' := [.ref 2002, .int (nI 0)]) (rest := []) (r1 := xI 102) (h2 := hh S) 5 (fun n => rfl) ?_ (Ev.r 1 (fun n => rfl))
  refine Ev.c (a := 167) (A := [.int (nI 0), .int (Int32.ofNat 1)]) (h1 := hh S) (pc' := 6) (L' := [.ref 3002, .int (nI 0)]) (rest := []) (r1 := none) (h2 := hh S) 4 (fun n => rfl) (e167 (by decide) (by decide)) ?_
  exact Ev.r 7 (fun n => rfl)
theorem s6_3 {X : Nat × (Nat → Int32)} (S : St) : Ev X 2 6 0 [.ref 2003] [] (hh S) (xI (Int32.ofNat 1), hh S) := ⟨20, rfl⟩
theorem s8_3_0 {X : Nat × (Nat → Int32)} (S : St) : Ev X 3 8 0 [.ref 2003, .int (nI 0)] [] (hh S) (xI 107, hh S) := by
  refine Ev.c (a := 9) (A := [.ref 2003]) (h1 := hh S) (pc' := 4) (L' := [.ref 2003, .int (nI 0)]) (rest := []) (r1 := xI 1) (h2 := hh S) 2 (fun n => rfl) ⟨20, rfl⟩ ?_
  refine Ev.c (a := 10) (A := [.ref 3003, .int (nI 0)]) (h1 := hh S) (pc' := 15) (L' := [.ref 2003, .int (nI 0)]) (rest := []) (r1 := xI 107) (h2 := hh S) 5 (fun n => rfl) ?_ (Ev.r 1 (fun n => rfl))
  refine Ev.c (a := 167) (A := [.int (nI 0), .int (Int32.ofNat 1)]) (h1 := hh S) (pc' := 6) (L' := [.ref 3003, .int (nI 0)]) (rest := []) (r1 := none) (h2 := hh S) 4 (fun n => rfl) (e167 (by decide) (by decide)) ?_
  exact Ev.r 7 (fun n => rfl)
theorem s6_4 {X : Nat × (Nat → Int32)} (S : St) : Ev X 2 6 0 [.ref 2004] [] (hh S) (xI (Int32.ofNat 1), hh S) := ⟨20, rfl⟩
theorem s8_4_0 {X : Nat × (Nat → Int32)} (S : St) : Ev X 3 8 0 [.ref 2004, .int (nI 0)] [] (hh S) (xI 110, hh S) := by
  refine Ev.c (a := 9) (A := [.ref 2004]) (h1 := hh S) (pc' := 4) (L' := [.ref 2004, .int (nI 0)]) (rest := []) (r1 := xI 1) (h2 := hh S) 2 (fun n => rfl) ⟨20, rfl⟩ ?_
  refine Ev.c (a := 10) (A := [.ref 3004, .int (nI 0)]) (h1 := hh S) (pc' := 15) (L' := [.ref 2004, .int (nI 0)]) (rest := []) (r1 := xI 110) (h2 := hh S) 5 (fun n => rfl) ?_ (Ev.r 1 (fun n => rfl))
  refine Ev.c (a := 167) (A := [.int (nI 0), .int (Int32.ofNat 1)]) (h1 := hh S) (pc' := 6) (L' := [.ref 3004, .int (nI 0)]) (rest := []) (r1 := none) (h2 := hh S) 4 (fun n => rfl) (e167 (by decide) (by decide)) ?_
  exact Ev.r 7 (fun n => rfl)
theorem s6_5 {X : Nat × (Nat → Int32)} (S : St) : Ev X 2 6 0 [.ref 2005] [] (hh S) (xI (Int32.ofNat 2), hh S) := ⟨20, rfl⟩
theorem s8_5_0 {X : Nat × (Nat → Int32)} (S : St) : Ev X 3 8 0 [.ref 2005, .int (nI 0)] [] (hh S) (xI 116, hh S) := by
  refine Ev.c (a := 9) (A := [.ref 2005]) (h1 := hh S) (pc' := 4) (L' := [.ref 2005, .int (nI 0)]) (rest := []) (r1 := xI 1) (h2 := hh S) 2 (fun n => rfl) ⟨20, rfl⟩ ?_
  refine Ev.c (a := 10) (A := [.ref 3005, .int (nI 0)]) (h1 := hh S) (pc' := 15) (L' := [.ref 2005, .int (nI 0)]) (rest := []) (r1 := xI 116) (h2 := hh S) 5 (fun n => rfl) ?_ (Ev.r 1 (fun n => rfl))
  refine Ev.c (a := 167) (A := [.int (nI 0), .int (Int32.ofNat 2)]) (h1 := hh S) (pc' := 6) (L' := [.ref 3005, .int (nI 0)]) (rest := []) (r1 := none) (h2 := hh S) 4 (fun n => rfl) (e167 (by decide) (by decide)) ?_
  exact Ev.r 7 (fun n => rfl)
theorem s8_5_1 {X : Nat × (Nat → Int32)} (S : St) : Ev X 3 8 0 [.ref 2005, .int (nI 1)] [] (hh S) (xI 110, hh S) := by
  refine Ev.c (a := 9) (A := [.ref 2005]) (h1 := hh S) (pc' := 4) (L' := [.ref 2005, .int (nI 1)]) (rest := []) (r1 := xI 1) (h2 := hh S) 2 (fun n => rfl) ⟨20, rfl⟩ ?_
  refine Ev.c (a := 10) (A := [.ref 3005, .int (nI 1)]) (h1 := hh S) (pc' := 15) (L' := [.ref 2005, .int (nI 1)]) (rest := []) (r1 := xI 110) (h2 := hh S) 5 (fun n => rfl) ?_ (Ev.r 1 (fun n => rfl))
  refine Ev.c (a := 167) (A := [.int (nI 1), .int (Int32.ofNat 2)]) (h1 := hh S) (pc' := 6) (L' := [.ref 3005, .int (nI 1)]) (rest := []) (r1 := none) (h2 := hh S) 4 (fun n => rfl) (e167 (by decide) (by decide)) ?_
  exact Ev.r 7 (fun n => rfl)
theorem s6_6 {X : Nat × (Nat → Int32)} (S : St) : Ev X 2 6 0 [.ref 2006] [] (hh S) (xI (Int32.ofNat 3), hh S) := ⟨20, rfl⟩
theorem s8_6_0 {X : Nat × (Nat → Int32)} (S : St) : Ev X 3 8 0 [.ref 2006, .int (nI 0)] [] (hh S) (xI 111, hh S) := by
  refine Ev.c (a := 9) (A := [.ref 2006]) (h1 := hh S) (pc' := 4) (L' := [.ref 2006, .int (nI 0)]) (rest := []) (r1 := xI 1) (h2 := hh S) 2 (fun n => rfl) ⟨20, rfl⟩ ?_
  refine Ev.c (a := 10) (A := [.ref 3006, .int (nI 0)]) (h1 := hh S) (pc' := 15) (L' := [.ref 2006, .int (nI 0)]) (rest := []) (r1 := xI 111) (h2 := hh S) 5 (fun n => rfl) ?_ (Ev.r 1 (fun n => rfl))
  refine Ev.c (a := 167) (A := [.int (nI 0), .int (Int32.ofNat 3)]) (h1 := hh S) (pc' := 6) (L' := [.ref 3006, .int (nI 0)]) (rest := []) (r1 := none) (h2 := hh S) 4 (fun n => rfl) (e167 (by decide) (by decide)) ?_
  exact Ev.r 7 (fun n => rfl)
theorem s8_6_1 {X : Nat × (Nat → Int32)} (S : St) : Ev X 3 8 0 [.ref 2006, .int (nI 1)] [] (hh S) (xI 120, hh S) := by
  refine Ev.c (a := 9) (A := [.ref 2006]) (h1 := hh S) (pc' := 4) (L' := [.ref 2006, .int (nI 1)]) (rest := []) (r1 := xI 1) (h2 := hh S) 2 (fun n => rfl) ⟨20, rfl⟩ ?_
  refine Ev.c (a := 10) (A := [.ref 3006, .int (nI 1)]) (h1 := hh S) (pc' := 15) (L' := [.ref 2006, .int (nI 1)]) (rest := []) (r1 := xI 120) (h2 := hh S) 5 (fun n => rfl) ?_ (Ev.r 1 (fun n => rfl))
  refine Ev.c (a := 167) (A := [.int (nI 1), .int (Int32.ofNat 3)]) (h1 := hh S) (pc' := 6) (L' := [.ref 3006, .int (nI 1)]) (rest := []) (r1 := none) (h2 := hh S) 4 (fun n => rfl) (e167 (by decide) (by decide)) ?_
  exact Ev.r 7 (fun n => rfl)
theorem s8_6_2 {X : Nat × (Nat → Int32)} (S : St) : Ev X 3 8 0 [.ref 2006, .int (nI 2)] [] (hh S) (xI 121, hh S) := by
  refine Ev.c (a := 9) (A := [.ref 2006]) (h1 := hh S) (pc' := 4) (L' := [.ref 2006, .int (nI 2)]) (rest := []) (r1 := xI 1) (h2 := hh S) 2 (fun n => rfl) ⟨20, rfl⟩ ?_
  refine Ev.c (a := 10) (A := [.ref 3006, .int (nI 2)]) (h1 := hh S) (pc' := 15) (L' := [.ref 2006, .int (nI 2)]) (rest := []) (r1 := xI 121) (h2 := hh S) 5 (fun n => rfl) ?_ (Ev.r 1 (fun n => rfl))
  refine Ev.c (a := 167) (A := [.int (nI 2), .int (Int32.ofNat 3)]) (h1 := hh S) (pc' := 6) (L' := [.ref 3006, .int (nI 2)]) (rest := []) (r1 := none) (h2 := hh S) 4 (fun n => rfl) (e167 (by decide) (by decide)) ?_
  exact Ev.r 7 (fun n => rfl)
theorem s6_7 {X : Nat × (Nat → Int32)} (S : St) : Ev X 2 6 0 [.ref 2007] [] (hh S) (xI (Int32.ofNat 1), hh S) := ⟨20, rfl⟩
theorem s8_7_0 {X : Nat × (Nat → Int32)} (S : St) : Ev X 3 8 0 [.ref 2007, .int (nI 0)] [] (hh S) (xI 111, hh S) := by
  refine Ev.c (a := 9) (A := [.ref 2007]) (h1 := hh S) (pc' := 4) (L' := [.ref 2007, .int (nI 0)]) (rest := []) (r1 := xI 1) (h2 := hh S) 2 (fun n => rfl) ⟨20, rfl⟩ ?_
  refine Ev.c (a := 10) (A := [.ref 3007, .int (nI 0)]) (h1 := hh S) (pc' := 15) (L' := [.ref 2007, .int (nI 0)]) (rest := []) (r1 := xI 111) (h2 := hh S) 5 (fun n => rfl) ?_ (Ev.r 1 (fun n => rfl))
  refine Ev.c (a := 167) (A := [.int (nI 0), .int (Int32.ofNat 1)]) (h1 := hh S) (pc' := 6) (L' := [.ref 3007, .int (nI 0)]) (rest := []) (r1 := none) (h2 := hh S) 4 (fun n => rfl) (e167 (by decide) (by decide)) ?_
  exact Ev.r 7 (fun n => rfl)
theorem s6_8 {X : Nat × (Nat → Int32)} (S : St) : Ev X 2 6 0 [.ref 2008] [] (hh S) (xI (Int32.ofNat 3), hh S) := ⟨20, rfl⟩
theorem s8_8_0 {X : Nat × (Nat → Int32)} (S : St) : Ev X 3 8 0 [.ref 2008, .int (nI 0)] [] (hh S) (xI 111, hh S) := by
  refine Ev.c (a := 9) (A := [.ref 2008]) (h1 := hh S) (pc' := 4) (L' := [.ref 2008, .int (nI 0)]) (rest := []) (r1 := xI 1) (h2 := hh S) 2 (fun n => rfl) ⟨20, rfl⟩ ?_
  refine Ev.c (a := 10) (A := [.ref 3008, .int (nI 0)]) (h1 := hh S) (pc' := 15) (L' := [.ref 2008, .int (nI 0)]) (rest := []) (r1 := xI 111) (h2 := hh S) 5 (fun n => rfl) ?_ (Ev.r 1 (fun n => rfl))
  refine Ev.c (a := 167) (A := [.int (nI 0), .int (Int32.ofNat 3)]) (h1 := hh S) (pc' := 6) (L' := [.ref 3008, .int (nI 0)]) (rest := []) (r1 := none) (h2 := hh S) 4 (fun n => rfl) (e167 (by decide) (by decide)) ?_
  exact Ev.r 7 (fun n => rfl)
theorem s8_8_1 {X : Nat × (Nat → Int32)} (S : St) : Ev X 3 8 0 [.ref 2008, .int (nI 1)] [] (hh S) (xI 115, hh S) := by
  refine Ev.c (a := 9) (A := [.ref 2008]) (h1 := hh S) (pc' := 4) (L' := [.ref 2008, .int (nI 1)]) (rest := []) (r1 := xI 1) (h2 := hh S) 2 (fun n => rfl) ⟨20, rfl⟩ ?_
  refine Ev.c (a := 10) (A := [.ref 3008, .int (nI 1)]) (h1 := hh S) (pc' := 15) (L' := [.ref 2008, .int (nI 1)]) (rest := []) (r1 := xI 115) (h2 := hh S) 5 (fun n => rfl) ?_ (Ev.r 1 (fun n => rfl))
  refine Ev.c (a := 167) (A := [.int (nI 1), .int (Int32.ofNat 3)]) (h1 := hh S) (pc' := 6) (L' := [.ref 3008, .int (nI 1)]) (rest := []) (r1 := none) (h2 := hh S) 4 (fun n => rfl) (e167 (by decide) (by decide)) ?_
  exact Ev.r 7 (fun n => rfl)
theorem s8_8_2 {X : Nat × (Nat → Int32)} (S : St) : Ev X 3 8 0 [.ref 2008, .int (nI 2)] [] (hh S) (xI 115, hh S) := by
  refine Ev.c (a := 9) (A := [.ref 2008]) (h1 := hh S) (pc' := 4) (L' := [.ref 2008, .int (nI 2)]) (rest := []) (r1 := xI 1) (h2 := hh S) 2 (fun n => rfl) ⟨20, rfl⟩ ?_
  refine Ev.c (a := 10) (A := [.ref 3008, .int (nI 2)]) (h1 := hh S) (pc' := 15) (L' := [.ref 2008, .int (nI 2)]) (rest := []) (r1 := xI 115) (h2 := hh S) 5 (fun n => rfl) ?_ (Ev.r 1 (fun n => rfl))
  refine Ev.c (a := 167) (A := [.int (nI 2), .int (Int32.ofNat 3)]) (h1 := hh S) (pc' := 6) (L' := [.ref 3008, .int (nI 2)]) (rest := []) (r1 := none) (h2 := hh S) 4 (fun n => rfl) (e167 (by decide) (by decide)) ?_
  exact Ev.r 7 (fun n => rfl)
theorem s6_9 {X : Nat × (Nat → Int32)} (S : St) : Ev X 2 6 0 [.ref 2009] [] (hh S) (xI (Int32.ofNat 2), hh S) := ⟨20, rfl⟩
theorem s8_9_0 {X : Nat × (Nat → Int32)} (S : St) : Ev X 3 8 0 [.ref 2009, .int (nI 0)] [] (hh S) (xI 111, hh S) := by
  refine Ev.c (a := 9) (A := [.ref 2009]) (h1 := hh S) (pc' := 4) (L' := [.ref 2009, .int (nI 0)]) (rest := []) (r1 := xI 1) (h2 := hh S) 2 (fun n => rfl) ⟨20, rfl⟩ ?_
  refine Ev.c (a := 10) (A := [.ref 3009, .int (nI 0)]) (h1 := hh S) (pc' := 15) (L' := [.ref 2009, .int (nI 0)]) (rest := []) (r1 := xI 111) (h2 := hh S) 5 (fun n => rfl) ?_ (Ev.r 1 (fun n => rfl))
  refine Ev.c (a := 167) (A := [.int (nI 0), .int (Int32.ofNat 2)]) (h1 := hh S) (pc' := 6) (L' := [.ref 3009, .int (nI 0)]) (rest := []) (r1 := none) (h2 := hh S) 4 (fun n => rfl) (e167 (by decide) (by decide)) ?_
  exact Ev.r 7 (fun n => rfl)
theorem s8_9_1 {X : Nat × (Nat → Int32)} (S : St) : Ev X 3 8 0 [.ref 2009, .int (nI 1)] [] (hh S) (xI 100, hh S) := by
  refine Ev.c (a := 9) (A := [.ref 2009]) (h1 := hh S) (pc' := 4) (L' := [.ref 2009, .int (nI 1)]) (rest := []) (r1 := xI 1) (h2 := hh S) 2 (fun n => rfl) ⟨20, rfl⟩ ?_
  refine Ev.c (a := 10) (A := [.ref 3009, .int (nI 1)]) (h1 := hh S) (pc' := 15) (L' := [.ref 2009, .int (nI 1)]) (rest := []) (r1 := xI 100) (h2 := hh S) 5 (fun n => rfl) ?_ (Ev.r 1 (fun n => rfl))
  refine Ev.c (a := 167) (A := [.int (nI 1), .int (Int32.ofNat 2)]) (h1 := hh S) (pc' := 6) (L' := [.ref 3009, .int (nI 1)]) (rest := []) (r1 := none) (h2 := hh S) 4 (fun n => rfl) (e167 (by decide) (by decide)) ?_
  exact Ev.r 7 (fun n => rfl)
theorem s6_10 {X : Nat × (Nat → Int32)} (S : St) : Ev X 2 6 0 [.ref 2010] [] (hh S) (xI (Int32.ofNat 4), hh S) := ⟨20, rfl⟩
theorem s8_10_0 {X : Nat × (Nat → Int32)} (S : St) : Ev X 3 8 0 [.ref 2010, .int (nI 0)] [] (hh S) (xI 111, hh S) := by
  refine Ev.c (a := 9) (A := [.ref 2010]) (h1 := hh S) (pc' := 4) (L' := [.ref 2010, .int (nI 0)]) (rest := []) (r1 := xI 1) (h2 := hh S) 2 (fun n => rfl) ⟨20, rfl⟩ ?_
  refine Ev.c (a := 10) (A := [.ref 3010, .int (nI 0)]) (h1 := hh S) (pc' := 15) (L' := [.ref 2010, .int (nI 0)]) (rest := []) (r1 := xI 111) (h2 := hh S) 5 (fun n => rfl) ?_ (Ev.r 1 (fun n => rfl))
  refine Ev.c (a := 167) (A := [.int (nI 0), .int (Int32.ofNat 4)]) (h1 := hh S) (pc' := 6) (L' := [.ref 3010, .int (nI 0)]) (rest := []) (r1 := none) (h2 := hh S) 4 (fun n => rfl) (e167 (by decide) (by decide)) ?_
  exact Ev.r 7 (fun n => rfl)
theorem s8_10_1 {X : Nat × (Nat → Int32)} (S : St) : Ev X 3 8 0 [.ref 2010, .int (nI 1)] [] (hh S) (xI 120, hh S) := by
  refine Ev.c (a := 9) (A := [.ref 2010]) (h1 := hh S) (pc' := 4) (L' := [.ref 2010, .int (nI 1)]) (rest := []) (r1 := xI 1) (h2 := hh S) 2 (fun n => rfl) ⟨20, rfl⟩ ?_
  refine Ev.c (a := 10) (A := [.ref 3010, .int (nI 1)]) (h1 := hh S) (pc' := 15) (L' := [.ref 2010, .int (nI 1)]) (rest := []) (r1 := xI 120) (h2 := hh S) 5 (fun n => rfl) ?_ (Ev.r 1 (fun n => rfl))
  refine Ev.c (a := 167) (A := [.int (nI 1), .int (Int32.ofNat 4)]) (h1 := hh S) (pc' := 6) (L' := [.ref 3010, .int (nI 1)]) (rest := []) (r1 := none) (h2 := hh S) 4 (fun n => rfl) (e167 (by decide) (by decide)) ?_
  exact Ev.r 7 (fun n => rfl)
theorem s8_10_2 {X : Nat × (Nat → Int32)} (S : St) : Ev X 3 8 0 [.ref 2010, .int (nI 2)] [] (hh S) (xI 121, hh S) := by
  refine Ev.c (a := 9) (A := [.ref 2010]) (h1 := hh S) (pc' := 4) (L' := [.ref 2010, .int (nI 2)]) (rest := []) (r1 := xI 1) (h2 := hh S) 2 (fun n => rfl) ⟨20, rfl⟩ ?_
  refine Ev.c (a := 10) (A := [.ref 3010, .int (nI 2)]) (h1 := hh S) (pc' := 15) (L' := [.ref 2010, .int (nI 2)]) (rest := []) (r1 := xI 121) (h2 := hh S) 5 (fun n => rfl) ?_ (Ev.r 1 (fun n => rfl))
  refine Ev.c (a := 167) (A := [.int (nI 2), .int (Int32.ofNat 4)]) (h1 := hh S) (pc' := 6) (L' := [.ref 3010, .int (nI 2)]) (rest := []) (r1 := none) (h2 := hh S) 4 (fun n => rfl) (e167 (by decide) (by decide)) ?_
  exact Ev.r 7 (fun n => rfl)
theorem s8_10_3 {X : Nat × (Nat → Int32)} (S : St) : Ev X 3 8 0 [.ref 2010, .int (nI 3)] [] (hh S) (xI 102, hh S) := by
  refine Ev.c (a := 9) (A := [.ref 2010]) (h1 := hh S) (pc' := 4) (L' := [.ref 2010, .int (nI 3)]) (rest := []) (r1 := xI 1) (h2 := hh S) 2 (fun n => rfl) ⟨20, rfl⟩ ?_
  refine Ev.c (a := 10) (A := [.ref 3010, .int (nI 3)]) (h1 := hh S) (pc' := 15) (L' := [.ref 2010, .int (nI 3)]) (rest := []) (r1 := xI 102) (h2 := hh S) 5 (fun n => rfl) ?_ (Ev.r 1 (fun n => rfl))
  refine Ev.c (a := 167) (A := [.int (nI 3), .int (Int32.ofNat 4)]) (h1 := hh S) (pc' := 6) (L' := [.ref 3010, .int (nI 3)]) (rest := []) (r1 := none) (h2 := hh S) 4 (fun n => rfl) (e167 (by decide) (by decide)) ?_
  exact Ev.r 7 (fun n => rfl)
theorem s6_11 {X : Nat × (Nat → Int32)} (S : St) : Ev X 2 6 0 [.ref 2011] [] (hh S) (xI (Int32.ofNat 2), hh S) := ⟨20, rfl⟩
theorem s8_11_0 {X : Nat × (Nat → Int32)} (S : St) : Ev X 3 8 0 [.ref 2011, .int (nI 0)] [] (hh S) (xI 101, hh S) := by
  refine Ev.c (a := 9) (A := [.ref 2011]) (h1 := hh S) (pc' := 4) (L' := [.ref 2011, .int (nI 0)]) (rest := []) (r1 := xI 1) (h2 := hh S) 2 (fun n => rfl) ⟨20, rfl⟩ ?_
  refine Ev.c (a := 10) (A := [.ref 3011, .int (nI 0)]) (h1 := hh S) (pc' := 15) (L' := [.ref 2011, .int (nI 0)]) (rest := []) (r1 := xI 101) (h2 := hh S) 5 (fun n => rfl) ?_ (Ev.r 1 (fun n => rfl))
  refine Ev.c (a := 167) (A := [.int (nI 0), .int (Int32.ofNat 2)]) (h1 := hh S) (pc' := 6) (L' := [.ref 3011, .int (nI 0)]) (rest := []) (r1 := none) (h2 := hh S) 4 (fun n => rfl) (e167 (by decide) (by decide)) ?_
  exact Ev.r 7 (fun n => rfl)
theorem s8_11_1 {X : Nat × (Nat → Int32)} (S : St) : Ev X 3 8 0 [.ref 2011, .int (nI 1)] [] (hh S) (xI 102, hh S) := by
  refine Ev.c (a := 9) (A := [.ref 2011]) (h1 := hh S) (pc' := 4) (L' := [.ref 2011, .int (nI 1)]) (rest := []) (r1 := xI 1) (h2 := hh S) 2 (fun n => rfl) ⟨20, rfl⟩ ?_
  refine Ev.c (a := 10) (A := [.ref 3011, .int (nI 1)]) (h1 := hh S) (pc' := 15) (L' := [.ref 2011, .int (nI 1)]) (rest := []) (r1 := xI 102) (h2 := hh S) 5 (fun n => rfl) ?_ (Ev.r 1 (fun n => rfl))
  refine Ev.c (a := 167) (A := [.int (nI 1), .int (Int32.ofNat 2)]) (h1 := hh S) (pc' := 6) (L' := [.ref 3011, .int (nI 1)]) (rest := []) (r1 := none) (h2 := hh S) 4 (fun n => rfl) (e167 (by decide) (by decide)) ?_
  exact Ev.r 7 (fun n => rfl)
theorem s6_12 {X : Nat × (Nat → Int32)} (S : St) : Ev X 2 6 0 [.ref 2012] [] (hh S) (xI (Int32.ofNat 2), hh S) := ⟨20, rfl⟩
theorem s8_12_0 {X : Nat × (Nat → Int32)} (S : St) : Ev X 3 8 0 [.ref 2012, .int (nI 0)] [] (hh S) (xI 111, hh S) := by
  refine Ev.c (a := 9) (A := [.ref 2012]) (h1 := hh S) (pc' := 4) (L' := [.ref 2012, .int (nI 0)]) (rest := []) (r1 := xI 1) (h2 := hh S) 2 (fun n => rfl) ⟨20, rfl⟩ ?_
  refine Ev.c (a := 10) (A := [.ref 3012, .int (nI 0)]) (h1 := hh S) (pc' := 15) (L' := [.ref 2012, .int (nI 0)]) (rest := []) (r1 := xI 111) (h2 := hh S) 5 (fun n => rfl) ?_ (Ev.r 1 (fun n => rfl))
  refine Ev.c (a := 167) (A := [.int (nI 0), .int (Int32.ofNat 2)]) (h1 := hh S) (pc' := 6) (L' := [.ref 3012, .int (nI 0)]) (rest := []) (r1 := none) (h2 := hh S) 4 (fun n => rfl) (e167 (by decide) (by decide)) ?_
  exact Ev.r 7 (fun n => rfl)
theorem s8_12_1 {X : Nat × (Nat → Int32)} (S : St) : Ev X 3 8 0 [.ref 2012, .int (nI 1)] [] (hh S) (xI 114, hh S) := by
  refine Ev.c (a := 9) (A := [.ref 2012]) (h1 := hh S) (pc' := 4) (L' := [.ref 2012, .int (nI 1)]) (rest := []) (r1 := xI 1) (h2 := hh S) 2 (fun n => rfl) ⟨20, rfl⟩ ?_
  refine Ev.c (a := 10) (A := [.ref 3012, .int (nI 1)]) (h1 := hh S) (pc' := 15) (L' := [.ref 2012, .int (nI 1)]) (rest := []) (r1 := xI 114) (h2 := hh S) 5 (fun n => rfl) ?_ (Ev.r 1 (fun n => rfl))
  refine Ev.c (a := 167) (A := [.int (nI 1), .int (Int32.ofNat 2)]) (h1 := hh S) (pc' := 6) (L' := [.ref 3012, .int (nI 1)]) (rest := []) (r1 := none) (h2 := hh S) 4 (fun n => rfl) (e167 (by decide) (by decide)) ?_
  exact Ev.r 7 (fun n => rfl)
theorem s6_13 {X : Nat × (Nat → Int32)} (S : St) : Ev X 2 6 0 [.ref 2013] [] (hh S) (xI (Int32.ofNat 2), hh S) := ⟨20, rfl⟩
theorem s8_13_0 {X : Nat × (Nat → Int32)} (S : St) : Ev X 3 8 0 [.ref 2013, .int (nI 0)] [] (hh S) (xI 111, hh S) := by
  refine Ev.c (a := 9) (A := [.ref 2013]) (h1 := hh S) (pc' := 4) (L' := [.ref 2013, .int (nI 0)]) (rest := []) (r1 := xI 1) (h2 := hh S) 2 (fun n => rfl) ⟨20, rfl⟩ ?_
  refine Ev.c (a := 10) (A := [.ref 3013, .int (nI 0)]) (h1 := hh S) (pc' := 15) (L' := [.ref 2013, .int (nI 0)]) (rest := []) (r1 := xI 111) (h2 := hh S) 5 (fun n => rfl) ?_ (Ev.r 1 (fun n => rfl))
  refine Ev.c (a := 167) (A := [.int (nI 0), .int (Int32.ofNat 2)]) (h1 := hh S) (pc' := 6) (L' := [.ref 3013, .int (nI 0)]) (rest := []) (r1 := none) (h2 := hh S) 4 (fun n => rfl) (e167 (by decide) (by decide)) ?_
  exact Ev.r 7 (fun n => rfl)
theorem s8_13_1 {X : Nat × (Nat → Int32)} (S : St) : Ev X 3 8 0 [.ref 2013, .int (nI 1)] [] (hh S) (xI 98, hh S) := by
  refine Ev.c (a := 9) (A := [.ref 2013]) (h1 := hh S) (pc' := 4) (L' := [.ref 2013, .int (nI 1)]) (rest := []) (r1 := xI 1) (h2 := hh S) 2 (fun n => rfl) ⟨20, rfl⟩ ?_
  refine Ev.c (a := 10) (A := [.ref 3013, .int (nI 1)]) (h1 := hh S) (pc' := 15) (L' := [.ref 2013, .int (nI 1)]) (rest := []) (r1 := xI 98) (h2 := hh S) 5 (fun n => rfl) ?_ (Ev.r 1 (fun n => rfl))
  refine Ev.c (a := 167) (A := [.int (nI 1), .int (Int32.ofNat 2)]) (h1 := hh S) (pc' := 6) (L' := [.ref 3013, .int (nI 1)]) (rest := []) (r1 := none) (h2 := hh S) 4 (fun n => rfl) (e167 (by decide) (by decide)) ?_
  exact Ev.r 7 (fun n => rfl)
theorem s6_14 {X : Nat × (Nat → Int32)} (S : St) : Ev X 2 6 0 [.ref 2014] [] (hh S) (xI (Int32.ofNat 0), hh S) := ⟨20, rfl⟩
theorem s6_15 {X : Nat × (Nat → Int32)} (S : St) : Ev X 2 6 0 [.ref 2015] [] (hh S) (xI (Int32.ofNat 1), hh S) := ⟨20, rfl⟩
theorem s8_15_0 {X : Nat × (Nat → Int32)} (S : St) : Ev X 3 8 0 [.ref 2015, .int (nI 0)] [] (hh S) (xI 119, hh S) := by
  refine Ev.c (a := 9) (A := [.ref 2015]) (h1 := hh S) (pc' := 4) (L' := [.ref 2015, .int (nI 0)]) (rest := []) (r1 := xI 1) (h2 := hh S) 2 (fun n => rfl) ⟨20, rfl⟩ ?_
  refine Ev.c (a := 10) (A := [.ref 3015, .int (nI 0)]) (h1 := hh S) (pc' := 15) (L' := [.ref 2015, .int (nI 0)]) (rest := []) (r1 := xI 119) (h2 := hh S) 5 (fun n => rfl) ?_ (Ev.r 1 (fun n => rfl))
  refine Ev.c (a := 167) (A := [.int (nI 0), .int (Int32.ofNat 1)]) (h1 := hh S) (pc' := 6) (L' := [.ref 3015, .int (nI 0)]) (rest := []) (r1 := none) (h2 := hh S) 4 (fun n => rfl) (e167 (by decide) (by decide)) ?_
  exact Ev.r 7 (fun n => rfl)
theorem s6_16 {X : Nat × (Nat → Int32)} (S : St) : Ev X 2 6 0 [.ref 2016] [] (hh S) (xI (Int32.ofNat 5), hh S) := ⟨20, rfl⟩
theorem s8_16_0 {X : Nat × (Nat → Int32)} (S : St) : Ev X 3 8 0 [.ref 2016, .int (nI 0)] [] (hh S) (xI 111, hh S) := by
  refine Ev.c (a := 9) (A := [.ref 2016]) (h1 := hh S) (pc' := 4) (L' := [.ref 2016, .int (nI 0)]) (rest := []) (r1 := xI 1) (h2 := hh S) 2 (fun n => rfl) ⟨20, rfl⟩ ?_
  refine Ev.c (a := 10) (A := [.ref 3016, .int (nI 0)]) (h1 := hh S) (pc' := 15) (L' := [.ref 2016, .int (nI 0)]) (rest := []) (r1 := xI 111) (h2 := hh S) 5 (fun n => rfl) ?_ (Ev.r 1 (fun n => rfl))
  refine Ev.c (a := 167) (A := [.int (nI 0), .int (Int32.ofNat 5)]) (h1 := hh S) (pc' := 6) (L' := [.ref 3016, .int (nI 0)]) (rest := []) (r1 := none) (h2 := hh S) 4 (fun n => rfl) (e167 (by decide) (by decide)) ?_
  exact Ev.r 7 (fun n => rfl)
theorem s8_16_1 {X : Nat × (Nat → Int32)} (S : St) : Ev X 3 8 0 [.ref 2016, .int (nI 1)] [] (hh S) (xI 120, hh S) := by
  refine Ev.c (a := 9) (A := [.ref 2016]) (h1 := hh S) (pc' := 4) (L' := [.ref 2016, .int (nI 1)]) (rest := []) (r1 := xI 1) (h2 := hh S) 2 (fun n => rfl) ⟨20, rfl⟩ ?_
  refine Ev.c (a := 10) (A := [.ref 3016, .int (nI 1)]) (h1 := hh S) (pc' := 15) (L' := [.ref 2016, .int (nI 1)]) (rest := []) (r1 := xI 120) (h2 := hh S) 5 (fun n => rfl) ?_ (Ev.r 1 (fun n => rfl))
  refine Ev.c (a := 167) (A := [.int (nI 1), .int (Int32.ofNat 5)]) (h1 := hh S) (pc' := 6) (L' := [.ref 3016, .int (nI 1)]) (rest := []) (r1 := none) (h2 := hh S) 4 (fun n => rfl) (e167 (by decide) (by decide)) ?_
  exact Ev.r 7 (fun n => rfl)
theorem s8_16_2 {X : Nat × (Nat → Int32)} (S : St) : Ev X 3 8 0 [.ref 2016, .int (nI 2)] [] (hh S) (xI 121, hh S) := by
  refine Ev.c (a := 9) (A := [.ref 2016]) (h1 := hh S) (pc' := 4) (L' := [.ref 2016, .int (nI 2)]) (rest := []) (r1 := xI 1) (h2 := hh S) 2 (fun n => rfl) ⟨20, rfl⟩ ?_
  refine Ev.c (a := 10) (A := [.ref 3016, .int (nI 2)]) (h1 := hh S) (pc' := 15) (L' := [.ref 2016, .int (nI 2)]) (rest := []) (r1 := xI 121) (h2 := hh S) 5 (fun n => rfl) ?_ (Ev.r 1 (fun n => rfl))
  refine Ev.c (a := 167) (A := [.int (nI 2), .int (Int32.ofNat 5)]) (h1 := hh S) (pc' := 6) (L' := [.ref 3016, .int (nI 2)]) (rest := []) (r1 := none) (h2 := hh S) 4 (fun n => rfl) (e167 (by decide) (by decide)) ?_
  exact Ev.r 7 (fun n => rfl)
theorem s8_16_3 {X : Nat × (Nat → Int32)} (S : St) : Ev X 3 8 0 [.ref 2016, .int (nI 3)] [] (hh S) (xI 120, hh S) := by
  refine Ev.c (a := 9) (A := [.ref 2016]) (h1 := hh S) (pc' := 4) (L' := [.ref 2016, .int (nI 3)]) (rest := []) (r1 := xI 1) (h2 := hh S) 2 (fun n => rfl) ⟨20, rfl⟩ ?_
  refine Ev.c (a := 10) (A := [.ref 3016, .int (nI 3)]) (h1 := hh S) (pc' := 15) (L' := [.ref 2016, .int (nI 3)]) (rest := []) (r1 := xI 120) (h2 := hh S) 5 (fun n => rfl) ?_ (Ev.r 1 (fun n => rfl))
  refine Ev.c (a := 167) (A := [.int (nI 3), .int (Int32.ofNat 5)]) (h1 := hh S) (pc' := 6) (L' := [.ref 3016, .int (nI 3)]) (rest := []) (r1 := none) (h2 := hh S) 4 (fun n => rfl) (e167 (by decide) (by decide)) ?_
  exact Ev.r 7 (fun n => rfl)
theorem s8_16_4 {X : Nat × (Nat → Int32)} (S : St) : Ev X 3 8 0 [.ref 2016, .int (nI 4)] [] (hh S) (xI 121, hh S) := by
  refine Ev.c (a := 9) (A := [.ref 2016]) (h1 := hh S) (pc' := 4) (L' := [.ref 2016, .int (nI 4)]) (rest := []) (r1 := xI 1) (h2 := hh S) 2 (fun n => rfl) ⟨20, rfl⟩ ?_
  refine Ev.c (a := 10) (A := [.ref 3016, .int (nI 4)]) (h1 := hh S) (pc' := 15) (L' := [.ref 2016, .int (nI 4)]) (rest := []) (r1 := xI 121) (h2 := hh S) 5 (fun n => rfl) ?_ (Ev.r 1 (fun n => rfl))
  refine Ev.c (a := 167) (A := [.int (nI 4), .int (Int32.ofNat 5)]) (h1 := hh S) (pc' := 6) (L' := [.ref 3016, .int (nI 4)]) (rest := []) (r1 := none) (h2 := hh S) 4 (fun n => rfl) (e167 (by decide) (by decide)) ?_
  exact Ev.r 7 (fun n => rfl)
theorem s6_17 {X : Nat × (Nat → Int32)} (S : St) : Ev X 2 6 0 [.ref 2017] [] (hh S) (xI (Int32.ofNat 1), hh S) := ⟨20, rfl⟩
theorem s8_17_0 {X : Nat × (Nat → Int32)} (S : St) : Ev X 3 8 0 [.ref 2017, .int (nI 0)] [] (hh S) (xI 116, hh S) := by
  refine Ev.c (a := 9) (A := [.ref 2017]) (h1 := hh S) (pc' := 4) (L' := [.ref 2017, .int (nI 0)]) (rest := []) (r1 := xI 1) (h2 := hh S) 2 (fun n => rfl) ⟨20, rfl⟩ ?_
  refine Ev.c (a := 10) (A := [.ref 3017, .int (nI 0)]) (h1 := hh S) (pc' := 15) (L' := [.ref 2017, .int (nI 0)]) (rest := []) (r1 := xI 116) (h2 := hh S) 5 (fun n => rfl) ?_ (Ev.r 1 (fun n => rfl))
  refine Ev.c (a := 167) (A := [.int (nI 0), .int (Int32.ofNat 1)]) (h1 := hh S) (pc' := 6) (L' := [.ref 3017, .int (nI 0)]) (rest := []) (r1 := none) (h2 := hh S) 4 (fun n => rfl) (e167 (by decide) (by decide)) ?_
  exact Ev.r 7 (fun n => rfl)
theorem s6_18 {X : Nat × (Nat → Int32)} (S : St) : Ev X 2 6 0 [.ref 2018] [] (hh S) (xI (Int32.ofNat 2), hh S) := ⟨20, rfl⟩
theorem s8_18_0 {X : Nat × (Nat → Int32)} (S : St) : Ev X 3 8 0 [.ref 2018, .int (nI 0)] [] (hh S) (xI 116, hh S) := by
  refine Ev.c (a := 9) (A := [.ref 2018]) (h1 := hh S) (pc' := 4) (L' := [.ref 2018, .int (nI 0)]) (rest := []) (r1 := xI 1) (h2 := hh S) 2 (fun n => rfl) ⟨20, rfl⟩ ?_
  refine Ev.c (a := 10) (A := [.ref 3018, .int (nI 0)]) (h1 := hh S) (pc' := 15) (L' := [.ref 2018, .int (nI 0)]) (rest := []) (r1 := xI 116) (h2 := hh S) 5 (fun n => rfl) ?_ (Ev.r 1 (fun n => rfl))
  refine Ev.c (a := 167) (A := [.int (nI 0), .int (Int32.ofNat 2)]) (h1 := hh S) (pc' := 6) (L' := [.ref 3018, .int (nI 0)]) (rest := []) (r1 := none) (h2 := hh S) 4 (fun n => rfl) (e167 (by decide) (by decide)) ?_
  exact Ev.r 7 (fun n => rfl)
theorem s8_18_1 {X : Nat × (Nat → Int32)} (S : St) : Ev X 3 8 0 [.ref 2018, .int (nI 1)] [] (hh S) (xI 116, hh S) := by
  refine Ev.c (a := 9) (A := [.ref 2018]) (h1 := hh S) (pc' := 4) (L' := [.ref 2018, .int (nI 1)]) (rest := []) (r1 := xI 1) (h2 := hh S) 2 (fun n => rfl) ⟨20, rfl⟩ ?_
  refine Ev.c (a := 10) (A := [.ref 3018, .int (nI 1)]) (h1 := hh S) (pc' := 15) (L' := [.ref 2018, .int (nI 1)]) (rest := []) (r1 := xI 116) (h2 := hh S) 5 (fun n => rfl) ?_ (Ev.r 1 (fun n => rfl))
  refine Ev.c (a := 167) (A := [.int (nI 1), .int (Int32.ofNat 2)]) (h1 := hh S) (pc' := 6) (L' := [.ref 3018, .int (nI 1)]) (rest := []) (r1 := none) (h2 := hh S) 4 (fun n => rfl) (e167 (by decide) (by decide)) ?_
  exact Ev.r 7 (fun n => rfl)
theorem T_6 {X : Nat × (Nat → Int32)} (S : St) (x0 : Nat) (r : Int32) (S' : St) (hG : G_6 S x0 = some (r, S')) : Ev X 2 6 0 [.ref x0] [] (hh S) (xI r, hh S') := by
  unfold G_6 at hG
  by_cases g : 2000 ≤ x0 ∧ x0 < 2000 + xS_n
  rotate_left
  · rw [if_neg g] at hG; cases hG
  rw [if_pos g] at hG
  obtain ⟨e1, e2⟩ := Prod.mk.inj (Option.some.inj hG)
  subst e1
  subst e2
  have hb : x0 < 2000 + 19 := g.2
  have ha : 2000 ≤ x0 := g.1
  rcases Nat.lt_or_ge x0 2001 with h0 | h0
  · obtain rfl : x0 = 2000 := by omega
    exact s6_0 S
  rcases Nat.lt_or_ge x0 2002 with h1 | h1
  · obtain rfl : x0 = 2001 := by omega
    exact s6_1 S
  rcases Nat.lt_or_ge x0 2003 with h2 | h2
  · obtain rfl : x0 = 2002 := by omega
    exact s6_2 S
  rcases Nat.lt_or_ge x0 2004 with h3 | h3
  · obtain rfl : x0 = 2003 := by omega
    exact s6_3 S
  rcases Nat.lt_or_ge x0 2005 with h4 | h4
  · obtain rfl : x0 = 2004 := by omega
    exact s6_4 S
  rcases Nat.lt_or_ge x0 2006 with h5 | h5
  · obtain rfl : x0 = 2005 := by omega
    exact s6_5 S
  rcases Nat.lt_or_ge x0 2007 with h6 | h6
  · obtain rfl : x0 = 2006 := by omega
    exact s6_6 S
  rcases Nat.lt_or_ge x0 2008 with h7 | h7
  · obtain rfl : x0 = 2007 := by omega
    exact s6_7 S
  rcases Nat.lt_or_ge x0 2009 with h8 | h8
  · obtain rfl : x0 = 2008 := by omega
    exact s6_8 S
  rcases Nat.lt_or_ge x0 2010 with h9 | h9
  · obtain rfl : x0 = 2009 := by omega
    exact s6_9 S
  rcases Nat.lt_or_ge x0 2011 with h10 | h10
  · obtain rfl : x0 = 2010 := by omega
    exact s6_10 S
  rcases Nat.lt_or_ge x0 2012 with h11 | h11
  · obtain rfl : x0 = 2011 := by omega
    exact s6_11 S
  rcases Nat.lt_or_ge x0 2013 with h12 | h12
  · obtain rfl : x0 = 2012 := by omega
    exact s6_12 S
  rcases Nat.lt_or_ge x0 2014 with h13 | h13
  · obtain rfl : x0 = 2013 := by omega
    exact s6_13 S
  rcases Nat.lt_or_ge x0 2015 with h14 | h14
  · obtain rfl : x0 = 2014 := by omega
    exact s6_14 S
  rcases Nat.lt_or_ge x0 2016 with h15 | h15
  · obtain rfl : x0 = 2015 := by omega
    exact s6_15 S
  rcases Nat.lt_or_ge x0 2017 with h16 | h16
  · obtain rfl : x0 = 2016 := by omega
    exact s6_16 S
  rcases Nat.lt_or_ge x0 2018 with h17 | h17
  · obtain rfl : x0 = 2017 := by omega
    exact s6_17 S
  rcases Nat.lt_or_ge x0 2019 with h18 | h18
  · obtain rfl : x0 = 2018 := by omega
    exact s6_18 S
  omega
theorem T_8 {X : Nat × (Nat → Int32)} (S : St) (x0 : Nat) (x1 : Int32) (r : Int32) (S' : St) (hG : G_8 S x0 x1 = some (r, S')) : Ev X 3 8 0 [.ref x0, .int x1] [] (hh S) (xI r, hh S') := by
  unfold G_8 at hG
  by_cases g : (2000 ≤ x0 ∧ x0 < 2000 + xS_n) ∧ xa_in x1 (xS_L.getD (x0 - 2000) 0)
  rotate_left
  · rw [if_neg g] at hG; cases hG
  rw [if_pos g] at hG
  obtain ⟨e1, e2⟩ := Prod.mk.inj (Option.some.inj hG)
  subst e1
  subst e2
  obtain ⟨⟨ha, hb⟩, hin⟩ := g
  have hb : x0 < 2000 + 19 := hb
  obtain ⟨j, hj, rfl⟩ := nI_of (fun z => hin (Or.inl z))
  have hjl := xa_lt hin
  rw [nI_clamp hj] at hjl ⊢
  rcases Nat.lt_or_ge x0 2001 with h0 | h0
  · obtain rfl : x0 = 2000 := by omega
    have hjl : j < 2 := hjl
    rcases Nat.lt_or_ge j 1 with q0 | q0
    · obtain rfl : j = 0 := by omega
      exact s8_0_0 S
    rcases Nat.lt_or_ge j 2 with q1 | q1
    · obtain rfl : j = 1 := by omega
      exact s8_0_1 S
    omega
  rcases Nat.lt_or_ge x0 2002 with h1 | h1
  · obtain rfl : x0 = 2001 := by omega
    have hjl : j < 2 := hjl
    rcases Nat.lt_or_ge j 1 with q0 | q0
    · obtain rfl : j = 0 := by omega
      exact s8_1_0 S
    rcases Nat.lt_or_ge j 2 with q1 | q1
    · obtain rfl : j = 1 := by omega
      exact s8_1_1 S
    omega
  rcases Nat.lt_or_ge x0 2003 with h2 | h2
  · obtain rfl : x0 = 2002 := by omega
    have hjl : j < 1 := hjl
    rcases Nat.lt_or_ge j 1 with q0 | q0
    · obtain rfl : j = 0 := by omega
      exact s8_2_0 S
    omega
  rcases Nat.lt_or_ge x0 2004 with h3 | h3
  · obtain rfl : x0 = 2003 := by omega
    have hjl : j < 1 := hjl
    rcases Nat.lt_or_ge j 1 with q0 | q0
    · obtain rfl : j = 0 := by omega
      exact s8_3_0 S
    omega
  rcases Nat.lt_or_ge x0 2005 with h4 | h4
  · obtain rfl : x0 = 2004 := by omega
    have hjl : j < 1 := hjl
    rcases Nat.lt_or_ge j 1 with q0 | q0
    · obtain rfl : j = 0 := by omega
      exact s8_4_0 S
    omega
  rcases Nat.lt_or_ge x0 2006 with h5 | h5
  · obtain rfl : x0 = 2005 := by omega
    have hjl : j < 2 := hjl
    rcases Nat.lt_or_ge j 1 with q0 | q0
    · obtain rfl : j = 0 := by omega
      exact s8_5_0 S
    rcases Nat.lt_or_ge j 2 with q1 | q1
    · obtain rfl : j = 1 := by omega
      exact s8_5_1 S
    omega
  rcases Nat.lt_or_ge x0 2007 with h6 | h6
  · obtain rfl : x0 = 2006 := by omega
    have hjl : j < 3 := hjl
    rcases Nat.lt_or_ge j 1 with q0 | q0
    · obtain rfl : j = 0 := by omega
      exact s8_6_0 S
    rcases Nat.lt_or_ge j 2 with q1 | q1
    · obtain rfl : j = 1 := by omega
      exact s8_6_1 S
    rcases Nat.lt_or_ge j 3 with q2 | q2
    · obtain rfl : j = 2 := by omega
      exact s8_6_2 S
    omega
  rcases Nat.lt_or_ge x0 2008 with h7 | h7
  · obtain rfl : x0 = 2007 := by omega
    have hjl : j < 1 := hjl
    rcases Nat.lt_or_ge j 1 with q0 | q0
    · obtain rfl : j = 0 := by omega
      exact s8_7_0 S
    omega
  rcases Nat.lt_or_ge x0 2009 with h8 | h8
  · obtain rfl : x0 = 2008 := by omega
    have hjl : j < 3 := hjl
    rcases Nat.lt_or_ge j 1 with q0 | q0
    · obtain rfl : j = 0 := by omega
      exact s8_8_0 S
    rcases Nat.lt_or_ge j 2 with q1 | q1
    · obtain rfl : j = 1 := by omega
      exact s8_8_1 S
    rcases Nat.lt_or_ge j 3 with q2 | q2
    · obtain rfl : j = 2 := by omega
      exact s8_8_2 S
    omega
  rcases Nat.lt_or_ge x0 2010 with h9 | h9
  · obtain rfl : x0 = 2009 := by omega
    have hjl : j < 2 := hjl
    rcases Nat.lt_or_ge j 1 with q0 | q0
    · obtain rfl : j = 0 := by omega
      exact s8_9_0 S
    rcases Nat.lt_or_ge j 2 with q1 | q1
    · obtain rfl : j = 1 := by omega
      exact s8_9_1 S
    omega
  rcases Nat.lt_or_ge x0 2011 with h10 | h10
  · obtain rfl : x0 = 2010 := by omega
    have hjl : j < 4 := hjl
    rcases Nat.lt_or_ge j 1 with q0 | q0
    · obtain rfl : j = 0 := by omega
      exact s8_10_0 S
    rcases Nat.lt_or_ge j 2 with q1 | q1
    · obtain rfl : j = 1 := by omega
      exact s8_10_1 S
    rcases Nat.lt_or_ge j 3 with q2 | q2
    · obtain rfl : j = 2 := by omega
      exact s8_10_2 S
    rcases Nat.lt_or_ge j 4 with q3 | q3
    · obtain rfl : j = 3 := by omega
      exact s8_10_3 S
    omega
  rcases Nat.lt_or_ge x0 2012 with h11 | h11
  · obtain rfl : x0 = 2011 := by omega
    have hjl : j < 2 := hjl
    rcases Nat.lt_or_ge j 1 with q0 | q0
    · obtain rfl : j = 0 := by omega
      exact s8_11_0 S
    rcases Nat.lt_or_ge j 2 with q1 | q1
    · obtain rfl : j = 1 := by omega
      exact s8_11_1 S
    omega
  rcases Nat.lt_or_ge x0 2013 with h12 | h12
  · obtain rfl : x0 = 2012 := by omega
    have hjl : j < 2 := hjl
    rcases Nat.lt_or_ge j 1 with q0 | q0
    · obtain rfl : j = 0 := by omega
      exact s8_12_0 S
    rcases Nat.lt_or_ge j 2 with q1 | q1
    · obtain rfl : j = 1 := by omega
      exact s8_12_1 S
    omega
  rcases Nat.lt_or_ge x0 2014 with h13 | h13
  · obtain rfl : x0 = 2013 := by omega
    have hjl : j < 2 := hjl
    rcases Nat.lt_or_ge j 1 with q0 | q0
    · obtain rfl : j = 0 := by omega
      exact s8_13_0 S
    rcases Nat.lt_or_ge j 2 with q1 | q1
    · obtain rfl : j = 1 := by omega
      exact s8_13_1 S
    omega
  rcases Nat.lt_or_ge x0 2015 with h14 | h14
  · obtain rfl : x0 = 2014 := by omega
    have hjl : j < 0 := hjl
    omega
  rcases Nat.lt_or_ge x0 2016 with h15 | h15
  · obtain rfl : x0 = 2015 := by omega
    have hjl : j < 1 := hjl
    rcases Nat.lt_or_ge j 1 with q0 | q0
    · obtain rfl : j = 0 := by omega
      exact s8_15_0 S
    omega
  rcases Nat.lt_or_ge x0 2017 with h16 | h16
  · obtain rfl : x0 = 2016 := by omega
    have hjl : j < 5 := hjl
    rcases Nat.lt_or_ge j 1 with q0 | q0
    · obtain rfl : j = 0 := by omega
      exact s8_16_0 S
    rcases Nat.lt_or_ge j 2 with q1 | q1
    · obtain rfl : j = 1 := by omega
      exact s8_16_1 S
    rcases Nat.lt_or_ge j 3 with q2 | q2
    · obtain rfl : j = 2 := by omega
      exact s8_16_2 S
    rcases Nat.lt_or_ge j 4 with q3 | q3
    · obtain rfl : j = 3 := by omega
      exact s8_16_3 S
    rcases Nat.lt_or_ge j 5 with q4 | q4
    · obtain rfl : j = 4 := by omega
      exact s8_16_4 S
    omega
  rcases Nat.lt_or_ge x0 2018 with h17 | h17
  · obtain rfl : x0 = 2017 := by omega
    have hjl : j < 1 := hjl
    rcases Nat.lt_or_ge j 1 with q0 | q0
    · obtain rfl : j = 0 := by omega
      exact s8_17_0 S
    omega
  rcases Nat.lt_or_ge x0 2019 with h18 | h18
  · obtain rfl : x0 = 2018 := by omega
    have hjl : j < 2 := hjl
    rcases Nat.lt_or_ge j 1 with q0 | q0
    · obtain rfl : j = 0 := by omega
      exact s8_18_0 S
    rcases Nat.lt_or_ge j 2 with q1 | q1
    · obtain rfl : j = 1 := by omega
      exact s8_18_1 S
    omega
  omega
