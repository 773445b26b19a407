/-! The law from its entry: two new objects, then its loop -/
def xcl (X : Nat × (Nat → Int32)) : Int32 := if Int32.ofNat X.1 ≤ 0 then 0 else X.2 0
theorem E_cell {X : Nat × (Nat → Int32)} {h : xa_H} (hX : X.1 < 2 ^ 31) : Ev X 0 166 0 [.ref 1000, .int 0] [] h (xI (xcl X), h) := by
  unfold xcl
  by_cases c : Int32.ofNat X.1 ≤ 0
  · rw [if_pos c]
    refine Ev.t (c := Int32.ofNat X.1 ≤ 0) (p1 := 12) (L1 := [.ref 1000, .int 0]) (s1 := []) (h1 := h) (p2 := 6) (L2 := [.ref 1000, .int 0]) (s2 := []) (h2 := h) 4 (fun n => rfl) c ?_
    exact Ev.r 2 (fun n => rfl)
  · rw [if_neg c]
    have h1 : 0 < X.1 := by
      rcases Nat.eq_zero_or_pos X.1 with z | z
      · rw [z] at c; exact absurd (by decide) c
      · exact z
    have hin : xa_in (0 : Int32) X.1 := by
      have := nI_in (c := 0) (N := X.1) h1 hX
      rw [nI_0] at this
      exact this
    refine Ev.f (c := Int32.ofNat X.1 ≤ 0) (p1 := 12) (L1 := [.ref 1000, .int 0]) (s1 := []) (h1 := h) (p2 := 6) (L2 := [.ref 1000, .int 0]) (s2 := []) (h2 := h) 4 (fun n => rfl) c ?_
    refine Ev.g (c := xa_in (0 : Int32) X.1) (p1 := 9) (L1 := [.ref 1000, .int 0]) (s1 := [.int (X.2 (0 : Int32).toNatClampNeg)]) (h1 := h) 3 (fun n => rfl) hin ?_
    rw [show (0 : Int32).toNatClampNeg = 0 from rfl]
    exact Ev.r 2 (fun n => rfl)
/-- the state behind the two constructors -/
theorem E_law {X : Nat × (Nat → Int32)} (hX : X.1 < 2 ^ 31) {S0 S' : St} {n : Nat} {r : Int32} (h0 : G_113 (cI_79 (xcl X), none, fun _ => none) = some ((), S0)) (hL : GLaw X n S0 1 = some (r, S')) :
    Ev X 208 169 0 [.ref 1000, .retAddr 0, .retAddr 0, .retAddr 0] [] (cH_0 (xcl X)) (xI r, hh S') := by
  generalize hv : xcl X = v at h0 ⊢
  refine Ev.b (pc' := 3) (L' := [.ref 1000, .retAddr 0, .retAddr 0, .retAddr 0]) (st' := [.ref 0]) (h' := cH_1 v) 1 (fun n => rfl) ?_
  refine Ev.c (a := 166) (A := [.ref 1000, .int 0]) (h1 := cH_1 v) (pc' := 9) (L' := [.ref 1000, .retAddr 0, .retAddr 0, .retAddr 0]) (rest := [.ref 0, .ref 0]) (r1 := xI v) (h2 := cH_1 v) 4 (fun n => rfl) (Ev.up (by decide) (hv ▸ E_cell hX)) ?_
  refine Ev.c (a := 97) (A := [.ref 0, .int v]) (h1 := cH_1 v) (pc' := 12) (L' := [.ref 1000, .retAddr 0, .retAddr 0, .retAddr 0]) (rest := [.ref 0]) (r1 := none) (h2 := cH_70 v) 1 (fun n => rfl) (Ev.up (by decide) (K_15 v)) ?_
  refine Ev.b (pc' := 16) (L' := [.ref 1000, .ref 0, .retAddr 0, .retAddr 0]) (st' := [.ref 29]) (h' := cH_71 v) 2 (fun n => rfl) ?_
  refine Ev.c (a := 166) (A := [.ref 1000, .int 0]) (h1 := cH_71 v) (pc' := 22) (L' := [.ref 1000, .ref 0, .retAddr 0, .retAddr 0]) (rest := [.ref 29, .ref 29]) (r1 := xI v) (h2 := cH_71 v) 4 (fun n => rfl) (Ev.up (by decide) (hv ▸ E_cell hX)) ?_
  refine Ev.c (a := 112) (A := [.ref 29, .int v, .retAddr 0]) (h1 := cH_71 v) (pc' := 25) (L' := [.ref 1000, .ref 0, .retAddr 0, .retAddr 0]) (rest := [.ref 29]) (r1 := none) (h2 := hh S0) 1 (fun n => rfl) (Ev.up (by decide) (K_16 v S0 h0)) ?_
  exact Ev.b (pc' := 28) (L' := [.ref 1000, .ref 0, .ref 29, .int 1]) (st' := []) (h' := hh S0) 3 (fun n => rfl) (TLaw n S0 1 r S' hL)
