/-! The pure part (19e.picture): both halves answer alike -/
/-! the picture reader of the class, byte by byte -/
theorem idv {t : Int32} (h0 : 0 ≤ t) (h1 : t < 1000) : t - t / 2 * 2 = 0 ∧ (t + 1) - (t + 1) / 2 * 2 = 1 ∨ t - t / 2 * 2 = 1 ∧ (t + 1) - (t + 1) / 2 * 2 = 0 := by
  have hd : ∀ x : Int32, 0 ≤ x → x < 2000 → (x - x / 2 * 2).toInt = x.toInt % 2 := by
    intro x x0 x1
    have a := ile x0; have b := ilt x1
    have h00 : (0 : Int32).toInt = 0 := rfl
    have h2 : (2 : Int32).toInt = 2 := rfl
    have h2k : (2000 : Int32).toInt = 2000 := rfl
    have e1 : (x / 2).toInt = x.toInt / 2 := by
      rw [Int32.toInt_div, h2, Int.tdiv_eq_ediv_of_nonneg (by omega)]
      apply Int.bmod_eq_of_le <;> omega
    have e2 : (x / 2 * 2).toInt = x.toInt / 2 * 2 := by
      rw [Int32.toInt_mul, e1, h2]; apply Int.bmod_eq_of_le <;> omega
    rw [Int32.toInt_sub, e2]
    rw [Int.bmod_eq_of_le] <;> omega
  have a := ile h0; have b := ilt h1
  have h00 : (0 : Int32).toInt = 0 := rfl
  have h1k : (1000 : Int32).toInt = 1000 := rfl
  have h11 : (1 : Int32).toInt = 1 := rfl
  have e := hd t h0 (by grind)
  have e' := hd (t + 1) (by grind) (by grind)
  have e1 : (t + 1).toInt = t.toInt + 1 := by rw [iadd] <;> rw [h11] <;> omega
  rcases (by omega : t.toInt % 2 = 0 ∨ t.toInt % 2 = 1) with h | h
  · exact Or.inl ⟨Int32.toInt_inj.mp (by rw [e, h, h00]), Int32.toInt_inj.mp (by rw [e', e1, h11]; omega)⟩
  · exact Or.inr ⟨Int32.toInt_inj.mp (by rw [e, h, h11]), Int32.toInt_inj.mp (by rw [e', e1, h00]; omega)⟩
/-- nothing but the reader changes -/
def RX (R : Nat) (S S' : St) : Prop := (∀ c k, c ≠ R → S'.1 c k = S.1 c k) ∧ S'.2 = S.2
theorem RX.refl (R : Nat) (S : St) : RX R S S := ⟨fun _ _ _ => rfl, rfl⟩
theorem RX.u {R : Nat} {S : St} {k : Nat} {v : Int32} : RX R S (xa_u S.1 R k v, S.2) := ⟨fun c j h => xa_c (by omega), rfl⟩
theorem RX.trans {R : Nat} {S U V : St} (h : RX R S U) (g : RX R U V) : RX R S V := ⟨fun c k a => (g.1 c k a).trans (h.1 c k a), g.2.trans h.2⟩
/-- a command is complete -/
def cmpl (S : St) (R : Nat) : Prop := ((S.1 R 0 = 240 ∨ S.1 R 0 = 242) → S.1 R 8 = 1) ∧ ((S.1 R 0 = 244 ∨ S.1 R 0 = 246) → 2 ≤ S.1 R 8 ∧ S.1 R 8 - S.1 R 8 / 2 * 2 = 0) ∧ (S.1 R 0 = 245 → 2 ≤ S.1 R 8)
section
variable {S : St} {R : Nat}
theorem rx0 (S : St) (R : Nat) {k : Nat} (h : k ≠ 2) : xa_u S.1 R 2 0 R k = S.1 R k := xa_c (by omega)
theorem V_30 (hR : (kd R).1 = 10 + 2) (hc : cmpl S R) : G_30 S R = some (1, S) := by
  obtain ⟨h1, h2, h3⟩ := hc
  unfold G_30
  rw [if_pos hR]
  by_cases a : S.1 R 0 = 240
  · rw [if_pos a, if_pos (h1 (Or.inl a))]
  · rw [if_neg a]
    by_cases b : S.1 R 0 = 242
    · rw [if_pos b, if_pos (h1 (Or.inr b))]
    · rw [if_neg b]
      by_cases c : S.1 R 0 = 244
      · have := h2 (Or.inl c)
        rw [if_pos c, if_neg (by grind), if_pos this.2]
      · rw [if_neg c]
        by_cases d : S.1 R 0 = 245
        · have := h3 d
          rw [if_pos d, if_neg (by grind)]
        · rw [if_neg d]
          by_cases e : S.1 R 0 = 246
          · have := h2 (Or.inr e)
            rw [if_pos e, if_neg (by grind), if_pos this.2]
          · rw [if_neg e]
theorem cmpl.r (h : cmpl S R) : cmpl (xa_u S.1 R 2 0, S.2) R := by
  unfold cmpl at *
  have e : ∀ k, k ≠ 2 → ((xa_u S.1 R 2 0, S.2) : St).1 R k = S.1 R k := fun k h => rx0 S R h
  rw [e 0 (by omega), e 8 (by omega)]
  exact h
/-- a command begins -/
theorem T_begin (hR : (kd R).1 = 10 + 2) (h255 : S.1 R 0 ≠ 255) (hc : cmpl S R) {v : Int32} (h0 : 240 ≤ v) (h1 : v ≤ 246) : ∃ S', G_29 S R v = some (1, S') ∧ RX R S S' ∧ S'.1 R 0 = v ∧ S'.1 R 1 = -1 ∧ S'.1 R 2 = 0 ∧ S'.1 R 8 = 0 ∧ S'.1 R 9 = S.1 R 9 + 1 := by
  have e := @rx0 S R
  have v30 := V_30 hR hc.r
  have v30' : G_30 (xa_u S.1 R 2 0, S.2.1, S.2.2) R = some (1, (xa_u S.1 R 2 0, S.2.1, S.2.2)) := v30
  unfold G_29
  rw [if_pos hR, e (by omega), if_neg h255, if_neg (show ¬ v < 240 by grind), v30']
  simp only [e10, if_false]
  unfold G_31
  rw [if_pos h1, if_pos hR, if_neg (show ¬ v = 255 by grind)]
  simp only []
  refine ⟨_, if_pos (by simp), ?_, ?_, ?_, ?_, ?_, ?_⟩
  · exact (((((RX.u (k := 2) (v := 0)).trans RX.u).trans RX.u).trans RX.u).trans RX.u)
  all_goals simp only [xa_if]; grind
theorem T_end (hR : (kd R).1 = 10 + 2) (h255 : S.1 R 0 ≠ 255) (hc : cmpl S R) : ∃ S', G_29 S R 255 = some (1, S') ∧ RX R S S' ∧ S'.1 R 0 = 255 ∧ S'.1 R 2 = 0 ∧ S'.1 R 9 = S.1 R 9 := by
  have e := @rx0 S R
  have v30 := V_30 hR hc.r
  have v30' : G_30 (xa_u S.1 R 2 0, S.2.1, S.2.2) R = some (1, (xa_u S.1 R 2 0, S.2.1, S.2.2)) := v30
  unfold G_29
  rw [if_pos hR, e (by omega), if_neg h255, if_neg (show ¬ (255 : Int32) < 240 by decide), v30']
  simp only [e10, if_false]
  unfold G_31
  rw [if_neg (show ¬ (255 : Int32) ≤ 246 by decide), if_pos rfl, if_pos hR]
  simp only []
  refine ⟨_, if_pos (by simp), ?_, ?_, ?_, ?_⟩
  · exact ((((RX.u (k := 2) (v := 0)).trans RX.u).trans RX.u).trans RX.u)
  all_goals simp only [xa_if]; grind
theorem T_bad (hR : (kd R).1 = 10 + 2) (h255 : S.1 R 0 ≠ 255) (hc : cmpl S R) {v : Int32} (h0 : 246 < v) (h1 : v ≠ 255) : ∃ S', G_29 S R v = some (0, S') ∧ RX R S S' := by
  have e := @rx0 S R
  have v30 := V_30 hR hc.r
  have v30' : G_30 (xa_u S.1 R 2 0, S.2.1, S.2.2) R = some (1, (xa_u S.1 R 2 0, S.2.1, S.2.2)) := v30
  unfold G_29
  rw [if_pos hR, e (by omega), if_neg h255, if_neg (show ¬ v < 240 by grind), v30']
  simp only [e10, if_false]
  unfold G_31
  rw [if_neg (show ¬ v ≤ 246 by grind), if_neg h1]
  simp only []
  exact ⟨_, if_pos (by simp), RX.u⟩
theorem T_after (hR : (kd R).1 = 10 + 2) (h255 : S.1 R 0 = 255) {v : Int32} : ∃ S', G_29 S R v = some (0, S') ∧ RX R S S' := by
  unfold G_29
  rw [if_pos hR, rx0 S R (by omega), if_pos h255]
  exact ⟨_, rfl, RX.u⟩
/-- a byte below 240 where none may come -/
theorem T_none (hR : (kd R).1 = 10 + 2) (hc : cmpl S R) (h4 : S.1 R 0 ≠ 244 ∧ S.1 R 0 ≠ 245 ∧ S.1 R 0 ≠ 246) {v : Int32} (h0 : v < 240) : ∃ S', G_29 S R v = some (0, S') ∧ RX R S S' := by
  have e := @rx0 S R
  unfold G_29
  simp only [if_pos hR, e (show 0 ≠ 2 by omega), if_pos h0, if_neg h4.1, if_neg h4.2.1, if_neg h4.2.2]
  by_cases h255 : S.1 R 0 = 255
  · rw [if_pos h255]; exact ⟨_, rfl, RX.u⟩
  · rw [if_neg h255]
    unfold G_32
    have e8 : ∀ k, k ≠ 2 → ((xa_u S.1 R 2 0, S.2.1, S.2.2) : St).1 R k = S.1 R k := fun k h => rx0 S R h
    by_cases a : S.1 R 0 = 240
    · rw [if_pos a, if_pos hR]
      have h8 := hc.1 (Or.inl a)
      simp only [e (show 8 ≠ 2 by omega), h8, e10, if_false]
      exact ⟨_, if_pos (by simp), RX.u⟩
    · rw [if_neg a]
      by_cases b : S.1 R 0 = 242
      · rw [if_pos b, if_pos hR]
        have h8 := hc.1 (Or.inr b)
        simp only [e (show 8 ≠ 2 by omega), h8, e10, if_false]
        exact ⟨_, if_pos (by simp), RX.u⟩
      · rw [if_neg b]
        exact ⟨_, rfl, RX.u⟩
/-- the number of a pen -/
theorem T_pen (hR : (kd R).1 = 10 + 2) (hc : S.1 R 0 = 240 ∨ S.1 R 0 = 242) (h8 : S.1 R 8 = 0) (v : Int32) : ∃ S', G_29 S R v = some (if v ≤ 15 then 1 else 0, S') ∧ RX R S S' ∧ (v ≤ 15 → S'.1 R 0 = S.1 R 0 ∧ S'.1 R 1 = v ∧ S'.1 R 2 = 0 ∧ S'.1 R 8 = 1 ∧ S'.1 R 9 = S.1 R 9) := by
  have e := @rx0 S R
  have g32 : ∃ S', (match G_32 (xa_u S.1 R 2 0, S.2.1, S.2.2) R v with
      | none => none
      | some (v5, S5) => if v5 = 0 ∨ v5 = 1 then some (v5, S5) else none) = some (if v ≤ 15 then 1 else 0, S') ∧ RX R S S' ∧ (v ≤ 15 → S'.1 R 0 = S.1 R 0 ∧ S'.1 R 1 = v ∧ S'.1 R 2 = 0 ∧ S'.1 R 8 = 1 ∧ S'.1 R 9 = S.1 R 9) := by
    unfold G_32
    rw [if_pos hR]
    simp only [e (show 8 ≠ 2 by omega), h8, if_true]
    by_cases h : v ≤ 15
    · simp only [if_pos h]
      refine ⟨_, if_pos (by simp), ((RX.u (k := 2) (v := 0)).trans RX.u).trans RX.u, fun _ => ⟨?_, ?_, ?_, ?_, ?_⟩⟩
      all_goals simp only [xa_if]; grind
    · simp only [if_neg h]
      exact ⟨_, if_pos (by simp), RX.u, fun h' => absurd h' h⟩
  have h255 : S.1 R 0 ≠ 255 := by rcases hc with h | h <;> rw [h] <;> decide
  have v30 : G_30 (xa_u S.1 R 2 0, S.2.1, S.2.2) R = some (0, (xa_u S.1 R 2 0, S.2.1, S.2.2)) := by
    unfold G_30
    rw [if_pos hR]
    simp only [e (show 8 ≠ 2 by omega), e (show 0 ≠ 2 by omega), h8]
    rcases hc with h | h
    · rw [if_pos h, if_neg (by decide)]
    · rw [h, if_neg (by decide), if_pos rfl, if_neg (by decide)]
  unfold G_29
  rw [if_pos hR, e (by omega), if_neg h255]
  simp only [v30, if_true, e (show 0 ≠ 2 by omega)]
  rcases hc with h | h
  · simp only [if_pos h, ite_self]
    exact g32
  · simp only [h, show ((242 : Int32) = 240) = False by simp, if_false, if_true, ite_self]
    rw [h] at g32
    exact g32
/-- the part of the taking that is neither a new command's byte nor a number's -/
theorem T_pt (hR : (kd R).1 = 10 + 2) (hc : S.1 R 0 = 244 ∨ S.1 R 0 = 245 ∨ S.1 R 0 = 246) {v : Int32} (hb : v < 240 ∨ S.1 R 8 < 2 ∨ S.1 R 8 - S.1 R 8 / 2 * 2 ≠ 0) (h5 : S.1 R 0 = 245 → S.1 R 8 < 2) : G_29 S R v = (match G_33 (xa_u S.1 R 2 0, S.2.1, S.2.2) R v with
      | none => none
      | some (v11, S11) => if v11 = 0 ∨ v11 = 1 then some (v11, S11) else none) := by
  have e := @rx0 S R
  have h255 : S.1 R 0 ≠ 255 := by rcases hc with h | h | h <;> rw [h] <;> decide
  have h240 : S.1 R 0 ≠ 240 := by rcases hc with h | h | h <;> rw [h] <;> decide
  have h242 : S.1 R 0 ≠ 242 := by rcases hc with h | h | h <;> rw [h] <;> decide
  have v30 : ¬ v < 240 → G_30 (xa_u S.1 R 2 0, S.2.1, S.2.2) R = some (0, (xa_u S.1 R 2 0, S.2.1, S.2.2)) := by
    intro hv
    unfold G_30
    rw [if_pos hR]
    simp only [e (show 8 ≠ 2 by omega), e (show 0 ≠ 2 by omega), if_neg h240, if_neg h242]
    rcases hc with h | h | h
    · rw [if_pos h]
      by_cases q : S.1 R 8 < 2
      · rw [if_pos q]
      · rw [if_neg q, if_neg (by grind)]
    · rw [h, if_neg (by decide), if_pos rfl, if_pos (h5 h)]
    · rw [h, if_neg (by decide), if_neg (by decide), if_pos rfl]
      by_cases q : S.1 R 8 < 2
      · rw [if_pos q]
      · rw [if_neg q, if_neg (by grind)]
  unfold G_29
  simp only [if_pos hR, e (show 0 ≠ 2 by omega), e (show 8 ≠ 2 by omega), if_neg h255, if_neg h240, if_neg h242]
  by_cases hv : v < 240
  · rw [if_pos hv]
    rcases hc with h | h | h
    · rw [if_pos h]; rfl
    · have := h5 h
      rw [h, if_neg (by decide), if_pos rfl, if_neg (show ¬ 2 ≤ S.1 R 8 by grind)]; rfl
    · rw [h, if_neg (by decide), if_neg (by decide), if_pos rfl]; rfl
  · rw [if_neg hv, v30 hv]
    simp only [if_true, e (show 0 ≠ 2 by omega), e (show 8 ≠ 2 by omega), if_neg h240, if_neg h242]
    rcases hc with h | h | h
    · rw [if_pos h]; rfl
    · have := h5 h
      rw [h, if_neg (by decide), if_pos rfl, if_neg (show ¬ 2 ≤ S.1 R 8 by grind)]; rfl
    · rw [h, if_neg (by decide), if_neg (by decide), if_pos rfl]; rfl
/-- a column -/
theorem T_col (hR : (kd R).1 = 10 + 2) (hc : S.1 R 0 = 244 ∨ S.1 R 0 = 245 ∨ S.1 R 0 = 246) {v : Int32} (hb : v < 240 ∨ S.1 R 8 < 2) (h5 : S.1 R 0 = 245 → S.1 R 8 < 2) (hev : S.1 R 8 - S.1 R 8 / 2 * 2 = 0) : ∃ S', G_29 S R v = some (if v < 16 then 1 else 0, S') ∧ RX R S S' ∧ S'.1 R 0 = S.1 R 0 ∧ S'.1 R 2 = 0 ∧ S'.1 R 7 = v ∧ S'.1 R 8 = S.1 R 8 + 1 ∧ S'.1 R 9 = S.1 R 9 ∧ S'.1 R 5 = S.1 R 5 ∧ S'.1 R 6 = S.1 R 6 := by
  have e := @rx0 S R
  rw [T_pt hR hc (by grind) h5]
  unfold G_33
  rw [if_pos hR]
  simp only [e (show 8 ≠ 2 by omega), if_pos hev]
  have hrx : RX R S (xa_u (xa_u (xa_u S.1 R 2 0) R 7 v) R 8 (xa_u (xa_u S.1 R 2 0) R 7 v R 8 + 1), S.2.1, S.2.2) := ((RX.u (k := 2) (v := 0)).trans RX.u).trans RX.u
  have hf : ∀ S' : St, S' = (xa_u (xa_u (xa_u S.1 R 2 0) R 7 v) R 8 (xa_u (xa_u S.1 R 2 0) R 7 v R 8 + 1), S.2.1, S.2.2) → S'.1 R 0 = S.1 R 0 ∧ S'.1 R 2 = 0 ∧ S'.1 R 7 = v ∧ S'.1 R 8 = S.1 R 8 + 1 ∧ S'.1 R 9 = S.1 R 9 ∧ S'.1 R 5 = S.1 R 5 ∧ S'.1 R 6 = S.1 R 6 := by
    intro S' h; subst h
    refine ⟨?_, ?_, ?_, ?_, ?_, ?_, ?_⟩
    all_goals simp only [xa_if]; grind
  by_cases q : v < 16
  · simp only [if_neg (show ¬ 16 ≤ v by grind), if_pos q]
    exact ⟨_, if_pos (by simp), hrx, hf _ rfl⟩
  · simp only [if_pos (show 16 ≤ v by grind), if_neg q]
    exact ⟨_, if_pos (by simp), hrx, hf _ rfl⟩
/-- the reader's state after a point (x, y), from the state before it -/
def Pt (R : Nat) (S S' : St) (x y : Int32) : Prop :=
  (RX R S S') ∧
  (S'.1 R 0 = S.1 R 0) ∧
  (S'.1 R 2 = 1) ∧
  (S'.1 R 5 = x) ∧
  (S'.1 R 6 = y) ∧
  (S'.1 R 8 = S.1 R 8 + 1) ∧
  (S'.1 R 9 = S.1 R 9) ∧
  (S'.1 R 3 = if 2 ≤ S.1 R 8 then S.1 R 5 else x) ∧
  (S'.1 R 4 = if 2 ≤ S.1 R 8 then S.1 R 6 else y)
theorem Pt.rx {R : Nat} {S S' : St} {x y : Int32} (h : Pt R S S' x y) : RX R S S' := h.1
theorem Pt.c {R : Nat} {S S' : St} {x y : Int32} (h : Pt R S S' x y) : S'.1 R 0 = S.1 R 0 := h.2.1
theorem Pt.a {R : Nat} {S S' : St} {x y : Int32} (h : Pt R S S' x y) : S'.1 R 2 = 1 := h.2.2.1
theorem Pt.px {R : Nat} {S S' : St} {x y : Int32} (h : Pt R S S' x y) : S'.1 R 5 = x := h.2.2.2.1
theorem Pt.py {R : Nat} {S S' : St} {x y : Int32} (h : Pt R S S' x y) : S'.1 R 6 = y := h.2.2.2.2.1
theorem Pt.t {R : Nat} {S S' : St} {x y : Int32} (h : Pt R S S' x y) : S'.1 R 8 = S.1 R 8 + 1 := h.2.2.2.2.2.1
theorem Pt.n {R : Nat} {S S' : St} {x y : Int32} (h : Pt R S S' x y) : S'.1 R 9 = S.1 R 9 := h.2.2.2.2.2.2.1
theorem Pt.fx {R : Nat} {S S' : St} {x y : Int32} (h : Pt R S S' x y) : S'.1 R 3 = if 2 ≤ S.1 R 8 then S.1 R 5 else x := h.2.2.2.2.2.2.2.1
theorem Pt.fy {R : Nat} {S S' : St} {x y : Int32} (h : Pt R S S' x y) : S'.1 R 4 = if 2 ≤ S.1 R 8 then S.1 R 6 else y := h.2.2.2.2.2.2.2.2
theorem V_100o {S : St} {x y : Int32} : G_100 S x y = some (if onS x y then 1 else 0, S) := by
  rw [V_100]
theorem V_34 (hR : (kd R).1 = 10 + 2) (x y : Int32) : ∃ S', G_34 (xa_u S.1 R 2 0, S.2.1, S.2.2) R x y = some (if onS x y then 1 else 0, S') ∧ RX R S S' ∧ (onS x y → Pt R S S' x y) := by
  have e := @rx0 S R
  unfold G_34
  simp only [V_100o]
  by_cases h : onS x y
  · simp only [if_pos h, e10, if_false, if_pos hR, e (show 8 ≠ 2 by omega), e (show 5 ≠ 2 by omega)]
    by_cases q : 2 ≤ S.1 R 8
    · simp only [if_pos q]
      refine ⟨_, rfl, ?_, fun _ => ⟨?_, ?_, ?_, ?_, ?_, ?_, ?_, ?_, ?_⟩⟩
      · exact ((((((RX.u (k := 2) (v := 0)).trans RX.u).trans RX.u).trans RX.u).trans RX.u).trans RX.u).trans RX.u
      · exact ((((((RX.u (k := 2) (v := 0)).trans RX.u).trans RX.u).trans RX.u).trans RX.u).trans RX.u).trans RX.u
      all_goals simp only [xa_if]; grind
    · simp only [if_neg q]
      refine ⟨_, rfl, ?_, fun _ => ⟨?_, ?_, ?_, ?_, ?_, ?_, ?_, ?_, ?_⟩⟩
      · exact ((((((RX.u (k := 2) (v := 0)).trans RX.u).trans RX.u).trans RX.u).trans RX.u).trans RX.u).trans RX.u
      · exact ((((((RX.u (k := 2) (v := 0)).trans RX.u).trans RX.u).trans RX.u).trans RX.u).trans RX.u).trans RX.u
      all_goals simp only [xa_if]; grind
  · simp only [if_neg h, if_true]
    exact ⟨_, rfl, RX.u, fun h' => absurd h' h⟩
/-- a row, after its column -/
theorem T_row (hR : (kd R).1 = 10 + 2) (hc : S.1 R 0 = 244 ∨ S.1 R 0 = 245 ∨ S.1 R 0 = 246) {v : Int32} (h5 : S.1 R 0 = 245 → S.1 R 8 < 2) (hod : S.1 R 8 - S.1 R 8 / 2 * 2 = 1) : ∃ S', G_29 S R v = some (if onS (S.1 R 7) v then 1 else 0, S') ∧ RX R S S' ∧ (onS (S.1 R 7) v → Pt R S S' (S.1 R 7) v) := by
  have e := @rx0 S R
  have h10 : ¬ ((1 : Int32) = 0) := by decide
  rw [T_pt hR hc (Or.inr (Or.inr (by rw [hod]; decide))) h5]
  obtain ⟨S', a1, a2, a3⟩ := V_34 (S := S) hR (S.1 R 7) v
  unfold G_33
  rw [if_pos hR]
  simp only [e (show 8 ≠ 2 by omega), e (show 7 ≠ 2 by omega), hod, if_neg h10, a1]
  refine ⟨S', ?_, a2, a3⟩
  by_cases q : onS (S.1 R 7) v
  · simp only [if_pos q] <;> simp
  · simp only [if_neg q] <;> simp
theorem V_36 {S : St} {x : Int32} : G_36 S x = some (sh x, S) := by unfold G_36 sh; grind
/-- a step of a relative line -/
theorem T_step (hR : (kd R).1 = 10 + 2) (hc : S.1 R 0 = 245) (h8 : 2 ≤ S.1 R 8) {v : Int32} (hv : v < 240) : ∃ S', G_29 S R v = some (if onS (S.1 R 5 + sh (v / 16)) (S.1 R 6 + sh (v - v / 16 * 16)) then 1 else 0, S') ∧ RX R S S' ∧ (onS (S.1 R 5 + sh (v / 16)) (S.1 R 6 + sh (v - v / 16 * 16)) → Pt R S S' (S.1 R 5 + sh (v / 16)) (S.1 R 6 + sh (v - v / 16 * 16))) := by
  have e := @rx0 S R
  obtain ⟨S', a1, a2, a3⟩ := V_34 (S := S) hR (S.1 R 5 + sh (v / 16)) (S.1 R 6 + sh (v - v / 16 * 16))
  have g35 : G_35 (xa_u S.1 R 2 0, S.2.1, S.2.2) R v = some (if onS (S.1 R 5 + sh (v / 16)) (S.1 R 6 + sh (v - v / 16 * 16)) then 1 else 0, S') := by
    unfold G_35
    rw [if_pos hR]
    simp only [V_36, e (show 5 ≠ 2 by omega), e (show 6 ≠ 2 by omega), a1]
    by_cases q : onS (S.1 R 5 + sh (v / 16)) (S.1 R 6 + sh (v - v / 16 * 16))
    · simp only [if_pos q] <;> simp
    · simp only [if_neg q] <;> simp
  refine ⟨S', ?_, a2, a3⟩
  unfold G_29
  simp only [if_pos hR, e (show 0 ≠ 2 by omega), e (show 8 ≠ 2 by omega), hc, if_pos hv, if_pos h8, g35]
  by_cases q : onS (S.1 R 5 + sh (v / 16)) (S.1 R 6 + sh (v - v / 16 * 16))
  · simp only [if_pos q] <;> simp
  · simp only [if_neg q] <;> simp
end
/-! the class checks a picture -/
theorem chp_c {b : Int32 → Int32} {p : Int32} (h0 : 0 ≤ p) (h1 : p < 1000) : chp b (-1) p = if 0 ≤ b p ∧ b p ≤ 15 then (if 0 ≤ b (p + 1) ∧ b (p + 1) ≤ 11 then -1 else p + 1) else p := by
  unfold chp
  by_cases q : 0 ≤ b p ∧ b p ≤ 15
  · rw [if_pos q, (chk_ok h0).mpr q]
    by_cases q2 : 0 ≤ b (p + 1) ∧ b (p + 1) ≤ 11
    · rw [if_pos q2, (chk_ok (by grind)).mpr q2]
    · rw [if_neg q2, chk_no q2]
  · rw [if_neg q, chk_no q, chk_w h0]
section
variable {A M C : Ab} {z : Option Nat × (Nat → Option Nat)}
theorem CR.rx {S S' : St} {R : Nat} (h : CR A M S) (g : RX R S S') (hR : R = 6 ∨ R = 26) : CR A M S' := by
  obtain ⟨g1, g2⟩ := g
  obtain ⟨h0, h1, h2, h3, h4, h5, h6, h7, h8, h9, h10, h11, h12, h13⟩ := h
  refine ⟨?lim_0, ?cyc_0, ?ovr_0, ?wrd_0, ?stp_0, ?col_0, ?ctl_0, ?val_0, ?flg_0, ?siz_0, ?lod_0, ?byt_0, ?act_0, ?fr_0⟩
  all_goals intros
  all_goals rw [g1 _ _ (by omega)]
  · exact h0
  · exact h1
  · exact h2
  · exact h3
  · exact h4
  · exact h5 _ (by assumption)
  · exact h6 _ (by assumption)
  · exact h7 _ (by assumption)
  · exact h8 _ (by assumption)
  · exact h9 _ (by assumption)
  · exact h10 _ (by assumption)
  · exact h11 _ _ (by assumption) (by assumption)
  · exact h12 _ _ (by assumption) (by assumption)
  · exact h13 _ _ (by assumption)
theorem kd26 : (kd 26).1 = 10 + 2 := rfl
theorem kd6 : (kd 6).1 = 10 + 2 := rfl
/-- one byte -/
theorem C_27b (hw : WF A) {r : Nat} (hr : r < 4) {S S' : St} (hc : CR A M S) {p v : Int32} (h0 : 0 ≤ p) (h1 : p < A 5 r) (hg : G_29 S 26 (bt A r p) = some (v, S')) (n : Nat) : GL_27_0 (n + 1) S 26 (15 + 2 * r) p = if v = 0 then some (-2 - p, S') else GL_27_0 n S' 26 (15 + 2 * r) (p + 1) := by
  rw [GL_27_0, if_pos (kd_res hr), hc.siz _ hr, if_neg (show ¬ A 5 r ≤ p by grind), C_25 hw hc hr h0 h1]
  simp only [if_pos kd26, hg]
/-- the end of the bytes -/
theorem C_27e {r : Nat} (hr : r < 4) {S : St} (hc : CR A M S) {p : Int32} (h1 : A 5 r ≤ p) (n : Nat) : GL_27_0 (n + 1) S 26 (15 + 2 * r) p = if S.1 26 0 = 255 then some (S.1 26 9, S) else some (-2 - A 5 r, S) := by
  rw [GL_27_0, if_pos (kd_res hr), hc.siz _ hr, if_pos h1, if_pos kd26]
def Bd (b : Int32 → Int32) (R : Nat) (S : St) (q cnt : Int32) : Prop :=
  (S.1 R 9 = cnt) ∧
  (S.1 R 0 ≠ 255) ∧
  (cmpl S R) ∧
  ((S.1 R 0 = 244 ∨ S.1 R 0 = 245 ∨ S.1 R 0 = 246) → (b q = -1 ∨ 240 ≤ b q))
theorem Bd.n {b : Int32 → Int32} {R : Nat} {S : St} {q cnt : Int32} (h : Bd b R S q cnt) : S.1 R 9 = cnt := h.1
theorem Bd.c {b : Int32 → Int32} {R : Nat} {S : St} {q cnt : Int32} (h : Bd b R S q cnt) : S.1 R 0 ≠ 255 := h.2.1
theorem Bd.k {b : Int32 → Int32} {R : Nat} {S : St} {q cnt : Int32} (h : Bd b R S q cnt) : cmpl S R := h.2.2.1
theorem Bd.b {b : Int32 → Int32} {R : Nat} {S : St} {q cnt : Int32} (h : Bd b R S q cnt) : (S.1 R 0 = 244 ∨ S.1 R 0 = 245 ∨ S.1 R 0 = 246) → (b q = -1 ∨ 240 ≤ b q) := h.2.2.2
/-- within a command of points, after at least one -/
def Lp (R : Nat) (S : St) (c x y p cnt : Int32) : Prop :=
  (S.1 R 9 = cnt) ∧
  (S.1 R 0 = c) ∧
  (2 ≤ S.1 R 8 ∧ S.1 R 8 ≤ p) ∧
  (c ≠ 245 → S.1 R 8 - S.1 R 8 / 2 * 2 = 0) ∧
  (c = 245 → S.1 R 5 = x ∧ S.1 R 6 = y)
theorem Lp.n {R : Nat} {S : St} {c x y p cnt : Int32} (h : Lp R S c x y p cnt) : S.1 R 9 = cnt := h.1
theorem Lp.cc {R : Nat} {S : St} {c x y p cnt : Int32} (h : Lp R S c x y p cnt) : S.1 R 0 = c := h.2.1
theorem Lp.t {R : Nat} {S : St} {c x y p cnt : Int32} (h : Lp R S c x y p cnt) : 2 ≤ S.1 R 8 ∧ S.1 R 8 ≤ p := h.2.2.1
theorem Lp.e {R : Nat} {S : St} {c x y p cnt : Int32} (h : Lp R S c x y p cnt) : c ≠ 245 → S.1 R 8 - S.1 R 8 / 2 * 2 = 0 := h.2.2.2.1
theorem Lp.xy {R : Nat} {S : St} {c x y p cnt : Int32} (h : Lp R S c x y p cnt) : c = 245 → S.1 R 5 = x ∧ S.1 R 6 = y := h.2.2.2.2
theorem Lp.k {R : Nat} {S : St} {c x y p cnt : Int32} (h : Lp R S c x y p cnt) : cmpl S R ∨ ¬ (c = 244 ∨ c = 245 ∨ c = 246) := by
  by_cases q : c = 244 ∨ c = 245 ∨ c = 246
  · refine Or.inl ⟨fun h' => ?_, fun h' => ⟨h.t.1, h.e ?_⟩, fun _ => h.t.1⟩
    · rw [h.cc] at h'; grind
    · rw [h.cc] at h'; grind
  · exact Or.inr q
/-- the number of a command's bytes and the fuel -/
def Fu (n : Nat) (p : Int32) : Prop := 200 ≤ (n : Int) + p.toInt
theorem Fu.s {n : Nat} {p : Int32} (h0 : 0 ≤ p) (h1 : p < 64) (h : Fu n p) : ∃ n', n = n' + 1 ∧ Fu n' (p + 1) ∧ (p + 1).toInt = p.toInt + 1 := by
  have a := ile h0; have b := ilt h1
  have h00 : (0 : Int32).toInt = 0 := rfl
  have h64 : (64 : Int32).toInt = 64 := rfl
  have h11 : (1 : Int32).toInt = 1 := rfl
  have e : (p + 1).toInt = p.toInt + 1 := by rw [iadd] <;> rw [h11] <;> omega
  unfold Fu at *
  exact ⟨n - 1, by omega, by omega, e⟩
theorem Fu.p {n : Nat} {p : Int32} (h1 : p ≤ 64) (h : Fu n p) : ∃ n', n = n' + 1 := by
  have b := ile h1
  have h64 : (64 : Int32).toInt = 64 := rfl
  unfold Fu at *
  exact ⟨n - 1, by omega⟩
theorem sm2 {t p : Int32} (h1 : 2 ≤ t) (h2 : t ≤ p) (h3 : p ≤ 64) : 2 ≤ t + 1 + 1 ∧ t + 1 + 1 ≤ p + 2 := by grind
theorem sm3 {t p : Int32} (h1 : 2 ≤ t) (h2 : t ≤ p) (h3 : p ≤ 64) : 2 ≤ t + 1 ∧ t + 1 ≤ p + 1 := by grind
theorem C_plp (hw : WF A) {r : Nat} (hr : r < 4) {c cnt : Int32} (hc3 : c = 244 ∨ c = 245 ∨ c = 246) (k : Nat) : ∀ (p x y : Int32) (S : St) (n : Nat), (A 5 r).toInt - p.toInt < k → 0 ≤ p → p ≤ A 5 r → CR A M S → Lp 26 S c x y p cnt → Fu n p →
    ((plp (bt A r) k c x y p).1 = -1 → ∃ S' n', GL_27_0 n S 26 (15 + 2 * r) p = GL_27_0 n' S' 26 (15 + 2 * r) (plp (bt A r) k c x y p).2 ∧ Fu n' (plp (bt A r) k c x y p).2 ∧ CR A M S' ∧ Bd (bt A r) 26 S' (plp (bt A r) k c x y p).2 cnt ∧ p ≤ (plp (bt A r) k c x y p).2 ∧ (plp (bt A r) k c x y p).2 ≤ A 5 r) ∧
    ((plp (bt A r) k c x y p).1 ≠ -1 → 0 ≤ (plp (bt A r) k c x y p).1 ∧ ∃ S', GL_27_0 n S 26 (15 + 2 * r) p = some (-2 - (plp (bt A r) k c x y p).1, S') ∧ CR A M S') := by
  have hb := hw.b0 hr
  have n6 := hb.n64
  have hpos : ∀ w : Int32, 0 ≤ w → w ≠ -1 := by intro w h; grind
  induction k with
  | zero =>
    intro p x y S n hk h0 h1
    have := ile h1
    omega
  | succ k ih =>
    intro p x y S n hk h0 h1 hc hl hf
    rw [plp]
    by_cases hend : bt A r p = -1 ∨ 240 ≤ bt A r p
    · rw [if_pos hend]
      have hk := hl.k
      refine ⟨fun _ => ⟨S, n, rfl, hf, hc, ⟨hl.n, ?_, ?_, fun _ => hend⟩, by grind, h1⟩, fun h => absurd rfl h⟩
      · rw [hl.cc]; grind
      · rcases hk with h | h
        · exact h
        · exact absurd hc3 h
    · rw [if_neg hend]
      have hbp : 0 ≤ bt A r p ∧ bt A r p < 240 := by have := hb.in h0; grind
      have hp := hb.lt hbp.1
      obtain ⟨n1, rfl, hf1, e1⟩ := hf.s h0 (by grind)
      have lk := ilt hp
      by_cases q5 : c = 245
      · rw [if_pos q5]
        have hxy := hl.xy q5
        obtain ⟨S1, g1, g2, g3⟩ := T_step kd26 (S := S) (by rw [hl.cc, q5]) hl.t.1 hbp.2
        rw [hxy.1, hxy.2] at g1 g3
        rw [C_27b hw hr hc h0 hp g1]
        by_cases qo : onS (x + sh (bt A r p / 16)) (y + sh (bt A r p - bt A r p / 16 * 16))
        · simp only [if_pos qo, e10, if_false]
          have pt := g3 qo
          have := ih (p + 1) (x + sh (bt A r p / 16)) (y + sh (bt A r p - bt A r p / 16 * 16)) S1 n1 (by omega) (by grind) (by grind) (hc.rx g2 (Or.inr rfl)) ⟨by rw [pt.n, hl.n], by rw [pt.c, hl.cc], by rw [pt.t]; exact sm3 hl.t.1 hl.t.2 (by grind), fun h => absurd q5 h, fun _ => ⟨pt.px, pt.py⟩⟩ hf1
          refine ⟨fun h => ?_, this.2⟩
          obtain ⟨S', n', a1, a2, a3, a4, a5, a6⟩ := this.1 h
          exact ⟨S', n', a1, a2, a3, a4, by grind, a6⟩
        · simp only [if_neg qo, if_true]
          exact ⟨fun h => absurd h (hpos p h0), fun _ => ⟨h0, S1, rfl, hc.rx g2 (Or.inr rfl)⟩⟩
      · rw [if_neg q5, chp_c h0 (by grind)]
        have hev := hl.e q5
        obtain ⟨S1, g1, g2, g3, g4, g5, g6, g7, g8, g9⟩ := T_col kd26 (S := S) (v := bt A r p) (by rw [hl.cc]; exact hc3) (Or.inl hbp.2) (fun h => by rw [hl.cc] at h; exact absurd h q5) hev
        rw [C_27b hw hr hc h0 hp g1]
        have hc1 := hc.rx g2 (Or.inr rfl)
        have ht := hl.t
        by_cases q16 : bt A r p < 16
        · have hcol : 0 ≤ bt A r p ∧ bt A r p ≤ 15 := by grind
          simp only [if_pos q16, e10, if_false, if_pos hcol]
          have hod : S1.1 26 8 - S1.1 26 8 / 2 * 2 = 1 := by
            rw [g6]
            rcases idv (t := S.1 26 8) (by grind) (by grind) with h | h
            · exact h.2
            · rw [h.1] at hev; exact absurd hev (by decide)
          by_cases hp1 : p + 1 < A 5 r
          · obtain ⟨n2, rfl, hf2, e2⟩ := hf1.s (by grind) (by grind)
            have hb1 := hb.rg (p + 1) (by grind) hp1
            obtain ⟨S2, k1, k2, k3⟩ := T_row kd26 (S := S1) (v := bt A r (p + 1)) (by rw [g3, hl.cc]; exact hc3) (fun h => by rw [g3, hl.cc] at h; exact absurd h q5) hod
            rw [g5] at k1 k3
            rw [C_27b hw hr hc1 (by grind) hp1 k1]
            have hc2 := hc1.rx k2 (Or.inr rfl)
            by_cases q11 : 0 ≤ bt A r (p + 1) ∧ bt A r (p + 1) ≤ 11
            · have qo : onS (bt A r p) (bt A r (p + 1)) := by unfold onS; grind
              simp only [if_pos q11, if_pos qo, e10, if_false, if_true]
              have pt := k3 qo
              have a2 : p + 1 + 1 = p + 2 := by grind
              rw [a2] at e2 hf2 ⊢
              have lk1 := ilt hp1
              have ev2 : S2.1 26 8 - S2.1 26 8 / 2 * 2 = 0 := by
                rw [pt.t]
                rcases idv (t := S1.1 26 8) (by rw [g6]; grind) (by rw [g6]; grind) with h | h
                · rw [h.1] at hod; exact absurd hod (by decide)
                · exact h.2
              have := ih (p + 2) x y S2 n2 (by omega) (by grind) (by grind) hc2 ⟨by rw [pt.n, g7, hl.n], by rw [pt.c, g3, hl.cc], by rw [pt.t, g6]; exact sm2 ht.1 ht.2 (by grind), fun _ => ev2, fun h => absurd h q5⟩ hf2
              refine ⟨fun h => ?_, this.2⟩
              obtain ⟨S', n', a1, a2, a3, a4, a5, a6⟩ := this.1 h
              exact ⟨S', n', a1, a2, a3, a4, by grind, a6⟩
            · have qo : ¬ onS (bt A r p) (bt A r (p + 1)) := by unfold onS; grind
              have hn1 : ¬ (p + 1 = -1) := by grind
              simp only [if_neg q11, if_neg qo, if_true, if_neg hn1]
              exact ⟨fun h => absurd h hn1, fun _ => ⟨by grind, S2, rfl, hc2⟩⟩
          · obtain ⟨n2, rfl⟩ := hf1.p (by grind)
            have hpe : p + 1 = A 5 r := by grind
            have hb1 : bt A r (p + 1) = -1 := hb.out _ (by grind)
            have q11 : ¬ (0 ≤ bt A r (p + 1) ∧ bt A r (p + 1) ≤ 11) := by rw [hb1]; decide
            have hn1 : ¬ (p + 1 = -1) := by grind
            rw [C_27e hr hc1 (by grind), if_neg (show ¬ S1.1 26 0 = 255 by rw [g3, hl.cc]; grind)]
            simp only [if_neg q11, if_neg hn1]
            exact ⟨fun h => absurd h hn1, fun _ => ⟨by grind, S1, by rw [hpe], hc1⟩⟩
        · have hcol : ¬ (0 ≤ bt A r p ∧ bt A r p ≤ 15) := by grind
          have hn0 : ¬ (p = -1) := hpos p h0
          simp only [if_neg q16, if_true, if_neg hcol, if_neg hn0]
          exact ⟨fun h => absurd h hn0, fun _ => ⟨h0, S1, rfl, hc1⟩⟩
end
section
variable {A M C : Ab} {z : Option Nat × (Nat → Option Nat)}
theorem plp_rg {b : Int32 → Int32} {n : Int32} (hb : BT b n) (k : Nat) : ∀ (c x y p : Int32), 0 ≤ p → p ≤ n → ((plp b k c x y p).1 = -1 → p ≤ (plp b k c x y p).2 ∧ (plp b k c x y p).2 ≤ n) ∧ ((plp b k c x y p).1 = -1 ∨ 0 ≤ (plp b k c x y p).1) := by
  have n6 := hb.n64
  induction k with
  | zero => intro c x y p h0 h1; exact ⟨fun _ => ⟨Int32.le_refl _, h1⟩, Or.inl rfl⟩
  | succ k ih =>
    intro c x y p h0 h1
    rw [plp]
    by_cases he : b p = -1 ∨ 240 ≤ b p
    · rw [if_pos he]; exact ⟨fun _ => ⟨Int32.le_refl _, h1⟩, Or.inl rfl⟩
    · rw [if_neg he]
      have hp := hb.lt (p := p) (by have := hb.in h0; grind)
      by_cases q5 : c = 245
      · rw [if_pos q5]
        by_cases qo : onS (x + sh (b p / 16)) (y + sh (b p - b p / 16 * 16))
        · rw [if_pos qo]
          have := ih c (x + sh (b p / 16)) (y + sh (b p - b p / 16 * 16)) (p + 1) (by grind) (by grind)
          exact ⟨fun h => by have := this.1 h; grind, this.2⟩
        · rw [if_neg qo]; exact ⟨fun h => by exfalso; have h : p = -1 := h; grind, Or.inr h0⟩
      · rw [if_neg q5, chp_c h0 (by grind)]
        by_cases q1 : 0 ≤ b p ∧ b p ≤ 15
        · simp only [if_pos q1]
          by_cases q2 : 0 ≤ b (p + 1) ∧ b (p + 1) ≤ 11
          · simp only [if_pos q2, if_true]
            have hp1 := hb.lt q2.1
            have := ih c x y (p + 2) (by grind) (by grind)
            exact ⟨fun h => by have := this.1 h; grind, this.2⟩
          · have hn1 : ¬ (p + 1 = -1) := by grind
            simp only [if_neg q2, if_neg hn1]; exact ⟨fun h => absurd h hn1, Or.inr (by grind)⟩
        · have hn1 : ¬ (p = -1) := by grind
          simp only [if_neg q1, if_neg hn1]; exact ⟨fun h => absurd h hn1, Or.inr h0⟩
theorem sm4 {p n : Int32} (h0 : 0 ≤ p) (hp : p < n) (h1 : p + 1 < n) (h2 : n ≤ 64) : p < p + 2 ∧ p + 2 ≤ n := by
  have a := ile h0; have b := ilt hp; have c := ilt h1; have d := ile h2
  have h00 : (0 : Int32).toInt = 0 := rfl
  have h64 : (64 : Int32).toInt = 64 := rfl
  have h11 : (1 : Int32).toInt = 1 := rfl
  have h22 : (2 : Int32).toInt = 2 := rfl
  have e1 : (p + 1).toInt = p.toInt + 1 := by rw [iadd] <;> rw [h11] <;> omega
  have e2 : (p + 2).toInt = p.toInt + 2 := by rw [iadd] <;> rw [h22] <;> omega
  rw [Int32.lt_iff_toInt_lt, Int32.le_iff_toInt_le]
  omega
theorem pcm_rg {b : Int32 → Int32} {n : Int32} (hb : BT b n) {p : Int32} (h0 : 0 ≤ p) (h1 : p ≤ n) : ((pcm b p).1 = -1 → p < (pcm b p).2 ∧ (pcm b p).2 ≤ n) ∧ ((pcm b p).1 = -1 ∨ 0 ≤ (pcm b p).1) := by
  have n6 := hb.n64
  unfold pcm
  by_cases c1 : b p = 241 ∨ b p = 243
  · rw [if_pos c1]
    have hp := hb.lt (p := p) (by grind)
    refine ⟨fun _ => ?_, Or.inl rfl⟩
    show p < p + 1 ∧ p + 1 ≤ n
    grind
  · rw [if_neg c1]
    by_cases c2 : b p = 240 ∨ b p = 242
    · rw [if_pos c2]
      have hp := hb.lt (p := p) (by grind)
      refine ⟨fun h => ?_, ?_⟩
      · have h := (chk_ok (b := b) (show 0 ≤ p + 1 by grind)).mp h
        have hp1 := hb.lt h.1
        exact sm4 h0 hp hp1 n6
      · show chk b (-1) (p + 1) 0 15 = -1 ∨ 0 ≤ chk b (-1) (p + 1) 0 15
        unfold chk; grind
    · rw [if_neg c2]
      by_cases c3 : 244 ≤ b p ∧ b p ≤ 246
      · rw [if_pos c3]
        have hp := hb.lt (p := p) (by grind)
        rw [chp_c (show 0 ≤ p + 1 by grind) (by grind)]
        have a2 : p + 1 + 1 = p + 2 := by grind
        rw [a2]
        by_cases q1 : 0 ≤ b (p + 1) ∧ b (p + 1) ≤ 15
        · simp only [if_pos q1]
          by_cases q2 : 0 ≤ b (p + 2) ∧ b (p + 2) ≤ 11
          · simp only [if_pos q2, if_true]
            have hp2 := hb.lt q2.1
            have := plp_rg hb 70 (b p) (b (p + 1)) (b (p + 2)) (p + 3) (by grind) (by grind)
            exact ⟨fun h => by have := this.1 h; grind, this.2⟩
          · have hn1 : ¬ (p + 2 = -1) := by grind
            simp only [if_neg q2, if_neg hn1]; exact ⟨fun h => absurd h hn1, Or.inr (by grind)⟩
        · have hn1 : ¬ (p + 1 = -1) := by grind
          simp only [if_neg q1, if_neg hn1]; exact ⟨fun h => absurd h hn1, Or.inr (by grind)⟩
      · rw [if_neg c3]; exact ⟨fun h => by exfalso; have h : p = -1 := h; grind, Or.inr h0⟩
theorem C_pcm (hw : WF A) {r : Nat} (hr : r < 4) {cnt p : Int32} {S : St} {n : Nat} (hc : CR A M S) (h0 : 0 ≤ p) (h1 : p ≤ A 5 r) (hbd : Bd (bt A r) 26 S p cnt) (hf : Fu n p) (h255 : bt A r p ≠ 255) :
    ((pcm (bt A r) p).1 = -1 → ∃ S' n', GL_27_0 n S 26 (15 + 2 * r) p = GL_27_0 n' S' 26 (15 + 2 * r) (pcm (bt A r) p).2 ∧ Fu n' (pcm (bt A r) p).2 ∧ CR A M S' ∧ Bd (bt A r) 26 S' (pcm (bt A r) p).2 (cnt + 1)) ∧
    ((pcm (bt A r) p).1 ≠ -1 → ∃ S', GL_27_0 n S 26 (15 + 2 * r) p = some (-2 - (pcm (bt A r) p).1, S') ∧ CR A M S') := by
  have hb := hw.b0 hr
  have n6 := hb.n64
  have l6 := ile n6
  have h64 : (64 : Int32).toInt = 64 := rfl
  have R26 : (26 : Nat) = 6 ∨ (26 : Nat) = 26 := Or.inr rfl
  by_cases hpn : p = A 5 r
  · -- the bytes end
    obtain ⟨n', rfl⟩ := hf.p (by grind)
    have hbp : bt A r p = -1 := hb.out p (by grind)
    have hpc : pcm (bt A r) p = (p, p) := by
      unfold pcm; rw [hbp, if_neg (by decide), if_neg (by decide), if_neg (by decide)]
    rw [hpc]
    refine ⟨fun h => by exfalso; have h : p = -1 := h; grind, fun _ => ⟨S, ?_, hc⟩⟩
    rw [C_27e hr hc (by grind), if_neg hbd.c, ← hpn]
  · have hp : p < A 5 r := by grind
    have hbp := hb.rg p h0 hp
    obtain ⟨n1, rfl, hf1, e1⟩ := hf.s h0 (by grind)
    by_cases hv : 240 ≤ bt A r p ∧ bt A r p ≤ 246
    · obtain ⟨S1, g1, g2, g3, g4, g5, g6, g7⟩ := T_begin kd26 hbd.c hbd.k hv.1 hv.2
      have hc1 := hc.rx g2 R26
      have hn : S1.1 26 9 = cnt + 1 := by rw [g7, hbd.n]
      rw [C_27b hw hr hc h0 hp g1, if_neg (by decide)]
      unfold pcm
      by_cases c1 : bt A r p = 241 ∨ bt A r p = 243
      · rw [if_pos c1]
        refine ⟨fun _ => ⟨S1, n1, rfl, hf1, hc1, ⟨hn, by rw [g3]; grind, ⟨fun h => ?_, fun h => ?_, fun h => ?_⟩, fun h => ?_⟩⟩, fun h => absurd rfl h⟩
        all_goals rw [g3] at h; grind
      · rw [if_neg c1]
        by_cases hp1 : p + 1 < A 5 r
        · obtain ⟨n2, rfl, hf2, e2⟩ := hf1.s (by grind) (by grind)
          have a2 : p + 1 + 1 = p + 2 := by grind
          rw [a2] at hf2 e2
          have hb1 := hb.rg (p + 1) (by grind) hp1
          by_cases c2 : bt A r p = 240 ∨ bt A r p = 242
          · rw [if_pos c2]
            obtain ⟨S2, k1, k2, k3⟩ := T_pen kd26 (S := S1) (by rw [g3]; exact c2) g6 (bt A r (p + 1))
            have hc2 := hc1.rx k2 R26
            rw [C_27b hw hr hc1 (by grind) hp1 k1, a2]
            by_cases q15 : bt A r (p + 1) ≤ 15
            · have k3 := k3 q15
              have hck : chk (bt A r) (-1) (p + 1) 0 15 = -1 := (chk_ok (by grind)).mpr ⟨hb1.1, q15⟩
              simp only [if_pos q15, e10, if_false, hck]
              refine ⟨fun _ => ⟨S2, n2, by rfl, hf2, hc2, ⟨by rw [k3.2.2.2.2, hn], by rw [k3.1, g3]; grind, ⟨fun _ => k3.2.2.2.1, fun h => ?_, fun h => ?_⟩, fun h => ?_⟩⟩, fun h => absurd rfl h⟩
              all_goals rw [k3.1, g3] at h; grind
            · have hck : chk (bt A r) (-1) (p + 1) 0 15 = p + 1 := chk_no (by grind)
              have hn1 : ¬ (p + 1 = -1) := by grind
              simp only [if_neg q15, if_true, hck]
              exact ⟨fun h => absurd h hn1, fun _ => ⟨S2, rfl, hc2⟩⟩
          · have c3 : bt A r p = 244 ∨ bt A r p = 245 ∨ bt A r p = 246 := by grind
            rw [if_neg c2, if_pos (show 244 ≤ bt A r p ∧ bt A r p ≤ 246 by grind), chp_c (show 0 ≤ p + 1 by grind) (by grind), a2]
            obtain ⟨S2, k1, k2, k3, k4, k5, k6, k7, k8, k9⟩ := T_col kd26 (S := S1) (v := bt A r (p + 1)) (by rw [g3]; exact c3) (Or.inr (by rw [g6]; decide)) (fun _ => by rw [g6]; decide) (by rw [g6]; decide)
            have hc2 := hc1.rx k2 R26
            rw [C_27b hw hr hc1 (by grind) hp1 k1, a2]
            have t1 : S2.1 26 8 = 1 := by rw [k6, g6]; rfl
            by_cases q16 : bt A r (p + 1) < 16
            · have q15 : 0 ≤ bt A r (p + 1) ∧ bt A r (p + 1) ≤ 15 := by grind
              simp only [if_pos q16, e10, if_false, if_pos q15]
              by_cases hp2 : p + 2 < A 5 r
              · obtain ⟨n3, rfl, hf3, e3⟩ := hf2.s (by grind) (by grind)
                have a3 : p + 2 + 1 = p + 3 := by grind
                rw [a3] at hf3 e3
                have hb2 := hb.rg (p + 2) (by grind) hp2
                obtain ⟨S3, j1, j2, j3⟩ := T_row kd26 (S := S2) (v := bt A r (p + 2)) (by rw [k3, g3]; exact c3) (fun _ => by rw [t1]; decide) (by rw [t1]; decide)
                rw [k5] at j1 j3
                have hc3 := hc2.rx j2 R26
                rw [C_27b hw hr hc2 (by grind) hp2 j1, a3]
                by_cases q11 : 0 ≤ bt A r (p + 2) ∧ bt A r (p + 2) ≤ 11
                · have qo : onS (bt A r (p + 1)) (bt A r (p + 2)) := by unfold onS; grind
                  have pt := j3 qo
                  simp only [if_pos qo, e10, if_false, if_pos q11, if_true]
                  have t2 : S3.1 26 8 = 2 := by rw [pt.t, t1]; rfl
                  have lq := C_plp (M := M) hw hr (c := bt A r p) (cnt := cnt + 1) c3 70 (p + 3) (bt A r (p + 1)) (bt A r (p + 2)) S3 n3 (by have := ile h0; have h00 : (0 : Int32).toInt = 0 := rfl; omega) (by grind) (by grind) hc3 ⟨by rw [pt.n, k7, hn], by rw [pt.c, k3, g3], by rw [t2]; grind, fun _ => by rw [t2]; decide, fun _ => ⟨pt.px, pt.py⟩⟩ hf3
                  refine ⟨fun h => ?_, fun h => (lq.2 h).2⟩
                  obtain ⟨S', n', a1, a2, a3, a4, a5, a6⟩ := lq.1 h
                  exact ⟨S', n', a1, a2, a3, a4⟩
                · have qo : ¬ onS (bt A r (p + 1)) (bt A r (p + 2)) := by unfold onS; grind
                  have hn1 : ¬ (p + 2 = -1) := by grind
                  simp only [if_neg qo, if_true, if_neg q11, if_neg hn1]
                  exact ⟨fun h => absurd h hn1, fun _ => ⟨S3, rfl, hc3⟩⟩
              · obtain ⟨n3, rfl⟩ := hf2.p (by grind)
                have hpe : p + 2 = A 5 r := by grind
                have hb2 : bt A r (p + 2) = -1 := hb.out _ (by grind)
                have q11 : ¬ (0 ≤ bt A r (p + 2) ∧ bt A r (p + 2) ≤ 11) := by rw [hb2]; decide
                have hn1 : ¬ (p + 2 = -1) := by grind
                rw [C_27e hr hc2 (by grind), if_neg (show ¬ S2.1 26 0 = 255 by rw [k3, g3]; grind)]
                simp only [if_neg q11, if_neg hn1]
                exact ⟨fun h => absurd h hn1, fun _ => ⟨S2, by rw [hpe], hc2⟩⟩
            · have q15 : ¬ (0 ≤ bt A r (p + 1) ∧ bt A r (p + 1) ≤ 15) := by grind
              have hn1 : ¬ (p + 1 = -1) := by grind
              simp only [if_neg q16, if_true, if_neg q15, if_neg hn1]
              exact ⟨fun h => absurd h hn1, fun _ => ⟨S2, rfl, hc2⟩⟩
        · obtain ⟨n2, rfl⟩ := hf1.p (by grind)
          have hpe : p + 1 = A 5 r := by grind
          have hb1 : bt A r (p + 1) = -1 := hb.out _ (by grind)
          have hn1 : ¬ (p + 1 = -1) := by grind
          have hck : chk (bt A r) (-1) (p + 1) 0 15 = p + 1 := chk_no (by rw [hb1]; decide)
          have hcp : chp (bt A r) (-1) (p + 1) = p + 1 := by rw [chp_c (show 0 ≤ p + 1 by grind) (by grind), if_neg (by rw [hb1]; decide)]
          rw [C_27e hr hc1 (by grind), if_neg (show ¬ S1.1 26 0 = 255 by rw [g3]; grind), hck, hcp, if_neg hn1]
          have : (if bt A r p = 240 ∨ bt A r p = 242 then (p + 1, p + 2) else if 244 ≤ bt A r p ∧ bt A r p ≤ 246 then (p + 1, p) else (p, p)).1 = p + 1 := by
            by_cases c2 : bt A r p = 240 ∨ bt A r p = 242
            · rw [if_pos c2]
            · rw [if_neg c2, if_pos (by grind)]
          rw [this]
          exact ⟨fun h => absurd h hn1, fun _ => ⟨S1, by rw [hpe], hc1⟩⟩
    · have hpc : pcm (bt A r) p = (p, p) := by
        unfold pcm; rw [if_neg (by grind), if_neg (by grind), if_neg (by grind)]
      rw [hpc]
      refine ⟨fun h => by exfalso; have h : p = -1 := h; grind, fun _ => ?_⟩
      by_cases hlow : bt A r p < 240
      · obtain ⟨S1, g1, g2⟩ := T_none kd26 hbd.k (by
          have hbb := hbd.b
          refine ⟨fun h => ?_, fun h => ?_, fun h => ?_⟩
          · have := hbb (Or.inl h); grind
          · have := hbb (Or.inr (Or.inl h)); grind
          · have := hbb (Or.inr (Or.inr h)); grind) hlow
        rw [C_27b hw hr hc h0 hp g1, if_pos rfl]
        exact ⟨S1, rfl, hc.rx g2 R26⟩
      · obtain ⟨S1, g1, g2⟩ := T_bad kd26 hbd.c hbd.k (show 246 < bt A r p by grind) h255
        rw [C_27b hw hr hc h0 hp g1, if_pos rfl]
        exact ⟨S1, rfl, hc.rx g2 R26⟩
end
/-! pictures: the commands' places, and both checks -/
def PP (b : Int32 → Int32) (m : Nat) : Prop := ∀ i, i < m → b (ps b i) ≠ 255 ∧ (pcm b (ps b i)).1 = -1
theorem ps_rg {b : Int32 → Int32} {n : Int32} (hb : BT b n) (m : Nat) (h : PP b m) : (m : Int) ≤ (ps b m).toInt ∧ ps b m ≤ n ∧ 0 ≤ ps b m := by
  induction m with
  | zero => exact ⟨by rw [show ps b 0 = 0 from rfl]; decide, hb.n0, by rw [show ps b 0 = 0 from rfl]; decide⟩
  | succ m ih =>
    have i1 := ih (fun j hj => h j (by omega))
    have hm := h m (by omega)
    have g := (pcm_rg hb i1.2.2 i1.2.1).1 hm.2
    have e : ps b (m + 1) = (pcm b (ps b m)).2 := rfl
    rw [e]
    have := ilt g.1
    refine ⟨by omega, g.2, by grind⟩
theorem pscan_cases {b : Int32 → Int32} {n : Int32} (hb : BT b n) : ∃ m, m ≤ 64 ∧ PP b m ∧ (b (ps b m) = 255 ∨ (b (ps b m) ≠ 255 ∧ (pcm b (ps b m)).1 ≠ -1)) := by
  have key : ∀ k m, m + k = 65 → PP b m → ∃ m, m ≤ 64 ∧ PP b m ∧ (b (ps b m) = 255 ∨ (b (ps b m) ≠ 255 ∧ (pcm b (ps b m)).1 ≠ -1)) := by
    intro k
    induction k with
    | zero =>
      intro m hm h
      exfalso
      have g := ps_rg hb m h
      have := ile g.2.1
      have := ile hb.n64
      have h6 : (64 : Int32).toInt = 64 := rfl
      omega
    | succ k ih =>
      intro m hm h
      by_cases q : b (ps b m) = 255
      · exact ⟨m, by omega, h, Or.inl q⟩
      · by_cases q2 : (pcm b (ps b m)).1 = -1
        · refine ih (m + 1) (by omega) (fun j hj => ?_)
          by_cases qj : j = m
          · subst qj; exact ⟨q, q2⟩
          · exact h j (by omega)
        · exact ⟨m, by omega, h, Or.inr ⟨q, q2⟩⟩
  exact key 65 0 rfl (fun j hj => by omega)
/-- what the check of a picture answers -/
def PRes (b : Int32 → Int32) (n : Int32) (m : Nat) : Int32 := if b (ps b m) = 255 then (if n ≤ ps b m + 1 then Int32.ofNat m else -2 - (ps b m + 1)) else -2 - (pcm b (ps b m)).1
section
variable {A M C : Ab} {z : Option Nat × (Nat → Option Nat)}
theorem C_27l (hw : WF A) {r : Nat} (hr : r < 4) {m : Nat} (hp : PP (bt A r) m) (hm64 : m ≤ 64) (he : bt A r (ps (bt A r) m) = 255 ∨ (bt A r (ps (bt A r) m) ≠ 255 ∧ (pcm (bt A r) (ps (bt A r) m)).1 ≠ -1)) : ∀ (k i : Nat), i + k = m → ∀ (S : St) (n : Nat), CR A M S → Bd (bt A r) 26 S (ps (bt A r) i) (Int32.ofNat i) → Fu n (ps (bt A r) i) → ∃ S', GL_27_0 n S 26 (15 + 2 * r) (ps (bt A r) i) = some (PRes (bt A r) (A 5 r) m, S') ∧ CR A M S' := by
  have hb := hw.b0 hr
  have n6 := hb.n64
  intro k
  induction k with
  | zero =>
    intro i him S n hc hbd hf
    have him : i = m := by omega
    subst him
    have g := ps_rg hb i hp
    unfold PRes
    by_cases q : bt A r (ps (bt A r) i) = 255
    · rw [if_pos q]
      have hlt := hb.lt (p := ps (bt A r) i) (by rw [q]; decide)
      obtain ⟨n1, rfl, hf1, e1⟩ := hf.s g.2.2 (by grind)
      obtain ⟨S1, g1, g2, g3, g4, g5⟩ := T_end kd26 hbd.c hbd.k
      rw [← q] at g1
      have hc1 := hc.rx g2 (Or.inr rfl)
      rw [C_27b hw hr hc g.2.2 hlt g1, if_neg (by decide)]
      by_cases q2 : A 5 r ≤ ps (bt A r) i + 1
      · obtain ⟨n2, rfl⟩ := hf1.p (by grind)
        rw [C_27e hr hc1 q2, if_pos g3, if_pos q2, g5, hbd.n]
        exact ⟨S1, rfl, hc1⟩
      · rw [if_neg q2]
        obtain ⟨n2, rfl, _, _⟩ := hf1.s (by grind) (by grind)
        obtain ⟨S2, k1, k2⟩ := T_after kd26 g3 (v := bt A r (ps (bt A r) i + 1))
        rw [C_27b hw hr hc1 (by grind) (by grind) k1, if_pos rfl]
        exact ⟨S2, rfl, hc1.rx k2 (Or.inr rfl)⟩
    · rw [if_neg q]
      have he : (pcm (bt A r) (ps (bt A r) i)).1 ≠ -1 := by rcases he with h | h; exact absurd h q; exact h.2
      exact (C_pcm hw hr hc g.2.2 g.2.1 hbd hf q).2 he
  | succ k ih =>
    intro i him S n hc hbd hf
    have hi := hp i (by omega)
    have g := ps_rg hb i (fun j hj => hp j (by omega))
    obtain ⟨S1, n1, a1, a2, a3, a4⟩ := (C_pcm hw hr hc g.2.2 g.2.1 hbd hf hi.1).1 hi.2
    rw [a1]
    rw [nj_s] at a4
    exact ih (i + 1) (by omega) S1 n1 a3 a4 a2
theorem C_27 (hw : WF A) {r : Nat} (hr : r < 4) {m : Nat} (hp : PP (bt A r) m) (hm64 : m ≤ 64) (he : bt A r (ps (bt A r) m) = 255 ∨ (bt A r (ps (bt A r) m) ≠ 255 ∧ (pcm (bt A r) (ps (bt A r) m)).1 ≠ -1)) {S : St} (hc : CR A M S) : ∃ S', G_27 S 26 (15 + 2 * r) = some (PRes (bt A r) (A 5 r) m, S') ∧ CR A M S' := by
  unfold G_27 G_28
  simp only [if_pos kd26]
  have hrx : RX 26 S (xa_u (xa_u S.1 26 0 (-1)) 26 9 0, S.2.1, S.2.2) := RX.u.trans RX.u
  refine C_27l hw hr hp hm64 he m 0 (by omega) _ xFu (hc.rx hrx (Or.inr rfl)) ?_ (by unfold Fu xFu; rw [show ps (bt A r) 0 = 0 from rfl]; decide)
  have e0 : (xa_u (xa_u S.1 26 0 (-1)) 26 9 0) 26 0 = -1 := by rw [xa_c (by omega), xa_e]
  have e9 : (xa_u (xa_u S.1 26 0 (-1)) 26 9 0) 26 9 = 0 := xa_e
  refine ⟨e9, ?_, ⟨fun h => ?_, fun h => ?_, fun h => ?_⟩, fun h => ?_⟩
  · show xa_u (xa_u S.1 26 0 (-1)) 26 9 0 26 0 ≠ 255
    rw [e0]; decide
  all_goals (exfalso; have h' := h; simp only [e0] at h'; revert h'; decide)
/-! the model -/
theorem V_122 {S : St} {x : Int32} : G_122 S x = some (sh x, S) := by unfold G_122 sh; grind
theorem M_plp (hw : WF A) {x : Int32} (x0 : 0 ≤ x) (x4 : x < 4) {c : Int32} {T : St} (hm : MR A C z T) (k : Nat) : ∀ (p a b : Int32) (n : Nat), (A 5 x.toNatClampNeg).toInt - p.toInt < k → k + 2 ≤ n → 0 ≤ p → p ≤ A 5 x.toNatClampNeg → ∃ q, GL_119_0 n (tw T (-1)) x c a b p = some (q, tw T (plp (bt A x.toNatClampNeg) k c a b p).1) ∧ ((plp (bt A x.toNatClampNeg) k c a b p).1 = -1 → q = (plp (bt A x.toNatClampNeg) k c a b p).2) := by
  have hr := tn4 x0 x4
  have hb := hw.b0 hr
  have n6 := hb.n64
  have l6 := ile n6
  have h64 : (64 : Int32).toInt = 64 := rfl
  have h00 : (0 : Int32).toInt = 0 := rfl
  induction k with
  | zero =>
    intro p a b n hk hn h0 h1
    have := ile h1
    omega
  | succ k ih =>
    intro p a b n hk hn h0 h1
    have lp0 := ile h0
    obtain ⟨n', rfl⟩ : ∃ n', n = n' + 1 + 1 := ⟨n - 2, by omega⟩
    have m118 : ∀ w, G_118 (tw T w) x p = some (bt A x.toNatClampNeg p, tw T w) := fun w => M_118 hw (hm.tw w) x0 x4 h0
    have stop : ∀ (w : Int32) (a b p' : Int32), 0 ≤ w → GL_119_0 (n' + 1) (tw T w) x c a b p' = some (p', tw T w) := by
      intro w a b p' hw0
      rw [GL_119_0, tw_w, if_pos hw0]
    rw [GL_119_0, tw_w, if_neg (by decide), if_pos ((xin4 x).mpr ⟨x0, x4⟩), (hm.tw _).siz _ hr, plp]
    by_cases hpn : p < A 5 x.toNatClampNeg
    · have hbp := hb.rg p h0 hpn
      have lpn := ilt hpn
      rw [if_neg (show ¬ A 5 x.toNatClampNeg ≤ p by grind)]
      simp only [m118, V_122, V_115, tw_u]
      by_cases h240 : 240 ≤ bt A x.toNatClampNeg p
      · rw [if_pos h240, if_pos (Or.inr h240)]
        exact ⟨p, rfl, fun _ => rfl⟩
      · rw [if_neg h240, if_neg (show ¬ (bt A x.toNatClampNeg p = -1 ∨ 240 ≤ bt A x.toNatClampNeg p) by grind)]
        by_cases q5 : c = 245
        · rw [if_pos q5, if_pos q5]
          have e1 : (p + 1).toInt = p.toInt + 1 := by
            have h11 : (1 : Int32).toInt = 1 := rfl
            rw [iadd] <;> rw [h11] <;> omega
          by_cases qo : onS (a + sh (bt A x.toNatClampNeg p / 16)) (b + sh (bt A x.toNatClampNeg p - bt A x.toNatClampNeg p / 16 * 16))
          · have qo' := qo
            unfold onS at qo'
            have o1 : ¬ (a + sh (bt A x.toNatClampNeg p / 16) < 0 ∨ 15 < a + sh (bt A x.toNatClampNeg p / 16)) := by grind
            have o2 : ¬ (b + sh (bt A x.toNatClampNeg p - bt A x.toNatClampNeg p / 16 * 16) < 0 ∨ 11 < b + sh (bt A x.toNatClampNeg p - bt A x.toNatClampNeg p / 16 * 16)) := by grind
            rw [if_pos qo]
            simp only [if_neg o1, if_neg o2, if_true]
            exact ih (p + 1) _ _ (n' + 1) (by omega) (by omega) (by grind) (by grind)
          · rw [if_neg qo]
            have hn0 : ¬ (p = -1) := by grind
            by_cases o1 : (a + sh (bt A x.toNatClampNeg p / 16) < 0 ∨ 15 < a + sh (bt A x.toNatClampNeg p / 16))
            · simp only [if_pos o1, e10, if_false]
              rw [stop p _ _ _ h0]
              exact ⟨_, rfl, fun h => absurd h hn0⟩
            · have o2 : (b + sh (bt A x.toNatClampNeg p - bt A x.toNatClampNeg p / 16 * 16) < 0 ∨ 11 < b + sh (bt A x.toNatClampNeg p - bt A x.toNatClampNeg p / 16 * 16)) := by unfold onS at qo; grind
              simp only [if_neg o1, if_true, if_pos o2, e10, if_false]
              rw [stop p _ _ _ h0]
              exact ⟨_, rfl, fun h => absurd h hn0⟩
        · rw [if_neg q5, if_neg q5, M_121 hw hm x0 x4 h0 (by grind)]
          simp only []
          have e : chk (bt A x.toNatClampNeg) (chk (bt A x.toNatClampNeg) (-1) p 0 15) (p + 1) 0 11 = chp (bt A x.toNatClampNeg) (-1) p := rfl
          rw [e, chp_c h0 (by grind)]
          by_cases q1 : 0 ≤ bt A x.toNatClampNeg p ∧ bt A x.toNatClampNeg p ≤ 15
          · simp only [if_pos q1]
            by_cases q2 : 0 ≤ bt A x.toNatClampNeg (p + 1) ∧ bt A x.toNatClampNeg (p + 1) ≤ 11
            · simp only [if_pos q2, if_true]
              have hp1 := hb.lt q2.1
              have s4 := sm4 h0 hpn hp1 n6
              have e2 := ilt s4.1
              exact ih (p + 2) _ _ (n' + 1) (by omega) (by omega) (by grind) s4.2
            · have hn1 : ¬ (p + 1 = -1) := by grind
              simp only [if_neg q2, if_neg hn1]
              rw [stop (p + 1) _ _ _ (by grind)]
              exact ⟨_, rfl, fun h => absurd h hn1⟩
          · have hn1 : ¬ (p = -1) := by grind
            simp only [if_neg q1, if_neg hn1]
            rw [stop p _ _ _ h0]
            exact ⟨_, rfl, fun h => absurd h hn1⟩
    · have hbp : bt A x.toNatClampNeg p = -1 := hb.out p (by grind)
      rw [if_pos (show A 5 x.toNatClampNeg ≤ p by grind), if_pos (Or.inl hbp)]
      exact ⟨p, rfl, fun _ => rfl⟩
theorem M_119 (hw : WF A) {x : Int32} (x0 : 0 ≤ x) (x4 : x < 4) {T : St} (hm : MR A C z T) {p : Int32} (h0 : 0 ≤ p) (h1 : p ≤ A 5 x.toNatClampNeg) : ∃ q, G_119 (tw T (-1)) x p = some (q, tw T (pcm (bt A x.toNatClampNeg) p).1) ∧ ((pcm (bt A x.toNatClampNeg) p).1 = -1 → q = (pcm (bt A x.toNatClampNeg) p).2) := by
  have hr := tn4 x0 x4
  have hb := hw.b0 hr
  have n6 := hb.n64
  have m118 : ∀ w, G_118 (tw T w) x p = some (bt A x.toNatClampNeg p, tw T w) := fun w => M_118 hw (hm.tw w) x0 x4 h0
  have m118a : ∀ w, G_118 (tw T w) x (p + 1) = some (bt A x.toNatClampNeg (p + 1), tw T w) := fun w => M_118 hw (hm.tw w) x0 x4 (by grind)
  have m118b : ∀ w, G_118 (tw T w) x (p + 2) = some (bt A x.toNatClampNeg (p + 2), tw T w) := fun w => M_118 hw (hm.tw w) x0 x4 (by grind)
  have m120 : ∀ w l h, G_120 (tw T w) x (p + 1) l h = some ((), tw T (chk (bt A x.toNatClampNeg) w (p + 1) l h)) := fun w l h => M_120 hw hm x0 x4 (by grind) w
  have m120p : ∀ w l h, G_120 (tw T w) x p l h = some ((), tw T (chk (bt A x.toNatClampNeg) w p l h)) := fun w l h => M_120 hw hm x0 x4 h0 w
  have m121 : ∀ w, G_121 (tw T w) x (p + 1) = some ((), tw T (chk (bt A x.toNatClampNeg) (chk (bt A x.toNatClampNeg) w (p + 1) 0 15) (p + 1 + 1) 0 11)) := fun w => M_121 hw hm x0 x4 (by grind) (by grind) w
  unfold G_119 pcm
  simp only [m118, m118a, m118b, m120, m120p, m121]
  have stop : ∀ (w c a b p' : Int32), 0 ≤ w → GL_119_0 xFu (tw T w) x c a b p' = some (p', tw T w) := by
    intro w c a b p' hw0
    rw [show xFu = 999999 + 1 from rfl, GL_119_0, tw_w, if_pos hw0]
  by_cases c1 : bt A x.toNatClampNeg p = 241
  · rw [if_pos c1, if_pos (Or.inl c1)]; exact ⟨_, rfl, fun _ => rfl⟩
  · rw [if_neg c1]
    by_cases c3 : bt A x.toNatClampNeg p = 243
    · rw [if_pos c3, if_pos (Or.inr c3)]; exact ⟨_, rfl, fun _ => rfl⟩
    · rw [if_neg c3, if_neg (show ¬ (bt A x.toNatClampNeg p = 241 ∨ bt A x.toNatClampNeg p = 243) by grind)]
      by_cases c0 : bt A x.toNatClampNeg p = 240
      · rw [if_pos c0, if_pos (Or.inl c0)]; exact ⟨_, rfl, fun _ => rfl⟩
      · rw [if_neg c0]
        by_cases c2 : bt A x.toNatClampNeg p = 242
        · rw [if_pos c2, if_pos (Or.inr c2)]; exact ⟨_, rfl, fun _ => rfl⟩
        · rw [if_neg c2, if_neg (show ¬ (bt A x.toNatClampNeg p = 240 ∨ bt A x.toNatClampNeg p = 242) by grind)]
          by_cases c4 : 244 ≤ bt A x.toNatClampNeg p ∧ bt A x.toNatClampNeg p ≤ 246
          · have hp := hb.lt (p := p) (by grind)
            rw [if_pos c4, (chk_ok h0).mpr c4]
            have e : chk (bt A x.toNatClampNeg) (chk (bt A x.toNatClampNeg) (-1) (p + 1) 0 15) (p + 1 + 1) 0 11 = chp (bt A x.toNatClampNeg) (-1) (p + 1) := rfl
            rw [e]
            by_cases q : chp (bt A x.toNatClampNeg) (-1) (p + 1) = -1
            · rw [if_pos q, q]
              have q' := q
              rw [chp_c (show 0 ≤ p + 1 by grind) (by grind)] at q'
              have a2 : p + 1 + 1 = p + 2 := by grind
              rw [a2] at q'
              have hp2 : p + 2 < A 5 x.toNatClampNeg := by
                by_cases k1 : 0 ≤ bt A x.toNatClampNeg (p + 1) ∧ bt A x.toNatClampNeg (p + 1) ≤ 15
                · rw [if_pos k1] at q'
                  by_cases k2 : 0 ≤ bt A x.toNatClampNeg (p + 2) ∧ bt A x.toNatClampNeg (p + 2) ≤ 11
                  · exact hb.lt k2.1
                  · rw [if_neg k2] at q'; grind
                · rw [if_neg k1] at q'; grind
              have l6 := ile n6
              have h64 : (64 : Int32).toInt = 64 := rfl
              have h00 : (0 : Int32).toInt = 0 := rfl
              have l3 := ile (show (0 : Int32) ≤ p + 3 by grind)
              exact M_plp hw x0 x4 hm 70 (p + 3) _ _ xFu (by omega) (by decide) (by grind) (by grind)
            · have hge : 0 ≤ chp (bt A x.toNatClampNeg) (-1) (p + 1) := by
                rw [chp_c (show 0 ≤ p + 1 by grind) (by grind)] at q ⊢
                split <;> rename_i h1
                · split <;> rename_i h2
                  · rw [if_pos h1, if_pos h2] at q; exact absurd rfl q
                  · grind
                · grind
              rw [if_neg q, stop _ _ _ _ _ hge]
              exact ⟨_, rfl, fun h => absurd h q⟩
          · have hn0 : ¬ (p = -1) := by grind
            rw [if_neg c4, chk_no c4, chk_w h0, chk_w h0, stop _ _ _ _ _ h0]
            exact ⟨_, rfl, fun h => absurd h hn0⟩
end
/-! faults lie within the bytes, or right behind them -/
theorem chk_le {b : Int32 → Int32} {n p l h : Int32} (hn : 0 ≤ n) (hp : p ≤ n) : chk b (-1) p l h ≤ n := by
  unfold chk; grind
theorem ops_le {b : Int32 → Int32} {n : Int32} (hb : BT b n) (L : List Int32) : ∀ p, 0 ≤ p → p ≤ n → ops b (-1) p L ≤ n := by
  have n0 := hb.n0
  induction L with
  | nil => intro p h0 _; show (-1 : Int32) ≤ n; grind
  | cons c L ih =>
    intro p h0 h1
    rw [ops_c h0]
    by_cases h : lo c (b p) ≤ b p ∧ b p ≤ hi c
    · rw [if_pos h]
      have g := lo_ge c (b p)
      have hp := hb.lt (p := p) (by grind)
      have n6 := hb.n64
      exact ih (p + 1) (by grind) (by grind)
    · rw [if_neg h]; exact h1
theorem prs_le {b : Int32 → Int32} {n : Int32} (hb : BT b n) (k : Nat) : ∀ p, 0 ≤ p → p ≤ n → (prs b k p).1 ≤ n := by
  have n6 := hb.n64
  induction k with
  | zero =>
    intro p h0 h1
    rw [prs]
    by_cases h : 0 ≤ b p ∧ b p < 5
    · rw [if_pos h]
      have hp := hb.lt h.1
      exact ops_le hb _ _ (by grind) (by grind)
    · rw [if_neg h]; exact h1
  | succ k ih =>
    intro p h0 h1
    rw [prs]
    by_cases h : 0 ≤ b p ∧ b p < 5
    · rw [if_pos h]
      have hp := hb.lt h.1
      exact ops_le hb _ _ (by grind) (by grind)
    · rw [if_neg h]
      by_cases h5 : 5 ≤ b p ∧ b p ≤ 7
      · rw [if_pos h5]
        have hp := hb.lt (p := p) (by grind)
        have i1 := ih (p + 1) (by grind) (by grind)
        by_cases q : (prs b k (p + 1)).1 = -1
        · rw [if_pos q]
          have g := (prs_rg hb k (p + 1) (by grind) (by grind)).1 q
          by_cases q5 : b p = 5
          · rw [if_pos q5]; exact i1
          · rw [if_neg q5]; exact ih _ (by grind) g.2
        · rw [if_neg q]; exact i1
      · rw [if_neg h5]; exact h1
theorem ins_le {b : Int32 → Int32} {n : Int32} (hb : BT b n) {p : Int32} (h0 : 0 ≤ p) (h1 : p < n) : (ins b p).1 ≤ n := by
  have n6 := hb.n64
  unfold ins
  by_cases h : 0 ≤ b p ∧ b p ≤ 18
  · rw [if_pos h]
    by_cases h8 : b p = 8
    · rw [if_pos h8]
      by_cases q : (prs b 6 (p + 1)).1 = -1
      · rw [if_pos q]
        have g := (prs_rg hb 6 (p + 1) (by grind) (by grind)).1 q
        exact chk_le hb.n0 g.2
      · rw [if_neg q]; exact prs_le hb 6 _ (by grind) (by grind)
    · rw [if_neg h8]; exact ops_le hb _ _ (by grind) (by grind)
  · rw [if_neg h]; exact (by grind : p ≤ n)
theorem Fj_le {b : Int32 → Int32} {n : Int32} {m : Nat} (hb : BT b n) (h : Pfx b n m) : ∀ k, k ≤ m → Fj b m k ≤ n := by
  have n0 := hb.n0
  intro k
  induction k with
  | zero => intro _; show (-1 : Int32) ≤ n; grind
  | succ k ih =>
    intro hk
    rw [Fj]
    by_cases q : bad b m (m - (k + 1))
    · rw [if_pos q]; exact (sq_rg hb (m - (k + 1)) (fun j hj => h j (by omega))).2.1
    · rw [if_neg q]; exact ih (by omega)
theorem chp_le {b : Int32 → Int32} {n p : Int32} (hb : BT b n) (h0 : 0 ≤ p) (h1 : p ≤ n) : chp b (-1) p ≤ n := by
  have n6 := hb.n64
  have n0 := hb.n0
  rw [chp_c h0 (by grind)]
  by_cases q : 0 ≤ b p ∧ b p ≤ 15
  · rw [if_pos q]
    have hp := hb.lt q.1
    by_cases q2 : 0 ≤ b (p + 1) ∧ b (p + 1) ≤ 11
    · rw [if_pos q2]; grind
    · rw [if_neg q2]; grind
  · rw [if_neg q]; exact h1
theorem plp_le {b : Int32 → Int32} {n : Int32} (hb : BT b n) (k : Nat) : ∀ (c x y p : Int32), 0 ≤ p → p ≤ n → (plp b k c x y p).1 ≤ n := by
  have n6 := hb.n64
  have n0 := hb.n0
  induction k with
  | zero => intro c x y p h0 h1; show (-1 : Int32) ≤ n; grind
  | succ k ih =>
    intro c x y p h0 h1
    rw [plp]
    by_cases he : b p = -1 ∨ 240 ≤ b p
    · rw [if_pos he]; show (-1 : Int32) ≤ n; grind
    · rw [if_neg he]
      have hp := hb.lt (p := p) (by have := hb.in h0; grind)
      by_cases q5 : c = 245
      · rw [if_pos q5]
        by_cases qo : onS (x + sh (b p / 16)) (y + sh (b p - b p / 16 * 16))
        · rw [if_pos qo]; exact ih _ _ _ _ (by grind) (by grind)
        · rw [if_neg qo]; exact h1
      · rw [if_neg q5]
        by_cases q : chp b (-1) p = -1
        · rw [if_pos q]
          rw [chp_c h0 (by grind)] at q
          have hp1 : p + 1 < n := by
            by_cases q1 : 0 ≤ b p ∧ b p ≤ 15
            · rw [if_pos q1] at q
              by_cases q2 : 0 ≤ b (p + 1) ∧ b (p + 1) ≤ 11
              · exact hb.lt q2.1
              · rw [if_neg q2] at q; grind
            · rw [if_neg q1] at q; grind
          have s4 := sm4 h0 hp hp1 n6
          exact ih _ _ _ _ (by grind) s4.2
        · rw [if_neg q]; exact chp_le hb h0 h1
theorem pcm_le {b : Int32 → Int32} {n : Int32} (hb : BT b n) {p : Int32} (h0 : 0 ≤ p) (h1 : p ≤ n) : (pcm b p).1 ≤ n := by
  have n6 := hb.n64
  have n0 := hb.n0
  unfold pcm
  by_cases c1 : b p = 241 ∨ b p = 243
  · rw [if_pos c1]; show (-1 : Int32) ≤ n; grind
  · rw [if_neg c1]
    by_cases c2 : b p = 240 ∨ b p = 242
    · rw [if_pos c2]
      have hp := hb.lt (p := p) (by grind)
      exact chk_le n0 (by grind)
    · rw [if_neg c2]
      by_cases c3 : 244 ≤ b p ∧ b p ≤ 246
      · rw [if_pos c3]
        have hp := hb.lt (p := p) (by grind)
        by_cases q : chp b (-1) (p + 1) = -1
        · rw [if_pos q]
          have q' := q
          rw [chp_c (show 0 ≤ p + 1 by grind) (by grind)] at q'
          have a2 : p + 1 + 1 = p + 2 := by grind
          rw [a2] at q'
          have hp2 : p + 2 < n := by
            by_cases k1 : 0 ≤ b (p + 1) ∧ b (p + 1) ≤ 15
            · rw [if_pos k1] at q'
              by_cases k2 : 0 ≤ b (p + 2) ∧ b (p + 2) ≤ 11
              · exact hb.lt k2.1
              · rw [if_neg k2] at q'; grind
            · rw [if_neg k1] at q'; grind
          exact plp_le hb 70 _ _ _ _ (by grind) (by grind)
        · rw [if_neg q]; exact chp_le hb (by grind) (by grind)
      · rw [if_neg c3]; exact h1
theorem neg2 {w : Int32} (h0 : 0 ≤ w) (h1 : w ≤ 100) : -2 - w < 0 := by grind
section
variable {A M C : Ab} {z : Option Nat × (Nat → Option Nat)}
def PMs (A : Ab) (m : Nat) (v : Int32) (T' : St) : Prop := (if T'.1 29 7 < 0 then v else -2 - T'.1 29 7) = PRes (bt A 0) (A 5 0) m ∧ (T'.1 29 7 < 0 ↔ bt A 0 (ps (bt A 0) m) = 255 ∧ A 5 0 ≤ ps (bt A 0) m + 1)
theorem M_117l (hw : WF A) {m : Nat} (hp : PP (bt A 0) m) (hm64 : m ≤ 64) (he : bt A 0 (ps (bt A 0) m) = 255 ∨ (bt A 0 (ps (bt A 0) m) ≠ 255 ∧ (pcm (bt A 0) (ps (bt A 0) m)).1 ≠ -1)) {T : St} (hm : MR A C z T) : ∀ (k i : Nat), i + k = m → ∀ (n : Nat), k + 3 ≤ n → ∃ v T', GL_117_0 n (tw T (-1)) (ps (bt A 0) i) (Int32.ofNat i) = some (v, T') ∧ MR A C z T' ∧ PMs A m v T' := by
  have hb := hw.b0 (show 0 < 4 by decide)
  have n6 := hb.n64
  have z0 : (0 : Int32).toNatClampNeg = 0 := rfl
  intro k
  induction k with
  | zero =>
    intro i him n hn
    have him : i = m := by omega
    subst him
    obtain ⟨n', rfl⟩ : ∃ n', n = n' + 1 + 1 := ⟨n - 2, by omega⟩
    have g := ps_rg hb i hp
    have m118 := M_118 hw (hm.tw (-1)) (x := 0) (by decide) (by decide) g.2.2
    rw [z0] at m118
    rw [GL_117_0, tw_w, if_neg (by decide), m118]
    simp only [tw_w, z0, (hm.tw (-1)).siz 0 (by decide), tw_u]
    unfold PMs PRes
    by_cases q : bt A 0 (ps (bt A 0) i) = 255
    · rw [if_pos q, if_neg (by decide), if_pos q]
      by_cases q2 : A 5 0 ≤ ps (bt A 0) i + 1
      · rw [if_pos q2, if_pos q2]
        refine ⟨_, _, rfl, hm.tw _, ?_, ?_⟩
        · rw [tw_w]; rfl
        · rw [tw_w]; exact ⟨fun _ => ⟨q, q2⟩, fun _ => by decide⟩
      · rw [if_neg q2, if_neg q2]
        have hge : ¬ (ps (bt A 0) i + 1 < 0) := by grind
        refine ⟨_, _, rfl, hm.tw _, ?_, ?_⟩
        · rw [tw_w, if_neg hge]
        · rw [tw_w]; exact ⟨fun h => absurd h hge, fun h => absurd h.2 q2⟩
    · rw [if_neg q, if_neg q]
      have he : (pcm (bt A 0) (ps (bt A 0) i)).1 ≠ -1 := by rcases he with h | h; exact absurd h q; exact h.2
      obtain ⟨w, a1, a2⟩ := M_119 hw (x := 0) (by decide) (by decide) hm g.2.2 g.2.1
      rw [z0] at a1
      rw [a1]
      simp only []
      have hge : 0 ≤ (pcm (bt A 0) (ps (bt A 0) i)).1 := by rcases (pcm_rg hb g.2.2 g.2.1).2 with h | h; exact absurd h he; exact h
      rw [GL_117_0, tw_w, if_pos hge]
      refine ⟨_, _, rfl, hm.tw _, ?_, ?_⟩
      · rw [tw_w, if_neg (by grind)]
      · rw [tw_w]; exact ⟨fun h => by exfalso; grind, fun h => absurd h.1 q⟩
  | succ k ih =>
    intro i him n hn
    obtain ⟨n', rfl⟩ : ∃ n', n = n' + 1 := ⟨n - 1, by omega⟩
    have hi := hp i (by omega)
    have g := ps_rg hb i (fun j hj => hp j (by omega))
    have m118 := M_118 hw (hm.tw (-1)) (x := 0) (by decide) (by decide) g.2.2
    rw [z0] at m118
    obtain ⟨w, a1, a2⟩ := M_119 hw (x := 0) (by decide) (by decide) hm g.2.2 g.2.1
    rw [z0] at a1 a2
    have a2 := a2 hi.2
    rw [GL_117_0, tw_w, if_neg (by decide), m118]
    simp only [if_neg hi.1, a1, hi.2, a2, nj_s]
    exact ih (i + 1) (by omega) n' (by omega)
theorem WF_ulod (hw : WF A) {r : Nat} (hr : r < 4) (h0 : r = 0 → PicOK (bt A 0) (A 5 0)) (h1 : r ≠ 0 → LogOK (bt A r) (A 5 r)) : WF (xa_u A 6 r 1) := by
  have bte : ∀ r', bt (xa_u A 6 r 1) r' = bt A r' ∨ 4 ≤ r' := by
    intro r'
    by_cases q : r' < 4
    · refine Or.inl ?_
      funext p
      unfold bt
      rw [xa_c (by omega), xa_c (by omega)]
    · exact Or.inr (by omega)
  have bte : ∀ r', r' < 4 → bt (xa_u A 6 r 1) r' = bt A r' := fun r' h => by rcases bte r' with h' | h'; exact h'; omega
  refine ⟨?lim_0, ?siz_0, ?byt_0, ?act_0, ?gfl_0, ?flg_0, ?log_0, ?pic_0⟩
  · rw [xa_c (by omega)]; exact hw.lim
  · intro r' h'; rw [xa_c (by omega)]; exact hw.siz r' h'
  · intro r' j' h' hj; rw [xa_c (by omega)]; exact hw.byt r' j' h' hj
  · intro o ho; rw [xa_c (by omega), xa_c (by omega), xa_c (by omega)]; exact hw.act o ho
  · intro o ho; rw [xa_c (by omega)]; exact hw.gfl o ho
  · intro o ho; rw [xa_c (by omega)]; exact hw.flg o ho
  · intro r' g1 g2 g3
    rw [bte r' g2, xa_c (by omega)]
    by_cases q : r' = r
    · subst q; exact h1 (by omega)
    · rw [xa_c (by omega)] at g3; exact hw.log r' g1 g2 g3
  · intro g3
    rw [bte 0 (by decide), xa_c (by omega)]
    by_cases q : 0 = r
    · exact h0 q.symm
    · rw [xa_c (by omega)] at g3; exact hw.pic g3
end
theorem s_99 (x : Int32) : Same (fun S => G_99 S x) (fun S => G_116 S x) := by
  intro A M C z S T hw hc hm
  unfold G_99 G_116
  simp only [V_50, V_115]
  by_cases hx : 0 ≤ x ∧ x < 4
  · have hr := tn4 hx.1 hx.2
    have hb := hw.b0 hr
    have e1 : ¬ (x < 0 ∨ 3 < x) := by grind
    simp only [if_pos hx, if_neg e1, if_true, if_pos (kd_res hr), if_pos ((xin4 x).mpr hx), hc.lod _ hr, hm.lod _ hr]
    by_cases hl : A 6 x.toNatClampNeg = 0
    · rw [if_pos hl, if_pos hl]
      have hid : xa_u A 6 x.toNatClampNeg 0 = A := by
        have := @xa_id A 6 x.toNatClampNeg
        rw [hl] at this
        exact this
      by_cases x00 : x = 0
      · subst x00
        have z0 : (0 : Int32).toNatClampNeg = 0 := rfl
        rw [z0] at hr hb hl hid ⊢
        simp only [if_true]
        obtain ⟨m, m1, m2, m3⟩ := pscan_cases hb
        obtain ⟨S1, a1, a2⟩ := C_27 (M := M) hw (show 0 < 4 by decide) m2 m1 m3 hc
        obtain ⟨v, T1, b1, b2, b3, b4⟩ := M_117l (C := C) (z := z) hw m2 m1 m3 hm m 0 (by omega) xFu (by unfold xFu; omega)
        have b1' : G_117 (xa_u T.1 29 7 (-1), T.2.1, T.2.2) = some (v, T1) := b1
        rw [a1, b1']
        simp only []
        by_cases q : T1.1 29 7 < 0
        · have hq := b4.mp q
          rw [if_pos q] at b3 ⊢
          have hres : PRes (bt A 0) (A 5 0) m = Int32.ofNat m := by unfold PRes; rw [if_pos hq.1, if_pos hq.2]
          rw [hres] at b3 ⊢
          have hge : ¬ (Int32.ofNat m < 0) := by
            rw [Int32.lt_iff_toInt_lt, ni_i (by omega)]
            have h00 : (0 : Int32).toInt = 0 := rfl
            omega
          rw [if_neg hge, b3]
          refine ⟨_, _, _, _, rfl, rfl, a2.ulod (show 0 < 4 by decide) 1, b2.ulod (show 0 < 4 by decide) 1, WF_ulod hw (by decide) (fun _ => ⟨m, hq.1, ?_, m2⟩) (fun h => absurd rfl h)⟩
          have hlt := hb.lt (p := ps (bt A 0) m) (by rw [hq.1]; decide)
          have n6 := hb.n64
          have g := ps_rg hb m m2
          grind
        · have hq : ¬ (bt A 0 (ps (bt A 0) m) = 255 ∧ A 5 0 ≤ ps (bt A 0) m + 1) := fun h => q (b4.mpr h)
          rw [if_neg q] at b3 ⊢
          rw [b3]
          have hneg : PRes (bt A 0) (A 5 0) m < 0 := by
            have n6 := hb.n64
            have g := ps_rg hb m m2
            unfold PRes
            by_cases k : bt A 0 (ps (bt A 0) m) = 255
            · have hlt := hb.lt (p := ps (bt A 0) m) (by rw [k]; decide)
              rw [if_pos k, if_neg (fun h => hq ⟨k, h⟩)]
              exact neg2 (by grind) (by grind)
            · rw [if_neg k]
              have h3 : (pcm (bt A 0) (ps (bt A 0) m)).1 ≠ -1 := by rcases m3 with h | h; exact absurd h k; exact h.2
              have h4 := pcm_le hb g.2.2 g.2.1
              refine neg2 (by rcases (pcm_rg hb g.2.2 g.2.1).2 with h | h; exact absurd h h3; exact h) (by grind)
          rw [if_pos hneg]
          have := a2.ulod (show 0 < 4 by decide) 0
          rw [hid] at this
          exact ⟨_, A, _, _, rfl, rfl, this, b2, hw⟩
      · simp only [if_neg x00]
        have hr0 : x.toNatClampNeg ≠ 0 := fun h => x00 (tn_inj hx.1 (by decide) h)
        obtain ⟨m, m1, m2, m3⟩ := scan_cases hb
        obtain ⟨S1, a1, a2⟩ := C_58 (M := M) hw hr m2 m1 m3 hc
        obtain ⟨v, T1, b1, b2, b3, b4⟩ := M_123 (C := C) (z := z) hw hx.1 hx.2 m2 m1 m3 (hm.tw (-1)) (tw_w _ _)
        have b1' : G_123 (xa_u T.1 29 7 (-1), T.2.1, T.2.2) x = some (v, T1) := b1
        rw [a1, b1']
        simp only []
        by_cases q : T1.1 29 7 < 0
        · have hq := b4.mp q
          rw [if_pos q] at b3 ⊢
          have hres : LRes (bt A x.toNatClampNeg) (A 5 x.toNatClampNeg) m = Int32.ofNat m := by unfold LRes; rw [if_pos hq.1, if_pos hq.2]
          rw [hres] at b3 ⊢
          have hge : ¬ (Int32.ofNat m < 0) := by
            rw [Int32.lt_iff_toInt_lt, ni_i (by omega)]
            have h00 : (0 : Int32).toInt = 0 := rfl
            omega
          rw [if_neg hge, b3]
          exact ⟨_, _, _, _, rfl, rfl, a2.ulod hr 1, b2.ulod hr 1, WF_ulod hw hr (fun h => absurd h hr0) (fun _ => LogOK_of hb m2 hq.1 hq.2)⟩
        · rw [if_neg q] at b3 ⊢
          rw [b3]
          have hneg : LRes (bt A x.toNatClampNeg) (A 5 x.toNatClampNeg) m < 0 := by
            have n6 := hb.n64
            have g := sq_rg hb m m2
            unfold LRes
            by_cases k : sq (bt A x.toNatClampNeg) m = A 5 x.toNatClampNeg
            · have hf : Fj (bt A x.toNatClampNeg) m m ≠ -1 := fun h => q (b4.mpr ⟨k, h⟩)
              rw [if_pos k, if_neg hf]
              have h4 := Fj_le hb m2 m (by omega)
              refine neg2 (by rcases Fj_ge hb m2 m (by omega) with h | h; exact absurd h hf; exact h) (by grind)
            · rw [if_neg k]
              have h3 : sq (bt A x.toNatClampNeg) m < A 5 x.toNatClampNeg ∧ (ins (bt A x.toNatClampNeg) (sq (bt A x.toNatClampNeg) m)).1 ≠ -1 := by rcases m3 with h | h; exact absurd h k; exact h
              have h4 := ins_le hb g.2.2 h3.1
              refine neg2 (by rcases (ins_rg hb g.2.2 h3.1).2 with h | h; exact absurd h h3.2; exact h) (by grind)
          rw [if_pos hneg]
          have := a2.ulod hr 0
          rw [hid] at this
          exact ⟨_, A, _, _, rfl, rfl, this, b2, hw⟩
    · rw [if_neg hl, if_neg hl]
      exact ⟨-1, A, S, T, rfl, rfl, hc, hm, hw⟩
  · have e1 : (x < 0 ∨ 3 < x) := by grind
    simp only [if_neg hx, if_pos e1]
    exact ⟨-1, A, S, T, rfl, by simp, hc, hm, hw⟩
