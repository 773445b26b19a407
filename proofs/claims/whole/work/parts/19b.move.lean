/-! The pure part (19b.move): both halves answer alike -/
theorem iadd {x y : Int32} (h1 : -2147483648 ≤ x.toInt + y.toInt) (h2 : x.toInt + y.toInt < 2147483648) : (x + y).toInt = x.toInt + y.toInt := by
  rw [Int32.toInt_add]; apply Int.bmod_eq_of_le <;> omega
theorem ile {x y : Int32} (h : x ≤ y) : x.toInt ≤ y.toInt := Int32.le_iff_toInt_le.mp h
theorem ilt {x y : Int32} (h : x < y) : x.toInt < y.toInt := Int32.lt_iff_toInt_lt.mp h
section
variable {A M C : Ab} {z : Option Nat × (Nat → Option Nat)} {S T : St}
/-- how many cells of a base have the control value c -/
theorem C_45 (hc : CR A M S) {c x y w : Int32} (hx : 0 ≤ x ∧ x < 16 ∧ 0 ≤ w ∧ w ≤ 4 ∧ x + w ≤ 16) (hy : 0 ≤ y ∧ y < 12) : ∃ v, G_45 S c x y w = some (v, S) ∧ 0 ≤ v ∧ v ≤ w ∧ (v = 0 ↔ ∀ j, x ≤ j → j < x + w → A 2 (16 * y + j).toNatClampNeg ≠ c) ∧ (v = w ↔ ∀ j, x ≤ j → j < x + w → A 2 (16 * y + j).toNatClampNeg = c) := by
  have key : ∀ (j : Int32) (n : Nat), x ≤ j → j ≤ x + w → ((x + w).toInt - j.toInt) < n → ∀ u : Int32, 0 ≤ u → u ≤ j - x → ∃ v, GL_45_0 n S c x y w u j = some (v, S) ∧ u ≤ v ∧ v ≤ u + (x + w - j) ∧ (v = u ↔ ∀ l, j ≤ l → l < x + w → A 2 (16 * y + l).toNatClampNeg ≠ c) ∧ (v = u + (x + w - j) ↔ ∀ l, j ≤ l → l < x + w → A 2 (16 * y + l).toNatClampNeg = c) := by
    refine up_ind (P := fun j n => ∀ u : Int32, 0 ≤ u → u ≤ j - x → ∃ v, GL_45_0 n S c x y w u j = some (v, S) ∧ u ≤ v ∧ v ≤ u + (x + w - j) ∧ (v = u ↔ ∀ l, j ≤ l → l < x + w → A 2 (16 * y + l).toNatClampNeg ≠ c) ∧ (v = u + (x + w - j) ↔ ∀ l, j ≤ l → l < x + w → A 2 (16 * y + l).toNatClampNeg = c)) ?_ ?_
    · intro n u u0 u1
      refine ⟨u, by rw [GL_45_0, if_pos (by grind)], by grind, by grind, ?_, ?_⟩
      · exact ⟨fun _ l h1 h2 => by grind, fun _ => rfl⟩
      · exact ⟨fun _ l h1 h2 => by grind, fun _ => by grind⟩
    · intro j n h1 h2 ih u u0 u1
      have h5 : 0 ≤ j ∧ j < 16 ∧ 0 ≤ y ∧ y < 12 := by grind
      rw [GL_45_0, if_neg (by grind)]
      simp only [V_46, if_pos h5, hc.ctl _ (n192 h5)]
      have key : ∀ l, j ≤ l → l = j ∨ j + 1 ≤ l := by intro l hl; grind
      by_cases hv : A 2 (16 * y + j).toNatClampNeg = c
      · rw [if_pos hv]
        obtain ⟨v, e1, e2, e3, e4, e5⟩ := ih (u + 1) (by grind) (by grind)
        refine ⟨v, e1, by grind, by grind, ⟨fun hq => by exfalso; grind, fun hq => absurd hv (hq j (by grind) h2)⟩, ⟨fun hq l k1 k2 => ?_, fun hq => ?_⟩⟩
        · rcases key l k1 with rfl | k
          · exact hv
          · exact e5.mp (by grind) l k k2
        · have := e5.mpr (fun l k1 k2 => hq l (by grind) k2); grind
      · rw [if_neg hv]
        obtain ⟨v, e1, e2, e3, e4, e5⟩ := ih u u0 (by grind)
        refine ⟨v, e1, e2, by grind, ⟨fun hq l k1 k2 => ?_, fun hq => e4.mpr (fun l k1 k2 => hq l (by grind) k2)⟩, ⟨fun hq => by exfalso; grind, fun hq => absurd (hq j (by grind) h2) hv⟩⟩
        rcases key l k1 with rfl | k
        · exact hv
        · exact e4.mp hq l k k2
  have hb : ((x + w).toInt - x.toInt) < xFu := by
    have := ile hx.2.2.2.2; have := ile hx.1
    have h0 : (0 : Int32).toInt = 0 := rfl
    have h1 : (16 : Int32).toInt = 16 := rfl
    unfold xFu; omega
  obtain ⟨v, e1, e2, e3, e4, e5⟩ := key x xFu (by grind) (by grind) hb 0 (by decide) (by grind)
  refine ⟨v, e1, e2, by grind, e4, ?_⟩
  have : 0 + (x + w - x) = w := by grind
  rw [this] at e5
  exact e5
def BarP (A : Ab) (o : Nat) (x y : Int32) : Prop := priA A o ≠ 15 ∧ ∃ j, x ≤ j ∧ j < x + A 22 o ∧ (A 2 (16 * y + j).toNatClampNeg = 0 ∨ (A 2 (16 * y + j).toNatClampNeg = 1 ∧ A 28 o = 0))
theorem C_94 (hc : CR A M S) {o : Nat} (ho : o < 4) {x y : Int32} (hx : 0 ≤ x ∧ x < 16 ∧ 0 ≤ A 22 o ∧ A 22 o ≤ 4 ∧ x + A 22 o ≤ 16) (hy : 0 ≤ y ∧ y < 12) : ∃ v, G_94 S (11 + o) x y = some (v, S) ∧ (v = 0 ↔ ¬ BarP A o x y) := by
  have hk := hc.ks ho
  have k2 : S.1 (11 + o) 2 = A 22 o := hk.2.2.1
  have k8 : S.1 (11 + o) 8 = A 28 o := hk.2.2.2.2.2.2.2.2.1
  obtain ⟨v0, a1, a2, a3, a4, a5⟩ := C_45 hc (c := 0) hx hy
  obtain ⟨v1, b1, b2, b3, b4, b5⟩ := C_45 hc (c := 1) hx hy
  unfold G_94
  rw [if_pos (kd_act ho)]
  simp only [C_19 hc ho, k2, k8, a1, b1]
  unfold BarP
  by_cases p15 : priA A o = 15
  · rw [if_pos p15]
    exact ⟨0, rfl, by simp [p15]⟩
  · rw [if_neg p15]
    by_cases z0 : v0 ≤ 0
    · have y0 := a4.mp (by grind)
      rw [if_pos z0]
      by_cases ig : A 28 o = 0
      · rw [if_pos ig]
        by_cases z1 : v1 ≤ 0
        · have y1 := b4.mp (by grind)
          rw [if_pos z1]
          refine ⟨0, rfl, ⟨fun _ => ?_, fun _ => rfl⟩⟩
          rintro ⟨_, j, j1, j2, j3 | j3⟩
          · exact y0 j j1 j2 j3
          · exact y1 j j1 j2 j3.1
        · rw [if_neg z1]
          refine ⟨1, rfl, ⟨fun h => by exfalso; revert h; decide, fun h => ?_⟩⟩
          exfalso
          have : ¬ (v1 = 0) := by grind
          rw [b4] at this
          apply this
          intro j j1 j2 j3
          exact h ⟨p15, j, j1, j2, Or.inr ⟨j3, ig⟩⟩
      · rw [if_neg ig]
        refine ⟨0, rfl, ⟨fun _ => ?_, fun _ => rfl⟩⟩
        rintro ⟨_, j, j1, j2, j3 | j3⟩
        · exact y0 j j1 j2 j3
        · exact ig j3.2
    · rw [if_neg z0]
      refine ⟨1, rfl, ⟨fun h => by exfalso; revert h; decide, fun h => ?_⟩⟩
      exfalso
      have : ¬ (v0 = 0) := by grind
      rw [a4] at this
      apply this
      intro j j1 j2 j3
      exact h ⟨p15, j, j1, j2, Or.inl j3⟩
def MeetP (A : Ab) (i x y w k : Int32) : Prop := k ≠ i ∧ A 27 k.toNatClampNeg ≠ 0 ∧ A 21 k.toNatClampNeg = y ∧ x < A 20 k.toNatClampNeg + A 22 k.toNatClampNeg ∧ A 20 k.toNatClampNeg < x + w
theorem C_95 (hc : CR A M S) {i x y w : Int32} : ∀ (k : Int32) (n : Nat), 0 ≤ k → k ≤ 4 → ((4 : Int32).toInt - k.toInt) < n → ∃ v, GL_95_0 n S i x y w k = some (v, S) ∧ (v = 0 ↔ ∀ l, k ≤ l → l < 4 → ¬ MeetP A i x y w l) := by
  refine up_ind (P := fun k n => ∃ v, GL_95_0 n S i x y w k = some (v, S) ∧ (v = 0 ↔ ∀ l, k ≤ l → l < 4 → ¬ MeetP A i x y w l)) ?_ ?_
  · intro n
    exact ⟨0, by rw [GL_95_0, if_pos (by decide)], ⟨fun _ l h1 h2 => by exfalso; grind, fun _ => rfl⟩⟩
  · intro k n h0 h4 ih
    have ho := tn4 h0 h4
    have hk := hc.ks ho
    have key : ∀ l, k ≤ l → l = k ∨ k + 1 ≤ l := by intro l hl; grind
    obtain ⟨v, e1, e2⟩ := ih
    have skip : ¬ MeetP A i x y w k → (v = 0 ↔ ∀ l, k ≤ l → l < 4 → ¬ MeetP A i x y w l) := by
      intro hn
      rw [e2]
      refine ⟨fun h l k1 k2 => ?_, fun h l k1 k2 => h l (by grind) k2⟩
      rcases key l k1 with rfl | q
      · exact hn
      · exact h l q k2
    rw [GL_95_0, if_neg (by grind), if_pos ((xin4 k).mpr ⟨h0, h4⟩)]
    by_cases hi : k = i
    · rw [if_pos hi]
      exact ⟨v, e1, skip (fun h => h.1 hi)⟩
    · rw [if_neg hi, if_pos (kd_act ho)]
      unfold G_20
      rw [if_pos (kd_act ho)]
      simp only [hk]
      by_cases sh0 : A 27 k.toNatClampNeg = 0
      · rw [if_pos sh0]
        exact ⟨v, e1, skip (fun h => h.2.1 sh0)⟩
      · rw [if_neg sh0]
        by_cases q1 : y = A 21 k.toNatClampNeg
        · rw [if_pos q1]
          by_cases q2 : A 20 k.toNatClampNeg + A 22 k.toNatClampNeg ≤ x
          · rw [if_pos q2]
            simp only [if_true]
            exact ⟨v, e1, skip (fun h => by have := h.2.2.2.1; grind)⟩
          · rw [if_neg q2]
            by_cases q3 : x + w ≤ A 20 k.toNatClampNeg
            · rw [if_pos q3]
              simp only [if_true]
              exact ⟨v, e1, skip (fun h => by have := h.2.2.2.2; grind)⟩
            · rw [if_neg q3]
              simp only [e10, if_false]
              refine ⟨1, rfl, ⟨fun h => by exfalso; revert h; decide, fun h => ?_⟩⟩
              exact absurd ⟨hi, sh0, q1.symm, by grind, by grind⟩ (h k (by grind) h4)
        · rw [if_neg q1]
          simp only [if_true]
          exact ⟨v, e1, skip (fun h => q1 h.2.2.1.symm)⟩
/-- the model's: a cell j of the base is blocked -/
abbrev HitP (A : Ab) (i y j k : Int32) : Prop := k ≠ i ∧ A 27 k.toNatClampNeg ≠ 0 ∧ A 21 k.toNatClampNeg = y ∧ A 20 k.toNatClampNeg ≤ j ∧ j < A 20 k.toNatClampNeg + A 22 k.toNatClampNeg
abbrev br1 (A : Ab) (o : Nat) (y j : Int32) : Prop := priA A o ≠ 15 ∧ (A 2 (16 * y + j).toNatClampNeg = 0 ∨ (A 2 (16 * y + j).toNatClampNeg = 1 ∧ A 28 o = 0))
theorem M_153a (hm : MR A C z T) {i x y u j k : Int32} (hu : u = 0 ∨ u = 1) (h0 : 0 ≤ k) (h4 : k < 4) (n : Nat) : GL_153_0 (n + 1) 1 T i x y u j k = GL_153_0 n 1 T i x y (if u = 1 ∨ HitP A i y j k then 1 else 0) j (k + 1) := by
  have hk := hm.ks (tn4 h0 h4)
  rw [GL_153_0, if_neg (by grind), if_pos ((xin4 k).mpr ⟨h0, h4⟩)]
  simp only [hk]
  unfold HitP
  grind
theorem M_153b {i x y u j q : Int32} (n : Nat) : GL_153_0 (n + 1) 1 T i x y u j 4 = GL_153_0 n 0 T i x y u (j + 1) 0 := by
  rw [GL_153_0, if_pos (by decide)]
theorem ite01 {P : Prop} [Decidable P] : ((if P then (1 : Int32) else 0) = 1) ↔ P := by
  by_cases h : P
  · rw [if_pos h]; exact ⟨fun _ => h, fun _ => rfl⟩
  · rw [if_neg h]; exact ⟨fun h' => absurd h' (by decide), fun h' => absurd h' h⟩
theorem M_153c (hm : MR A C z T) {i x y u j : Int32} (hu : u = 0 ∨ u = 1) (n : Nat) : ∃ v : Int32, (v = 0 ∨ v = 1) ∧ (v = 1 ↔ (u = 1 ∨ ∃ k, 0 ≤ k ∧ k < 4 ∧ HitP A i y j k)) ∧ GL_153_0 (n + 5) 1 T i x y u j 0 = GL_153_0 n 0 T i x y v (j + 1) 0 := by
  have b01 : ∀ p : Prop, ∀ _ : Decidable p, (if p then (1 : Int32) else 0) = 0 ∨ (if p then (1 : Int32) else 0) = 1 := by intro p d; by_cases h : p <;> simp [h]
  refine ⟨?v, ?a, ?b, ?c⟩
  case c => rw [M_153a hm hu (by decide) (by decide), show (0 : Int32) + 1 = 1 from rfl, M_153a hm (b01 _ _) (by decide) (by decide), show (1 : Int32) + 1 = 2 from rfl, M_153a hm (b01 _ _) (by decide) (by decide), show (2 : Int32) + 1 = 3 from rfl, M_153a hm (b01 _ _) (by decide) (by decide), show (3 : Int32) + 1 = 4 from rfl, M_153b (q := 0)]
  case a => exact b01 _ _
  case b =>
    simp only [ite01]
    constructor
    · rintro ((((h | h) | h) | h) | h)
      · exact Or.inl h
      · exact Or.inr ⟨0, by decide, by decide, h⟩
      · exact Or.inr ⟨1, by decide, by decide, h⟩
      · exact Or.inr ⟨2, by decide, by decide, h⟩
      · exact Or.inr ⟨3, by decide, by decide, h⟩
    · rintro (h | ⟨k, k1, k2, h⟩)
      · exact Or.inl (Or.inl (Or.inl (Or.inl h)))
      · rcases i4 k1 k2 with rfl | rfl | rfl | rfl
        · exact Or.inl (Or.inl (Or.inl (Or.inr h)))
        · exact Or.inl (Or.inl (Or.inr h))
        · exact Or.inl (Or.inr h)
        · exact Or.inr h
theorem M_153 (hw : WF A) (hm : MR A C z T) {i x y : Int32} (h0 : 0 ≤ i) (h4 : i < 4) (hx : 0 ≤ x ∧ x < 16 ∧ x + A 22 i.toNatClampNeg ≤ 16) (hy : 0 ≤ y ∧ y < 12) : ∀ (r : Nat) (j u : Int32) (n : Nat), x ≤ j → j ≤ x + A 22 i.toNatClampNeg → j.toInt + r = (x + A 22 i.toNatClampNeg).toInt → (u = 0 ∨ u = 1) → 6 * r + 1 ≤ n → ∃ v, GL_153_0 n 0 T i x y u j 0 = some (v, T) ∧ (v = 0 ∨ v = 1) ∧ (v = 0 ↔ u = 0 ∧ ∀ l, j ≤ l → l < x + A 22 i.toNatClampNeg → ¬ br1 A i.toNatClampNeg y l ∧ ∀ k, 0 ≤ k → k < 4 → ¬ HitP A i y l k) := by
  have ho := tn4 h0 h4
  have hk := hm.ks ho
  have wa := hw.act _ ho
  have k44 : T.1 44 i.toNatClampNeg = A 22 i.toNatClampNeg := hk.2.2.1
  have k50 : T.1 50 i.toNatClampNeg = A 28 i.toNatClampNeg := hk.2.2.2.2.2.2.2.2.1
  intro r
  induction r with
  | zero =>
    intro j u n j1 j2 j3 hu hn
    obtain ⟨n', rfl⟩ : ∃ n', n = n' + 1 := ⟨n - 1, by omega⟩
    have : j = x + A 22 i.toNatClampNeg := Int32.toInt_inj.mp (by omega)
    rw [GL_153_0, if_pos ((xin4 i).mpr ⟨h0, h4⟩), k44, if_pos (by grind), if_pos hu]
    refine ⟨u, rfl, hu, ⟨fun h => ⟨h, fun l l1 l2 => by exfalso; grind⟩, fun h => h.1⟩⟩
  | succ r ih =>
    intro j u n j1 j2 j3 hu hn
    obtain ⟨n', rfl⟩ : ∃ n', n = n' + 5 + 1 := ⟨n - 6, by omega⟩
    have hlt : j < x + A 22 i.toNatClampNeg := Int32.lt_iff_toInt_lt.mpr (by omega)
    have h5 : 0 ≤ j ∧ j < 16 ∧ 0 ≤ y ∧ y < 12 := by grind
    have hct := hm.ctl _ (n192 h5)
    rw [GL_153_0, if_pos ((xin4 i).mpr ⟨h0, h4⟩), k44, if_neg (by grind), if_pos ((xin192 _).mpr (by grind))]
    simp only [M_154 hm h0 h4, hct, k50]
    have step : ∃ u' : Int32, (u' = 0 ∨ u' = 1) ∧ (u' = 1 ↔ (u = 1 ∨ br1 A i.toNatClampNeg y j)) ∧ (if u = 0 then (if priA A i.toNatClampNeg = 15 then GL_153_0 (n' + 5) 1 T i x y 0 j 0 else if A 2 (16 * y + j).toNatClampNeg = 0 then GL_153_0 (n' + 5) 1 T i x y 1 j 0 else if A 2 (16 * y + j).toNatClampNeg = 1 then (if A 28 i.toNatClampNeg = 0 then GL_153_0 (n' + 5) 1 T i x y 1 j 0 else GL_153_0 (n' + 5) 1 T i x y 0 j 0) else GL_153_0 (n' + 5) 1 T i x y 0 j 0) else GL_153_0 (n' + 5) 1 T i x y 1 j 0) = GL_153_0 (n' + 5) 1 T i x y u' j 0 := by
      by_cases hb : u = 1 ∨ br1 A i.toNatClampNeg y j
      · refine ⟨1, Or.inr rfl, by simp [hb], ?_⟩
        unfold br1 at hb
        grind
      · refine ⟨0, Or.inl rfl, by simp [hb], ?_⟩
        unfold br1 at hb
        grind
    obtain ⟨u', hu', hu2, e1⟩ := step
    obtain ⟨u2, hv', hv2, e2⟩ := M_153c hm (x := x) (i := i) (y := y) (j := j) hu' n'
    have hj1 : (j + 1).toInt = j.toInt + 1 := by
      have h1 : (1 : Int32).toInt = 1 := rfl
      have a := ile h5.1; have b := ilt h5.2.1
      have h0 : (0 : Int32).toInt = 0 := rfl
      have h16 : (16 : Int32).toInt = 16 := rfl
      rw [iadd] <;> rw [h1] <;> omega
    obtain ⟨v, e3, e4, e5⟩ := ih (j + 1) u2 n' (by grind) (by grind) (by omega) hv' (by omega)
    refine ⟨v, ?_, e4, ?_⟩
    · rw [← e3, ← e2, ← e1]
    · rw [e5]
      have nu2 : u2 = 0 ↔ ¬ (u' = 1 ∨ ∃ k, 0 ≤ k ∧ k < 4 ∧ HitP A i y j k) := by rw [← hv2]; rcases hv' with h | h <;> simp [h]
      have nu : u' = 1 ↔ (u = 1 ∨ br1 A i.toNatClampNeg y j) := hu2
      have n0 : u = 0 ↔ ¬ u = 1 := by rcases hu with h | h <;> simp [h]
      have key : ∀ l, j ≤ l → l = j ∨ j + 1 ≤ l := by intro l hl; grind
      rw [nu2, nu, n0]
      constructor
      · rintro ⟨q1, q2⟩
        refine ⟨fun h => q1 (Or.inl (Or.inl h)), fun l l1 l2 => ?_⟩
        rcases key l l1 with rfl | l3
        · exact ⟨fun h => q1 (Or.inl (Or.inr h)), fun k k1 k2 h => q1 (Or.inr ⟨k, k1, k2, h⟩)⟩
        · exact q2 l l3 l2
      · rintro ⟨q1, q2⟩
        refine ⟨?_, fun l l1 l2 => q2 l (by grind) l2⟩
        rintro ((h | h) | ⟨k, k1, k2, h⟩)
        · exact q1 h
        · exact (q2 j (by grind) hlt).1 h
        · exact (q2 j (by grind) hlt).2 k k1 k2 h
end
section
variable {A M C : Ab} {z : Option Nat × (Nat → Option Nat)} {S T : St}
theorem meet_hit (hw : WF A) {i x y w : Int32} (hx : 0 ≤ x ∧ x < 16 ∧ 1 ≤ w ∧ w ≤ 4) : (∀ k, 0 ≤ k → k < 4 → ¬ MeetP A i x y w k) ↔ ∀ l, x ≤ l → l < x + w → ∀ k, 0 ≤ k → k < 4 → ¬ HitP A i y l k := by
  constructor
  · intro h l l1 l2 k k1 k2 hh
    have wa := hw.act _ (tn4 k1 k2)
    obtain ⟨a1, a2, a3, a4, a5⟩ := hh
    exact h k k1 k2 ⟨a1, a2, a3, by grind, by grind⟩
  · intro h k k1 k2 hh
    have wa := hw.act _ (tn4 k1 k2)
    obtain ⟨a1, a2, a3, a4, a5⟩ := hh
    by_cases q : x ≤ A 20 k.toNatClampNeg
    · exact h (A 20 k.toNatClampNeg) q a5 k k1 k2 ⟨a1, a2, a3, by grind, by grind⟩
    · exact h x (by grind) (by grind) k k1 k2 ⟨a1, a2, a3, by grind, by grind⟩
theorem edg0 {x y w : Int32} (h : edg x y w = 0) : 0 ≤ x ∧ x + w ≤ 16 ∧ y < 12 ∧ 3 ≤ y := by
  unfold edg at h; grind
theorem sm16 {x a w : Int32} (h1 : 0 ≤ x) (h2 : x < 16) (h3 : 1 ≤ w) (h4 : w ≤ 4) (h5 : a ≤ 1) (h6 : -1 ≤ a) (h7 : x + a + w ≤ 16) : x + a < 16 := by grind
theorem stop_b (hw : WF A) (hc : CR A M S) (hm : MR A C z T) {i x y : Int32} (h0 : 0 ≤ i) (h4 : i < 4) (he : edg x y (A 22 i.toNatClampNeg) = 0) (hxx : x < 16) : ∃ v8 v10 v7, G_94 S (11 + i.toNatClampNeg) x y = some (v8, S) ∧ G_95 S i x y = some (v10, S) ∧ G_153 T i x y = some (v7, T) ∧ (v7 = 0 ↔ v8 = 0 ∧ v10 = 0) := by
  have ho := tn4 h0 h4
  have wa := hw.act _ ho
  unfold edg at he
  have hx : 0 ≤ x ∧ x < 16 ∧ 0 ≤ A 22 i.toNatClampNeg ∧ A 22 i.toNatClampNeg ≤ 4 ∧ x + A 22 i.toNatClampNeg ≤ 16 := by grind
  have hy : 0 ≤ y ∧ y < 12 := by grind
  obtain ⟨v8, a1, a2⟩ := C_94 hc ho hx hy
  obtain ⟨v10, b1, b2⟩ := C_95 hc (i := i) (x := x) (y := y) (w := A 22 i.toNatClampNeg) 0 xFu (by decide) (by decide) (by decide)
  have e0 : (x + A 22 i.toNatClampNeg).toInt = x.toInt + (A 22 i.toNatClampNeg).toInt := by
    have p1 := ile hx.1; have p2 := ilt hx.2.1; have p3 := ile hx.2.2.1; have p4 := ile hx.2.2.2.1
    have h0 : (0 : Int32).toInt = 0 := rfl
    have h1 : (16 : Int32).toInt = 16 := rfl
    have h2 : (4 : Int32).toInt = 4 := rfl
    rw [iadd] <;> omega
  have p3 := ile hx.2.2.1
  have p4 := ile hx.2.2.2.1
  have q0 : (0 : Int32).toInt = 0 := rfl
  have q4 : (4 : Int32).toInt = 4 := rfl
  obtain ⟨v7, c1, c2, c3⟩ := M_153 hw hm h0 h4 ⟨hx.1, hx.2.1, hx.2.2.2.2⟩ hy (A 22 i.toNatClampNeg).toInt.toNat x 0 xFu (by grind) (by grind) (by omega) (Or.inl rfl) (by unfold xFu; omega)
  refine ⟨v8, v10, v7, a1, ?_, c1, ?_⟩
  · unfold G_95
    rw [if_pos ((xin4 i).mpr ⟨h0, h4⟩), if_pos (kd_act ho), (hc.ks ho).2.2.1]
    exact b1
  · rw [c3, a2, b2, meet_hit hw ⟨hx.1, hx.2.1, by grind, hx.2.2.2.1⟩]
    unfold BarP br1
    constructor
    · rintro ⟨_, h⟩
      refine ⟨?_, fun l l1 l2 => (h l l1 l2).2⟩
      rintro ⟨p, j, j1, j2, j3⟩
      exact (h j j1 j2).1 ⟨p, j3⟩
    · rintro ⟨g1, g2⟩
      refine ⟨rfl, fun l l1 l2 => ⟨?_, g2 l l1 l2⟩⟩
      rintro ⟨p, j3⟩
      exact g1 ⟨p, l, l1, l2, j3⟩
theorem dir_sm (k : Int32) : -1 ≤ rgt k ∧ rgt k ≤ 1 ∧ -1 ≤ dwn k ∧ dwn k ≤ 1 := by unfold rgt dwn; grind
theorem WF.upos (hw : WF A) {o : Nat} {x y : Int32} (ho : o < 4) (hx : 0 ≤ x ∧ x < 16 ∧ x + A 22 o ≤ 16 ∧ 0 ≤ y ∧ y < 12) : WF (xa_u (xa_u A 20 o x) 21 o y) := by
  refine hw.of ((RE.u _ (by unfold rsc; omega)).trans (RE.u _ (by unfold rsc; omega))) ?_ ?_ ?_ ?_
  all_goals simp only [xa_if]
  · have := hw.lim; grind
  · intro p hp; have := hw.act p hp; grind
  · have := hw.gfl; grind
  · have := hw.flg; grind
theorem walk_b (hw : WF A) (hc : CR A M S) (hm : MR A C z T) {i : Int32} (h0 : 0 ≤ i) (h4 : i < 4) (hv : i = 0 → A 3 0 = 0) : ∃ A' S' T', G_90 S i = some ((), S') ∧ G_151 T i = some ((), T') ∧ CR A' M S' ∧ MR A' C z T' ∧ WF A' := by
  have ho := tn4 h0 h4
  have hk := hc.ks ho
  have hl := hm.ks ho
  have hc1 := hc.uact (f := 9) ho (by decide) 0
  have hm1 := hm.uact (f := 9) ho (by decide) 0
  have hw1 : WF (xa_u A (20 + 9) i.toNatClampNeg 0) := hw.ua (by decide) (by decide)
  have q : ∀ f, f ≠ 9 → xa_u S.1 (11 + i.toNatClampNeg) 9 0 (11 + i.toNatClampNeg) f = S.1 (11 + i.toNatClampNeg) f := fun f hf => xa_c (by omega)
  have p : ∀ c, c ≠ 54 → ∀ j, xa_u T.1 54 i.toNatClampNeg 0 c j = T.1 c j := fun c hc j => xa_c (by omega)
  have a22 : xa_u A (20 + 9) i.toNatClampNeg 0 22 i.toNatClampNeg = A 22 i.toNatClampNeg := xa_c (by omega)
  have wa := hw.act _ ho
  have ds := dir_sm (A 24 i.toNatClampNeg)
  have z0 : (0 : Int32).toNatClampNeg = 0 := rfl
  unfold G_90 G_151
  rw [if_pos ((xin4 i).mpr ⟨h0, h4⟩), if_pos (kd_act ho), if_pos ((xin4 i).mpr ⟨h0, h4⟩)]
  simp only [V_91, V_92, V_93, V_148, V_150, V_152, q 4 (by decide), q 0 (by decide), q 1 (by decide), q 2 (by decide), q 5 (by decide), p 46 (by decide), p 44 (by decide), p 47 (by decide), p 40 (by decide), hk, hl]
  by_cases hd : A 24 i.toNatClampNeg = 0
  · rw [if_pos hd, if_pos hd]
    exact ⟨_, _, _, rfl, rfl, hc1, hm1, hw1⟩
  · rw [if_neg hd, if_neg hd]
    by_cases he : edg (A 20 i.toNatClampNeg + rgt (A 24 i.toNatClampNeg)) (A 21 i.toNatClampNeg + dwn (A 24 i.toNatClampNeg)) (A 22 i.toNatClampNeg) = 0
    · rw [if_pos he, if_pos he]
      have hrg : 0 ≤ A 20 i.toNatClampNeg + rgt (A 24 i.toNatClampNeg) ∧ A 20 i.toNatClampNeg + rgt (A 24 i.toNatClampNeg) < 16 ∧ A 20 i.toNatClampNeg + rgt (A 24 i.toNatClampNeg) + A 22 i.toNatClampNeg ≤ 16 ∧ 0 ≤ A 21 i.toNatClampNeg + dwn (A 24 i.toNatClampNeg) ∧ A 21 i.toNatClampNeg + dwn (A 24 i.toNatClampNeg) < 12 := by
        have g := edg0 he
        exact ⟨g.1, sm16 wa.1 wa.2.1 wa.2.2.1 wa.2.2.2.1 ds.2.1 ds.1 g.2.1, g.2.1, by have := g.2.2.2; clear wa ds g hk hl hc hm hw hc1 hm1 hw1 q p; grind, g.2.2.1⟩
      obtain ⟨v8, v10, v7, e1, e2, e3, e4⟩ := stop_b hw1 hc1 hm1 (i := i) h0 h4 (by rw [a22]; exact he) hrg.2.1
      have e1' : G_94 (xa_u S.1 (11 + i.toNatClampNeg) 9 0, S.2.1, S.2.2) (11 + i.toNatClampNeg) (A 20 i.toNatClampNeg + rgt (A 24 i.toNatClampNeg)) (A 21 i.toNatClampNeg + dwn (A 24 i.toNatClampNeg)) = some (v8, (xa_u S.1 (11 + i.toNatClampNeg) 9 0, S.2.1, S.2.2)) := e1
      have e2' : G_95 (xa_u S.1 (11 + i.toNatClampNeg) 9 0, S.2.1, S.2.2) i (A 20 i.toNatClampNeg + rgt (A 24 i.toNatClampNeg)) (A 21 i.toNatClampNeg + dwn (A 24 i.toNatClampNeg)) = some (v10, (xa_u S.1 (11 + i.toNatClampNeg) 9 0, S.2.1, S.2.2)) := e2
      have e3' : G_153 (xa_u T.1 54 i.toNatClampNeg 0, T.2.1, T.2.2) i (A 20 i.toNatClampNeg + rgt (A 24 i.toNatClampNeg)) (A 21 i.toNatClampNeg + dwn (A 24 i.toNatClampNeg)) = some (v7, (xa_u T.1 54 i.toNatClampNeg 0, T.2.1, T.2.2)) := e3
      simp only [e1', e2', e3', q 5 (by decide), p 47 (by decide), p 46 (by decide), p 40 (by decide), hk, hl, he]
      by_cases h7 : v7 = 0
      · have := e4.mp h7
        rw [if_pos this.1, if_pos this.2, if_pos h7]
        refine ⟨_, _, _, rfl, rfl, ((hc1.uact (f := 0) ho (by decide) _).uact (f := 1) ho (by decide) _).uact (f := 9) ho (by decide) _, ((hm1.uact (f := 0) ho (by decide) _).uact (f := 1) ho (by decide) _).uact (f := 9) ho (by decide) _, (hw1.upos ho ?_).ua (f := 9) (by decide) (by decide)⟩
        rw [a22]; exact hrg
      · rw [if_neg h7]
        have hcl : ∀ α (a b : α), (if v8 = 0 then (if v10 = 0 then a else b) else b) = b := by
          intro α a b
          by_cases g8 : v8 = 0
          · rw [if_pos g8, if_neg (fun g => h7 (e4.mpr ⟨g8, g⟩))]
          · rw [if_neg g8]
        simp only [ite_self]
        rw [hcl]
        have hid : xa_u T.1 54 i.toNatClampNeg 0 46 i.toNatClampNeg = A 24 i.toNatClampNeg := by rw [p 46 (by decide)]; exact hl.2.2.2.2.1
        have t46 : xa_u (xa_u T.1 54 i.toNatClampNeg 0) 46 i.toNatClampNeg (A 24 i.toNatClampNeg) = xa_u T.1 54 i.toNatClampNeg 0 := by rw [← hid, xa_id]
        by_cases m3 : A 25 i.toNatClampNeg = 3
        · simp only [if_pos m3, t46, z0]
          by_cases i0 : i = 0
          · rw [if_pos i0]
            have hm2 := hm1.uval (j := 0) (by decide) 0
            have : xa_u (xa_u A (20 + 9) i.toNatClampNeg 0) 3 0 0 = xa_u A (20 + 9) i.toNatClampNeg 0 := by
              have a : xa_u A (20 + 9) i.toNatClampNeg 0 3 0 = 0 := by rw [xa_c (by omega)]; exact hv i0
              have b := @xa_id (xa_u A (20 + 9) i.toNatClampNeg 0) 3 0
              rw [a] at b
              exact b
            rw [this] at hm2
            exact ⟨_, _, _, rfl, rfl, hc1, hm2, hw1⟩
          · rw [if_neg i0]
            have : xa_u (xa_u T.1 54 i.toNatClampNeg 0) 40 0 (T.1 40 0) = xa_u T.1 54 i.toNatClampNeg 0 := by rw [← p 40 (by decide) 0, xa_id]
            simp only [p 40 (by decide), this]
            exact ⟨_, _, _, rfl, rfl, hc1, hm1, hw1⟩
        · simp only [if_neg m3, z0]
          have hc2 := hc1.uact (f := 4) ho (by decide) 0
          have hm2 := hm1.uact (f := 4) ho (by decide) 0
          have hw2 : WF (xa_u (xa_u A (20 + 9) i.toNatClampNeg 0) (20 + 4) i.toNatClampNeg 0) := hw1.ua (by decide) (by decide)
          by_cases i0 : i = 0
          · rw [if_pos i0]
            have hm3 := hm2.uval (j := 0) (by decide) 0
            have : xa_u (xa_u (xa_u A (20 + 9) i.toNatClampNeg 0) (20 + 4) i.toNatClampNeg 0) 3 0 0 = xa_u (xa_u A (20 + 9) i.toNatClampNeg 0) (20 + 4) i.toNatClampNeg 0 := by
              have a : xa_u (xa_u A (20 + 9) i.toNatClampNeg 0) (20 + 4) i.toNatClampNeg 0 3 0 = 0 := by rw [xa_c (by omega), xa_c (by omega)]; exact hv i0
              have b := @xa_id (xa_u (xa_u A (20 + 9) i.toNatClampNeg 0) (20 + 4) i.toNatClampNeg 0) 3 0
              rw [a] at b
              exact b
            rw [this] at hm3
            exact ⟨_, _, _, rfl, rfl, hc2, hm3, hw2⟩
          · rw [if_neg i0]
            have p2 : xa_u (xa_u T.1 54 i.toNatClampNeg 0) 46 i.toNatClampNeg 0 40 0 = T.1 40 0 := by rw [xa_c (by omega), p 40 (by decide)]
            have : xa_u (xa_u (xa_u T.1 54 i.toNatClampNeg 0) 46 i.toNatClampNeg 0) 40 0 (T.1 40 0) = xa_u (xa_u T.1 54 i.toNatClampNeg 0) 46 i.toNatClampNeg 0 := by rw [← p2, xa_id]
            simp only [p2, this]
            exact ⟨_, _, _, rfl, rfl, hc2, hm2, hw2⟩
    · rw [if_neg he, if_neg he]
      have hid : xa_u T.1 54 i.toNatClampNeg 0 46 i.toNatClampNeg = A 24 i.toNatClampNeg := by rw [p 46 (by decide)]; exact hl.2.2.2.2.1
      have t46 : xa_u (xa_u T.1 54 i.toNatClampNeg 0) 46 i.toNatClampNeg (A 24 i.toNatClampNeg) = xa_u T.1 54 i.toNatClampNeg 0 := by rw [← hid, xa_id]
      have c0 : (0 : Int32) ≤ 0 ∧ (0 : Int32) < 16 := by decide
      by_cases m3 : A 25 i.toNatClampNeg = 3
      · simp only [if_pos m3, t46, z0, V_51, if_pos c0]
        by_cases i0 : i = 0
        · rw [if_pos i0, if_pos i0]
          exact ⟨_, _, _, rfl, rfl, hc1.uval (j := 0) (by decide) _, hm1.uval (j := 0) (by decide) _, hw1.uval⟩
        · rw [if_neg i0, if_neg i0]
          have : xa_u (xa_u T.1 54 i.toNatClampNeg 0) 40 0 (T.1 40 0) = xa_u T.1 54 i.toNatClampNeg 0 := by rw [← p 40 (by decide) 0, xa_id]
          simp only [p 40 (by decide), this]
          exact ⟨_, _, _, rfl, rfl, hc1, hm1, hw1⟩
      · simp only [if_neg m3, z0, V_51, if_pos c0]
        have hc2 := hc1.uact (f := 4) ho (by decide) 0
        have hm2 := hm1.uact (f := 4) ho (by decide) 0
        have hw2 : WF (xa_u (xa_u A (20 + 9) i.toNatClampNeg 0) (20 + 4) i.toNatClampNeg 0) := hw1.ua (by decide) (by decide)
        by_cases i0 : i = 0
        · rw [if_pos i0, if_pos i0]
          exact ⟨_, _, _, rfl, rfl, hc2.uval (j := 0) (by decide) _, hm2.uval (j := 0) (by decide) _, hw2.uval⟩
        · rw [if_neg i0, if_neg i0]
          have p2 : xa_u (xa_u T.1 54 i.toNatClampNeg 0) 46 i.toNatClampNeg 0 40 0 = T.1 40 0 := by rw [xa_c (by omega), p 40 (by decide)]
          have : xa_u (xa_u (xa_u T.1 54 i.toNatClampNeg 0) 46 i.toNatClampNeg 0) 40 0 (T.1 40 0) = xa_u (xa_u T.1 54 i.toNatClampNeg 0) 46 i.toNatClampNeg 0 := by rw [← p2, xa_id]
          simp only [p2, this]
          exact ⟨_, _, _, rfl, rfl, hc2, hm2, hw2⟩
theorem ground_b (hw : WF A) (hc : CR A M S) (hm : MR A C z T) : ∃ A' S' T', G_96 S 11 = some ((), S') ∧ G_155 T = some ((), T') ∧ CR A' M S' ∧ MR A' C z T' ∧ WF A' := by
  have hk := hc.ks (show 0 < 4 by decide)
  have hl := hm.ks (show 0 < 4 by decide)
  have wa := hw.act 0 (by decide)
  have k0 : S.1 11 0 = A 20 0 := hk.1
  have k1 : S.1 11 1 = A 21 0 := hk.2.1
  have k2 : S.1 11 2 = A 22 0 := hk.2.2.1
  have hx : 0 ≤ A 20 0 ∧ A 20 0 < 16 ∧ 0 ≤ A 22 0 ∧ A 22 0 ≤ 4 ∧ A 20 0 + A 22 0 ≤ 16 := ⟨wa.1, wa.2.1, by grind, wa.2.2.2.1, wa.2.2.2.2.1⟩
  have hy : 0 ≤ A 21 0 ∧ A 21 0 < 12 := ⟨wa.2.2.2.2.2.1, wa.2.2.2.2.2.2⟩
  obtain ⟨v3, a1, a2, a3, a4, a5⟩ := C_45 hc (c := 3) hx hy
  obtain ⟨v2, b1, b2, b3, b4, b5⟩ := C_45 hc (c := 2) hx hy
  have key : ∀ (j : Int32) (n : Nat), A 20 0 ≤ j → j ≤ A 20 0 + A 22 0 → ((A 20 0 + A 22 0).toInt - j.toInt) < n → ∀ u w : Int32, (u = 0 ∨ u = 1) → (w = 0 ∨ w = 1) → ∃ f g : Int32, (f = 0 ∨ f = 1) ∧ (g = 0 ∨ g = 1) ∧ (f = 1 ↔ u = 1 ∧ ∀ l, j ≤ l → l < A 20 0 + A 22 0 → A 2 (16 * A 21 0 + l).toNatClampNeg = 3) ∧ (g = 0 ↔ w = 0 ∧ ∀ l, j ≤ l → l < A 20 0 + A 22 0 → A 2 (16 * A 21 0 + l).toNatClampNeg ≠ 2) ∧ GL_155_0 n T u w j = some ((), (xa_u (xa_u T.1 41 0 f) 41 1 g, T.2)) := by
    refine up_ind (P := fun j n => ∀ u w : Int32, (u = 0 ∨ u = 1) → (w = 0 ∨ w = 1) → ∃ f g : Int32, (f = 0 ∨ f = 1) ∧ (g = 0 ∨ g = 1) ∧ (f = 1 ↔ u = 1 ∧ ∀ l, j ≤ l → l < A 20 0 + A 22 0 → A 2 (16 * A 21 0 + l).toNatClampNeg = 3) ∧ (g = 0 ↔ w = 0 ∧ ∀ l, j ≤ l → l < A 20 0 + A 22 0 → A 2 (16 * A 21 0 + l).toNatClampNeg ≠ 2) ∧ GL_155_0 n T u w j = some ((), (xa_u (xa_u T.1 41 0 f) 41 1 g, T.2))) ?_ ?_
    · intro n u w hu hw'
      refine ⟨u, w, hu, hw', ⟨fun h => ⟨h, fun l l1 l2 => by exfalso; clear hk hl; grind⟩, fun h => h.1⟩, ⟨fun h => ⟨h, fun l l1 l2 => by exfalso; clear hk hl; grind⟩, fun h => h.1⟩, ?_⟩
      rw [GL_155_0]
      have z0 : (0 : Int32).toNatClampNeg = 0 := rfl
      have z1 : (1 : Int32).toNatClampNeg = 1 := rfl
      simp only [z0, z1, hl, Int32.le_refl, if_true, if_pos hu, if_pos hw']
    · intro j n j1 j2 ih u w hu hw'
      have h5 : 0 ≤ j ∧ j < 16 ∧ 0 ≤ A 21 0 ∧ A 21 0 < 12 := by clear hk hl; grind
      have hct := hm.ctl _ (n192 h5)
      have hin : xa_in (16 * A 21 0 + j) 192 := (xin192 _).mpr (by clear hk hl; grind)
      have key : ∀ l, j ≤ l → l = j ∨ j + 1 ≤ l := by intro l hl; clear hk; grind
      have step : ∃ u' w' : Int32, (u' = 0 ∨ u' = 1) ∧ (w' = 0 ∨ w' = 1) ∧ (u' = 1 ↔ u = 1 ∧ A 2 (16 * A 21 0 + j).toNatClampNeg = 3) ∧ (w' = 0 ↔ w = 0 ∧ A 2 (16 * A 21 0 + j).toNatClampNeg ≠ 2) ∧ GL_155_0 (n + 1) T u w j = GL_155_0 n T u' w' (j + 1) := by
        rw [GL_155_0]
        have z0 : (0 : Int32).toNatClampNeg = 0 := rfl
        have z1 : (1 : Int32).toNatClampNeg = 1 := rfl
        have nle : ¬ (A 20 0 + A 22 0 ≤ j) := by clear hk hl; grind
        simp only [z0, z1, hl, if_neg nle, if_pos hin, hct]
        refine ⟨if u = 1 ∧ A 2 (16 * A 21 0 + j).toNatClampNeg = 3 then 1 else 0, if w = 0 ∧ A 2 (16 * A 21 0 + j).toNatClampNeg ≠ 2 then 0 else 1, ?_, ?_, ?_, ?_, ?_⟩
        · clear hk hl; grind
        · clear hk hl; grind
        · clear hk hl; grind
        · clear hk hl; grind
        · rcases hu with rfl | rfl <;> rcases hw' with rfl | rfl <;> simp only [e10, if_true, if_false, true_and, false_and, show ((0 : Int32) = 1) = False by simp] <;> clear hk hl ih <;> grind
      obtain ⟨u', w', s1, s2, s3, s4, s5⟩ := step
      obtain ⟨f, g, t1, t2, t3, t4, t5⟩ := ih u' w' s1 s2
      refine ⟨f, g, t1, t2, ?_, ?_, s5.trans t5⟩
      · rw [t3, s3]
        constructor
        · rintro ⟨⟨q1, q2⟩, q3⟩
          refine ⟨q1, fun l l1 l2 => ?_⟩
          rcases key l l1 with rfl | l3
          · exact q2
          · exact q3 l l3 l2
        · rintro ⟨q1, q2⟩
          exact ⟨⟨q1, q2 j (by clear hk hl; grind) j2⟩, fun l l1 l2 => q2 l (by clear hk hl; grind) l2⟩
      · rw [t4, s4]
        constructor
        · rintro ⟨⟨q1, q2⟩, q3⟩
          refine ⟨q1, fun l l1 l2 => ?_⟩
          rcases key l l1 with rfl | l3
          · exact q2
          · exact q3 l l3 l2
        · rintro ⟨q1, q2⟩
          exact ⟨⟨q1, q2 j (by clear hk hl; grind) j2⟩, fun l l1 l2 => q2 l (by clear hk hl; grind) l2⟩
  have hb : ((A 20 0 + A 22 0).toInt - (A 20 0).toInt) < xFu := by
    have := ile hx.2.2.2.2; have := ile hx.1
    have h0 : (0 : Int32).toInt = 0 := rfl
    have h1 : (16 : Int32).toInt = 16 := rfl
    unfold xFu; omega
  obtain ⟨f, g, t1, t2, t3, t4, t5⟩ := key (A 20 0) xFu (by clear hk hl; grind) (by clear hk hl; grind) hb 1 0 (Or.inr rfl) (Or.inl rfl)
  have ef : f = if v3 = A 22 0 then 1 else 0 := by
    by_cases q : v3 = A 22 0
    · rw [if_pos q]; exact t3.mpr ⟨rfl, a5.mp q⟩
    · rw [if_neg q]; rcases t1 with h | h
      · exact h
      · exact absurd (a5.mpr (t3.mp h).2) q
  have eg : g = if v2 ≤ 0 then 0 else 1 := by
    by_cases q : v2 ≤ 0
    · rw [if_pos q]; exact t4.mpr ⟨rfl, b4.mp (by clear hk hl; grind)⟩
    · rw [if_neg q]; rcases t2 with h | h
      · exact absurd (b4.mpr (t4.mp h).2) (by clear hk hl; grind)
      · exact h
  have z0 : (0 : Int32).toNatClampNeg = 0 := rfl
  have z1 : (1 : Int32).toNatClampNeg = 1 := rfl
  have c0 : (0 : Int32) ≤ 0 ∧ (0 : Int32) < 16 := by decide
  have c1 : (0 : Int32) ≤ 1 ∧ (1 : Int32) < 16 := by decide
  refine ⟨xa_u (xa_u A 4 0 f) 4 1 g, (xa_u (xa_u S.1 10 0 f) 10 1 g, S.2), _, ?_, ?_, (hc.uflg (by decide) f).uflg (by decide) g, (hm.uflg (by decide) f).uflg (by decide) g, (hw.uflg t1).uflg t2⟩
  · unfold G_96
    rw [if_pos (kd_act (show 0 < 4 by decide))]
    simp only [k0, k1, k2, a1, b1, V_53 (Or.inr rfl : (1 : Int32) = 0 ∨ (1 : Int32) = 1), V_53 (Or.inl rfl : (0 : Int32) = 0 ∨ (0 : Int32) = 1), if_pos c0, if_pos c1, z0, z1]
    rw [ef, eg]
    by_cases q : v3 = A 22 0 <;> by_cases q' : v2 ≤ 0 <;> simp only [q, q', if_true, if_false]
  · unfold G_155
    simp only [z0, hl]
    exact t5
theorem move_l {y : Int32} : ∀ (k : Int32) (n : Nat), 0 ≤ k → k ≤ 4 → ((4 : Int32).toInt - k.toInt) < n → ∀ (A : Ab) (S T : St), WF A → CR A M S → MR A C z T → (k = 0 → A 3 0 = 0) → ∃ A' S' T', GL_85_0 n S y k = some ((), S') ∧ GL_129_0 n T y k = some (A' 0 4, T') ∧ CR A' M S' ∧ MR A' C z T' ∧ WF A' := by
  refine up_ind (P := fun k n => ∀ (A : Ab) (S T : St), WF A → CR A M S → MR A C z T → (k = 0 → A 3 0 = 0) → ∃ A' S' T', GL_85_0 n S y k = some ((), S') ∧ GL_129_0 n T y k = some (A' 0 4, T') ∧ CR A' M S' ∧ MR A' C z T' ∧ WF A') ?_ ?_
  · intro n A S T hw hc hm _
    refine ⟨A, S, T, by rw [GL_85_0, if_pos (by decide)], by rw [GL_129_0, if_pos (by decide), hm.stp], hc, hm, hw⟩
  · intro k n h0 h4 ih A S T hw hc hm hv
    have ho := tn4 h0 h4
    have nk : ¬ (k + 1 = 0) := by grind
    rw [GL_85_0, GL_129_0, if_neg (show ¬ 4 ≤ k by grind), if_neg (show ¬ 4 ≤ k by grind), if_pos ((xin4 k).mpr ⟨h0, h4⟩), if_pos ((xin4 k).mpr ⟨h0, h4⟩), if_pos (kd_act ho), (hc.ks ho).2.2.2.2.2.2.2.1, (hm.ks ho).2.2.2.2.2.2.2.1]
    by_cases s0 : A 27 k.toNatClampNeg = 0
    · rw [if_pos s0, if_pos s0]
      exact ih A S T hw hc hm (fun h => absurd h nk)
    · rw [if_neg s0, if_neg s0]
      obtain ⟨A1, S1, T1, e1, e2, hc1, hm1, hw1, ev⟩ := aim_b hw hc hm (y := y) h0 h4
      obtain ⟨A2, S2, T2, f1, f2, hc2, hm2, hw2⟩ := walk_b hw1 hc1 hm1 h0 h4 (fun h => by rw [ev]; exact hv h)
      simp only [e1, e2, f1, f2]
      by_cases k0 : k = 0
      · subst k0
        obtain ⟨A3, S3, T3, g1, g2, hc3, hm3, hw3⟩ := ground_b hw2 hc2 hm2
        have z0 : (0 : Int32).toNatClampNeg = 0 := rfl
        simp only [if_true, z0, Nat.add_zero, g1, g2]
        exact ih A3 S3 T3 hw3 hc3 hm3 (fun h => absurd h nk)
      · rw [if_neg k0, if_neg k0]
        exact ih A2 S2 T2 hw2 hc2 hm2 (fun h => absurd h nk)
/-- all movement of a cycle -/
theorem move_b (hw : WF A) (hc : CR A M S) (hm : MR A C z T) (y : Int32) : ∃ A' S' T', G_85 S y = some ((), S') ∧ GL_129_0 xFu (xa_u T.1 40 0 0, T.2) y 0 = some (A' 0 4, T') ∧ CR A' M S' ∧ MR A' C z T' ∧ WF A' := by
  have c0 : (0 : Int32) ≤ 0 ∧ (0 : Int32) < 16 := by decide
  obtain ⟨A', S', T', e1, e2, r⟩ := move_l (M := M) (C := C) (z := z) (y := y) 0 xFu (by decide) (by decide) (by decide) (xa_u A 3 0 0) (xa_u S.1 9 0 0, S.2) (xa_u T.1 40 0 0, T.2) hw.uval (hc.uval (by decide) 0) (hm.uval (by decide) 0) (fun _ => xa_e)
  refine ⟨A', S', T', ?_, e2, r⟩
  unfold G_85
  simp only [V_51, if_pos c0, show (0 : Int32).toNatClampNeg = 0 from rfl]
  exact e1
end
theorem and255 (x : Int32) : 0 ≤ x &&& 255 ∧ x &&& 255 ≤ 255 := by
  have h : (x &&& 255).toBitVec.toNat ≤ 255 := by
    rw [Int32.toBitVec_and, BitVec.toNat_and]
    exact Nat.le_trans Nat.and_le_right (by decide)
  have e : (x &&& 255).toInt = ((x &&& 255).toBitVec.toNat : Int) := by
    show (x &&& 255).toBitVec.toInt = _
    rw [BitVec.toInt_eq_toNat_of_lt (by omega)]
  rw [Int32.le_iff_toInt_le, Int32.le_iff_toInt_le, e]
  have h0 : (0 : Int32).toInt = 0 := rfl
  have h1 : (255 : Int32).toInt = 255 := rfl
  omega
theorem bw (x y : Int32) (h0 : 0 ≤ y) (h3 : y < 4) : ((x : Int32).toUInt32 >>> (((8 * y) : Int32).toUInt32 &&& Int32.toUInt32 31)).toInt32 &&& 255 = (x >>> ((8 * y) &&& 31)) &&& 255 := by
  have key : ∀ s : Nat, s ≤ 24 → ((x.toBitVec >>> s) &&& 255#32) = ((x.toBitVec.sshiftRight s) &&& 255#32) := by
    intro s hs
    apply BitVec.eq_of_getLsbD_eq
    intro i hi
    simp only [BitVec.getLsbD_and, BitVec.getLsbD_ushiftRight, BitVec.getLsbD_sshiftRight]
    by_cases h8 : i < 8
    · have a : ¬ (32 ≤ i) := by omega
      have b : s + i < 32 := by omega
      simp [a, b]
    · have c : (255#32).getLsbD i = false := by
        rw [BitVec.getLsbD_eq_getElem (by omega)]
        have : ∀ j : Nat, j < 32 → (8 ≤ j → (255#32).getLsbD j = false) := by decide
        have := this i hi (by omega)
        rwa [BitVec.getLsbD_eq_getElem (by omega)] at this
      simp [c]
  apply Int32.toBitVec_inj.mp
  rcases i4 h0 h3 with rfl | rfl | rfl | rfl
  · exact key 0 (by decide)
  · exact key 8 (by decide)
  · exact key 16 (by decide)
  · exact key 24 (by decide)
theorem ix64 {x p : Int32} (h0 : 0 ≤ x) (h4 : x < 4) (p0 : 0 ≤ p) (p6 : p < 64) : (64 * x + p).toNatClampNeg = 64 * x.toNatClampNeg + p.toNatClampNeg ∧ xa_in (64 * x + p) 256 := by
  refine ⟨?_, (xin256 _).mpr (by grind)⟩
  have a := ile p0; have b := ilt p6
  have q0 : (0 : Int32).toInt = 0 := rfl
  have q64 : (64 : Int32).toInt = 64 := rfl
  have q1 : (64 * 0 : Int32) = 0 := rfl
  have q2 : (64 * 1 : Int32) = 64 := rfl
  have q3 : (64 * 2 : Int32) = 128 := rfl
  have q4 : (64 * 3 : Int32) = 192 := rfl
  have r2 : (128 : Int32).toInt = 128 := rfl
  have r3 : (192 : Int32).toInt = 192 := rfl
  rcases i4 h0 h4 with rfl | rfl | rfl | rfl
  · rw [q1]; simp only [tnc]; rw [iadd] <;> rw [q0] <;> omega
  · rw [q2]; simp only [tnc]; have : (1 : Int32).toInt = 1 := rfl; rw [iadd] <;> rw [q64] <;> omega
  · rw [q3]; simp only [tnc]; have : (2 : Int32).toInt = 2 := rfl; rw [iadd] <;> rw [r2] <;> omega
  · rw [q4]; simp only [tnc]; have : (3 : Int32).toInt = 3 := rfl; rw [iadd] <;> rw [r3] <;> omega
theorem WF.uput {A : Ab} (hw : WF A) {r j : Nat} {b s : Int32} (hr : r < 4) (hl : A 6 r = 0) (hb : 0 ≤ b ∧ b ≤ 255) (hs : 0 ≤ s ∧ s ≤ 64) : WF (xa_u (xa_u A (10 + r) j b) 5 r s) := by
  have bte : ∀ r', r' ≠ r → bt (xa_u (xa_u A (10 + r) j b) 5 r s) r' = bt A r' := by
    intro r' hne
    funext p
    unfold bt
    rw [xa_c (by omega), xa_c (by omega), xa_c (by omega), xa_c (by omega)]
  refine ⟨?lim_0, ?siz_0, ?byt_0, ?act_0, ?gfl_0, ?flg_0, ?log_0, ?pic_0⟩
  · rw [xa_c (by omega), xa_c (by omega)]; exact hw.lim
  · intro r' h'; simp only [xa_if]; have := hw.siz r' h'; grind
  · intro r' j' h' hj; simp only [xa_if]; have := hw.byt r' j' h' hj; grind
  · intro o ho; simp only [xa_if]; have := hw.act o ho; grind
  · intro o ho; simp only [xa_if]; have := hw.gfl o ho; grind
  · intro o ho; simp only [xa_if]; have := hw.flg o ho; grind
  · intro r' h1 h2 h3
    rw [xa_c (by omega), xa_c (by omega)] at h3
    have hne : r' ≠ r := fun e => h3 (by rw [e]; exact hl)
    rw [bte r' hne, xa_c (by omega), xa_c (by omega)]
    exact hw.log r' h1 h2 h3
  · intro h3
    rw [xa_c (by omega), xa_c (by omega)] at h3
    have hne : 0 ≠ r := fun e => h3 (by rw [e]; exact hl)
    rw [bte 0 hne, xa_c (by omega), xa_c (by omega)]
    exact hw.pic h3
section
variable {M C : Ab} {z : Option Nat × (Nat → Option Nat)}
theorem put_l {x v : Int32} (h0 : 0 ≤ x) (h4 : x < 4) : ∀ (y : Int32) (n : Nat), -1 ≤ y → y ≤ 3 → (y.toInt - (-1 : Int32).toInt) < n → ∀ (A : Ab) (S T : St), WF A → CR A M S → MR A C z T → A 6 x.toNatClampNeg = 0 → A 5 x.toNatClampNeg + (y + 1) ≤ 64 → ∃ A' S' T', GL_24_0 n S (15 + 2 * x.toNatClampNeg) v y = some ((), S') ∧ GL_114_0 n T x v y = some (A' 5 x.toNatClampNeg, T') ∧ CR A' M S' ∧ MR A' C z T' ∧ WF A' := by
  have hr := tn4 h0 h4
  refine dn_ind (P := fun y n => ∀ (A : Ab) (S T : St), WF A → CR A M S → MR A C z T → A 6 x.toNatClampNeg = 0 → A 5 x.toNatClampNeg + (y + 1) ≤ 64 → ∃ A' S' T', GL_24_0 n S (15 + 2 * x.toNatClampNeg) v y = some ((), S') ∧ GL_114_0 n T x v y = some (A' 5 x.toNatClampNeg, T') ∧ CR A' M S' ∧ MR A' C z T' ∧ WF A') ?_ ?_
  · intro n A S T hw hc hm hl hs
    exact ⟨A, S, T, by rw [GL_24_0, if_pos (by decide)], by rw [GL_114_0, if_pos (by decide), if_pos ((xin4 x).mpr ⟨h0, h4⟩), hm.siz _ hr], hc, hm, hw⟩
  · intro y n y1 y2 ih A S T hw hc hm hl hs
    have ws := hw.siz _ hr
    have s64 : 0 ≤ A 5 x.toNatClampNeg ∧ A 5 x.toNatClampNeg < 64 := by grind
    have hj := tn64 s64.1 s64.2
    have c1 : (15 + 2 * x.toNatClampNeg + 1) = 16 + 2 * x.toNatClampNeg := by omega
    have hb := and255 (v >>> ((8 * y) &&& 31))
    have kb := kd_byt hr
    have ixx := ix64 h0 h4 s64.1 s64.2
    have c2 : ((kd (15 + 2 * x.toNatClampNeg + 1)).1 = 0 ∧ xa_in (A 5 x.toNatClampNeg) (kd (15 + 2 * x.toNatClampNeg + 1)).2) := by
      rw [kb]; exact ⟨rfl, (xin64 _).mpr s64⟩
    rw [GL_24_0, GL_114_0, if_neg (show ¬ y < 0 by grind), if_neg (show ¬ y < 0 by grind), if_pos (kd_res hr), hc.siz _ hr, if_neg (show ¬ 64 ≤ A 5 x.toNatClampNeg by grind), if_pos (RF_c hr), if_pos c2, if_pos ((xin4 x).mpr ⟨h0, h4⟩), hm.siz _ hr, if_pos ixx.2, ixx.1, bw v y (by grind) (by grind)]
    have r1 : xa_u S.1 (15 + 2 * x.toNatClampNeg + 1) (A 5 x.toNatClampNeg).toNatClampNeg (v >>> (8 * y &&& 31) &&& 255) (15 + 2 * x.toNatClampNeg) 1 = A 5 x.toNatClampNeg := by rw [xa_c (by omega)]; exact hc.siz _ hr
    have r2 : xa_u T.1 33 (64 * x.toNatClampNeg + (A 5 x.toNatClampNeg).toNatClampNeg) (v >>> (8 * y &&& 31) &&& 255) 34 x.toNatClampNeg = A 5 x.toNatClampNeg := by rw [xa_c (by omega)]; exact hm.siz _ hr
    rw [r1, r2, c1]
    refine ih (xa_u (xa_u A (10 + x.toNatClampNeg) (A 5 x.toNatClampNeg).toNatClampNeg (v >>> (8 * y &&& 31) &&& 255)) 5 x.toNatClampNeg (A 5 x.toNatClampNeg + 1)) _ _ (hw.uput hr hl hb (by grind)) ((hc.ubyt hr hj _).usiz hr _) ((hm.ubyt hr hj _).usiz hr _) ?_ ?_
    · rw [xa_c (by omega), xa_c (by omega)]; exact hl
    · rw [xa_e]; grind
end
theorem s_98 (x v k : Int32) : Same (fun S => G_98 S x v k) (fun S => G_114 S x v k) := by
  intro A M C z S T hw hc hm
  unfold G_98 G_114
  simp only [V_50, V_115]
  by_cases hx : 0 ≤ x ∧ x < 4
  · have hr := tn4 hx.1 hx.2
    have e1 : ¬ (x < 0 ∨ 3 < x) := by grind
    simp only [if_pos hx, if_neg e1, if_true, if_pos (kd_res hr), if_pos ((xin4 x).mpr hx), hc.lod _ hr, hm.lod _ hr, hc.siz _ hr, hm.siz _ hr]
    have ws := hw.siz _ hr
    by_cases hl : A 6 x.toNatClampNeg = 0
    · rw [if_pos hl, if_pos hl]
      by_cases hk : 1 ≤ k ∧ k ≤ 4
      · have e2 : ¬ (k < 1 ∨ 4 < k) := by grind
        rw [if_neg e2, if_neg (show ¬ k < 1 by grind), if_pos hk.2]
        simp only [if_true]
        by_cases hs : A 5 x.toNatClampNeg + k ≤ 64
        · rw [if_pos hs, if_pos hs]
          obtain ⟨A', S', T', e3, e4, hc', hm', hw'⟩ := put_l (M := M) (C := C) (z := z) (v := v) hx.1 hx.2 (k - 1) xFu (by grind) (by grind) (by
            have h2 := ile (show k - 1 ≤ 3 by grind); have h0 : (3 : Int32).toInt = 3 := rfl; have h1 : (-1 : Int32).toInt = -1 := rfl; unfold xFu; omega) A S T hw hc hm hl (by grind)
          unfold G_24
          simp only [e3, e4]
          exact ⟨_, A', S', T', by rw [hc'.siz _ hr], rfl, hc', hm', hw'⟩
        · rw [if_neg hs, if_neg hs]
          exact ⟨-1, A, S, T, rfl, rfl, hc, hm, hw⟩
      · refine ⟨-1, A, S, T, ?_, ?_, hc, hm, hw⟩
        · grind
        · grind
    · rw [if_neg hl, if_neg hl]
      exact ⟨-1, A, S, T, rfl, rfl, hc, hm, hw⟩
  · have e1 : (x < 0 ∨ 3 < x) := by grind
    simp only [if_neg hx, if_pos e1]
    exact ⟨-1, A, S, T, rfl, by simp, hc, hm, hw⟩
