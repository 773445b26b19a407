/-! The pure part (19a.calls): both halves answer alike -/
theorem tnc (x : Int32) : x.toNatClampNeg = x.toInt.toNat := rfl
theorem xin_of (x : Int32) (n : Nat) (m : Int32) (h : m.toInt = n) : xa_in x n ↔ 0 ≤ x ∧ x < m := by
  unfold xa_in
  rw [tnc, Int32.lt_iff_toInt_lt, Int32.le_iff_toInt_le, Int32.lt_iff_toInt_lt, h]
  have : (0 : Int32).toInt = 0 := rfl
  omega
theorem xin4 (x : Int32) : xa_in x 4 ↔ 0 ≤ x ∧ x < 4 := xin_of x 4 4 rfl
theorem xin8 (x : Int32) : xa_in x 8 ↔ 0 ≤ x ∧ x < 8 := xin_of x 8 8 rfl
theorem xin16 (x : Int32) : xa_in x 16 ↔ 0 ≤ x ∧ x < 16 := xin_of x 16 16 rfl
theorem xin64 (x : Int32) : xa_in x 64 ↔ 0 ≤ x ∧ x < 64 := xin_of x 64 64 rfl
theorem xin65 (x : Int32) : xa_in x 65 ↔ 0 ≤ x ∧ x < 65 := xin_of x 65 65 rfl
theorem xin192 (x : Int32) : xa_in x 192 ↔ 0 ≤ x ∧ x < 192 := xin_of x 192 192 rfl
theorem xin256 (x : Int32) : xa_in x 256 ↔ 0 ≤ x ∧ x < 256 := xin_of x 256 256 rfl
/-- a nonnegative int as a natural number -/
theorem nn (x : Int32) (h : 0 ≤ x) : ∃ k : Nat, x = Int32.ofNat k ∧ x.toNatClampNeg = k ∧ k < 2147483648 := by
  refine ⟨x.toNatClampNeg, ?_, rfl, ?_⟩
  · rw [tnc]
    rw [Int32.le_iff_toInt_le] at h
    have h0 : (0 : Int32).toInt = 0 := rfl
    have h1 := Int32.toInt_lt x
    apply Int32.toInt_inj.mp
    rw [Int32.toInt_ofNat_of_lt (by omega)]
    omega
  · rw [tnc]
    have h1 := Int32.toInt_lt x
    omega
theorem ni_i {k : Nat} (h : k < 2147483648) : (Int32.ofNat k).toInt = k := by
  rw [Int32.toInt_ofNat_of_lt (by omega)]
theorem ni_tn {k : Nat} (h : k < 2147483648) : (Int32.ofNat k).toNatClampNeg = k := by
  rw [tnc, ni_i h]; omega
theorem tn_nonneg (x : Int32) (h : 0 ≤ x) : (x.toNatClampNeg : Int) = x.toInt := by
  rw [tnc]
  rw [Int32.le_iff_toInt_le] at h
  have h0 : (0 : Int32).toInt = 0 := rfl
  omega
theorem tn_inj {x y : Int32} (hx : 0 ≤ x) (hy : 0 ≤ y) (h : x.toNatClampNeg = y.toNatClampNeg) : x = y := by
  have := tn_nonneg x hx
  have := tn_nonneg y hy
  apply Int32.toInt_inj.mp
  omega
theorem tn_lt {x m : Int32} {n : Nat} (hm : m.toInt = n) (hx : 0 ≤ x) (h : x < m) : x.toNatClampNeg < n := by
  have := tn_nonneg x hx
  rw [Int32.lt_iff_toInt_lt] at h
  omega
theorem tn4 {x : Int32} (hx : 0 ≤ x) (h : x < 4) : x.toNatClampNeg < 4 := tn_lt (m := 4) rfl hx h
theorem tn16 {x : Int32} (hx : 0 ≤ x) (h : x < 16) : x.toNatClampNeg < 16 := tn_lt (m := 16) rfl hx h
theorem tn64 {x : Int32} (hx : 0 ≤ x) (h : x < 64) : x.toNatClampNeg < 64 := tn_lt (m := 64) rfl hx h
theorem tn192 {x : Int32} (hx : 0 ≤ x) (h : x < 192) : x.toNatClampNeg < 192 := tn_lt (m := 192) rfl hx h
theorem i4 {x : Int32} (hx : 0 ≤ x) (h : x < 4) : x = 0 ∨ x = 1 ∨ x = 2 ∨ x = 3 := by grind
theorem xa_e {f : Nat → Nat → Int32} {a k : Nat} {v : Int32} : xa_u f a k v a k = v := by simp [xa_u, va_up]
theorem xa_c {f : Nat → Nat → Int32} {a k : Nat} {v : Int32} {b j : Nat} (h : ¬ (b = a ∧ j = k)) : xa_u f a k v b j = f b j := by
  unfold xa_u va_up
  by_cases hb : b = a
  · subst hb
    have : ¬ j = k := fun e => h ⟨rfl, e⟩
    simp [this]
  · simp [hb]
theorem xa_if {f : Nat → Nat → Int32} {a k : Nat} {v : Int32} (b j : Nat) : xa_u f a k v b j = if b = a ∧ j = k then v else f b j := by
  by_cases h : b = a ∧ j = k
  · rw [if_pos h, h.1, h.2, xa_e]
  · rw [if_neg h, xa_c h]
/-! The abstract state: 0 limit cycles over word steps; 1 colours; 2 controls; 3 values; 4 flags; 5 sizes; 6 loaded; 10 + r bytes of r; 20 + f actor fields -/
abbrev Ab : Type := Nat → Nat → Int32
def CR (A M : Ab) (S : St) : Prop :=
  (S.1 0 0 = A 0 0) ∧
  (S.1 0 5 = A 0 1) ∧
  (S.1 0 6 = A 0 2) ∧
  (S.1 1 5 = A 0 3) ∧
  (S.1 23 6 = A 0 4) ∧
  (∀ j, j < 192 → S.1 3 j = A 1 j) ∧
  (∀ j, j < 192 → S.1 4 j = A 2 j) ∧
  (∀ j, j < 16 → S.1 9 j = A 3 j) ∧
  (∀ j, j < 16 → S.1 10 j = A 4 j) ∧
  (∀ r, r < 4 → S.1 (15 + 2 * r) 1 = A 5 r) ∧
  (∀ r, r < 4 → S.1 (15 + 2 * r) 2 = A 6 r) ∧
  (∀ r j, r < 4 → j < 64 → S.1 (16 + 2 * r) j = A (10 + r) j) ∧
  (∀ o f, o < 4 → f < 13 → S.1 (11 + o) f = A (20 + f) o) ∧
  (∀ c j, 29 ≤ c → S.1 c j = M c j)
theorem CR.lim {A M : Ab} {S : St} (h : CR A M S) : S.1 0 0 = A 0 0 := h.1
theorem CR.cyc {A M : Ab} {S : St} (h : CR A M S) : S.1 0 5 = A 0 1 := h.2.1
theorem CR.ovr {A M : Ab} {S : St} (h : CR A M S) : S.1 0 6 = A 0 2 := h.2.2.1
theorem CR.wrd {A M : Ab} {S : St} (h : CR A M S) : S.1 1 5 = A 0 3 := h.2.2.2.1
theorem CR.stp {A M : Ab} {S : St} (h : CR A M S) : S.1 23 6 = A 0 4 := h.2.2.2.2.1
theorem CR.col {A M : Ab} {S : St} (h : CR A M S) : ∀ j, j < 192 → S.1 3 j = A 1 j := h.2.2.2.2.2.1
theorem CR.ctl {A M : Ab} {S : St} (h : CR A M S) : ∀ j, j < 192 → S.1 4 j = A 2 j := h.2.2.2.2.2.2.1
theorem CR.val {A M : Ab} {S : St} (h : CR A M S) : ∀ j, j < 16 → S.1 9 j = A 3 j := h.2.2.2.2.2.2.2.1
theorem CR.flg {A M : Ab} {S : St} (h : CR A M S) : ∀ j, j < 16 → S.1 10 j = A 4 j := h.2.2.2.2.2.2.2.2.1
theorem CR.siz {A M : Ab} {S : St} (h : CR A M S) : ∀ r, r < 4 → S.1 (15 + 2 * r) 1 = A 5 r := h.2.2.2.2.2.2.2.2.2.1
theorem CR.lod {A M : Ab} {S : St} (h : CR A M S) : ∀ r, r < 4 → S.1 (15 + 2 * r) 2 = A 6 r := h.2.2.2.2.2.2.2.2.2.2.1
theorem CR.byt {A M : Ab} {S : St} (h : CR A M S) : ∀ r j, r < 4 → j < 64 → S.1 (16 + 2 * r) j = A (10 + r) j := h.2.2.2.2.2.2.2.2.2.2.2.1
theorem CR.act {A M : Ab} {S : St} (h : CR A M S) : ∀ o f, o < 4 → f < 13 → S.1 (11 + o) f = A (20 + f) o := h.2.2.2.2.2.2.2.2.2.2.2.2.1
theorem CR.fr {A M : Ab} {S : St} (h : CR A M S) : ∀ c j, 29 ≤ c → S.1 c j = M c j := h.2.2.2.2.2.2.2.2.2.2.2.2.2
/-- the model's cell of an actor's field -/
def mcl (f : Nat) : Nat := if f < 9 then 42 + f else if f = 9 then 54 else 41 + f
def MR (A C : Ab) (z : Option Nat × (Nat → Option Nat)) (T : St) : Prop :=
  (T.1 29 0 = A 0 0) ∧
  (T.1 29 31 = A 0 1) ∧
  (T.1 29 30 = A 0 2) ∧
  (T.1 29 33 = A 0 3) ∧
  (T.1 29 32 = A 0 4) ∧
  (∀ j, j < 192 → T.1 30 j = A 1 j) ∧
  (∀ j, j < 192 → T.1 31 j = A 2 j) ∧
  (∀ j, j < 16 → T.1 40 j = A 3 j) ∧
  (∀ j, j < 16 → T.1 41 j = A 4 j) ∧
  (∀ r, r < 4 → T.1 34 r = A 5 r) ∧
  (∀ r, r < 4 → T.1 35 r = A 6 r) ∧
  (∀ r j, r < 4 → j < 64 → T.1 33 (64 * r + j) = A (10 + r) j) ∧
  (∀ o f, o < 4 → f < 13 → T.1 (mcl f) o = A (20 + f) o) ∧
  (∀ c j, c < 29 → T.1 c j = C c j) ∧
  (T.2 = z)
theorem MR.lim {A C : Ab} {z : Option Nat × (Nat → Option Nat)} {T : St} (h : MR A C z T) : T.1 29 0 = A 0 0 := h.1
theorem MR.cyc {A C : Ab} {z : Option Nat × (Nat → Option Nat)} {T : St} (h : MR A C z T) : T.1 29 31 = A 0 1 := h.2.1
theorem MR.ovr {A C : Ab} {z : Option Nat × (Nat → Option Nat)} {T : St} (h : MR A C z T) : T.1 29 30 = A 0 2 := h.2.2.1
theorem MR.wrd {A C : Ab} {z : Option Nat × (Nat → Option Nat)} {T : St} (h : MR A C z T) : T.1 29 33 = A 0 3 := h.2.2.2.1
theorem MR.stp {A C : Ab} {z : Option Nat × (Nat → Option Nat)} {T : St} (h : MR A C z T) : T.1 29 32 = A 0 4 := h.2.2.2.2.1
theorem MR.col {A C : Ab} {z : Option Nat × (Nat → Option Nat)} {T : St} (h : MR A C z T) : ∀ j, j < 192 → T.1 30 j = A 1 j := h.2.2.2.2.2.1
theorem MR.ctl {A C : Ab} {z : Option Nat × (Nat → Option Nat)} {T : St} (h : MR A C z T) : ∀ j, j < 192 → T.1 31 j = A 2 j := h.2.2.2.2.2.2.1
theorem MR.val {A C : Ab} {z : Option Nat × (Nat → Option Nat)} {T : St} (h : MR A C z T) : ∀ j, j < 16 → T.1 40 j = A 3 j := h.2.2.2.2.2.2.2.1
theorem MR.flg {A C : Ab} {z : Option Nat × (Nat → Option Nat)} {T : St} (h : MR A C z T) : ∀ j, j < 16 → T.1 41 j = A 4 j := h.2.2.2.2.2.2.2.2.1
theorem MR.siz {A C : Ab} {z : Option Nat × (Nat → Option Nat)} {T : St} (h : MR A C z T) : ∀ r, r < 4 → T.1 34 r = A 5 r := h.2.2.2.2.2.2.2.2.2.1
theorem MR.lod {A C : Ab} {z : Option Nat × (Nat → Option Nat)} {T : St} (h : MR A C z T) : ∀ r, r < 4 → T.1 35 r = A 6 r := h.2.2.2.2.2.2.2.2.2.2.1
theorem MR.byt {A C : Ab} {z : Option Nat × (Nat → Option Nat)} {T : St} (h : MR A C z T) : ∀ r j, r < 4 → j < 64 → T.1 33 (64 * r + j) = A (10 + r) j := h.2.2.2.2.2.2.2.2.2.2.2.1
theorem MR.act {A C : Ab} {z : Option Nat × (Nat → Option Nat)} {T : St} (h : MR A C z T) : ∀ o f, o < 4 → f < 13 → T.1 (mcl f) o = A (20 + f) o := h.2.2.2.2.2.2.2.2.2.2.2.2.1
theorem MR.fr {A C : Ab} {z : Option Nat × (Nat → Option Nat)} {T : St} (h : MR A C z T) : ∀ c j, c < 29 → T.1 c j = C c j := h.2.2.2.2.2.2.2.2.2.2.2.2.2.1
theorem MR.fz {A C : Ab} {z : Option Nat × (Nat → Option Nat)} {T : St} (h : MR A C z T) : T.2 = z := h.2.2.2.2.2.2.2.2.2.2.2.2.2.2
/-! the small methods' values -/
theorem V_115 {S : St} {x a b : Int32} : G_115 S x a b = some (if x < a ∨ b < x then 1 else 0, S) := by
  unfold G_115; grind
theorem V_102 {S : St} {x a : Int32} : G_102 S x a = some (if 0 ≤ a ∧ a ≤ x then 1 else 0, S) := by
  unfold G_102; grind
theorem V_100 {S : St} {x y : Int32} : G_100 S x y = some (if 0 ≤ x ∧ x < 16 ∧ 0 ≤ y ∧ y < 12 then 1 else 0, S) := by
  unfold G_100; grind
theorem V_52 {S : St} {x : Int32} : G_52 S x = some (if 0 ≤ x ∧ x < 16 then S.1 9 x.toNatClampNeg else -1, S) := by
  unfold G_52; simp only [xin16]; grind
theorem V_158 {S : St} {x : Int32} : G_158 S x = some (if 0 ≤ x ∧ x < 16 then S.1 40 x.toNatClampNeg else -1, S) := by
  unfold G_158; simp only [xin16, V_115]; grind
theorem V_46 {S : St} {x y : Int32} : G_46 S x y = some (if 0 ≤ x ∧ x < 16 ∧ 0 ≤ y ∧ y < 12 then S.1 4 (16 * y + x).toNatClampNeg else -1, S) := by
  unfold G_46; simp only [xin192, V_100, Int32.mul_comm y 16]; grind
theorem V_47 {S : St} {x y : Int32} : G_47 S x y = some (if 0 ≤ x ∧ x < 16 ∧ 0 ≤ y ∧ y < 12 then S.1 3 (16 * y + x).toNatClampNeg else -1, S) := by
  unfold G_47; simp only [xin192, V_100, Int32.mul_comm y 16]; grind
theorem V_110 {S : St} {x y z : Int32} : G_110 S x y z = some (if 0 ≤ x ∧ x < 16 ∧ 0 ≤ y ∧ y < 12 then (if z = 0 then S.1 3 (16 * y + x).toNatClampNeg else if z = 1 then S.1 4 (16 * y + x).toNatClampNeg else -1) else -1, S) := by
  unfold G_110; simp only [V_46, V_47]; grind
theorem V_163 {S : St} {x y z : Int32} : G_163 S x y z = some (if 0 ≤ x ∧ x < 16 ∧ 0 ≤ y ∧ y < 12 then (if z = 0 then S.1 30 (16 * y + x).toNatClampNeg else if z = 1 then S.1 31 (16 * y + x).toNatClampNeg else -1) else -1, S) := by
  unfold G_163; simp only [xin192, V_115]; grind
theorem V_51 {S : St} {x v : Int32} : G_51 S x v = if 0 ≤ x ∧ x < 16 then some (1, (xa_u S.1 9 x.toNatClampNeg v, S.2)) else some (0, S) := by
  unfold G_51; simp only [xin16]; grind
theorem V_53 {S : St} {x v : Int32} (h : v = 0 ∨ v = 1) : G_53 S x v = if 0 ≤ x ∧ x < 16 then some (1, (xa_u S.1 10 x.toNatClampNeg v, S.2)) else some (0, S) := by
  unfold G_53; simp only [xin16, h]; grind
theorem V_54 {S : St} {x : Int32} : G_54 S x = some (if 0 ≤ x ∧ x < 16 ∧ S.1 10 x.toNatClampNeg ≠ 0 then 1 else 0, S) := by
  unfold G_54; simp only [xin16]; grind
theorem V_106 {S : St} {x v : Int32} : G_106 S x v = if 0 ≤ v ∧ v ≤ 255 ∧ 0 ≤ x ∧ x < 16 then some (1, (xa_u S.1 9 x.toNatClampNeg v, S.2)) else some (0, S) := by
  unfold G_106; simp only [V_102, V_51]; grind
theorem V_159 {S : St} {x v : Int32} : G_159 S x v = if 0 ≤ v ∧ v ≤ 255 ∧ 0 ≤ x ∧ x < 16 then some (1, (xa_u S.1 40 x.toNatClampNeg v, S.2)) else some (0, S) := by
  unfold G_159; simp only [V_115, xin16]; grind
theorem V_107 {S : St} {x : Int32} : G_107 S x = some (if 0 ≤ x ∧ x < 16 ∧ S.1 10 x.toNatClampNeg ≠ 0 then 1 else 0, S) := by
  unfold G_107; simp only [V_54]; grind
theorem V_160 {S : St} {x : Int32} : G_160 S x = some (if 0 ≤ x ∧ x < 16 ∧ S.1 41 x.toNatClampNeg ≠ 0 then 1 else 0, S) := by
  unfold G_160; simp only [V_115, xin16]; grind
theorem V_108 {S : St} {x v : Int32} (h : v = 0 ∨ v = 1) : G_108 S x v = if 0 ≤ x ∧ x < 16 then some (1, (xa_u S.1 10 x.toNatClampNeg v, S.2)) else some (0, S) := by
  unfold G_108; simp only [V_53 h]; grind
theorem V_161 {S : St} {x v : Int32} (h : v = 0 ∨ v = 1) : G_161 S x v = if 0 ≤ x ∧ x < 16 then some (1, (xa_u S.1 41 x.toNatClampNeg v, S.2)) else some (0, S) := by
  unfold G_161; simp only [V_115, xin16, h]; grind
theorem kd_act {o : Nat} (h : o < 4) : (kd (11 + o)).1 = 10 + 0 := by
  rcases (by omega : o = 0 ∨ o = 1 ∨ o = 2 ∨ o = 3) with rfl | rfl | rfl | rfl <;> rfl
theorem kd_res {r : Nat} (h : r < 4) : (kd (15 + 2 * r)).1 = 10 + 1 := by
  rcases (by omega : r = 0 ∨ r = 1 ∨ r = 2 ∨ r = 3) with rfl | rfl | rfl | rfl <;> rfl
theorem kd_byt {r : Nat} (h : r < 4) : kd (15 + 2 * r + 1) = (0, 64) := by
  rcases (by omega : r = 0 ∨ r = 1 ∨ r = 2 ∨ r = 3) with rfl | rfl | rfl | rfl <;> rfl
theorem RF_res {r : Nat} (h : r < 4) : RF (15 + 2 * r) 0 = some (15 + 2 * r + 1) := by
  rcases (by omega : r = 0 ∨ r = 1 ∨ r = 2 ∨ r = 3) with rfl | rfl | rfl | rfl <;> rfl
theorem RF_c {r : Nat} (h : r < 4) : (kd (15 + 2 * r)).1 = 10 + 1 ∧ RF (15 + 2 * r) 0 = some (15 + 2 * r + 1) ∧ 15 + 2 * r ≠ 23 ∧ 15 + 2 * r ≠ 24 := ⟨kd_res h, RF_res h, by omega, by omega⟩
theorem CR.ks {A M : Ab} {S : St} (h : CR A M S) {o : Nat} (ho : o < 4) : S.1 (11 + o) 0 = A 20 o ∧ S.1 (11 + o) 1 = A 21 o ∧ S.1 (11 + o) 2 = A 22 o ∧ S.1 (11 + o) 3 = A 23 o ∧ S.1 (11 + o) 4 = A 24 o ∧ S.1 (11 + o) 5 = A 25 o ∧ S.1 (11 + o) 6 = A 26 o ∧ S.1 (11 + o) 7 = A 27 o ∧ S.1 (11 + o) 8 = A 28 o ∧ S.1 (11 + o) 9 = A 29 o ∧ S.1 (11 + o) 10 = A 30 o ∧ S.1 (11 + o) 11 = A 31 o ∧ S.1 (11 + o) 12 = A 32 o :=
  ⟨h.act o 0 ho (by decide), h.act o 1 ho (by decide), h.act o 2 ho (by decide), h.act o 3 ho (by decide), h.act o 4 ho (by decide), h.act o 5 ho (by decide), h.act o 6 ho (by decide), h.act o 7 ho (by decide), h.act o 8 ho (by decide), h.act o 9 ho (by decide), h.act o 10 ho (by decide), h.act o 11 ho (by decide), h.act o 12 ho (by decide)⟩
theorem MR.ks {A C : Ab} {z : Option Nat × (Nat → Option Nat)} {T : St} (h : MR A C z T) {o : Nat} (ho : o < 4) : T.1 42 o = A 20 o ∧ T.1 43 o = A 21 o ∧ T.1 44 o = A 22 o ∧ T.1 45 o = A 23 o ∧ T.1 46 o = A 24 o ∧ T.1 47 o = A 25 o ∧ T.1 48 o = A 26 o ∧ T.1 49 o = A 27 o ∧ T.1 50 o = A 28 o ∧ T.1 54 o = A 29 o ∧ T.1 51 o = A 30 o ∧ T.1 52 o = A 31 o ∧ T.1 53 o = A 32 o :=
  ⟨h.act o 0 ho (by decide), h.act o 1 ho (by decide), h.act o 2 ho (by decide), h.act o 3 ho (by decide), h.act o 4 ho (by decide), h.act o 5 ho (by decide), h.act o 6 ho (by decide), h.act o 7 ho (by decide), h.act o 8 ho (by decide), h.act o 9 ho (by decide), h.act o 10 ho (by decide), h.act o 11 ho (by decide), h.act o 12 ho (by decide)⟩
theorem V_55 {S : St} {x : Int32} : G_55 S x = some (if 0 ≤ x ∧ x < 4 then some (11 + x.toNatClampNeg) else none, S) := by
  unfold G_55; simp only [xin4]; grind
theorem V_50 {S : St} {x : Int32} : G_50 S x = some (if 0 ≤ x ∧ x < 4 then some (15 + 2 * x.toNatClampNeg) else none, S) := by
  unfold G_50; simp only [xin4]; grind
def priA (A : Ab) (o : Nat) : Int32 := if A 26 o = 0 then 4 + 11 * A 21 o / 16 else A 26 o
section
variable {A M C : Ab} {z : Option Nat × (Nat → Option Nat)} {S T : St}
theorem C_19 (h : CR A M S) {o : Nat} (ho : o < 4) : G_19 S (11 + o) = some (priA A o, S) := by
  unfold G_19 priA; rw [if_pos (kd_act ho)]; have := h.ks ho; grind
theorem M_154 (h : MR A C z T) {x : Int32} (hx : 0 ≤ x) (hy : x < 4) : G_154 T x = some (priA A x.toNatClampNeg, T) := by
  unfold G_154 priA; rw [if_pos ((xin4 x).mpr ⟨hx, hy⟩)]; have := h.ks (tn4 hx hy); grind
def objA (A : Ab) (x k : Int32) : Int32 :=
  if 0 ≤ x ∧ x < 4 then
    (if k = 0 then A 20 x.toNatClampNeg else if k = 1 then A 21 x.toNatClampNeg else if k = 2 then A 24 x.toNatClampNeg else if k = 3 then A 25 x.toNatClampNeg else if k = 4 then priA A x.toNatClampNeg else if k = 5 then (if A 27 x.toNatClampNeg = 0 then 0 else 1) else if k = 6 then A 22 x.toNatClampNeg else if k = 7 then A 23 x.toNatClampNeg else -1)
  else -1
theorem C_109 (h : CR A M S) {x k : Int32} : G_109 S x k = some (objA A x k, S) := by
  unfold G_109 objA
  simp only [V_55]
  by_cases hx : 0 ≤ x ∧ x < 4
  · have ho := tn4 hx.1 hx.2
    have hk := h.ks ho
    simp only [if_pos hx, if_pos (kd_act ho), C_19 h ho, hk]
    grind
  · simp only [if_neg hx]
theorem M_162 (h : MR A C z T) {x k : Int32} : G_162 T x k = some (objA A x k, T) := by
  unfold G_162 objA
  simp only [V_115]
  by_cases hx : 0 ≤ x ∧ x < 4
  · have ho := tn4 hx.1 hx.2
    have hk := h.ks ho
    have e : ¬ (x < 0 ∨ 3 < x) := by grind
    simp only [if_pos hx, if_neg e, if_pos ((xin4 x).mpr hx), M_154 h hx.1 hx.2, hk]
    grind
  · have e : (x < 0 ∨ 3 < x) := by grind
    simp only [if_neg hx, if_pos e]
    rfl
end
/-- upward loops -/
theorem up_ind {lo N : Int32} {P : Int32 → Nat → Prop} (h0 : ∀ n, P N (n + 1)) (hs : ∀ i n, lo ≤ i → i < N → P (i + 1) n → P i (n + 1)) : ∀ (i : Int32) (n : Nat), lo ≤ i → i ≤ N → (N.toInt - i.toInt) < n → P i n := by
  intro i n
  induction n generalizing i with
  | zero =>
    intro h1 h2 h3
    rw [Int32.le_iff_toInt_le] at h2
    omega
  | succ n ih =>
    intro h1 h2 h3
    by_cases hn : i = N
    · subst hn; exact h0 n
    · have hl : i < N := by grind
      refine hs i n h1 hl (ih (i + 1) (by grind) (by grind) ?_)
      have e : (i + 1).toInt = i.toInt + 1 := by
        rw [Int32.toInt_add]
        have h5 : (1 : Int32).toInt = 1 := rfl
        rw [h5]
        rw [Int32.lt_iff_toInt_lt] at hl
        have := Int32.toInt_lt N
        have := Int32.le_toInt i
        apply Int.bmod_eq_of_le <;> omega
      omega
/-- downward loops -/
theorem dn_ind {lo N : Int32} {P : Int32 → Nat → Prop} (h0 : ∀ n, P lo (n + 1)) (hs : ∀ i n, lo < i → i ≤ N → P (i + (-1)) n → P i (n + 1)) : ∀ (i : Int32) (n : Nat), lo ≤ i → i ≤ N → (i.toInt - lo.toInt) < n → P i n := by
  intro i n
  induction n generalizing i with
  | zero =>
    intro h1 h2 h3
    rw [Int32.le_iff_toInt_le] at h1
    omega
  | succ n ih =>
    intro h1 h2 h3
    by_cases hn : i = lo
    · subst hn; exact h0 n
    · have hl : lo < i := by grind
      refine hs i n hl h2 (ih (i + (-1)) (by grind) (by grind) ?_)
      have e : (i + (-1)).toInt = i.toInt - 1 := by
        rw [Int32.toInt_add]
        have h5 : (-1 : Int32).toInt = -1 := rfl
        rw [h5]
        rw [Int32.lt_iff_toInt_lt] at hl
        have := Int32.toInt_lt i
        have := Int32.le_toInt lo
        apply Int.bmod_eq_of_le <;> omega
      omega
section
variable {A M C : Ab} {z : Option Nat × (Nat → Option Nat)} {S T : St}
theorem xa_id {f : Nat → Nat → Int32} {a k : Nat} : xa_u f a k (f a k) = f := by
  funext b j; rw [xa_if]; split <;> simp_all
theorem CR.uval (h : CR A M S) {j : Nat} (hj : j < 16) (v : Int32) : CR (xa_u A 3 j v) M (xa_u S.1 9 j v, S.2) := by
  obtain ⟨h0, h1, h2, h3, h4, h5, h6, h7, h8, h9, h10, h11, h12, h13⟩ := h
  refine ⟨?_, ?_, ?_, ?_, ?_, ?_, ?_, ?_, ?_, ?_, ?_, ?_, ?_, ?_⟩ <;> grind [xa_if]
theorem MR.uval (h : MR A C z T) {j : Nat} (hj : j < 16) (v : Int32) : MR (xa_u A 3 j v) C z (xa_u T.1 40 j v, T.2) := by
  obtain ⟨h0, h1, h2, h3, h4, h5, h6, h7, h8, h9, h10, h11, h12, h13, h14⟩ := h
  refine ⟨?_, ?_, ?_, ?_, ?_, ?_, ?_, ?_, ?_, ?_, ?_, ?_, ?_, ?_, ?_⟩ <;> grind [xa_if, mcl]
theorem CR.uflg (h : CR A M S) {j : Nat} (hj : j < 16) (v : Int32) : CR (xa_u A 4 j v) M (xa_u S.1 10 j v, S.2) := by
  obtain ⟨h0, h1, h2, h3, h4, h5, h6, h7, h8, h9, h10, h11, h12, h13⟩ := h
  refine ⟨?_, ?_, ?_, ?_, ?_, ?_, ?_, ?_, ?_, ?_, ?_, ?_, ?_, ?_⟩ <;> grind [xa_if]
theorem MR.uflg (h : MR A C z T) {j : Nat} (hj : j < 16) (v : Int32) : MR (xa_u A 4 j v) C z (xa_u T.1 41 j v, T.2) := by
  obtain ⟨h0, h1, h2, h3, h4, h5, h6, h7, h8, h9, h10, h11, h12, h13, h14⟩ := h
  refine ⟨?_, ?_, ?_, ?_, ?_, ?_, ?_, ?_, ?_, ?_, ?_, ?_, ?_, ?_, ?_⟩ <;> grind [xa_if, mcl]
theorem CR.ucol (h : CR A M S) {j : Nat} (hj : j < 192) (v : Int32) : CR (xa_u A 1 j v) M (xa_u S.1 3 j v, S.2) := by
  obtain ⟨h0, h1, h2, h3, h4, h5, h6, h7, h8, h9, h10, h11, h12, h13⟩ := h
  refine ⟨?_, ?_, ?_, ?_, ?_, ?_, ?_, ?_, ?_, ?_, ?_, ?_, ?_, ?_⟩ <;> grind [xa_if]
theorem MR.ucol (h : MR A C z T) {j : Nat} (hj : j < 192) (v : Int32) : MR (xa_u A 1 j v) C z (xa_u T.1 30 j v, T.2) := by
  obtain ⟨h0, h1, h2, h3, h4, h5, h6, h7, h8, h9, h10, h11, h12, h13, h14⟩ := h
  refine ⟨?_, ?_, ?_, ?_, ?_, ?_, ?_, ?_, ?_, ?_, ?_, ?_, ?_, ?_, ?_⟩ <;> grind [xa_if, mcl]
theorem CR.uctl (h : CR A M S) {j : Nat} (hj : j < 192) (v : Int32) : CR (xa_u A 2 j v) M (xa_u S.1 4 j v, S.2) := by
  obtain ⟨h0, h1, h2, h3, h4, h5, h6, h7, h8, h9, h10, h11, h12, h13⟩ := h
  refine ⟨?_, ?_, ?_, ?_, ?_, ?_, ?_, ?_, ?_, ?_, ?_, ?_, ?_, ?_⟩ <;> grind [xa_if]
theorem MR.uctl (h : MR A C z T) {j : Nat} (hj : j < 192) (v : Int32) : MR (xa_u A 2 j v) C z (xa_u T.1 31 j v, T.2) := by
  obtain ⟨h0, h1, h2, h3, h4, h5, h6, h7, h8, h9, h10, h11, h12, h13, h14⟩ := h
  refine ⟨?_, ?_, ?_, ?_, ?_, ?_, ?_, ?_, ?_, ?_, ?_, ?_, ?_, ?_, ?_⟩ <;> grind [xa_if, mcl]
theorem CR.ulim (h : CR A M S)  (v : Int32) : CR (xa_u A 0 0 v) M (xa_u S.1 0 0 v, S.2) := by
  obtain ⟨h0, h1, h2, h3, h4, h5, h6, h7, h8, h9, h10, h11, h12, h13⟩ := h
  refine ⟨?_, ?_, ?_, ?_, ?_, ?_, ?_, ?_, ?_, ?_, ?_, ?_, ?_, ?_⟩ <;> grind [xa_if]
theorem MR.ulim (h : MR A C z T)  (v : Int32) : MR (xa_u A 0 0 v) C z (xa_u T.1 29 0 v, T.2) := by
  obtain ⟨h0, h1, h2, h3, h4, h5, h6, h7, h8, h9, h10, h11, h12, h13, h14⟩ := h
  refine ⟨?_, ?_, ?_, ?_, ?_, ?_, ?_, ?_, ?_, ?_, ?_, ?_, ?_, ?_, ?_⟩ <;> grind [xa_if, mcl]
theorem CR.ucyc (h : CR A M S)  (v : Int32) : CR (xa_u A 0 1 v) M (xa_u S.1 0 5 v, S.2) := by
  obtain ⟨h0, h1, h2, h3, h4, h5, h6, h7, h8, h9, h10, h11, h12, h13⟩ := h
  refine ⟨?_, ?_, ?_, ?_, ?_, ?_, ?_, ?_, ?_, ?_, ?_, ?_, ?_, ?_⟩ <;> grind [xa_if]
theorem MR.ucyc (h : MR A C z T)  (v : Int32) : MR (xa_u A 0 1 v) C z (xa_u T.1 29 31 v, T.2) := by
  obtain ⟨h0, h1, h2, h3, h4, h5, h6, h7, h8, h9, h10, h11, h12, h13, h14⟩ := h
  refine ⟨?_, ?_, ?_, ?_, ?_, ?_, ?_, ?_, ?_, ?_, ?_, ?_, ?_, ?_, ?_⟩ <;> grind [xa_if, mcl]
theorem CR.uovr (h : CR A M S)  (v : Int32) : CR (xa_u A 0 2 v) M (xa_u S.1 0 6 v, S.2) := by
  obtain ⟨h0, h1, h2, h3, h4, h5, h6, h7, h8, h9, h10, h11, h12, h13⟩ := h
  refine ⟨?_, ?_, ?_, ?_, ?_, ?_, ?_, ?_, ?_, ?_, ?_, ?_, ?_, ?_⟩ <;> grind [xa_if]
theorem MR.uovr (h : MR A C z T)  (v : Int32) : MR (xa_u A 0 2 v) C z (xa_u T.1 29 30 v, T.2) := by
  obtain ⟨h0, h1, h2, h3, h4, h5, h6, h7, h8, h9, h10, h11, h12, h13, h14⟩ := h
  refine ⟨?_, ?_, ?_, ?_, ?_, ?_, ?_, ?_, ?_, ?_, ?_, ?_, ?_, ?_, ?_⟩ <;> grind [xa_if, mcl]
theorem CR.uwrd (h : CR A M S)  (v : Int32) : CR (xa_u A 0 3 v) M (xa_u S.1 1 5 v, S.2) := by
  obtain ⟨h0, h1, h2, h3, h4, h5, h6, h7, h8, h9, h10, h11, h12, h13⟩ := h
  refine ⟨?_, ?_, ?_, ?_, ?_, ?_, ?_, ?_, ?_, ?_, ?_, ?_, ?_, ?_⟩ <;> grind [xa_if]
theorem MR.uwrd (h : MR A C z T)  (v : Int32) : MR (xa_u A 0 3 v) C z (xa_u T.1 29 33 v, T.2) := by
  obtain ⟨h0, h1, h2, h3, h4, h5, h6, h7, h8, h9, h10, h11, h12, h13, h14⟩ := h
  refine ⟨?_, ?_, ?_, ?_, ?_, ?_, ?_, ?_, ?_, ?_, ?_, ?_, ?_, ?_, ?_⟩ <;> grind [xa_if, mcl]
theorem CR.ustp (h : CR A M S)  (v : Int32) : CR (xa_u A 0 4 v) M (xa_u S.1 23 6 v, S.2) := by
  obtain ⟨h0, h1, h2, h3, h4, h5, h6, h7, h8, h9, h10, h11, h12, h13⟩ := h
  refine ⟨?_, ?_, ?_, ?_, ?_, ?_, ?_, ?_, ?_, ?_, ?_, ?_, ?_, ?_⟩ <;> grind [xa_if]
theorem MR.ustp (h : MR A C z T)  (v : Int32) : MR (xa_u A 0 4 v) C z (xa_u T.1 29 32 v, T.2) := by
  obtain ⟨h0, h1, h2, h3, h4, h5, h6, h7, h8, h9, h10, h11, h12, h13, h14⟩ := h
  refine ⟨?_, ?_, ?_, ?_, ?_, ?_, ?_, ?_, ?_, ?_, ?_, ?_, ?_, ?_, ?_⟩ <;> grind [xa_if, mcl]
theorem CR.usiz (h : CR A M S) {r : Nat} (hr : r < 4) (v : Int32) : CR (xa_u A 5 r v) M (xa_u S.1 (15 + 2 * r) 1 v, S.2) := by
  obtain ⟨h0, h1, h2, h3, h4, h5, h6, h7, h8, h9, h10, h11, h12, h13⟩ := h
  refine ⟨?_, ?_, ?_, ?_, ?_, ?_, ?_, ?_, ?_, ?_, ?_, ?_, ?_, ?_⟩ <;> grind [xa_if]
theorem MR.usiz (h : MR A C z T) {r : Nat} (hr : r < 4) (v : Int32) : MR (xa_u A 5 r v) C z (xa_u T.1 34 r v, T.2) := by
  obtain ⟨h0, h1, h2, h3, h4, h5, h6, h7, h8, h9, h10, h11, h12, h13, h14⟩ := h
  refine ⟨?_, ?_, ?_, ?_, ?_, ?_, ?_, ?_, ?_, ?_, ?_, ?_, ?_, ?_, ?_⟩ <;> grind [xa_if, mcl]
theorem CR.ulod (h : CR A M S) {r : Nat} (hr : r < 4) (v : Int32) : CR (xa_u A 6 r v) M (xa_u S.1 (15 + 2 * r) 2 v, S.2) := by
  obtain ⟨h0, h1, h2, h3, h4, h5, h6, h7, h8, h9, h10, h11, h12, h13⟩ := h
  refine ⟨?_, ?_, ?_, ?_, ?_, ?_, ?_, ?_, ?_, ?_, ?_, ?_, ?_, ?_⟩ <;> grind [xa_if]
theorem MR.ulod (h : MR A C z T) {r : Nat} (hr : r < 4) (v : Int32) : MR (xa_u A 6 r v) C z (xa_u T.1 35 r v, T.2) := by
  obtain ⟨h0, h1, h2, h3, h4, h5, h6, h7, h8, h9, h10, h11, h12, h13, h14⟩ := h
  refine ⟨?_, ?_, ?_, ?_, ?_, ?_, ?_, ?_, ?_, ?_, ?_, ?_, ?_, ?_, ?_⟩ <;> grind [xa_if, mcl]
theorem CR.ubyt (h : CR A M S) {r j : Nat} (hr : r < 4) (hj : j < 64) (v : Int32) : CR (xa_u A (10 + r) j v) M (xa_u S.1 (16 + 2 * r) j v, S.2) := by
  obtain ⟨h0, h1, h2, h3, h4, h5, h6, h7, h8, h9, h10, h11, h12, h13⟩ := h
  refine ⟨?_, ?_, ?_, ?_, ?_, ?_, ?_, ?_, ?_, ?_, ?_, ?_, ?_, ?_⟩ <;> grind [xa_if]
theorem MR.ubyt (h : MR A C z T) {r j : Nat} (hr : r < 4) (hj : j < 64) (v : Int32) : MR (xa_u A (10 + r) j v) C z (xa_u T.1 33 (64 * r + j) v, T.2) := by
  obtain ⟨h0, h1, h2, h3, h4, h5, h6, h7, h8, h9, h10, h11, h12, h13, h14⟩ := h
  refine ⟨?_, ?_, ?_, ?_, ?_, ?_, ?_, ?_, ?_, ?_, ?_, ?_, ?_, ?_, ?_⟩ <;> grind [xa_if, mcl]
theorem CR.uact (h : CR A M S) {o f : Nat} (ho : o < 4) (hf : f < 13) (v : Int32) : CR (xa_u A (20 + f) o v) M (xa_u S.1 (11 + o) f v, S.2) := by
  obtain ⟨h0, h1, h2, h3, h4, h5, h6, h7, h8, h9, h10, h11, h12, h13⟩ := h
  refine ⟨?_, ?_, ?_, ?_, ?_, ?_, ?_, ?_, ?_, ?_, ?_, ?_, ?_, ?_⟩ <;> grind [xa_if]
theorem MR.uact (h : MR A C z T) {o f : Nat} (ho : o < 4) (hf : f < 13) (v : Int32) : MR (xa_u A (20 + f) o v) C z (xa_u T.1 (mcl f) o v, T.2) := by
  obtain ⟨h0, h1, h2, h3, h4, h5, h6, h7, h8, h9, h10, h11, h12, h13, h14⟩ := h
  refine ⟨?_, ?_, ?_, ?_, ?_, ?_, ?_, ?_, ?_, ?_, ?_, ?_, ?_, ?_, ?_⟩ <;> grind [xa_if, mcl]
/-- private cells of the class -/
def cpv (c k : Nat) : Prop := c = 2 ∨ c = 5 ∨ c = 6 ∨ (c = 23 ∧ k ≠ 6) ∨ (24 ≤ c ∧ c ≤ 28)
theorem CR.up (h : CR A M S) {c k : Nat} (hc : cpv c k) (v : Int32) : CR A M (xa_u S.1 c k v, S.2) := by
  unfold cpv at hc
  obtain ⟨h0, h1, h2, h3, h4, h5, h6, h7, h8, h9, h10, h11, h12, h13⟩ := h
  refine ⟨?_, ?_, ?_, ?_, ?_, ?_, ?_, ?_, ?_, ?_, ?_, ?_, ?_, ?_⟩ <;> grind [xa_if]
theorem CR.uz (h : CR A M S) (y : Option Nat × (Nat → Option Nat)) : CR A M (S.1, y) := by
  obtain ⟨h0, h1, h2, h3, h4, h5, h6, h7, h8, h9, h10, h11, h12, h13⟩ := h
  refine ⟨?_, ?_, ?_, ?_, ?_, ?_, ?_, ?_, ?_, ?_, ?_, ?_, ?_, ?_⟩ <;> assumption
/-- private cells of the model -/
def mpv (c k : Nat) : Prop := c = 32 ∨ (36 ≤ c ∧ c ≤ 39) ∨ c = 55 ∨ c = 56 ∨ (c = 29 ∧ k ≠ 0 ∧ ¬ (30 ≤ k ∧ k ≤ 33))
theorem MR.up (h : MR A C z T) {c k : Nat} (hc : mpv c k) (v : Int32) : MR A C z (xa_u T.1 c k v, T.2) := by
  unfold mpv at hc
  obtain ⟨h0, h1, h2, h3, h4, h5, h6, h7, h8, h9, h10, h11, h12, h13, h14⟩ := h
  refine ⟨?_, ?_, ?_, ?_, ?_, ?_, ?_, ?_, ?_, ?_, ?_, ?_, ?_, ?_, ?_⟩ <;> grind [xa_if, mcl]
end
/-! The bytes' reading, as functions of the bytes alone: b p is the byte at p, -1 past the end -/
def bt (A : Ab) (r : Nat) (p : Int32) : Int32 := if p < A 5 r then A (10 + r) p.toNatClampNeg else -1
def lo (c x : Int32) : Int32 := if c = 114 then (if x = 0 then 0 else 4) else if c = 101 ∨ c = 107 ∨ c = 115 ∨ c = 119 then 1 else 0
def hi (c : Int32) : Int32 := if c = 98 then 1 else if c = 100 then 8 else if c = 101 then 3 else if c = 102 then 15 else if c = 107 then 3 else if c = 111 then 3 else if c = 114 then 15 else if c = 115 then 4 else if c = 118 then 15 else if c = 120 then 15 else if c = 121 then 11 else 255
def chk (b : Int32 → Int32) (w p l h : Int32) : Int32 := if 0 ≤ w then w else if b p < l ∨ h < b p then p else w
def ops (b : Int32 → Int32) : Int32 → Int32 → List Int32 → Int32
  | w, _, [] => w
  | w, p, c :: L => ops b (chk b w p (lo c (b p)) (hi c)) (p + 1) L
def opc (c : Int32) : List Int32 := if c = 1 ∨ c = 2 then [118, 110] else if c = 3 then [118, 118] else if c = 4 ∨ c = 5 then [102] else if c = 6 then [107] else if c = 7 then [110] else if c = 9 then [111, 120, 121] else if c = 10 ∨ c = 15 then [111] else if c = 11 then [111, 115, 115] else if c = 12 then [111, 100] else if c = 13 then [111, 120, 121, 102] else if c = 14 then [101, 102] else if c = 16 then [111, 114] else if c = 17 then [111, 98] else []
def lfc (c : Int32) : List Int32 := if c = 0 ∨ c = 1 then [118, 110] else if c = 2 then [102] else if c = 3 then [119] else [111, 120, 121, 120, 121]
def ln (L : List Int32) : Int32 := Int32.ofNat L.length
def leaf (b : Int32 → Int32) (p : Int32) : Int32 × Int32 := (ops b (-1) (p + 1) (lfc (b p)), p + 1 + ln (lfc (b p)))
def prs (b : Int32 → Int32) : Nat → Int32 → Int32 × Int32
  | 0, p => if 0 ≤ b p ∧ b p < 5 then leaf b p else (p, p)
  | k + 1, p => if 0 ≤ b p ∧ b p < 5 then leaf b p else if 5 ≤ b p ∧ b p ≤ 7 then
      (if (prs b k (p + 1)).1 = -1 then (if b p = 5 then prs b k (p + 1) else prs b k (prs b k (p + 1)).2) else prs b k (p + 1))
    else (p, p)
def ins (b : Int32 → Int32) (p : Int32) : Int32 × Int32 :=
  if 0 ≤ b p ∧ b p ≤ 18 then
    (if b p = 8 then
      (if (prs b 6 (p + 1)).1 = -1 then (chk b (-1) (prs b 6 (p + 1)).2 0 255, (prs b 6 (p + 1)).2 + 1) else prs b 6 (p + 1))
    else (ops b (-1) (p + 1) (opc (b p)), p + 1 + ln (opc (b p))))
  else (p, p)
/-- the places of the instructions -/
def sq (b : Int32 → Int32) : Nat → Int32
  | 0 => 0
  | i + 1 => (ins b (sq b i)).2
/-- where a jump leads -/
def jmp (b : Int32 → Int32) (p q : Int32) : Int32 := if b p = 7 then (if b (q - 1) ≤ 127 then q + b (q - 1) else q + (b (q - 1) - 256)) else q + b (q - 1)
def LogOK (b : Int32 → Int32) (n : Int32) : Prop :=
  ∃ m : Nat, sq b m = n ∧ ∀ i, i < m → sq b i < n ∧ (ins b (sq b i)).1 = -1 ∧ ((b (sq b i) = 7 ∨ b (sq b i) = 8) → ∃ j, j ≤ m ∧ jmp b (sq b i) (sq b (i + 1)) = sq b j)
/-- pictures -/
def sh (x : Int32) : Int32 := if x ≤ 8 then x else 8 - x
abbrev onS (x y : Int32) : Prop := 0 ≤ x ∧ x < 16 ∧ 0 ≤ y ∧ y < 12
def chp (b : Int32 → Int32) (w p : Int32) : Int32 := chk b (chk b w p 0 15) (p + 1) 0 11
def plp (b : Int32 → Int32) : Nat → Int32 → Int32 → Int32 → Int32 → Int32 × Int32
  | 0, _, _, _, p => (-1, p)
  | k + 1, c, x, y, p =>
    if b p = -1 ∨ 240 ≤ b p then (-1, p)
    else if c = 245 then
      (if onS (x + sh (b p / 16)) (y + sh (b p - b p / 16 * 16)) then plp b k c (x + sh (b p / 16)) (y + sh (b p - b p / 16 * 16)) (p + 1) else (p, p))
    else (if chp b (-1) p = -1 then plp b k c x y (p + 2) else (chp b (-1) p, p))
def pcm (b : Int32 → Int32) (p : Int32) : Int32 × Int32 :=
  if b p = 241 ∨ b p = 243 then (-1, p + 1)
  else if b p = 240 ∨ b p = 242 then (chk b (-1) (p + 1) 0 15, p + 2)
  else if 244 ≤ b p ∧ b p ≤ 246 then
    (if chp b (-1) (p + 1) = -1 then plp b 70 (b p) (b (p + 1)) (b (p + 2)) (p + 3) else (chp b (-1) (p + 1), p))
  else (p, p)
def ps (b : Int32 → Int32) : Nat → Int32
  | 0 => 0
  | i + 1 => (pcm b (ps b i)).2
def PicOK (b : Int32 → Int32) (n : Int32) : Prop :=
  ∃ m : Nat, b (ps b m) = 255 ∧ ps b m + 1 = n ∧ ∀ i, i < m → b (ps b i) ≠ 255 ∧ (pcm b (ps b i)).1 = -1
def WF (A : Ab) : Prop :=
  (16 ≤ A 0 0 ∧ A 0 0 ≤ 200) ∧
  (∀ r, r < 4 → 0 ≤ A 5 r ∧ A 5 r ≤ 64) ∧
  (∀ r j, r < 4 → j < 64 → 0 ≤ A (10 + r) j ∧ A (10 + r) j ≤ 255) ∧
  (∀ o, o < 4 → 0 ≤ A 20 o ∧ A 20 o < 16 ∧ 1 ≤ A 22 o ∧ A 22 o ≤ 4 ∧ A 20 o + A 22 o ≤ 16 ∧ 0 ≤ A 21 o ∧ A 21 o < 12) ∧
  (∀ o, o < 4 → 0 ≤ A 32 o ∧ A 32 o < 16) ∧
  (∀ j, j < 16 → A 4 j = 0 ∨ A 4 j = 1) ∧
  (∀ r, 1 ≤ r → r < 4 → A 6 r ≠ 0 → LogOK (bt A r) (A 5 r)) ∧
  (A 6 0 ≠ 0 → PicOK (bt A 0) (A 5 0))
theorem WF.lim {A : Ab} (h : WF A) : 16 ≤ A 0 0 ∧ A 0 0 ≤ 200 := h.1
theorem WF.siz {A : Ab} (h : WF A) : ∀ r, r < 4 → 0 ≤ A 5 r ∧ A 5 r ≤ 64 := h.2.1
theorem WF.byt {A : Ab} (h : WF A) : ∀ r j, r < 4 → j < 64 → 0 ≤ A (10 + r) j ∧ A (10 + r) j ≤ 255 := h.2.2.1
theorem WF.act {A : Ab} (h : WF A) : ∀ o, o < 4 → 0 ≤ A 20 o ∧ A 20 o < 16 ∧ 1 ≤ A 22 o ∧ A 22 o ≤ 4 ∧ A 20 o + A 22 o ≤ 16 ∧ 0 ≤ A 21 o ∧ A 21 o < 12 := h.2.2.2.1
theorem WF.gfl {A : Ab} (h : WF A) : ∀ o, o < 4 → 0 ≤ A 32 o ∧ A 32 o < 16 := h.2.2.2.2.1
theorem WF.flg {A : Ab} (h : WF A) : ∀ j, j < 16 → A 4 j = 0 ∨ A 4 j = 1 := h.2.2.2.2.2.1
theorem WF.log {A : Ab} (h : WF A) : ∀ r, 1 ≤ r → r < 4 → A 6 r ≠ 0 → LogOK (bt A r) (A 5 r) := h.2.2.2.2.2.2.1
theorem WF.pic {A : Ab} (h : WF A) : A 6 0 ≠ 0 → PicOK (bt A 0) (A 5 0) := h.2.2.2.2.2.2.2
/-- what the resources are is the same -/
def RE (A B : Ab) : Prop := ∀ r, r < 4 → A 5 r = B 5 r ∧ A 6 r = B 6 r ∧ ∀ j, A (10 + r) j = B (10 + r) j
theorem RE.b0 {A B : Ab} (h : RE A B) {r : Nat} (hr : r < 4) : bt A r = bt B r := by
  funext p; unfold bt; rw [(h r hr).1, (h r hr).2.2]
theorem RE.trans {A B C : Ab} (h : RE A B) (g : RE B C) : RE A C := fun r hr => ⟨(h r hr).1.trans (g r hr).1, (h r hr).2.1.trans (g r hr).2.1, fun j => ((h r hr).2.2 j).trans ((g r hr).2.2 j)⟩
theorem RE.refl (A : Ab) : RE A A := fun r hr => ⟨rfl, rfl, fun _ => rfl⟩
/-- cells of the resources -/
def rsc (c : Nat) : Prop := c = 5 ∨ c = 6 ∨ (10 ≤ c ∧ c < 14)
theorem RE.u {A : Ab} {c k : Nat} (v : Int32) (h : ¬ rsc c) : RE A (xa_u A c k v) := by
  unfold rsc at h
  intro r hr
  refine ⟨?_, ?_, fun j => ?_⟩ <;> rw [xa_c (by omega)]
theorem WF.of {A B : Ab} (h : WF A) (hr : RE A B) (h1 : 16 ≤ B 0 0 ∧ B 0 0 ≤ 200) (h2 : ∀ o, o < 4 → 0 ≤ B 20 o ∧ B 20 o < 16 ∧ 1 ≤ B 22 o ∧ B 22 o ≤ 4 ∧ B 20 o + B 22 o ≤ 16 ∧ 0 ≤ B 21 o ∧ B 21 o < 12) (h3 : ∀ o, o < 4 → 0 ≤ B 32 o ∧ B 32 o < 16) (h4 : ∀ j, j < 16 → B 4 j = 0 ∨ B 4 j = 1) : WF B := by
  refine ⟨h1, fun r h' => ?_, fun r j h' hj => ?_, h2, h3, h4, fun r g1 g2 g3 => ?_, fun g => ?_⟩
  · rw [← (hr r h').1]; exact h.siz r h'
  · rw [← (hr r h').2.2 j]; exact h.byt r j h' hj
  · rw [← hr.b0 g2, ← (hr r g2).1]; exact h.log r g1 g2 (by rw [(hr r g2).2.1]; exact g3)
  · rw [← hr.b0 (by decide), ← (hr 0 (by decide)).1]; exact h.pic (by rw [(hr 0 (by decide)).2.1]; exact g)
/-- a call answers alike on both sides -/
def Same (Gc Gm : St → Option (Int32 × St)) : Prop :=
  ∀ (A M C : Ab) (z : Option Nat × (Nat → Option Nat)) (S T : St), WF A → CR A M S → MR A C z T → ∃ (v : Int32) (A' : Ab) (S' T' : St), Gc S = some (v, S') ∧ Gm T = some (v, T') ∧ CR A' M S' ∧ MR A' C z T' ∧ WF A'
def Inv (S : St) : Prop := ∃ A, WF A ∧ CR A S.1 S ∧ MR A S.1 S.2 S
theorem Same.step {Gc Gm : St → Option (Int32 × St)} (h : Same Gc Gm) {S : St} (hi : Inv S) : ∃ (v : Int32) (S' T' : St), Gc S = some (v, S') ∧ Gm S' = some (v, T') ∧ Inv T' := by
  obtain ⟨A, hw, hc, hm⟩ := hi
  obtain ⟨v, A1, S1, T1, e1, _, hc1, _, _⟩ := h A S.1 S.1 S.2 S S hw hc hm
  have hm1 : MR A S1.1 S1.2 S1 := by
    have f := hc1.fr
    obtain ⟨h0, h1, h2, h3, h4, h5, h6, h7, h8, h9, h10, h11, h12, h13, h14⟩ := hm
    refine ⟨?lim_0, ?cyc_0, ?ovr_0, ?wrd_0, ?stp_0, ?col_0, ?ctl_0, ?val_0, ?flg_0, ?siz_0, ?lod_0, ?byt_0, ?act_0, ?fr_0, ?fz_0⟩
    case fr_0 => intro c j _; rfl
    case fz_0 => rfl
    all_goals grind [mcl]
  obtain ⟨v2, A2, S2, T2, e3, e4, hc2, hm2, hw2⟩ := h A S.1 S1.1 S1.2 S S1 hw hc hm1
  rw [e1] at e3
  cases e3
  refine ⟨v, S1, T2, e1, e4, A2, hw2, ?_, ?_⟩
  · have f := hm2.fr
    obtain ⟨h0, h1, h2, h3, h4, h5, h6, h7, h8, h9, h10, h11, h12, h13⟩ := hc2
    refine ⟨?lim_1, ?cyc_1, ?ovr_1, ?wrd_1, ?stp_1, ?col_1, ?ctl_1, ?val_1, ?flg_1, ?siz_1, ?lod_1, ?byt_1, ?act_1, ?fr_1⟩
    case fr_1 => intro c j _; rfl
    all_goals grind
  · obtain ⟨h0, h1, h2, h3, h4, h5, h6, h7, h8, h9, h10, h11, h12, h13, h14⟩ := hm2
    refine ⟨?lim_2, ?cyc_2, ?ovr_2, ?wrd_2, ?stp_2, ?col_2, ?ctl_2, ?val_2, ?flg_2, ?siz_2, ?lod_2, ?byt_2, ?act_2, ?fr_2, ?fz_2⟩
    case fr_2 => intro c j _; rfl
    case fz_2 => rfl
    all_goals assumption
theorem e10 : ((1 : Int32) = 0) = False := by simp
theorem n16 {x : Int32} (h : 0 ≤ x ∧ x < 16) : x.toNatClampNeg < 16 := tn16 h.1 h.2
theorem n192 {x y : Int32} (h : 0 ≤ x ∧ x < 16 ∧ 0 ≤ y ∧ y < 12) : (16 * y + x).toNatClampNeg < 192 := tn192 (by grind) (by grind)
theorem s_103 : Same (fun S => G_103 S) (fun S => G_156 S) := by
  intro A M C z S T hw hc hm
  exact ⟨A 0 1, A, S, T, by simp only [G_103, hc.cyc], by simp only [G_156, hm.cyc], hc, hm, hw⟩
theorem s_104 : Same (fun S => G_104 S) (fun S => G_157 S) := by
  intro A M C z S T hw hc hm
  exact ⟨A 0 4, A, S, T, by simp only [G_104, hc.stp], by simp only [G_157, hm.stp], hc, hm, hw⟩
theorem s_105 (x : Int32) : Same (fun S => G_105 S x) (fun S => G_158 S x) := by
  intro A M C z S T hw hc hm
  refine ⟨if 0 ≤ x ∧ x < 16 then A 3 x.toNatClampNeg else -1, A, S, T, ?_, ?_, hc, hm, hw⟩
  · simp only [G_105, V_52]; have := hc.val x.toNatClampNeg; have := @n16 x; grind
  · simp only [V_158]; have := hm.val x.toNatClampNeg; have := @n16 x; grind
theorem s_106 (x v : Int32) : Same (fun S => G_106 S x v) (fun S => G_159 S x v) := by
  intro A M C z S T hw hc hm
  simp only [V_106, V_159]
  by_cases h : 0 ≤ v ∧ v ≤ 255 ∧ 0 ≤ x ∧ x < 16
  · rw [if_pos h, if_pos h]
    refine ⟨1, _, _, _, rfl, rfl, hc.uval (n16 h.2.2) v, hm.uval (n16 h.2.2) v, ?_⟩
    refine hw.of (RE.u _ (by unfold rsc; omega)) ?_ ?_ ?_ ?_
    all_goals simp only [xa_if]
    · exact hw.lim
    · exact hw.act
    · exact hw.gfl
    · exact hw.flg
  · rw [if_neg h, if_neg h]
    exact ⟨0, A, S, T, rfl, rfl, hc, hm, hw⟩
theorem s_107 (x : Int32) : Same (fun S => G_107 S x) (fun S => G_160 S x) := by
  intro A M C z S T hw hc hm
  refine ⟨if 0 ≤ x ∧ x < 16 ∧ A 4 x.toNatClampNeg ≠ 0 then 1 else 0, A, S, T, ?_, ?_, hc, hm, hw⟩
  · simp only [V_107]; have := hc.flg x.toNatClampNeg; have := @n16 x; grind
  · simp only [V_160]; have := hm.flg x.toNatClampNeg; have := @n16 x; grind
theorem WF.uflg {A : Ab} (hw : WF A) {j : Nat} {v : Int32} (hv : v = 0 ∨ v = 1) : WF (xa_u A 4 j v) := by
  refine hw.of (RE.u _ (by unfold rsc; omega)) ?_ ?_ ?_ ?_
  all_goals simp only [xa_if]
  · exact hw.lim
  · exact hw.act
  · exact hw.gfl
  · intro i hi; have := hw.flg i hi; grind
theorem WF.uval {A : Ab} (hw : WF A) {j : Nat} {v : Int32} : WF (xa_u A 3 j v) := by
  refine hw.of (RE.u _ (by unfold rsc; omega)) ?_ ?_ ?_ ?_
  all_goals simp only [xa_if]
  · exact hw.lim
  · exact hw.act
  · exact hw.gfl
  · exact hw.flg
theorem WF.u0 {A : Ab} (hw : WF A) {j : Nat} {v : Int32} (hj : j ≠ 0) : WF (xa_u A 0 j v) := by
  refine hw.of (RE.u _ (by unfold rsc; omega)) ?_ ?_ ?_ ?_
  all_goals simp only [xa_if]
  · have := hw.lim; grind
  · exact hw.act
  · exact hw.gfl
  · exact hw.flg
theorem WF.u12 {A : Ab} (hw : WF A) {c j : Nat} {v : Int32} (hc : c = 1 ∨ c = 2) : WF (xa_u A c j v) := by
  refine hw.of (RE.u _ (by unfold rsc; omega)) ?_ ?_ ?_ ?_
  all_goals simp only [xa_if]
  · have := hw.lim; grind
  · have := hw.act; grind
  · have := hw.gfl; grind
  · have := hw.flg; grind
/-- fields of the actors that nothing asks of -/
theorem WF.ua {A : Ab} (hw : WF A) {f o : Nat} {v : Int32} (hf : f ≠ 0 ∧ f ≠ 1 ∧ f ≠ 2 ∧ f ≠ 12) (hg : f < 13) : WF (xa_u A (20 + f) o v) := by
  refine hw.of (RE.u _ (by unfold rsc; omega)) ?_ ?_ ?_ ?_
  all_goals simp only [xa_if]
  · have := hw.lim; grind
  · have := hw.act; grind
  · have := hw.gfl; grind
  · have := hw.flg; grind
theorem WF.ug {A : Ab} (hw : WF A) {o : Nat} {v : Int32} (hv : 0 ≤ v ∧ v < 16) : WF (xa_u A 32 o v) := by
  refine hw.of (RE.u _ (by unfold rsc; omega)) ?_ ?_ ?_ ?_
  all_goals simp only [xa_if]
  · have := hw.lim; grind
  · have := hw.act; grind
  · have := hw.gfl; grind
  · have := hw.flg; grind
theorem s_108 (x v : Int32) (hv : v = 0 ∨ v = 1) : Same (fun S => G_108 S x v) (fun S => G_161 S x v) := by
  intro A M C z S T hw hc hm
  simp only [V_108 hv, V_161 hv]
  by_cases h : 0 ≤ x ∧ x < 16
  · rw [if_pos h, if_pos h]
    exact ⟨1, _, _, _, rfl, rfl, hc.uflg (n16 h) v, hm.uflg (n16 h) v, hw.uflg hv⟩
  · rw [if_neg h, if_neg h]
    exact ⟨0, A, S, T, rfl, rfl, hc, hm, hw⟩
theorem s_109 (x k : Int32) : Same (fun S => G_109 S x k) (fun S => G_162 S x k) := by
  intro A M C z S T hw hc hm
  exact ⟨_, A, S, T, C_109 hc, M_162 hm, hc, hm, hw⟩
theorem s_110 (x y k : Int32) : Same (fun S => G_110 S x y k) (fun S => G_163 S x y k) := by
  intro A M C z S T hw hc hm
  refine ⟨if 0 ≤ x ∧ x < 16 ∧ 0 ≤ y ∧ y < 12 then (if k = 0 then A 1 (16 * y + x).toNatClampNeg else if k = 1 then A 2 (16 * y + x).toNatClampNeg else -1) else -1, A, S, T, ?_, ?_, hc, hm, hw⟩
  · simp only [V_110]; have := hc.col (16 * y + x).toNatClampNeg; have := hc.ctl (16 * y + x).toNatClampNeg; have := @n192 x y; grind
  · simp only [V_163]; have := hm.col (16 * y + x).toNatClampNeg; have := hm.ctl (16 * y + x).toNatClampNeg; have := @n192 x y; grind
/-! seen -/
abbrev covA (A : Ab) (o : Nat) (x y : Int32) : Prop := A 27 o ≠ 0 ∧ A 20 o ≤ x ∧ x < A 20 o + A 22 o ∧ y ≤ A 21 o ∧ A 21 o - A 23 o < y
section
variable {A M C : Ab} {z : Option Nat × (Nat → Option Nat)} {S T : St}
theorem C_21 (h : CR A M S) {o : Nat} (ho : o < 4) {x y : Int32} : G_21 S (11 + o) x y = some (if covA A o x y then 1 else 0, S) := by
  unfold G_21 covA; rw [if_pos (kd_act ho)]; have := h.ks ho; grind
theorem M_165 (h : MR A C z T) {i : Int32} (hi : 0 ≤ i) (hj : i < 4) {x y : Int32} : G_165 T i x y = some (if covA A i.toNatClampNeg x y then 1 else 0, T) := by
  unfold G_165 covA; rw [if_pos ((xin4 i).mpr ⟨hi, hj⟩)]; have := h.ks (tn4 hi hj); grind
abbrev bhd (A : Ab) (o p : Nat) : Prop := priA A o < priA A p ∨ (priA A o = priA A p ∧ A 21 o < A 21 p)
theorem C_22 (h : CR A M S) {o p : Nat} (ho : o < 4) (hp : p < 4) : G_22 S (11 + o) (11 + p) = some (if bhd A o p then 1 else 0, S) := by
  unfold G_22 bhd; simp only [C_19 h ho, C_19 h hp]; rw [if_pos (kd_act ho)]; have := h.ks ho; have := h.ks hp; simp only [if_pos (kd_act hp)]; grind
theorem seen_loop (hc : CR A M S) (hm : MR A C z T) {x y d : Int32} (hxy : 0 ≤ x ∧ x < 16 ∧ 0 ≤ y ∧ y < 12) : ∀ (i : Int32) (n : Nat), 0 ≤ i → i ≤ 4 → ((4 : Int32).toInt - i.toInt) < n → ∀ f : Int32, (-1 ≤ f ∧ f < 4) → ∃ g : Int32, (-1 ≤ g ∧ g < 4) ∧ GL_56_0 n S x y d f i = some (g, S) ∧ GL_164_0 n T x y d f i = some (if 0 ≤ g then 16 + g else A 1 (16 * y + x).toNatClampNeg, T) := by
  refine up_ind (P := fun i n => ∀ f : Int32, (-1 ≤ f ∧ f < 4) → ∃ g : Int32, (-1 ≤ g ∧ g < 4) ∧ GL_56_0 n S x y d f i = some (g, S) ∧ GL_164_0 n T x y d f i = some (if 0 ≤ g then 16 + g else A 1 (16 * y + x).toNatClampNeg, T)) ?_ ?_
  · intro n f hf
    refine ⟨f, hf, by rw [GL_56_0, if_pos (by decide)], ?_⟩
    rw [GL_164_0, if_pos (by decide)]
    have e := n192 hxy
    have := hm.col _ e
    have hx : xa_in (16 * y + x) 192 := (xin192 _).mpr (by grind)
    rw [if_pos hx, this]
    grind
  · intro i n h0 h4 ih f hf
    have ho := tn4 h0 h4
    have e1 : ¬ (4 ≤ i) := by grind
    rw [GL_56_0, GL_164_0, if_neg e1, if_neg e1, if_pos ((xin4 i).mpr ⟨h0, h4⟩), if_pos (kd_act ho), C_21 hc ho, M_165 hm h0 h4]
    by_cases hcv : covA A i.toNatClampNeg x y
    · simp only [if_pos hcv, C_19 hc ho, M_154 hm h0 h4]
      simp only [e10, if_false]
      by_cases hd : priA A i.toNatClampNeg < d
      · rw [if_pos hd, if_pos hd]; exact ih f hf
      · rw [if_neg hd, if_neg hd]
        by_cases hf1 : f = -1
        · rw [if_pos hf1, if_pos (show f < 0 by grind)]; exact ih i (by grind)
        · have hf0 : 0 ≤ f := by grind
          have hp := tn4 hf0 hf.2
          rw [if_neg hf1, if_neg (show ¬ f < 0 by grind), if_pos ((xin4 f).mpr ⟨hf0, hf.2⟩), C_22 hc ho hp]
          simp only [M_154 hm h0 h4, M_154 hm hf0 hf.2]
          have k1 := hm.ks ho
          have k2 := hm.ks hp
          by_cases hb : bhd A i.toNatClampNeg f.toNatClampNeg
          · simp only [if_pos hb, e10, if_false]
            obtain ⟨g, hg, q1, q2⟩ := ih f hf
            refine ⟨g, hg, q1, ?_⟩
            unfold bhd at hb
            rw [if_neg (by grind)]
            by_cases hq : priA A i.toNatClampNeg = priA A f.toNatClampNeg
            · rw [if_pos hq, if_pos ((xin4 i).mpr ⟨h0, h4⟩), if_pos ((xin4 f).mpr ⟨hf0, hf.2⟩), if_pos (by grind)]; exact q2
            · rw [if_neg hq]; exact q2
          · simp only [if_neg hb, if_true]
            obtain ⟨g, hg, q1, q2⟩ := ih i (by grind)
            refine ⟨g, hg, q1, ?_⟩
            unfold bhd at hb
            by_cases hq : priA A i.toNatClampNeg = priA A f.toNatClampNeg
            · rw [if_neg (by grind), if_pos hq, if_pos ((xin4 i).mpr ⟨h0, h4⟩), if_pos ((xin4 f).mpr ⟨hf0, hf.2⟩), if_neg (by grind)]; exact q2
            · rw [if_pos (by grind)]; exact q2
    · simp only [if_neg hcv, if_true]
      exact ih f hf
/-- the first control value from y down that is at least 4 -/
theorem dep_c (hc : CR A M S) {x : Int32} (hx : 0 ≤ x ∧ x < 16) : ∀ (y : Int32) (n : Nat), 0 ≤ y → y ≤ 12 → ((12 : Int32).toInt - y.toInt) < n → ∃ d, GL_48_0 n S x y = some (d, S) ∧ ((∀ j, y ≤ j → j < 12 → A 2 (16 * j + x).toNatClampNeg < 4) ∧ d = 4 ∨ ∃ j, y ≤ j ∧ j < 12 ∧ 4 ≤ A 2 (16 * j + x).toNatClampNeg ∧ d = A 2 (16 * j + x).toNatClampNeg ∧ ∀ i, y ≤ i → i < j → A 2 (16 * i + x).toNatClampNeg < 4) := by
  refine up_ind (P := fun y n => ∃ d, GL_48_0 n S x y = some (d, S) ∧ ((∀ j, y ≤ j → j < 12 → A 2 (16 * j + x).toNatClampNeg < 4) ∧ d = 4 ∨ ∃ j, y ≤ j ∧ j < 12 ∧ 4 ≤ A 2 (16 * j + x).toNatClampNeg ∧ d = A 2 (16 * j + x).toNatClampNeg ∧ ∀ i, y ≤ i → i < j → A 2 (16 * i + x).toNatClampNeg < 4)) ?_ ?_
  · intro n
    exact ⟨4, by rw [GL_48_0, if_pos (by decide)], Or.inl ⟨fun j h1 h2 => by grind, rfl⟩⟩
  · intro y n h0 h4 ih
    have h5 : 0 ≤ x ∧ x < 16 ∧ 0 ≤ y ∧ y < 12 := ⟨hx.1, hx.2, h0, h4⟩
    rw [GL_48_0, if_neg (by grind)]
    simp only [V_46, if_pos h5, hc.ctl _ (n192 h5)]
    by_cases hv : A 2 (16 * y + x).toNatClampNeg < 4
    · rw [if_pos hv]
      obtain ⟨d, e1, e2⟩ := ih
      refine ⟨d, e1, ?_⟩
      have key : ∀ j, y ≤ j → j = y ∨ y + 1 ≤ j := by intro j hj; grind
      rcases e2 with ⟨g1, g2⟩ | ⟨j, g1, g2, g3, g4, g5⟩
      · refine Or.inl ⟨fun j k1 k2 => ?_, g2⟩
        rcases key j k1 with rfl | k
        · exact hv
        · exact g1 j k k2
      · refine Or.inr ⟨j, by grind, g2, g3, g4, fun i k1 k2 => ?_⟩
        rcases key i k1 with rfl | k
        · exact hv
        · exact g5 i k k2
    · rw [if_neg hv]
      exact ⟨_, rfl, Or.inr ⟨y, by grind, h4, by grind, rfl, fun i k1 k2 => by grind⟩⟩
theorem dep_m (hm : MR A C z T) {x y : Int32} (hx : 0 ≤ x ∧ x < 16 ∧ 0 ≤ y ∧ y < 12) : ∀ (i : Int32) (n : Nat), y - 1 ≤ i → i ≤ 11 → (i.toInt - (y - 1).toInt) < n → ∀ d0 : Int32, ∃ d, GL_164_1 n T x y d0 i = GL_164_0 xFu T x y d (-1) 0 ∧ ((∀ j, y ≤ j → j ≤ i → A 2 (16 * j + x).toNatClampNeg < 4) ∧ d = d0 ∨ ∃ j, y ≤ j ∧ j ≤ i ∧ 4 ≤ A 2 (16 * j + x).toNatClampNeg ∧ d = A 2 (16 * j + x).toNatClampNeg ∧ ∀ l, y ≤ l → l < j → A 2 (16 * l + x).toNatClampNeg < 4) := by
  refine dn_ind (P := fun i n => ∀ d0 : Int32, ∃ d, GL_164_1 n T x y d0 i = GL_164_0 xFu T x y d (-1) 0 ∧ ((∀ j, y ≤ j → j ≤ i → A 2 (16 * j + x).toNatClampNeg < 4) ∧ d = d0 ∨ ∃ j, y ≤ j ∧ j ≤ i ∧ 4 ≤ A 2 (16 * j + x).toNatClampNeg ∧ d = A 2 (16 * j + x).toNatClampNeg ∧ ∀ l, y ≤ l → l < j → A 2 (16 * l + x).toNatClampNeg < 4)) ?_ ?_
  · intro n d0
    exact ⟨d0, by rw [GL_164_1, if_pos (by grind)], Or.inl ⟨fun j h1 h2 => by grind, rfl⟩⟩
  · intro i n h1 h2 ih d0
    have h5 : 0 ≤ x ∧ x < 16 ∧ 0 ≤ i ∧ i < 12 := ⟨hx.1, hx.2.1, by grind, by grind⟩
    rw [GL_164_1, if_neg (by grind), if_pos ((xin192 _).mpr (by grind)), hm.ctl _ (n192 h5)]
    have key : ∀ j, j ≤ i → j = i ∨ j ≤ i + (-1) := by intro j hj; grind
    by_cases hv : A 2 (16 * i + x).toNatClampNeg < 4
    · rw [if_pos hv]
      obtain ⟨d, e1, e2⟩ := ih d0
      refine ⟨d, e1, ?_⟩
      rcases e2 with ⟨g1, g2⟩ | ⟨j, g1, g2, g3, g4, g5⟩
      · refine Or.inl ⟨fun j k1 k2 => ?_, g2⟩
        rcases key j k2 with rfl | k
        · exact hv
        · exact g1 j k1 k
      · exact Or.inr ⟨j, g1, by grind, g3, g4, g5⟩
    · rw [if_neg hv]
      obtain ⟨d, e1, e2⟩ := ih (A 2 (16 * i + x).toNatClampNeg)
      refine ⟨d, e1, Or.inr ?_⟩
      rcases e2 with ⟨g1, g2⟩ | ⟨j, g1, g2, g3, g4, g5⟩
      · exact ⟨i, by grind, by grind, by grind, g2, fun l k1 k2 => g1 l k1 (by grind)⟩
      · exact ⟨j, g1, by grind, g3, g4, g5⟩
end
theorem s_111 (x y : Int32) : Same (fun S => G_111 S x y) (fun S => G_164 S x y) := by
  intro A M C z S T hw hc hm
  by_cases h : 0 ≤ x ∧ x < 16 ∧ 0 ≤ y ∧ y < 12
  · obtain ⟨d, e1, e2⟩ := dep_c hc ⟨h.1, h.2.1⟩ y xFu (by grind) (by grind) (by have := Int32.le_iff_toInt_le.mp h.2.2.1; have h0 : (0 : Int32).toInt = 0 := rfl; have h1 : (12 : Int32).toInt = 12 := rfl; unfold xFu; omega)
    obtain ⟨d', f1, f2⟩ := dep_m hm h 11 xFu (by grind) (by grind) (by
      have h2 := Int32.le_iff_toInt_le.mp (show (-1 : Int32) ≤ y - 1 by grind); have h0 : (-1 : Int32).toInt = -1 := rfl; have h1 : (11 : Int32).toInt = 11 := rfl; unfold xFu; omega) 4
    have hd : d = d' := by
      rcases e2 with ⟨g1, g2⟩ | ⟨j, g1, g2, g3, g4, g5⟩
      · rcases f2 with ⟨k1, k2⟩ | ⟨i, k1, k2, k3, k4, k5⟩
        · rw [g2, k2]
        · have := g1 i k1 (by grind); grind
      · rcases f2 with ⟨k1, k2⟩ | ⟨i, k1, k2, k3, k4, k5⟩
        · have := k1 j g1 (by grind); grind
        · have : i = j := by
            by_cases q1 : i < j
            · have := g5 i k1 q1; grind
            · by_cases q2 : j < i
              · have := k5 j g1 q2; grind
              · grind
          rw [g4, k4, this]
    subst hd
    obtain ⟨g, hg, q1, q2⟩ := seen_loop hc hm (d := d) h 0 xFu (by decide) (by decide) (by decide) (-1) (by decide)
    refine ⟨if 0 ≤ g then 16 + g else A 1 (16 * y + x).toNatClampNeg, A, S, T, ?_, ?_, hc, hm, hw⟩
    · unfold G_111 G_48 G_56
      simp only [V_100, if_pos h, e1, q1, V_47, hc.col _ (n192 h)]
      grind
    · unfold G_164
      have k1 : ¬ (x < 0 ∨ 15 < x) := by grind
      have k2 : ¬ (y < 0 ∨ 11 < y) := by grind
      simp only [V_115, if_neg k1, if_neg k2, if_true, f1, q2]
  · refine ⟨-1, A, S, T, ?_, ?_, hc, hm, hw⟩
    · unfold G_111
      simp only [V_100, if_neg h]
      rfl
    · unfold G_164
      simp only [V_115]
      grind
theorem xa_uu {f : Nat → Nat → Int32} {a k : Nat} {v w : Int32} : xa_u (xa_u f a k v) a k w = xa_u f a k w := by
  funext b j; simp only [xa_if]; grind
def rgt (k : Int32) : Int32 := if 2 ≤ k ∧ k ≤ 4 then 1 else if k < 6 then 0 else -1
def dwn (k : Int32) : Int32 := if 4 ≤ k ∧ k ≤ 6 then 1 else if k = 8 ∨ k = 1 ∨ k = 2 then -1 else 0
def sgi (x : Int32) : Int32 := if x < 0 then -1 else if x = 0 then 0 else 1
def dirA (x y : Int32) : Int32 := if x = 0 then (if y < 0 then 1 else if y = 0 then 0 else 5) else if x < 0 then (if y < 0 then 8 else if y = 0 then 7 else 6) else (if y < 0 then 2 else if y = 0 then 3 else 4)
def edg (x y w : Int32) : Int32 := if x < 0 then 4 else if 16 < x + w then 2 else if 12 ≤ y then 3 else if y < 3 then 1 else 0
theorem V_91 {S : St} {k : Int32} : G_91 S k = some (rgt k, S) := by unfold G_91 rgt; grind
theorem V_148 {S : St} {k : Int32} : G_148 S k = some (rgt k, S) := by unfold G_148 rgt; grind
theorem V_92 {S : St} {k : Int32} : G_92 S k = some (dwn k, S) := by unfold G_92 dwn; grind
theorem V_150 {S : St} {k : Int32} : G_150 S k = some (dwn k, S) := by unfold G_150 dwn; grind
theorem V_149 {S : St} {k : Int32} : G_149 S k = some (sgi k, S) := by unfold G_149 sgi; grind
theorem V_88 {S : St} {x y : Int32} : G_88 S x y = some (dirA x y, S) := by unfold G_88 dirA; grind
theorem V_93 {S : St} {x y w : Int32} : G_93 S x y w = some (edg x y w, S) := by unfold G_93 edg; grind
theorem V_152 {S : St} {x y w : Int32} : G_152 S x y w = some (edg x y w, S) := by unfold G_152 edg; grind
theorem V_3 {S : St} {x : Int32} : G_3 S x = some (if 0 ≤ x then x else -x, S) := by unfold G_3; grind
theorem dir_iff {k x y : Int32} (h1 : 1 ≤ k) (h8 : k ≤ 8) (hn : ¬ (x = 0 ∧ y = 0)) : (rgt k = sgi x ∧ dwn k = sgi y) ↔ k = dirA x y := by
  unfold rgt dwn sgi dirA
  have hk : k = 1 ∨ k = 2 ∨ k = 3 ∨ k = 4 ∨ k = 5 ∨ k = 6 ∨ k = 7 ∨ k = 8 := by grind
  rcases hk with rfl | rfl | rfl | rfl | rfl | rfl | rfl | rfl <;> grind
theorem dir_rg {x y : Int32} (hn : ¬ (x = 0 ∧ y = 0)) : 1 ≤ dirA x y ∧ dirA x y ≤ 8 := by
  unfold dirA; grind
section
variable {A M C : Ab} {z : Option Nat × (Nat → Option Nat)} {S T : St}
theorem M_147 (hm : MR A C z T) {i gx gy : Int32} (h0 : 0 ≤ i) (h4 : i < 4) (hn : ¬ (gx - A 20 i.toNatClampNeg = 0 ∧ gy - A 21 i.toNatClampNeg = 0)) : G_147 T i gx gy = some ((), (xa_u T.1 46 i.toNatClampNeg (dirA (gx - A 20 i.toNatClampNeg) (gy - A 21 i.toNatClampNeg)), T.2)) := by
  have hk := hm.ks (tn4 h0 h4)
  have hr := dir_rg hn
  have key : ∀ (k : Int32) (n : Nat), 1 ≤ k → k ≤ 9 → ((9 : Int32).toInt - k.toInt) < n → ∀ v : Int32, GL_147_0 n (xa_u T.1 46 i.toNatClampNeg v, T.2) i gx gy k = some ((), (xa_u T.1 46 i.toNatClampNeg (if k ≤ dirA (gx - A 20 i.toNatClampNeg) (gy - A 21 i.toNatClampNeg) then dirA (gx - A 20 i.toNatClampNeg) (gy - A 21 i.toNatClampNeg) else v), T.2)) := by
    refine up_ind (P := fun k n => ∀ v : Int32, GL_147_0 n (xa_u T.1 46 i.toNatClampNeg v, T.2) i gx gy k = some ((), (xa_u T.1 46 i.toNatClampNeg (if k ≤ dirA (gx - A 20 i.toNatClampNeg) (gy - A 21 i.toNatClampNeg) then dirA (gx - A 20 i.toNatClampNeg) (gy - A 21 i.toNatClampNeg) else v), T.2))) ?_ ?_
    · intro n v
      rw [GL_147_0, if_pos (by decide)]
      rw [if_neg (by grind)]
    · intro k n k1 k9 ih v
      rw [GL_147_0, if_neg (by grind)]
      have c1 : xa_u T.1 46 i.toNatClampNeg v 42 i.toNatClampNeg = A 20 i.toNatClampNeg := by rw [xa_c (by omega)]; exact hk.1
      have c2 : xa_u T.1 46 i.toNatClampNeg v 43 i.toNatClampNeg = A 21 i.toNatClampNeg := by rw [xa_c (by omega)]; exact hk.2.1
      have di := dir_iff k1 (by grind) hn
      simp only [V_148, V_149, V_150, if_pos ((xin4 i).mpr ⟨h0, h4⟩), c1, c2, xa_uu, xa_e]
      have e1 := ih k
      have e2 := ih v
      have e3 : (xa_u T.1 46 i.toNatClampNeg v, T.2.1, T.2.2) = (xa_u T.1 46 i.toNatClampNeg v, T.2) := rfl
      have e4 : (xa_u T.1 46 i.toNatClampNeg k, T.2.1, T.2.2) = (xa_u T.1 46 i.toNatClampNeg k, T.2) := rfl
      rw [e3, e4, e1, e2]
      by_cases hq : k = dirA (gx - A 20 i.toNatClampNeg) (gy - A 21 i.toNatClampNeg)
      · have := di.mpr hq
        rw [if_pos this.1, if_pos this.2, if_neg (by grind), if_pos (by grind), hq]
      · have hne : ¬ (rgt k = sgi (gx - A 20 i.toNatClampNeg) ∧ dwn k = sgi (gy - A 21 i.toNatClampNeg)) := fun h => hq (di.mp h)
        have e5 : (if k + 1 ≤ dirA (gx - A 20 i.toNatClampNeg) (gy - A 21 i.toNatClampNeg) then dirA (gx - A 20 i.toNatClampNeg) (gy - A 21 i.toNatClampNeg) else v) = (if k ≤ dirA (gx - A 20 i.toNatClampNeg) (gy - A 21 i.toNatClampNeg) then dirA (gx - A 20 i.toNatClampNeg) (gy - A 21 i.toNatClampNeg) else v) := by
          by_cases q : k + 1 ≤ dirA (gx - A 20 i.toNatClampNeg) (gy - A 21 i.toNatClampNeg)
          · rw [if_pos q, if_pos (by grind)]
          · rw [if_neg q, if_neg (by grind)]
        rw [e5]
        by_cases q1 : rgt k = sgi (gx - A 20 i.toNatClampNeg)
        · rw [if_pos q1, if_neg (fun h => hne ⟨q1, h⟩)]
        · rw [if_neg q1]
  have := key 1 xFu (by decide) (by decide) (by decide) (T.1 46 i.toNatClampNeg)
  rw [if_pos hr.1, xa_id] at this
  unfold G_147
  exact this
theorem arrive_b (hw : WF A) (hc : CR A M S) (hm : MR A C z T) {i gx gy : Int32} (h0 : 0 ≤ i) (h4 : i < 4) : ∃ A' S' T', G_87 S (11 + i.toNatClampNeg) 1 gx gy = some ((), S') ∧ G_146 T i = some ((), T') ∧ CR A' M S' ∧ MR A' C z T' ∧ WF A' ∧ A' 3 = A 3 := by
  have ho := tn4 h0 h4
  have hk := hc.ks ho
  have hl := hm.ks ho
  have hg := hw.gfl _ ho
  have hj : (A 32 i.toNatClampNeg).toNatClampNeg < 16 := n16 hg
  unfold G_87 G_146 G_14
  rw [if_neg (show ¬ ((1 : Int32) = 0) by decide), if_pos (kd_act ho), if_pos ((xin4 i).mpr ⟨h0, h4⟩)]
  have k12 : S.1 (11 + i.toNatClampNeg) 12 = A 32 i.toNatClampNeg := hk.2.2.2.2.2.2.2.2.2.2.2.2
  have l12 : T.1 53 i.toNatClampNeg = A 32 i.toNatClampNeg := hl.2.2.2.2.2.2.2.2.2.2.2.2
  simp only [k12, l12, V_53 (Or.inr rfl : (1 : Int32) = 0 ∨ (1 : Int32) = 1), if_pos hg, if_pos (kd_act ho), if_pos ((xin16 _).mpr hg)]
  refine ⟨_, _, _, rfl, rfl, ((hc.uflg hj 1).uact (f := 5) ho (by decide) 0).uact (f := 4) ho (by decide) 0, ((hm.uflg hj 1).uact (f := 5) ho (by decide) 0).uact (f := 4) ho (by decide) 0, ((hw.uflg (Or.inr rfl)).ua (by decide) (by decide)).ua (by decide) (by decide), ?_⟩
  funext j
  simp only [xa_if]
  grind
theorem head_b (hw : WF A) (hc : CR A M S) (hm : MR A C z T) {i gx gy : Int32} (h0 : 0 ≤ i) (h4 : i < 4) (hn : ¬ (gx - A 20 i.toNatClampNeg = 0 ∧ gy - A 21 i.toNatClampNeg = 0)) : ∃ A' S' T', G_87 S (11 + i.toNatClampNeg) 0 gx gy = some ((), S') ∧ G_147 T i gx gy = some ((), T') ∧ CR A' M S' ∧ MR A' C z T' ∧ WF A' ∧ A' 3 = A 3 := by
  have ho := tn4 h0 h4
  have hk := hc.ks ho
  rw [M_147 hm h0 h4 hn]
  unfold G_87
  rw [if_pos rfl, if_pos (kd_act ho)]
  simp only [V_88, hk.1, hk.2.1]
  refine ⟨_, _, _, rfl, rfl, hc.uact (f := 4) ho (by decide) _, hm.uact (f := 4) ho (by decide) _, hw.ua (by decide) (by decide), ?_⟩
  funext j
  simp only [xa_if]
  grind
theorem pick_c {α : Type} {dx dy : Int32} {a b : α} (h1 : -20 ≤ dx ∧ dx ≤ 20) (h2 : -20 ≤ dy ∧ dy ≤ 20) : (if 2 < (if 0 ≤ dx then dx else -dx) then a else if 1 < (if 0 ≤ dy then dy else -dy) then a else b) = if (-2 ≤ dx ∧ dx ≤ 2 ∧ -1 ≤ dy ∧ dy ≤ 1) then b else a := by
  have e1 : (2 < (if 0 ≤ dx then dx else -dx)) ↔ (dx < -2 ∨ 2 < dx) := by
    by_cases h : 0 ≤ dx
    · rw [if_pos h]; grind
    · rw [if_neg h]; grind
  have e2 : (1 < (if 0 ≤ dy then dy else -dy)) ↔ (dy < -1 ∨ 1 < dy) := by
    by_cases h : 0 ≤ dy
    · rw [if_pos h]; grind
    · rw [if_neg h]; grind
  simp only [e1, e2]
  clear e1 e2
  grind
theorem pick_m {α : Type} {dx dy : Int32} {a b : α} : (if dx < -2 then a else if 2 < dx then a else if dy < -1 then a else if 1 < dy then a else b) = if (-2 ≤ dx ∧ dx ≤ 2 ∧ -1 ≤ dy ∧ dy ≤ 1) then b else a := by grind
theorem aim_b (hw : WF A) (hc : CR A M S) (hm : MR A C z T) {i y : Int32} (h0 : 0 ≤ i) (h4 : i < 4) : ∃ A' S' T', G_86 S (11 + i.toNatClampNeg) (1 + ((y + i) - (y + i) / 8 * 8)) = some ((), S') ∧ G_145 T i y = some ((), T') ∧ CR A' M S' ∧ MR A' C z T' ∧ WF A' ∧ A' 3 = A 3 := by
  have ho := tn4 h0 h4
  have hk := hc.ks ho
  have hl := hm.ks ho
  have hk0 := hc.ks (show 0 < 4 by decide)
  have hl0 := hm.ks (show 0 < 4 by decide)
  have wa := hw.act _ ho
  have w0 := hw.act 0 (by decide)
  have z0 : (0 : Int32).toNatClampNeg = 0 := rfl
  have hk0' : ∀ f, S.1 11 f = S.1 (11 + 0) f := fun _ => rfl
  unfold G_86 G_145 G_89
  simp only [if_pos (kd_act ho), if_pos ((xin4 i).mpr ⟨h0, h4⟩), hk, hl, z0, hk0', hk0, hl0, V_3]
  by_cases m1 : A 25 i.toNatClampNeg = 1
  · rw [if_pos m1, if_pos m1]
    by_cases q : A 20 i.toNatClampNeg = A 30 i.toNatClampNeg ∧ A 21 i.toNatClampNeg = A 31 i.toNatClampNeg
    · rw [if_pos q.1, if_pos q.2, if_pos q.1, if_pos q.2]
      obtain ⟨A', S', T', e1, e2, r⟩ := arrive_b hw hc hm (gx := A 30 i.toNatClampNeg) (gy := A 31 i.toNatClampNeg) h0 h4
      rw [e1, e2]
      exact ⟨A', S', T', rfl, rfl, r⟩
    · obtain ⟨A', S', T', e1, e2, r⟩ := head_b hw hc hm (gx := A 30 i.toNatClampNeg) (gy := A 31 i.toNatClampNeg) h0 h4 (by grind)
      rw [e1, e2]
      refine ⟨A', S', T', ?_, ?_, r⟩ <;> grind
  · rw [if_neg m1, if_neg m1]
    by_cases m2 : A 25 i.toNatClampNeg = 2
    · rw [if_pos m2, if_pos m2]
      by_cases s0 : A 27 0 = 0
      · rw [if_pos s0, if_pos s0]
        refine ⟨_, _, _, rfl, rfl, hc.uact (f := 4) ho (by decide) _, hm.uact (f := 4) ho (by decide) _, hw.ua (by decide) (by decide), ?_⟩
        funext j; simp only [xa_if]; grind
      · rw [if_neg s0, if_neg s0]
        rw [pick_c (by clear hk hl hk0 hl0 hc hm hw; grind) (by clear hk hl hk0 hl0 hc hm hw; grind), pick_m]
        by_cases q : -2 ≤ A 20 0 - A 20 i.toNatClampNeg ∧ A 20 0 - A 20 i.toNatClampNeg ≤ 2 ∧ -1 ≤ A 21 0 - A 21 i.toNatClampNeg ∧ A 21 0 - A 21 i.toNatClampNeg ≤ 1
        · obtain ⟨A', S', T', e1, e2, r⟩ := arrive_b hw hc hm (gx := A 20 0) (gy := A 21 0) h0 h4
          rw [if_pos q, if_pos q, e1, e2]
          exact ⟨A', S', T', rfl, rfl, r⟩
        · obtain ⟨A', S', T', e1, e2, r⟩ := head_b hw hc hm (gx := A 20 0) (gy := A 21 0) h0 h4 (by clear hk hl hk0 hl0 hc hm hw; grind)
          rw [if_neg q, if_neg q, e1, e2]
          exact ⟨A', S', T', rfl, rfl, r⟩
    · rw [if_neg m2, if_neg m2]
      by_cases m3 : A 25 i.toNatClampNeg = 3
      · rw [if_pos m3, if_pos m3]
        by_cases mv : A 29 i.toNatClampNeg = 0
        · rw [if_pos mv, if_pos mv]
          refine ⟨_, _, _, rfl, rfl, hc.uact (f := 4) ho (by decide) _, hm.uact (f := 4) ho (by decide) _, hw.ua (by decide) (by decide), ?_⟩
          funext j; simp only [xa_if]; grind
        · rw [if_neg mv, if_neg mv]
          exact ⟨A, S, T, rfl, rfl, hc, hm, hw, rfl⟩
      · rw [if_neg m3, if_neg m3]
        exact ⟨A, S, T, rfl, rfl, hc, hm, hw, rfl⟩
end
