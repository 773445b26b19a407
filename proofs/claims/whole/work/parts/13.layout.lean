/-! The cells that the two constructors make, in the order of making; what a state of the system is (printed by a program of ours) -/
def xL_s : List (Nat × Nat) := [(17, 7), (14, 6), (13, 7), (0, 192), (0, 192), (0, 192), (12, 10), (2, 4), (3, 4), (0, 16), (1, 16), (10, 13), (10, 13), (10, 13), (10, 13), (11, 3), (0, 64), (11, 3), (0, 64), (11, 3), (0, 64), (11, 3), (0, 64), (16, 7), (3, 4), (0, 4), (12, 10), (15, 3), (1, 65), (18, 37), (0, 192), (0, 192), (1, 192), (0, 256), (0, 4), (1, 4), (1, 65), (0, 8), (0, 64), (1, 64), (0, 16), (1, 16), (0, 4), (0, 4), (0, 4), (0, 4), (0, 4), (0, 4), (0, 4), (1, 4), (1, 4), (0, 4), (0, 4), (0, 4), (1, 4), (0, 4), (0, 4)]
def xL_n : Nat := 2229
def RF (a k : Nat) : Option Nat := cond (Nat.ble a 8) (cond (Nat.ble a 1) (cond (Nat.ble a 0) (cond (Nat.beq a 0) (cond (Nat.ble k 2) (cond (Nat.ble k 1) (cond (Nat.beq k 1) (some 1) (none)) (cond (Nat.beq k 2) (some 23) (none))) (cond (Nat.ble k 3) (cond (Nat.beq k 3) (some 26) (none)) (cond (Nat.beq k 4) (some 27) (none)))) (none)) (cond (Nat.beq a 1) (cond (Nat.ble k 1) (cond (Nat.ble k 0) (cond (Nat.beq k 0) (some 2) (none)) (cond (Nat.beq k 1) (some 7) (none))) (cond (Nat.ble k 2) (cond (Nat.beq k 2) (some 8) (none)) (cond (Nat.ble k 3) (cond (Nat.beq k 3) (some 9) (none)) (cond (Nat.beq k 4) (some 10) (none))))) (none))) (cond (Nat.ble a 2) (cond (Nat.beq a 2) (cond (Nat.ble k 1) (cond (Nat.ble k 0) (cond (Nat.beq k 0) (some 3) (none)) (cond (Nat.beq k 1) (some 4) (none))) (cond (Nat.ble k 2) (cond (Nat.beq k 2) (some 5) (none)) (cond (Nat.beq k 4) (some 6) (none)))) (none)) (cond (Nat.ble a 7) (cond (Nat.beq a 7) (if k < 4 then some (11 + k) else none) (none)) (cond (Nat.beq a 8) (if k < 4 then some (15 + 2 * k) else none) (none))))) (cond (Nat.ble a 19) (cond (Nat.ble a 15) (cond (Nat.beq a 15) (cond (Nat.beq k 0) (some 16) (none)) (none)) (cond (Nat.ble a 17) (cond (Nat.beq a 17) (cond (Nat.beq k 0) (some 18) (none)) (none)) (cond (Nat.beq a 19) (cond (Nat.beq k 0) (some 20) (none)) (none)))) (cond (Nat.ble a 21) (cond (Nat.beq a 21) (cond (Nat.beq k 0) (some 22) (none)) (none)) (cond (Nat.ble a 27) (cond (Nat.beq a 27) (cond (Nat.beq k 0) (some 28) (none)) (none)) (cond (Nat.beq a 29) (cond (Nat.ble k 17) (cond (Nat.ble k 6) (cond (Nat.ble k 3) (cond (Nat.ble k 1) (cond (Nat.beq k 1) (some 30) (none)) (cond (Nat.ble k 2) (cond (Nat.beq k 2) (some 31) (none)) (cond (Nat.beq k 3) (some 32) (none)))) (cond (Nat.ble k 4) (cond (Nat.beq k 4) (some 33) (none)) (cond (Nat.ble k 5) (cond (Nat.beq k 5) (some 34) (none)) (cond (Nat.beq k 6) (some 35) (none))))) (cond (Nat.ble k 11) (cond (Nat.ble k 8) (cond (Nat.beq k 8) (some 36) (none)) (cond (Nat.ble k 9) (cond (Nat.beq k 9) (some 37) (none)) (cond (Nat.beq k 11) (some 38) (none)))) (cond (Nat.ble k 15) (cond (Nat.ble k 12) (cond (Nat.beq k 12) (some 39) (none)) (cond (Nat.beq k 15) (some 40) (none))) (cond (Nat.ble k 16) (cond (Nat.beq k 16) (some 41) (none)) (cond (Nat.beq k 17) (some 42) (none)))))) (cond (Nat.ble k 24) (cond (Nat.ble k 20) (cond (Nat.ble k 18) (cond (Nat.beq k 18) (some 43) (none)) (cond (Nat.ble k 19) (cond (Nat.beq k 19) (some 44) (none)) (cond (Nat.beq k 20) (some 45) (none)))) (cond (Nat.ble k 22) (cond (Nat.ble k 21) (cond (Nat.beq k 21) (some 46) (none)) (cond (Nat.beq k 22) (some 47) (none))) (cond (Nat.ble k 23) (cond (Nat.beq k 23) (some 48) (none)) (cond (Nat.beq k 24) (some 49) (none))))) (cond (Nat.ble k 27) (cond (Nat.ble k 25) (cond (Nat.beq k 25) (some 50) (none)) (cond (Nat.ble k 26) (cond (Nat.beq k 26) (some 51) (none)) (cond (Nat.beq k 27) (some 52) (none)))) (cond (Nat.ble k 29) (cond (Nat.ble k 28) (cond (Nat.beq k 28) (some 53) (none)) (cond (Nat.beq k 29) (some 54) (none))) (cond (Nat.ble k 35) (cond (Nat.beq k 35) (some 55) (none)) (cond (Nat.beq k 36) (some 56) (none))))))) (none)))))
/-- references: of the runner its logic (lg) and its callers (cs) move, all others stay -/
def RC (lg : Option Nat) (cs : Nat → Option Nat) (a k : Nat) : Option Nat := cond (Nat.beq a 23) (cond (Nat.beq k 0) (some 24) (cond (Nat.beq k 1) (some 25) (cond (Nat.beq k 3) lg none))) (cond (Nat.beq a 24) (cs k) (RF a k))
abbrev St : Type := (Nat → Nat → Int32) × Option Nat × (Nat → Option Nat)
def hh (S : St) : xa_H := (xL_s, xL_n, S.1, RC S.2.1 S.2.2)
def kd (a : Nat) : Nat × Nat := if a < 1000 then xL_s.getD a (99, 0) else (99, 0)
abbrev xI (r : Int32) : Option Value := some (.int r)
abbrev xO (r : Option Nat) : Option Value := some (va_rf r)
abbrev xV (_ : Unit) : Option Value := none
def xFu : Nat := 1000000
def xlet {α : Type} (x : Int32) (f : Int32 → α) : α := f x
theorem nbf {a b : Nat} (h : a ≠ b) : Nat.beq a b = false := by
  cases hq : Nat.beq a b with
  | true => exact absurd (Nat.eq_of_beq_eq_true hq) h
  | false => rfl
theorem RC_lg {lg v : Option Nat} {cs : Nat → Option Nat} : xa_u (RC lg cs) 23 3 v = RC v cs := by
  funext a k
  by_cases ha : a = 23
  · subst ha
    have e : xa_u (RC lg cs) 23 3 v 23 k = if k = 3 then v else RC lg cs 23 k := rfl
    rw [e]
    by_cases hk : k = 3
    · subst hk
      rfl
    · rw [if_neg hk]
      show cond (Nat.beq k 0) (some 24) (cond (Nat.beq k 1) (some 25) (cond (Nat.beq k 3) lg none)) = cond (Nat.beq k 0) (some 24) (cond (Nat.beq k 1) (some 25) (cond (Nat.beq k 3) v none))
      rw [nbf hk]
      rfl
  · have e : xa_u (RC lg cs) 23 3 v a = RC lg cs a := if_neg ha
    rw [e]
    unfold RC
    rw [nbf ha]
    rfl
theorem RC_cs {lg v : Option Nat} {cs : Nat → Option Nat} {j : Nat} : xa_u (RC lg cs) 24 j v = RC lg (va_up cs j v) := by
  funext a k
  by_cases ha : a = 24
  · subst ha
    rfl
  · have e : xa_u (RC lg cs) 24 j v a = RC lg cs a := if_neg ha
    rw [e]
    unfold RC
    rw [nbf ha]
    rfl
theorem RC_7 {lg : Option Nat} {cs : Nat → Option Nat} {j : Nat} (h : j < 4) : RC lg cs 7 j = some (11 + j) := by
  show (if j < 4 then some (11 + j) else none) = _
  rw [if_pos h]
theorem RC_8 {lg : Option Nat} {cs : Nat → Option Nat} {j : Nat} (h : j < 4) : RC lg cs 8 j = some (15 + 2 * j) := by
  show (if j < 4 then some (15 + 2 * j) else none) = _
  rw [if_pos h]
theorem RC_at {lg : Option Nat} {cs : Nat → Option Nat} {a k : Nat} (h1 : a ≠ 23) (h2 : a ≠ 24) : RC lg cs a k = RF a k := by
  unfold RC
  rw [nbf h1, nbf h2]
  rfl
theorem xa_lt {j : Int32} {n : Nat} (h : xa_in j n) : j.toNatClampNeg < n := Nat.not_le.mp fun q => h (Or.inr q)
theorem kd_k {a : Nat} (h : (kd a).1 ≠ 99) : a < 1000 := by
  unfold kd at h
  by_cases h1 : a < 1000
  · exact h1
  · rw [if_neg h1] at h
    exact absurd rfl h
theorem kd_ne {a k : Nat} (h : (kd a).1 = k) (hk : k ≠ 99 := by decide) : a ≠ 1000 := by
  have := kd_k (a := a) (by rw [h]; exact hk)
  omega
theorem kd_le {a : Nat} (h : (kd a).1 < 2) : a < 1000 := kd_k (by omega)
section
variable {X : Nat × (Nat → Int32)} {d m pc p1 p2 : Nat} {L st L1 s1 L2 s2 : List Value} {h h1 h2 : xa_H} {r : Option Value × xa_H}
theorem Ev.t {c : Prop} [Decidable c] (k : Nat) (hb : ∀ n, ex X d m pc L st h (n + k) = if c then ex X d m p1 L1 s1 h1 n else ex X d m p2 L2 s2 h2 n) (hc : c) (he : Ev X d m p1 L1 s1 h1 r) : Ev X d m pc L st h r := Ev.i k hb (fun _ => he) (fun z => absurd hc z)
theorem Ev.f {c : Prop} [Decidable c] (k : Nat) (hb : ∀ n, ex X d m pc L st h (n + k) = if c then ex X d m p1 L1 s1 h1 n else ex X d m p2 L2 s2 h2 n) (hc : ¬ c) (he : Ev X d m p2 L2 s2 h2 r) : Ev X d m pc L st h r := Ev.i k hb (fun z => absurd z hc) (fun _ => he)
theorem Ev.g {c : Prop} [Decidable c] (k : Nat) (hb : ∀ n, ex X d m pc L st h (n + k) = if c then ex X d m p1 L1 s1 h1 n else none) (hc : c) (he : Ev X d m p1 L1 s1 h1 r) : Ev X d m pc L st h r := Ev.b k (fun n => (hb n).trans (if_pos hc)) he
theorem Ev.ga {c : Prop} [Decidable c] {a : Nat} {q : Nat → xa_O} (k : Nat) (hb : ∀ n, ex X d m pc L st h (n + k) = if a = 1000 then q n else if c then ex X d m p1 L1 s1 h1 n else none) (ha : a ≠ 1000) (hc : c) (he : Ev X d m p1 L1 s1 h1 r) : Ev X d m pc L st h r := Ev.b k (fun n => (hb n).trans ((if_neg ha).trans (if_pos hc))) he
theorem Ev.gl {c : Prop} [Decidable c] {a : Nat} {q q2 : Nat → xa_O} (k : Nat) (hb : ∀ n, ex X d m pc L st h (n + k) = if a = 1000 then q n else if 3000 ≤ a ∧ a < 3000 + xS_n then q2 n else if c then ex X d m p1 L1 s1 h1 n else none) (ha : a < 1000) (hc : c) (he : Ev X d m p1 L1 s1 h1 r) : Ev X d m pc L st h r := Ev.b k (fun n => (hb n).trans ((if_neg (by omega)).trans ((if_neg (by omega)).trans (if_pos hc)))) he
theorem Ev.z {c : Prop} [Decidable c] (k : Nat) (hb : ∀ n, ex X d m pc L st h (n + k) = if c then none else ex X d m p1 L1 s1 h1 n) (hc : ¬ c) (he : Ev X d m p1 L1 s1 h1 r) : Ev X d m pc L st h r := Ev.b k (fun n => (hb n).trans (if_neg hc)) he
theorem Ev.rg {c : Prop} [Decidable c] (k : Nat) (hb : ∀ n, ex X d m pc L st h (n + k) = if c then some r else none) (hc : c) : Ev X d m pc L st h r := Ev.r k (fun n => (hb n).trans (if_pos hc))
theorem Ev.sw {ks : List (Int32 × Nat)} {x : Int32} {df : Nat} (k : Nat) (hb : ∀ n, ex X d m pc L st h (n + k) = xa_sw ks x df (fun t => ex X d m t L1 s1 h1 n)) (he : xa_sw ks x df (fun t => Ev X d m t L1 s1 h1 r)) : Ev X d m pc L st h r := by
  have key : ∀ (ks : List (Int32 × Nat)), xa_sw ks x df (fun t => Ev X d m t L1 s1 h1 r) → ∃ n, xa_sw ks x df (fun t => ex X d m t L1 s1 h1 n) = some r := by
    intro ks
    induction ks with
    | nil => exact fun h => h
    | cons q ks ih =>
      obtain ⟨i, t⟩ := q
      intro hh
      rw [xa_sw] at hh
      by_cases hx : x = i
      · rw [if_pos hx] at hh
        obtain ⟨n, hn⟩ := hh
        exact ⟨n, by rw [xa_sw, if_pos hx]; exact hn⟩
      · rw [if_neg hx] at hh
        obtain ⟨n, hn⟩ := ih hh
        exact ⟨n, by rw [xa_sw, if_neg hx]; exact hn⟩
  obtain ⟨n, hn⟩ := key ks he
  exact ⟨n + k, (hb n).trans hn⟩
theorem Ev.cg {c : Prop} [Decidable c] {a pc' : Nat} {L' rest A : List Value} {r1 : Option Value} (k : Nat) (hb : ∀ n, ex X (d + 1) m pc L st h (n + k) = if c then (match ex X d a 0 A [] h1 n with
      | some (v, h') => ex X (d + 1) m pc' L' (v.toList ++ rest) h' n
      | none => none) else none) (hcc : c) (hc : Ev X d a 0 A [] h1 (r1, h2)) (he : Ev X (d + 1) m pc' L' (r1.toList ++ rest) h2 r) : Ev X (d + 1) m pc L st h r := Ev.c k (fun n => (hb n).trans (if_pos hcc)) hc he
end
