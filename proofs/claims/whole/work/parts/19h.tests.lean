/-! The pure part (19h.tests): both halves answer alike -/
/-! tests while a logic runs -/
theorem ops_in {b : Int32 → Int32} {p c : Int32} {L : List Int32} (hp : 0 ≤ p) (h : ops b (-1) p (c :: L) = -1) : (lo c (b p) ≤ b p ∧ b p ≤ hi c) ∧ ops b (-1) (p + 1) L = -1 := by
  rw [ops_c hp] at h
  by_cases q : lo c (b p) ≤ b p ∧ b p ≤ hi c
  · rw [if_pos q] at h; exact ⟨q, h⟩
  · rw [if_neg q] at h; grind
def ca (S : St) (p : Int32) : St := (xa_u S.1 23 4 p, S.2)
theorem ca_p (S : St) (p : Int32) : (ca S p).1 23 4 = p := by unfold ca; show xa_u S.1 23 4 p 23 4 = p; exact xa_e
theorem ca_c (S : St) (p : Int32) {c k : Nat} (h : ¬ (c = 23 ∧ k = 4)) : (ca S p).1 c k = S.1 c k := by unfold ca; show xa_u S.1 23 4 p c k = _; exact xa_c h
theorem ca_ca (S : St) (p q : Int32) : ca (ca S p) q = ca S q := by unfold ca; refine Prod.ext ?_ rfl; exact xa_uu
theorem ca_u (S : St) (p q : Int32) : (xa_u (ca S p).1 23 4 q, (ca S p).2.1, (ca S p).2.2) = ca S q := ca_ca S p q
theorem ca_id (S : St) : ca S (S.1 23 4) = S := by unfold ca; refine Prod.ext ?_ rfl; exact xa_id
theorem ca_2 (S : St) (p : Int32) : (ca S p).2 = S.2 := rfl
/-- what a question of the world answers -/
abbrev lvP (A : Ab) (b : Int32 → Int32) (p : Int32) : Prop :=
  if b p = 0 then A 3 (b (p + 1)).toNatClampNeg = b (p + 2)
  else if b p = 1 then A 3 (b (p + 1)).toNatClampNeg < b (p + 2)
  else if b p = 2 then A 4 (b (p + 1)).toNatClampNeg ≠ 0
  else if b p = 3 then b (p + 1) = A 0 3
  else A 27 (b (p + 1)).toNatClampNeg ≠ 0 ∧ b (p + 2) ≤ A 20 (b (p + 1)).toNatClampNeg ∧ A 20 (b (p + 1)).toNatClampNeg + A 22 (b (p + 1)).toNatClampNeg - 1 ≤ b (p + 4) ∧ b (p + 3) ≤ A 21 (b (p + 1)).toNatClampNeg ∧ A 21 (b (p + 1)).toNatClampNeg ≤ b (p + 5)
/-- what a test answers -/
def ev (A : Ab) (b : Int32 → Int32) : Nat → Int32 → Prop
  | 0, p => lvP A b p
  | k + 1, p => if 5 ≤ b p ∧ b p ≤ 7 then
      (if b p = 5 then ¬ ev A b k (p + 1) else if b p = 6 then ev A b k (p + 1) ∧ ev A b k (prs b k (p + 1)).2 else ev A b k (p + 1) ∨ ev A b k (prs b k (p + 1)).2)
    else lvP A b p
noncomputable def evi (A : Ab) (b : Int32 → Int32) (k : Nat) (p : Int32) : Int32 := @ite Int32 (ev A b k p) (Classical.propDecidable _) 1 0
section
variable {A M C : Ab} {z : Option Nat × (Nat → Option Nat)}
theorem CR.ca {S : St} (h : CR A M S) (p : Int32) : CR A M (ca S p) := h.up (by unfold cpv; omega) p
theorem C_76 (hw : WF A) {S : St} (hc : CR A M S) {r : Nat} (hr : r < 4) (hl : S.2.1 = some (15 + 2 * r)) {p : Int32} (h0 : 0 ≤ p) (h1 : p < A 5 r) : G_76 (ca S p) = some (bt A r p, ca S (p + 1)) := by
  unfold G_76
  have e : (ca S p).2.1 = some (15 + 2 * r) := hl
  rw [e]
  simp only [if_pos (kd_res hr), ca_p, C_25 hw (hc.ca p) hr h0 h1, ca_u]
/-- the operands of a question -/
theorem leaf_in {b : Int32 → Int32} {n : Int32} (hb : BT b n) {p : Int32} (h0 : 0 ≤ p) (h1 : p < n) (hc : 0 ≤ b p ∧ b p < 5) (hok : (leaf b p).1 = -1) : (p + 1 < n ∧ 0 ≤ b (p + 1)) ∧ ((b p = 0 ∨ b p = 1) → b (p + 1) < 16 ∧ p + 2 < n ∧ (leaf b p).2 = p + 3) ∧ (b p = 2 → b (p + 1) < 16 ∧ (leaf b p).2 = p + 2) ∧ (b p = 3 → (leaf b p).2 = p + 2) ∧ (b p = 4 → b (p + 1) < 4 ∧ p + 2 < n ∧ p + 3 < n ∧ p + 4 < n ∧ p + 5 < n ∧ (leaf b p).2 = p + 6) := by
  have n6 := hb.n64
  have hp1 : 0 ≤ p + 1 := by grind
  unfold leaf at hok ⊢
  have hok : ops b (-1) (p + 1) (lfc (b p)) = -1 := hok
  have a2 : p + 1 + 1 = p + 2 := by grind
  have a3 : p + 2 + 1 = p + 3 := by grind
  have a4 : p + 3 + 1 = p + 4 := by grind
  have a5 : p + 4 + 1 = p + 5 := by grind
  have hc5 : b p = 0 ∨ b p = 1 ∨ b p = 2 ∨ b p = 3 ∨ b p = 4 := by grind
  rcases hc5 with h | h | h | h | h
  · rw [h] at hok ⊢
    have hL : lfc 0 = [118, 110] := rfl
    rw [hL] at hok
    obtain ⟨i1, hok⟩ := ops_in hp1 hok
    rw [a2] at hok
    obtain ⟨i2, _⟩ := ops_in (show 0 ≤ p + 2 by grind) hok
    have l1 : 0 ≤ b (p + 1) := Int32.le_trans (lo_ge _ _) i1.1
    have l2 : 0 ≤ b (p + 2) := Int32.le_trans (lo_ge _ _) i2.1
    have u1 : b (p + 1) ≤ 15 := i1.2
    refine ⟨⟨hb.lt l1, l1⟩, fun _ => ⟨by grind, hb.lt l2, ?_⟩, fun h => by exfalso; revert h; decide, fun h => by exfalso; revert h; decide, fun h => by exfalso; revert h; decide⟩
    show p + 1 + ln [118, 110] = p + 3
    rw [show ln [118, 110] = 2 from rfl]; grind
  · rw [h] at hok ⊢
    have hL : lfc 1 = [118, 110] := rfl
    rw [hL] at hok
    obtain ⟨i1, hok⟩ := ops_in hp1 hok
    rw [a2] at hok
    obtain ⟨i2, _⟩ := ops_in (show 0 ≤ p + 2 by grind) hok
    have l1 : 0 ≤ b (p + 1) := Int32.le_trans (lo_ge _ _) i1.1
    have l2 : 0 ≤ b (p + 2) := Int32.le_trans (lo_ge _ _) i2.1
    have u1 : b (p + 1) ≤ 15 := i1.2
    refine ⟨⟨hb.lt l1, l1⟩, fun _ => ⟨by grind, hb.lt l2, ?_⟩, fun h => by exfalso; revert h; decide, fun h => by exfalso; revert h; decide, fun h => by exfalso; revert h; decide⟩
    show p + 1 + ln [118, 110] = p + 3
    rw [show ln [118, 110] = 2 from rfl]; grind
  · rw [h] at hok ⊢
    have hL : lfc 2 = [102] := rfl
    rw [hL] at hok
    obtain ⟨i1, hok⟩ := ops_in hp1 hok
    have l1 : 0 ≤ b (p + 1) := Int32.le_trans (lo_ge _ _) i1.1
    have u1 : b (p + 1) ≤ 15 := i1.2
    refine ⟨⟨hb.lt l1, l1⟩, fun h => by exfalso; revert h; decide, fun _ => ⟨by grind, ?_⟩, fun h => by exfalso; revert h; decide, fun h => by exfalso; revert h; decide⟩
    show p + 1 + ln [102] = p + 2
    rw [show ln [102] = 1 from rfl]; grind
  · rw [h] at hok ⊢
    have hL : lfc 3 = [119] := rfl
    rw [hL] at hok
    obtain ⟨i1, hok⟩ := ops_in hp1 hok
    have l1 : 0 ≤ b (p + 1) := Int32.le_trans (lo_ge _ _) i1.1
    refine ⟨⟨hb.lt l1, l1⟩, fun h => by exfalso; revert h; decide, fun h => by exfalso; revert h; decide, fun _ => ?_, fun h => by exfalso; revert h; decide⟩
    show p + 1 + ln [119] = p + 2
    rw [show ln [119] = 1 from rfl]; grind
  · rw [h] at hok ⊢
    have hL : lfc 4 = [111, 120, 121, 120, 121] := rfl
    rw [hL] at hok
    obtain ⟨i1, hok⟩ := ops_in hp1 hok
    rw [a2] at hok
    obtain ⟨i2, hok⟩ := ops_in (show 0 ≤ p + 2 by grind) hok
    rw [a3] at hok
    obtain ⟨i3, hok⟩ := ops_in (show 0 ≤ p + 3 by grind) hok
    rw [a4] at hok
    obtain ⟨i4, hok⟩ := ops_in (show 0 ≤ p + 4 by grind) hok
    rw [a5] at hok
    obtain ⟨i5, hok⟩ := ops_in (show 0 ≤ p + 5 by grind) hok
    have l1 : 0 ≤ b (p + 1) := Int32.le_trans (lo_ge _ _) i1.1
    have l2 : 0 ≤ b (p + 2) := Int32.le_trans (lo_ge _ _) i2.1
    have l3 : 0 ≤ b (p + 3) := Int32.le_trans (lo_ge _ _) i3.1
    have l4 : 0 ≤ b (p + 4) := Int32.le_trans (lo_ge _ _) i4.1
    have l5 : 0 ≤ b (p + 5) := Int32.le_trans (lo_ge _ _) i5.1
    have u1 : b (p + 1) ≤ 3 := i1.2
    refine ⟨⟨hb.lt l1, l1⟩, fun h => by exfalso; revert h; decide, fun h => by exfalso; revert h; decide, fun h => by exfalso; revert h; decide, fun _ => ⟨by grind, hb.lt l2, hb.lt l3, hb.lt l4, hb.lt l5, ?_⟩⟩
    show p + 1 + ln [111, 120, 121, 120, 121] = p + 6
    rw [show ln [111, 120, 121, 120, 121] = 5 from rfl]; grind
/-- the class's answer to a question -/
theorem C_lf (hw : WF A) {S : St} (hc : CR A M S) {r : Nat} (hr : r < 4) (hl : S.2.1 = some (15 + 2 * r)) {p d : Int32} (h0 : 0 ≤ p) (h1 : p < A 5 r) (hcd : 0 ≤ bt A r p ∧ bt A r p < 5) (hok : (leaf (bt A r) p).1 = -1) (n : Nat) : GR_80 (n + 1) 0 (ca S p) 0 d = some (if lvP A (bt A r) p then 1 else 0, ca S (leaf (bt A r) p).2) := by
  have hb := hw.b0 hr
  have n6 := hb.n64
  obtain ⟨⟨q1, q1'⟩, q2, q3, q4, q5⟩ := leaf_in hb h0 h1 hcd hok
  have a2 : p + 1 + 1 = p + 2 := by grind
  have a3 : p + 2 + 1 = p + 3 := by grind
  have a4 : p + 3 + 1 = p + 4 := by grind
  have a5 : p + 4 + 1 = p + 5 := by grind
  have a6 : p + 5 + 1 = p + 6 := by grind
  rw [GR_80, C_76 hw hc hr hl h0 h1]
  simp only [if_pos hcd.2]
  rw [C_76 hw hc hr hl (by grind) q1, a2]
  simp only [V_52, V_54]
  unfold lvP
  have cv : ∀ j, j < 16 → (ca S (p + 2)).1 9 j = A 3 j := (hc.ca _).val
  have cf : ∀ j, j < 16 → (ca S (p + 2)).1 10 j = A 4 j := (hc.ca _).flg
  have hc5 : bt A r p = 0 ∨ bt A r p = 1 ∨ bt A r p = 2 ∨ bt A r p = 3 ∨ bt A r p = 4 := by grind
  rcases hc5 with h | h | h | h | h
  · obtain ⟨k1, k2, k3⟩ := q2 (Or.inl h)
    have hi : 0 ≤ bt A r (p + 1) ∧ bt A r (p + 1) < 16 := ⟨q1', k1⟩
    rw [k3]
    simp only [h, if_true, if_pos hi, cv _ (n16 hi), C_76 hw hc hr hl (show 0 ≤ p + 2 by grind) k2, a3]
    split <;> simp_all
  · obtain ⟨k1, k2, k3⟩ := q2 (Or.inr h)
    have hi : 0 ≤ bt A r (p + 1) ∧ bt A r (p + 1) < 16 := ⟨q1', k1⟩
    rw [k3]
    simp only [h, e10, if_false, if_true, if_pos hi, cv _ (n16 hi), C_76 hw hc hr hl (show 0 ≤ p + 2 by grind) k2, a3]
    by_cases q : bt A r (p + 2) ≤ A 3 (bt A r (p + 1)).toNatClampNeg
    · rw [if_pos q, if_neg (by grind)]
    · rw [if_neg q, if_pos (by grind)]
  · obtain ⟨k1, k3⟩ := q3 h
    have hi : 0 ≤ bt A r (p + 1) ∧ bt A r (p + 1) < 16 := ⟨q1', k1⟩
    rw [k3]
    simp only [h, show ((2 : Int32) = 0) = False by simp, show ((2 : Int32) = 1) = False by simp, if_false, if_true, cf _ (n16 hi)]
    by_cases q : A 4 (bt A r (p + 1)).toNatClampNeg = 0
    · simp [q]
    · simp [q, hi]
  · have k3 := q4 h
    rw [k3]
    simp only [h, show ((3 : Int32) = 0) = False by simp, show ((3 : Int32) = 1) = False by simp, show ((3 : Int32) = 2) = False by simp, if_false, if_true, (hc.ca (p + 2)).wrd]
    split <;> simp_all
  · obtain ⟨k1, k2, k3, k4, k5, k6⟩ := q5 h
    have hi : 0 ≤ bt A r (p + 1) ∧ bt A r (p + 1) < 4 := ⟨q1', k1⟩
    have ho := tn4 hi.1 hi.2
    have ks := (hc.ca (p + 6)).ks ho
    rw [k6]
    unfold G_82 G_13
    simp only [h, show ((4 : Int32) = 0) = False by simp, show ((4 : Int32) = 1) = False by simp, show ((4 : Int32) = 2) = False by simp, show ((4 : Int32) = 3) = False by simp, if_false, V_55, if_pos hi, C_76 hw hc hr hl (show 0 ≤ p + 2 by grind) k2, a3, C_76 hw hc hr hl (show 0 ≤ p + 3 by grind) k3, a4, C_76 hw hc hr hl (show 0 ≤ p + 4 by grind) k4, a5, C_76 hw hc hr hl (show 0 ≤ p + 5 by grind) k5, a6, if_pos (kd_act ho), ks]
    clear ks cv cf q2 q3 q4 q5
    by_cases s0 : A 27 (bt A r (p + 1)).toNatClampNeg = 0
    · simp [s0]
    · by_cases s1 : A 20 (bt A r (p + 1)).toNatClampNeg < bt A r (p + 2)
      · rw [if_neg (show ¬ (A 27 (bt A r (p + 1)).toNatClampNeg ≠ 0 ∧ bt A r (p + 2) ≤ A 20 (bt A r (p + 1)).toNatClampNeg ∧ A 20 (bt A r (p + 1)).toNatClampNeg + A 22 (bt A r (p + 1)).toNatClampNeg - 1 ≤ bt A r (p + 4) ∧ bt A r (p + 3) ≤ A 21 (bt A r (p + 1)).toNatClampNeg ∧ A 21 (bt A r (p + 1)).toNatClampNeg ≤ bt A r (p + 5)) from fun h => by have := h.2.1; grind)]
        simp [s0, s1]
      · by_cases s2 : bt A r (p + 4) < A 20 (bt A r (p + 1)).toNatClampNeg + A 22 (bt A r (p + 1)).toNatClampNeg - 1
        · rw [if_neg (show ¬ (A 27 (bt A r (p + 1)).toNatClampNeg ≠ 0 ∧ bt A r (p + 2) ≤ A 20 (bt A r (p + 1)).toNatClampNeg ∧ A 20 (bt A r (p + 1)).toNatClampNeg + A 22 (bt A r (p + 1)).toNatClampNeg - 1 ≤ bt A r (p + 4) ∧ bt A r (p + 3) ≤ A 21 (bt A r (p + 1)).toNatClampNeg ∧ A 21 (bt A r (p + 1)).toNatClampNeg ≤ bt A r (p + 5)) from fun h => Int32.not_lt.mpr h.2.2.1 s2)]
          simp [s0, s1, s2]
        · by_cases s3 : A 21 (bt A r (p + 1)).toNatClampNeg < bt A r (p + 3)
          · rw [if_neg (show ¬ (A 27 (bt A r (p + 1)).toNatClampNeg ≠ 0 ∧ bt A r (p + 2) ≤ A 20 (bt A r (p + 1)).toNatClampNeg ∧ A 20 (bt A r (p + 1)).toNatClampNeg + A 22 (bt A r (p + 1)).toNatClampNeg - 1 ≤ bt A r (p + 4) ∧ bt A r (p + 3) ≤ A 21 (bt A r (p + 1)).toNatClampNeg ∧ A 21 (bt A r (p + 1)).toNatClampNeg ≤ bt A r (p + 5)) from fun h => Int32.not_lt.mpr h.2.2.2.1 s3)]
            simp [s0, s1, s2, s3]
          · by_cases s4 : bt A r (p + 5) < A 21 (bt A r (p + 1)).toNatClampNeg
            · rw [if_neg (show ¬ (A 27 (bt A r (p + 1)).toNatClampNeg ≠ 0 ∧ bt A r (p + 2) ≤ A 20 (bt A r (p + 1)).toNatClampNeg ∧ A 20 (bt A r (p + 1)).toNatClampNeg + A 22 (bt A r (p + 1)).toNatClampNeg - 1 ≤ bt A r (p + 4) ∧ bt A r (p + 3) ≤ A 21 (bt A r (p + 1)).toNatClampNeg ∧ A 21 (bt A r (p + 1)).toNatClampNeg ≤ bt A r (p + 5)) from fun h => Int32.not_lt.mpr h.2.2.2.2 s4)]
              simp [s0, s1, s2, s3, s4]
            · rw [if_pos (show (A 27 (bt A r (p + 1)).toNatClampNeg ≠ 0 ∧ bt A r (p + 2) ≤ A 20 (bt A r (p + 1)).toNatClampNeg ∧ A 20 (bt A r (p + 1)).toNatClampNeg + A 22 (bt A r (p + 1)).toNatClampNeg - 1 ≤ bt A r (p + 4) ∧ bt A r (p + 3) ≤ A 21 (bt A r (p + 1)).toNatClampNeg ∧ A 21 (bt A r (p + 1)).toNatClampNeg ≤ bt A r (p + 5)) from ⟨s0, Int32.not_lt.mp s1, Int32.not_lt.mp s2, Int32.not_lt.mp s3, Int32.not_lt.mp s4⟩)]
              simp [s0, s1, s2, s3, s4]
end
section
variable {A M C : Ab} {z : Option Nat × (Nat → Option Nat)}
theorem evi_01 (A : Ab) (b : Int32 → Int32) (k : Nat) (p : Int32) : evi A b k p = 0 ∨ evi A b k p = 1 := by
  unfold evi; split
  · exact Or.inr rfl
  · exact Or.inl rfl
theorem evi_0 {A : Ab} {b : Int32 → Int32} {k : Nat} {p : Int32} : evi A b k p = 0 ↔ ¬ ev A b k p := by
  unfold evi
  by_cases q : ev A b k p
  · rw [if_pos q]; simp [q]
  · rw [if_neg q]; simp [q]
theorem evi_t {A : Ab} {b : Int32 → Int32} {k : Nat} {p : Int32} (h : ev A b k p) : evi A b k p = 1 := by unfold evi; rw [if_pos h]
theorem evi_f {A : Ab} {b : Int32 → Int32} {k : Nat} {p : Int32} (h : ¬ ev A b k p) : evi A b k p = 0 := by unfold evi; rw [if_neg h]
theorem evi_leaf {A : Ab} {b : Int32 → Int32} {k : Nat} {p : Int32} (h : 0 ≤ b p ∧ b p < 5) (d : Decidable (lvP A b p)) : evi A b k p = if lvP A b p then 1 else 0 := by
  have : ev A b k p ↔ lvP A b p := by
    cases k with
    | zero => exact Iff.rfl
    | succ k => rw [ev, if_neg (show ¬ (5 ≤ b p ∧ b p ≤ 7) by grind)]
  by_cases q : lvP A b p
  · rw [evi_t (this.mpr q), if_pos q]
  · rw [evi_f (fun h => q (this.mp h)), if_neg q]
theorem C_ev (hw : WF A) {S : St} (hc : CR A M S) {r : Nat} (hr : r < 4) (hl : S.2.1 = some (15 + 2 * r)) (k : Nat) : ∀ (n : Nat) (p d : Int32), 3 * (k + 1) ≤ n → d.toInt + k = 6 → 0 ≤ d → 0 ≤ p → p < A 5 r → (prs (bt A r) k p).1 = -1 → GR_80 n 0 (ca S p) 0 d = some (evi A (bt A r) k p, ca S (prs (bt A r) k p).2) := by
  have hb := hw.b0 hr
  have n6 := hb.n64
  have h66 : (6 : Int32).toInt = 6 := rfl
  induction k with
  | zero =>
    intro n p d hn hd hd0 h0 h1 hok
    obtain ⟨n', rfl⟩ : ∃ n', n = n' + 1 := ⟨n - 1, by omega⟩
    rw [prs] at hok ⊢
    by_cases q : 0 ≤ bt A r p ∧ bt A r p < 5
    · rw [if_pos q] at hok ⊢
      rw [C_lf hw hc hr hl h0 h1 q hok, evi_leaf q]
    · rw [if_neg q] at hok
      have hok : p = -1 := hok
      exfalso; grind
  | succ k ih =>
    intro n p d hn hd hd0 h0 h1 hok
    obtain ⟨n', rfl⟩ : ∃ n', n = n' + 1 + 1 := ⟨n - 2, by omega⟩
    rw [prs] at hok ⊢
    by_cases q : 0 ≤ bt A r p ∧ bt A r p < 5
    · rw [if_pos q] at hok ⊢
      rw [C_lf hw hc hr hl h0 h1 q hok, evi_leaf q]
    · rw [if_neg q] at hok ⊢
      by_cases q5 : 5 ≤ bt A r p ∧ bt A r p ≤ 7
      · rw [if_pos q5] at hok ⊢
        have hd6 : ¬ (6 ≤ d) := by rw [Int32.le_iff_toInt_le]; omega
        have hd1 : (d + 1).toInt = d.toInt + 1 := by
          have h1 : (1 : Int32).toInt = 1 := rfl
          have a := ile hd0; have h0 : (0 : Int32).toInt = 0 := rfl
          rw [iadd] <;> rw [h1] <;> omega
        have hd10 : 0 ≤ d + 1 := by rw [Int32.le_iff_toInt_le, hd1]; have := ile hd0; have h0 : (0 : Int32).toInt = 0 := rfl; omega
        by_cases w1 : (prs (bt A r) k (p + 1)).1 = -1
        · rw [if_pos w1] at hok ⊢
          have g1 := (prs_rg hb k (p + 1) (by grind) (by grind)).1 w1
          have hp1 : p + 1 < A 5 r := by grind
          have e1 := ih n' (p + 1) (d + 1) (by omega) (by omega) hd10 (by grind) hp1 w1
          rw [GR_80, C_76 hw hc hr hl h0 h1]
          simp only [if_neg (show ¬ bt A r p < 5 by grind), if_neg hd6]
          rw [GR_80, e1]
          simp only []
          by_cases c5 : bt A r p = 5
          · rw [if_pos c5] at hok ⊢
            rw [if_pos c5]
            by_cases v : ev A (bt A r) k (p + 1)
            · rw [evi_t v, evi_f (k := k + 1) (p := p) (by rw [ev, if_pos q5, if_pos c5]; exact fun h => h v)]
              simp [e10]
            · rw [evi_f v, evi_t (k := k + 1) (p := p) (by rw [ev, if_pos q5, if_pos c5]; exact v)]
              simp [e10]
          · rw [if_neg c5] at hok ⊢
            rw [if_neg c5]
            have hp2 : (prs (bt A r) k (p + 1)).2 < A 5 r := by
              have := (prs_rg hb k (prs (bt A r) k (p + 1)).2 (by grind) g1.2).1 hok
              grind
            have e2 := ih n' (prs (bt A r) k (p + 1)).2 (d + 1) (by omega) (by omega) hd10 (by grind) hp2 hok
            rw [e2]
            simp only []
            by_cases c6 : bt A r p = 6
            · rw [if_pos c6]
              by_cases v : ev A (bt A r) k (p + 1)
              · by_cases v2 : ev A (bt A r) k (prs (bt A r) k (p + 1)).2
                · rw [evi_t v, evi_t v2, evi_t (k := k + 1) (p := p) (by rw [ev, if_pos q5, if_neg c5, if_pos c6]; exact ⟨v, v2⟩)]
                  simp [e10]
                · rw [evi_t v, evi_f v2, evi_f (k := k + 1) (p := p) (by rw [ev, if_pos q5, if_neg c5, if_pos c6]; exact fun h => v2 h.2)]
                  simp [e10]
              · rw [evi_f v, evi_f (k := k + 1) (p := p) (by rw [ev, if_pos q5, if_neg c5, if_pos c6]; exact fun h => v h.1)]
                simp
            · rw [if_neg c6]
              by_cases v : ev A (bt A r) k (p + 1)
              · rw [evi_t v, evi_t (k := k + 1) (p := p) (by rw [ev, if_pos q5, if_neg c5, if_neg c6]; exact Or.inl v)]
                simp [e10]
              · by_cases v2 : ev A (bt A r) k (prs (bt A r) k (p + 1)).2
                · rw [evi_f v, evi_t v2, evi_t (k := k + 1) (p := p) (by rw [ev, if_pos q5, if_neg c5, if_neg c6]; exact Or.inr v2)]
                  simp [e10]
                · rw [evi_f v, evi_f v2, evi_f (k := k + 1) (p := p) (by rw [ev, if_pos q5, if_neg c5, if_neg c6]; exact fun h => h.elim v v2)]
                  simp
        · rw [if_neg w1] at hok
          exact absurd hok w1
      · rw [if_neg q5] at hok
        have hok : p = -1 := hok
        exfalso; grind
/-! the model -/
theorem M_lf (hw : WF A) {T : St} (hm : MR A C z T) {x p : Int32} (x0 : 0 ≤ x) (x4 : x < 4) (h0 : 0 ≤ p) (h1 : p < A 5 x.toNatClampNeg) (hcd : 0 ≤ bt A x.toNatClampNeg p ∧ bt A x.toNatClampNeg p < 5) (hok : (leaf (bt A x.toNatClampNeg) p).1 = -1) (d : Decidable (lvP A (bt A x.toNatClampNeg) p)) : G_134 T x p = some (if lvP A (bt A x.toNatClampNeg) p then 1 else 0, T) := by
  have hr := tn4 x0 x4
  have hb := hw.b0 hr
  have n6 := hb.n64
  obtain ⟨⟨q1, q1'⟩, q2, q3, q4, q5⟩ := leaf_in hb h0 h1 hcd hok
  have mm : ∀ q, 0 ≤ q → G_118 T x q = some (bt A x.toNatClampNeg q, T) := fun q hq => M_118 hw hm x0 x4 hq
  unfold G_134
  simp only [mm _ (show 0 ≤ p + 1 by grind), mm _ (show 0 ≤ p + 2 by grind), mm _ h0, mm _ (show 0 ≤ p + 3 by grind), mm _ (show 0 ≤ p + 4 by grind), mm _ (show 0 ≤ p + 5 by grind)]
  have key : ∀ (P : Prop) (_ : Decidable P), (P ↔ lvP A (bt A x.toNatClampNeg) p) → some ((if P then 1 else 0 : Int32), T) = some (if lvP A (bt A x.toNatClampNeg) p then 1 else 0, T) := by
    intro P _ h
    by_cases hP : P
    · rw [if_pos hP, if_pos (h.mp hP)]
    · rw [if_neg hP, if_neg (fun h' => hP (h.mpr h'))]
  have hc5 : bt A x.toNatClampNeg p = 0 ∨ bt A x.toNatClampNeg p = 1 ∨ bt A x.toNatClampNeg p = 2 ∨ bt A x.toNatClampNeg p = 3 ∨ bt A x.toNatClampNeg p = 4 := by grind
  rcases hc5 with h | h | h | h | h
  · obtain ⟨k1, k2, k3⟩ := q2 (Or.inl h)
    have hi : 0 ≤ bt A x.toNatClampNeg (p + 1) ∧ bt A x.toNatClampNeg (p + 1) < 16 := ⟨q1', k1⟩
    rw [h, if_pos rfl, if_pos ((xin16 _).mpr hi), hm.val _ (n16 hi)]
    rw [← key (A 3 (bt A x.toNatClampNeg (p + 1)).toNatClampNeg = bt A x.toNatClampNeg (p + 2)) inferInstance (by unfold lvP; rw [if_pos h])]
    split <;> rfl
  · obtain ⟨k1, k2, k3⟩ := q2 (Or.inr h)
    have hi : 0 ≤ bt A x.toNatClampNeg (p + 1) ∧ bt A x.toNatClampNeg (p + 1) < 16 := ⟨q1', k1⟩
    rw [h, if_neg (by decide), if_pos rfl, if_pos ((xin16 _).mpr hi), hm.val _ (n16 hi)]
    rw [← key (A 3 (bt A x.toNatClampNeg (p + 1)).toNatClampNeg < bt A x.toNatClampNeg (p + 2)) inferInstance (by unfold lvP; rw [if_neg (by rw [h]; decide), if_pos h])]
    by_cases q : bt A x.toNatClampNeg (p + 2) ≤ A 3 (bt A x.toNatClampNeg (p + 1)).toNatClampNeg
    · rw [if_pos q, if_neg (by grind)]
    · rw [if_neg q, if_pos (by grind)]
  · obtain ⟨k1, k3⟩ := q3 h
    have hi : 0 ≤ bt A x.toNatClampNeg (p + 1) ∧ bt A x.toNatClampNeg (p + 1) < 16 := ⟨q1', k1⟩
    have hf := hw.flg _ (n16 hi)
    rw [h, if_neg (by decide), if_neg (by decide), if_pos rfl, if_pos ((xin16 _).mpr hi), hm.flg _ (n16 hi), if_pos hf]
    rw [← key (A 4 (bt A x.toNatClampNeg (p + 1)).toNatClampNeg ≠ 0) inferInstance (by unfold lvP; rw [if_neg (by rw [h]; decide), if_neg (by rw [h]; decide), if_pos h])]
    rcases hf with hf | hf <;> rw [hf] <;> rfl
  · rw [h, if_neg (by decide), if_neg (by decide), if_neg (by decide), if_pos rfl, hm.wrd]
    rw [← key (bt A x.toNatClampNeg (p + 1) = A 0 3) inferInstance (by unfold lvP; rw [if_neg (by rw [h]; decide), if_neg (by rw [h]; decide), if_neg (by rw [h]; decide), if_pos h])]
    by_cases q : A 0 3 = bt A x.toNatClampNeg (p + 1)
    · rw [if_pos q, if_pos q.symm]
    · rw [if_neg q, if_neg (fun e => q e.symm)]
  · obtain ⟨k1, k2, k3, k4, k5, k6⟩ := q5 h
    have hi : 0 ≤ bt A x.toNatClampNeg (p + 1) ∧ bt A x.toNatClampNeg (p + 1) < 4 := ⟨q1', k1⟩
    have ho := tn4 hi.1 hi.2
    have ks := hm.ks ho
    rw [h, if_neg (by decide), if_neg (by decide), if_neg (by decide), if_neg (by decide), if_pos ((xin4 _).mpr hi)]
    rw [← key (A 27 (bt A x.toNatClampNeg (p + 1)).toNatClampNeg ≠ 0 ∧ bt A x.toNatClampNeg (p + 2) ≤ A 20 (bt A x.toNatClampNeg (p + 1)).toNatClampNeg ∧ A 20 (bt A x.toNatClampNeg (p + 1)).toNatClampNeg + A 22 (bt A x.toNatClampNeg (p + 1)).toNatClampNeg - 1 ≤ bt A x.toNatClampNeg (p + 4) ∧ bt A x.toNatClampNeg (p + 3) ≤ A 21 (bt A x.toNatClampNeg (p + 1)).toNatClampNeg ∧ A 21 (bt A x.toNatClampNeg (p + 1)).toNatClampNeg ≤ bt A x.toNatClampNeg (p + 5)) inferInstance (by unfold lvP; rw [if_neg (by rw [h]; decide), if_neg (by rw [h]; decide), if_neg (by rw [h]; decide), if_neg (by rw [h]; decide)])]
    simp only [ks]
    clear ks q2 q3 q4 q5 key mm
    by_cases s0 : A 27 (bt A x.toNatClampNeg (p + 1)).toNatClampNeg = 0
    · simp [s0]
    · by_cases s1 : A 20 (bt A x.toNatClampNeg (p + 1)).toNatClampNeg < bt A x.toNatClampNeg (p + 2)
      · simp [s0, s1, Int32.not_le.mpr s1]
      · by_cases s2 : bt A x.toNatClampNeg (p + 4) < A 20 (bt A x.toNatClampNeg (p + 1)).toNatClampNeg + A 22 (bt A x.toNatClampNeg (p + 1)).toNatClampNeg - 1
        · simp [s0, s1, s2, Int32.not_le.mpr s2]
        · by_cases s3 : A 21 (bt A x.toNatClampNeg (p + 1)).toNatClampNeg < bt A x.toNatClampNeg (p + 3)
          · simp [s0, s1, s2, s3, Int32.not_le.mpr s3]
          · by_cases s4 : bt A x.toNatClampNeg (p + 5) < A 21 (bt A x.toNatClampNeg (p + 1)).toNatClampNeg
            · simp [s0, s1, s2, s3, s4, Int32.not_le.mpr s4]
            · simp [s0, s1, s2, s3, s4, Int32.not_lt.mp s1, Int32.not_lt.mp s2, Int32.not_lt.mp s3, Int32.not_lt.mp s4]
end
theorem pm1 (a : Nat) : Int32.ofNat (a + 1) - 1 = Int32.ofNat a := by rw [← nj_s]; generalize Int32.ofNat a = x; grind
theorem pm2 (a : Nat) : Int32.ofNat a + (-1) = Int32.ofNat a - 1 := by generalize Int32.ofNat a = x; grind
theorem in64 {k : Nat} (hk : k < 64) : xa_in (Int32.ofNat k) 64 := by
  rw [xin64, Int32.le_iff_toInt_le, Int32.lt_iff_toInt_lt, ni_i (by omega)]
  have h00 : (0 : Int32).toInt = 0 := rfl
  have h1 : (64 : Int32).toInt = 64 := rfl
  omega
theorem nn0 {k : Nat} (hk : k < 1000) : ¬ (Int32.ofNat k < 0) := by
  rw [Int32.lt_iff_toInt_lt, ni_i (by omega)]
  have h00 : (0 : Int32).toInt = 0 := rfl
  omega
theorem toks_pos (b : Int32 → Int32) (k : Nat) (p : Int32) : 1 ≤ (toks b k p).length := by
  cases k with
  | zero => exact Nat.le_refl _
  | succ k => rw [toks]; split <;> simp
section
variable {A M C : Ab} {z : Option Nat × (Nat → Option Nat)}
/-- only the stack of answers changes -/
def SX (T T' : St) : Prop := (∀ c k, c ≠ 39 → T'.1 c k = T.1 c k) ∧ T'.2 = T.2
theorem SX.pf {T T' : St} (h : SX T T') : PF T T' := ⟨fun c k _ _ h3 _ => h.1 c k h3, h.2⟩
theorem SX.trans {T U V : St} (h : SX T U) (g : SX U V) : SX T V := ⟨fun c k a => (g.1 c k a).trans (h.1 c k a), g.2.trans h.2⟩
theorem SX.u {T : St} {k : Nat} {v : Int32} : SX T (xa_u T.1 39 k v, T.2) := ⟨fun c j h => xa_c (by omega), rfl⟩
theorem M_evl (hw : WF A) {x y3 : Int32} (x0 : 0 ≤ x) (x4 : x < 4) (k : Nat) : ∀ (p : Int32) (i h : Nat) (T : St), MR A C z T → 0 ≤ p → p < A 5 x.toNatClampNeg → (prs (bt A x.toNatClampNeg) k p).1 = -1 → (∀ j (hj : j < (toks (bt A x.toNatClampNeg) k p).length), T.1 38 (i + j) = (toks (bt A x.toNatClampNeg) k p)[j]) → h + (toks (bt A x.toNatClampNeg) k p).length ≤ 64 → i + (toks (bt A x.toNatClampNeg) k p).length ≤ 64 →
    ∃ T', (∀ n, GL_133_0 (n + (toks (bt A x.toNatClampNeg) k p).length) T x y3 (Int32.ofNat h) (Int32.ofNat (i + (toks (bt A x.toNatClampNeg) k p).length) - 1) = GL_133_0 n T' x y3 (Int32.ofNat (h + 1)) (Int32.ofNat i - 1)) ∧ SX T T' ∧ T'.1 39 h = evi A (bt A x.toNatClampNeg) k p ∧ ∀ j, j < h → T'.1 39 j = T.1 39 j := by
  have hr := tn4 x0 x4
  have hb := hw.b0 hr
  have n6 := hb.n64
  -- a question of the world
  have lf : ∀ (k : Nat) (p : Int32) (i h : Nat) (T : St), MR A C z T → 0 ≤ p → p < A 5 x.toNatClampNeg → (0 ≤ bt A x.toNatClampNeg p ∧ bt A x.toNatClampNeg p < 5) → (leaf (bt A x.toNatClampNeg) p).1 = -1 → T.1 38 i = p → h + 1 ≤ 64 → i + 1 ≤ 64 → ∃ T', (∀ n, GL_133_0 (n + 1) T x y3 (Int32.ofNat h) (Int32.ofNat (i + 1) - 1) = GL_133_0 n T' x y3 (Int32.ofNat (h + 1)) (Int32.ofNat i - 1)) ∧ SX T T' ∧ T'.1 39 h = evi A (bt A x.toNatClampNeg) k p ∧ ∀ j, j < h → T'.1 39 j = T.1 39 j := by
    intro k p i h T hm h0 h1 hc hok ht hh hi
    refine ⟨(xa_u T.1 39 h (evi A (bt A x.toNatClampNeg) k p), T.2), fun n => ?_, SX.u, ?_, fun j hj => ?_⟩
    · have e := M_lf hw hm x0 x4 h0 h1 hc hok inferInstance
      rw [← evi_leaf (k := k) hc inferInstance] at e
      rw [pm1, GL_133_0, if_neg (nn0 (by omega)), if_pos (in64 (by omega)), ni_tn (by omega), ht, M_118 hw hm x0 x4 h0]
      simp only [if_neg (show ¬ 5 ≤ bt A x.toNatClampNeg p by grind), ht, e, if_pos (in64 (show h < 64 by omega)), if_pos (evi_01 A (bt A x.toNatClampNeg) k p), ni_tn (show h < 2147483648 by omega)]
      rw [nj_s, pm2]
    · show xa_u T.1 39 h _ 39 h = _; exact xa_e
    · show xa_u T.1 39 h _ 39 j = _; exact xa_c (by omega)
  induction k with
  | zero =>
    intro p i h T hm h0 h1 hok ht hh hi
    rw [prs] at hok
    by_cases q : 0 ≤ bt A x.toNatClampNeg p ∧ bt A x.toNatClampNeg p < 5
    · rw [if_pos q] at hok
      exact lf 0 p i h T hm h0 h1 q hok (ht 0 (by simp [toks])) hh hi
    · rw [if_neg q] at hok
      have hok : p = -1 := hok
      exfalso; grind
  | succ k ih =>
    intro p i h T hm h0 h1 hok ht hh hi
    rw [prs] at hok
    by_cases q : 0 ≤ bt A x.toNatClampNeg p ∧ bt A x.toNatClampNeg p < 5
    · rw [if_pos q] at hok
      have e : toks (bt A x.toNatClampNeg) (k + 1) p = [p] := by rw [toks, if_neg (show ¬ (5 ≤ bt A x.toNatClampNeg p ∧ bt A x.toNatClampNeg p ≤ 7) by grind)]
      simp only [e] at ht hh hi ⊢
      exact lf (k + 1) p i h T hm h0 h1 q hok (ht 0 (by simp)) hh hi
    · rw [if_neg q] at hok
      by_cases q5 : 5 ≤ bt A x.toNatClampNeg p ∧ bt A x.toNatClampNeg p ≤ 7
      · rw [if_pos q5] at hok
        by_cases w1 : (prs (bt A x.toNatClampNeg) k (p + 1)).1 = -1
        · rw [if_pos w1] at hok
          have g1 := (prs_rg hb k (p + 1) (by grind) (by grind)).1 w1
          have hp1 : p + 1 < A 5 x.toNatClampNeg := by grind
          by_cases c5 : bt A x.toNatClampNeg p = 5
          · have e : toks (bt A x.toNatClampNeg) (k + 1) p = p :: toks (bt A x.toNatClampNeg) k (p + 1) := by rw [toks, if_pos q5, if_pos c5, List.append_nil]
            simp only [e, List.length_cons] at ht hh hi ⊢
            obtain ⟨T1, a1, a2, a3, a4⟩ := ih (p + 1) (i + 1) h T hm (by grind) hp1 w1 (fun j hj => by
              have := ht (j + 1) (by omega)
              rw [show i + 1 + j = i + (j + 1) by omega, this]; rfl) (by omega) (by omega)
            have t0 : T1.1 38 i = p := by
              rw [a2.1 38 i (by omega)]
              have := ht 0 (by omega)
              rw [Nat.add_zero] at this
              rw [this]; rfl
            have hm1 := hm.pf a2.pf
            have m118 := M_118 hw hm1 x0 x4 h0
            refine ⟨(xa_u T1.1 39 h (evi A (bt A x.toNatClampNeg) (k + 1) p), T1.2), fun n => ?_, a2.trans SX.u, ?_, fun j hj => ?_⟩
            · rw [show n + ((toks (bt A x.toNatClampNeg) k (p + 1)).length + 1) = (n + 1) + (toks (bt A x.toNatClampNeg) k (p + 1)).length by omega, show i + ((toks (bt A x.toNatClampNeg) k (p + 1)).length + 1) = i + 1 + (toks (bt A x.toNatClampNeg) k (p + 1)).length by omega, a1]
              rw [pm1, GL_133_0, if_neg (nn0 (by omega)), if_pos (in64 (by omega)), ni_tn (by omega), t0, m118]
              simp only [if_pos q5.1, if_pos c5, pm1, if_pos (in64 (show h < 64 by omega)), ni_tn (show h < 2147483648 by omega), a3]
              rw [pm2]
              by_cases v : ev A (bt A x.toNatClampNeg) k (p + 1)
              · rw [evi_t v, if_neg (by decide), evi_f (k := k + 1) (p := p) (by rw [ev, if_pos q5, if_pos c5]; exact fun h => h v)]
              · rw [evi_f v, if_pos rfl, evi_t (k := k + 1) (p := p) (by rw [ev, if_pos q5, if_pos c5]; exact v)]
            · show xa_u T1.1 39 h _ 39 h = _; exact xa_e
            · show xa_u T1.1 39 h _ 39 j = _; rw [xa_c (by omega)]; exact a4 j hj
          · rw [if_neg c5] at hok
            have e : toks (bt A x.toNatClampNeg) (k + 1) p = p :: (toks (bt A x.toNatClampNeg) k (p + 1) ++ toks (bt A x.toNatClampNeg) k (prs (bt A x.toNatClampNeg) k (p + 1)).2) := by rw [toks, if_pos q5, if_neg c5]
            simp only [e, List.length_cons, List.length_append] at ht hh hi ⊢
            have hp2 : (prs (bt A x.toNatClampNeg) k (p + 1)).2 < A 5 x.toNatClampNeg := by
              have := (prs_rg hb k (prs (bt A x.toNatClampNeg) k (p + 1)).2 (by grind) g1.2).1 hok
              grind
            obtain ⟨T1, a1, a2, a3, a4⟩ := ih (prs (bt A x.toNatClampNeg) k (p + 1)).2 (i + 1 + (toks (bt A x.toNatClampNeg) k (p + 1)).length) h T hm (by grind) hp2 hok (fun j hj => by
              have := ht ((toks (bt A x.toNatClampNeg) k (p + 1)).length + j + 1) (by omega)
              rw [show i + 1 + (toks (bt A x.toNatClampNeg) k (p + 1)).length + j = i + ((toks (bt A x.toNatClampNeg) k (p + 1)).length + j + 1) by omega, this]
              rw [List.getElem_cons_succ, List.getElem_append_right (by omega)]
              congr 1
              omega) (by omega) (by omega)
            obtain ⟨T2, b1, b2, b3, b4⟩ := ih (p + 1) (i + 1) (h + 1) T1 (hm.pf a2.pf) (by grind) hp1 w1 (fun j hj => by
              rw [a2.1 38 _ (by omega)]
              have := ht (j + 1) (by omega)
              rw [show i + 1 + j = i + (j + 1) by omega, this]
              rw [List.getElem_cons_succ, List.getElem_append_left hj]) (by have hl := toks_pos (bt A x.toNatClampNeg) k (prs (bt A x.toNatClampNeg) k (p + 1)).2; omega) (by omega)
            have t0 : T2.1 38 i = p := by
              rw [b2.1 38 i (by omega), a2.1 38 i (by omega)]
              have := ht 0 (by omega)
              rw [Nat.add_zero] at this
              rw [this]; rfl
            have hm2 := (hm.pf a2.pf).pf b2.pf
            have m118 := M_118 hw hm2 x0 x4 h0
            have s1 : T2.1 39 h = evi A (bt A x.toNatClampNeg) k (prs (bt A x.toNatClampNeg) k (p + 1)).2 := by rw [b4 h (by omega)]; exact a3
            have hl2 : h + 1 < 64 := by
              have hl := toks_pos (bt A x.toNatClampNeg) k (prs (bt A x.toNatClampNeg) k (p + 1)).2
              have hl' := toks_pos (bt A x.toNatClampNeg) k (p + 1)
              omega
            refine ⟨(xa_u T2.1 39 h (evi A (bt A x.toNatClampNeg) (k + 1) p), T2.2), fun n => ?_, (a2.trans b2).trans SX.u, ?_, fun j hj => ?_⟩
            · rw [show n + ((toks (bt A x.toNatClampNeg) k (p + 1)).length + (toks (bt A x.toNatClampNeg) k (prs (bt A x.toNatClampNeg) k (p + 1)).2).length + 1) = (n + 1 + (toks (bt A x.toNatClampNeg) k (p + 1)).length) + (toks (bt A x.toNatClampNeg) k (prs (bt A x.toNatClampNeg) k (p + 1)).2).length by omega, show i + ((toks (bt A x.toNatClampNeg) k (p + 1)).length + (toks (bt A x.toNatClampNeg) k (prs (bt A x.toNatClampNeg) k (p + 1)).2).length + 1) = i + 1 + (toks (bt A x.toNatClampNeg) k (p + 1)).length + (toks (bt A x.toNatClampNeg) k (prs (bt A x.toNatClampNeg) k (p + 1)).2).length by omega, a1, b1]
              rw [pm1, GL_133_0, if_neg (nn0 (by omega)), if_pos (in64 (by omega)), ni_tn (by omega), t0, m118]
              unfold xlet
              have z1 : Int32.ofNat (h + 1 + 1) + (-1) = Int32.ofNat (h + 1) := by rw [pm2, pm1]
              simp only [if_pos q5.1, if_neg c5, z1, pm1, if_pos (in64 (show h < 64 by omega)), if_pos (in64 hl2), ni_tn (show h < 2147483648 by omega), ni_tn (show h + 1 < 2147483648 by omega), s1, b3]
              rw [pm2]
              by_cases c6 : bt A x.toNatClampNeg p = 6
              · rw [if_pos c6]
                by_cases v : ev A (bt A x.toNatClampNeg) k (p + 1)
                · by_cases v2 : ev A (bt A x.toNatClampNeg) k (prs (bt A x.toNatClampNeg) k (p + 1)).2
                  · rw [evi_t v, evi_t v2, if_neg (by decide), if_neg (by decide), evi_t (k := k + 1) (p := p) (by rw [ev, if_pos q5, if_neg c5, if_pos c6]; exact ⟨v, v2⟩)]
                  · rw [evi_f v2, if_pos rfl, evi_f (k := k + 1) (p := p) (by rw [ev, if_pos q5, if_neg c5, if_pos c6]; exact fun h => v2 h.2)]
                · rw [evi_f v, if_pos rfl, ite_self, evi_f (k := k + 1) (p := p) (by rw [ev, if_pos q5, if_neg c5, if_pos c6]; exact fun h => v h.1)]
              · rw [if_neg c6]
                by_cases v2 : ev A (bt A x.toNatClampNeg) k (prs (bt A x.toNatClampNeg) k (p + 1)).2
                · rw [evi_t v2, if_neg (by decide), evi_t (k := k + 1) (p := p) (by rw [ev, if_pos q5, if_neg c5, if_neg c6]; exact Or.inr v2)]
                · by_cases v : ev A (bt A x.toNatClampNeg) k (p + 1)
                  · rw [evi_f v2, evi_t v, if_pos rfl, if_neg (by decide), evi_t (k := k + 1) (p := p) (by rw [ev, if_pos q5, if_neg c5, if_neg c6]; exact Or.inl v)]
                  · rw [evi_f v2, evi_f v, if_pos rfl, if_pos rfl, evi_f (k := k + 1) (p := p) (by rw [ev, if_pos q5, if_neg c5, if_neg c6]; exact fun h => h.elim v v2)]
            · show xa_u T2.1 39 h _ 39 h = _; exact xa_e
            · show xa_u T2.1 39 h _ 39 j = _; rw [xa_c (by omega), b4 j (by omega)]; exact a4 j hj
        · rw [if_neg w1] at hok
          exact absurd hok w1
      · rw [if_neg q5] at hok
        have hok : p = -1 := hok
        exfalso; grind
/-- the model's test -/
theorem M_133 (hw : WF A) {x : Int32} (x0 : 0 ≤ x) (x4 : x < 4) {T : St} {p : Int32} (hm : MR A C z T) (h1 : 1 ≤ p) (h2 : p < A 5 x.toNatClampNeg) (hww : T.1 29 7 = -1) (hok : (prs (bt A x.toNatClampNeg) 6 p).1 = -1) : ∃ T', G_133 T x p = some (evi A (bt A x.toNatClampNeg) 6 p, T') ∧ PF T T' ∧ T'.1 29 7 = -1 := by
  have hr := tn4 x0 x4
  have hb := hw.b0 hr
  have n6 := hb.n64
  obtain ⟨q, T1, a1, a2, a3, a4⟩ := M_125 hw x0 x4 hm h1 (by grind) hww
  obtain ⟨b1, b2, b3⟩ := a4 hok
  subst b1
  have g := (prs_rg hb 6 p (by grind) (by grind)).1 hok
  have tl := toks_len hb 6 p (by grind) (by grind) hok
  have l1 := ile g.2
  have l2 := ile n6
  have l3 := ile h1
  have h64 : (64 : Int32).toInt = 64 := rfl
  have h11 : (1 : Int32).toInt = 1 := rfl
  obtain ⟨T2, c1, c2, c3, c4⟩ := M_evl hw (y3 := (prs (bt A x.toNatClampNeg) 6 p).2) x0 x4 6 p 0 0 T1 (hm.pf a2) (by grind) h2 hok (fun j hj => by rw [Nat.zero_add]; exact b3 j hj) (by omega) (by omega)
  refine ⟨T2, ?_, a2.trans c2.pf, by rw [c2.1 29 7 (by omega), a3, hok]⟩
  have hfu : xFu = (xFu - (1 + (toks (bt A x.toNatClampNeg) 6 p).length)) + 1 + (toks (bt A x.toNatClampNeg) 6 p).length := by unfold xFu; omega
  unfold G_133
  rw [a1]
  simp only [b2]
  have c1' := c1 ((xFu - (1 + (toks (bt A x.toNatClampNeg) 6 p).length)) + 1)
  rw [← hfu, Nat.zero_add] at c1'
  rw [show (0 : Int32) = Int32.ofNat 0 from rfl, c1', GL_133_0, if_pos (by decide), if_neg (show ¬ ((prs (bt A x.toNatClampNeg) 6 p).2 ≤ 0) by have := g.1; grind), show ((0 : Int32)).toNatClampNeg = 0 from rfl, c3]
  rcases evi_01 A (bt A x.toNatClampNeg) 6 p with h | h
  · rw [h, if_pos rfl]
  · rw [h, if_neg (by decide)]
end
/-! running logics -/
def LgM (b : Int32 → Int32) (n : Int32) (m : Nat) : Prop := sq b m = n ∧ ∀ i, i < m → sq b i < n ∧ (ins b (sq b i)).1 = -1 ∧ ((b (sq b i) = 7 ∨ b (sq b i) = 8) → ∃ j, j ≤ m ∧ jmp b (sq b i) (sq b (i + 1)) = sq b j)
/-- a place of a loaded logic -/
def Pl (A : Ab) (r p : Int32) : Prop := 1 ≤ r ∧ r < 4 ∧ A 6 r.toNatClampNeg ≠ 0 ∧ ∃ m k, LgM (bt A r.toNatClampNeg) (A 5 r.toNatClampNeg) m ∧ k ≤ m ∧ p = sq (bt A r.toNatClampNeg) k
theorem Pl.re {A B : Ab} {r p : Int32} (h : Pl A r p) (g : RE A B) : Pl B r p := by
  obtain ⟨h1, h2, h3, m, k, h4, h5, h6⟩ := h
  have hr := tn4 (show 0 ≤ r by grind) h2
  have e1 := (g.b0 hr).symm
  have e2 := (g _ hr).1.symm
  refine ⟨h1, h2, by rw [← (g _ hr).2.1]; exact h3, m, k, by rw [e1, e2]; exact h4, h5, by rw [e1]; exact h6⟩
theorem Pl.start {A : Ab} (hw : WF A) {r : Int32} (h1 : 1 ≤ r) (h4 : r < 4) (hl : A 6 r.toNatClampNeg ≠ 0) : Pl A r 0 := by
  have hr := tn4 (show 0 ≤ r by grind) h4
  have hr1 : 1 ≤ r.toNatClampNeg := by
    have := tn_nonneg r (by grind)
    have := ile h1
    have h11 : (1 : Int32).toInt = 1 := rfl
    omega
  obtain ⟨m, h⟩ := hw.log _ hr1 hr hl
  exact ⟨h1, h4, hl, m, 0, h, by omega, rfl⟩
/-- what is known at a place before the end -/
theorem Pl.at {A : Ab} (hw : WF A) {r p : Int32} (h : Pl A r p) (hne : p ≠ A 5 r.toNatClampNeg) : 0 ≤ p ∧ p < A 5 r.toNatClampNeg ∧ (ins (bt A r.toNatClampNeg) p).1 = -1 ∧ p < (ins (bt A r.toNatClampNeg) p).2 ∧ (ins (bt A r.toNatClampNeg) p).2 ≤ A 5 r.toNatClampNeg ∧ Pl A r (ins (bt A r.toNatClampNeg) p).2 ∧ ((bt A r.toNatClampNeg p = 7 ∨ bt A r.toNatClampNeg p = 8) → Pl A r (jmp (bt A r.toNatClampNeg) p (ins (bt A r.toNatClampNeg) p).2)) := by
  obtain ⟨h1, h2, h3, m, k, h4, h5, rfl⟩ := h
  have hb := hw.b0 (tn4 (show 0 ≤ r by grind) h2)
  have hkm : k < m := by
    apply Classical.byContradiction
    intro hn
    have : k = m := by omega
    subst this
    exact hne h4.1
  have hp : Pfx (bt A r.toNatClampNeg) (A 5 r.toNatClampNeg) m := fun j hj => ⟨(h4.2 j hj).1, (h4.2 j hj).2.1⟩
  have g := sq_rg hb k (fun j hj => hp j (by omega))
  have hk := h4.2 k hkm
  have rg := (ins_rg hb g.2.2 hk.1).1 hk.2.1
  refine ⟨g.2.2, hk.1, hk.2.1, rg.1, rg.2, ⟨h1, h2, h3, m, k + 1, h4, by omega, rfl⟩, fun hj => ?_⟩
  obtain ⟨j, j1, j2⟩ := hk.2.2 hj
  exact ⟨h1, h2, h3, m, j, h4, j1, j2⟩
theorem Pl.le {A : Ab} (hw : WF A) {r p : Int32} (h : Pl A r p) : 0 ≤ p ∧ p ≤ A 5 r.toNatClampNeg := by
  obtain ⟨h1, h2, h3, m, k, h4, h5, rfl⟩ := h
  have hb := hw.b0 (tn4 (show 0 ≤ r by grind) h2)
  have g := sq_rg hb k (fun j hj => ⟨(h4.2 j (by omega)).1, (h4.2 j (by omega)).2.1⟩)
  exact ⟨g.2.2, g.2.1⟩
def Rn (A : Ab) (S T : St) (w : Nat) (r p : Int32) : Prop :=
  (w ≤ 3) ∧
  (S.1 23 2 = Int32.ofNat w) ∧
  (S.1 23 5 = 0) ∧
  (T.1 29 34 = Int32.ofNat (w + 1)) ∧
  (S.2.1 = some (15 + 2 * r.toNatClampNeg)) ∧
  (S.1 23 4 = p) ∧
  (T.1 55 w = r) ∧
  (T.1 56 w = p) ∧
  (Pl A r p) ∧
  (∀ i, i < w → ∃ r' p', S.2.2 i = some (15 + 2 * r'.toNatClampNeg) ∧ T.1 55 i = r' ∧ S.1 25 i = p' ∧ T.1 56 i = p' ∧ Pl A r' p')
theorem Rn.w3 {A : Ab} {S T : St} {w : Nat} {r p : Int32} (h : Rn A S T w r p) : w ≤ 3 := h.1
theorem Rn.wt {A : Ab} {S T : St} {w : Nat} {r p : Int32} (h : Rn A S T w r p) : S.1 23 2 = Int32.ofNat w := h.2.1
theorem Rn.dn {A : Ab} {S T : St} {w : Nat} {r p : Int32} (h : Rn A S T w r p) : S.1 23 5 = 0 := h.2.2.1
theorem Rn.un {A : Ab} {S T : St} {w : Nat} {r p : Int32} (h : Rn A S T w r p) : T.1 29 34 = Int32.ofNat (w + 1) := h.2.2.2.1
theorem Rn.lg {A : Ab} {S T : St} {w : Nat} {r p : Int32} (h : Rn A S T w r p) : S.2.1 = some (15 + 2 * r.toNatClampNeg) := h.2.2.2.2.1
theorem Rn.at' {A : Ab} {S T : St} {w : Nat} {r p : Int32} (h : Rn A S T w r p) : S.1 23 4 = p := h.2.2.2.2.2.1
theorem Rn.tl {A : Ab} {S T : St} {w : Nat} {r p : Int32} (h : Rn A S T w r p) : T.1 55 w = r := h.2.2.2.2.2.2.1
theorem Rn.tp {A : Ab} {S T : St} {w : Nat} {r p : Int32} (h : Rn A S T w r p) : T.1 56 w = p := h.2.2.2.2.2.2.2.1
theorem Rn.pl {A : Ab} {S T : St} {w : Nat} {r p : Int32} (h : Rn A S T w r p) : Pl A r p := h.2.2.2.2.2.2.2.2.1
theorem Rn.st {A : Ab} {S T : St} {w : Nat} {r p : Int32} (h : Rn A S T w r p) : ∀ i, i < w → ∃ r' p', S.2.2 i = some (15 + 2 * r'.toNatClampNeg) ∧ T.1 55 i = r' ∧ S.1 25 i = p' ∧ T.1 56 i = p' ∧ Pl A r' p' := h.2.2.2.2.2.2.2.2.2
theorem Rn.mv {A A' : Ab} {S S' T T' : St} {w : Nat} {r p p' : Int32} (h : Rn A S T w r p) (hA : RE A A') (hp : Pl A r p') (s1 : S'.2 = S.2) (s2 : S'.1 23 2 = S.1 23 2) (s3 : S'.1 23 5 = S.1 23 5) (s4 : S'.1 23 4 = p') (s5 : ∀ i, S'.1 25 i = S.1 25 i) (t1 : T'.1 29 34 = T.1 29 34) (t2 : ∀ i, T'.1 55 i = T.1 55 i) (t3 : T'.1 56 w = p') (t4 : ∀ i, i ≠ w → T'.1 56 i = T.1 56 i) : Rn A' S' T' w r p' := by
  refine ⟨h.w3, s2.trans h.wt, s3.trans h.dn, t1.trans h.un, by rw [s1]; exact h.lg, s4, (t2 w).trans h.tl, t3, hp.re hA, fun i hi => ?_⟩
  obtain ⟨r', q', a1, a2, a3, a4, a5⟩ := h.st i hi
  exact ⟨r', q', by rw [s1]; exact a1, (t2 i).trans a2, (s5 i).trans a3, (t4 i (by omega)).trans a4, a5.re hA⟩
/-- what a step leaves -/
def Out (M C : Ab) (z : Option Nat × (Nat → Option Nat)) (A : Ab) (w : Nat) (v : Int32) (A' : Ab) (S' T' : St) : Prop := CR A' M S' ∧ MR A' C z T' ∧ WF A' ∧ T'.1 29 7 = -1 ∧ RE A A' ∧ A' 0 4 = A 0 4 ∧ A' 0 0 = A 0 0 ∧ (v = 0 → (∃ w' r' p', Rn A' S' T' w' r' p' ∧ w' ≤ w + 1) ∨ (S'.1 23 5 ≠ 0 ∧ T'.1 29 34 = 0))
theorem in4n {w : Nat} (h : w ≤ 3) : xa_in (Int32.ofNat w) 4 := by
  rw [xin4, Int32.le_iff_toInt_le, Int32.lt_iff_toInt_lt, ni_i (by omega)]
  have h00 : (0 : Int32).toInt = 0 := rfl
  have h1 : (4 : Int32).toInt = 4 := rfl
  omega
section
variable {A M C : Ab} {z : Option Nat × (Nat → Option Nat)}
/-- the model's step, as far as the place behind the instruction -/
def Hd (A C : Ab) (z : Option Nat × (Nat → Option Nat)) (T T1 : St) (w : Nat) (r p q : Int32) : Prop :=
  (PF T T1) ∧
  (MR A C z T1) ∧
  (T1.1 29 7 = -1) ∧
  (T1.1 29 34 = Int32.ofNat (w + 1)) ∧
  (MR A C z (xa_u T1.1 56 w q, T1.2.1, T1.2.2)) ∧
  (xa_u T1.1 56 w q 29 34 = Int32.ofNat (w + 1))
theorem Hd.pf {A C : Ab} {z : Option Nat × (Nat → Option Nat)} {T T1 : St} {w : Nat} {r p q : Int32} (h : Hd A C z T T1 w r p q) : PF T T1 := h.1
theorem Hd.m {A C : Ab} {z : Option Nat × (Nat → Option Nat)} {T T1 : St} {w : Nat} {r p q : Int32} (h : Hd A C z T T1 w r p q) : MR A C z T1 := h.2.1
theorem Hd.w7 {A C : Ab} {z : Option Nat × (Nat → Option Nat)} {T T1 : St} {w : Nat} {r p q : Int32} (h : Hd A C z T T1 w r p q) : T1.1 29 7 = -1 := h.2.2.1
theorem Hd.un {A C : Ab} {z : Option Nat × (Nat → Option Nat)} {T T1 : St} {w : Nat} {r p q : Int32} (h : Hd A C z T T1 w r p q) : T1.1 29 34 = Int32.ofNat (w + 1) := h.2.2.2.1
theorem Hd.m2 {A C : Ab} {z : Option Nat × (Nat → Option Nat)} {T T1 : St} {w : Nat} {r p q : Int32} (h : Hd A C z T T1 w r p q) : MR A C z (xa_u T1.1 56 w q, T1.2.1, T1.2.2) := h.2.2.2.2.1
theorem Hd.r34 {A C : Ab} {z : Option Nat × (Nat → Option Nat)} {T T1 : St} {w : Nat} {r p q : Int32} (h : Hd A C z T T1 w r p q) : xa_u T1.1 56 w q 29 34 = Int32.ofNat (w + 1) := h.2.2.2.2.2
theorem M_hd (hw : WF A) {S T : St} {w : Nat} {r p : Int32} (hm : MR A C z T) (hR : Rn A S T w r p) (hww : T.1 29 7 = -1) (hne : p ≠ A 5 r.toNatClampNeg) : ∃ T1, G_124 T r p = some ((ins (bt A r.toNatClampNeg) p).2, T1) ∧ Hd A C z T T1 w r p (ins (bt A r.toNatClampNeg) p).2 := by
  obtain ⟨h0, h1, h2, h3, h4, h5, h6⟩ := hR.pl.at hw hne
  obtain ⟨q, T1, a1, a2, a3, a4⟩ := M_124 hw (show 0 ≤ r by have := hR.pl.1; grind) hR.pl.2.1 hm h0 h1 hww
  have a4 := a4 h2
  subst a4
  have un : T1.1 29 34 = Int32.ofNat (w + 1) := by rw [a2.1 29 34 (by omega) (by omega) (by omega) (by omega)]; exact hR.un
  refine ⟨T1, a1, a2, hm.pf a2, by rw [a3, h2], un, ?_, ?_⟩
  · exact (hm.pf a2).up (c := 56) (k := w) (by unfold mpv; omega) _
  · rw [xa_c (by omega)]; exact un
theorem C_st (hw : WF A) {S T : St} {w : Nat} {r p : Int32} (hc : CR A M S) (hR : Rn A S T w r p) (h0 : 0 ≤ p) (h1 : p < A 5 r.toNatClampNeg) : G_76 S = some (bt A r.toNatClampNeg p, ca S (p + 1)) := by
  have hr := tn4 (show 0 ≤ r by have := hR.pl.1; grind) hR.pl.2.1
  have := C_76 hw hc hr hR.lg h0 h1
  rw [← hR.at', ca_id] at this
  rw [← hR.at']
  exact this
/-- the two states after a step that only moves on, with some change of the world -/
theorem Out.of {A' : Ab} {S S' T T1 T' : St} {w : Nat} {r p q : Int32} (hR : Rn A S T w r p) (hH : Hd A C z T T1 w r p q) (hc : CR A' M S') (hm : MR A' C z T') (hw : WF A') (hre : RE A A') (e4 : A' 0 4 = A 0 4) (e0 : A' 0 0 = A 0 0) (hpl : Pl A r q) (s1 : S'.2 = S.2) (s2 : ∀ k, k ≠ 4 → k ≠ 6 → S'.1 23 k = S.1 23 k) (s4 : S'.1 23 4 = q) (s5 : ∀ i, S'.1 25 i = S.1 25 i) (t1 : ∀ k, (k = 7 ∨ k = 34) → T'.1 29 k = T1.1 29 k) (t2 : ∀ i, T'.1 55 i = T1.1 55 i) (t3 : ∀ i, T'.1 56 i = xa_u T1.1 56 w q 56 i) : Out M C z A w 0 A' S' T' := by
  refine ⟨hc, hm, hw, by rw [t1 7 (Or.inl rfl)]; exact hH.w7, hre, e4, e0, fun _ => Or.inl ⟨w, r, q, ?_, by omega⟩⟩
  refine hR.mv hre hpl s1 (s2 2 (by omega) (by omega)) (s2 5 (by omega) (by omega)) s4 s5 ?_ (fun i => ?_) ?_ (fun i hi => ?_)
  · rw [t1 34 (Or.inr rfl)]; exact hH.pf.1 29 34 (by omega) (by omega) (by omega) (by omega)
  · rw [t2 i]; exact hH.pf.1 55 i (by omega) (by omega) (by omega) (by omega)
  · rw [t3 w, xa_e]
  · rw [t3 i, xa_c (by omega)]; exact hH.pf.1 56 i (by omega) (by omega) (by omega) (by omega)
end
