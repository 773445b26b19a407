/-! The pure part (19f.draw): both halves answer alike -/
/-! drawing -/
def dA (A : Ab) (pc pk : Int32) (j : Nat) : Ab := if pc = -1 then (if pk = -1 then A else xa_u A 2 j pk) else (if pk = -1 then xa_u A 1 j pc else xa_u (xa_u A 1 j pc) 2 j pk)
def DF (S S' : St) : Prop := (∀ c k, c ≠ 3 → c ≠ 4 → S'.1 c k = S.1 c k) ∧ S'.2 = S.2
def DM (T T' : St) : Prop := (∀ c k, c ≠ 30 → c ≠ 31 → T'.1 c k = T.1 c k) ∧ T'.2 = T.2
theorem DF.refl (S : St) : DF S S := ⟨fun _ _ _ _ => rfl, rfl⟩
theorem DM.refl (S : St) : DM S S := ⟨fun _ _ _ _ => rfl, rfl⟩
theorem DF.trans {S U V : St} (h : DF S U) (g : DF U V) : DF S V := ⟨fun c k a b => (g.1 c k a b).trans (h.1 c k a b), g.2.trans h.2⟩
theorem DM.trans {S U V : St} (h : DM S U) (g : DM U V) : DM S V := ⟨fun c k a b => (g.1 c k a b).trans (h.1 c k a b), g.2.trans h.2⟩
theorem DF.u {S : St} {c k : Nat} (v : Int32) (h : c = 3 ∨ c = 4) : DF S (xa_u S.1 c k v, S.2) := ⟨fun c' k' a b => xa_c (by omega), rfl⟩
theorem DM.u {S : St} {c k : Nat} (v : Int32) (h : c = 30 ∨ c = 31) : DM S (xa_u S.1 c k v, S.2) := ⟨fun c' k' a b => xa_c (by omega), rfl⟩
theorem WF.d0 {A : Ab} (h : WF A) (pc pk : Int32) (j : Nat) : WF (dA A pc pk j) := by
  unfold dA
  split
  · split
    · exact h
    · exact h.u12 (Or.inr rfl)
  · split
    · exact h.u12 (Or.inl rfl)
    · exact (h.u12 (Or.inl rfl)).u12 (Or.inr rfl)
section
variable {A M C : Ab} {z : Option Nat × (Nat → Option Nat)}
theorem C_43 {S : St} (hc : CR A M S) {pc pk x : Int32} (h1 : S.1 2 5 = pc) (h2 : S.1 2 6 = pk) (h0 : 0 ≤ x) (hx : x < 192) : ∃ S', G_43 S x = some ((), S') ∧ CR (dA A pc pk x.toNatClampNeg) M S' ∧ DF S S' := by
  have hj := tn192 h0 hx
  have r6 : ∀ v, xa_u S.1 3 x.toNatClampNeg v 2 6 = pk := fun v => by rw [xa_c (by omega)]; exact h2
  unfold G_43 dA
  rw [if_neg (show ¬ x < 0 by grind), if_pos hx, h1, h2]
  simp only [r6, if_pos ((xin192 x).mpr ⟨h0, hx⟩)]
  by_cases q1 : pc = -1
  · rw [if_pos q1, if_pos q1]
    by_cases q2 : pk = -1
    · rw [if_pos q2, if_pos q2]; exact ⟨S, rfl, hc, DF.refl S⟩
    · rw [if_neg q2, if_neg q2]; exact ⟨_, rfl, hc.uctl hj pk, DF.u _ (by omega)⟩
  · rw [if_neg q1, if_neg q1]
    by_cases q2 : pk = -1
    · rw [if_pos q2, if_pos q2]; exact ⟨_, rfl, hc.ucol hj pc, DF.u _ (by omega)⟩
    · rw [if_neg q2, if_neg q2]; exact ⟨_, rfl, (hc.ucol hj pc).uctl hj pk, (DF.u (c := 3) (k := x.toNatClampNeg) pc (by omega)).trans (DF.u _ (by omega))⟩
theorem M_140 {T : St} (hm : MR A C z T) {pc pk x y : Int32} (h1 : T.1 29 13 = pc) (h2 : T.1 29 14 = pk) (g1 : -1 ≤ pc) (g2 : -1 ≤ pk) (h0 : 0 ≤ 16 * y + x) (hx : 16 * y + x < 192) : ∃ T', G_140 T x y = some ((), T') ∧ MR (dA A pc pk (16 * y + x).toNatClampNeg) C z T' ∧ DM T T' := by
  have hj := tn192 h0 hx
  have r14 : ∀ v, xa_u T.1 30 (16 * y + x).toNatClampNeg v 29 14 = pk := fun v => by rw [xa_c (by omega)]; exact h2
  unfold G_140 dA
  rw [h1]
  simp only [r14, xa_id, if_pos ((xin192 _).mpr ⟨h0, hx⟩), h2]
  by_cases q1 : pc = -1
  · rw [if_pos (show pc < 0 by grind), if_pos q1]
    by_cases q2 : pk = -1
    · rw [if_pos (show pk < 0 by grind), if_pos q2]; exact ⟨T, rfl, hm, DM.refl T⟩
    · rw [if_neg (show ¬ pk < 0 by grind), if_neg q2]; exact ⟨_, rfl, hm.uctl hj pk, DM.u _ (by omega)⟩
  · rw [if_neg (show ¬ pc < 0 by grind), if_neg q1]
    by_cases q2 : pk = -1
    · rw [if_pos (show pk < 0 by grind), if_pos q2]; exact ⟨_, rfl, hm.ucol hj pc, DM.u _ (by omega)⟩
    · rw [if_neg (show ¬ pk < 0 by grind), if_neg q2]; exact ⟨_, rfl, (hm.ucol hj pc).uctl hj pk, (DM.u (c := 30) (k := (16 * y + x).toNatClampNeg) pc (by omega)).trans (DM.u _ (by omega))⟩
/-- both with their pens -/
def DR (A M C : Ab) (z : Option Nat × (Nat → Option Nat)) (S T : St) (pc pk : Int32) : Prop :=
  (WF A) ∧
  (CR A M S) ∧
  (MR A C z T) ∧
  (S.1 2 5 = pc) ∧
  (S.1 2 6 = pk) ∧
  (T.1 29 13 = pc) ∧
  (T.1 29 14 = pk) ∧
  (-1 ≤ pc) ∧
  (-1 ≤ pk)
theorem DR.w {A M C : Ab} {z : Option Nat × (Nat → Option Nat)} {S T : St} {pc pk : Int32} (h : DR A M C z S T pc pk) : WF A := h.1
theorem DR.c {A M C : Ab} {z : Option Nat × (Nat → Option Nat)} {S T : St} {pc pk : Int32} (h : DR A M C z S T pc pk) : CR A M S := h.2.1
theorem DR.m {A M C : Ab} {z : Option Nat × (Nat → Option Nat)} {S T : St} {pc pk : Int32} (h : DR A M C z S T pc pk) : MR A C z T := h.2.2.1
theorem DR.p1 {A M C : Ab} {z : Option Nat × (Nat → Option Nat)} {S T : St} {pc pk : Int32} (h : DR A M C z S T pc pk) : S.1 2 5 = pc := h.2.2.2.1
theorem DR.p2 {A M C : Ab} {z : Option Nat × (Nat → Option Nat)} {S T : St} {pc pk : Int32} (h : DR A M C z S T pc pk) : S.1 2 6 = pk := h.2.2.2.2.1
theorem DR.p3 {A M C : Ab} {z : Option Nat × (Nat → Option Nat)} {S T : St} {pc pk : Int32} (h : DR A M C z S T pc pk) : T.1 29 13 = pc := h.2.2.2.2.2.1
theorem DR.p4 {A M C : Ab} {z : Option Nat × (Nat → Option Nat)} {S T : St} {pc pk : Int32} (h : DR A M C z S T pc pk) : T.1 29 14 = pk := h.2.2.2.2.2.2.1
theorem DR.g1 {A M C : Ab} {z : Option Nat × (Nat → Option Nat)} {S T : St} {pc pk : Int32} (h : DR A M C z S T pc pk) : -1 ≤ pc := h.2.2.2.2.2.2.2.1
theorem DR.g2 {A M C : Ab} {z : Option Nat × (Nat → Option Nat)} {S T : St} {pc pk : Int32} (h : DR A M C z S T pc pk) : -1 ≤ pk := h.2.2.2.2.2.2.2.2
theorem DR.next {A' : Ab} {S T S' T' : St} {pc pk : Int32} (h : DR A M C z S T pc pk) (hw : WF A') (hc : CR A' M S') (hm : MR A' C z T') (d1 : DF S S') (d2 : DM T T') : DR A' M C z S' T' pc pk :=
  ⟨hw, hc, hm, by rw [d1.1 2 5 (by omega) (by omega)]; exact h.p1, by rw [d1.1 2 6 (by omega) (by omega)]; exact h.p2, by rw [d2.1 29 13 (by omega) (by omega)]; exact h.p3, by rw [d2.1 29 14 (by omega) (by omega)]; exact h.p4, h.g1, h.g2⟩
theorem draw_b {S T : St} {pc pk x y : Int32} (h : DR A M C z S T pc pk) (ho : onS x y) : ∃ A' S' T', G_43 S (y * 16 + x) = some ((), S') ∧ G_140 T x y = some ((), T') ∧ DR A' M C z S' T' pc pk ∧ DF S S' ∧ DM T T' ∧ RE A A' := by
  have ho' := ho
  unfold onS at ho'
  have e : y * 16 + x = 16 * y + x := by rw [Int32.mul_comm]
  have hi : 0 ≤ 16 * y + x ∧ 16 * y + x < 192 := by grind
  rw [e]
  obtain ⟨S', a1, a2, a3⟩ := C_43 h.c h.p1 h.p2 hi.1 hi.2
  obtain ⟨T', b1, b2, b3⟩ := M_140 h.m h.p3 h.p4 h.g1 h.g2 hi.1 hi.2
  refine ⟨_, S', T', a1, b1, h.next (h.w.d0 _ _ _) a2 b2 a3 b3, a3, b3, ?_⟩
  unfold dA
  split
  · split
    · exact RE.refl _
    · exact RE.u _ (by unfold rsc; omega)
  · split
    · exact RE.u _ (by unfold rsc; omega)
    · exact (RE.u _ (by unfold rsc; omega)).trans (RE.u _ (by unfold rsc; omega))
end
/-! lines -/
theorem imul {x y : Int32} (h1 : -2147483648 ≤ x.toInt * y.toInt) (h2 : x.toInt * y.toInt < 2147483648) : (x * y).toInt = x.toInt * y.toInt := by
  rw [Int32.toInt_mul]; apply Int.bmod_eq_of_le <;> omega
theorem isub {x y : Int32} (h1 : -2147483648 ≤ x.toInt - y.toInt) (h2 : x.toInt - y.toInt < 2147483648) : (x - y).toInt = x.toInt - y.toInt := by
  rw [Int32.toInt_sub]; apply Int.bmod_eq_of_le <;> omega
theorem ineg {x : Int32} (h1 : -2147483647 ≤ x.toInt) : (-x).toInt = -x.toInt := by
  have := Int32.toInt_lt x
  rw [Int32.toInt_neg]; apply Int.bmod_eq_of_le <;> omega
theorem idiv {x y : Int32} (h1 : -2147483647 ≤ x.toInt) (hy : 0 < y.toInt) : (x / y).toInt = x.toInt.tdiv y.toInt := by
  have := Int32.toInt_lt x
  rw [Int32.toInt_div]
  have h : x.toInt.natAbs.div y.toInt.natAbs ≤ x.toInt.natAbs := Nat.div_le_self _ _
  have e : (x.toInt.tdiv y.toInt).natAbs = x.toInt.natAbs / y.toInt.natAbs := Int.natAbs_tdiv _ _
  have : (x.toInt.tdiv y.toInt).natAbs ≤ x.toInt.natAbs := by rw [e]; exact Nat.div_le_self _ _
  apply Int.bmod_eq_of_le <;> omega
/-- both divisions round down -/
theorem V_4 {S : St} {x y : Int32} (h1 : -100000 ≤ x.toInt) (h2 : x.toInt ≤ 100000) (hy : 0 < y.toInt) (hy2 : y.toInt ≤ 1000) : ∃ q, G_4 S x y = some (q, S) ∧ q.toInt = x.toInt / y.toInt := by
  have hy0 : y ≠ 0 := fun h => by rw [h] at hy; revert hy; decide
  have hd := idiv (x := x) (by omega) hy
  have hyp : 0 ≤ y := by rw [Int32.le_iff_toInt_le]; have h00 : (0 : Int32).toInt = 0 := rfl; omega
  have b1 : (x.toInt.tdiv y.toInt).natAbs ≤ x.toInt.natAbs := by rw [Int.natAbs_tdiv]; exact Nat.div_le_self _ _
  have hxor : (0 ≤ x ^^^ y) ↔ 0 ≤ x := by
    have hb : ∀ v : Int32, 0 ≤ v ↔ v.toBitVec.msb = false := by
      intro v
      rw [Int32.le_iff_toInt_le, show (0 : Int32).toInt = 0 from rfl]
      show 0 ≤ v.toBitVec.toInt ↔ _
      rw [BitVec.msb_eq_toInt]
      simp
    rw [hb, hb, Int32.toBitVec_xor, BitVec.msb_xor, (hb y).mp hyp, Bool.xor_false]
  unfold G_4
  rw [if_neg hy0]
  by_cases hx : 0 ≤ x
  · rw [if_pos (hxor.mpr hx)]
    refine ⟨_, rfl, ?_⟩
    rw [hd]
    have := ile hx
    have h00 : (0 : Int32).toInt = 0 := rfl
    exact Int.tdiv_eq_ediv_of_nonneg (by omega)
  · rw [if_neg (fun h => hx (hxor.mp h))]
    have hxn : x.toInt < 0 := by rw [Int32.le_iff_toInt_le, show (0 : Int32).toInt = 0 from rfl] at hx; omega
    have ht : x.toInt.tdiv y.toInt = -((-x.toInt) / y.toInt) := by
      rw [← Int.neg_neg x.toInt, Int.neg_tdiv, Int.tdiv_eq_ediv_of_nonneg (by omega), Int.neg_neg]
    have hm : (x / y * y).toInt = x.toInt.tdiv y.toInt * y.toInt := by
      rw [imul] <;> rw [hd]
      · have e := Int.mul_tdiv_add_tmod x.toInt y.toInt
        have e2 : (x.toInt.tmod y.toInt).natAbs ≤ x.toInt.natAbs := by rw [Int.natAbs_tmod]; exact Nat.mod_le _ _
        rw [Int.mul_comm]; omega
      · have e := Int.mul_tdiv_add_tmod x.toInt y.toInt
        have e2 : (x.toInt.tmod y.toInt).natAbs ≤ x.toInt.natAbs := by rw [Int.natAbs_tmod]; exact Nat.mod_le _ _
        rw [Int.mul_comm]; omega
    have k1 := Int.mul_ediv_add_emod (-x.toInt) y.toInt
    have k2 := Int.emod_nonneg (-x.toInt) (show y.toInt ≠ 0 by omega)
    have k3 := Int.emod_lt_of_pos (-x.toInt) hy
    by_cases q : x / y * y = x
    · rw [if_pos q]
      refine ⟨_, rfl, ?_⟩
      rw [hd]
      have q' : x.toInt.tdiv y.toInt * y.toInt = x.toInt := by rw [← hm, q]
      exact (Int.ediv_eq_of_eq_mul_left (by omega) q'.symm).symm
    · rw [if_neg q]
      refine ⟨_, rfl, ?_⟩
      have q' : x.toInt.tdiv y.toInt * y.toInt ≠ x.toInt := fun h => q (Int32.toInt_inj.mp (by rw [hm, h]))
      have h1 : (1 : Int32).toInt = 1 := rfl
      rw [isub] <;> rw [hd, h1]
      · rw [ht] at q' ⊢
        have hne : (-x.toInt) % y.toInt ≠ 0 := fun h => by
          apply q'
          rw [h] at k1
          have : y.toInt * ((-x.toInt) / y.toInt) = -x.toInt := by omega
          rw [Int.neg_mul, Int.mul_comm, this]; omega
        symm
        rw [Int.ediv_eq_iff_of_pos hy]
        generalize (-x.toInt) / y.toInt = d at *
        rw [Int.mul_comm] at k1
        constructor
        · have e : (-d - 1) * y.toInt = -(d * y.toInt) - y.toInt := by rw [Int.sub_mul, Int.neg_mul, Int.one_mul]
          omega
        · have e : (-d - 1) * y.toInt = -(d * y.toInt) - y.toInt := by rw [Int.sub_mul, Int.neg_mul, Int.one_mul]
          omega
      · omega
      · omega
theorem V_142 {S : St} {x y : Int32} (h1 : -100000 ≤ x.toInt) (h2 : x.toInt ≤ 100000) (hy : 0 < y.toInt) (hy2 : y.toInt ≤ 1000) : ∃ q, G_142 S x y = some (q, S) ∧ q.toInt = x.toInt / y.toInt := by
  have hy0 : y ≠ 0 := fun h => by rw [h] at hy; revert hy; decide
  have h00 : (0 : Int32).toInt = 0 := rfl
  have h11 : (1 : Int32).toInt = 1 := rfl
  unfold G_142
  rw [if_neg hy0, if_neg hy0]
  by_cases hx : x < 0
  · rw [if_pos hx]
    refine ⟨_, rfl, ?_⟩
    have hxn := ilt hx
    have e1 : (y - 1).toInt = y.toInt - 1 := by rw [isub] <;> rw [h11] <;> omega
    have e2 : (y - 1 - x).toInt = y.toInt - 1 - x.toInt := by rw [isub] <;> rw [e1] <;> omega
    have e3 : ((y - 1 - x) / y).toInt = (y.toInt - 1 - x.toInt) / y.toInt := by
      rw [idiv (by omega) hy, e2, Int.tdiv_eq_ediv_of_nonneg (by omega)]
    have b1 : 0 ≤ (y.toInt - 1 - x.toInt) / y.toInt := Int.ediv_nonneg (by omega) (by omega)
    rw [ineg (by rw [e3]; omega), e3]
    symm
    rw [Int.ediv_eq_iff_of_pos hy]
    have k1 := Int.mul_ediv_add_emod (y.toInt - 1 - x.toInt) y.toInt
    have k2 := Int.emod_nonneg (y.toInt - 1 - x.toInt) (show y.toInt ≠ 0 by omega)
    have k3 := Int.emod_lt_of_pos (y.toInt - 1 - x.toInt) hy
    generalize (y.toInt - 1 - x.toInt) / y.toInt = d at *
    rw [Int.mul_comm] at k1
    have e : (-d) * y.toInt = -(d * y.toInt) := Int.neg_mul _ _
    omega
  · rw [if_neg hx]
    refine ⟨_, rfl, ?_⟩
    have hxn : 0 ≤ x.toInt := by rw [Int32.lt_iff_toInt_lt] at hx; omega
    rw [idiv (by omega) hy, Int.tdiv_eq_ediv_of_nonneg hxn]
/-- the i-th point of a line lies between its ends -/
theorem mid {i n d : Int} (hi : 0 ≤ i) (hn : i ≤ n) (h0 : 0 < n) : (0 ≤ d → 0 ≤ (2 * i * d + n) / (2 * n) ∧ (2 * i * d + n) / (2 * n) ≤ d) ∧ (d ≤ 0 → d ≤ (2 * i * d + n) / (2 * n) ∧ (2 * i * d + n) / (2 * n) ≤ 0) := by
  have h2n : 0 < 2 * n := by omega
  have e1 : (2 * n * d + n) / (2 * n) = d := by
    rw [Int.ediv_eq_iff_of_pos h2n]
    rw [Int.mul_comm d (2 * n)]
    constructor <;> omega
  have e0 : n / (2 * n) = 0 := Int.ediv_eq_zero_of_lt (by omega) (by omega)
  refine ⟨fun hd => ?_, fun hd => ?_⟩
  · have m1 : 0 ≤ i * d := Int.mul_nonneg hi hd
    have m2 : i * d ≤ n * d := Int.mul_le_mul_of_nonneg_right hn hd
    refine ⟨Int.ediv_nonneg (by rw [Int.mul_assoc]; omega) (by omega), ?_⟩
    rw [← e1]
    conv => lhs; rw [e1]
    exact Int.ediv_le_ediv h2n (by rw [Int.mul_assoc, Int.mul_assoc]; omega)
  · have m1 : i * d ≤ 0 := by
      have := Int.mul_nonneg hi (show 0 ≤ -d by omega)
      rw [Int.mul_neg] at this; omega
    have m2 : n * d ≤ i * d := by
      have := Int.mul_le_mul_of_nonneg_right hn (show 0 ≤ -d by omega)
      rw [Int.mul_neg, Int.mul_neg] at this; omega
    constructor
    · have := Int.ediv_le_ediv h2n (show 2 * n * d + n ≤ 2 * i * d + n by rw [Int.mul_assoc, Int.mul_assoc]; omega)
      rw [e1] at this; exact this
    · have := Int.ediv_le_ediv h2n (show 2 * i * d + n ≤ n by rw [Int.mul_assoc]; omega)
      rw [e0] at this; exact this
section
variable {A M C : Ab} {z : Option Nat × (Nat → Option Nat)}
theorem pnt {i n d : Int32} (hi : 0 ≤ i.toInt) (hin : i.toInt ≤ n.toInt) (hn : 0 < n.toInt) (hn2 : n.toInt ≤ 20) (hd : -20 ≤ d.toInt) (hd2 : d.toInt ≤ 20) : (2 * i * d + n).toInt = 2 * i.toInt * d.toInt + n.toInt ∧ (2 * n).toInt = 2 * n.toInt ∧ -100000 ≤ (2 * i * d + n).toInt ∧ (2 * i * d + n).toInt ≤ 100000 := by
  have h2 : (2 : Int32).toInt = 2 := rfl
  have e1 : (2 * i).toInt = 2 * i.toInt := by rw [imul] <;> rw [h2] <;> omega
  have b1 : -400 ≤ i.toInt * d.toInt ∧ i.toInt * d.toInt ≤ 400 := by
    have a := Int.mul_le_mul_of_nonneg_left hd2 hi
    have b := Int.mul_le_mul_of_nonneg_left hd hi
    have c : i.toInt * -20 = -(20 * i.toInt) := by rw [Int.mul_neg, Int.mul_comm]
    have e : i.toInt * 20 = 20 * i.toInt := Int.mul_comm _ _
    omega
  have e2 : (2 * i * d).toInt = 2 * i.toInt * d.toInt := by
    rw [imul] <;> rw [e1, Int.mul_assoc] <;> omega
  have e3 : (2 * i * d + n).toInt = 2 * i.toInt * d.toInt + n.toInt := by
    rw [iadd] <;> rw [e2, Int.mul_assoc] <;> omega
  have e4 : (2 * n).toInt = 2 * n.toInt := by rw [imul] <;> rw [h2] <;> omega
  rw [e3]
  refine ⟨rfl, e4, ?_, ?_⟩ <;> rw [Int.mul_assoc] <;> omega
theorem onI {x y : Int32} : onS x y ↔ (0 ≤ x.toInt ∧ x.toInt < 16 ∧ 0 ≤ y.toInt ∧ y.toInt < 12) := by
  unfold onS
  rw [Int32.le_iff_toInt_le, Int32.lt_iff_toInt_lt, Int32.le_iff_toInt_le, Int32.lt_iff_toInt_lt]
  exact Iff.rfl
theorem line_l {x1 y1 x2 y2 n : Int32} {pc pk : Int32} (h1 : onS x1 y1) (h2 : onS x2 y2) (hn0 : 0 ≤ n) (hn : n.toInt ≤ 20) (hdx : -n.toInt ≤ x2.toInt - x1.toInt ∧ x2.toInt - x1.toInt ≤ n.toInt) : ∀ (i : Int32) (f : Nat), 1 ≤ i → i ≤ n + 1 → ((n + 1).toInt - i.toInt) < f → ∀ g : Nat, ((n + 1).toInt - i.toInt) < g → ∀ (A : Ab) (S T : St), DR A M C z S T pc pk → ∃ A' S' T', GL_44_0 f S x1 y1 x2 y2 n i = some ((), S') ∧ GL_141_0 g T x1 y1 x2 y2 n i = some ((), T') ∧ DR A' M C z S' T' pc pk ∧ DF S S' ∧ DM T T' ∧ RE A A' := by
  have h11 : (1 : Int32).toInt = 1 := rfl
  have h00 : (0 : Int32).toInt = 0 := rfl
  have ln0 := ile hn0
  have en : (n + 1).toInt = n.toInt + 1 := by rw [iadd] <;> rw [h11] <;> omega
  refine up_ind (P := fun i f => ∀ g : Nat, ((n + 1).toInt - i.toInt) < g → ∀ (A : Ab) (S T : St), DR A M C z S T pc pk → ∃ A' S' T', GL_44_0 f S x1 y1 x2 y2 n i = some ((), S') ∧ GL_141_0 g T x1 y1 x2 y2 n i = some ((), T') ∧ DR A' M C z S' T' pc pk ∧ DF S S' ∧ DM T T' ∧ RE A A') ?_ ?_
  · intro f g hg A S T hd
    obtain ⟨g, rfl⟩ : ∃ g', g = g' + 1 := ⟨g - 1, by omega⟩
    have hlt : n < n + 1 := by rw [Int32.lt_iff_toInt_lt, en]; omega
    exact ⟨A, S, T, by rw [GL_44_0, if_pos hlt], by rw [GL_141_0, if_pos hlt], hd, DF.refl S, DM.refl T, RE.refl A⟩
  · intro i f i1 i2 ih g hg A S T hd
    have li := ile i1
    have li2 := ilt i2
    obtain ⟨g, rfl⟩ : ∃ g', g = g' + 1 := ⟨g - 1, by omega⟩
    have ei : (i + 1).toInt = i.toInt + 1 := by rw [iadd] <;> rw [h11] <;> omega
    have nlt : ¬ n < i := by rw [Int32.lt_iff_toInt_lt]; omega
    have nle : ¬ n ≤ 0 := by rw [Int32.le_iff_toInt_le]; omega
    have o1 := onI.mp h1
    have o2 := onI.mp h2
    have ex : (x2 - x1).toInt = x2.toInt - x1.toInt := by rw [isub] <;> omega
    have ey : (y2 - y1).toInt = y2.toInt - y1.toInt := by rw [isub] <;> omega
    obtain ⟨px1, px2, px3, px4⟩ := pnt (i := i) (n := n) (d := x2 - x1) (by omega) (by omega) (by omega) hn (by rw [ex]; omega) (by rw [ex]; omega)
    obtain ⟨py1, py2, py3, py4⟩ := pnt (i := i) (n := n) (d := y2 - y1) (by omega) (by omega) (by omega) hn (by rw [ey]; omega) (by rw [ey]; omega)
    obtain ⟨qx, cx, vx⟩ := V_4 (S := S) px3 px4 (y := 2 * n) (by rw [px2]; omega) (by rw [px2]; omega)
    obtain ⟨qy, cy, vy⟩ := V_4 (S := S) py3 py4 (y := 2 * n) (by rw [py2]; omega) (by rw [py2]; omega)
    obtain ⟨rx, mx, wx⟩ := V_142 (S := T) px3 px4 (y := 2 * n) (by rw [px2]; omega) (by rw [px2]; omega)
    obtain ⟨ry, my, wy⟩ := V_142 (S := T) py3 py4 (y := 2 * n) (by rw [py2]; omega) (by rw [py2]; omega)
    have erx : rx = qx := Int32.toInt_inj.mp (by rw [vx, wx])
    have ery : ry = qy := Int32.toInt_inj.mp (by rw [vy, wy])
    subst erx
    subst ery
    rw [px1, px2, ex] at vx
    rw [py1, py2, ey] at vy
    have mdx := mid (i := i.toInt) (n := n.toInt) (d := x2.toInt - x1.toInt) (by omega) (by omega) (by omega)
    have mdy := mid (i := i.toInt) (n := n.toInt) (d := y2.toInt - y1.toInt) (by omega) (by omega) (by omega)
    rw [← vx] at mdx
    rw [← vy] at mdy
    have eax : (x1 + rx).toInt = x1.toInt + rx.toInt := by rw [iadd] <;> omega
    have eay : (y1 + ry).toInt = y1.toInt + ry.toInt := by rw [iadd] <;> omega
    have ho : onS (x1 + rx) (y1 + ry) := by rw [onI, eax, eay]; omega
    obtain ⟨A1, S1, T1, a1, a2, a3, a4, a5, a6⟩ := draw_b hd ho
    obtain ⟨A2, S2, T2, b1, b2, b3, b4, b5, b6⟩ := ih g (by rw [ei]; omega) A1 S1 T1 a3
    refine ⟨A2, S2, T2, ?_, ?_, b3, a4.trans b4, a5.trans b5, a6.trans b6⟩
    · rw [GL_44_0, if_neg nlt]
      simp only [cx, cy, a1]
      exact b1
    · rw [GL_141_0, if_neg nlt, if_neg nle]
      simp only [mx, my, a2]
      exact b2
theorem line_core {A1 : Ab} {S T S1 T1 : St} {x1 y1 x2 y2 pc pk : Int32} (a1 : G_43 S (y1 * 16 + x1) = some ((), S1)) (a2 : G_140 T x1 y1 = some ((), T1)) (a3 : DR A1 M C z S1 T1 pc pk) (a4 : DF S S1) (a5 : DM T T1) (a6 : RE A A1) (h1 : onS x1 y1) (h2 : onS x2 y2) : ∃ A' S' T', G_44 S x1 y1 x2 y2 = some ((), S') ∧ G_141 T x1 y1 x2 y2 = some ((), T') ∧ DR A' M C z S' T' pc pk ∧ DF S S' ∧ DM T T' ∧ RE A A' := by
  have h11 : (1 : Int32).toInt = 1 := rfl
  have h00 : (0 : Int32).toInt = 0 := rfl
  have o1 := onI.mp h1
  have o2 := onI.mp h2
  have ex : (x2 - x1).toInt = x2.toInt - x1.toInt := by rw [isub] <;> omega
  have ey : (y2 - y1).toInt = y2.toInt - y1.toInt := by rw [isub] <;> omega
  have ex' : (x1 - x2).toInt = x1.toInt - x2.toInt := by rw [isub] <;> omega
  have ey' : (y1 - y2).toInt = y1.toInt - y2.toInt := by rw [isub] <;> omega
  -- the number of steps
  have hN : ∃ n : Int32, 0 ≤ n ∧ n.toInt ≤ 20 ∧ (-n.toInt ≤ x2.toInt - x1.toInt ∧ x2.toInt - x1.toInt ≤ n.toInt) ∧ (G_44 S x1 y1 x2 y2 = (match G_43 S (y1 * 16 + x1) with
      | none => none
      | some (v8, S8) => GL_44_0 xFu S8 x1 y1 x2 y2 n 1)) ∧ (G_141 T x1 y1 x2 y2 = (if n = 0 then (match G_140 T x1 y1 with
        | none => none
        | some (v10, S10) => GL_141_0 xFu S10 x1 y1 x2 y2 n 0) else GL_141_0 xFu T x1 y1 x2 y2 n 0)) := by
    have ax : ∃ ax : Int32, (if 0 ≤ x2 - x1 then x2 - x1 else -(x2 - x1)) = ax ∧ ax.toInt = (x2.toInt - x1.toInt).natAbs ∧ (if x2 ≤ x1 then ax = x1 - x2 else ax = x2 - x1) := by
      by_cases q : x2 ≤ x1
      · have lq := ile q
        refine ⟨x1 - x2, ?_, by rw [ex']; omega, by rw [if_pos q]⟩
        by_cases q0 : 0 ≤ x2 - x1
        · rw [if_pos q0]
          have := ile q0
          exact Int32.toInt_inj.mp (by rw [ex, ex']; omega)
        · rw [if_neg q0]
          exact Int32.toInt_inj.mp (by rw [ineg (by rw [ex]; omega), ex, ex']; omega)
      · have lq : x1.toInt < x2.toInt := by rw [Int32.le_iff_toInt_le] at q; omega
        refine ⟨x2 - x1, ?_, by rw [ex]; omega, by rw [if_neg q]⟩
        rw [if_pos (show 0 ≤ x2 - x1 by rw [Int32.le_iff_toInt_le, ex]; omega)]
    have ay : ∃ ay : Int32, (if 0 ≤ y2 - y1 then y2 - y1 else -(y2 - y1)) = ay ∧ ay.toInt = (y2.toInt - y1.toInt).natAbs ∧ (if y2 ≤ y1 then ay = y1 - y2 else ay = y2 - y1) := by
      by_cases q : y2 ≤ y1
      · have lq := ile q
        refine ⟨y1 - y2, ?_, by rw [ey']; omega, by rw [if_pos q]⟩
        by_cases q0 : 0 ≤ y2 - y1
        · rw [if_pos q0]
          have := ile q0
          exact Int32.toInt_inj.mp (by rw [ey, ey']; omega)
        · rw [if_neg q0]
          exact Int32.toInt_inj.mp (by rw [ineg (by rw [ey]; omega), ey, ey']; omega)
      · have lq : y1.toInt < y2.toInt := by rw [Int32.le_iff_toInt_le] at q; omega
        refine ⟨y2 - y1, ?_, by rw [ey]; omega, by rw [if_neg q]⟩
        rw [if_pos (show 0 ≤ y2 - y1 by rw [Int32.le_iff_toInt_le, ey]; omega)]
    obtain ⟨ax, ax1, ax2, ax3⟩ := ax
    obtain ⟨ay, ay1, ay2, ay3⟩ := ay
    have hcase : ∀ n : Int32, n = (if ax < ay then ay else ax) → (0 ≤ n ∧ n.toInt ≤ 20 ∧ (-n.toInt ≤ x2.toInt - x1.toInt ∧ x2.toInt - x1.toInt ≤ n.toInt)) := by
      intro n hn
      by_cases q : ax < ay
      · rw [if_pos q] at hn
        have := ilt q
        subst hn
        refine ⟨by rw [Int32.le_iff_toInt_le]; omega, by omega, by omega⟩
      · rw [if_neg q] at hn
        subst hn
        refine ⟨by rw [Int32.le_iff_toInt_le]; omega, by omega, by omega⟩
    have hnx := hcase _ rfl
    have le_eq : ∀ X : Option (Unit × St), ∀ Y : Option (Unit × St), (ax = ay → X = Y) → (if ax ≤ ay then X else Y) = (if ax < ay then X else Y) := by
      intro X Y h
      by_cases q : ax < ay
      · rw [if_pos q, if_pos (by grind)]
      · rw [if_neg q]
        by_cases q2 : ax ≤ ay
        · rw [if_pos q2]; exact h (by grind)
        · rw [if_neg q2]
    refine ⟨if ax < ay then ay else ax, hnx.1, hnx.2.1, hnx.2.2, ?_, ?_⟩
    · unfold G_44 G_2
      simp only [V_3, ax1, ay1]
      by_cases q : ax < ay
      · simp only [if_pos q]; rfl
      · simp only [if_neg q]; rfl
    · have main : ∀ X Y : Int32, X = ax → Y = ay → (if X ≤ Y then (if Y = 0 then (match G_140 T x1 y1 with
          | none => none
          | some (v10, S10) => GL_141_0 xFu S10 x1 y1 x2 y2 Y 0) else GL_141_0 xFu T x1 y1 x2 y2 Y 0) else (if X = 0 then (match G_140 T x1 y1 with
          | none => none
          | some (v10, S10) => GL_141_0 xFu S10 x1 y1 x2 y2 X 0) else GL_141_0 xFu T x1 y1 x2 y2 X 0)) = (if (if ax < ay then ay else ax) = 0 then (match G_140 T x1 y1 with
          | none => none
          | some (v10, S10) => GL_141_0 xFu S10 x1 y1 x2 y2 (if ax < ay then ay else ax) 0) else GL_141_0 xFu T x1 y1 x2 y2 (if ax < ay then ay else ax) 0) := by
        intro X Y hX hY
        subst hX hY
        rw [le_eq _ _ (fun h => by rw [h])]
        by_cases q : X < Y
        · simp only [if_pos q]
        · simp only [if_neg q]
      unfold G_141
      by_cases qx : x2 ≤ x1
      · rw [if_pos qx] at ax3 ⊢
        by_cases qy : y2 ≤ y1
        · rw [if_pos qy] at ay3 ⊢
          exact main _ _ ax3.symm ay3.symm
        · rw [if_neg qy] at ay3 ⊢
          exact main _ _ ax3.symm ay3.symm
      · rw [if_neg qx] at ax3 ⊢
        by_cases qy : y2 ≤ y1
        · rw [if_pos qy] at ay3 ⊢
          exact main _ _ ax3.symm ay3.symm
        · rw [if_neg qy] at ay3 ⊢
          exact main _ _ ax3.symm ay3.symm
  obtain ⟨n, hn0, hn, hdx, e1, e2⟩ := hN
  have ln0 := ile hn0
  have en : (n + 1).toInt = n.toInt + 1 := by rw [iadd] <;> rw [h11] <;> omega
  obtain ⟨A3, S3, T3, c1, c2, c3, c4, c5, c6⟩ := line_l h1 h2 hn0 hn hdx 1 xFu (by decide) (by rw [Int32.le_iff_toInt_le, en, h11]; omega) (by rw [en, h11]; unfold xFu; omega) 999999 (by rw [en, h11]; omega) A1 S1 T1 a3
  rw [e1, e2, a1]
  simp only []
  by_cases q : n = 0
  · -- a single point
    rw [if_pos q, a2]
    simp only []
    refine ⟨A1, S1, T1, ?_, ?_, a3, a4, a5, a6⟩
    · rw [show xFu = 999999 + 1 from rfl, GL_44_0, if_pos (by rw [q]; decide)]
    · rw [show xFu = 999999 + 1 from rfl, GL_141_0, if_neg (by rw [q]; decide), if_pos (by rw [q]; decide)]
  · rw [if_neg q]
    have hpos : 0 < n.toInt := by
      have : n.toInt ≠ 0 := fun h => q (Int32.toInt_inj.mp (by rw [h, h00]))
      omega
    -- the first point of the model's loop is the start
    obtain ⟨px1, px2, px3, px4⟩ := pnt (i := 0) (n := n) (d := x2 - x1) (by decide) (by rw [h00]; omega) (by omega) hn (by rw [ex]; omega) (by rw [ex]; omega)
    obtain ⟨py1, py2, py3, py4⟩ := pnt (i := 0) (n := n) (d := y2 - y1) (by decide) (by rw [h00]; omega) (by omega) hn (by rw [ey]; omega) (by rw [ey]; omega)
    obtain ⟨rx, mx, wx⟩ := V_142 (S := T) px3 px4 (y := 2 * n) (by rw [px2]; omega) (by rw [px2]; omega)
    obtain ⟨ry, my, wy⟩ := V_142 (S := T) py3 py4 (y := 2 * n) (by rw [py2]; omega) (by rw [py2]; omega)
    have z1 : rx = 0 := Int32.toInt_inj.mp (by rw [wx, px1, px2, h00, Int.mul_zero, Int.zero_mul, Int.zero_add]; exact Int.ediv_eq_zero_of_lt (by omega) (by omega))
    have z2 : ry = 0 := Int32.toInt_inj.mp (by rw [wy, py1, py2, h00, Int.mul_zero, Int.zero_mul, Int.zero_add]; exact Int.ediv_eq_zero_of_lt (by omega) (by omega))
    subst z1
    subst z2
    have q1 : x1 + 0 = x1 := by grind
    have q2 : y1 + 0 = y1 := by grind
    have q3 : (0 : Int32) + 1 = 1 := rfl
    have hm : GL_141_0 xFu T x1 y1 x2 y2 n 0 = some ((), T3) := by
      rw [show xFu = 999999 + 1 from rfl, GL_141_0, if_neg (by rw [Int32.lt_iff_toInt_lt, h00]; omega), if_neg (by rw [Int32.le_iff_toInt_le, h00]; omega)]
      simp only [mx, my, q1, q2, a2, q3]
      exact c2
    exact ⟨A3, S3, T3, c1, hm, c3, a4.trans c4, a5.trans c5, a6.trans c6⟩
theorem line_b {S T : St} {x1 y1 x2 y2 pc pk : Int32} (hd : DR A M C z S T pc pk) (h1 : onS x1 y1) (h2 : onS x2 y2) : ∃ A' S' T', G_44 S x1 y1 x2 y2 = some ((), S') ∧ G_141 T x1 y1 x2 y2 = some ((), T') ∧ DR A' M C z S' T' pc pk ∧ DF S S' ∧ DM T T' ∧ RE A A' := by
  obtain ⟨A1, S1, T1, a1, a2, a3, a4, a5, a6⟩ := draw_b hd h1
  exact line_core a1 a2 a3 a4 a5 a6 h1 h2
end
/-! fills: what is reached -/
/-- A with the pens on all cells of a set -/
noncomputable def fA (A : Ab) (R : Nat → Prop) (pc pk : Int32) : Ab := fun c j => @ite Int32 (c = 1 ∧ R j ∧ pc ≠ -1) (Classical.propDecidable _) pc (@ite Int32 (c = 2 ∧ R j ∧ pk ≠ -1) (Classical.propDecidable _) pk (A c j))
theorem fA_0 (A : Ab) (pc pk : Int32) {R : Nat → Prop} (h : ∀ j, ¬ R j) : fA A R pc pk = A := by
  funext c j; unfold fA; rw [if_neg (fun h' => h j h'.2.1), if_neg (fun h' => h j h'.2.1)]
theorem fA_ext (A : Ab) (pc pk : Int32) {R Q : Nat → Prop} (h : ∀ j, R j ↔ Q j) : fA A R pc pk = fA A Q pc pk := by
  have : R = Q := funext (fun j => propext (h j))
  rw [this]
theorem fA_d (A : Ab) (pc pk : Int32) {R Q : Nat → Prop} {k : Nat} (h : ∀ j, Q j ↔ R j ∨ j = k) : dA (fA A R pc pk) pc pk k = fA A Q pc pk := by
  funext c j
  have hQ := h j
  unfold dA
  by_cases q1 : pc = -1
  · by_cases q2 : pk = -1
    · rw [if_pos q1, if_pos q2]
      unfold fA
      grind
    · rw [if_pos q1, if_neg q2, xa_if]
      unfold fA
      grind
  · by_cases q2 : pk = -1
    · rw [if_neg q1, if_pos q2, xa_if]
      unfold fA
      grind
    · rw [if_neg q1, if_neg q2, xa_if, xa_if]
      unfold fA
      grind
theorem fA_WF {A : Ab} (h : WF A) (R : Nat → Prop) (pc pk : Int32) : WF (fA A R pc pk) ∧ RE A (fA A R pc pk) := by
  have e : ∀ c j, c ≠ 1 → c ≠ 2 → fA A R pc pk c j = A c j := fun c j h1 h2 => by unfold fA; rw [if_neg (fun h' => h1 h'.1), if_neg (fun h' => h2 h'.1)]
  have hr : RE A (fA A R pc pk) := fun r hr => ⟨(e _ _ (by omega) (by omega)).symm, (e _ _ (by omega) (by omega)).symm, fun j => (e _ _ (by omega) (by omega)).symm⟩
  refine ⟨h.of hr ?_ ?_ ?_ ?_, hr⟩
  · rw [e _ _ (by omega) (by omega)]; exact h.lim
  · intro o ho; rw [e _ _ (by omega) (by omega), e _ _ (by omega) (by omega), e _ _ (by omega) (by omega)]; exact h.act o ho
  · intro o ho; rw [e _ _ (by omega) (by omega)]; exact h.gfl o ho
  · intro j hj; rw [e _ _ (by omega) (by omega)]; exact h.flg j hj
/-- neighbours -/
def nb (j k : Nat) : Prop := (1 ≤ j % 16 ∧ k + 1 = j) ∨ (j % 16 < 15 ∧ k = j + 1) ∨ (16 ≤ j ∧ k + 16 = j) ∨ (j < 176 ∧ k = j + 16)
theorem nb_sym {j k : Nat} (hj : j < 192) (hk : k < 192) (h : nb j k) : nb k j := by unfold nb at *; omega
def Rc (O : Nat → Prop) (s j : Nat) : Prop := ∀ Q : Nat → Prop, (O s → Q s) → (∀ i k, Q i → nb i k → O k → Q k) → Q j
theorem Rc.base {O : Nat → Prop} {s : Nat} (h : O s) : Rc O s s := fun _ h0 _ => h0 h
theorem Rc.step {O : Nat → Prop} {s j k : Nat} (h : Rc O s j) (hn : nb j k) (ho : O k) : Rc O s k := fun Q h0 h1 => h1 j k (h Q h0 h1) hn ho
theorem Rc.sub {O : Nat → Prop} {s : Nat} {Q : Nat → Prop} (h0 : Q s) (h1 : ∀ j k, Q j → nb j k → O k → Q k) {j : Nat} (h : Rc O s j) : Q j := h Q (fun _ => h0) h1
theorem Rc.opn {O : Nat → Prop} {s j : Nat} (h : Rc O s j) : O s := h (fun _ => O s) (fun h => h) (fun _ _ hq _ _ => hq)
/-- counting -/
def cn (f : Nat → Bool) : Nat → Nat
  | 0 => 0
  | n + 1 => cn f n + (if f n then 1 else 0)
theorem cn_le (f : Nat → Bool) (n : Nat) : cn f n ≤ n := by
  induction n with
  | zero => exact Nat.le_refl _
  | succ n ih => rw [cn]; split <;> omega
theorem cn_pos {f : Nat → Bool} {n i : Nat} (hi : i < n) (h : f i = true) : 1 ≤ cn f n := by
  induction n with
  | zero => omega
  | succ n ih =>
    rw [cn]
    by_cases q : i = n
    · subst q; rw [if_pos h]; omega
    · have := ih (by omega); omega
theorem cn_eq {f g : Nat → Bool} {n : Nat} (h : ∀ i, i < n → f i = g i) : cn f n = cn g n := by
  induction n with
  | zero => rfl
  | succ n ih => rw [cn, cn, ih (fun i hi => h i (by omega)), h n (by omega)]
theorem cn_rm {f g : Nat → Bool} {n k : Nat} (hk : k < n) (h1 : f k = true) (h2 : g k = false) (h : ∀ i, i ≠ k → f i = g i) : cn g n + 1 = cn f n := by
  induction n with
  | zero => omega
  | succ n ih =>
    rw [cn, cn]
    by_cases q : k = n
    · subst q
      rw [cn_eq (fun i hi => (h i (by omega)).symm), h1, h2]
      simp
    · have := ih (by omega)
      rw [h n (fun e => q e.symm)]
      omega
/-! positions as ints -/
set_option maxRecDepth 20000 in
theorem pos_x : ∀ p : Nat, p < 192 → (Int32.ofNat p - Int32.ofNat p / 16 * 16 = Int32.ofNat (p % 16) ∧ Int32.ofNat p / 16 = Int32.ofNat (p / 16) ∧ (16 * (Int32.ofNat p / 16) + (Int32.ofNat p - Int32.ofNat p / 16 * 16)) = Int32.ofNat p) := by decide
theorem on_nat {a b : Nat} (ha : a < 1000) (hb : b < 1000) : onS (Int32.ofNat a) (Int32.ofNat b) ↔ a < 16 ∧ b < 12 := by
  rw [onI, ni_i (by omega), ni_i (by omega)]; omega
theorem ix_nat {a b : Nat} (ha : a < 1000) (hb : b < 1000) : Int32.ofNat b * 16 + Int32.ofNat a = Int32.ofNat (16 * b + a) := by
  have h16 : (16 : Int32) = Int32.ofNat 16 := rfl
  rw [h16, ← Int32.ofNat_mul, ← Int32.ofNat_add, Nat.mul_comm]
theorem sub1 {a : Nat} (h : 1 ≤ a) : Int32.ofNat a - 1 = Int32.ofNat (a - 1) := by
  have e : Int32.ofNat a = Int32.ofNat (a - 1) + 1 := by rw [nj_s]; congr 1; omega
  rw [e]; grind
section
variable {A M C : Ab} {z : Option Nat × (Nat → Option Nat)}
/-- the area that a fill spreads over: 1 colours, 2 controls -/
def Ar (a : Nat) (ov pc pk : Int32) : Prop :=
  (a = 1 ∧ ov = 15 ∧ pc ≠ -1 ∧ pc ≠ 15 ∨ a = 2 ∧ ov = 4 ∧ pc = -1 ∧ pk ≠ -1 ∧ pk ≠ 4)
theorem Ar.a12 {a : Nat} {ov pc pk : Int32} (h : Ar a ov pc pk) : a = 1 ∧ ov = 15 ∧ pc ≠ -1 ∧ pc ≠ 15 ∨ a = 2 ∧ ov = 4 ∧ pc = -1 ∧ pk ≠ -1 ∧ pk ≠ 4 := h
def Opn (A : Ab) (a : Nat) (ov : Int32) (j : Nat) : Prop := j < 192 ∧ A a j = ov
/-- the class's queue holds L -/
def Sp (A M : Ab) (S0 S : St) (a : Nat) (ov pc pk : Int32) (L : List Nat) : Prop :=
  (CR (fA A (· ∈ L) pc pk) M S) ∧
  (S.1 2 3 = Int32.ofNat L.length) ∧
  (∀ i (h : i < L.length), S.1 5 i = Int32.ofNat L[i]) ∧
  (S.1 2 5 = pc) ∧
  (S.1 2 6 = pk) ∧
  (cn (fun j => decide (j ∉ L)) 192 + L.length = 192) ∧
  (∀ j, j ∈ L → j < 192 ∧ A a j = ov) ∧
  (∀ c k, c ≠ 3 → c ≠ 4 → c ≠ 5 → ¬ (c = 2 ∧ k = 3) → S.1 c k = S0.1 c k) ∧
  (S.2 = S0.2)
theorem Sp.c {A M : Ab} {S0 S : St} {a : Nat} {ov pc pk : Int32} {L : List Nat} (h : Sp A M S0 S a ov pc pk L) : CR (fA A (· ∈ L) pc pk) M S := h.1
theorem Sp.n {A M : Ab} {S0 S : St} {a : Nat} {ov pc pk : Int32} {L : List Nat} (h : Sp A M S0 S a ov pc pk L) : S.1 2 3 = Int32.ofNat L.length := h.2.1
theorem Sp.q {A M : Ab} {S0 S : St} {a : Nat} {ov pc pk : Int32} {L : List Nat} (h : Sp A M S0 S a ov pc pk L) : ∀ i (h : i < L.length), S.1 5 i = Int32.ofNat L[i] := h.2.2.1
theorem Sp.p1 {A M : Ab} {S0 S : St} {a : Nat} {ov pc pk : Int32} {L : List Nat} (h : Sp A M S0 S a ov pc pk L) : S.1 2 5 = pc := h.2.2.2.1
theorem Sp.p2 {A M : Ab} {S0 S : St} {a : Nat} {ov pc pk : Int32} {L : List Nat} (h : Sp A M S0 S a ov pc pk L) : S.1 2 6 = pk := h.2.2.2.2.1
theorem Sp.cnt {A M : Ab} {S0 S : St} {a : Nat} {ov pc pk : Int32} {L : List Nat} (h : Sp A M S0 S a ov pc pk L) : cn (fun j => decide (j ∉ L)) 192 + L.length = 192 := h.2.2.2.2.2.1
theorem Sp.lt {A M : Ab} {S0 S : St} {a : Nat} {ov pc pk : Int32} {L : List Nat} (h : Sp A M S0 S a ov pc pk L) : ∀ j, j ∈ L → j < 192 ∧ A a j = ov := h.2.2.2.2.2.2.1
theorem Sp.fr {A M : Ab} {S0 S : St} {a : Nat} {ov pc pk : Int32} {L : List Nat} (h : Sp A M S0 S a ov pc pk L) : ∀ c k, c ≠ 3 → c ≠ 4 → c ≠ 5 → ¬ (c = 2 ∧ k = 3) → S.1 c k = S0.1 c k := h.2.2.2.2.2.2.2.1
theorem Sp.fz {A M : Ab} {S0 S : St} {a : Nat} {ov pc pk : Int32} {L : List Nat} (h : Sp A M S0 S a ov pc pk L) : S.2 = S0.2 := h.2.2.2.2.2.2.2.2
theorem kd34 {a : Nat} (h : a = 1 ∨ a = 2) : kd (a + 2) = (0, 192) := by rcases h with rfl | rfl <;> rfl
/-- the area's value at a cell -/
theorem Sp.val {S0 S : St} {a : Nat} {ov pc pk : Int32} {L : List Nat} (h : Sp A M S0 S a ov pc pk L) (ha : Ar a ov pc pk) {j : Nat} (hj : j < 192) : S.1 (a + 2) j = ov ↔ A a j = ov ∧ j ∉ L := by
  have hv : S.1 (a + 2) j = fA A (· ∈ L) pc pk a j := by
    rcases ha.a12 with ⟨rfl, _⟩ | ⟨rfl, _⟩
    · exact h.c.col j hj
    · exact h.c.ctl j hj
  rw [hv]
  unfold fA
  by_cases q : j ∈ L
  · rcases ha.a12 with ⟨rfl, rfl, h1, h2⟩ | ⟨rfl, rfl, h1, h2, h3⟩
    · rw [if_pos ⟨rfl, q, h1⟩]; exact ⟨fun e => absurd e h2, fun e => absurd q e.2⟩
    · rw [if_neg (fun e => absurd e.1 (by decide)), if_pos ⟨rfl, q, h2⟩]; exact ⟨fun e => absurd e h3, fun e => absurd q e.2⟩
  · rw [if_neg (fun e => q e.2.1), if_neg (fun e => q e.2.1)]
    exact ⟨fun e => ⟨e, q⟩, fun e => e.1⟩
/-- one cell is reached, or not -/
theorem C_42 {S0 S : St} {a : Nat} {ov pc pk x y : Int32} {L : List Nat} (h : Sp A M S0 S a ov pc pk L) (ha : Ar a ov pc pk) : (onS x y → A a (16 * y + x).toNatClampNeg = ov → (16 * y + x).toNatClampNeg ∉ L → ∃ S', G_42 S (a + 2) ov x y = some ((), S') ∧ Sp A M S0 S' a ov pc pk (L ++ [(16 * y + x).toNatClampNeg])) ∧ (¬ (onS x y ∧ A a (16 * y + x).toNatClampNeg = ov ∧ (16 * y + x).toNatClampNeg ∉ L) → G_42 S (a + 2) ov x y = some ((), S)) := by
  have ha2 : a = 1 ∨ a = 2 := by rcases ha.a12 with h | h; exact Or.inl h.1; exact Or.inr h.1
  have ec : y * 16 + x = 16 * y + x := by rw [Int32.mul_comm]
  have hlen : L.length ≤ 192 := by have := h.cnt; omega
  unfold G_42
  simp only [V_100o, kd34 ha2, ec, h.n]
  by_cases ho : onS x y
  · have ho' := ho
    unfold onS at ho'
    have hi : 0 ≤ 16 * y + x ∧ 16 * y + x < 192 := by grind
    have hj := tn192 hi.1 hi.2
    have hval := h.val ha hj
    have hcd : True ∧ xa_in (16 * y + x) 192 := ⟨trivial, (xin192 _).mpr hi⟩
    simp only [if_pos ho, e10, if_false]
    simp only [if_pos hcd]
    refine ⟨fun _ h1 h2 => ?_, fun hn => ?_⟩
    · have hc := cn_pos (f := fun j => decide (j ∉ L)) hj (by simp [h2])
      have hl : L.length ≤ 191 := by have := h.cnt; omega
      have hlt : Int32.ofNat L.length < 192 := by
        rw [Int32.lt_iff_toInt_lt, ni_i (by omega)]
        have : (192 : Int32).toInt = 192 := rfl
        omega
      have hin : xa_in (Int32.ofNat L.length) 192 := by
        rw [xin192]
        refine ⟨?_, hlt⟩
        rw [Int32.le_iff_toInt_le, ni_i (by omega)]
        have : (0 : Int32).toInt = 0 := rfl
        omega
      have hln : (Int32.ofNat L.length).toNatClampNeg = L.length := ni_tn (by omega)
      rw [if_pos hlt, if_pos (hval.mpr ⟨h1, h2⟩), if_pos hin, hln]
      have r3 : xa_u S.1 5 L.length (16 * y + x) 2 3 = Int32.ofNat L.length := by rw [xa_c (by omega)]; exact h.n
      rw [r3, nj_s]
      have hc1 : CR (fA A (· ∈ L) pc pk) M (xa_u (xa_u S.1 5 L.length (16 * y + x)) 2 3 (Int32.ofNat (L.length + 1)), S.2.1, S.2.2) := (h.c.up (c := 5) (k := L.length) (by unfold cpv; omega) _).up (c := 2) (k := 3) (by unfold cpv; omega) _
      have f1 : ∀ c k, ¬ (c = 2 ∧ k = 3) → c ≠ 5 → ((xa_u (xa_u S.1 5 L.length (16 * y + x)) 2 3 (Int32.ofNat (L.length + 1)), S.2.1, S.2.2) : St).1 c k = S.1 c k := fun c k a b => by
        show xa_u (xa_u S.1 5 L.length (16 * y + x)) 2 3 (Int32.ofNat (L.length + 1)) c k = S.1 c k
        rw [xa_c a, xa_c (by omega)]
      obtain ⟨S', a1, a2, a3⟩ := C_43 (pc := pc) (pk := pk) (x := 16 * y + x) hc1 (by rw [f1 _ _ (by omega) (by omega)]; exact h.p1) (by rw [f1 _ _ (by omega) (by omega)]; exact h.p2) hi.1 hi.2
      rw [a1]
      have e5 : ∀ k, S'.1 5 k = xa_u S.1 5 L.length (16 * y + x) 5 k := fun k => by
        rw [a3.1 5 k (by omega) (by omega)]
        show xa_u (xa_u S.1 5 L.length (16 * y + x)) 2 3 (Int32.ofNat (L.length + 1)) 5 k = _
        rw [xa_c (by omega)]
      have hpos : 16 * y + x = Int32.ofNat (16 * y + x).toNatClampNeg := by
        obtain ⟨k, k1, k2, k3⟩ := nn (16 * y + x) hi.1
        rw [k2]; exact k1
      refine ⟨S', rfl, ?_, ?_, fun i hi' => ?_, ?_, ?_, ?_, fun j hj' => ?_, fun c k q1 q2 q3 q4 => ?_, ?_⟩
      · rw [fA_d A pc pk (Q := fun j => j ∈ L ++ [(16 * y + x).toNatClampNeg]) (by intro j; simp)] at a2
        exact a2
      · rw [a3.1 2 3 (by omega) (by omega), List.length_append]
        show xa_u (xa_u S.1 5 L.length (16 * y + x)) 2 3 (Int32.ofNat (L.length + 1)) 2 3 = Int32.ofNat (L.length + 1)
        exact xa_e
      · rw [e5, xa_if]
        by_cases q : i = L.length
        · subst q
          rw [if_pos ⟨rfl, rfl⟩, List.getElem_append_right (Nat.le_refl _)]
          simp only [Nat.sub_self, List.getElem_cons_zero]
          exact hpos
        · have hi2 : i < L.length := by rw [List.length_append] at hi'; simp at hi'; omega
          rw [if_neg (fun e => q e.2), List.getElem_append_left hi2]
          exact h.q i hi2
      · rw [a3.1 2 5 (by omega) (by omega), f1 _ _ (by omega) (by omega)]; exact h.p1
      · rw [a3.1 2 6 (by omega) (by omega), f1 _ _ (by omega) (by omega)]; exact h.p2
      · have := cn_rm (f := fun j => decide (j ∉ L)) (g := fun j => decide (j ∉ L ++ [(16 * y + x).toNatClampNeg])) hj (by simp [h2]) (by simp) (fun i hi => by simp [hi])
        rw [List.length_append]
        have := h.cnt
        simp only [List.length_singleton]
        omega
      · rw [List.mem_append] at hj'
        rcases hj' with hj' | hj'
        · exact h.lt j hj'
        · have : j = (16 * y + x).toNatClampNeg := by simpa using hj'
          rw [this]; exact ⟨hj, h1⟩
      · rw [a3.1 c k q1 q2, f1 c k q4 q3]; exact h.fr c k q1 q2 q3 q4
      · rw [a3.2]; exact h.fz
    · by_cases hlt : Int32.ofNat L.length < 192
      · rw [if_pos hlt, if_neg (fun e => hn ⟨ho, (hval.mp e).1, (hval.mp e).2⟩)]
      · rw [if_neg hlt]
  · refine ⟨fun h => absurd h ho, fun _ => ?_⟩
    simp only [if_neg ho, if_true]
end
section
variable {A M C : Ab} {z : Option Nat × (Nat → Option Nat)}
theorem cn_all {f : Nat → Bool} {n : Nat} (h : ∀ i, i < n → f i = true) : cn f n = n := by
  induction n with
  | zero => rfl
  | succ n ih => rw [cn, ih (fun i hi => h i (by omega)), h n (by omega)]; rfl
theorem C_42s {S0 S : St} {a : Nat} {ov pc pk : Int32} (x y : Int32) {L : List Nat} (h : Sp A M S0 S a ov pc pk L) (ha : Ar a ov pc pk) : ∃ S' L', G_42 S (a + 2) ov x y = some ((), S') ∧ Sp A M S0 S' a ov pc pk L' ∧ (∃ E, L' = L ++ E) ∧ (∀ j, j ∈ L' → j ∈ L ∨ (onS x y ∧ j = (16 * y + x).toNatClampNeg)) ∧ (onS x y → A a (16 * y + x).toNatClampNeg = ov → (16 * y + x).toNatClampNeg ∈ L') := by
  by_cases q : onS x y ∧ A a (16 * y + x).toNatClampNeg = ov ∧ (16 * y + x).toNatClampNeg ∉ L
  · obtain ⟨S', a1, a2⟩ := (C_42 h ha).1 q.1 q.2.1 q.2.2
    refine ⟨S', _, a1, a2, ⟨_, rfl⟩, fun j hj => ?_, fun _ _ => by simp⟩
    rw [List.mem_append] at hj
    rcases hj with hj | hj
    · exact Or.inl hj
    · exact Or.inr ⟨q.1, by simpa using hj⟩
  · refine ⟨S, L, (C_42 h ha).2 q, h, ⟨[], by simp⟩, fun j hj => Or.inl hj, fun h1 h2 => ?_⟩
    exact Classical.byContradiction (fun h3 => q ⟨h1, h2, h3⟩)
theorem ixn {a b : Nat} (ha : a < 1000) (hb : b < 1000) : (16 * Int32.ofNat b + Int32.ofNat a).toNatClampNeg = 16 * b + a := by
  have := ix_nat ha hb
  rw [Int32.mul_comm] at this
  rw [this, ni_tn (by omega)]
theorem nm1 : (0 : Int32) - 1 = -1 := rfl
theorem on_m1x {y : Int32} : ¬ onS (-1) y := by unfold onS; intro h; have := h.1; revert this; decide
theorem on_m1y {x : Int32} : ¬ onS x (-1) := by unfold onS; intro h; have := h.2.2.1; revert this; decide
/-- the four neighbours of a cell, as the class takes them -/
theorem nb4 {p : Nat} (hp : p < 192) : (∀ j, (onS (Int32.ofNat (p % 16) - 1) (Int32.ofNat (p / 16)) ∧ j = (16 * Int32.ofNat (p / 16) + (Int32.ofNat (p % 16) - 1)).toNatClampNeg) ↔ (1 ≤ p % 16 ∧ j + 1 = p)) ∧ (∀ j, (onS (Int32.ofNat (p % 16) + 1) (Int32.ofNat (p / 16)) ∧ j = (16 * Int32.ofNat (p / 16) + (Int32.ofNat (p % 16) + 1)).toNatClampNeg) ↔ (p % 16 < 15 ∧ j = p + 1)) ∧ (∀ j, (onS (Int32.ofNat (p % 16)) (Int32.ofNat (p / 16) - 1) ∧ j = (16 * (Int32.ofNat (p / 16) - 1) + Int32.ofNat (p % 16)).toNatClampNeg) ↔ (16 ≤ p ∧ j + 16 = p)) ∧ (∀ j, (onS (Int32.ofNat (p % 16)) (Int32.ofNat (p / 16) + 1) ∧ j = (16 * (Int32.ofNat (p / 16) + 1) + Int32.ofNat (p % 16)).toNatClampNeg) ↔ (p < 176 ∧ j = p + 16)) := by
  have z : Int32.ofNat 0 = 0 := rfl
  refine ⟨fun j => ?_, fun j => ?_, fun j => ?_, fun j => ?_⟩
  · by_cases q : 1 ≤ p % 16
    · rw [sub1 q, on_nat (by omega) (by omega), ixn (by omega) (by omega)]; omega
    · have : p % 16 = 0 := by omega
      rw [this, z, nm1]
      exact ⟨fun h => absurd h.1 on_m1x, fun h => by omega⟩
  · rw [nj_s, on_nat (by omega) (by omega), ixn (by omega) (by omega)]; omega
  · by_cases q : 1 ≤ p / 16
    · rw [sub1 q, on_nat (by omega) (by omega), ixn (by omega) (by omega)]; omega
    · have : p / 16 = 0 := by omega
      rw [this, z, nm1]
      exact ⟨fun h => absurd h.1 on_m1y, fun h => by omega⟩
  · rw [nj_s, on_nat (by omega) (by omega), ixn (by omega) (by omega)]; omega
theorem C_41l {S0 : St} {a : Nat} {ov pc pk : Int32} (ha : Ar a ov pc pk) {s : Nat} : ∀ (r h : Nat) (S : St) (L : List Nat) (n : Nat), h + r = 192 → r + 2 ≤ n → Sp A M S0 S a ov pc pk L → (∀ j, j ∈ L → Rc (Opn A a ov) s j) → (Opn A a ov s → s ∈ L) → h ≤ L.length → (∀ i (hi : i < L.length), i < h → ∀ k, nb L[i] k → Opn A a ov k → k ∈ L) → ∃ S' L', GL_41_0 n S (a + 2) ov (Int32.ofNat h) = some ((), S') ∧ Sp A M S0 S' a ov pc pk L' ∧ (∀ j, j ∈ L' ↔ Rc (Opn A a ov) s j) := by
  have ha2 : a = 1 ∨ a = 2 := by rcases ha.a12 with h | h; exact Or.inl h.1; exact Or.inr h.1
  have h192 : (192 : Int32).toInt = 192 := rfl
  have done : ∀ (h : Nat) (L : List Nat), (∀ j, j ∈ L → Rc (Opn A a ov) s j) → (Opn A a ov s → s ∈ L) → L.length ≤ h → (∀ i (hi : i < L.length), i < h → ∀ k, nb L[i] k → Opn A a ov k → k ∈ L) → (∀ j, j ∈ L ↔ Rc (Opn A a ov) s j) := by
    intro h L h1 h2 h3 h4 j
    refine ⟨h1 j, fun hr => ?_⟩
    have hs : Opn A a ov s := hr.opn
    refine hr.sub (h2 hs) (fun i k hi hn ho => ?_)
    obtain ⟨x, hx, rfl⟩ := List.getElem_of_mem hi
    exact h4 x hx (by omega) k hn ho
  intro r
  induction r with
  | zero =>
    intro h S L n hh hn hsp h1 h2 h3 h4
    obtain ⟨n', rfl⟩ : ∃ n', n = n' + 1 := ⟨n - 1, by omega⟩
    have hl : L.length ≤ 192 := by have := hsp.cnt; omega
    refine ⟨S, L, ?_, hsp, done h L h1 h2 (by omega) h4⟩
    rw [GL_41_0, if_pos]
    rw [Int32.le_iff_toInt_le, ni_i (by omega)]; omega
  | succ r ih =>
    intro h S L n hh hn hsp h1 h2 h3 h4
    obtain ⟨n', rfl⟩ : ∃ n', n = n' + 1 := ⟨n - 1, by omega⟩
    have hl : L.length ≤ 192 := by have := hsp.cnt; omega
    rw [GL_41_0, if_neg (show ¬ (192 ≤ Int32.ofNat h) by rw [Int32.le_iff_toInt_le, ni_i (by omega)]; omega), hsp.n]
    by_cases q : L.length ≤ h
    · rw [if_pos ((nj_lt (by omega) (by omega)).mpr q)]
      exact ⟨S, L, rfl, hsp, done h L h1 h2 q h4⟩
    · have hlt : h < L.length := by omega
      have hin : xa_in (Int32.ofNat h) 192 := by
        rw [xin192, Int32.le_iff_toInt_le, Int32.lt_iff_toInt_lt, ni_i (by omega)]
        have h00 : (0 : Int32).toInt = 0 := rfl
        omega
      have hp := (hsp.lt L[h] (List.getElem_mem hlt)).1
      have px := pos_x L[h] hp
      rw [if_neg (fun e => q ((nj_lt (by omega) (by omega)).mp e)), if_pos hin, ni_tn (by omega), hsp.q h hlt, px.1, px.2.1]
      have n4 := nb4 hp
      obtain ⟨S1, L1, a1, a2, ⟨E1, a3⟩, a4, a5⟩ := C_42s (Int32.ofNat (L[h] % 16) - 1) (Int32.ofNat (L[h] / 16)) hsp ha
      obtain ⟨S2, L2, b1, b2, ⟨E2, b3⟩, b4, b5⟩ := C_42s (Int32.ofNat (L[h] % 16) + 1) (Int32.ofNat (L[h] / 16)) a2 ha
      obtain ⟨S3, L3, c1, c2, ⟨E3, c3⟩, c4, c5⟩ := C_42s (Int32.ofNat (L[h] % 16)) (Int32.ofNat (L[h] / 16) - 1) b2 ha
      obtain ⟨S4, L4, d1, d2, ⟨E4, d3⟩, d4, d5⟩ := C_42s (Int32.ofNat (L[h] % 16)) (Int32.ofNat (L[h] / 16) + 1) c2 ha
      simp only [a1, b1, c1, d1]
      rw [nj_s]
      have hE : L4 = L ++ (E1 ++ (E2 ++ (E3 ++ E4))) := by rw [d3, c3, b3, a3]; simp
      have hLL : ∀ j, j ∈ L → j ∈ L4 := fun j hj => by rw [hE]; simp [hj]
      have m12 : ∀ j, j ∈ L1 → j ∈ L4 := fun j hj => by rw [d3, c3, b3]; simp [hj]
      have m23 : ∀ j, j ∈ L2 → j ∈ L4 := fun j hj => by rw [d3, c3]; simp [hj]
      have m34 : ∀ j, j ∈ L3 → j ∈ L4 := fun j hj => by rw [d3]; simp [hj]
      have hRc : ∀ j, j ∈ L4 → Rc (Opn A a ov) s j := by
        intro j hj
        have ho : Opn A a ov j := d2.lt j hj
        have hlh := h1 L[h] (List.getElem_mem hlt)
        rcases d4 j hj with k | k
        · rcases c4 j k with k | k
          · rcases b4 j k with k | k
            · rcases a4 j k with k | k
              · exact h1 j k
              · exact Rc.step hlh (Or.inl ((n4.1 j).mp k)) ho
            · exact Rc.step hlh (Or.inr (Or.inl ((n4.2.1 j).mp k))) ho
          · exact Rc.step hlh (Or.inr (Or.inr (Or.inl ((n4.2.2.1 j).mp k)))) ho
        · exact Rc.step hlh (Or.inr (Or.inr (Or.inr ((n4.2.2.2 j).mp k)))) ho
      have hcl : ∀ k, nb L[h] k → Opn A a ov k → k ∈ L4 := by
        intro k hn ho
        rcases hn with hn | hn | hn | hn
        · obtain ⟨k1, k2⟩ := (n4.1 k).mpr hn
          rw [k2]; rw [k2] at ho
          exact m12 _ (a5 k1 ho.2)
        · obtain ⟨k1, k2⟩ := (n4.2.1 k).mpr hn
          rw [k2]; rw [k2] at ho
          exact m23 _ (b5 k1 ho.2)
        · obtain ⟨k1, k2⟩ := (n4.2.2.1 k).mpr hn
          rw [k2]; rw [k2] at ho
          exact m34 _ (c5 k1 ho.2)
        · obtain ⟨k1, k2⟩ := (n4.2.2.2 k).mpr hn
          rw [k2]; rw [k2] at ho
          exact d5 k1 ho.2
      refine ih (h + 1) S4 L4 n' (by omega) (by omega) d2 hRc (fun hs => hLL _ (h2 hs)) (by rw [hE, List.length_append]; omega) (fun i hi hih k hn ho => ?_)
      have hiL : i < L.length := by omega
      have hge : L4[i] = L[i] := by
        have : ∀ (X : List Nat) (hX : i < X.length), X = L ++ (E1 ++ (E2 ++ (E3 ++ E4))) → X[i] = L[i] := by
          intro X hX hXe
          subst hXe
          exact List.getElem_append_left hiL
        exact this L4 hi hE
      rw [hge] at hn
      by_cases qi : i = h
      · subst qi; exact hcl k hn ho
      · exact hLL k (h4 i hiL (by omega) k hn ho)
theorem C_41 {S : St} (hc : CR A M S) {a : Nat} {ov pc pk x y : Int32} (ha : Ar a ov pc pk) (h1 : S.1 2 5 = pc) (h2 : S.1 2 6 = pk) (ho : onS x y) : ∃ S', G_41 S (a + 2) ov x y = some ((), S') ∧ CR (fA A (Rc (Opn A a ov) (16 * y + x).toNatClampNeg) pc pk) M S' ∧ (∀ c k, c ≠ 3 → c ≠ 4 → c ≠ 5 → ¬ (c = 2 ∧ k = 3) → S'.1 c k = S.1 c k) ∧ S'.2 = S.2 := by
  have hsp : Sp A M S (xa_u S.1 2 3 0, S.2) a ov pc pk [] := by
    refine ⟨?_, ?_, fun i h => absurd h (by simp), ?_, ?_, by rw [cn_all (by simp)]; rfl, fun j hj => by simp at hj, fun c k _ _ _ q => xa_c q, rfl⟩
    · rw [fA_0 _ _ _ (by simp)]; exact hc.up (by unfold cpv; omega) 0
    · show xa_u S.1 2 3 0 2 3 = _; exact xa_e
    · show xa_u S.1 2 3 0 2 5 = _; rw [xa_c (by omega)]; exact h1
    · show xa_u S.1 2 3 0 2 6 = _; rw [xa_c (by omega)]; exact h2
  have ho' := ho
  unfold onS at ho'
  have hi : 0 ≤ 16 * y + x ∧ 16 * y + x < 192 := by grind
  have hj := tn192 hi.1 hi.2
  obtain ⟨S1, L1, a1, a2, _, a4, a5⟩ := C_42s x y hsp ha
  obtain ⟨S2, L2, b1, b2, b3⟩ := C_41l ha (s := (16 * y + x).toNatClampNeg) 192 0 S1 L1 xFu (by omega) (by decide) a2 (fun j hj' => by
    rcases a4 j hj' with k | k
    · simp at k
    · rw [k.2]; refine Rc.base ?_; rw [← k.2]; exact a2.lt j hj') (fun hs => a5 ho hs.2) (by omega) (fun i hi h0 => by omega)
  refine ⟨S2, ?_, ?_, b2.fr, b2.fz⟩
  · unfold G_41
    have : G_42 (xa_u S.1 2 3 0, S.2.1, S.2.2) (a + 2) ov x y = some ((), S1) := a1
    rw [this]
    exact b1
  · rw [← fA_ext A pc pk b3]; exact b2.c
end
/-! the model's fill -/
abbrev bs (T : St) (j : Nat) : Prop := (1 ≤ j % 16 ∧ T.1 32 (j - 1) ≠ 0) ∨ (j % 16 < 15 ∧ T.1 32 (j + 1) ≠ 0) ∨ (16 ≤ j ∧ T.1 32 (j - 16) ≠ 0) ∨ (j < 176 ∧ T.1 32 (j + 16) ≠ 0)
theorem bs_iff {T : St} {j : Nat} : bs T j ↔ ∃ i, nb j i ∧ T.1 32 i ≠ 0 := by
  unfold bs nb
  constructor
  · rintro (h | h | h | h)
    · exact ⟨j - 1, Or.inl ⟨h.1, by omega⟩, h.2⟩
    · exact ⟨j + 1, Or.inr (Or.inl ⟨h.1, rfl⟩), h.2⟩
    · exact ⟨j - 16, Or.inr (Or.inr (Or.inl ⟨h.1, by omega⟩)), h.2⟩
    · exact ⟨j + 16, Or.inr (Or.inr (Or.inr ⟨h.1, rfl⟩)), h.2⟩
  · rintro ⟨i, h | h | h | h, hi⟩
    · have : i = j - 1 := by omega
      subst this; exact Or.inl ⟨h.1, hi⟩
    · have : i = j + 1 := by omega
      subst this; exact Or.inr (Or.inl ⟨h.1, hi⟩)
    · have : i = j - 16 := by omega
      subst this; exact Or.inr (Or.inr (Or.inl ⟨h.1, hi⟩))
    · have : i = j + 16 := by omega
      subst this; exact Or.inr (Or.inr (Or.inr ⟨h.1, hi⟩))
theorem le_n {a b : Nat} (ha : a < 1000) (hb : b < 1000) (x : Int32) (hx : x = Int32.ofNat b) : (Int32.ofNat a ≤ x) ↔ a ≤ b := by
  subst hx; exact nj_lt hb ha
theorem M_139 {T : St} {j : Nat} (hj : j < 192) : G_139 T (Int32.ofNat j) = some (if bs T j then 1 else 0, T) := by
  have px := pos_x j hj
  have c1 : (Int32.ofNat (j % 16) ≤ 0) ↔ ¬ (1 ≤ j % 16) := by rw [le_n (by omega) (by omega : 0 < 1000) 0 rfl]; omega
  have c2 : (15 ≤ Int32.ofNat (j % 16)) ↔ ¬ (j % 16 < 15) := by
    rw [show (15 : Int32) = Int32.ofNat 15 from rfl, nj_lt (by omega) (by omega)]; omega
  have c3 : (Int32.ofNat j < 16) ↔ ¬ (16 ≤ j) := by
    rw [Int32.lt_iff_toInt_lt, ni_i (by omega), show (16 : Int32).toInt = 16 from rfl]; omega
  have c4 : (176 ≤ Int32.ofNat j) ↔ ¬ (j < 176) := by
    rw [show (176 : Int32) = Int32.ofNat 176 from rfl, nj_lt (by omega) (by omega)]; omega
  have i1 : 1 ≤ j → Int32.ofNat j - 1 = Int32.ofNat (j - 1) := fun h => sub1 h
  have i2 : Int32.ofNat j + 1 = Int32.ofNat (j + 1) := nj_s
  have i3 : 16 ≤ j → Int32.ofNat j - 16 = Int32.ofNat (j - 16) := fun h => by
    have e : Int32.ofNat j = Int32.ofNat (j - 16) + Int32.ofNat 16 := by rw [← Int32.ofNat_add]; congr 1; omega
    rw [e, show (16 : Int32) = Int32.ofNat 16 from rfl]
    generalize Int32.ofNat (j - 16) = a
    generalize Int32.ofNat 16 = b
    grind
  have i4 : Int32.ofNat j + 16 = Int32.ofNat (j + 16) := by rw [show (16 : Int32) = Int32.ofNat 16 from rfl, ← Int32.ofNat_add]
  have inn : ∀ k, k < 192 → xa_in (Int32.ofNat k) 192 := fun k hk => by
    rw [xin192, Int32.le_iff_toInt_le, Int32.lt_iff_toInt_lt, ni_i (by omega)]
    have h00 : (0 : Int32).toInt = 0 := rfl
    have h1 : (192 : Int32).toInt = 192 := rfl
    omega
  have tn : ∀ k, k < 300 → (Int32.ofNat k).toNatClampNeg = k := fun k hk => ni_tn (by omega)
  unfold G_139
  simp only [px.1, c1, c2, c3, c4, i2, i4]
  -- the four answers
  have a4 : (if ¬ j < 176 then some ((0 : Int32), T) else if xa_in (Int32.ofNat (j + 16)) 192 then (if T.1 32 (Int32.ofNat (j + 16)).toNatClampNeg = 0 then some (0, T) else some (1, T)) else none) = some (if j < 176 ∧ T.1 32 (j + 16) ≠ 0 then 1 else 0, T) := by
    by_cases q : j < 176
    · rw [if_neg (fun h => h q), if_pos (inn _ (by omega)), tn _ (by omega)]
      by_cases v : T.1 32 (j + 16) = 0
      · rw [if_pos v, if_neg (fun h => h.2 v)]
      · rw [if_neg v, if_pos ⟨q, v⟩]
    · rw [if_pos q, if_neg (fun h => q h.1)]
  have a3 : (if ¬ 16 ≤ j then (if ¬ j < 176 then some ((0 : Int32), T) else if xa_in (Int32.ofNat (j + 16)) 192 then (if T.1 32 (Int32.ofNat (j + 16)).toNatClampNeg = 0 then some (0, T) else some (1, T)) else none) else if xa_in (Int32.ofNat j - 16) 192 then (if T.1 32 (Int32.ofNat j - 16).toNatClampNeg = 0 then (if ¬ j < 176 then some ((0 : Int32), T) else if xa_in (Int32.ofNat (j + 16)) 192 then (if T.1 32 (Int32.ofNat (j + 16)).toNatClampNeg = 0 then some (0, T) else some (1, T)) else none) else some (1, T)) else none) = some (if (16 ≤ j ∧ T.1 32 (j - 16) ≠ 0) ∨ (j < 176 ∧ T.1 32 (j + 16) ≠ 0) then 1 else 0, T) := by
    rw [a4]
    by_cases q : 16 ≤ j
    · rw [if_neg (fun h => h q), i3 q, if_pos (inn _ (by omega)), tn _ (by omega)]
      by_cases v : T.1 32 (j - 16) = 0
      · rw [if_pos v]
        simp [v]
      · rw [if_neg v, if_pos (Or.inl ⟨q, v⟩)]
    · rw [if_pos q]
      simp [q]
  have a2 : (if ¬ j % 16 < 15 then some (if (16 ≤ j ∧ T.1 32 (j - 16) ≠ 0) ∨ (j < 176 ∧ T.1 32 (j + 16) ≠ 0) then (1 : Int32) else 0, T) else if xa_in (Int32.ofNat (j + 1)) 192 then (if T.1 32 (Int32.ofNat (j + 1)).toNatClampNeg = 0 then some (if (16 ≤ j ∧ T.1 32 (j - 16) ≠ 0) ∨ (j < 176 ∧ T.1 32 (j + 16) ≠ 0) then 1 else 0, T) else some (1, T)) else none) = some (if (j % 16 < 15 ∧ T.1 32 (j + 1) ≠ 0) ∨ (16 ≤ j ∧ T.1 32 (j - 16) ≠ 0) ∨ (j < 176 ∧ T.1 32 (j + 16) ≠ 0) then 1 else 0, T) := by
    by_cases q : j % 16 < 15
    · rw [if_neg (fun h => h q), if_pos (inn _ (by omega)), tn _ (by omega)]
      by_cases v : T.1 32 (j + 1) = 0
      · rw [if_pos v]
        simp [v]
      · rw [if_neg v, if_pos (Or.inl ⟨q, v⟩)]
    · rw [if_pos q]
      simp [q]
  rw [a3, a2]
  have fin : ∀ (P : Prop) (_ : Decidable P), (P ↔ bs T j) → some (if P then (1 : Int32) else 0, T) = some (if bs T j then (1 : Int32) else 0, T) := by
    intro P _ h
    by_cases hP : P
    · rw [if_pos hP, if_pos (h.mp hP)]
    · rw [if_neg hP, if_neg (fun h' => hP (h.mpr h'))]
  by_cases q : 1 ≤ j % 16
  · rw [if_neg (fun h => h q), i1 (by omega), if_pos (inn _ (by omega)), tn _ (by omega)]
    by_cases v : T.1 32 (j - 1) = 0
    · rw [if_pos v]
      exact fin _ _ (by unfold bs; simp [v])
    · rw [if_neg v, if_pos (show bs T j from Or.inl ⟨q, v⟩)]
  · rw [if_pos q]
    exact fin _ _ (by unfold bs; simp [q])
/-- nothing but the marks changes -/
def MX (T T' : St) : Prop := (∀ c k, c ≠ 32 → T'.1 c k = T.1 c k) ∧ T'.2 = T.2
theorem MX.refl (T : St) : MX T T := ⟨fun _ _ _ => rfl, rfl⟩
theorem MX.trans {T U V : St} (h : MX T U) (g : MX U V) : MX T V := ⟨fun c k a => (g.1 c k a).trans (h.1 c k a), g.2.trans h.2⟩
theorem MX.u {T : St} {k : Nat} {v : Int32} : MX T (xa_u T.1 32 k v, T.2) := ⟨fun c j h => xa_c (by omega), rfl⟩
def ur (T : St) : Nat := cn (fun j => decide (T.1 32 j = 0)) 192
section
variable {A M C : Ab} {z : Option Nat × (Nat → Option Nat)}
theorem MR.mx {T T' : St} (h : MR A C z T) (g : MX T T') : MR A C z T' := by
  obtain ⟨g1, g2⟩ := g
  obtain ⟨h0, h1, h2, h3, h4, h5, h6, h7, h8, h9, h10, h11, h12, h13, h14⟩ := h
  refine ⟨?lim_0, ?cyc_0, ?ovr_0, ?wrd_0, ?stp_0, ?col_0, ?ctl_0, ?val_0, ?flg_0, ?siz_0, ?lod_0, ?byt_0, ?act_0, ?fr_0, ?fz_0⟩
  case fz_0 => rw [g2, h14]
  case act_0 =>
    intro o f ho hf
    rw [g1 _ _ (by unfold mcl; grind)]
    exact h12 o f ho hf
  all_goals intros
  all_goals rw [g1 _ _ (by omega)]
  · exact h0
  · exact h1
  · exact h2
  · exact h3
  · exact h4
  · exact h5 _ (by assumption)
  · exact h6 _ (by assumption)
  · exact h7 _ (by assumption)
  · exact h8 _ (by assumption)
  · exact h9 _ (by assumption)
  · exact h10 _ (by assumption)
  · exact h11 _ _ (by assumption) (by assumption)
  · exact h13 _ _ (by assumption)
theorem M_138 {T : St} (hm : MR A C z T) {a : Nat} {ov y3 : Int32} (ha : a = 1 ∧ ov = 15 ∧ y3 = 1 ∨ a = 2 ∧ ov = 4 ∧ y3 = 0) {x : Int32} (h0 : 0 ≤ x) (hx : x < 192) : G_138 T x y3 = some (if A a x.toNatClampNeg = ov then 1 else 0, T) := by
  have hj := tn192 h0 hx
  unfold G_138
  rcases ha with ⟨rfl, rfl, rfl⟩ | ⟨rfl, rfl, rfl⟩
  · rw [if_neg (by decide), if_pos ((xin192 x).mpr ⟨h0, hx⟩), hm.col _ hj]
    split <;> rfl
  · rw [if_pos rfl, if_pos ((xin192 x).mpr ⟨h0, hx⟩), hm.ctl _ hj]
    split <;> rfl
/-- a round -/
theorem M_round {T0 : St} (hm0 : MR A C z T0) {a : Nat} {ov y3 : Int32} (ha : a = 1 ∧ ov = 15 ∧ y3 = 1 ∨ a = 2 ∧ ov = 4 ∧ y3 = 0) {s : Nat} {y6 : Int32} : ∀ (r k : Nat) (T : St) (y5 : Int32), k + r = 192 → MX T0 T → (∀ j, j < 192 → T.1 32 j ≠ 0 → Rc (Opn A a ov) s j) → ∃ (T' : St) (y5' : Int32), (∀ n, GL_137_1 (n + r + 1) 1 T y3 y5 y6 (Int32.ofNat k) = GL_137_1 n 0 T' y3 y5' (y6 + 1) 0) ∧ MX T0 T' ∧ (∀ j, j < 192 → T'.1 32 j ≠ 0 → Rc (Opn A a ov) s j) ∧ (∀ j, T.1 32 j ≠ 0 → T'.1 32 j ≠ 0) ∧ (y5' = 0 → y5 = 0 ∧ T' = T ∧ ∀ j, k ≤ j → j < 192 → Opn A a ov j → bs T j → T.1 32 j ≠ 0) ∧ ur T' ≤ ur T ∧ (y5 = 0 → y5' ≠ 0 → ur T' + 1 ≤ ur T) := by
  intro r
  induction r with
  | zero =>
    intro k T y5 hk hx hR
    have hk : k = 192 := by omega
    subst hk
    refine ⟨T, y5, fun n => ?_, hx, hR, fun j h => h, fun h => ⟨h, rfl, fun j h1 h2 => by omega⟩, Nat.le_refl _, fun h h' => absurd h h'⟩
    rw [Nat.add_zero, GL_137_1, if_pos (by decide)]
  | succ r ih =>
    intro k T y5 hk hx hR
    have hk192 : k < 192 := by omega
    have hkn : ¬ (192 ≤ Int32.ofNat k) := by
      rw [show (192 : Int32) = Int32.ofNat 192 from rfl, nj_lt (by omega) (by omega)]; omega
    have hin : xa_in (Int32.ofNat k) 192 := by
      rw [xin192, Int32.le_iff_toInt_le, Int32.lt_iff_toInt_lt, ni_i (by omega)]
      have h00 : (0 : Int32).toInt = 0 := rfl
      have h1 : (192 : Int32).toInt = 192 := rfl
      omega
    have hkt : (Int32.ofNat k).toNatClampNeg = k := ni_tn (by omega)
    have hin' := (xin192 _).mp hin
    have h138 := M_138 (hm0.mx hx) ha hin'.1 hin'.2
    rw [hkt] at h138
    -- one cell: marked, or not
    by_cases q : T.1 32 k = 0 ∧ A a k = ov ∧ bs T k
    · have hx1 : MX T0 (xa_u T.1 32 k 1, T.2) := hx.trans MX.u
      have hOk : Opn A a ov k := ⟨hk192, q.2.1⟩
      have hR1 : ∀ j, j < 192 → ((xa_u T.1 32 k 1, T.2) : St).1 32 j ≠ 0 → Rc (Opn A a ov) s j := by
        intro j hj hne
        have hne : xa_u T.1 32 k 1 32 j ≠ 0 := hne
        rw [xa_if] at hne
        by_cases e : j = k
        · subst e
          obtain ⟨i, i1, i2⟩ := bs_iff.mp q.2.2
          have hi192 : i < 192 := by unfold nb at i1; omega
          exact Rc.step (hR i hi192 i2) (nb_sym hj hi192 i1) hOk
        · rw [if_neg (fun h => e h.2)] at hne
          exact hR j hj hne
      obtain ⟨T', y5', a1, a2, a3, a4, a5, a6, a7⟩ := ih (k + 1) (xa_u T.1 32 k 1, T.2) 1 (by omega) hx1 hR1
      have hur : ur (xa_u T.1 32 k 1, T.2) + 1 = ur T := by
        refine cn_rm (k := k) hk192 (by simp [q.1]) ?_ (fun i hi => ?_)
        · show decide (xa_u T.1 32 k 1 32 k = 0) = false
          rw [xa_e]; rfl
        · show decide (T.1 32 i = 0) = decide (xa_u T.1 32 k 1 32 i = 0)
          rw [xa_c (by omega)]
      refine ⟨T', y5', fun n => ?_, a2, a3, fun j hj => a4 j ?_, fun h => ?_, by omega, fun _ _ => by omega⟩
      · rw [show n + (r + 1) + 1 = (n + r + 1) + 1 by omega, GL_137_1, if_neg hkn, if_pos hin, hkt, if_pos q.1, h138]
        simp only [if_pos q.2.1, e10, if_false, M_139 hk192, if_pos q.2.2]
        rw [nj_s]
        exact a1 n
      · show xa_u T.1 32 k 1 32 j ≠ 0
        rw [xa_if]
        by_cases e : j = k
        · rw [if_pos ⟨rfl, e⟩]; decide
        · rw [if_neg (fun h => e h.2)]; exact hj
      · have := (a5 h).1
        exact absurd this (by decide)
    · obtain ⟨T', y5', a1, a2, a3, a4, a5, a6, a7⟩ := ih (k + 1) T y5 (by omega) hx hR
      refine ⟨T', y5', fun n => ?_, a2, a3, a4, fun h => ?_, a6, a7⟩
      · rw [show n + (r + 1) + 1 = (n + r + 1) + 1 by omega, GL_137_1, if_neg hkn, if_pos hin, hkt]
        by_cases c1 : T.1 32 k = 0
        · rw [if_pos c1, h138]
          by_cases c2 : A a k = ov
          · have c3 : ¬ bs T k := fun h => q ⟨c1, c2, h⟩
            simp only [if_pos c2, e10, if_false, M_139 hk192, if_neg c3, if_true]
            rw [nj_s]
            exact a1 n
          · simp only [if_neg c2, if_true]
            rw [nj_s]
            exact a1 n
        · rw [if_neg c1, nj_s]
          exact a1 n
      · obtain ⟨b1, b2, b3⟩ := a5 h
        refine ⟨b1, b2, fun j j1 j2 jo jb => ?_⟩
        by_cases e : j = k
        · subst e
          intro hz
          exact q ⟨hz, jo.2, jb⟩
        · exact b3 j (by omega) j2 jo jb
end
section
variable {A M C : Ab} {z : Option Nat × (Nat → Option Nat)}
theorem M_rounds {T0 : St} (hm0 : MR A C z T0) {a : Nat} {ov y3 : Int32} (ha : a = 1 ∧ ov = 15 ∧ y3 = 1 ∨ a = 2 ∧ ov = 4 ∧ y3 = 0) {s : Nat} : ∀ (r k : Nat) (T : St) (y5 : Int32) (n : Nat), k + r = 192 → MX T0 T → (∀ j, j < 192 → T.1 32 j ≠ 0 → Rc (Opn A a ov) s j) → T.1 32 s ≠ 0 → (y5 ≠ 0 → ur T + k ≤ 191) → (y5 = 0 → ∀ j, j < 192 → Opn A a ov j → bs T j → T.1 32 j ≠ 0) → 200 * (r + 1) ≤ n → ∃ T', GL_137_1 n 0 T y3 y5 (Int32.ofNat k) 0 = GL_137_0 xFu T' 0 ∧ MX T0 T' ∧ (∀ j, j < 192 → T'.1 32 j ≠ 0 → Rc (Opn A a ov) s j) ∧ T'.1 32 s ≠ 0 ∧ (∀ j, j < 192 → Opn A a ov j → bs T' j → T'.1 32 j ≠ 0) := by
  intro r
  induction r with
  | zero =>
    intro k T y5 n hk hx hR hs h1 h2 hn
    obtain ⟨n', rfl⟩ : ∃ n', n = n' + 1 := ⟨n - 1, by omega⟩
    have hk : k = 192 := by omega
    subst hk
    have hy : y5 = 0 := Classical.byContradiction (fun h => by have := h1 h; omega)
    refine ⟨T, ?_, hx, hR, hs, h2 hy⟩
    rw [GL_137_1, if_pos (by decide)]
  | succ r ih =>
    intro k T y5 n hk hx hR hs h1 h2 hn
    have hkn : ¬ (192 ≤ Int32.ofNat k) := by
      rw [show (192 : Int32) = Int32.ofNat 192 from rfl, nj_lt (by omega) (by omega)]; omega
    by_cases hy : y5 = 0
    · obtain ⟨n', rfl⟩ : ∃ n', n = n' + 1 := ⟨n - 1, by omega⟩
      refine ⟨T, ?_, hx, hR, hs, h2 hy⟩
      rw [GL_137_1, if_neg hkn, if_pos hy]
    · obtain ⟨n', rfl⟩ : ∃ n', n = (n' + 192 + 1) + 1 := ⟨n - 194, by omega⟩
      obtain ⟨T', y5', a1, a2, a3, a4, a5, a6, a7⟩ := M_round hm0 ha (s := s) (y6 := Int32.ofNat k) 192 0 T 0 (by omega) hx hR
      rw [GL_137_1, if_neg hkn, if_neg hy]
      have a1' := a1 n'
      rw [show Int32.ofNat 0 = 0 from rfl] at a1'
      rw [a1', nj_s]
      refine ih (k + 1) T' y5' n' (by omega) a2 a3 (a4 s hs) (fun h => ?_) (fun h => ?_) (by omega)
      · have := a7 rfl h
        have := h1 hy
        omega
      · obtain ⟨_, b2, b3⟩ := a5 h
        subst b2
        exact fun j hj ho hb => b3 j (by omega) hj ho hb
/-- the marks at the start -/
theorem M_init {T0 : St} {x y y3 : Int32} {s : Nat} (hsn : 16 * y + x = Int32.ofNat s) (hs : s < 192) : ∀ (r k : Nat) (T : St) (n : Nat), k + r = 192 → r + 1 ≤ n → MX T0 T → (∀ j, j < k → (T.1 32 j = if j = s then 1 else 0)) → ∃ T', GL_137_2 n T x y y3 (Int32.ofNat k) = GL_137_1 xFu 0 T' y3 1 0 0 ∧ MX T0 T' ∧ (∀ j, j < 192 → (T'.1 32 j = if j = s then 1 else 0)) := by
  intro r
  induction r with
  | zero =>
    intro k T n hk hn hx h
    have hk : k = 192 := by omega
    subst hk
    obtain ⟨n', rfl⟩ : ∃ n', n = n' + 1 := ⟨n - 1, by omega⟩
    exact ⟨T, by rw [GL_137_2, if_pos (by decide)], hx, h⟩
  | succ r ih =>
    intro k T n hk hn hx h
    obtain ⟨n', rfl⟩ : ∃ n', n = n' + 1 := ⟨n - 1, by omega⟩
    have hkn : ¬ (192 ≤ Int32.ofNat k) := by
      rw [show (192 : Int32) = Int32.ofNat 192 from rfl, nj_lt (by omega) (by omega)]; omega
    have hin : xa_in (Int32.ofNat k) 192 := by
      rw [xin192, Int32.le_iff_toInt_le, Int32.lt_iff_toInt_lt, ni_i (by omega)]
      have h00 : (0 : Int32).toInt = 0 := rfl
      have h1 : (192 : Int32).toInt = 192 := rfl
      omega
    have hkt : (Int32.ofNat k).toNatClampNeg = k := ni_tn (by omega)
    have heq : (Int32.ofNat k = Int32.ofNat s) ↔ k = s := by
      constructor
      · intro e
        have := congrArg Int32.toNatClampNeg e
        rw [hkt, ni_tn (by omega)] at this
        exact this
      · intro e; rw [e]
    rw [GL_137_2, if_neg hkn, hsn, if_pos hin, if_pos hin, hkt, nj_s]
    have go : ∀ v : Int32, v = (if k = s then 1 else 0) → ∃ T', GL_137_2 n' (xa_u T.1 32 k v, T.2) x y y3 (Int32.ofNat (k + 1)) = GL_137_1 xFu 0 T' y3 1 0 0 ∧ MX T0 T' ∧ (∀ j, j < 192 → (T'.1 32 j = if j = s then 1 else 0)) := by
      intro v hv
      refine ih (k + 1) _ n' (by omega) (by omega) (hx.trans MX.u) (fun j hj => ?_)
      show xa_u T.1 32 k v 32 j = _
      rw [xa_if]
      by_cases e : j = k
      · subst e; rw [if_pos ⟨rfl, rfl⟩, hv]
      · rw [if_neg (fun h => e h.2)]; exact h j (by omega)
    by_cases q : k = s
    · rw [if_pos (heq.mpr q)]; exact go 1 (by rw [if_pos q])
    · rw [if_neg (fun e => q (heq.mp e))]; exact go 0 (by rw [if_neg q])
/-- all marked cells are drawn -/
theorem M_drawn {pc pk : Int32} {R : Nat → Prop} (g1 : -1 ≤ pc) (g2 : -1 ≤ pk) : ∀ (r k : Nat) (T : St) (n : Nat), k + r = 192 → r + 1 ≤ n → MR (fA A (fun j => j < k ∧ R j) pc pk) C z T → T.1 29 13 = pc → T.1 29 14 = pk → (∀ j, j < 192 → (T.1 32 j ≠ 0 ↔ R j)) → (∀ j, R j → j < 192) → ∃ T', GL_137_0 n T (Int32.ofNat k) = some ((), T') ∧ MR (fA A R pc pk) C z T' ∧ DM T T' := by
  intro r
  induction r with
  | zero =>
    intro k T n hk hn hm p1 p2 hR hlt
    have hk : k = 192 := by omega
    subst hk
    obtain ⟨n', rfl⟩ : ∃ n', n = n' + 1 := ⟨n - 1, by omega⟩
    refine ⟨T, by rw [GL_137_0, if_pos (by decide)], ?_, DM.refl T⟩
    rw [fA_ext A pc pk (R := fun j => j < 192 ∧ R j) (Q := R) (fun j => ⟨fun h => h.2, fun h => ⟨hlt j h, h⟩⟩)] at hm
    exact hm
  | succ r ih =>
    intro k T n hk hn hm p1 p2 hR hlt
    obtain ⟨n', rfl⟩ : ∃ n', n = n' + 1 := ⟨n - 1, by omega⟩
    have hkn : ¬ (192 ≤ Int32.ofNat k) := by
      rw [show (192 : Int32) = Int32.ofNat 192 from rfl, nj_lt (by omega) (by omega)]; omega
    have hin : xa_in (Int32.ofNat k) 192 := by
      rw [xin192, Int32.le_iff_toInt_le, Int32.lt_iff_toInt_lt, ni_i (by omega)]
      have h00 : (0 : Int32).toInt = 0 := rfl
      have h1 : (192 : Int32).toInt = 192 := rfl
      omega
    have hin' := (xin192 _).mp hin
    have hkt : (Int32.ofNat k).toNatClampNeg = k := ni_tn (by omega)
    have px := (pos_x k (by omega)).2.2
    rw [GL_137_0, if_neg hkn, if_pos hin, hkt]
    by_cases q : T.1 32 k = 0
    · rw [if_pos q, nj_s]
      refine ih (k + 1) T n' (by omega) (by omega) ?_ p1 p2 hR hlt
      rw [← fA_ext A pc pk (R := fun j => j < k ∧ R j) (fun j => ⟨fun h => ⟨by omega, h.2⟩, fun h => ⟨?_, h.2⟩⟩)]
      · exact hm
      · have : j ≠ k := fun e => (hR j (by omega)).mpr h.2 (by rw [e]; exact q)
        omega
    · rw [if_neg q]
      obtain ⟨T1, a1, a2, a3⟩ := M_140 (x := Int32.ofNat k - Int32.ofNat k / 16 * 16) (y := Int32.ofNat k / 16) hm p1 p2 g1 g2 (by rw [px]; exact hin'.1) (by rw [px]; exact hin'.2)
      rw [px, hkt, fA_d A pc pk (Q := fun j => j < k + 1 ∧ R j) (by
        intro j
        constructor
        · rintro ⟨h1, h2⟩
          by_cases e : j = k
          · exact Or.inr e
          · exact Or.inl ⟨by omega, h2⟩
        · rintro (⟨h1, h2⟩ | e)
          · exact ⟨by omega, h2⟩
          · rw [e]; exact ⟨by omega, (hR k (by omega)).mp q⟩)] at a2
      rw [a1]
      simp only []
      rw [nj_s]
      obtain ⟨T2, b1, b2, b3⟩ := ih (k + 1) T1 n' (by omega) (by omega) a2 (by rw [a3.1 _ _ (by omega) (by omega)]; exact p1) (by rw [a3.1 _ _ (by omega) (by omega)]; exact p2) (fun j hj => by rw [a3.1 _ _ (by omega) (by omega)]; exact hR j hj) hlt
      exact ⟨T2, b1, b2, a3.trans b3⟩
/-- what a fill leaves alone on the model's side -/
def FM (T T' : St) : Prop := (∀ c k, c ≠ 30 → c ≠ 31 → c ≠ 32 → T'.1 c k = T.1 c k) ∧ T'.2 = T.2
def FC (S S' : St) : Prop := (∀ c k, c ≠ 3 → c ≠ 4 → c ≠ 5 → ¬ (c = 2 ∧ k = 3) → S'.1 c k = S.1 c k) ∧ S'.2 = S.2
theorem M_137g {T : St} (hm : MR A C z T) {a : Nat} {ov y3 pc pk x y : Int32} (ha : a = 1 ∧ ov = 15 ∧ y3 = 1 ∨ a = 2 ∧ ov = 4 ∧ y3 = 0) (p1 : T.1 29 13 = pc) (p2 : T.1 29 14 = pk) (g1 : -1 ≤ pc) (g2 : -1 ≤ pk) (ho : onS x y) : ∃ T', (match G_138 T (16 * y + x) y3 with
      | none => none
      | some (v21, S21) => if v21 = 0 then some ((), S21) else GL_137_2 xFu S21 x y y3 0) = some ((), T') ∧ MR (fA A (Rc (Opn A a ov) (16 * y + x).toNatClampNeg) pc pk) C z T' ∧ FM T T' := by
  have ho' := ho
  unfold onS at ho'
  have hi : 0 ≤ 16 * y + x ∧ 16 * y + x < 192 := by grind
  have hs := tn192 hi.1 hi.2
  have hsn : 16 * y + x = Int32.ofNat (16 * y + x).toNatClampNeg := by
    obtain ⟨k, k1, k2, k3⟩ := nn (16 * y + x) hi.1
    rw [k2]; exact k1
  rw [M_138 hm ha hi.1 hi.2]
  by_cases q : A a (16 * y + x).toNatClampNeg = ov
  · simp only [if_pos q, e10, if_false]
    have hO : Opn A a ov (16 * y + x).toNatClampNeg := ⟨hs, q⟩
    obtain ⟨T1, a1, a2, a3⟩ := M_init (T0 := T) (y3 := y3) hsn hs 192 0 T xFu (by omega) (by decide) (MX.refl T) (fun j hj => by omega)
    rw [show Int32.ofNat 0 = 0 from rfl] at a1
    have hu : ur T1 + 1 ≤ 192 := by
      have := cn_rm (f := fun j => if j = (16 * y + x).toNatClampNeg then true else decide (T1.1 32 j = 0)) (g := fun j => decide (T1.1 32 j = 0)) (n := 192) hs (by simp) (by rw [a3 _ hs]; simp) (fun i hi => by simp [hi])
      have h2 := cn_le (fun j => if j = (16 * y + x).toNatClampNeg then true else decide (T1.1 32 j = 0)) 192
      unfold ur
      omega
    obtain ⟨T2, b1, b2, b3, b4, b5⟩ := M_rounds hm ha (s := (16 * y + x).toNatClampNeg) 192 0 T1 1 xFu (by omega) a2 (fun j hj hne => by
      rw [a3 j hj] at hne
      by_cases e : j = (16 * y + x).toNatClampNeg
      · rw [e]; exact Rc.base hO
      · rw [if_neg e] at hne; exact absurd rfl hne) (by rw [a3 _ hs, if_pos rfl]; decide) (fun _ => by omega) (fun h => absurd h (by decide)) (by decide)
    rw [show Int32.ofNat 0 = 0 from rfl] at b1
    have hRc : ∀ j, Rc (Opn A a ov) (16 * y + x).toNatClampNeg j → j < 192 ∧ T2.1 32 j ≠ 0 := by
      intro j hj
      refine Rc.sub (Q := fun j => j < 192 ∧ T2.1 32 j ≠ 0) ⟨hs, b4⟩ (fun i k hi hn hok => ⟨hok.1, ?_⟩) hj
      exact b5 k hok.1 hok (bs_iff.mpr ⟨i, nb_sym hi.1 hok.1 hn, hi.2⟩)
    obtain ⟨T3, c1, c2, c3⟩ := M_drawn (A := A) (C := C) (z := z) (R := Rc (Opn A a ov) (16 * y + x).toNatClampNeg) g1 g2 192 0 T2 xFu (by omega) (by decide) (by rw [fA_0 _ _ _ (by intro j h; omega)]; exact hm.mx b2) (by rw [b2.1 _ _ (by omega)]; exact p1) (by rw [b2.1 _ _ (by omega)]; exact p2) (fun j hj => ⟨b3 j hj, fun h => (hRc j h).2⟩) (fun j h => (hRc j h).1)
    rw [show Int32.ofNat 0 = 0 from rfl] at c1
    refine ⟨T3, by rw [a1, b1, c1], c2, fun c k h1 h2 h3 => ?_, by rw [c3.2, b2.2]⟩
    rw [c3.1 c k h1 h2, b2.1 c k h3]
  · simp only [if_neg q, if_true]
    refine ⟨T, rfl, ?_, fun c k _ _ _ => rfl, rfl⟩
    rw [fA_0]
    · exact hm
    · intro j hj
      have hsO : Opn A a ov (16 * y + x).toNatClampNeg := hj.opn
      exact q hsO.2
theorem DR.fill {A' : Ab} {S T S' T' : St} {pc pk : Int32} (h : DR A M C z S T pc pk) (hw : WF A') (hc : CR A' M S') (hm : MR A' C z T') (d1 : FC S S') (d2 : FM T T') : DR A' M C z S' T' pc pk :=
  ⟨hw, hc, hm, by rw [d1.1 2 5 (by omega) (by omega) (by omega) (by omega)]; exact h.p1, by rw [d1.1 2 6 (by omega) (by omega) (by omega) (by omega)]; exact h.p2, by rw [d2.1 29 13 (by omega) (by omega) (by omega)]; exact h.p3, by rw [d2.1 29 14 (by omega) (by omega) (by omega)]; exact h.p4, h.g1, h.g2⟩
theorem fill_b {S T : St} {pc pk x y : Int32} (h : DR A M C z S T pc pk) (ho : onS x y) : ∃ A' S' T', G_40 S x y = some ((), S') ∧ G_137 T x y = some ((), T') ∧ DR A' M C z S' T' pc pk ∧ FC S S' ∧ FM T T' ∧ RE A A' := by
  have nil : ∃ A' S' T', some ((), S) = some ((), S') ∧ some ((), T) = some ((), T') ∧ DR A' M C z S' T' pc pk ∧ FC S S' ∧ FM T T' ∧ RE A A' := ⟨A, S, T, rfl, rfl, h, ⟨fun _ _ _ _ _ _ => rfl, rfl⟩, ⟨fun _ _ _ _ _ => rfl, rfl⟩, RE.refl A⟩
  have go : ∀ (a : Nat) (ov y3 : Int32), Ar a ov pc pk → (a = 1 ∧ ov = 15 ∧ y3 = 1 ∨ a = 2 ∧ ov = 4 ∧ y3 = 0) → ∃ A' S' T', (match G_41 S (a + 2) ov x y with
      | none => none
      | some (v4, S4) => some ((), S4)) = some ((), S') ∧ (match G_138 T (16 * y + x) y3 with
      | none => none
      | some (v21, S21) => if v21 = 0 then some ((), S21) else GL_137_2 xFu S21 x y y3 0) = some ((), T') ∧ DR A' M C z S' T' pc pk ∧ FC S S' ∧ FM T T' ∧ RE A A' := by
    intro a ov y3 har ha
    obtain ⟨S', a1, a2, a3⟩ := C_41 h.c har h.p1 h.p2 ho
    obtain ⟨T', b1, b2, b3⟩ := M_137g h.m ha h.p3 h.p4 h.g1 h.g2 ho
    have wf := fA_WF h.w (Rc (Opn A a ov) (16 * y + x).toNatClampNeg) pc pk
    exact ⟨_, S', T', by rw [a1], b1, h.fill wf.1 a2 b2 a3 b3, a3, b3, wf.2⟩
  unfold G_40 G_137
  have g1 := h.g1
  have g2 := h.g2
  rw [h.p1, h.p2, h.p3, h.p4]
  by_cases c1 : pc = -1
  · rw [if_pos c1, if_pos (show pc < 0 by grind)]
    by_cases c2 : pk = -1
    · rw [if_pos c2, if_pos (show pk < 0 by grind)]; exact nil
    · rw [if_neg c2, if_neg (show ¬ pk < 0 by grind)]
      by_cases c3 : pk = 4
      · rw [if_pos c3, if_pos c3]; exact nil
      · rw [if_neg c3, if_neg c3]
        exact go 2 4 0 (Or.inr ⟨rfl, rfl, c1, c2, c3⟩) (Or.inr ⟨rfl, rfl, rfl⟩)
  · rw [if_neg c1, if_neg (show ¬ pc < 0 by grind)]
    by_cases c3 : pc = 15
    · rw [if_pos c3, if_pos c3]; exact nil
    · rw [if_neg c3, if_neg c3]
      exact go 1 15 1 (Or.inl ⟨rfl, rfl, c1, c3⟩) (Or.inl ⟨rfl, rfl, rfl⟩)
end
