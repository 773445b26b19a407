/-! The pure part (19g.show): both halves answer alike -/
/-! the blank screen -/
theorem in192 {k : Nat} (hk : k < 192) : xa_in (Int32.ofNat k) 192 := by
  rw [xin192, Int32.le_iff_toInt_le, Int32.lt_iff_toInt_lt, ni_i (by omega)]
  have h00 : (0 : Int32).toInt = 0 := rfl
  have h1 : (192 : Int32).toInt = 192 := rfl
  omega
theorem R_113 {T0 : St} : ∀ (r k : Nat) (T : St) (n : Nat), k + r = 192 → r + 1 ≤ n → (∀ j, j < k → T.1 30 j = 15 ∧ T.1 31 j = 4) → (∀ c k, c ≠ 30 → c ≠ 31 → T.1 c k = T0.1 c k) → T.2 = T0.2 → ∃ T', GL_113_0 n T (Int32.ofNat k) = some ((), T') ∧ (∀ j, j < 192 → T'.1 30 j = 15 ∧ T'.1 31 j = 4) ∧ T'.1 29 13 = -1 ∧ T'.1 29 14 = -1 ∧ (∀ c k, c ≠ 30 → c ≠ 31 → ¬ (c = 29 ∧ (k = 13 ∨ k = 14)) → T'.1 c k = T0.1 c k) ∧ T'.2 = T0.2 := by
  intro r
  induction r with
  | zero =>
    intro k T n hk hn h1 h2 h3
    have hk : k = 192 := by omega
    subst hk
    obtain ⟨n', rfl⟩ : ∃ n', n = n' + 1 := ⟨n - 1, by omega⟩
    refine ⟨(xa_u (xa_u T.1 29 13 (-1)) 29 14 (-1), T.2.1, T.2.2), by rw [GL_113_0, if_pos (by decide)], fun j hj => ?_, ?_, ?_, fun c k a b q => ?_, h3⟩
    · show xa_u (xa_u T.1 29 13 (-1)) 29 14 (-1) 30 j = 15 ∧ xa_u (xa_u T.1 29 13 (-1)) 29 14 (-1) 31 j = 4
      rw [xa_c (by omega), xa_c (by omega), xa_c (by omega), xa_c (by omega)]; exact h1 j hj
    · show xa_u (xa_u T.1 29 13 (-1)) 29 14 (-1) 29 13 = -1
      rw [xa_c (by omega), xa_e]
    · show xa_u (xa_u T.1 29 13 (-1)) 29 14 (-1) 29 14 = -1
      rw [xa_e]
    · show xa_u (xa_u T.1 29 13 (-1)) 29 14 (-1) c k = _
      rw [xa_c (by omega), xa_c (by omega)]; exact h2 c k a b
  | succ r ih =>
    intro k T n hk hn h1 h2 h3
    obtain ⟨n', rfl⟩ : ∃ n', n = n' + 1 := ⟨n - 1, by omega⟩
    have hkn : ¬ (192 ≤ Int32.ofNat k) := by
      rw [show (192 : Int32) = Int32.ofNat 192 from rfl, nj_lt (by omega) (by omega)]; omega
    rw [GL_113_0, if_neg hkn, if_pos (in192 (by omega)), ni_tn (by omega), nj_s]
    refine ih (k + 1) _ n' (by omega) (by omega) (fun j hj => ?_) (fun c k' a b => ?_) h3
    · show xa_u (xa_u T.1 30 k 15) 31 k 4 30 j = 15 ∧ xa_u (xa_u T.1 30 k 15) 31 k 4 31 j = 4
      simp only [xa_if]
      by_cases e : j = k
      · simp [e]
      · have := h1 j (by omega)
        simp [e, this]
    · show xa_u (xa_u T.1 30 k 15) 31 k 4 c k' = _
      rw [xa_c (by omega), xa_c (by omega)]; exact h2 c k' a b
theorem V_113 (T : St) : ∃ T', G_113 T = some ((), T') ∧ (∀ j, j < 192 → T'.1 30 j = 15 ∧ T'.1 31 j = 4) ∧ T'.1 29 13 = -1 ∧ T'.1 29 14 = -1 ∧ (∀ c k, c ≠ 30 → c ≠ 31 → ¬ (c = 29 ∧ (k = 13 ∨ k = 14)) → T'.1 c k = T.1 c k) ∧ T'.2 = T.2 :=
  R_113 192 0 T xFu (by omega) (by decide) (fun j hj => by omega) (fun _ _ _ _ => rfl) rfl
theorem R_5 {S0 : St} {c : Nat} {v : Int32} (hc : kd c = (0, 192)) : ∀ (r k : Nat) (S : St) (n : Nat), k + r = 192 → r + 1 ≤ n → (∀ j, j < k → S.1 c j = v) → (∀ c' k, c' ≠ c → S.1 c' k = S0.1 c' k) → S.2 = S0.2 → ∃ S', GL_5_0 n S c v (Int32.ofNat k) 192 = some ((), S') ∧ (∀ j, j < 192 → S'.1 c j = v) ∧ (∀ c' k, c' ≠ c → S'.1 c' k = S0.1 c' k) ∧ S'.2 = S0.2 := by
  intro r
  induction r with
  | zero =>
    intro k S n hk hn h1 h2 h3
    have hk : k = 192 := by omega
    subst hk
    obtain ⟨n', rfl⟩ : ∃ n', n = n' + 1 := ⟨n - 1, by omega⟩
    exact ⟨S, by rw [GL_5_0, if_pos (by decide)], h1, h2, h3⟩
  | succ r ih =>
    intro k S n hk hn h1 h2 h3
    obtain ⟨n', rfl⟩ : ∃ n', n = n' + 1 := ⟨n - 1, by omega⟩
    have hkn : ¬ (192 ≤ Int32.ofNat k) := by
      rw [show (192 : Int32) = Int32.ofNat 192 from rfl, nj_lt (by omega) (by omega)]; omega
    rw [GL_5_0, if_neg hkn, if_pos (by rw [hc]; exact ⟨rfl, in192 (by omega)⟩), ni_tn (by omega), nj_s]
    refine ih (k + 1) _ n' (by omega) (by omega) (fun j hj => ?_) (fun c' k' a => ?_) h3
    · show xa_u S.1 c k v c j = v
      rw [xa_if]
      by_cases e : j = k
      · rw [if_pos ⟨rfl, e⟩]
      · rw [if_neg (fun h => e h.2)]; exact h1 j (by omega)
    · show xa_u S.1 c k v c' k' = _
      rw [xa_c (by omega)]; exact h2 c' k' a
theorem V_5 (S : St) {c : Nat} (v : Int32) (hc : kd c = (0, 192)) : ∃ S', G_5 S c v = some ((), S') ∧ (∀ j, j < 192 → S'.1 c j = v) ∧ (∀ c' k, c' ≠ c → S'.1 c' k = S.1 c' k) ∧ S'.2 = S.2 := by
  unfold G_5
  rw [hc, if_pos (by decide)]
  exact R_5 hc 192 0 S xFu (by omega) (by decide) (fun j hj => by omega) (fun _ _ _ => rfl) rfl
/-- A with a blank screen -/
def blA (A : Ab) : Ab := fun c j => if c = 1 ∧ j < 192 then 15 else if c = 2 ∧ j < 192 then 4 else A c j
theorem blA_o (A : Ab) {c : Nat} (h1 : c ≠ 1) (h2 : c ≠ 2) (j : Nat) : blA A c j = A c j := by
  unfold blA; rw [if_neg (fun h => h1 h.1), if_neg (fun h => h2 h.1)]
theorem blA_WF {A : Ab} (h : WF A) : WF (blA A) ∧ RE A (blA A) := by
  have e : ∀ c j, c ≠ 1 → c ≠ 2 → blA A c j = A c j := fun c j h1 h2 => blA_o A h1 h2 j
  have hr : RE A (blA A) := fun r hr => ⟨(e _ _ (by omega) (by omega)).symm, (e _ _ (by omega) (by omega)).symm, fun j => (e _ _ (by omega) (by omega)).symm⟩
  refine ⟨h.of hr ?_ ?_ ?_ ?_, hr⟩
  · rw [e _ _ (by omega) (by omega)]; exact h.lim
  · intro o ho; rw [e _ _ (by omega) (by omega), e _ _ (by omega) (by omega), e _ _ (by omega) (by omega)]; exact h.act o ho
  · intro o ho; rw [e _ _ (by omega) (by omega)]; exact h.gfl o ho
  · intro j hj; rw [e _ _ (by omega) (by omega)]; exact h.flg j hj
section
variable {A M C : Ab} {z : Option Nat × (Nat → Option Nat)}
theorem blank_b {S T : St} (hw : WF A) (hc : CR A M S) (hm : MR A C z T) : ∃ S1 S' T', G_5 S 3 15 = some ((), S1) ∧ G_5 S1 4 4 = some ((), S') ∧ G_113 T = some ((), T') ∧ DR (blA A) M C z (xa_u (xa_u S'.1 2 5 (-1)) 2 6 (-1), S'.2.1, S'.2.2) T' (-1) (-1) ∧ (∀ c k, c ≠ 30 → c ≠ 31 → ¬ (c = 29 ∧ (k = 13 ∨ k = 14)) → T'.1 c k = T.1 c k) ∧ S'.2 = S.2 ∧ (∀ c k, c ≠ 3 → c ≠ 4 → S'.1 c k = S.1 c k) := by
  obtain ⟨S1, a1, a2, a3, a4⟩ := V_5 S (c := 3) 15 rfl
  obtain ⟨S2, b1, b2, b3, b4⟩ := V_5 S1 (c := 4) 4 rfl
  obtain ⟨T1, c1, c2, c3, c4, c5, c6⟩ := V_113 T
  have hS : ∀ c k, c ≠ 3 → c ≠ 4 → S2.1 c k = S.1 c k := fun c k h1 h2 => by rw [b3 c k h2, a3 c k h1]
  have h3 : ∀ j, j < 192 → S2.1 3 j = 15 := fun j hj => by rw [b3 3 j (by omega)]; exact a2 j hj
  have hcr : CR (blA A) M S2 := by
    obtain ⟨h0, h1, h2, h3', h4, h5, h6, h7, h8, h9, h10, h11, h12, h13⟩ := hc
    refine ⟨?lim_0, ?cyc_0, ?ovr_0, ?wrd_0, ?stp_0, ?col_0, ?ctl_0, ?val_0, ?flg_0, ?siz_0, ?lod_0, ?byt_0, ?act_0, ?fr_0⟩
    case col_0 => intro j hj; rw [h3 j hj]; unfold blA; rw [if_pos ⟨rfl, hj⟩]
    case ctl_0 => intro j hj; rw [b2 j hj]; unfold blA; rw [if_neg (by omega), if_pos ⟨rfl, hj⟩]
    case fr_0 => intro c j hcj; rw [hS _ _ (by omega) (by omega)]; exact h13 c j hcj
    all_goals intros
    all_goals rw [hS _ _ (by omega) (by omega), blA_o A (by omega) (by omega)]
    · exact h0
    · exact h1
    · exact h2
    · exact h3'
    · exact h4
    · exact h7 _ (by assumption)
    · exact h8 _ (by assumption)
    · exact h9 _ (by assumption)
    · exact h10 _ (by assumption)
    · exact h11 _ _ (by assumption) (by assumption)
    · exact h12 _ _ (by assumption) (by assumption)
  have hmr : MR (blA A) C z T1 := by
    obtain ⟨h0, h1, h2, h3', h4, h5, h6, h7, h8, h9, h10, h11, h12, h13, h14⟩ := hm
    refine ⟨?lim_1, ?cyc_1, ?ovr_1, ?wrd_1, ?stp_1, ?col_1, ?ctl_1, ?val_1, ?flg_1, ?siz_1, ?lod_1, ?byt_1, ?act_1, ?fr_1, ?fz_1⟩
    case fz_1 => rw [c6, h14]
    case col_1 => intro j hj; rw [(c2 j hj).1]; unfold blA; rw [if_pos ⟨rfl, hj⟩]
    case ctl_1 => intro j hj; rw [(c2 j hj).2]; unfold blA; rw [if_neg (by omega), if_pos ⟨rfl, hj⟩]
    case fr_1 => intro c j hcj; rw [c5 _ _ (by omega) (by omega) (by omega)]; exact h13 c j hcj
    case act_1 =>
      intro o f ho hf
      rw [c5 _ _ (by unfold mcl; grind) (by unfold mcl; grind) (by unfold mcl; grind), blA_o A (by omega) (by omega)]
      exact h12 o f ho hf
    all_goals intros
    all_goals rw [c5 _ _ (by omega) (by omega) (by omega), blA_o A (by omega) (by omega)]
    · exact h0
    · exact h1
    · exact h2
    · exact h3'
    · exact h4
    · exact h7 _ (by assumption)
    · exact h8 _ (by assumption)
    · exact h9 _ (by assumption)
    · exact h10 _ (by assumption)
    · exact h11 _ _ (by assumption) (by assumption)
  refine ⟨S1, S2, T1, a1, b1, c1, ⟨(blA_WF hw).1, ?_, hmr, ?_, ?_, c3, c4, by decide, by decide⟩, c5, by rw [b4, a4], hS⟩
  · exact (hcr.up (c := 2) (k := 5) (by unfold cpv; omega) (-1)).up (c := 2) (k := 6) (by unfold cpv; omega) (-1)
  · show xa_u (xa_u S2.1 2 5 (-1)) 2 6 (-1) 2 5 = -1
    rw [xa_c (by omega), xa_e]
  · show xa_u (xa_u S2.1 2 5 (-1)) 2 6 (-1) 2 6 = -1
    rw [xa_e]
/-- the class may have drawn the point (x, y) once more than the model: a line from it levels that -/
def LR (A B M C : Ab) (z : Option Nat × (Nat → Option Nat)) (S T : St) (pc pk x y : Int32) : Prop :=
  (WF A) ∧
  (CR B M S) ∧
  (MR A C z T) ∧
  (S.1 2 5 = pc) ∧
  (S.1 2 6 = pk) ∧
  (T.1 29 13 = pc) ∧
  (T.1 29 14 = pk) ∧
  (-1 ≤ pc) ∧
  (-1 ≤ pk) ∧
  (B = A ∨ B = dA A pc pk (16 * y + x).toNatClampNeg)
theorem LR.w {A B M C : Ab} {z : Option Nat × (Nat → Option Nat)} {S T : St} {pc pk x y : Int32} (h : LR A B M C z S T pc pk x y) : WF A := h.1
theorem LR.c {A B M C : Ab} {z : Option Nat × (Nat → Option Nat)} {S T : St} {pc pk x y : Int32} (h : LR A B M C z S T pc pk x y) : CR B M S := h.2.1
theorem LR.m {A B M C : Ab} {z : Option Nat × (Nat → Option Nat)} {S T : St} {pc pk x y : Int32} (h : LR A B M C z S T pc pk x y) : MR A C z T := h.2.2.1
theorem LR.p1 {A B M C : Ab} {z : Option Nat × (Nat → Option Nat)} {S T : St} {pc pk x y : Int32} (h : LR A B M C z S T pc pk x y) : S.1 2 5 = pc := h.2.2.2.1
theorem LR.p2 {A B M C : Ab} {z : Option Nat × (Nat → Option Nat)} {S T : St} {pc pk x y : Int32} (h : LR A B M C z S T pc pk x y) : S.1 2 6 = pk := h.2.2.2.2.1
theorem LR.p3 {A B M C : Ab} {z : Option Nat × (Nat → Option Nat)} {S T : St} {pc pk x y : Int32} (h : LR A B M C z S T pc pk x y) : T.1 29 13 = pc := h.2.2.2.2.2.1
theorem LR.p4 {A B M C : Ab} {z : Option Nat × (Nat → Option Nat)} {S T : St} {pc pk x y : Int32} (h : LR A B M C z S T pc pk x y) : T.1 29 14 = pk := h.2.2.2.2.2.2.1
theorem LR.g1 {A B M C : Ab} {z : Option Nat × (Nat → Option Nat)} {S T : St} {pc pk x y : Int32} (h : LR A B M C z S T pc pk x y) : -1 ≤ pc := h.2.2.2.2.2.2.2.1
theorem LR.g2 {A B M C : Ab} {z : Option Nat × (Nat → Option Nat)} {S T : St} {pc pk x y : Int32} (h : LR A B M C z S T pc pk x y) : -1 ≤ pk := h.2.2.2.2.2.2.2.2.1
theorem LR.b {A B M C : Ab} {z : Option Nat × (Nat → Option Nat)} {S T : St} {pc pk x y : Int32} (h : LR A B M C z S T pc pk x y) : B = A ∨ B = dA A pc pk (16 * y + x).toNatClampNeg := h.2.2.2.2.2.2.2.2.2
theorem dA_dA (A : Ab) (pc pk : Int32) (j : Nat) : dA (dA A pc pk j) pc pk j = dA A pc pk j := by
  unfold dA
  by_cases q1 : pc = -1
  · by_cases q2 : pk = -1
    · simp only [q1, q2, if_true]
    · simp only [q1, q2, if_true, if_false, xa_uu]
  · by_cases q2 : pk = -1
    · simp only [q1, q2, if_true, if_false, xa_uu]
    · simp only [q1, q2, if_false]
      funext c k
      simp only [xa_if]
      grind
theorem dA_RE (A : Ab) (pc pk : Int32) (j : Nat) : RE A (dA A pc pk j) := by
  unfold dA
  split
  · split
    · exact RE.refl _
    · exact RE.u _ (by unfold rsc; omega)
  · split
    · exact RE.u _ (by unfold rsc; omega)
    · exact (RE.u _ (by unfold rsc; omega)).trans (RE.u _ (by unfold rsc; omega))
theorem line_r {B : Ab} {S T : St} {x1 y1 x2 y2 pc pk : Int32} (h : LR A B M C z S T pc pk x1 y1) (h1 : onS x1 y1) (h2 : onS x2 y2) : ∃ A' S' T', G_44 S x1 y1 x2 y2 = some ((), S') ∧ G_141 T x1 y1 x2 y2 = some ((), T') ∧ DR A' M C z S' T' pc pk ∧ DF S S' ∧ DM T T' ∧ RE A A' := by
  have ho' := h1
  unfold onS at ho'
  have e : y1 * 16 + x1 = 16 * y1 + x1 := by rw [Int32.mul_comm]
  have hi : 0 ≤ 16 * y1 + x1 ∧ 16 * y1 + x1 < 192 := by grind
  obtain ⟨S1, a1, a2, a3⟩ := C_43 h.c h.p1 h.p2 hi.1 hi.2
  obtain ⟨T1, b1, b2, b3⟩ := M_140 h.m h.p3 h.p4 h.g1 h.g2 hi.1 hi.2
  have hB : dA B pc pk (16 * y1 + x1).toNatClampNeg = dA A pc pk (16 * y1 + x1).toNatClampNeg := by
    rcases h.b with hb | hb
    · rw [hb]
    · rw [hb, dA_dA]
  rw [hB] at a2
  refine line_core (A := A) (by rw [e]; exact a1) b1 ⟨h.w.d0 pc pk _, a2, b2, ?_, ?_, ?_, ?_, h.g1, h.g2⟩ a3 b3 (dA_RE A pc pk _) h1 h2
  · rw [a3.1 2 5 (by omega) (by omega)]; exact h.p1
  · rw [a3.1 2 6 (by omega) (by omega)]; exact h.p2
  · rw [b3.1 29 13 (by omega) (by omega)]; exact h.p3
  · rw [b3.1 29 14 (by omega) (by omega)]; exact h.p4
theorem LR.rx {B : Ab} {S S' T : St} {x y pc pk : Int32} (h : LR A B M C z S T pc pk x y) (g : RX 6 S S') : LR A B M C z S' T pc pk x y :=
  ⟨h.w, h.c.rx g (Or.inl rfl), h.m, by rw [g.1 _ _ (by omega)]; exact h.p1, by rw [g.1 _ _ (by omega)]; exact h.p2, h.p3, h.p4, h.g1, h.g2, h.b⟩
theorem DR.rx {S S' T : St} {pc pk : Int32} (h : DR A M C z S T pc pk) (g : RX 6 S S') : DR A M C z S' T pc pk :=
  ⟨h.w, h.c.rx g (Or.inl rfl), h.m, by rw [g.1 _ _ (by omega)]; exact h.p1, by rw [g.1 _ _ (by omega)]; exact h.p2, h.p3, h.p4, h.g1, h.g2⟩
theorem DR.lr {S T : St} {pc pk : Int32} (h : DR A M C z S T pc pk) (x y : Int32) : LR A A M C z S T pc pk x y :=
  ⟨h.w, h.c, h.m, h.p1, h.p2, h.p3, h.p4, h.g1, h.g2, Or.inl rfl⟩
/-- the class's single point -/
theorem C_44p {S : St} {x y pc pk : Int32} (hc : CR A M S) (h1 : S.1 2 5 = pc) (h2 : S.1 2 6 = pk) (ho : onS x y) : ∃ S', G_44 S x y x y = some ((), S') ∧ CR (dA A pc pk (16 * y + x).toNatClampNeg) M S' ∧ DF S S' := by
  have ho' := ho
  unfold onS at ho'
  have e : y * 16 + x = 16 * y + x := by rw [Int32.mul_comm]
  have hi : 0 ≤ 16 * y + x ∧ 16 * y + x < 192 := by grind
  obtain ⟨S1, a1, a2, a3⟩ := C_43 hc h1 h2 hi.1 hi.2
  refine ⟨S1, ?_, a2, a3⟩
  have x0 : x - x = 0 := by grind
  have y0 : y - y = 0 := by grind
  have m0 : (if (0 : Int32) ≤ 0 then (0 : Int32) else -0) = 0 := rfl
  have l0 : ¬ ((0 : Int32) < 0) := by decide
  have g0 : GL_44_0 xFu S1 x y x y 0 1 = some ((), S1) := by
    rw [show xFu = 999999 + 1 from rfl, GL_44_0, if_pos (by decide)]
  unfold G_44 G_2
  simp only [V_3, x0, y0, m0, if_neg l0, e, a1, g0]
end
/-! showing a picture -/
def KC (S S' : St) : Prop := (∀ c k, 7 ≤ c → S'.1 c k = S.1 c k) ∧ S'.2 = S.2
def KM (T T' : St) : Prop := (∀ c k, 33 ≤ c → T'.1 c k = T.1 c k) ∧ (∀ k, k ≠ 13 → k ≠ 14 → T'.1 29 k = T.1 29 k) ∧ T'.2 = T.2
theorem KC.refl (S : St) : KC S S := ⟨fun _ _ _ => rfl, rfl⟩
theorem KM.refl (S : St) : KM S S := ⟨fun _ _ _ => rfl, fun _ _ _ => rfl, rfl⟩
theorem KC.trans {S U V : St} (h : KC S U) (g : KC U V) : KC S V := ⟨fun c k a => (g.1 c k a).trans (h.1 c k a), g.2.trans h.2⟩
theorem KM.trans {S U V : St} (h : KM S U) (g : KM U V) : KM S V := ⟨fun c k a => (g.1 c k a).trans (h.1 c k a), fun k a b => (g.2.1 k a b).trans (h.2.1 k a b), g.2.2.trans h.2.2⟩
theorem DF.k {S S' : St} (h : DF S S') : KC S S' := ⟨fun c k a => h.1 c k (by omega) (by omega), h.2⟩
theorem DM.k {S S' : St} (h : DM S S') : KM S S' := ⟨fun c k a => h.1 c k (by omega) (by omega), fun k _ _ => h.1 29 k (by omega) (by omega), h.2⟩
theorem FC.k {S S' : St} (h : FC S S') : KC S S' := ⟨fun c k a => h.1 c k (by omega) (by omega) (by omega) (by omega), h.2⟩
theorem FM.k {S S' : St} (h : FM S S') : KM S S' := ⟨fun c k a => h.1 c k (by omega) (by omega) (by omega), fun k _ _ => h.1 29 k (by omega) (by omega) (by omega), h.2⟩
theorem RX.k {S S' : St} (h : RX 6 S S') : KC S S' := ⟨fun c k a => h.1 c k (by omega), h.2⟩
section
variable {A M C : Ab} {z : Option Nat × (Nat → Option Nat)}
theorem C_38b (hw : WF A) {S S4 : St} (hc : CR A M S) {p v y2 : Int32} (h0 : 0 ≤ p) (h1 : p < A 5 0) (hy : y2 = A 5 0) (hg : G_29 S 6 (bt A 0 p) = some (v, S4)) (n : Nat) : GL_38_0 (n + 1) S 15 y2 p = (if S4.1 6 2 = 0 then
      (match G_39 S4 with
      | none => none
      | some (v6, S6) => GL_38_0 n S6 15 y2 (p + 1))
    else if S4.1 6 0 = 246 then
      (match G_40 S4 (S4.1 6 5) (S4.1 6 6) with
      | none => none
      | some (v8, S8) => GL_38_0 n S8 15 y2 (p + 1))
    else
      (match G_44 S4 (S4.1 6 3) (S4.1 6 4) (S4.1 6 5) (S4.1 6 6) with
      | none => none
      | some (v9, S9) => GL_38_0 n S9 15 y2 (p + 1))) := by
  have h25 := C_25 hw hc (show 0 < 4 by decide) h0 h1
  have h25' : G_25 S 15 p = some (bt A 0 p, S) := h25
  rw [GL_38_0, if_neg (show ¬ y2 ≤ p by rw [hy]; grind), if_pos (kd_res (show 0 < 4 by decide)), h25']
  simp only [hg]
  rfl
theorem V_39n {S : St} (h : S.1 6 0 ≠ 240 ∧ S.1 6 0 ≠ 241 ∧ S.1 6 0 ≠ 242 ∧ S.1 6 0 ≠ 243) : G_39 S = some ((), S) := by
  unfold G_39; rw [if_neg h.1, if_neg h.2.1, if_neg h.2.2.1, if_neg h.2.2.2]
/-- within the points of a line -/
def Lx (S : St) (c x y p : Int32) : Prop :=
  (S.1 6 0 = c) ∧
  (2 ≤ S.1 6 8 ∧ S.1 6 8 ≤ p) ∧
  (c ≠ 245 → S.1 6 8 - S.1 6 8 / 2 * 2 = 0) ∧
  (S.1 6 5 = x) ∧
  (S.1 6 6 = y)
theorem Lx.cc {S : St} {c x y p : Int32} (h : Lx S c x y p) : S.1 6 0 = c := h.1
theorem Lx.t {S : St} {c x y p : Int32} (h : Lx S c x y p) : 2 ≤ S.1 6 8 ∧ S.1 6 8 ≤ p := h.2.1
theorem Lx.e {S : St} {c x y p : Int32} (h : Lx S c x y p) : c ≠ 245 → S.1 6 8 - S.1 6 8 / 2 * 2 = 0 := h.2.2.1
theorem Lx.px {S : St} {c x y p : Int32} (h : Lx S c x y p) : S.1 6 5 = x := h.2.2.2.1
theorem Lx.py {S : St} {c x y p : Int32} (h : Lx S c x y p) : S.1 6 6 = y := h.2.2.2.2
theorem Lx.k {S : St} {c x y p : Int32} (h : Lx S c x y p) (hc : c = 244 ∨ c = 245 ∨ c = 246) : cmpl S 6 := by
  refine ⟨fun h' => ?_, fun h' => ⟨h.t.1, h.e ?_⟩, fun _ => h.t.1⟩
  · rw [h.cc] at h'; grind
  · rw [h.cc] at h'; grind
/-- a further point, of a line or a fill: what the class reads -/
theorem S_pt (hw : WF A) {S : St} (hc : CR A M S) {c x y p y2 : Int32} (hc3 : c = 244 ∨ c = 246) (hl : Lx S c x y p) (h0 : 0 ≤ p) (hcol : 0 ≤ bt A 0 p ∧ bt A 0 p ≤ 15) (hrow : 0 ≤ bt A 0 (p + 1) ∧ bt A 0 (p + 1) ≤ 11) (hy : y2 = A 5 0) (n : Nat) : ∃ S2, RX 6 S S2 ∧ Lx S2 c (bt A 0 p) (bt A 0 (p + 1)) (p + 2) ∧ S2.1 6 3 = x ∧ S2.1 6 4 = y ∧ GL_38_0 (n + 2) S 15 y2 p = (if c = 246 then
      (match G_40 S2 (bt A 0 p) (bt A 0 (p + 1)) with
      | none => none
      | some (v8, S8) => GL_38_0 n S8 15 y2 (p + 2))
    else
      (match G_44 S2 x y (bt A 0 p) (bt A 0 (p + 1)) with
      | none => none
      | some (v9, S9) => GL_38_0 n S9 15 y2 (p + 2))) := by
  have hb := hw.b0 (show 0 < 4 by decide)
  have n6 := hb.n64
  have hp := hb.lt hcol.1
  have hp1 := hb.lt hrow.1
  have q5 : c ≠ 245 := by grind
  have hc4 : c = 244 ∨ c = 245 ∨ c = 246 := by grind
  have ht := hl.t
  have hev := hl.e q5
  obtain ⟨S1, g1, g2, g3, g4, g5, g6, g7, g8, g9⟩ := T_col kd6 (S := S) (v := bt A 0 p) (by rw [hl.cc]; exact hc4) (Or.inl (by grind)) (fun h => by rw [hl.cc] at h; exact absurd h q5) hev
  have hc1 := hc.rx g2 (Or.inl rfl)
  have hod : S1.1 6 8 - S1.1 6 8 / 2 * 2 = 1 := by
    rw [g6]
    rcases idv (t := S.1 6 8) (by grind) (by grind) with h | h
    · exact h.2
    · rw [h.1] at hev; exact absurd hev (by decide)
  obtain ⟨S2, k1, k2, k3⟩ := T_row kd6 (S := S1) (v := bt A 0 (p + 1)) (by rw [g3, hl.cc]; exact hc4) (fun h => by rw [g3, hl.cc] at h; exact absurd h q5) hod
  rw [g5] at k1 k3
  have qo : onS (bt A 0 p) (bt A 0 (p + 1)) := by unfold onS; grind
  have pt := k3 qo
  have a2 : p + 1 + 1 = p + 2 := by grind
  have t2 : 2 ≤ S1.1 6 8 := by rw [g6]; grind
  refine ⟨S2, g2.trans k2, ⟨by rw [pt.c, g3, hl.cc], by rw [pt.t, g6]; exact sm2 ht.1 ht.2 (by grind), fun _ => ?_, pt.px, pt.py⟩, by rw [pt.fx, if_pos t2, g8, hl.px], by rw [pt.fy, if_pos t2, g9, hl.py], ?_⟩
  · rw [pt.t]
    rcases idv (t := S1.1 6 8) (by rw [g6]; grind) (by rw [g6]; grind) with h | h
    · rw [h.1] at hod; exact absurd hod (by decide)
    · exact h.2
  · rw [show n + 2 = (n + 1) + 1 from rfl, C_38b hw hc h0 hp hy g1, if_pos g4, V_39n (by rw [g3, hl.cc]; grind)]
    simp only []
    rw [C_38b hw hc1 (by grind) hp1 hy k1, if_neg (by rw [pt.a]; decide), pt.c, g3, hl.cc, pt.px, pt.py, pt.fx, pt.fy, if_pos t2, if_pos t2, g8, g9, hl.px, hl.py, a2]
theorem Fu.s2 {n : Nat} {p : Int32} (h0 : 0 ≤ p) (h1 : p < 62) (h : Fu n p) : ∃ n', n = n' + 2 ∧ Fu n' (p + 2) ∧ (p + 2).toInt = p.toInt + 2 := by
  have a := ile h0; have b := ilt h1
  have h00 : (0 : Int32).toInt = 0 := rfl
  have h62 : (62 : Int32).toInt = 62 := rfl
  have h22 : (2 : Int32).toInt = 2 := rfl
  have e : (p + 2).toInt = p.toInt + 2 := by rw [iadd] <;> rw [h22] <;> omega
  unfold Fu at *
  exact ⟨n - 2, by omega, by omega, e⟩
theorem Fu.s2' {n : Nat} {p N : Int32} (h0 : 0 ≤ p) (h1 : p + 1 < N) (hN : N ≤ 64) (hpN : p < N) (h : Fu n p) : ∃ n', n = n' + 2 ∧ Fu n' (p + 2) ∧ (p + 2).toInt = p.toInt + 2 := by
  have a := ile h0; have b := ilt hpN; have c := ile hN
  have h00 : (0 : Int32).toInt = 0 := rfl
  have h64 : (64 : Int32).toInt = 64 := rfl
  have h22 : (2 : Int32).toInt = 2 := rfl
  have e : (p + 2).toInt = p.toInt + 2 := by rw [iadd] <;> rw [h22] <;> omega
  unfold Fu at *
  exact ⟨n - 2, by omega, by omega, e⟩
theorem chp_ok {b : Int32 → Int32} {p : Int32} (h0 : 0 ≤ p) (h1 : p < 1000) (h : chp b (-1) p = -1) : (0 ≤ b p ∧ b p ≤ 15) ∧ (0 ≤ b (p + 1) ∧ b (p + 1) ≤ 11) := by
  rw [chp_c h0 h1] at h
  by_cases q : 0 ≤ b p ∧ b p ≤ 15
  · rw [if_pos q] at h
    by_cases q2 : 0 ≤ b (p + 1) ∧ b (p + 1) ≤ 11
    · exact ⟨q, q2⟩
    · rw [if_neg q2] at h; grind
  · rw [if_neg q] at h; grind
/-- fills -/
theorem J_fill {pc pk y2 : Int32} {b : Int32 → Int32} (k : Nat) : ∀ (p x y x0 y0 : Int32) (A : Ab) (S T : St) (n m : Nat), bt A 0 = b → y2 = A 5 0 → (A 5 0).toInt - p.toInt < k → 0 ≤ p → p ≤ A 5 0 → DR A M C z S T pc pk → Lx S 246 x y p → Fu n p → k + 1 ≤ m → (plp b k 246 x0 y0 p).1 = -1 →
    ∃ (A' : Ab) (S' T' : St) (n' : Nat), GL_38_0 n S 15 y2 p = GL_38_0 n' S' 15 y2 (plp b k 246 x0 y0 p).2 ∧ GL_136_0 m T (plp b k 246 x0 y0 p).2 p = some ((), T') ∧ DR A' M C z S' T' pc pk ∧ Bd b 6 S' (plp b k 246 x0 y0 p).2 (S'.1 6 9) ∧ Fu n' (plp b k 246 x0 y0 p).2 ∧ RE A A' ∧ KC S S' ∧ KM T T' := by
  induction k with
  | zero =>
    intro p x y x0 y0 A S T n m _ _ hk h0 h1
    have := ile h1
    omega
  | succ k ih =>
    intro p x y x0 y0 A S T n m hbt hy hk h0 h1 hd hl hf hmf hok
    have hb := hd.w.b0 (show 0 < 4 by decide)
    have n6 := hb.n64
    subst hbt
    obtain ⟨m', rfl⟩ : ∃ m', m = m' + 1 := ⟨m - 1, by omega⟩
    rw [plp] at hok ⊢
    by_cases hend : bt A 0 p = -1 ∨ 240 ≤ bt A 0 p
    · rw [if_pos hend] at hok ⊢
      refine ⟨A, S, T, n, rfl, by rw [GL_136_0, if_pos (Int32.le_refl _)], hd, ⟨rfl, by rw [hl.cc]; decide, hl.k (by grind), fun _ => hend⟩, hf, RE.refl A, KC.refl S, KM.refl T⟩
    · rw [if_neg hend, if_neg (by decide)] at hok ⊢
      have hbp : 0 ≤ bt A 0 p ∧ bt A 0 p < 240 := by have := hb.in h0; grind
      have hp := hb.lt hbp.1
      by_cases q : chp (bt A 0) (-1) p = -1
      · rw [if_pos q] at hok ⊢
        obtain ⟨hcol, hrow⟩ := chp_ok h0 (by grind) q
        have hp1 := hb.lt hrow.1
        have s4 := sm4 h0 hp hp1 n6
        obtain ⟨n', rfl, hf', e2⟩ := hf.s2' h0 hp1 n6 hp
        obtain ⟨S2, g1, g2, _, _, g3⟩ := S_pt hd.w hd.c (Or.inr rfl) hl h0 hcol hrow hy n'
        have qo : onS (bt A 0 p) (bt A 0 (p + 1)) := by unfold onS; grind
        obtain ⟨A3, S3, T3, f1, f2, f3, f4, f5, f6⟩ := fill_b (hd.rx g1) qo
        have rg := plp_rg hb k 246 x0 y0 (p + 2) (by grind) s4.2
        have rg1 := rg.1 hok
        have hb3 : bt A3 0 = bt A 0 := (f6.b0 (by decide)).symm
        have hs3 : A3 5 0 = A 5 0 := (f6 0 (by decide)).1.symm
        have lk := ilt hp
        obtain ⟨A', S', T', n2, a1, a2, a3, a4, a5, a6, a7, a8⟩ := ih (p + 2) (bt A 0 p) (bt A 0 (p + 1)) x0 y0 A3 S3 T3 n' m' hb3 (by rw [hs3]; exact hy) (by rw [hs3]; omega) (by grind) (by rw [hs3]; exact s4.2) f3 ⟨by rw [f4.1 6 0 (by omega) (by omega) (by omega) (by omega)]; exact g2.cc, by rw [f4.1 6 8 (by omega) (by omega) (by omega) (by omega)]; exact g2.t, by rw [f4.1 6 8 (by omega) (by omega) (by omega) (by omega)]; exact g2.e, by rw [f4.1 6 5 (by omega) (by omega) (by omega) (by omega)]; exact g2.px, by rw [f4.1 6 6 (by omega) (by omega) (by omega) (by omega)]; exact g2.py⟩ hf' (by omega) hok
        refine ⟨A', S', T', n2, ?_, ?_, a3, a4, a5, f6.trans a6, (g1.k.trans f4.k).trans a7, f5.k.trans a8⟩
        · rw [g3, if_pos rfl, f1]
          exact a1
        · have m1 := M_118 hd.w hd.m (x := 0) (by decide) (by decide) h0
          have m2 := M_118 hd.w hd.m (x := 0) (by decide) (by decide) (show 0 ≤ p + 1 by grind)
          rw [show (0 : Int32).toNatClampNeg = 0 from rfl] at m1 m2
          have hlt : ¬ ((plp (bt A 0) k 246 x0 y0 (p + 2)).2 ≤ p) := by
            have := s4.1; have := rg1.1; grind
          rw [GL_136_0, if_neg hlt, m1]
          simp only [m2, f2]
          exact a2
      · rw [if_neg q] at hok
        exact absurd hok q
/-- lines -/
theorem J_line {pc pk y2 c : Int32} {b : Int32 → Int32} (hc45 : c = 244 ∨ c = 245) (k : Nat) : ∀ (p x y x0 y0 : Int32) (A B : Ab) (S T : St) (n m : Nat), bt A 0 = b → y2 = A 5 0 → (A 5 0).toInt - p.toInt < k → 0 ≤ p → p ≤ A 5 0 → LR A B M C z S T pc pk x y → onS x y → Lx S c x y p → (c = 245 → x0 = x ∧ y0 = y) → Fu n p → k + 1 ≤ m → (plp b k c x0 y0 p).1 = -1 → (p ≠ (plp b k c x0 y0 p).2 ∨ B = A) →
    ∃ (A' : Ab) (S' T' : St) (n' : Nat), GL_38_0 n S 15 y2 p = GL_38_0 n' S' 15 y2 (plp b k c x0 y0 p).2 ∧ GL_136_1 m T (plp b k c x0 y0 p).2 c x y p = some ((), T') ∧ DR A' M C z S' T' pc pk ∧ Bd b 6 S' (plp b k c x0 y0 p).2 (S'.1 6 9) ∧ Fu n' (plp b k c x0 y0 p).2 ∧ RE A A' ∧ KC S S' ∧ KM T T' := by
  have hc4 : c = 244 ∨ c = 245 ∨ c = 246 := by grind
  have n246 : ¬ c = 246 := by grind
  have n255 : c ≠ 255 := by grind
  induction k with
  | zero =>
    intro p x y x0 y0 A B S T n m _ _ hk h0 h1
    have := ile h1
    omega
  | succ k ih =>
    intro p x y x0 y0 A B S T n m hbt hy hk h0 h1 hd hon hl hxy hf hmf hok hpq
    have hb := hd.w.b0 (show 0 < 4 by decide)
    have n6 := hb.n64
    subst hbt
    -- the class's half sees the same bytes
    have hBre : RE A B := by
      rcases hd.b with h | h
      · rw [h]; exact RE.refl A
      · rw [h]; exact dA_RE A pc pk _
    have hBw : WF B := by
      rcases hd.b with h | h
      · rw [h]; exact hd.w
      · rw [h]; exact hd.w.d0 _ _ _
    have hBb : bt B 0 = bt A 0 := (hBre.b0 (by decide)).symm
    have hBs : B 5 0 = A 5 0 := (hBre 0 (by decide)).1.symm
    obtain ⟨m', rfl⟩ : ∃ m', m = m' + 1 := ⟨m - 1, by omega⟩
    rw [plp] at hok hpq ⊢
    by_cases hend : bt A 0 p = -1 ∨ 240 ≤ bt A 0 p
    · rw [if_pos hend] at hok hpq ⊢
      have hBA : B = A := by rcases hpq with h | h; exact absurd rfl h; exact h
      subst hBA
      refine ⟨B, S, T, n, rfl, by rw [GL_136_1, if_pos (Int32.le_refl _)], ⟨hd.w, hd.c, hd.m, hd.p1, hd.p2, hd.p3, hd.p4, hd.g1, hd.g2⟩, ⟨rfl, by rw [hl.cc]; exact n255, hl.k hc4, fun _ => hend⟩, hf, RE.refl B, KC.refl S, KM.refl T⟩
    · rw [if_neg hend] at hok hpq ⊢
      have hbp : 0 ≤ bt A 0 p ∧ bt A 0 p < 240 := by have := hb.in h0; grind
      have hp := hb.lt hbp.1
      have lk := ilt hp
      have m1 := M_118 hd.w hd.m (x := 0) (by decide) (by decide) h0
      rw [show (0 : Int32).toNatClampNeg = 0 from rfl] at m1
      by_cases q5 : c = 245
      · rw [if_pos q5] at hok hpq ⊢
        obtain ⟨hx0, hy0⟩ := hxy q5
        subst hx0
        subst hy0
        by_cases qo : onS (x0 + sh (bt A 0 p / 16)) (y0 + sh (bt A 0 p - bt A 0 p / 16 * 16))
        · rw [if_pos qo] at hok hpq ⊢
          obtain ⟨n', rfl, hf', e2⟩ := hf.s h0 (by grind)
          obtain ⟨S2, g1, g2, g3⟩ := T_step kd6 (S := S) (by rw [hl.cc, q5]) hl.t.1 hbp.2
          rw [hl.px, hl.py] at g1 g3
          have pt := g3 qo
          have g1' : G_29 S 6 (bt B 0 p) = some (if onS (x0 + sh (bt A 0 p / 16)) (y0 + sh (bt A 0 p - bt A 0 p / 16 * 16)) then 1 else 0, S2) := by rw [hBb]; exact g1
          obtain ⟨A3, S3, T3, f1, f2, f3, f4, f5, f6⟩ := line_r (hd.rx g2) hon qo
          have rg := plp_rg hb k c (x0 + sh (bt A 0 p / 16)) (y0 + sh (bt A 0 p - bt A 0 p / 16 * 16)) (p + 1) (by grind) (by grind)
          have rg1 := rg.1 hok
          have hb3 : bt A3 0 = bt A 0 := (f6.b0 (by decide)).symm
          have hs3 : A3 5 0 = A 5 0 := (f6 0 (by decide)).1.symm
          obtain ⟨A', S', T', n2, a1, a2, a3, a4, a5, a6, a7, a8⟩ := ih (p + 1) (x0 + sh (bt A 0 p / 16)) (y0 + sh (bt A 0 p - bt A 0 p / 16 * 16)) (x0 + sh (bt A 0 p / 16)) (y0 + sh (bt A 0 p - bt A 0 p / 16 * 16)) A3 A3 S3 T3 n' m' hb3 (by rw [hs3]; exact hy) (by rw [hs3]; omega) (by grind) (by rw [hs3]; grind) (f3.lr _ _) qo ⟨by rw [f4.1 6 0 (by omega) (by omega), pt.c]; exact hl.cc, by rw [f4.1 6 8 (by omega) (by omega), pt.t]; exact sm3 hl.t.1 hl.t.2 (by grind), fun h => absurd q5 h, by rw [f4.1 6 5 (by omega) (by omega)]; exact pt.px, by rw [f4.1 6 6 (by omega) (by omega)]; exact pt.py⟩ (fun _ => ⟨rfl, rfl⟩) hf' (by omega) hok (Or.inr rfl)
          refine ⟨A', S', T', n2, ?_, ?_, a3, a4, a5, f6.trans a6, (g2.k.trans f4.k).trans a7, f5.k.trans a8⟩
          · rw [C_38b hBw hd.c h0 (by rw [hBs]; exact hp) (by rw [hBs]; exact hy) g1', if_neg (by rw [pt.a]; decide), pt.c, hl.cc, if_neg n246, pt.fx, pt.fy, if_pos hl.t.1, if_pos hl.t.1, hl.px, hl.py, pt.px, pt.py, f1]
            exact a1
          · have hlt : ¬ ((plp (bt A 0) k c (x0 + sh (bt A 0 p / 16)) (y0 + sh (bt A 0 p - bt A 0 p / 16 * 16)) (p + 1)).2 ≤ p) := by
              have := rg1.1; grind
            rw [GL_136_1, if_neg hlt, if_neg (show ¬ c = 244 by rw [q5]; decide), m1]
            simp only [V_122, m1, f2]
            exact a2
        · rw [if_neg qo] at hok
          have hok : p = -1 := hok
          exfalso; grind
      · rw [if_neg q5] at hok hpq ⊢
        have q4 : c = 244 := by grind
        by_cases q : chp (bt A 0) (-1) p = -1
        · rw [if_pos q] at hok hpq ⊢
          obtain ⟨hcol, hrow⟩ := chp_ok h0 (by grind) q
          have hp1 := hb.lt hrow.1
          have s4 := sm4 h0 hp hp1 n6
          obtain ⟨n', rfl, hf', e2⟩ := hf.s2' h0 hp1 n6 hp
          obtain ⟨S2, g1, g2, _, _, g3⟩ := S_pt (y2 := y2) hBw hd.c (Or.inl q4) hl h0 (by rw [hBb]; exact hcol) (by rw [hBb]; exact hrow) (by rw [hBs]; exact hy) n'
          rw [hBb] at g2 g3
          have qo : onS (bt A 0 p) (bt A 0 (p + 1)) := by unfold onS; grind
          obtain ⟨A3, S3, T3, f1, f2, f3, f4, f5, f6⟩ := line_r (hd.rx g1) hon qo
          have rg := plp_rg hb k c x0 y0 (p + 2) (by grind) s4.2
          have rg1 := rg.1 hok
          have hb3 : bt A3 0 = bt A 0 := (f6.b0 (by decide)).symm
          have hs3 : A3 5 0 = A 5 0 := (f6 0 (by decide)).1.symm
          obtain ⟨A', S', T', n2, a1, a2, a3, a4, a5, a6, a7, a8⟩ := ih (p + 2) (bt A 0 p) (bt A 0 (p + 1)) x0 y0 A3 A3 S3 T3 n' m' hb3 (by rw [hs3]; exact hy) (by rw [hs3]; omega) (by grind) (by rw [hs3]; exact s4.2) (f3.lr _ _) qo ⟨by rw [f4.1 6 0 (by omega) (by omega)]; exact g2.cc, by rw [f4.1 6 8 (by omega) (by omega)]; exact g2.t, by rw [f4.1 6 8 (by omega) (by omega)]; exact g2.e, by rw [f4.1 6 5 (by omega) (by omega)]; exact g2.px, by rw [f4.1 6 6 (by omega) (by omega)]; exact g2.py⟩ (fun h => absurd h q5) hf' (by omega) hok (Or.inr rfl)
          refine ⟨A', S', T', n2, ?_, ?_, a3, a4, a5, f6.trans a6, (g1.k.trans f4.k).trans a7, f5.k.trans a8⟩
          · rw [g3, if_neg n246, f1]
            exact a1
          · have m2 := M_118 hd.w hd.m (x := 0) (by decide) (by decide) (show 0 ≤ p + 1 by grind)
            rw [show (0 : Int32).toNatClampNeg = 0 from rfl] at m2
            have hlt : ¬ ((plp (bt A 0) k c x0 y0 (p + 2)).2 ≤ p) := by
              have := s4.1; have := rg1.1; grind
            rw [GL_136_1, if_neg hlt, if_pos q4, m1]
            simp only [m2, f2]
            exact a2
        · rw [if_neg q] at hok
          exact absurd hok q
end
section
variable {A M C : Ab} {z : Option Nat × (Nat → Option Nat)}
/-- a command of points begins: its first point -/
theorem S_first (hw : WF A) {S : St} (hc : CR A M S) {p cnt y2 : Int32} (hbd : Bd (bt A 0) 6 S p cnt) (hv : 244 ≤ bt A 0 p ∧ bt A 0 p ≤ 246) (h0 : 0 ≤ p) (hcol : 0 ≤ bt A 0 (p + 1) ∧ bt A 0 (p + 1) ≤ 15) (hrow : 0 ≤ bt A 0 (p + 2) ∧ bt A 0 (p + 2) ≤ 11) (hy : y2 = A 5 0) (n : Nat) : ∃ S3, RX 6 S S3 ∧ Lx S3 (bt A 0 p) (bt A 0 (p + 1)) (bt A 0 (p + 2)) (p + 3) ∧ GL_38_0 (n + 3) S 15 y2 p = (if bt A 0 p = 246 then
      (match G_40 S3 (bt A 0 (p + 1)) (bt A 0 (p + 2)) with
      | none => none
      | some (v8, S8) => GL_38_0 n S8 15 y2 (p + 3))
    else
      (match G_44 S3 (bt A 0 (p + 1)) (bt A 0 (p + 2)) (bt A 0 (p + 1)) (bt A 0 (p + 2)) with
      | none => none
      | some (v9, S9) => GL_38_0 n S9 15 y2 (p + 3))) := by
  have hb := hw.b0 (show 0 < 4 by decide)
  have n6 := hb.n64
  have hp := hb.lt (p := p) (by grind)
  have hp1 := hb.lt hcol.1
  have hp2 := hb.lt hrow.1
  have a2 : p + 1 + 1 = p + 2 := by grind
  have a3 : p + 2 + 1 = p + 3 := by grind
  have c3 : bt A 0 p = 244 ∨ bt A 0 p = 245 ∨ bt A 0 p = 246 := by grind
  obtain ⟨S1, g1, g2, g3, g4, g5, g6, g7⟩ := T_begin kd6 hbd.c hbd.k (v := bt A 0 p) (by grind) hv.2
  have hc1 := hc.rx g2 (Or.inl rfl)
  obtain ⟨S2, k1, k2, k3, k4, k5, k6, k7, k8, k9⟩ := T_col kd6 (S := S1) (v := bt A 0 (p + 1)) (by rw [g3]; exact c3) (Or.inr (by rw [g6]; decide)) (fun _ => by rw [g6]; decide) (by rw [g6]; decide)
  have hc2 := hc1.rx k2 (Or.inl rfl)
  have t1 : S2.1 6 8 = 1 := by rw [k6, g6]; try rfl
  obtain ⟨S3, j1, j2, j3⟩ := T_row kd6 (S := S2) (v := bt A 0 (p + 2)) (by rw [k3, g3]; exact c3) (fun _ => by rw [t1]; decide) (by rw [t1]; decide)
  rw [k5] at j1 j3
  have qo : onS (bt A 0 (p + 1)) (bt A 0 (p + 2)) := by unfold onS; grind
  have pt := j3 qo
  have t2 : S3.1 6 8 = 2 := by rw [pt.t, t1]; try rfl
  have n2 : ¬ (2 ≤ S2.1 6 8) := by rw [t1]; decide
  refine ⟨S3, (g2.trans k2).trans j2, ⟨by rw [pt.c, k3, g3], by rw [t2]; grind, fun _ => by rw [t2]; decide, pt.px, pt.py⟩, ?_⟩
  rw [show n + 3 = (n + 1 + 1) + 1 from rfl, C_38b hw hc h0 hp hy g1, if_pos g5, V_39n (by rw [g3]; grind)]
  simp only []
  rw [C_38b hw hc1 (by grind) hp1 hy k1, if_pos k4, V_39n (by rw [k3, g3]; grind), a2]
  simp only []
  rw [C_38b hw hc2 (by grind) hp2 hy j1, if_neg (by rw [pt.a]; decide), pt.c, k3, g3, pt.px, pt.py, pt.fx, pt.fy, if_neg n2, if_neg n2, a3]
  try rfl
theorem Fu.s3 {n : Nat} {p N : Int32} (h0 : 0 ≤ p) (hpN : p < N) (hN : N ≤ 64) (h : Fu n p) : ∃ n', n = n' + 3 ∧ Fu n' (p + 3) ∧ (p + 3).toInt = p.toInt + 3 := by
  have a := ile h0; have b := ilt hpN; have c := ile hN
  have h00 : (0 : Int32).toInt = 0 := rfl
  have h64 : (64 : Int32).toInt = 64 := rfl
  have h33 : (3 : Int32).toInt = 3 := rfl
  have e : (p + 3).toInt = p.toInt + 3 := by rw [iadd] <;> rw [h33] <;> omega
  unfold Fu at *
  exact ⟨n - 3, by omega, by omega, e⟩
/-- a pen changes on both sides -/
theorem DR.pen1 {S T : St} {pc pk : Int32} (h : DR A M C z S T pc pk) (v : Int32) (hv : -1 ≤ v) : DR A M C z (xa_u S.1 2 5 v, S.2) (xa_u T.1 29 13 v, T.2) v pk := by
  refine ⟨h.w, h.c.up (by unfold cpv; omega) v, h.m.up (by unfold mpv; omega) v, ?_, ?_, ?_, ?_, hv, h.g2⟩
  · show xa_u S.1 2 5 v 2 5 = v; exact xa_e
  · show xa_u S.1 2 5 v 2 6 = pk; rw [xa_c (by omega)]; exact h.p2
  · show xa_u T.1 29 13 v 29 13 = v; exact xa_e
  · show xa_u T.1 29 13 v 29 14 = pk; rw [xa_c (by omega)]; exact h.p4
theorem DR.pen2 {S T : St} {pc pk : Int32} (h : DR A M C z S T pc pk) (v : Int32) (hv : -1 ≤ v) : DR A M C z (xa_u S.1 2 6 v, S.2) (xa_u T.1 29 14 v, T.2) pc v := by
  refine ⟨h.w, h.c.up (by unfold cpv; omega) v, h.m.up (by unfold mpv; omega) v, ?_, ?_, ?_, ?_, h.g1, hv⟩
  · show xa_u S.1 2 6 v 2 5 = pc; rw [xa_c (by omega)]; exact h.p1
  · show xa_u S.1 2 6 v 2 6 = v; exact xa_e
  · show xa_u T.1 29 14 v 29 13 = pc; rw [xa_c (by omega)]; exact h.p3
  · show xa_u T.1 29 14 v 29 14 = v; exact xa_e
theorem KC.u {S : St} {k : Nat} {v : Int32} : KC S (xa_u S.1 2 k v, S.2) := ⟨fun c j h => xa_c (by omega), rfl⟩
theorem KM.u {T : St} {k : Nat} {v : Int32} (hk : k = 13 ∨ k = 14) : KM T (xa_u T.1 29 k v, T.2) := ⟨fun c j h => by show xa_u T.1 29 k v c j = _; exact xa_c (by omega), fun j h1 h2 => by show xa_u T.1 29 k v 29 j = _; exact xa_c (by omega), rfl⟩
theorem show_cmd {S T : St} {p cnt y2 pc pk : Int32} {n : Nat} (hd : DR A M C z S T pc pk) (hy : y2 = A 5 0) (h0 : 0 ≤ p) (hbd : Bd (bt A 0) 6 S p cnt) (hf : Fu n p) (h255 : bt A 0 p ≠ 255) (hok : (pcm (bt A 0) p).1 = -1) : ∃ (A' : Ab) (S' T' : St) (n' : Nat) (pc' pk' : Int32), GL_38_0 n S 15 y2 p = GL_38_0 n' S' 15 y2 (pcm (bt A 0) p).2 ∧ G_136 T p (pcm (bt A 0) p).2 = some ((), T') ∧ DR A' M C z S' T' pc' pk' ∧ Bd (bt A 0) 6 S' (pcm (bt A 0) p).2 (S'.1 6 9) ∧ Fu n' (pcm (bt A 0) p).2 ∧ RE A A' ∧ KC S S' ∧ KM T T' := by
  have hw := hd.w
  have hb := hw.b0 (show 0 < 4 by decide)
  have n6 := hb.n64
  have l6 := ile n6
  have h64 : (64 : Int32).toInt = 64 := rfl
  have h00 : (0 : Int32).toInt = 0 := rfl
  have lp0 := ile h0
  have z0 : (0 : Int32).toNatClampNeg = 0 := rfl
  have m0 := M_118 hw hd.m (x := 0) (by decide) (by decide) h0
  rw [z0] at m0
  have hbv : 240 ≤ bt A 0 p ∧ bt A 0 p ≤ 246 := by
    by_cases q : 240 ≤ bt A 0 p ∧ bt A 0 p ≤ 246
    · exact q
    · unfold pcm at hok
      rw [if_neg (by grind), if_neg (by grind), if_neg (by grind)] at hok
      have hok : p = -1 := hok
      exfalso; grind
  have hp := hb.lt (p := p) (by grind)
  have m1 := M_118 hw hd.m (x := 0) (by decide) (by decide) (show 0 ≤ p + 1 by grind)
  have m2 := M_118 hw hd.m (x := 0) (by decide) (by decide) (show 0 ≤ p + 2 by grind)
  rw [z0] at m1 m2
  obtain ⟨S1, g1, g2, g3, g4, g5, g6, g7⟩ := T_begin kd6 hbd.c hbd.k hbv.1 hbv.2
  have hd1 := hd.rx g2
  have hc1 := hd1.c
  unfold pcm at hok ⊢
  by_cases c1 : bt A 0 p = 241 ∨ bt A 0 p = 243
  · rw [if_pos c1] at hok ⊢
    obtain ⟨n', rfl, hf', e1⟩ := hf.s h0 (by grind)
    have step := C_38b hw hd.c h0 hp hy g1 n'
    rw [if_pos g5] at step
    unfold G_136
    rw [m0]
    simp only []
    rcases c1 with c1 | c1
    · rw [c1, if_neg (by decide), if_pos rfl]
      have g39 : G_39 S1 = some ((), (xa_u S1.1 2 5 (-1), S1.2)) := by
        unfold G_39; rw [g3, c1, if_neg (by decide), if_pos rfl]
      rw [g39] at step
      refine ⟨A, _, _, n', -1, pk, step, rfl, hd1.pen1 (-1) (by decide), ⟨rfl, ?_, ⟨fun h => ?_, fun h => ?_, fun h => ?_⟩, fun h => ?_⟩, hf', RE.refl A, g2.k.trans KC.u, KM.u (Or.inl rfl)⟩
      · show xa_u S1.1 2 5 (-1) 6 0 ≠ 255
        rw [xa_c (by omega), g3, c1]; decide
      all_goals
        exfalso
        have e : xa_u S1.1 2 5 (-1) 6 0 = 241 := by rw [xa_c (by omega), g3, c1]
        simp only [e] at h
        revert h; decide
    · rw [c1, if_neg (by decide), if_neg (by decide), if_neg (by decide), if_pos rfl]
      have g39 : G_39 S1 = some ((), (xa_u S1.1 2 6 (-1), S1.2)) := by
        unfold G_39; rw [g3, c1, if_neg (by decide), if_neg (by decide), if_neg (by decide), if_pos rfl]
      rw [g39] at step
      refine ⟨A, _, _, n', pc, -1, step, rfl, hd1.pen2 (-1) (by decide), ⟨rfl, ?_, ⟨fun h => ?_, fun h => ?_, fun h => ?_⟩, fun h => ?_⟩, hf', RE.refl A, g2.k.trans KC.u, KM.u (Or.inr rfl)⟩
      · show xa_u S1.1 2 6 (-1) 6 0 ≠ 255
        rw [xa_c (by omega), g3, c1]; decide
      all_goals
        exfalso
        have e : xa_u S1.1 2 6 (-1) 6 0 = 243 := by rw [xa_c (by omega), g3, c1]
        simp only [e] at h
        revert h; decide
  · rw [if_neg c1] at hok ⊢
    by_cases c2 : bt A 0 p = 240 ∨ bt A 0 p = 242
    · rw [if_pos c2] at hok ⊢
      have hn := (chk_ok (b := bt A 0) (show 0 ≤ p + 1 by grind)).mp hok
      have hp1 := hb.lt hn.1
      obtain ⟨n', rfl, hf', e1⟩ := hf.s2' h0 hp1 n6 hp
      have a2 : p + 1 + 1 = p + 2 := by grind
      have step := C_38b hw hd.c h0 hp hy g1 (n' + 1)
      rw [if_pos g5] at step
      unfold G_136
      rw [m0]
      simp only [m1]
      -- the pen's cell
      have go : ∀ f : Nat, (f = 5 ∨ f = 6) → (∀ X : St, X.1 6 0 = bt A 0 p → G_39 X = some ((), (xa_u X.1 2 f (X.1 6 1), X.2))) → ∃ S3, GL_38_0 (n' + 2) S 15 y2 p = GL_38_0 n' (xa_u S3.1 2 f (bt A 0 (p + 1)), S3.2) 15 y2 (p + 2) ∧ CR A M S3 ∧ KC S S3 ∧ (∀ k, k ≠ f → S3.1 2 k = S.1 2 k) ∧ S3.1 6 0 = bt A 0 p ∧ S3.1 6 8 = 1 ∧ (∀ c k, c ≠ 2 → c ≠ 6 → S3.1 c k = S.1 c k) := by
        intro f hf2 h39
        rw [h39 S1 g3] at step
        have e6 : ∀ k, ((xa_u S1.1 2 f (S1.1 6 1), S1.2) : St).1 6 k = S1.1 6 k := fun k => by show xa_u S1.1 2 f (S1.1 6 1) 6 k = _; exact xa_c (by omega)
        have hc2 : CR A M (xa_u S1.1 2 f (S1.1 6 1), S1.2) := hc1.up (by unfold cpv; omega) _
        obtain ⟨S3, k1, k2, k3⟩ := T_pen kd6 (S := (xa_u S1.1 2 f (S1.1 6 1), S1.2)) (by rw [e6, g3]; exact c2) (by rw [e6]; exact g6) (bt A 0 (p + 1))
        have k3 := k3 hn.2
        have step2 := C_38b hw hc2 (show 0 ≤ p + 1 by grind) hp1 hy k1 n'
        rw [if_pos k3.2.2.1, h39 S3 (by rw [k3.1, e6, g3]), k3.2.1, a2] at step2
        refine ⟨S3, ?_, hc2.rx k2 (Or.inl rfl), (g2.k.trans KC.u).trans k2.k, fun k hk => ?_, by rw [k3.1, e6, g3], k3.2.2.2.1, fun c k hc6 hc6' => ?_⟩
        · rw [step]; exact step2
        · rw [k2.1 2 k (by omega)]
          show xa_u S1.1 2 f (S1.1 6 1) 2 k = _
          rw [xa_c (by omega), g2.1 2 k (by omega)]
        · rw [k2.1 c k hc6']
          show xa_u S1.1 2 f (S1.1 6 1) c k = _
          rw [xa_c (by omega), g2.1 c k hc6']
      rcases c2 with c2 | c2
      · rw [c2, if_pos rfl]
        obtain ⟨S3, b1, b2, b3, b4, b5, b6, b7⟩ := go 5 (Or.inl rfl) (fun X hX => by unfold G_39; rw [hX, c2, if_pos rfl])
        have hd3 : DR A M C z (xa_u S3.1 2 5 (bt A 0 (p + 1)), S3.2) (xa_u T.1 29 13 (bt A 0 (p + 1)), T.2) (bt A 0 (p + 1)) pk := by
          refine ⟨hw, b2.up (by unfold cpv; omega) _, hd.m.up (by unfold mpv; omega) _, ?_, ?_, ?_, ?_, by grind, hd.g2⟩
          · show xa_u S3.1 2 5 (bt A 0 (p + 1)) 2 5 = _; exact xa_e
          · show xa_u S3.1 2 5 (bt A 0 (p + 1)) 2 6 = _; rw [xa_c (by omega), b4 6 (by omega)]; exact hd.p2
          · show xa_u T.1 29 13 (bt A 0 (p + 1)) 29 13 = _; exact xa_e
          · show xa_u T.1 29 13 (bt A 0 (p + 1)) 29 14 = _; rw [xa_c (by omega)]; exact hd.p4
        have e0 : xa_u S3.1 2 5 (bt A 0 (p + 1)) 6 0 = 240 := by rw [xa_c (by omega), b5, c2]
        have e8 : xa_u S3.1 2 5 (bt A 0 (p + 1)) 6 8 = 1 := by rw [xa_c (by omega), b6]
        refine ⟨A, _, _, n', _, pk, b1, rfl, hd3, ⟨rfl, ?_, ⟨fun _ => e8, fun h => ?_, fun h => ?_⟩, fun h => ?_⟩, hf', RE.refl A, b3.trans KC.u, KM.u (Or.inl rfl)⟩
        · show xa_u S3.1 2 5 (bt A 0 (p + 1)) 6 0 ≠ 255
          rw [e0]; decide
        all_goals
          exfalso
          simp only [e0] at h
          revert h; decide
      · rw [c2, if_neg (by decide), if_neg (by decide), if_pos rfl]
        obtain ⟨S3, b1, b2, b3, b4, b5, b6, b7⟩ := go 6 (Or.inr rfl) (fun X hX => by unfold G_39; rw [hX, c2, if_neg (by decide), if_neg (by decide), if_pos rfl])
        have hd3 : DR A M C z (xa_u S3.1 2 6 (bt A 0 (p + 1)), S3.2) (xa_u T.1 29 14 (bt A 0 (p + 1)), T.2) pc (bt A 0 (p + 1)) := by
          refine ⟨hw, b2.up (by unfold cpv; omega) _, hd.m.up (by unfold mpv; omega) _, ?_, ?_, ?_, ?_, hd.g1, by grind⟩
          · show xa_u S3.1 2 6 (bt A 0 (p + 1)) 2 5 = _; rw [xa_c (by omega), b4 5 (by omega)]; exact hd.p1
          · show xa_u S3.1 2 6 (bt A 0 (p + 1)) 2 6 = _; exact xa_e
          · show xa_u T.1 29 14 (bt A 0 (p + 1)) 29 13 = _; rw [xa_c (by omega)]; exact hd.p3
          · show xa_u T.1 29 14 (bt A 0 (p + 1)) 29 14 = _; exact xa_e
        have e0 : xa_u S3.1 2 6 (bt A 0 (p + 1)) 6 0 = 242 := by rw [xa_c (by omega), b5, c2]
        have e8 : xa_u S3.1 2 6 (bt A 0 (p + 1)) 6 8 = 1 := by rw [xa_c (by omega), b6]
        refine ⟨A, _, _, n', pc, _, b1, rfl, hd3, ⟨rfl, ?_, ⟨fun _ => e8, fun h => ?_, fun h => ?_⟩, fun h => ?_⟩, hf', RE.refl A, b3.trans KC.u, KM.u (Or.inr rfl)⟩
        · show xa_u S3.1 2 6 (bt A 0 (p + 1)) 6 0 ≠ 255
          rw [e0]; decide
        all_goals
          exfalso
          simp only [e0] at h
          revert h; decide
    · have c3 : 244 ≤ bt A 0 p ∧ bt A 0 p ≤ 246 := by grind
      rw [if_neg c2, if_pos c3] at hok ⊢
      by_cases qp : chp (bt A 0) (-1) (p + 1) = -1
      · rw [if_pos qp] at hok ⊢
        obtain ⟨hcol, hrow⟩ := chp_ok (show 0 ≤ p + 1 by grind) (by grind) qp
        have a2 : p + 1 + 1 = p + 2 := by grind
        rw [a2] at hrow
        have hp1 := hb.lt hcol.1
        have hp2 := hb.lt hrow.1
        have hp3 : p + 3 ≤ A 5 0 := by grind
        have qo : onS (bt A 0 (p + 1)) (bt A 0 (p + 2)) := by unfold onS; grind
        obtain ⟨n', rfl, hf', e3⟩ := hf.s3 h0 hp n6
        obtain ⟨S3, r1, r2, r3⟩ := S_first hw hd.c hbd c3 h0 hcol hrow hy n'
        have hd3 := hd.rx r1
        have rg := (plp_rg hb 70 (bt A 0 p) (bt A 0 (p + 1)) (bt A 0 (p + 2)) (p + 3) (by grind) hp3).1 hok
        have e0 : ¬ bt A 0 p = 240 := by grind
        have e1 : ¬ bt A 0 p = 241 := by grind
        have e2 : ¬ bt A 0 p = 242 := by grind
        have e4 : ¬ bt A 0 p = 243 := by grind
        have l3 := ile (show (0 : Int32) ≤ p + 3 by grind)
        by_cases q6 : bt A 0 p = 246
        · obtain ⟨A4, S4, T4, f1, f2, f3, f4, f5, f6⟩ := fill_b hd3 qo
          have hb4 : bt A4 0 = bt A 0 := (f6.b0 (by decide)).symm
          have hs4 : A4 5 0 = A 5 0 := (f6 0 (by decide)).1.symm
          have hlx : Lx S4 246 (bt A 0 (p + 1)) (bt A 0 (p + 2)) (p + 3) := by
            rw [q6] at r2
            exact ⟨by rw [f4.1 6 0 (by omega) (by omega) (by omega) (by omega)]; exact r2.cc, by rw [f4.1 6 8 (by omega) (by omega) (by omega) (by omega)]; exact r2.t, by rw [f4.1 6 8 (by omega) (by omega) (by omega) (by omega)]; exact r2.e, by rw [f4.1 6 5 (by omega) (by omega) (by omega) (by omega)]; exact r2.px, by rw [f4.1 6 6 (by omega) (by omega) (by omega) (by omega)]; exact r2.py⟩
          have hok' := hok
          rw [q6] at hok'
          obtain ⟨A', S', T', n2, a1, a2', a3, a4, a5, a6, a7, a8⟩ := J_fill (M := M) (C := C) (z := z) (y2 := y2) 70 (p + 3) (bt A 0 (p + 1)) (bt A 0 (p + 2)) (bt A 0 (p + 1)) (bt A 0 (p + 2)) A4 S4 T4 n' 999999 hb4 (by rw [hs4]; exact hy) (by rw [hs4]; omega) (by grind) (by rw [hs4]; exact hp3) f3 hlx hf' (by decide) hok'
          have hlt : ¬ ((plp (bt A 0) 70 246 (bt A 0 (p + 1)) (bt A 0 (p + 2)) (p + 3)).2 ≤ p + 1) := by
            rw [q6] at rg
            have := rg.1; grind
          rw [r3, if_pos q6, f1]
          simp only []
          unfold G_136
          rw [m0]
          simp only [if_neg e0, if_neg e1, if_neg e2, if_neg e4, if_pos q6]
          rw [q6] at rg ⊢
          refine ⟨A', S', T', n2, pc, pk, a1, ?_, a3, a4, a5, f6.trans a6, (r1.k.trans f4.k).trans a7, f5.k.trans a8⟩
          rw [show xFu = 999999 + 1 from rfl, GL_136_0, if_neg hlt, m1]
          have a3' : p + 1 + 2 = p + 3 := by grind
          simp only [a2, m2, f2, a3']
          exact a2'
        · have c45 : bt A 0 p = 244 ∨ bt A 0 p = 245 := by grind
          rw [r3, if_neg q6]
          unfold G_136
          rw [m0]
          simp only [if_neg e0, if_neg e1, if_neg e2, if_neg e4, if_neg q6, m1, m2]
          by_cases qq : (plp (bt A 0) 70 (bt A 0 p) (bt A 0 (p + 1)) (bt A 0 (p + 2)) (p + 3)).2 = p + 3
          · obtain ⟨A4, S4, T4, f1, f2, f3, f4, f5, f6⟩ := line_b hd3 qo qo
            have hb4 : bt A4 0 = bt A 0 := (f6.b0 (by decide)).symm
            have hs4 : A4 5 0 = A 5 0 := (f6 0 (by decide)).1.symm
            have hlx : Lx S4 (bt A 0 p) (bt A 0 (p + 1)) (bt A 0 (p + 2)) (p + 3) := ⟨by rw [f4.1 6 0 (by omega) (by omega)]; exact r2.cc, by rw [f4.1 6 8 (by omega) (by omega)]; exact r2.t, by rw [f4.1 6 8 (by omega) (by omega)]; exact r2.e, by rw [f4.1 6 5 (by omega) (by omega)]; exact r2.px, by rw [f4.1 6 6 (by omega) (by omega)]; exact r2.py⟩
            obtain ⟨A', S', T', n2, a1, a2', a3, a4, a5, a6, a7, a8⟩ := J_line (M := M) (C := C) (z := z) (y2 := y2) c45 70 (p + 3) (bt A 0 (p + 1)) (bt A 0 (p + 2)) (bt A 0 (p + 1)) (bt A 0 (p + 2)) A4 A4 S4 T4 n' xFu hb4 (by rw [hs4]; exact hy) (by rw [hs4]; omega) (by grind) (by rw [hs4]; exact hp3) (f3.lr _ _) qo hlx (fun _ => ⟨rfl, rfl⟩) hf' (by decide) hok (Or.inr rfl)
            rw [if_pos qq, f1, f2]
            exact ⟨A', S', T', n2, pc, pk, a1, a2', a3, a4, a5, f6.trans a6, (r1.k.trans f4.k).trans a7, f5.k.trans a8⟩
          · obtain ⟨S4, f1, f2, f4⟩ := C_44p hd3.c hd3.p1 hd3.p2 qo
            have hlr : LR A (dA A pc pk (16 * bt A 0 (p + 2) + bt A 0 (p + 1)).toNatClampNeg) M C z S4 T pc pk (bt A 0 (p + 1)) (bt A 0 (p + 2)) := ⟨hw, f2, hd.m, by rw [f4.1 2 5 (by omega) (by omega)]; exact hd3.p1, by rw [f4.1 2 6 (by omega) (by omega)]; exact hd3.p2, hd.p3, hd.p4, hd.g1, hd.g2, Or.inr rfl⟩
            have hlx : Lx S4 (bt A 0 p) (bt A 0 (p + 1)) (bt A 0 (p + 2)) (p + 3) := ⟨by rw [f4.1 6 0 (by omega) (by omega)]; exact r2.cc, by rw [f4.1 6 8 (by omega) (by omega)]; exact r2.t, by rw [f4.1 6 8 (by omega) (by omega)]; exact r2.e, by rw [f4.1 6 5 (by omega) (by omega)]; exact r2.px, by rw [f4.1 6 6 (by omega) (by omega)]; exact r2.py⟩
            obtain ⟨A', S', T', n2, a1, a2', a3, a4, a5, a6, a7, a8⟩ := J_line (M := M) (C := C) (z := z) (y2 := y2) c45 70 (p + 3) (bt A 0 (p + 1)) (bt A 0 (p + 2)) (bt A 0 (p + 1)) (bt A 0 (p + 2)) A _ S4 T n' xFu rfl hy (by omega) (by grind) hp3 hlr qo hlx (fun _ => ⟨rfl, rfl⟩) hf' (by decide) hok (Or.inl (fun h => qq h.symm))
            rw [if_neg qq, f1]
            exact ⟨A', S', T', n2, pc, pk, a1, a2', a3, a4, a5, a6, (r1.k.trans f4.k).trans a7, a8⟩
      · rw [if_neg qp] at hok
        exact absurd hok qp
theorem show_l {y2 : Int32} {b : Int32 → Int32} {sz : Int32} {m : Nat} (hPP : PP b m) (h255 : b (ps b m) = 255) (hend : ps b m + 1 = sz) : ∀ (k i : Nat) (A : Ab) (S T : St) (n f : Nat) (pc pk : Int32), i + k = m → bt A 0 = b → A 5 0 = sz → y2 = sz → DR A M C z S T pc pk → A 6 0 ≠ 0 → T.1 29 7 = -1 → Bd b 6 S (ps b i) (S.1 6 9) → Fu n (ps b i) → k + 2 ≤ f → ∃ (A' : Ab) (S' T' : St), GL_38_0 n S 15 y2 (ps b i) = some ((), S') ∧ GL_135_0 f T (ps b i) = some ((), T') ∧ CR A' M S' ∧ MR A' C z T' ∧ WF A' ∧ RE A A' ∧ KC S S' ∧ KM T T' := by
  have z0 : (0 : Int32).toNatClampNeg = 0 := rfl
  intro k
  induction k with
  | zero =>
    intro i A S T n f pc pk him hbt hsz hy hd hl hww hbd hf hff
    have him : i = m := by omega
    subst him
    subst hbt
    subst hsz
    have hb := hd.w.b0 (show 0 < 4 by decide)
    have n6 := hb.n64
    have g := ps_rg hb i hPP
    have hp := hb.lt (p := ps (bt A 0) i) (by rw [h255]; decide)
    obtain ⟨f', rfl⟩ : ∃ f', f = f' + 1 := ⟨f - 1, by omega⟩
    obtain ⟨n1, rfl, hf1, e1⟩ := hf.s g.2.2 (by grind)
    obtain ⟨n2, rfl⟩ := hf1.p (by grind)
    obtain ⟨S1, g1, g2, g3, g4, g5⟩ := T_end kd6 hbd.c hbd.k
    rw [← h255] at g1
    have m0 := M_118 hd.w hd.m (x := 0) (by decide) (by decide) g.2.2
    rw [z0] at m0
    refine ⟨A, S1, T, ?_, ?_, hd.c.rx g2 (Or.inl rfl), hd.m, hd.w, RE.refl A, g2.k, KM.refl T⟩
    · rw [C_38b hd.w hd.c g.2.2 hp hy g1, if_pos g4, V_39n (by rw [g3]; decide)]
      simp only []
      rw [GL_38_0, if_pos (by rw [hy, ← hend]; exact Int32.le_refl _)]
    · rw [GL_135_0, z0, hd.m.lod 0 (by decide), if_neg hl, m0]
      simp only [if_pos h255]
  | succ k ih =>
    intro i A S T n f pc pk him hbt hsz hy hd hl hww hbd hf hff
    subst hbt
    subst hsz
    have hb := hd.w.b0 (show 0 < 4 by decide)
    have hi := hPP i (by omega)
    have g := ps_rg hb i (fun j hj => hPP j (by omega))
    obtain ⟨f', rfl⟩ : ∃ f', f = f' + 1 := ⟨f - 1, by omega⟩
    obtain ⟨A1, S1, T1, n1, pc1, pk1, a1, a2, a3, a4, a5, a6, a7, a8⟩ := show_cmd hd hy g.2.2 hbd hf hi.1 hi.2
    have m0 := M_118 hd.w hd.m (x := 0) (by decide) (by decide) g.2.2
    rw [z0] at m0
    obtain ⟨q, b1, b2⟩ := M_119 hd.w (x := 0) (by decide) (by decide) hd.m g.2.2 g.2.1
    rw [z0] at b1 b2
    rw [tw_s hww, hi.2, tw_s hww] at b1
    have b2 := b2 hi.2
    subst b2
    have hb1 : bt A1 0 = bt A 0 := (a6.b0 (by decide)).symm
    have hs1 : A1 5 0 = A 5 0 := (a6 0 (by decide)).1.symm
    have hl1 : A1 6 0 ≠ 0 := by rw [← (a6 0 (by decide)).2.1]; exact hl
    obtain ⟨A2, S2, T2, c1, c2, c3, c4, c5, c6, c7, c8⟩ := ih (i + 1) A1 S1 T1 n1 f' pc1 pk1 (by omega) hb1 hs1 hy a3 hl1 (by rw [a8.2.1 7 (by omega) (by omega)]; exact hww) a4 a5 (by omega)
    refine ⟨A2, S2, T2, ?_, ?_, c3, c4, c5, a6.trans c6, a7.trans c7, a8.trans c8⟩
    · rw [a1]; exact c1
    · rw [GL_135_0, z0, hd.m.lod 0 (by decide), if_neg hl, m0]
      simp only [if_neg hi.1, b1, a2]
      exact c2
theorem show_b {S T : St} (hw : WF A) (hc : CR A M S) (hm : MR A C z T) (hww : T.1 29 7 = -1) : ∃ (A' : Ab) (S' T' : St), G_38 S 15 = some ((), S') ∧ G_135 T = some ((), T') ∧ CR A' M S' ∧ MR A' C z T' ∧ WF A' ∧ RE A A' ∧ KC S S' ∧ KM T T' := by
  have z0 : (0 : Int32).toNatClampNeg = 0 := rfl
  obtain ⟨S1, S2, T1, a1, a2, a3, a4, a5, a6, a7⟩ := blank_b hw hc hm
  have bl := blA_WF hw
  have hTk : KM T T1 := by
    have hz : T1.2 = T.2 := by rw [a4.m.fz, hm.fz]
    exact ⟨fun c k h => a5 c k (by omega) (by omega) (by omega), fun k h1 h2 => a5 29 k (by omega) (by omega) (by omega), hz⟩
  -- the reader begins anew
  have hX : ∃ X : St, G_28 (xa_u (xa_u S2.1 2 5 (-1)) 2 6 (-1), S2.2.1, S2.2.2) 6 = some ((), X) ∧ RX 6 (xa_u (xa_u S2.1 2 5 (-1)) 2 6 (-1), S2.2.1, S2.2.2) X ∧ X.1 6 0 = -1 := by
    unfold G_28
    rw [if_pos kd6]
    refine ⟨_, rfl, RX.u.trans RX.u, ?_⟩
    show xa_u (xa_u (xa_u (xa_u S2.1 2 5 (-1)) 2 6 (-1)) 6 0 (-1)) 6 9 0 6 0 = -1
    rw [xa_c (by omega), xa_e]
  obtain ⟨X, x1, x2, x3⟩ := hX
  have hd := a4.rx x2
  have hKC : KC S X := by
    have h1 : KC S (xa_u (xa_u S2.1 2 5 (-1)) 2 6 (-1), S2.2.1, S2.2.2) := ⟨fun c k h => by
      show xa_u (xa_u S2.1 2 5 (-1)) 2 6 (-1) c k = _
      rw [xa_c (by omega), xa_c (by omega)]
      exact a7 c k (by omega) (by omega), a6⟩
    exact h1.trans x2.k
  have hl : X.1 15 2 = A 6 0 := by
    have := hd.c.lod 0 (by decide)
    rw [blA_o A (by decide) (by decide)] at this
    exact this
  have hs : X.1 15 1 = A 5 0 := by
    have := hd.c.siz 0 (by decide)
    rw [blA_o A (by decide) (by decide)] at this
    exact this
  have e38 : G_38 S 15 = (if A 6 0 = 0 then GL_38_0 xFu X 15 0 0 else GL_38_0 xFu X 15 (A 5 0) 0) := by
    unfold G_38
    rw [a1]
    simp only [a2, x1]
    rw [if_pos (kd_res (show 0 < 4 by decide)), hl, hs]
  have e135 : G_135 T = GL_135_0 xFu T1 0 := by
    unfold G_135; rw [a3]
  rw [e38, e135]
  by_cases q : A 6 0 = 0
  · rw [if_pos q]
    refine ⟨blA A, X, T1, ?_, ?_, hd.c, hd.m, bl.1, bl.2, hKC, hTk⟩
    · rw [show xFu = 999999 + 1 from rfl, GL_38_0, if_pos (by decide)]
    · rw [show xFu = 999999 + 1 from rfl, GL_135_0, z0, hd.m.lod 0 (by decide), blA_o A (by decide) (by decide), if_pos q]
  · rw [if_neg q]
    obtain ⟨m, m1, m2, m3⟩ := hw.pic q
    have hbt : bt (blA A) 0 = bt A 0 := (bl.2.b0 (by decide)).symm
    have hsz : blA A 5 0 = A 5 0 := blA_o A (by decide) (by decide) 0
    have hbd : Bd (bt A 0) 6 X (ps (bt A 0) 0) (X.1 6 9) := by
      refine ⟨rfl, by rw [x3]; decide, ⟨fun h => ?_, fun h => ?_, fun h => ?_⟩, fun h => ?_⟩
      all_goals (exfalso; rw [x3] at h; revert h; decide)
    have hb := hw.b0 (show 0 < 4 by decide)
    have g := ps_rg hb m m3
    have l1 := ile g.2.1
    have l2 := ile hb.n64
    have h64 : (64 : Int32).toInt = 64 := rfl
    obtain ⟨A', S', T', b1, b2, b3, b4, b5, b6, b7, b8⟩ := show_l (M := M) (C := C) (z := z) (y2 := A 5 0) m3 m1 m2 m 0 (blA A) X T1 xFu xFu (-1) (-1) (by omega) hbt hsz rfl hd (by rw [blA_o A (by decide) (by decide)]; exact q) (by rw [hTk.2.1 7 (by omega) (by omega)]; exact hww) hbd (by unfold Fu xFu; rw [show ps (bt A 0) 0 = 0 from rfl]; decide) (by unfold xFu; omega)
    exact ⟨A', S', T', b1, b2, b3, b4, b5, bl.2.trans b6, hKC.trans b7, hTk.trans b8⟩
end
