/-! The pure part (19c.read): both halves answer alike -/
def BT (b : Int32 → Int32) (n : Int32) : Prop :=
  (0 ≤ n) ∧
  (n ≤ 64) ∧
  (∀ p, 0 ≤ p → p < n → 0 ≤ b p ∧ b p ≤ 255) ∧
  (∀ p, n ≤ p → b p = -1)
theorem BT.n0 {b : Int32 → Int32} {n : Int32} (h : BT b n) : 0 ≤ n := h.1
theorem BT.n64 {b : Int32 → Int32} {n : Int32} (h : BT b n) : n ≤ 64 := h.2.1
theorem BT.rg {b : Int32 → Int32} {n : Int32} (h : BT b n) : ∀ p, 0 ≤ p → p < n → 0 ≤ b p ∧ b p ≤ 255 := h.2.2.1
theorem BT.out {b : Int32 → Int32} {n : Int32} (h : BT b n) : ∀ p, n ≤ p → b p = -1 := h.2.2.2
theorem WF.b0 {A : Ab} (hw : WF A) {r : Nat} (hr : r < 4) : BT (bt A r) (A 5 r) := by
  refine ⟨(hw.siz r hr).1, (hw.siz r hr).2, fun p h1 h2 => ?_, fun p h => ?_⟩
  · unfold bt
    rw [if_pos h2]
    have := hw.siz r hr
    exact hw.byt r _ hr (tn64 h1 (by grind))
  · unfold bt
    rw [if_neg (by grind)]
theorem BT.lt {b : Int32 → Int32} {n p : Int32} (h : BT b n) (h1 : 0 ≤ b p) : p < n := by
  by_cases q : p < n
  · exact q
  · have := h.out p (by grind); grind
theorem BT.in {b : Int32 → Int32} {n p : Int32} (h : BT b n) (hp : 0 ≤ p) : b p = -1 ∨ (0 ≤ b p ∧ b p ≤ 255) := by
  by_cases q : p < n
  · exact Or.inr (h.rg p hp q)
  · exact Or.inl (h.out p (by grind))
theorem chk_ok {b : Int32 → Int32} {p l h : Int32} (hp : 0 ≤ p) : chk b (-1) p l h = -1 ↔ l ≤ b p ∧ b p ≤ h := by
  unfold chk; grind
theorem chk_no {b : Int32 → Int32} {p l h : Int32} (hn : ¬ (l ≤ b p ∧ b p ≤ h)) : chk b (-1) p l h = p := by
  unfold chk; grind
theorem chk_w {b : Int32 → Int32} {w p l h : Int32} (hw : 0 ≤ w) : chk b w p l h = w := by
  unfold chk; grind
theorem lo_ge (c x : Int32) : 0 ≤ lo c x := by unfold lo; grind
theorem ops_w {b : Int32 → Int32} {w : Int32} (hw : 0 ≤ w) (L : List Int32) : ∀ p, ops b w p L = w := by
  induction L with
  | nil => intro p; rfl
  | cons c L ih => intro p; rw [ops, chk_w hw]; exact ih _
theorem ops_c {b : Int32 → Int32} {p c : Int32} {L : List Int32} (hp : 0 ≤ p) : ops b (-1) p (c :: L) = if lo c (b p) ≤ b p ∧ b p ≤ hi c then ops b (-1) (p + 1) L else p := by
  rw [ops]
  by_cases h : lo c (b p) ≤ b p ∧ b p ≤ hi c
  · rw [if_pos h, (chk_ok hp).mpr h]
  · rw [if_neg h, chk_no h, ops_w hp]
theorem ln_c (c : Int32) (L : List Int32) : ln (c :: L) = ln L + 1 := by
  unfold ln; rw [List.length_cons, Int32.ofNat_add]; rfl
theorem ln_n : ln [] = 0 := rfl
theorem ops_rg {b : Int32 → Int32} {n : Int32} (hb : BT b n) (L : List Int32) : ∀ p, 0 ≤ p → p ≤ n → ops b (-1) p L = -1 → p ≤ p + ln L ∧ p + ln L ≤ n := by
  induction L with
  | nil => intro p h0 h1 _; rw [ln_n]; grind
  | cons c L ih =>
    intro p h0 h1 h2
    rw [ops_c h0] at h2
    by_cases h : lo c (b p) ≤ b p ∧ b p ≤ hi c
    · rw [if_pos h] at h2
      have g := lo_ge c (b p)
      have hp := hb.lt (p := p) (by grind)
      have n6 := hb.n64
      have := ih (p + 1) (by grind) (by grind) h2
      rw [ln_c]
      have e : p + (ln L + 1) = p + 1 + ln L := by grind
      rw [e]
      grind
    · rw [if_neg h] at h2; grind
theorem ops_ge {b : Int32 → Int32} {n : Int32} (hb : BT b n) (L : List Int32) : ∀ p, 0 ≤ p → p ≤ n → ops b (-1) p L = -1 ∨ 0 ≤ ops b (-1) p L := by
  induction L with
  | nil => intro p h0 _; exact Or.inl rfl
  | cons c L ih =>
    intro p h0 h1
    rw [ops_c h0]
    by_cases h : lo c (b p) ≤ b p ∧ b p ≤ hi c
    · rw [if_pos h]
      have g := lo_ge c (b p)
      have hp := hb.lt (p := p) (by grind)
      have n6 := hb.n64
      exact ih (p + 1) (by grind) (by grind)
    · rw [if_neg h]; exact Or.inr h0
theorem leaf_rg {b : Int32 → Int32} {n : Int32} (hb : BT b n) {p : Int32} (h0 : 0 ≤ p) (h1 : p < n) : ((leaf b p).1 = -1 → p < (leaf b p).2 ∧ (leaf b p).2 ≤ n) ∧ ((leaf b p).1 = -1 ∨ 0 ≤ (leaf b p).1) := by
  have n6 := hb.n64
  refine ⟨fun h => ?_, ops_ge hb _ _ (by grind) (by grind)⟩
  have := ops_rg hb (lfc (b p)) (p + 1) (by grind) (by grind) h
  unfold leaf
  grind
theorem prs_rg {b : Int32 → Int32} {n : Int32} (hb : BT b n) (k : Nat) : ∀ p, 0 ≤ p → p ≤ n → ((prs b k p).1 = -1 → p < (prs b k p).2 ∧ (prs b k p).2 ≤ n) ∧ ((prs b k p).1 = -1 ∨ 0 ≤ (prs b k p).1) := by
  have n6 := hb.n64
  induction k with
  | zero =>
    intro p h0 h1
    rw [prs]
    by_cases h : 0 ≤ b p ∧ b p < 5
    · rw [if_pos h]; exact leaf_rg hb h0 (hb.lt h.1)
    · rw [if_neg h]; exact ⟨fun h => by exfalso; have h : p = -1 := h; grind, Or.inr h0⟩
  | succ k ih =>
    intro p h0 h1
    rw [prs]
    by_cases h : 0 ≤ b p ∧ b p < 5
    · rw [if_pos h]; exact leaf_rg hb h0 (hb.lt h.1)
    · rw [if_neg h]
      by_cases h5 : 5 ≤ b p ∧ b p ≤ 7
      · rw [if_pos h5]
        have hp := hb.lt (p := p) (by grind)
        have i1 := ih (p + 1) (by grind) (by grind)
        by_cases q : (prs b k (p + 1)).1 = -1
        · rw [if_pos q]
          have i1' := i1.1 q
          by_cases q5 : b p = 5
          · rw [if_pos q5]; exact ⟨fun h => by grind, i1.2⟩
          · rw [if_neg q5]
            have i2 := ih (prs b k (p + 1)).2 (by grind) i1'.2
            exact ⟨fun h => by have := i2.1 h; grind, i2.2⟩
        · rw [if_neg q]; exact ⟨fun h => absurd h q, i1.2⟩
      · rw [if_neg h5]; exact ⟨fun h => by exfalso; have h : p = -1 := h; grind, Or.inr h0⟩
theorem sm1 {p q n : Int32} (h0 : 0 ≤ p) (h1 : p < 64) (h2 : p + 1 < q) (h3 : q < n) (h4 : n ≤ 64) : p < q + 1 ∧ q + 1 ≤ n := by
  have : p < q := by clear h3 h4; grind
  have : q < 64 := by clear h2; grind
  have : 0 < q := by grind
  clear h2; grind
theorem ins_rg {b : Int32 → Int32} {n : Int32} (hb : BT b n) {p : Int32} (h0 : 0 ≤ p) (h1 : p < n) : ((ins b p).1 = -1 → p < (ins b p).2 ∧ (ins b p).2 ≤ n) ∧ ((ins b p).1 = -1 ∨ 0 ≤ (ins b p).1) := by
  have n6 := hb.n64
  unfold ins
  by_cases h : 0 ≤ b p ∧ b p ≤ 18
  · rw [if_pos h]
    by_cases h8 : b p = 8
    · rw [if_pos h8]
      have i1 := prs_rg hb 6 (p + 1) (by grind) (by grind)
      by_cases q : (prs b 6 (p + 1)).1 = -1
      · rw [if_pos q]
        have i1' := i1.1 q
        refine ⟨fun h => ?_, ?_⟩
        · have h := (chk_ok (b := b) (show 0 ≤ (prs b 6 (p + 1)).2 by grind)).mp h
          have := hb.lt h.1
          exact sm1 h0 (by grind) i1'.1 this n6
        · show chk b (-1) (prs b 6 (p + 1)).2 0 255 = -1 ∨ 0 ≤ chk b (-1) (prs b 6 (p + 1)).2 0 255
          unfold chk; grind
      · rw [if_neg q]; exact ⟨fun h => absurd h q, i1.2⟩
    · rw [if_neg h8]
      refine ⟨fun h => ?_, ops_ge hb _ _ (by grind) (by grind)⟩
      have := ops_rg hb (opc (b p)) (p + 1) (by grind) (by grind) h
      show p < p + 1 + ln (opc (b p)) ∧ p + 1 + ln (opc (b p)) ≤ n
      grind
  · rw [if_neg h]; exact ⟨fun h => by exfalso; have h : p = -1 := h; grind, Or.inr h0⟩
/-! the class's reader -/
def cw (S : St) (p w : Int32) : St := (xa_u (xa_u S.1 27 1 p) 27 2 w, S.2)
theorem cw_p (S : St) (p w : Int32) : (cw S p w).1 27 1 = p := by unfold cw; show xa_u (xa_u S.1 27 1 p) 27 2 w 27 1 = p; rw [xa_c (by omega), xa_e]
theorem cw_w (S : St) (p w : Int32) : (cw S p w).1 27 2 = w := by unfold cw; show xa_u (xa_u S.1 27 1 p) 27 2 w 27 2 = w; exact xa_e
theorem cw_c (S : St) (p w : Int32) {c k : Nat} (h : c ≠ 27) : (cw S p w).1 c k = S.1 c k := by unfold cw; show xa_u (xa_u S.1 27 1 p) 27 2 w c k = _; rw [xa_c (by omega), xa_c (by omega)]
theorem cw_up (S : St) (p w q : Int32) : (xa_u (cw S p w).1 27 1 q, (cw S p w).2.1, (cw S p w).2.2) = cw S q w := by
  unfold cw; refine Prod.ext ?_ rfl; funext c k; simp only [xa_if]; grind
theorem cw_uw (S : St) (p w q : Int32) : (xa_u (cw S p w).1 27 2 q, (cw S p w).2.1, (cw S p w).2.2) = cw S p q := by
  unfold cw; refine Prod.ext ?_ rfl; show xa_u (xa_u (xa_u S.1 27 1 p) 27 2 w) 27 2 q = _; rw [xa_uu]
theorem cw_id (S : St) : cw S (S.1 27 1) (S.1 27 2) = S := by
  unfold cw; refine Prod.ext ?_ rfl; funext c k; simp only [xa_if]; grind
section
variable {A M C : Ab} {z : Option Nat × (Nat → Option Nat)} {S T : St}
theorem CR.cw (h : CR A M S) (p w : Int32) : CR A M (cw S p w) := (h.up (c := 27) (k := 1) (by unfold cpv; omega) p).up (c := 27) (k := 2) (by unfold cpv; omega) w
theorem C_25 (hw : WF A) (hc : CR A M S) {r : Nat} (hr : r < 4) {p : Int32} (h0 : 0 ≤ p) (h1 : p < A 5 r) : G_25 S (15 + 2 * r) p = some (bt A r p, S) := by
  have ws := hw.siz r hr
  have kb := kd_byt hr
  have c2 : ((kd (15 + 2 * r + 1)).1 = 0 ∧ xa_in p (kd (15 + 2 * r + 1)).2) := by
    rw [kb]; exact ⟨rfl, (xin64 _).mpr (by grind)⟩
  have e : 15 + 2 * r + 1 = 16 + 2 * r := by omega
  unfold G_25 bt
  rw [if_neg (by grind), if_pos (kd_res hr), hc.siz _ hr, if_neg (by grind), if_pos (RF_c hr), if_pos c2, e, hc.byt _ _ hr (tn64 h0 (by grind)), if_pos h1]
theorem C_25n (hc : CR A M S) {r : Nat} (hr : r < 4) {p : Int32} (h : p < 0 ∨ A 5 r ≤ p) : G_25 S (15 + 2 * r) p = some (0, S) := by
  unfold G_25
  by_cases h0 : p < 0
  · rw [if_pos h0]
  · rw [if_neg h0, if_pos (kd_res hr), hc.siz _ hr, if_pos (by grind)]
theorem V_65 {c : Int32} : G_65 S c = some (if c = 114 then 4 else if c = 101 ∨ c = 107 ∨ c = 115 ∨ c = 119 then 1 else 0, S) := by unfold G_65; grind
theorem V_66 {c : Int32} : G_66 S c = some (hi c, S) := by unfold G_66 hi; grind (splits := 30)
theorem V_64 {c x : Int32} : G_64 S c x = some (if lo c x ≤ x ∧ x ≤ hi c then 1 else 0, S) := by
  unfold G_64
  simp only [V_65, V_66]
  unfold lo
  by_cases h : c = 114
  · subst h
    have : hi 114 = 15 := rfl
    rw [this]
    grind
  · simp only [if_neg h]
    grind
end
/-! the class reads operands and tests -/
section
variable {A M C : Ab} {z : Option Nat × (Nat → Option Nat)}
/-- the characters of a string constant -/
def chs (s : Nat) : List Int32 := xS_B.getD s []
theorem chs_len {s : Nat} (hs : s < 19) : xS_L.getD s 0 = (chs s).length := by
  have : ∀ s, s < 19 → xS_L.getD s 0 = (xS_B.getD s []).length := by decide
  exact this s hs
theorem V_6 {S : St} {s : Nat} (hs : s < 19) : G_6 S (2000 + s) = some (ln (chs s), S) := by
  unfold G_6
  have : xS_n = 19 := rfl
  rw [if_pos (by omega), Nat.add_sub_cancel_left, chs_len hs]
  rfl
theorem chs_l5 {s : Nat} (hs : s < 19) : (chs s).length ≤ 5 := by
  have : ∀ s, s < 19 → (xS_B.getD s []).length ≤ 5 := by decide
  exact this s hs
theorem V_8 {S : St} {s j : Nat} (hs : s < 19) (hj : j < (chs s).length) : G_8 S (2000 + s) (Int32.ofNat j) = some ((chs s)[j], S) := by
  have l5 := chs_l5 hs
  unfold G_8
  have : xS_n = 19 := rfl
  have e : (Int32.ofNat j).toNatClampNeg = j := ni_tn (by omega)
  have hin : xa_in (Int32.ofNat j) (xS_L.getD (2000 + s - 2000) 0) := by
    rw [Nat.add_sub_cancel_left, chs_len hs]
    unfold xa_in
    rw [e]
    have : ¬ Int32.ofNat j < 0 := by
      rw [Int32.lt_iff_toInt_lt, ni_i (by omega)]
      have h0 : (0 : Int32).toInt = 0 := rfl
      omega
    rintro (h | h)
    · exact this h
    · omega
  rw [if_pos ⟨by omega, hin⟩, Nat.add_sub_cancel_left, e]
  show some ((chs s).getD j 0, S) = _
  simp [List.getD, hj]
theorem nj_lt {j l : Nat} (hj : j < 1000) (hl : l < 1000) : (Int32.ofNat l ≤ Int32.ofNat j) ↔ l ≤ j := by
  rw [Int32.le_iff_toInt_le, ni_i (by omega), ni_i (by omega)]; omega
theorem nj_s {j : Nat} : Int32.ofNat j + 1 = Int32.ofNat (j + 1) := by rw [Int32.ofNat_add]; rfl
/-- operands that are no tests -/
theorem C_ops (hw : WF A) {r s : Nat} (hr : r < 4) (hs : s < 19) (u : Int32) (L : List Int32) : ∀ (S : St), CR A M S → ∀ (j n : Nat) (p : Int32), (chs s).drop j = L → (∀ c, c ∈ L → c ≠ 116) → 0 ≤ p → p ≤ A 5 r → L.length + 1 ≤ n → j ≤ (chs s).length →
    ∃ p', GR_61 n 2 (cw S p (-1)) (15 + 2 * r) (2000 + s) u (Int32.ofNat j) = some ((), cw S p' (ops (bt A r) (-1) p L)) ∧ (ops (bt A r) (-1) p L = -1 → p' = p + ln L) := by
  have hb := hw.b0 hr
  have l5 := chs_l5 hs
  have hn : xS_n = 19 := rfl
  induction L with
  | nil =>
    intro S hc j n p hd h116 h0 h1 hf hj
    obtain ⟨n', rfl⟩ : ∃ n', n = n' + 1 := ⟨n - 1, by simp at hf; omega⟩
    have hl : (chs s).length ≤ j := by rw [List.drop_eq_nil_iff] at hd; exact hd
    refine ⟨p, ?_, fun _ => by rw [ln_n]; grind⟩
    rw [GR_61, if_pos (by omega), V_6 hs]
    simp only []
    rw [if_pos (show ln (chs s) ≤ Int32.ofNat j from (nj_lt (by omega) (by omega)).mpr hl)]
    rfl
  | cons c L ih =>
    intro S hc j n p hd h116 h0 h1 hf hj
    obtain ⟨n', rfl⟩ : ∃ n', n = n' + 1 := ⟨n - 1, by simp at hf; omega⟩
    have hl : j < (chs s).length := by
      apply Classical.byContradiction
      intro h
      rw [List.drop_eq_nil_iff.mpr (by omega)] at hd
      cases hd
    have hcj : (chs s)[j] = c ∧ (chs s).drop (j + 1) = L := by
      rw [List.drop_eq_getElem_cons hl] at hd
      exact ⟨(List.cons.inj hd).1, (List.cons.inj hd).2⟩
    have c116 : c ≠ 116 := h116 c (by simp)
    have hf' : L.length + 1 ≤ n' := by simp at hf; omega
    have nle : ¬ (ln (chs s) ≤ Int32.ofNat j) := by
      unfold ln; rw [nj_lt (by omega) (by omega)]; omega
    rw [GR_61, if_pos (by omega), V_6 hs]
    simp only [cw_w, cw_p, cw_c _ _ _ (show 15 + 2 * r ≠ 27 by omega), hc.siz _ hr, V_8 hs hl, hcj.1, if_neg c116, if_neg nle, if_pos (kd_res hr), if_true]
    -- after a fault nothing more is read
    have stop : ∀ w : Int32, 0 ≤ w → GR_61 n' 2 (cw S p w) (15 + 2 * r) (2000 + s) u (Int32.ofNat j + 1) = some ((), cw S p w) := by
      intro w hw0
      obtain ⟨n'', rfl⟩ : ∃ n'', n' = n'' + 1 := ⟨n' - 1, by omega⟩
      rw [GR_61, if_pos (by omega), V_6 hs]
      simp only [cw_w]
      rw [if_neg (show ¬ w = -1 by grind)]
      simp only [ite_self]
    by_cases hp : p < A 5 r
    · rw [if_pos hp, C_25 hw (hc.cw _ _) hr h0 hp]
      simp only [V_64]
      rw [ops_c h0]
      by_cases hfit : lo c (bt A r p) ≤ bt A r p ∧ bt A r p ≤ hi c
      · simp only [if_pos hfit, e10, if_false, cw_p, cw_up]
        have n6 := hb.n64
        obtain ⟨p', e1, e2⟩ := ih S hc (j + 1) n' (p + 1) hcj.2 (fun c hc => h116 c (by simp [hc])) (by grind) (by grind) hf' (by omega)
        rw [nj_s]
        refine ⟨p', e1, fun h => ?_⟩
        rw [e2 h, ln_c]
        grind
      · simp only [if_neg hfit, if_true, cw_p, cw_uw]
        rw [stop p h0]
        exact ⟨p, rfl, fun h => by exfalso; grind⟩
    · rw [if_neg hp]
      have hpe : p = A 5 r := by grind
      have hbp : bt A r p = -1 := hb.out p (by grind)
      have : ops (bt A r) (-1) p (c :: L) = p := by
        rw [ops_c h0, if_neg (by have := lo_ge c (bt A r p); grind)]
      rw [this, cw_uw, ← hpe, stop p h0]
      exact ⟨p, rfl, fun h => by exfalso; grind⟩
/-- the test operands' string of a test code -/
def lfs (c : Int32) : Nat := if c = 0 ∨ c = 1 then 0 else if c = 2 then 2 else if c = 3 then 15 else if c = 4 then 16 else if c = 5 then 17 else 18
theorem V_63 {S : St} {c : Int32} : G_63 S c = some (some (2000 + lfs c), S) := by unfold G_63 lfs; grind (splits := 30)
theorem lfs_lt (c : Int32) : lfs c < 19 := by unfold lfs; grind
theorem lfs_lfc {c : Int32} (h0 : 0 ≤ c) (h5 : c < 5) : chs (lfs c) = lfc c := by
  have : c = 0 ∨ c = 1 ∨ c = 2 ∨ c = 3 ∨ c = 4 := by grind
  rcases this with rfl | rfl | rfl | rfl | rfl <;> rfl
theorem lfc_116 (c : Int32) : ∀ x, x ∈ lfc c → x ≠ 116 := by
  intro x hx
  unfold lfc at hx
  split at hx
  · simp at hx; rcases hx with rfl | rfl <;> decide
  · split at hx
    · simp at hx; subst hx; decide
    · split at hx
      · simp at hx; subst hx; decide
      · simp at hx; rcases hx with rfl | rfl | rfl | rfl | rfl <;> decide
theorem lfc_l5 (c : Int32) : (lfc c).length ≤ 5 := by unfold lfc; split; decide; split; decide; split; decide; decide
/-- tests -/
theorem C_prs (hw : WF A) {r : Nat} (hr : r < 4) (k : Nat) : ∀ (S : St), CR A M S → ∀ (n : Nat) (p d : Int32), 8 * (k + 1) ≤ n → 0 ≤ p → p < A 5 r → 0 ≤ d → d.toInt + k = 6 →
    ∃ p', GR_61 n 1 (cw S p (-1)) (15 + 2 * r) 0 d 0 = some ((), cw S p' (prs (bt A r) k p).1) ∧ ((prs (bt A r) k p).1 = -1 → p' = (prs (bt A r) k p).2) := by
  have hb := hw.b0 hr
  have n6 := hb.n64
  have hn : xS_n = 19 := rfl
  have h6 : (6 : Int32).toInt = 6 := rfl
  induction k with
  | zero =>
    intro S hc n p d hf h0 h1 hd0 hd
    obtain ⟨n', rfl⟩ : ∃ n', n = n' + 1 + 1 := ⟨n - 2, by omega⟩
    have hd6 : ¬ d < 6 := by rw [Int32.lt_iff_toInt_lt]; omega
    have hbp := hb.rg p h0 h1
    rw [GR_61, if_pos (kd_res hr), cw_p, C_25 hw (hc.cw _ _) hr h0 h1]
    simp only [cw_p, cw_up, cw_uw, V_63]
    rw [prs]
    by_cases q : bt A r p < 5
    · rw [if_pos q, if_neg (show ¬ 7 < bt A r p by grind), if_pos (show 0 ≤ bt A r p ∧ bt A r p < 5 by grind)]
      rw [GR_61]
      obtain ⟨p', e1, e2⟩ := C_ops (M := M) hw hr (lfs_lt (bt A r p)) d (lfc (bt A r p)) S hc 0 n' (p + 1) (by rw [List.drop_zero]; exact lfs_lfc hbp.1 q) (lfc_116 _) (by grind) (by grind) (by have := lfc_l5 (bt A r p); omega) (by omega)
      have z : Int32.ofNat 0 = 0 := rfl
      rw [z] at e1
      rw [e1]
      exact ⟨p', rfl, e2⟩
    · rw [if_neg q, if_neg (show ¬ (0 ≤ bt A r p ∧ bt A r p < 5) by grind)]
      refine ⟨p, ?_, fun h => by exfalso; have h : p = -1 := h; grind⟩
      by_cases q7 : 7 < bt A r p
      · rw [if_pos q7]
      · rw [if_neg q7, if_neg hd6]
  | succ k ih =>
    intro S hc n p d hf h0 h1 hd0 hd
    obtain ⟨n', rfl⟩ : ∃ n', n = n' + 4 + 1 + 1 := ⟨n - 6, by omega⟩
    have hd6 : d < 6 := by rw [Int32.lt_iff_toInt_lt]; omega
    have hd1 : (d + 1).toInt = d.toInt + 1 := by
      have h1 : (1 : Int32).toInt = 1 := rfl
      have a := ile hd0; have h0 : (0 : Int32).toInt = 0 := rfl
      rw [iadd] <;> rw [h1] <;> omega
    have hbp := hb.rg p h0 h1
    rw [GR_61, if_pos (kd_res hr), cw_p, C_25 hw (hc.cw _ _) hr h0 h1]
    simp only [cw_p, cw_up, cw_uw, V_63]
    rw [prs]
    by_cases q : bt A r p < 5
    · rw [if_pos q, if_neg (show ¬ 7 < bt A r p by grind), if_pos (show 0 ≤ bt A r p ∧ bt A r p < 5 by grind)]
      rw [GR_61]
      obtain ⟨p', e1, e2⟩ := C_ops (M := M) hw hr (lfs_lt (bt A r p)) d (lfc (bt A r p)) S hc 0 (n' + 4) (p + 1) (by rw [List.drop_zero]; exact lfs_lfc hbp.1 q) (lfc_116 _) (by grind) (by grind) (by have := lfc_l5 (bt A r p); omega) (by omega)
      have z : Int32.ofNat 0 = 0 := rfl
      rw [z] at e1
      rw [e1]
      exact ⟨p', rfl, e2⟩
    · rw [if_neg q, if_neg (show ¬ (0 ≤ bt A r p ∧ bt A r p < 5) by grind)]
      by_cases q7 : 7 < bt A r p
      · rw [if_pos q7, if_neg (show ¬ (5 ≤ bt A r p ∧ bt A r p ≤ 7) by grind)]
        exact ⟨p, rfl, fun h => by exfalso; have h : p = -1 := h; grind⟩
      · rw [if_neg q7, if_pos hd6, if_pos (show (5 ≤ bt A r p ∧ bt A r p ≤ 7) by grind)]
        -- one test operand, at j of a string of t's
        have one : ∀ (s : Nat), s < 19 → ∀ (j m : Nat) (p : Int32), (hj : j < (chs s).length) → (chs s)[j] = 116 → n' ≤ m → 0 ≤ p → p ≤ A 5 r → ∃ p', GR_61 (m + 1) 2 (cw S p (-1)) (15 + 2 * r) (2000 + s) (d + 1) (Int32.ofNat j) = GR_61 m 2 (cw S p' (prs (bt A r) k p).1) (15 + 2 * r) (2000 + s) (d + 1) (Int32.ofNat (j + 1)) ∧ ((prs (bt A r) k p).1 = -1 → p' = (prs (bt A r) k p).2) := by
          intro s hs j m p hj h116 hm h0 h1
          have l5 := chs_l5 hs
          have nle : ¬ (ln (chs s) ≤ Int32.ofNat j) := by
            unfold ln; rw [nj_lt (by omega) (by omega)]; omega
          rw [GR_61, if_pos (by omega), V_6 hs]
          simp only [cw_w, cw_p, cw_c _ _ _ (show 15 + 2 * r ≠ 27 by omega), hc.siz _ hr, V_8 hs hj, h116, if_neg nle, if_pos (kd_res hr), if_true, nj_s]
          by_cases hp : p < A 5 r
          · rw [if_pos hp]
            obtain ⟨p', e1, e2⟩ := ih S hc m p (d + 1) (by omega) h0 hp (by rw [Int32.le_iff_toInt_le, hd1]; have h0 : (0 : Int32).toInt = 0 := rfl; have := ile hd0; omega) (by omega)
            rw [e1]
            exact ⟨p', rfl, e2⟩
          · rw [if_neg hp, cw_uw]
            have hpe : p = A 5 r := by grind
            have hbp : bt A r p = -1 := hb.out p (by grind)
            have : prs (bt A r) k p = (p, p) := by
              cases k with
              | zero => rw [prs, if_neg (by grind)]
              | succ k => rw [prs, if_neg (by grind), if_neg (by grind)]
            rw [this, ← hpe]
            exact ⟨p, rfl, fun _ => rfl⟩
        -- the end of the string, or a fault
        have fin : ∀ (s : Nat), s < 19 → ∀ (j m : Nat) (p w : Int32), j < 100 → ((chs s).length ≤ j ∨ w ≠ -1) → GR_61 (m + 1) 2 (cw S p w) (15 + 2 * r) (2000 + s) (d + 1) (Int32.ofNat j) = some ((), cw S p w) := by
          intro s hs j m p w hj h
          have l5 := chs_l5 hs
          rw [GR_61, if_pos (by omega), V_6 hs]
          simp only [cw_w]
          by_cases q : (chs s).length ≤ j
          · rw [if_pos (show ln (chs s) ≤ Int32.ofNat j from (nj_lt (by omega) (by omega)).mpr q)]
          · have h : w ≠ -1 := by rcases h with h | h; exact absurd h q; exact h
            simp only [if_neg h, ite_self]
        rw [GR_61]
        have z : (0 : Int32) = Int32.ofNat 0 := rfl
        have pr := prs_rg hb k (p + 1) (by grind) (by grind)
        by_cases q5 : bt A r p = 5
        · have ls : lfs (bt A r p) = 17 := by rw [q5]; rfl
          rw [ls, z]
          obtain ⟨p', e1, e2⟩ := one 17 (by decide) 0 (n' + 3) (p + 1) (by decide) rfl (by omega) (by grind) (by grind)
          have e3 := fin 17 (by decide) (0 + 1) (n' + 2) p' (prs (bt A r) k (p + 1)).1 (by decide) (Or.inl (by decide))
          rw [e1, e3, if_pos q5]
          simp only [ite_self]
          exact ⟨p', rfl, e2⟩
        · have ls : lfs (bt A r p) = 18 := by unfold lfs; grind
          rw [ls, z]
          obtain ⟨p', e1, e2⟩ := one 18 (by decide) 0 (n' + 3) (p + 1) (by decide) rfl (by omega) (by grind) (by grind)
          rw [e1]
          by_cases qw : (prs (bt A r) k (p + 1)).1 = -1
          · rw [if_pos qw, if_neg q5, qw, e2 qw]
            have pr' := pr.1 qw
            obtain ⟨p2, f1, f2⟩ := one 18 (by decide) (0 + 1) (n' + 2) (prs (bt A r) k (p + 1)).2 (by decide) rfl (by omega) (by grind) pr'.2
            have e3 := fin 18 (by decide) (0 + 1 + 1) (n' + 1) p2 (prs (bt A r) k (prs (bt A r) k (p + 1)).2).1 (by decide) (Or.inl (by decide))
            rw [f1, e3]
            exact ⟨p2, rfl, f2⟩
          · rw [if_neg qw]
            have e3 := fin 18 (by decide) (0 + 1) (n' + 2) p' (prs (bt A r) k (p + 1)).1 (by decide) (Or.inr qw)
            rw [e3]
            exact ⟨p', rfl, e2⟩
end
/-! the class reads a logic -/
def opn (c : Int32) : Nat := if c = 1 ∨ c = 2 then 0 else if c = 3 then 1 else if c = 4 ∨ c = 5 then 2 else if c = 6 then 3 else if c = 7 then 4 else if c = 8 then 5 else if c = 9 then 6 else if c = 10 then 7 else if c = 11 then 8 else if c = 12 then 9 else if c = 13 then 10 else if c = 14 then 11 else if c = 15 then 7 else if c = 16 then 12 else if c = 17 then 13 else 14
theorem V_60 {S : St} {c : Int32} : G_60 S c = some (some (2000 + opn c), S) := by unfold G_60 opn; grind (splits := 40)
theorem opn_lt (c : Int32) : opn c < 19 := by unfold opn; grind (splits := 40)
theorem c18 {c : Int32} (h0 : 0 ≤ c) (h1 : c ≤ 18) : c = 0 ∨ c = 1 ∨ c = 2 ∨ c = 3 ∨ c = 4 ∨ c = 5 ∨ c = 6 ∨ c = 7 ∨ c = 8 ∨ c = 9 ∨ c = 10 ∨ c = 11 ∨ c = 12 ∨ c = 13 ∨ c = 14 ∨ c = 15 ∨ c = 16 ∨ c = 17 ∨ c = 18 := by grind
theorem opn_opc {c : Int32} (h0 : 0 ≤ c) (h1 : c ≤ 18) (h8 : c ≠ 8) : chs (opn c) = opc c := by
  rcases c18 h0 h1 with rfl | rfl | rfl | rfl | rfl | rfl | rfl | rfl | rfl | rfl | rfl | rfl | rfl | rfl | rfl | rfl | rfl | rfl | rfl <;> first | rfl | exact absurd rfl h8
theorem opc_116 {c : Int32} (h0 : 0 ≤ c) (h1 : c ≤ 18) : ∀ x, x ∈ opc c → x ≠ 116 := by
  rcases c18 h0 h1 with rfl | rfl | rfl | rfl | rfl | rfl | rfl | rfl | rfl | rfl | rfl | rfl | rfl | rfl | rfl | rfl | rfl | rfl | rfl <;> decide
theorem opc_l5 {c : Int32} (h0 : 0 ≤ c) (h1 : c ≤ 18) : (opc c).length ≤ 5 := by
  rcases c18 h0 h1 with rfl | rfl | rfl | rfl | rfl | rfl | rfl | rfl | rfl | rfl | rfl | rfl | rfl | rfl | rfl | rfl | rfl | rfl | rfl <;> decide
section
variable {A M C : Ab} {z : Option Nat × (Nat → Option Nat)}
theorem C_59 (hw : WF A) {r : Nat} (hr : r < 4) {S : St} (hc : CR A M S) {p : Int32} (h0 : 0 ≤ p) (h1 : p < A 5 r) : ∃ p', G_59 (cw S p (-1)) (15 + 2 * r) = some ((), cw S p' (ins (bt A r) p).1) ∧ ((ins (bt A r) p).1 = -1 → p' = (ins (bt A r) p).2) := by
  have hb := hw.b0 hr
  have n6 := hb.n64
  have hn : xS_n = 19 := rfl
  have hbp := hb.rg p h0 h1
  unfold G_59
  rw [if_pos (kd_res hr), cw_p, C_25 hw (hc.cw _ _) hr h0 h1]
  simp only [cw_p, cw_up, cw_uw, V_60]
  unfold ins
  by_cases q : bt A r p ≤ 18
  · rw [if_pos q, if_pos (show 0 ≤ bt A r p ∧ bt A r p ≤ 18 from ⟨hbp.1, q⟩)]
    unfold G_61
    rw [show (200 : Nat) = 199 + 1 from rfl, GR_61]
    have z : (0 : Int32) = Int32.ofNat 0 := rfl
    by_cases q8 : bt A r p = 8
    · rw [if_pos q8, q8]
      have o5 : opn 8 = 5 := rfl
      rw [o5, show (199 : Nat) = 198 + 1 from rfl, GR_61, if_pos (by decide), V_6 (s := 5) (by decide)]
      have nle : ¬ (ln (chs 5) ≤ 0) := by decide
      have v8 : G_8 (cw S (p + 1) (-1)) (2000 + 5) 0 = some (116, cw S (p + 1) (-1)) := V_8 (s := 5) (j := 0) (by decide) (by decide)
      simp only [cw_w, cw_p, cw_c _ _ _ (show 15 + 2 * r ≠ 27 by omega), hc.siz _ hr, v8, if_neg nle, if_pos (kd_res hr), if_true]
      have pr := prs_rg hb 6 (p + 1) (by grind) (by grind)
      have cont : ∀ p', ((prs (bt A r) 6 (p + 1)).1 = -1 → p' = (prs (bt A r) 6 (p + 1)).2) → ∃ p2, GR_61 198 2 (cw S p' (prs (bt A r) 6 (p + 1)).1) (15 + 2 * r) (2000 + 5) 0 (0 + 1) = some ((), cw S p2 (if (prs (bt A r) 6 (p + 1)).1 = -1 then (chk (bt A r) (-1) (prs (bt A r) 6 (p + 1)).2 0 255, (prs (bt A r) 6 (p + 1)).2 + 1) else prs (bt A r) 6 (p + 1)).1) ∧ ((if (prs (bt A r) 6 (p + 1)).1 = -1 then (chk (bt A r) (-1) (prs (bt A r) 6 (p + 1)).2 0 255, (prs (bt A r) 6 (p + 1)).2 + 1) else prs (bt A r) 6 (p + 1)).1 = -1 → p2 = (if (prs (bt A r) 6 (p + 1)).1 = -1 then (chk (bt A r) (-1) (prs (bt A r) 6 (p + 1)).2 0 255, (prs (bt A r) 6 (p + 1)).2 + 1) else prs (bt A r) 6 (p + 1)).2) := by
        intro p' hp'
        by_cases qw : (prs (bt A r) 6 (p + 1)).1 = -1
        · have pr' := pr.1 qw
          have e1 : (0 : Int32) + 1 = Int32.ofNat 1 := rfl
          rw [if_pos qw, qw, hp' qw, e1]
          obtain ⟨p2, f1, f2⟩ := C_ops (M := M) hw hr (s := 5) (by decide) 0 [110] S hc 1 198 (prs (bt A r) 6 (p + 1)).2 rfl (by decide) (by grind) pr'.2 (by decide) (by decide)
          exact ⟨p2, f1, f2⟩
        · rw [if_neg qw, show (198 : Nat) = 197 + 1 from rfl, GR_61, if_pos (by decide), V_6 (s := 5) (by decide)]
          simp only [cw_w, if_neg qw, ite_self]
          exact ⟨p', rfl, fun h => absurd h qw⟩
      by_cases hp : p + 1 < A 5 r
      · rw [if_pos hp]
        obtain ⟨p', e1, e2⟩ := C_prs (M := M) hw hr 6 S hc 198 (p + 1) 0 (by decide) (by grind) hp (by decide) rfl
        rw [e1]
        simp only []
        obtain ⟨p2, g1, g2⟩ := cont p' e2
        rw [g1]
        exact ⟨p2, rfl, g2⟩
      · rw [if_neg hp]
        have hpe : p + 1 = A 5 r := by grind
        have hbq : bt A r (p + 1) = -1 := hb.out _ (by grind)
        have hpr : prs (bt A r) 6 (p + 1) = (p + 1, p + 1) := by rw [prs, if_neg (by grind), if_neg (by grind)]
        obtain ⟨p2, g1, g2⟩ := cont (p + 1) (fun _ => by rw [hpr])
        rw [← hpe]
        have : cw S (p + 1) (prs (bt A r) 6 (p + 1)).1 = cw S (p + 1) (p + 1) := by rw [hpr]
        rw [this] at g1
        rw [cw_uw, g1]
        exact ⟨p2, rfl, g2⟩
    · rw [if_neg q8, z]
      obtain ⟨p', e1, e2⟩ := C_ops (M := M) hw hr (opn_lt (bt A r p)) (Int32.ofNat 0) (opc (bt A r p)) S hc 0 199 (p + 1) (by rw [List.drop_zero]; exact opn_opc hbp.1 q q8) (opc_116 hbp.1 q) (by grind) (by grind) (by have := opc_l5 hbp.1 q; omega) (by omega)
      rw [e1]
      exact ⟨p', rfl, e2⟩
  · rw [if_neg q, if_neg (show ¬ (0 ≤ bt A r p ∧ bt A r p ≤ 18) by grind)]
    exact ⟨p, rfl, fun h => by exfalso; have h : p = -1 := h; grind⟩
end
/-! the places -/
def Pfx (b : Int32 → Int32) (n : Int32) (m : Nat) : Prop := ∀ j, j < m → sq b j < n ∧ (ins b (sq b j)).1 = -1
theorem sq_rg {b : Int32 → Int32} {n : Int32} (hb : BT b n) (m : Nat) (h : Pfx b n m) : (m : Int) ≤ (sq b m).toInt ∧ sq b m ≤ n ∧ 0 ≤ sq b m := by
  induction m with
  | zero => exact ⟨by rw [show sq b 0 = 0 from rfl]; decide, hb.n0, by rw [show sq b 0 = 0 from rfl]; decide⟩
  | succ m ih =>
    have i1 := ih (fun j hj => h j (by omega))
    have hm := h m (by omega)
    have g := (ins_rg hb i1.2.2 hm.1).1 hm.2
    have e : sq b (m + 1) = (ins b (sq b m)).2 := rfl
    rw [e]
    have := ilt g.1
    refine ⟨by omega, g.2, by grind⟩
theorem sq_mono {b : Int32 → Int32} {n : Int32} (hb : BT b n) {m : Nat} (h : Pfx b n m) : ∀ i, i ≤ m → ∀ j, j < i → sq b j < sq b i := by
  intro i
  induction i with
  | zero => intro _ j hj; omega
  | succ i ih =>
    intro hi j hj
    have hm := h i (by omega)
    have i1 := sq_rg hb i (fun j hj => h j (by omega))
    have g := (ins_rg hb i1.2.2 hm.1).1 hm.2
    have e : sq b (i + 1) = (ins b (sq b i)).2 := rfl
    rw [e]
    by_cases q : j = i
    · subst q; exact g.1
    · have := ih (by omega) j (by omega); grind
theorem sq_inj {b : Int32 → Int32} {n : Int32} (hb : BT b n) {m : Nat} (h : Pfx b n m) {i j : Nat} (hi : i ≤ m) (hj : j ≤ m) (e : sq b i = sq b j) : i = j := by
  rcases Nat.lt_trichotomy i j with q | q | q
  · have := sq_mono hb h j hj i q; grind
  · exact q
  · have := sq_mono hb h i hi j q; grind
theorem scan_cases {b : Int32 → Int32} {n : Int32} (hb : BT b n) : ∃ m, m ≤ 64 ∧ Pfx b n m ∧ (sq b m = n ∨ (sq b m < n ∧ (ins b (sq b m)).1 ≠ -1)) := by
  have key : ∀ k m, m + k = 65 → Pfx b n m → ∃ m, m ≤ 64 ∧ Pfx b n m ∧ (sq b m = n ∨ (sq b m < n ∧ (ins b (sq b m)).1 ≠ -1)) := by
    intro k
    induction k with
    | zero =>
      intro m hm h
      exfalso
      have g := sq_rg hb m h
      have := ile g.2.1
      have := ile hb.n64
      have h6 : (64 : Int32).toInt = 64 := rfl
      omega
    | succ k ih =>
      intro m hm h
      have g := sq_rg hb m h
      by_cases q : sq b m = n
      · exact ⟨m, by omega, h, Or.inl q⟩
      · have ql : sq b m < n := by grind
        by_cases q2 : (ins b (sq b m)).1 = -1
        · refine ih (m + 1) (by omega) (fun j hj => ?_)
          by_cases qj : j = m
          · subst qj; exact ⟨ql, q2⟩
          · exact h j (by omega)
        · exact ⟨m, by omega, h, Or.inr ⟨ql, q2⟩⟩
  exact key 65 0 rfl (fun j hj => by omega)
/-- a jump at the i-th instruction that leads nowhere -/
def bad (b : Int32 → Int32) (m i : Nat) : Prop := (b (sq b i) = 7 ∨ b (sq b i) = 8) ∧ ¬ ∃ j, j ≤ m ∧ jmp b (sq b i) (sq b (i + 1)) = sq b j
/-- the first such place of the last k instructions -/
noncomputable def Fj (b : Int32 → Int32) (m : Nat) : Nat → Int32
  | 0 => -1
  | k + 1 => @ite Int32 (bad b m (m - (k + 1))) (Classical.propDecidable _) (sq b (m - (k + 1))) (Fj b m k)
theorem Fj_ok {b : Int32 → Int32} {n : Int32} {m : Nat} (hb : BT b n) (h : Pfx b n m) : ∀ k, k ≤ m → Fj b m k = -1 → ∀ i, m - k ≤ i → i < m → ¬ bad b m i := by
  intro k
  induction k with
  | zero => intro _ _ i h1 h2; omega
  | succ k ih =>
    intro hk he i h1 h2
    rw [Fj] at he
    by_cases q : bad b m (m - (k + 1))
    · rw [if_pos q] at he
      have := (sq_rg hb (m - (k + 1)) (fun j hj => h j (by omega))).2.2
      grind
    · rw [if_neg q] at he
      by_cases e : i = m - (k + 1)
      · subst e; exact q
      · exact ih (by omega) he i (by omega) h2
theorem Fj_ge {b : Int32 → Int32} {n : Int32} {m : Nat} (hb : BT b n) (h : Pfx b n m) : ∀ k, k ≤ m → Fj b m k = -1 ∨ 0 ≤ Fj b m k := by
  intro k
  induction k with
  | zero => intro _; exact Or.inl rfl
  | succ k ih =>
    intro hk
    rw [Fj]
    by_cases q : bad b m (m - (k + 1))
    · rw [if_pos q]; exact Or.inr (sq_rg hb (m - (k + 1)) (fun j hj => h j (by omega))).2.2
    · rw [if_neg q]; exact ih (by omega)
theorem LogOK_of {b : Int32 → Int32} {n : Int32} {m : Nat} (hb : BT b n) (h : Pfx b n m) (hm : sq b m = n) (hf : Fj b m m = -1) : LogOK b n := by
  refine ⟨m, hm, fun i hi => ⟨(h i hi).1, (h i hi).2, fun hj => ?_⟩⟩
  have := Fj_ok hb h m (by omega) hf i (by omega) hi
  unfold bad at this
  exact Classical.byContradiction (fun hn => this ⟨hj, hn⟩)
/-! the class's check of a logic -/
section
variable {A M C : Ab} {z : Option Nat × (Nat → Option Nat)}
theorem tn65 {x : Int32} (hx : 0 ≤ x) (h : x ≤ 64) : x.toNatClampNeg < 65 := tn_lt (m := 65) rfl hx (by grind)
theorem V_68 {S : St} {x : Int32} : G_68 S x = some (if 0 ≤ x ∧ x ≤ 64 ∧ S.1 28 x.toNatClampNeg ≠ 0 then 1 else 0, S) := by
  unfold G_68; simp only [xin65]; grind
theorem V_71 {S : St} {x : Int32} : G_71 S x = some (if x ≤ 127 then x else x - 256, S) := by unfold G_71; grind
/-- the marks are those of the places up to m -/
def Mk (b : Int32 → Int32) (m : Nat) (f : Nat → Int32) : Prop := ∀ p : Int32, 0 ≤ p → p ≤ 64 → (f p.toNatClampNeg ≠ 0 ↔ ∃ j, j < m ∧ sq b j = p)
theorem Mk.u {b : Int32 → Int32} {n : Int32} (hb : BT b n) {m : Nat} (hp : Pfx b n m) {f : Nat → Nat → Int32} {c : Nat} (h : Mk b m (f c)) : Mk b (m + 1) (xa_u f c (sq b m).toNatClampNeg 1 c) := by
  have g := sq_rg hb m hp
  intro p p0 p64
  rw [xa_if]
  by_cases q : p = sq b m
  · subst q
    rw [if_pos ⟨rfl, rfl⟩]
    exact ⟨fun _ => ⟨m, by omega, rfl⟩, fun _ => by decide⟩
  · rw [if_neg (fun e => q (tn_inj p0 g.2.2 e.2)), h p p0 p64]
    constructor
    · rintro ⟨j, h1, h2⟩; exact ⟨j, by omega, h2⟩
    · rintro ⟨j, h1, h2⟩
      refine ⟨j, ?_, h2⟩
      have : j ≠ m := fun e => q (by rw [← h2, e])
      omega
theorem C_69 (hw : WF A) {r : Nat} (hr : r < 4) {S : St} (hc : CR A M S) {m i : Nat} (hp : Pfx (bt A r) (A 5 r) m) (hi : i < m) (hk : Mk (bt A r) (m + 1) (S.1 28)) : ∃ v, G_69 S (15 + 2 * r) (sq (bt A r) i) (sq (bt A r) (i + 1)) = some (v, S) ∧ (v = 0 ↔ bad (bt A r) m i) := by
  have hb := hw.b0 hr
  have n6 := hb.n64
  have g1 := sq_rg hb i (fun j hj => hp j (by omega))
  have g2 := sq_rg hb (i + 1) (fun j hj => hp j (by omega))
  have g3 := sq_mono hb hp (i + 1) (by omega) i (by omega)
  have hlt := (hp i hi).1
  unfold G_69
  rw [if_pos (kd_res hr), C_25 hw hc hr g1.2.2 hlt]
  simp only []
  rw [C_25 hw hc hr (show 0 ≤ sq (bt A r) (i + 1) - 1 by grind) (by grind)]
  simp only [V_71, V_68]
  have key : ∀ t : Int32, (0 ≤ t ∧ t ≤ 64 ∧ S.1 28 t.toNatClampNeg ≠ 0) ↔ ∃ j, j ≤ m ∧ t = sq (bt A r) j := by
    intro t
    constructor
    · rintro ⟨t0, t1, t2⟩
      obtain ⟨j, h1, h2⟩ := (hk t t0 t1).mp t2
      exact ⟨j, by omega, h2.symm⟩
    · rintro ⟨j, h1, rfl⟩
      have g := sq_rg hb j (fun i hi => hp i (by omega))
      exact ⟨g.2.2, by grind, (hk _ g.2.2 (by grind)).mpr ⟨j, by omega, rfl⟩⟩
  have b7 := key (sq (bt A r) (i + 1) + (if bt A r (sq (bt A r) (i + 1) - 1) ≤ 127 then bt A r (sq (bt A r) (i + 1) - 1) else bt A r (sq (bt A r) (i + 1) - 1) - 256))
  have b8 := key (sq (bt A r) (i + 1) + bt A r (sq (bt A r) (i + 1) - 1))
  unfold bad jmp
  by_cases q7 : bt A r (sq (bt A r) i) = 7
  · rw [if_pos q7]
    have e7 : (if bt A r (sq (bt A r) (i + 1) - 1) ≤ 127 then sq (bt A r) (i + 1) + bt A r (sq (bt A r) (i + 1) - 1) else sq (bt A r) (i + 1) + (bt A r (sq (bt A r) (i + 1) - 1) - 256)) = sq (bt A r) (i + 1) + (if bt A r (sq (bt A r) (i + 1) - 1) ≤ 127 then bt A r (sq (bt A r) (i + 1) - 1) else bt A r (sq (bt A r) (i + 1) - 1) - 256) := by split <;> rfl
    rw [if_pos q7, e7]
    by_cases qt : ∃ j, j ≤ m ∧ sq (bt A r) (i + 1) + (if bt A r (sq (bt A r) (i + 1) - 1) ≤ 127 then bt A r (sq (bt A r) (i + 1) - 1) else bt A r (sq (bt A r) (i + 1) - 1) - 256) = sq (bt A r) j
    · simp only [if_pos (b7.mpr qt)]
      exact ⟨1, by simp, ⟨fun h => by exfalso; revert h; decide, fun h => absurd qt h.2⟩⟩
    · simp only [if_neg (fun h => qt (b7.mp h))]
      exact ⟨0, by simp, ⟨fun _ => ⟨Or.inl q7, qt⟩, fun _ => rfl⟩⟩
  · rw [if_neg q7, if_neg q7]
    by_cases q8 : bt A r (sq (bt A r) i) = 8
    · rw [if_pos q8]
      by_cases qt : ∃ j, j ≤ m ∧ sq (bt A r) (i + 1) + bt A r (sq (bt A r) (i + 1) - 1) = sq (bt A r) j
      · simp only [if_pos (b8.mpr qt), e10, if_false]
        exact ⟨1, rfl, ⟨fun h => by exfalso; revert h; decide, fun h => absurd qt h.2⟩⟩
      · simp only [if_neg (fun h => qt (b8.mp h)), if_true]
        exact ⟨0, rfl, ⟨fun _ => ⟨Or.inr q8, qt⟩, fun _ => rfl⟩⟩
    · rw [if_neg q8]
      exact ⟨1, rfl, ⟨fun h => by exfalso; revert h; decide, fun h => by rcases h.1 with h | h; exact absurd h q7; exact absurd h q8⟩⟩
/-- backwards over places that are none -/
theorem C_67s {S : St} {u : Nat} {y : Int32} {lo hi : Int32} (h0 : 0 ≤ lo) (h64 : hi ≤ 64) (hno : ∀ p : Int32, lo < p → p < hi → S.1 28 p.toNatClampNeg = 0) : ∀ (k : Nat) (p : Int32) (n : Nat), p.toInt = lo.toInt + k → p < hi → ∃ n', n ≤ n' + k ∧ (k < n → GL_67_0 n S u y p = GL_67_0 n' S u y lo ∧ n' ≥ 1) := by
  intro k
  induction k with
  | zero =>
    intro p n hp _
    have : p = lo := Int32.toInt_inj.mp (by omega)
    exact ⟨n, by omega, fun h => ⟨by rw [this], by omega⟩⟩
  | succ k ih =>
    intro p n hp hh
    have hlt : lo < p := Int32.lt_iff_toInt_lt.mpr (by omega)
    have e : (p + (-1)).toInt = p.toInt - 1 := by
      have h1 : (-1 : Int32).toInt = -1 := rfl
      have := ile h0; have h00 : (0 : Int32).toInt = 0 := rfl
      have := Int32.toInt_lt p
      rw [iadd] <;> rw [h1] <;> omega
    cases n with
    | zero => exact ⟨0, by omega, fun h => by omega⟩
    | succ n =>
      obtain ⟨n', a1, a2⟩ := ih (p + (-1)) n (by omega) (by grind)
      refine ⟨n', by omega, fun h => ?_⟩
      obtain ⟨b1, b2⟩ := a2 (by omega)
      refine ⟨?_, b2⟩
      rw [GL_67_0, if_neg (show ¬ p < 0 by grind), V_68]
      simp only []
      rw [if_neg (show ¬ (0 ≤ p ∧ p ≤ 64 ∧ S.1 28 p.toNatClampNeg ≠ 0) from fun h => h.2.2 (hno p hlt hh))]
      simp only [if_true]
      exact b1
theorem C_67 (hw : WF A) {r : Nat} (hr : r < 4) {S : St} (hc : CR A M S) {m : Nat} (hp : Pfx (bt A r) (A 5 r) m) (hk : Mk (bt A r) (m + 1) (S.1 28)) {q : Int32} : ∀ (i : Nat), i ≤ m → ∀ (n : Nat), 130 ≤ n → (130 : Int) + (sq (bt A r) i).toInt ≤ n → GL_67_0 n (cw S q (Fj (bt A r) m (m - i))) (15 + 2 * r) (sq (bt A r) i) (sq (bt A r) i - 1) = some ((), cw S q (Fj (bt A r) m m)) := by
  have hb := hw.b0 hr
  have n6 := hb.n64
  intro i
  induction i with
  | zero =>
    intro _ n hn _
    obtain ⟨n', rfl⟩ : ∃ n', n = n' + 1 := ⟨n - 1, by omega⟩
    have e : sq (bt A r) 0 = 0 := rfl
    rw [e, GL_67_0, if_pos (by decide), Nat.sub_zero]
  | succ i ih =>
    intro hi n hn hn2
    have g1 := sq_rg hb i (fun j hj => hp j (by omega))
    have g2 := sq_rg hb (i + 1) (fun j hj => hp j (by omega))
    have g3 := sq_mono hb hp (i + 1) (by omega) i (by omega)
    have l3 := ilt g3
    have l1 := ile g1.2.2
    have l2 := ile g2.2.1
    have l4 := ile n6
    have h00 : (0 : Int32).toInt = 0 := rfl
    have h64 : (64 : Int32).toInt = 64 := rfl
    have e1 : (sq (bt A r) (i + 1) - 1).toInt = (sq (bt A r) (i + 1)).toInt - 1 := by
      have h1 : (1 : Int32).toInt = 1 := rfl
      rw [Int32.toInt_sub, h1]; apply Int.bmod_eq_of_le <;> omega
    have hk' : ∀ f, (cw S q f).1 28 = S.1 28 := fun f => by funext k; exact cw_c _ _ _ (by omega)
    obtain ⟨n', a1, a2⟩ := C_67s (S := cw S q (Fj (bt A r) m (m - (i + 1)))) (u := 15 + 2 * r) (y := sq (bt A r) (i + 1)) (lo := sq (bt A r) i) (hi := sq (bt A r) (i + 1)) g1.2.2 (by grind) (fun p p1 p2 => by
      rw [hk']
      apply Classical.byContradiction
      intro hne
      obtain ⟨j, j1, j2⟩ := (hk p (by grind) (by grind)).mp hne
      rcases Nat.lt_or_ge j (i + 1) with jl | jg
      · rcases Nat.lt_or_ge j i with jl2 | jg2
        · have := sq_mono hb hp i (by omega) j jl2; grind
        · have : j = i := by omega
          subst this; grind
      · rcases Nat.lt_or_ge (i + 1) j with jl2 | jg2
        · have := sq_mono hb hp j (by omega) (i + 1) jl2; grind
        · have : j = i + 1 := by omega
          subst this; grind) ((sq (bt A r) (i + 1)).toInt - 1 - (sq (bt A r) i).toInt).toNat (sq (bt A r) (i + 1) - 1) n (by omega) (by grind)
    obtain ⟨b1, b2⟩ := a2 (by omega)
    rw [b1]
    obtain ⟨n2, rfl⟩ : ∃ n2, n' = n2 + 1 := ⟨n' - 1, by omega⟩
    have hbeg : 0 ≤ sq (bt A r) i ∧ sq (bt A r) i ≤ 64 ∧ S.1 28 (sq (bt A r) i).toNatClampNeg ≠ 0 := ⟨g1.2.2, by grind, (hk _ g1.2.2 (by grind)).mpr ⟨i, by omega, rfl⟩⟩
    obtain ⟨v, c1, c2⟩ := C_69 (i := i) hw hr (hc.cw q (Fj (bt A r) m (m - (i + 1)))) hp (by omega) (by rw [hk']; exact hk)
    rw [GL_67_0, if_neg (show ¬ sq (bt A r) i < 0 by grind), V_68]
    simp only [hk', if_pos hbeg, e10, if_false, c1]
    have ef : m - i = m - (i + 1) + 1 := by omega
    have ei : m - (m - (i + 1) + 1) = i := by omega
    have es : sq (bt A r) i + (-1) = sq (bt A r) i - 1 := by grind
    have hF : Fj (bt A r) m (m - i) = if v = 0 then sq (bt A r) i else Fj (bt A r) m (m - (i + 1)) := by
      rw [ef, Fj, ei]
      by_cases qv : v = 0
      · rw [if_pos qv, if_pos (c2.mp qv)]
      · rw [if_neg qv, if_neg (fun h => qv (c2.mpr h))]
    have := ih (by omega) n2 (by omega) (by omega)
    rw [hF] at this
    by_cases qv : v = 0
    · rw [if_pos qv] at this ⊢
      rw [cw_uw, es]; exact this
    · rw [if_neg qv] at this ⊢
      rw [es]; exact this
/-- what the reading of a logic answers -/
noncomputable def LRes (b : Int32 → Int32) (n : Int32) (m : Nat) : Int32 := if sq b m = n then (if Fj b m m = -1 then Int32.ofNat m else -2 - Fj b m m) else -2 - (ins b (sq b m)).1
theorem cw_28 {S : St} {p w : Int32} {k : Nat} {v : Int32} : (xa_u (cw S p w).1 28 k v, (cw S p w).2.1, (cw S p w).2.2) = cw (xa_u S.1 28 k v, S.2) p w := by
  unfold cw; refine Prod.ext ?_ rfl; funext c j; simp only [xa_if]; grind
theorem CR.u28 {S : St} (h : CR A M S) {k : Nat} {v : Int32} : CR A M (xa_u S.1 28 k v, S.2) := h.up (by unfold cpv; omega) v
theorem C_58l (hw : WF A) {r : Nat} (hr : r < 4) {m : Nat} (hp : Pfx (bt A r) (A 5 r) m) (hm64 : m ≤ 64) (he : sq (bt A r) m = A 5 r ∨ (sq (bt A r) m < A 5 r ∧ (ins (bt A r) (sq (bt A r) m)).1 ≠ -1)) : ∀ (k i : Nat), i + k = m → ∀ (S : St), CR A M S → Mk (bt A r) i (S.1 28) → ∀ n, k + 5 ≤ n → ∃ S', GL_58_0 n (cw S (sq (bt A r) i) (-1)) (15 + 2 * r) (Int32.ofNat i) = some (LRes (bt A r) (A 5 r) m, S') ∧ CR A M S' := by
  have hb := hw.b0 hr
  have n6 := hb.n64
  have h64 : (64 : Int32).toInt = 64 := rfl
  have nc : 15 + 2 * r ≠ 27 := by omega
  intro k
  induction k with
  | zero =>
    intro i him S hc hk n hn
    have him : i = m := by omega
    subst him
    obtain ⟨n', rfl⟩ : ∃ n', n = n' + 1 + 1 := ⟨n - 2, by omega⟩
    have g := sq_rg hb i hp
    have hin : xa_in (A 5 r) 65 := (xin65 _).mpr (by have := hb.n0; grind)
    by_cases hend : sq (bt A r) i = A 5 r
    · -- the end: the marks, then the jumps
      have hk2 := Mk.u (f := S.1) hb hp hk
      have hc2 : CR A M (xa_u S.1 28 (sq (bt A r) i).toNatClampNeg 1, S.2) := hc.u28
      have h67 := C_67 (S := (xa_u S.1 28 (sq (bt A r) i).toNatClampNeg 1, S.2)) (q := sq (bt A r) i) hw hr hc2 hp hk2 i (by omega) xFu (by decide) (by
        have := ile g.2.1; have := ile n6; unfold xFu; omega)
      have g67 : G_67 (cw (xa_u S.1 28 (sq (bt A r) i).toNatClampNeg 1, S.2) (sq (bt A r) i) (-1)) (15 + 2 * r) = some ((), cw (xa_u S.1 28 (sq (bt A r) i).toNatClampNeg 1, S.2) (sq (bt A r) i) (Fj (bt A r) i i)) := by
        unfold G_67
        rw [if_pos (kd_res hr), cw_c _ _ _ nc, hc2.siz _ hr, ← hend]
        rw [Nat.sub_self] at h67
        exact h67
      have hs : (cw S (sq (bt A r) i) (-1)).1 (15 + 2 * r) 1 = A 5 r := by rw [cw_c _ _ _ nc]; exact hc.siz _ hr
      refine ⟨cw (xa_u S.1 28 (sq (bt A r) i).toNatClampNeg 1, S.2) (sq (bt A r) i) (Fj (bt A r) i i), ?_, hc2.cw _ _⟩
      rw [GL_58_0]
      simp only [cw_w, cw_p, hs, if_pos (kd_res hr), if_pos hin, if_true]
      rw [← hend]
      simp only [Int32.le_refl, if_true, cw_28, g67, cw_w, ite_self]
      unfold LRes
      rw [if_pos rfl]
      by_cases qf : Fj (bt A r) i i = -1
      · rw [if_pos qf, if_pos qf]
      · rw [if_neg qf, if_neg qf]
    · -- a fault
      have hl : sq (bt A r) i < A 5 r ∧ (ins (bt A r) (sq (bt A r) i)).1 ≠ -1 := by rcases he with h | h; exact absurd h hend; exact h
      have hlt : ¬ (64 ≤ Int32.ofNat i) := by
        have := ilt hl.1; have := ile n6
        rw [Int32.le_iff_toInt_le, ni_i (by omega)]; omega
      have hs : (cw S (sq (bt A r) i) (-1)).1 (15 + 2 * r) 1 = A 5 r := by rw [cw_c _ _ _ nc]; exact hc.siz _ hr
      have hin2 : xa_in (sq (bt A r) i) 65 := (xin65 _).mpr (by grind)
      have hc2 : CR A M (xa_u S.1 28 (sq (bt A r) i).toNatClampNeg 1, S.2) := hc.u28
      obtain ⟨p', e1, e2⟩ := C_59 hw hr hc2 g.2.2 hl.1
      refine ⟨cw (xa_u S.1 28 (sq (bt A r) i).toNatClampNeg 1, S.2) p' (ins (bt A r) (sq (bt A r) i)).1, ?_, hc2.cw _ _⟩
      rw [GL_58_0, if_neg hlt]
      simp only [cw_w, cw_p, hs, if_pos (kd_res hr), if_neg (show ¬ A 5 r ≤ sq (bt A r) i by grind), if_pos hin2, if_true, cw_28, e1]
      rw [GL_58_0]
      simp only [cw_w, if_neg hl.2, if_pos (kd_res hr), ite_self]
      unfold LRes
      rw [if_neg hend]
  | succ k ih =>
    intro i him S hc hk n hn
    obtain ⟨n', rfl⟩ : ∃ n', n = n' + 1 := ⟨n - 1, by omega⟩
    have hpi : Pfx (bt A r) (A 5 r) i := fun j hj => hp j (by omega)
    have g := sq_rg hb i hpi
    have hl := hp i (by omega)
    have hlt : ¬ (64 ≤ Int32.ofNat i) := by
      rw [Int32.le_iff_toInt_le, ni_i (by omega)]; omega
    have hs : (cw S (sq (bt A r) i) (-1)).1 (15 + 2 * r) 1 = A 5 r := by rw [cw_c _ _ _ nc]; exact hc.siz _ hr
    have hin2 : xa_in (sq (bt A r) i) 65 := (xin65 _).mpr (by grind)
    have hc2 : CR A M (xa_u S.1 28 (sq (bt A r) i).toNatClampNeg 1, S.2) := hc.u28
    obtain ⟨p', e1, e2⟩ := C_59 hw hr hc2 g.2.2 hl.1
    have e2' : p' = sq (bt A r) (i + 1) := e2 hl.2
    rw [hl.2, e2'] at e1
    rw [GL_58_0, if_neg hlt]
    simp only [cw_w, cw_p, hs, if_pos (kd_res hr), if_neg (show ¬ A 5 r ≤ sq (bt A r) i by grind), if_pos hin2, if_true, cw_28, e1, nj_s]
    exact ih (i + 1) (by omega) _ hc2 (Mk.u (f := S.1) hb hpi hk) n' (by omega)
theorem C_58 (hw : WF A) {r : Nat} (hr : r < 4) {m : Nat} (hp : Pfx (bt A r) (A 5 r) m) (hm64 : m ≤ 64) (he : sq (bt A r) m = A 5 r ∨ (sq (bt A r) m < A 5 r ∧ (ins (bt A r) (sq (bt A r) m)).1 ≠ -1)) {S : St} (hc : CR A M S) : ∃ S', G_58 S (15 + 2 * r) = some (LRes (bt A r) (A 5 r) m, S') ∧ CR A M S' := by
  have key : ∀ (i : Int32) (n : Nat), 0 ≤ i → i ≤ 65 → ((65 : Int32).toInt - i.toInt) < n → ∀ S : St, CR A M S → (∀ p : Int32, 0 ≤ p → p < i → S.1 28 p.toNatClampNeg = 0) → ∃ S', GL_58_1 n (cw S 0 (-1)) (15 + 2 * r) i = some (LRes (bt A r) (A 5 r) m, S') ∧ CR A M S' := by
    refine up_ind (P := fun i n => ∀ S : St, CR A M S → (∀ p : Int32, 0 ≤ p → p < i → S.1 28 p.toNatClampNeg = 0) → ∃ S', GL_58_1 n (cw S 0 (-1)) (15 + 2 * r) i = some (LRes (bt A r) (A 5 r) m, S') ∧ CR A M S') ?_ ?_
    · intro n S hc h
      rw [GL_58_1, if_pos (by decide)]
      exact C_58l hw hr hp hm64 he m 0 (by omega) S hc (fun p p0 p1 => ⟨fun h1 => absurd (h p p0 (by grind)) h1, fun ⟨j, j1, _⟩ => by omega⟩) xFu (by unfold xFu; omega)
    · intro i n i0 i1 ih S hc h
      rw [GL_58_1, if_neg (show ¬ 64 < i by grind), if_pos ((xin65 _).mpr ⟨i0, i1⟩), cw_28]
      refine ih _ hc.u28 (fun p p0 p1 => ?_)
      show xa_u S.1 28 i.toNatClampNeg 0 28 p.toNatClampNeg = 0
      rw [xa_if]
      by_cases q : p = i
      · rw [q, if_pos ⟨rfl, rfl⟩]
      · rw [if_neg (fun e => q (tn_inj p0 i0 e.2))]
        exact h p p0 (by grind)
  unfold G_58
  exact key 0 xFu (by decide) (by decide) (by decide) S hc (fun p p0 p1 => by exfalso; grind)
end
