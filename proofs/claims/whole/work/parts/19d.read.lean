/-! The pure part (19d.read): both halves answer alike -/
/-! the model reads bytes -/
def tw (T : St) (w : Int32) : St := (xa_u T.1 29 7 w, T.2)
theorem tw_w (T : St) (w : Int32) : (tw T w).1 29 7 = w := by unfold tw; show xa_u T.1 29 7 w 29 7 = w; exact xa_e
theorem tw_c (T : St) (w : Int32) {c k : Nat} (h : ¬ (c = 29 ∧ k = 7)) : (tw T w).1 c k = T.1 c k := by unfold tw; exact xa_c h
theorem tw_tw (T : St) (v w : Int32) : tw (tw T v) w = tw T w := by
  unfold tw; refine Prod.ext ?_ rfl; exact xa_uu
theorem tw_u (T : St) (v w : Int32) : (xa_u (tw T v).1 29 7 w, (tw T v).2.1, (tw T v).2.2) = tw T w := tw_tw T v w
theorem tw_id (T : St) : tw T (T.1 29 7) = T := by
  unfold tw; refine Prod.ext ?_ rfl; exact xa_id
theorem tw_s {T : St} {w : Int32} (h : T.1 29 7 = w) : tw T w = T := by rw [← h]; exact tw_id T
/-- reading leaves all else alone -/
def PF (T T' : St) : Prop := (∀ c k, c ≠ 37 → c ≠ 38 → c ≠ 39 → ¬ (c = 29 ∧ (k = 7 ∨ k = 10)) → T'.1 c k = T.1 c k) ∧ T'.2 = T.2
theorem PF.refl (T : St) : PF T T := ⟨fun _ _ _ _ _ _ => rfl, rfl⟩
theorem PF.trans {T U V : St} (h : PF T U) (g : PF U V) : PF T V := ⟨fun c k a b d e => (g.1 c k a b d e).trans (h.1 c k a b d e), g.2.trans h.2⟩
theorem PF.u {T : St} {c k : Nat} (v : Int32) (h : c = 37 ∨ c = 38 ∨ c = 39 ∨ (c = 29 ∧ (k = 7 ∨ k = 10))) : PF T (xa_u T.1 c k v, T.2) := ⟨fun c' k' a b d e => xa_c (by omega), rfl⟩
theorem PF.tw (T : St) (w : Int32) : PF T (tw T w) := PF.u w (by omega)
section
variable {A M C : Ab} {z : Option Nat × (Nat → Option Nat)}
theorem MR.pf {T T' : St} (h : MR A C z T) (g : PF T T') : MR A C z T' := by
  obtain ⟨g1, g2⟩ := g
  have e : ∀ c k, c ≠ 37 → c ≠ 38 → c ≠ 39 → ¬ (c = 29 ∧ (k = 7 ∨ k = 10)) → T'.1 c k = T.1 c k := g1
  obtain ⟨h0, h1, h2, h3, h4, h5, h6, h7, h8, h9, h10, h11, h12, h13, h14⟩ := h
  refine ⟨?lim_0, ?cyc_0, ?ovr_0, ?wrd_0, ?stp_0, ?col_0, ?ctl_0, ?val_0, ?flg_0, ?siz_0, ?lod_0, ?byt_0, ?act_0, ?fr_0, ?fz_0⟩
  case fz_0 => rw [g2, h14]
  case act_0 =>
    intro o f ho hf
    rw [e _ _ (by unfold mcl; grind) (by unfold mcl; grind) (by unfold mcl; grind) (by unfold mcl; grind)]
    exact h12 o f ho hf
  all_goals intros
  all_goals rw [e _ _ (by omega) (by omega) (by omega) (by omega)]
  · exact h0
  · exact h1
  · exact h2
  · exact h3
  · exact h4
  · exact h5 _ (by assumption)
  · exact h6 _ (by assumption)
  · exact h7 _ (by assumption)
  · exact h8 _ (by assumption)
  · exact h9 _ (by assumption)
  · exact h10 _ (by assumption)
  · exact h11 _ _ (by assumption) (by assumption)
  · exact h13 _ _ (by assumption)
theorem MR.tw {T : St} (h : MR A C z T) (w : Int32) : MR A C z (tw T w) := h.pf (PF.tw T w)
theorem M_118 (hw : WF A) {T : St} (hm : MR A C z T) {x p : Int32} (x0 : 0 ≤ x) (x4 : x < 4) (h0 : 0 ≤ p) : G_118 T x p = some (bt A x.toNatClampNeg p, T) := by
  have hr := tn4 x0 x4
  have ws := hw.siz _ hr
  unfold G_118 bt
  rw [if_pos ((xin4 x).mpr ⟨x0, x4⟩), hm.siz _ hr]
  by_cases q : p < A 5 x.toNatClampNeg
  · have ixx := ix64 x0 x4 h0 (show p < 64 by grind)
    rw [if_pos q, if_neg (by grind), if_pos ixx.2, ixx.1, hm.byt _ _ hr (tn64 h0 (by grind))]
  · rw [if_neg q, if_pos (by grind)]
theorem M_120 (hw : WF A) {T : St} (hm : MR A C z T) {x p l h : Int32} (x0 : 0 ≤ x) (x4 : x < 4) (h0 : 0 ≤ p) (w : Int32) : G_120 (tw T w) x p l h = some ((), tw T (chk (bt A x.toNatClampNeg) w p l h)) := by
  unfold G_120 chk
  rw [tw_w, M_118 hw (hm.tw w) x0 x4 h0]
  simp only [V_115, tw_u]
  by_cases q : 0 ≤ w
  · rw [if_pos q, if_pos q]
  · rw [if_neg q, if_neg q]
    by_cases q2 : bt A x.toNatClampNeg p < l ∨ h < bt A x.toNatClampNeg p
    · simp only [if_pos q2, e10, if_false]
    · simp only [if_neg q2, if_true]
theorem M_121 (hw : WF A) {T : St} (hm : MR A C z T) {x p : Int32} (x0 : 0 ≤ x) (x4 : x < 4) (h0 : 0 ≤ p) (h1 : p < 1000) (w : Int32) : G_121 (tw T w) x p = some ((), tw T (chk (bt A x.toNatClampNeg) (chk (bt A x.toNatClampNeg) w p 0 15) (p + 1) 0 11)) := by
  unfold G_121
  simp only [M_120 hw hm x0 x4 h0, M_120 hw hm x0 x4 (show 0 ≤ p + 1 by grind)]
/-- tests that ask of the world -/
theorem M_126 (hw : WF A) {T : St} (hm : MR A C z T) {x p c : Int32} (x0 : 0 ≤ x) (x4 : x < 4) (h0 : 0 ≤ p) (h1 : p < 100) (c0 : 0 ≤ c) (c5 : c < 5) (w : Int32) : G_126 (tw T w) x p c = some (p + 1 + ln (lfc c), tw T (ops (bt A x.toNatClampNeg) w (p + 1) (lfc c))) := by
  have hc : c = 0 ∨ c = 1 ∨ c = 2 ∨ c = 3 ∨ c = 4 := by grind
  have p1 : 0 ≤ p + 1 := by grind
  have p2 : 0 ≤ p + 2 := by grind
  have p4 : 0 ≤ p + 4 := by grind
  have l4 : p + 4 < 1000 := by grind
  have l2 : p + 2 < 1000 := by grind
  have a2 : p + 1 + 1 = p + 2 := by grind
  have a3 : p + 2 + 1 = p + 3 := by grind
  have a4 : p + 3 + 1 = p + 4 := by grind
  have a5 : p + 4 + 1 = p + 5 := by grind
  unfold G_126
  simp only [M_120 hw hm x0 x4 p1, M_120 hw hm x0 x4 p2, M_121 hw hm x0 x4 p2 l2, M_121 hw hm x0 x4 p4 l4]
  rcases hc with rfl | rfl | rfl | rfl | rfl
  · have e : lfc 0 = [118, 110] := rfl
    rw [e]
    simp only [ops, a2, if_true]
    rw [show p + 1 + ln [118, 110] = p + 3 from by rw [show ln [118, 110] = 2 from rfl]; grind]
    rfl
  · have e : lfc 1 = [118, 110] := rfl
    rw [e]
    simp only [ops, a2, if_true]
    rw [show p + 1 + ln [118, 110] = p + 3 from by rw [show ln [118, 110] = 2 from rfl]; grind]
    rfl
  · have e : lfc 2 = [102] := rfl
    rw [e]
    simp only [ops, a2, if_true]
    rw [show p + 1 + ln [102] = p + 2 from by rw [show ln [102] = 1 from rfl]; grind]
    rfl
  · have e : lfc 3 = [119] := rfl
    rw [e]
    simp only [ops, a2, if_true]
    rw [show p + 1 + ln [119] = p + 2 from by rw [show ln [119] = 1 from rfl]; grind]
    rfl
  · have e : lfc 4 = [111, 120, 121, 120, 121] := rfl
    rw [e]
    simp only [ops, a2, a3, a4, a5, if_true]
    rw [show p + 1 + ln [111, 120, 121, 120, 121] = p + 6 from by rw [show ln [111, 120, 121, 120, 121] = 5 from rfl]; grind]
    rfl
/-- after a fault a test's operands are not looked at -/
theorem M_126w (hw : WF A) {T : St} (hm : MR A C z T) {x p c w : Int32} (x0 : 0 ≤ x) (x4 : x < 4) (h0 : 0 ≤ p) (h1 : p < 100) (w0 : 0 ≤ w) : ∃ q, G_126 (tw T w) x p c = some (q, tw T w) := by
  have p1 : 0 ≤ p + 1 := by grind
  have p2 : 0 ≤ p + 2 := by grind
  have p4 : 0 ≤ p + 4 := by grind
  have l4 : p + 4 < 1000 := by grind
  have l2 : p + 2 < 1000 := by grind
  unfold G_126
  simp only [M_120 hw hm x0 x4 p1, M_120 hw hm x0 x4 p2, M_121 hw hm x0 x4 p2 l2, M_121 hw hm x0 x4 p4 l4, chk_w w0]
  by_cases c0 : c = 0
  · exact ⟨_, by rw [if_pos c0]⟩
  · by_cases c1 : c = 1
    · exact ⟨_, by rw [if_neg c0, if_pos c1]⟩
    · by_cases c2 : c = 2
      · exact ⟨_, by rw [if_neg c0, if_neg c1, if_pos c2]⟩
      · by_cases c3 : c = 3
        · exact ⟨_, by rw [if_neg c0, if_neg c1, if_neg c2, if_pos c3]⟩
        · exact ⟨_, by rw [if_neg c0, if_neg c1, if_neg c2, if_neg c3]⟩
end
/-! the model's scan of a test: tokens and counters -/
/-- the places of a test's codes, in order -/
def toks (b : Int32 → Int32) : Nat → Int32 → List Int32
  | 0, p => [p]
  | k + 1, p => if 5 ≤ b p ∧ b p ≤ 7 then p :: (toks b k (p + 1) ++ (if b p = 5 then [] else toks b k (prs b k (p + 1)).2)) else [p]
theorem toks_len {b : Int32 → Int32} {n : Int32} (hb : BT b n) (k : Nat) : ∀ p, 0 ≤ p → p ≤ n → (prs b k p).1 = -1 → ((toks b k p).length : Int) ≤ (prs b k p).2.toInt - p.toInt := by
  have n6 := hb.n64
  induction k with
  | zero =>
    intro p h0 h1 h
    have := ilt ((prs_rg hb 0 p h0 h1).1 h).1
    show (1 : Int) ≤ _
    omega
  | succ k ih =>
    intro p h0 h1 h
    have g := ilt ((prs_rg hb (k + 1) p h0 h1).1 h).1
    rw [toks]
    by_cases q : 5 ≤ b p ∧ b p ≤ 7
    · rw [if_pos q]
      rw [prs, if_neg (show ¬ (0 ≤ b p ∧ b p < 5) by grind), if_pos q] at h ⊢
      have hp := hb.lt (p := p) (by grind)
      by_cases q1 : (prs b k (p + 1)).1 = -1
      · rw [if_pos q1] at h ⊢
        have i1 := ih (p + 1) (by grind) (by grind) q1
        have g1 := (prs_rg hb k (p + 1) (by grind) (by grind)).1 q1
        have e : (p + 1).toInt = p.toInt + 1 := by
          have h1 : (1 : Int32).toInt = 1 := rfl
          have a := ile h0; have h00 : (0 : Int32).toInt = 0 := rfl
          have b := ilt hp; have := Int32.toInt_lt n
          rw [iadd] <;> rw [h1] <;> omega
        by_cases q5 : b p = 5
        · rw [if_pos q5] at h ⊢
          rw [if_pos q5, List.append_nil, List.length_cons]
          omega
        · rw [if_neg q5] at h ⊢
          rw [if_neg q5, List.length_cons, List.length_append]
          have i2 := ih (prs b k (p + 1)).2 (by grind) g1.2 h
          omega
      · rw [if_neg q1] at h
        exact absurd h q1
    · rw [if_neg q]
      show (1 : Int) ≤ _
      omega
/-- what a scan of a test leaves: tokens L after the first t, one less to do at depth d -/
def Ps (T T' : St) (t d : Nat) (L : List Int32) : Prop :=
  (PF T T') ∧
  (T'.1 29 7 = -1) ∧
  (T'.1 29 10 = Int32.ofNat (t + L.length)) ∧
  (∀ j, j < t → T'.1 38 j = T.1 38 j) ∧
  (∀ i (h : i < L.length), T'.1 38 (t + i) = L[i]) ∧
  (∀ j, j < d → T'.1 37 j = T.1 37 j) ∧
  (T'.1 37 d = T.1 37 d - 1)
theorem Ps.pf {T T' : St} {t d : Nat} {L : List Int32} (h : Ps T T' t d L) : PF T T' := h.1
theorem Ps.w {T T' : St} {t d : Nat} {L : List Int32} (h : Ps T T' t d L) : T'.1 29 7 = -1 := h.2.1
theorem Ps.n {T T' : St} {t d : Nat} {L : List Int32} (h : Ps T T' t d L) : T'.1 29 10 = Int32.ofNat (t + L.length) := h.2.2.1
theorem Ps.old {T T' : St} {t d : Nat} {L : List Int32} (h : Ps T T' t d L) : ∀ j, j < t → T'.1 38 j = T.1 38 j := h.2.2.2.1
theorem Ps.new {T T' : St} {t d : Nat} {L : List Int32} (h : Ps T T' t d L) : ∀ i (h : i < L.length), T'.1 38 (t + i) = L[i] := h.2.2.2.2.1
theorem Ps.left {T T' : St} {t d : Nat} {L : List Int32} (h : Ps T T' t d L) : ∀ j, j < d → T'.1 37 j = T.1 37 j := h.2.2.2.2.2.1
theorem Ps.one {T T' : St} {t d : Nat} {L : List Int32} (h : Ps T T' t d L) : T'.1 37 d = T.1 37 d - 1 := h.2.2.2.2.2.2
section
variable {A M C : Ab} {z : Option Nat × (Nat → Option Nat)}
/-- after a fault: out -/
theorem M_exit {x q : Int32} : ∀ (d : Nat) (n : Nat) (T : St), d ≤ 7 → d + 3 ≤ n → 0 ≤ T.1 29 7 → ∃ T', GL_125_0 n 1 T x q (Int32.ofNat d) = some (q, T') ∧ PF T T' ∧ T'.1 29 7 = T.1 29 7 := by
  intro d
  induction d with
  | zero =>
    intro n T _ hn hw
    obtain ⟨n', rfl⟩ : ∃ n', n = n' + 1 + 1 := ⟨n - 2, by omega⟩
    rw [GL_125_0, if_pos (by decide), GL_125_0, if_pos hw]
    exact ⟨T, rfl, PF.refl T, rfl⟩
  | succ d ih =>
    intro n T hd hn hw
    obtain ⟨n', rfl⟩ : ∃ n', n = n' + 1 + 1 := ⟨n - 2, by omega⟩
    have hdn : d = 0 ∨ d = 1 ∨ d = 2 ∨ d = 3 ∨ d = 4 ∨ d = 5 ∨ d = 6 := by omega
    have h1 : ¬ (Int32.ofNat (d + 1) ≤ 0) := by rcases hdn with rfl | rfl | rfl | rfl | rfl | rfl | rfl <;> decide
    have h2 : xa_in (Int32.ofNat (d + 1)) 8 := by rcases hdn with rfl | rfl | rfl | rfl | rfl | rfl | rfl <;> decide
    have h3 : xa_in (Int32.ofNat d) 8 := by rcases hdn with rfl | rfl | rfl | rfl | rfl | rfl | rfl <;> decide
    have h4 : Int32.ofNat (d + 1) + (-1) = Int32.ofNat d := by rcases hdn with rfl | rfl | rfl | rfl | rfl | rfl | rfl <;> rfl
    rw [GL_125_0, if_neg h1, if_pos h2, h4]
    unfold xlet
    by_cases q0 : T.1 37 (Int32.ofNat (d + 1)).toNatClampNeg = 0
    · rw [if_pos q0]
      simp only [if_pos h3]
      have hpf : PF T (xa_u T.1 37 (Int32.ofNat d).toNatClampNeg (T.1 37 (Int32.ofNat d).toNatClampNeg - 1), T.2) := PF.u _ (by omega)
      have hw' : (xa_u T.1 37 (Int32.ofNat d).toNatClampNeg (T.1 37 (Int32.ofNat d).toNatClampNeg - 1)) 29 7 = T.1 29 7 := xa_c (by omega)
      obtain ⟨T', e1, e2, e3⟩ := ih (n' + 1) (xa_u T.1 37 (Int32.ofNat d).toNatClampNeg (T.1 37 (Int32.ofNat d).toNatClampNeg - 1), T.2) (by omega) (by omega) (by rw [← hw'] at hw; exact hw)
      exact ⟨T', e1, hpf.trans e2, e3.trans hw'⟩
    · rw [if_neg q0, GL_125_0, if_pos hw]
      exact ⟨T, rfl, PF.refl T, rfl⟩
/-- the token is written -/
def tk (T : St) (t : Nat) (p : Int32) : St := (xa_u (xa_u T.1 38 t p) 29 10 (Int32.ofNat (t + 1)), T.2)
theorem tk_pf (T : St) (t : Nat) (p : Int32) : PF T (tk T t p) := (PF.u (T := T) (c := 38) (k := t) p (by omega)).trans (PF.u (c := 29) (k := 10) _ (by omega))
theorem tk_w (T : St) (t : Nat) (p : Int32) : (tk T t p).1 29 7 = T.1 29 7 := by unfold tk; show xa_u (xa_u T.1 38 t p) 29 10 (Int32.ofNat (t + 1)) 29 7 = _; rw [xa_c (by omega), xa_c (by omega)]
theorem tk_37 (T : St) (t : Nat) (p : Int32) (j : Nat) : (tk T t p).1 37 j = T.1 37 j := by unfold tk; show xa_u (xa_u T.1 38 t p) 29 10 (Int32.ofNat (t + 1)) 37 j = _; rw [xa_c (by omega), xa_c (by omega)]
theorem tk_n (T : St) (t : Nat) (p : Int32) : (tk T t p).1 29 10 = Int32.ofNat (t + 1) := by unfold tk; show xa_u (xa_u T.1 38 t p) 29 10 (Int32.ofNat (t + 1)) 29 10 = _; exact xa_e
theorem tk_t (T : St) (t : Nat) (p : Int32) : (tk T t p).1 38 t = p := by unfold tk; show xa_u (xa_u T.1 38 t p) 29 10 (Int32.ofNat (t + 1)) 38 t = _; rw [xa_c (by omega), xa_e]
theorem tk_o (T : St) (t : Nat) (p : Int32) {j : Nat} (h : j ≠ t) : (tk T t p).1 38 j = T.1 38 j := by unfold tk; show xa_u (xa_u T.1 38 t p) 29 10 (Int32.ofNat (t + 1)) 38 j = _; rw [xa_c (by omega), xa_c (by omega)]
/-- one token of a test at depth d: a question of the world, or a code over others -/
theorem M_tok (hw : WF A) {T : St} (hm : MR A C z T) {x p : Int32} (x0 : 0 ≤ x) (x4 : x < 4) (h0 : 0 ≤ p) (h1 : p ≤ 64) {t d : Nat} (ht : T.1 29 10 = Int32.ofNat t) (htp : (t : Int) + 1 ≤ p.toInt) (hd : d ≤ 6) (hl : ¬ T.1 37 0 ≤ 0) (hww : T.1 29 7 = -1) (n : Nat) :
    ∃ t', PF (tk T t p) t' ∧ (∀ j, t'.1 37 j = T.1 37 j) ∧ (p < A 5 x.toNatClampNeg → t' = tk T t p) ∧
      GL_125_0 (n + 1) 0 T x p (Int32.ofNat d) = (if bt A x.toNatClampNeg p < 5 then
          (match G_126 (tw t' (chk (bt A x.toNatClampNeg) (-1) p 0 (if d = 6 then 4 else 7))) x p (bt A x.toNatClampNeg p) with
            | none => none
            | some (v9, S9) => GL_125_0 n 1 (xa_u S9.1 37 d (S9.1 37 d - 1), S9.2.1, S9.2.2) x v9 (Int32.ofNat d))
        else GL_125_0 n 0 (xa_u (tw t' (chk (bt A x.toNatClampNeg) (-1) p 0 (if d = 6 then 4 else 7))).1 37 (d + 1) (if bt A x.toNatClampNeg p = 5 then 1 else 2), T.2) x (p + 1) (Int32.ofNat (d + 1))) := by
  have hdn : d = 0 ∨ d = 1 ∨ d = 2 ∨ d = 3 ∨ d = 4 ∨ d = 5 ∨ d = 6 := by omega
  have hr := tn4 x0 x4
  have hb := hw.b0 hr
  have l1 := ile h1
  have h64 : (64 : Int32).toInt = 64 := rfl
  have z0 : (0 : Int32).toNatClampNeg = 0 := rfl
  have ht63 : t ≤ 63 := by omega
  have htn : (Int32.ofNat t).toNatClampNeg = t := ni_tn (by omega)
  have hin : xa_in (Int32.ofNat t) 64 := by
    rw [xin64, Int32.le_iff_toInt_le, Int32.lt_iff_toInt_lt, ni_i (by omega)]
    have h00 : (0 : Int32).toInt = 0 := rfl
    omega
  have hd1 : xa_in (Int32.ofNat d) 8 := by rcases hdn with rfl | rfl | rfl | rfl | rfl | rfl | rfl <;> decide
  have hd2 : xa_in (Int32.ofNat d + 1) 8 := by rcases hdn with rfl | rfl | rfl | rfl | rfl | rfl | rfl <;> decide
  have hd3 : ¬ (7 ≤ Int32.ofNat d) := by rcases hdn with rfl | rfl | rfl | rfl | rfl | rfl | rfl <;> decide
  have hd4 : (Int32.ofNat d).toNatClampNeg = d := ni_tn (by omega)
  have hd5 : Int32.ofNat d + 1 = Int32.ofNat (d + 1) := nj_s
  have hd6 : (Int32.ofNat (d + 1)).toNatClampNeg = d + 1 := ni_tn (by omega)
  have hd7 : (Int32.ofNat d = 6) ↔ d = 6 := by rcases hdn with rfl | rfl | rfl | rfl | rfl | rfl | rfl <;> decide
  have hTw : tw T (-1) = T := tw_s hww
  have m4 := M_120 (l := 0) (h := 4) hw hm x0 x4 h0 (-1)
  have m7 := M_120 (l := 0) (h := 7) hw hm x0 x4 h0 (-1)
  rw [hTw] at m4 m7
  -- the two musts as one
  have hch : ∀ h : Int32, ((tw T (chk (bt A x.toNatClampNeg) (-1) p 0 h)).1 29 10 = Int32.ofNat t) := fun h => by rw [tw_c _ _ (by omega)]; exact ht
  have rd : ∀ (w : Int32), xa_u (tw T w).1 38 t p 29 10 = Int32.ofNat t := fun w => by rw [xa_c (by omega), tw_c _ _ (by omega)]; exact ht
  -- the state after the token
  have tkw : ∀ w : Int32, (xa_u (xa_u (tw T w).1 38 t p) 29 10 (Int32.ofNat (t + 1)), T.2) = tw (tk T t p) w := fun w => by
    unfold tw tk; refine Prod.ext ?_ rfl; funext c k; simp only [xa_if]; grind
  have tkw2 : ∀ w : Int32, (xa_u (xa_u (tw T w).1 38 t p) 29 10 (Int32.ofNat t), T.2) = tw (xa_u (tk T t p).1 29 10 (Int32.ofNat t), T.2) w := fun w => by
    unfold tw tk; refine Prod.ext ?_ rfl; funext c k; simp only [xa_if]; grind
  by_cases h63 : 63 ≤ Int32.ofNat t
  · -- only where the byte is missing
    have hpe : ¬ p < A 5 x.toNatClampNeg := by
      intro hlt
      have a := ilt hlt; have b := ile hb.n64
      rw [Int32.le_iff_toInt_le, ni_i (by omega)] at h63
      have h63' : (63 : Int32).toInt = 63 := rfl
      omega
    refine ⟨(xa_u (tk T t p).1 29 10 (Int32.ofNat t), T.2), PF.u _ (by omega), fun j => ?_, fun h => absurd h hpe, ?_⟩
    · show xa_u (tk T t p).1 29 10 (Int32.ofNat t) 37 j = _; rw [xa_c (by omega)]; exact tk_37 T t p j
    · rw [GL_125_0, if_neg (by rw [hww]; decide), z0, if_neg hl, M_118 hw hm x0 x4 h0]
      simp only [m4, m7, hch, if_pos hin, htn, rd, if_pos h63, if_pos hd1, if_neg hd3, hd4, hd5, hd6, hd7]
      have hd2' : xa_in (Int32.ofNat (d + 1)) 8 := by rw [← hd5]; exact hd2
      simp only [if_pos hd2']
      have e1 := tkw2
      have e2 : ∀ w : Int32, (tw T w).2.1 = T.2.1 ∧ (tw T w).2.2 = T.2.2 := fun w => ⟨rfl, rfl⟩
      by_cases q6 : d = 6
      · simp only [if_pos q6]
        rw [← e1]
        by_cases q5 : bt A x.toNatClampNeg p < 5
        · simp only [if_pos q5]; rfl
        · simp only [if_neg q5]
          by_cases q : bt A x.toNatClampNeg p = 5
          · simp only [if_pos q]; rfl
          · simp only [if_neg q]; rfl
      · simp only [if_neg q6]
        rw [← e1]
        by_cases q5 : bt A x.toNatClampNeg p < 5
        · simp only [if_pos q5]; rfl
        · simp only [if_neg q5]
          by_cases q : bt A x.toNatClampNeg p = 5
          · simp only [if_pos q]; rfl
          · simp only [if_neg q]; rfl
  · refine ⟨tk T t p, PF.refl _, tk_37 T t p, fun _ => rfl, ?_⟩
    rw [GL_125_0, if_neg (by rw [hww]; decide), z0, if_neg hl, M_118 hw hm x0 x4 h0]
    simp only [m4, m7, hch, if_pos hin, htn, rd, if_neg h63, if_pos hd1, if_neg hd3, hd4, hd5, hd6, hd7, nj_s]
    have hd2' : xa_in (Int32.ofNat (d + 1)) 8 := by rw [← hd5]; exact hd2
    simp only [if_pos hd2']
    have e1 := tkw
    by_cases q6 : d = 6
    · simp only [if_pos q6]
      rw [← e1]
      by_cases q5 : bt A x.toNatClampNeg p < 5
      · simp only [if_pos q5]; rfl
      · simp only [if_neg q5]
        by_cases q : bt A x.toNatClampNeg p = 5
        · simp only [if_pos q]; rfl
        · simp only [if_neg q]; rfl
    · simp only [if_neg q6]
      rw [← e1]
      by_cases q5 : bt A x.toNatClampNeg p < 5
      · simp only [if_pos q5]; rfl
      · simp only [if_neg q5]
        by_cases q : bt A x.toNatClampNeg p = 5
        · simp only [if_pos q]; rfl
        · simp only [if_neg q]; rfl
end
section
variable {A M C : Ab} {z : Option Nat × (Nat → Option Nat)}
/-- back at depth d + 1 with nothing left there -/
theorem M_pop {T : St} {x q : Int32} {d : Nat} (hd : d ≤ 5) (h : T.1 37 (d + 1) = 0) (n : Nat) : GL_125_0 (n + 1) 1 T x q (Int32.ofNat (d + 1)) = GL_125_0 n 1 (xa_u T.1 37 d (T.1 37 d - 1), T.2) x q (Int32.ofNat d) := by
  have hdn : d = 0 ∨ d = 1 ∨ d = 2 ∨ d = 3 ∨ d = 4 ∨ d = 5 := by omega
  have h1 : ¬ (Int32.ofNat (d + 1) ≤ 0) := by rcases hdn with rfl | rfl | rfl | rfl | rfl | rfl <;> decide
  have h2 : xa_in (Int32.ofNat (d + 1)) 8 := by rcases hdn with rfl | rfl | rfl | rfl | rfl | rfl <;> decide
  have h3 : xa_in (Int32.ofNat d) 8 := by rcases hdn with rfl | rfl | rfl | rfl | rfl | rfl <;> decide
  have h4 : Int32.ofNat (d + 1) + (-1) = Int32.ofNat d := by rcases hdn with rfl | rfl | rfl | rfl | rfl | rfl <;> rfl
  have h5 : (Int32.ofNat (d + 1)).toNatClampNeg = d + 1 := ni_tn (by omega)
  have h6 : (Int32.ofNat d).toNatClampNeg = d := ni_tn (by omega)
  rw [GL_125_0, if_neg h1, if_pos h2, h4, h5, if_pos h]
  unfold xlet
  simp only [if_pos h3, h6]
theorem M_stay {T : St} {x q : Int32} {d : Nat} (hd : d ≤ 5) (h : T.1 37 (d + 1) ≠ 0) (n : Nat) : GL_125_0 (n + 1) 1 T x q (Int32.ofNat (d + 1)) = GL_125_0 n 0 T x q (Int32.ofNat (d + 1)) := by
  have hdn : d = 0 ∨ d = 1 ∨ d = 2 ∨ d = 3 ∨ d = 4 ∨ d = 5 := by omega
  have h1 : ¬ (Int32.ofNat (d + 1) ≤ 0) := by rcases hdn with rfl | rfl | rfl | rfl | rfl | rfl <;> decide
  have h2 : xa_in (Int32.ofNat (d + 1)) 8 := by rcases hdn with rfl | rfl | rfl | rfl | rfl | rfl <;> decide
  have h5 : (Int32.ofNat (d + 1)).toNatClampNeg = d + 1 := ni_tn (by omega)
  rw [GL_125_0, if_neg h1, if_pos h2, h5, if_neg h]
def Pq (T T' : St) (t d : Nat) (L : List Int32) : Prop :=
  (PF T T') ∧
  (T'.1 29 7 = -1) ∧
  (T'.1 29 10 = Int32.ofNat (t + L.length)) ∧
  (∀ j, j < t → T'.1 38 j = T.1 38 j) ∧
  (∀ i (h : i < L.length), T'.1 38 (t + i) = L[i]) ∧
  (∀ j, j < d → T'.1 37 j = T.1 37 j)
theorem Pq.pf {T T' : St} {t d : Nat} {L : List Int32} (h : Pq T T' t d L) : PF T T' := h.1
theorem Pq.w {T T' : St} {t d : Nat} {L : List Int32} (h : Pq T T' t d L) : T'.1 29 7 = -1 := h.2.1
theorem Pq.n {T T' : St} {t d : Nat} {L : List Int32} (h : Pq T T' t d L) : T'.1 29 10 = Int32.ofNat (t + L.length) := h.2.2.1
theorem Pq.old {T T' : St} {t d : Nat} {L : List Int32} (h : Pq T T' t d L) : ∀ j, j < t → T'.1 38 j = T.1 38 j := h.2.2.2.1
theorem Pq.new {T T' : St} {t d : Nat} {L : List Int32} (h : Pq T T' t d L) : ∀ i (h : i < L.length), T'.1 38 (t + i) = L[i] := h.2.2.2.2.1
theorem Pq.left {T T' : St} {t d : Nat} {L : List Int32} (h : Pq T T' t d L) : ∀ j, j < d → T'.1 37 j = T.1 37 j := h.2.2.2.2.2
theorem Ps.q {T T' : St} {t d : Nat} {L : List Int32} (h : Ps T T' t d L) : Pq T T' t d L := ⟨h.pf, h.w, h.n, h.old, h.new, h.left⟩
theorem Ps.app {X T1 T2 : St} {t d : Nat} {L1 L2 : List Int32} (h1 : Ps X T1 t d L1) (h2 : Ps T1 T2 (t + L1.length) d L2) : Pq X T2 t d (L1 ++ L2) := by
  refine ⟨h1.pf.trans h2.pf, h2.w, ?_, fun j hj => ?_, fun i hi => ?_, fun j hj => ?_⟩
  · rw [h2.n, List.length_append, Nat.add_assoc]
  · rw [h2.old j (by omega), h1.old j hj]
  · rw [List.length_append] at hi
    by_cases q : i < L1.length
    · rw [h2.old (t + i) (by omega), h1.new i q, List.getElem_append_left q]
    · have := h2.new (i - L1.length) (by omega)
      rw [show t + L1.length + (i - L1.length) = t + i by omega] at this
      rw [this, List.getElem_append_right (by omega)]
  · rw [h2.left j hj, h1.left j hj]
theorem Pq.fin {T X T2 : St} {t d : Nat} {p : Int32} {L : List Int32} (hpf : PF T X) (x37 : ∀ j, j < d + 1 → X.1 37 j = T.1 37 j) (x38 : ∀ j, j < t → X.1 38 j = T.1 38 j) (xt : X.1 38 t = p) (h : Pq X T2 (t + 1) (d + 1) L) : Ps T (xa_u T2.1 37 d (T2.1 37 d - 1), T2.2) t d (p :: L) := by
  have e : ∀ c j, ¬ (c = 37 ∧ j = d) → (xa_u T2.1 37 d (T2.1 37 d - 1), T2.2).1 c j = T2.1 c j := fun c j hc => xa_c hc
  refine ⟨(hpf.trans h.pf).trans (PF.u _ (by omega)), ?_, ?_, fun j hj => ?_, fun i hi => ?_, fun j hj => ?_, ?_⟩
  · rw [e _ _ (by omega), h.w]
  · rw [e _ _ (by omega), h.n, List.length_cons]
    congr 1
    omega
  · rw [e _ _ (by omega), h.old j (by omega), x38 j hj]
  · rw [e _ _ (by omega)]
    cases i with
    | zero => rw [Nat.add_zero, h.old t (by omega), xt]; rfl
    | succ i =>
      have := h.new i (by simp at hi; omega)
      rw [show t + (i + 1) = t + 1 + i by omega, this]
      rfl
  · rw [e _ _ (by omega), h.left j (by omega), x37 j (by omega)]
  · show xa_u T2.1 37 d (T2.1 37 d - 1) 37 d = _
    rw [xa_e, h.left d (by omega), x37 d (by omega)]
def Sc (A C : Ab) (z : Option Nat × (Nat → Option Nat)) (x : Int32) (k : Nat) : Prop := ∀ (T : St) (p : Int32) (d t : Nat), MR A C z T → 0 ≤ p → p ≤ A 5 x.toNatClampNeg → T.1 29 10 = Int32.ofNat t → (t : Int) + 1 ≤ p.toInt → d + k = 6 → ¬ T.1 37 0 ≤ 0 → T.1 29 7 = -1 →
    ((prs (bt A x.toNatClampNeg) k p).1 = -1 → ∃ (T' : St) (c : Nat), (c : Int) ≤ 4 * ((prs (bt A x.toNatClampNeg) k p).2.toInt - p.toInt) ∧ (∀ n, GL_125_0 (n + c) 0 T x p (Int32.ofNat d) = GL_125_0 n 1 T' x (prs (bt A x.toNatClampNeg) k p).2 (Int32.ofNat d)) ∧ Ps T T' t d (toks (bt A x.toNatClampNeg) k p)) ∧
    ((prs (bt A x.toNatClampNeg) k p).1 ≠ -1 → ∀ n : Nat, 4 * (64 - p.toInt) + 20 ≤ n → ∃ (q' : Int32) (T' : St), GL_125_0 n 0 T x p (Int32.ofNat d) = some (q', T') ∧ PF T T' ∧ T'.1 29 7 = (prs (bt A x.toNatClampNeg) k p).1)
/-- a question of the world -/
theorem Sc_leaf (hw : WF A) {x : Int32} (x0 : 0 ≤ x) (x4 : x < 4) {k : Nat} {T : St} {p : Int32} {d t : Nat} (hm : MR A C z T) (h0 : 0 ≤ p) (h1 : p ≤ A 5 x.toNatClampNeg) (ht : T.1 29 10 = Int32.ofNat t) (htp : (t : Int) + 1 ≤ p.toInt) (hd : d + k = 6) (hl : ¬ T.1 37 0 ≤ 0) (hww : T.1 29 7 = -1) (hc : 0 ≤ bt A x.toNatClampNeg p ∧ bt A x.toNatClampNeg p < 5) :
    ((leaf (bt A x.toNatClampNeg) p).1 = -1 → ∃ (T' : St) (c : Nat), (c : Int) ≤ 4 * ((leaf (bt A x.toNatClampNeg) p).2.toInt - p.toInt) ∧ (∀ n, GL_125_0 (n + c) 0 T x p (Int32.ofNat d) = GL_125_0 n 1 T' x (leaf (bt A x.toNatClampNeg) p).2 (Int32.ofNat d)) ∧ Ps T T' t d [p]) ∧
    ((leaf (bt A x.toNatClampNeg) p).1 ≠ -1 → ∀ n : Nat, 4 * (64 - p.toInt) + 20 ≤ n → ∃ (q' : Int32) (T' : St), GL_125_0 n 0 T x p (Int32.ofNat d) = some (q', T') ∧ PF T T' ∧ T'.1 29 7 = (leaf (bt A x.toNatClampNeg) p).1) := by
  have hr := tn4 x0 x4
  have hb := hw.b0 hr
  have n6 := hb.n64
  have hp := hb.lt hc.1
  have lg := leaf_rg hb h0 hp
  have hch : chk (bt A x.toNatClampNeg) (-1) p 0 (if d = 6 then 4 else 7) = -1 := by
    rw [chk_ok h0]
    by_cases q : d = 6
    · rw [if_pos q]; grind
    · rw [if_neg q]; grind
  have step : ∀ n, GL_125_0 (n + 1) 0 T x p (Int32.ofNat d) = GL_125_0 n 1 (xa_u (tw (tk T t p) (leaf (bt A x.toNatClampNeg) p).1).1 37 d ((tw (tk T t p) (leaf (bt A x.toNatClampNeg) p).1).1 37 d - 1), T.2) x (leaf (bt A x.toNatClampNeg) p).2 (Int32.ofNat d) := by
    intro n
    obtain ⟨t', a1, a2, a3, a4⟩ := M_tok (d := d) hw hm x0 x4 h0 (by grind) ht htp (by omega) hl hww n
    have a3 := a3 hp
    subst a3
    rw [a4, if_pos hc.2, hch, M_126 hw (hm.pf (tk_pf T t p)) x0 x4 h0 (by grind) hc.1 hc.2 (-1)]
    rfl
  refine ⟨fun hok => ?_, fun hno n hn => ?_⟩
  · have l := ilt (lg.1 hok).1
    rw [hok] at step
    have e37 : ∀ j, (tw (tk T t p) (-1)).1 37 j = T.1 37 j := fun j => by rw [tw_c _ _ (by omega)]; exact tk_37 T t p j
    have ec : ∀ c j, ¬ (c = 37 ∧ j = d) → (xa_u (tw (tk T t p) (-1)).1 37 d ((tw (tk T t p) (-1)).1 37 d - 1), T.2).1 c j = (tw (tk T t p) (-1)).1 c j := fun c j h => xa_c h
    refine ⟨_, 1, by omega, step, ?_⟩
    refine ⟨((tk_pf T t p).trans (PF.tw _ _)).trans (PF.u (T := tw (tk T t p) (-1)) _ (by omega)), ?_, ?_, fun j hj => ?_, fun i hi => ?_, fun j hj => ?_, ?_⟩
    · rw [ec _ _ (by omega), tw_w]
    · rw [ec _ _ (by omega), tw_c _ _ (by omega), tk_n]
      rfl
    · rw [ec _ _ (by omega), tw_c _ _ (by omega), tk_o _ _ _ (by omega)]
    · have : i = 0 := by simp at hi; omega
      subst this
      rw [ec _ _ (by omega), tw_c _ _ (by omega), Nat.add_zero, tk_t]
      rfl
    · rw [ec _ _ (by omega), e37]
    · show xa_u (tw (tk T t p) (-1)).1 37 d ((tw (tk T t p) (-1)).1 37 d - 1) 37 d = _
      rw [xa_e, e37]
  · have hge : 0 ≤ (leaf (bt A x.toNatClampNeg) p).1 := by rcases lg.2 with h | h; exact absurd h hno; exact h
    have lp := ilt hp
    have l6 := ile n6
    have h64 : (64 : Int32).toInt = 64 := rfl
    obtain ⟨n', rfl⟩ : ∃ n', n = n' + 1 := ⟨n - 1, by omega⟩
    rw [step]
    have e7 : (xa_u (tw (tk T t p) (leaf (bt A x.toNatClampNeg) p).1).1 37 d ((tw (tk T t p) (leaf (bt A x.toNatClampNeg) p).1).1 37 d - 1)) 29 7 = (leaf (bt A x.toNatClampNeg) p).1 := by rw [xa_c (by omega), tw_w]
    obtain ⟨T', b1, b2, b3⟩ := M_exit (x := x) (q := (leaf (bt A x.toNatClampNeg) p).2) d n' (xa_u (tw (tk T t p) (leaf (bt A x.toNatClampNeg) p).1).1 37 d ((tw (tk T t p) (leaf (bt A x.toNatClampNeg) p).1).1 37 d - 1), T.2) (by omega) (by omega) (by rw [← e7] at hge; exact hge)
    exact ⟨_, T', b1, (((tk_pf T t p).trans (PF.tw _ _)).trans (PF.u (T := tw (tk T t p) (leaf (bt A x.toNatClampNeg) p).1) _ (by omega))).trans b2, b3.trans e7⟩
/-- a fault at p itself -/
theorem Sc_no (hw : WF A) {x : Int32} (x0 : 0 ≤ x) (x4 : x < 4) {k : Nat} {T : St} {p : Int32} {d t : Nat} (hm : MR A C z T) (h0 : 0 ≤ p) (h1 : p ≤ A 5 x.toNatClampNeg) (ht : T.1 29 10 = Int32.ofNat t) (htp : (t : Int) + 1 ≤ p.toInt) (hd : d + k = 6) (hl : ¬ T.1 37 0 ≤ 0) (hww : T.1 29 7 = -1) (hc : ¬ (0 ≤ bt A x.toNatClampNeg p ∧ bt A x.toNatClampNeg p < 5)) (hc2 : d ≠ 6 → ¬ (5 ≤ bt A x.toNatClampNeg p ∧ bt A x.toNatClampNeg p ≤ 7)) (n : Nat) (hn : 4 * (64 - p.toInt) + 20 ≤ n) : ∃ (q' : Int32) (T' : St), GL_125_0 n 0 T x p (Int32.ofNat d) = some (q', T') ∧ PF T T' ∧ T'.1 29 7 = p := by
  have hr := tn4 x0 x4
  have hb := hw.b0 hr
  have n6 := hb.n64
  have lp := ile h1
  have l6 := ile n6
  have h64 : (64 : Int32).toInt = 64 := rfl
  obtain ⟨n', rfl⟩ : ∃ n', n = n' + 1 + 1 := ⟨n - 2, by omega⟩
  obtain ⟨t', a1, a2, a3, a4⟩ := M_tok (d := d) hw hm x0 x4 h0 (by grind) ht htp (by omega) hl hww (n' + 1)
  have hch : chk (bt A x.toNatClampNeg) (-1) p 0 (if d = 6 then 4 else 7) = p := by
    apply chk_no
    by_cases q : d = 6
    · rw [if_pos q]; grind
    · rw [if_neg q]; have := hc2 q; grind
  rw [a4, hch]
  have hpf : PF T (tw t' p) := ((tk_pf T t p).trans a1).trans (PF.tw _ _)
  by_cases q5 : bt A x.toNatClampNeg p < 5
  · rw [if_pos q5]
    obtain ⟨q, e⟩ := M_126w (c := bt A x.toNatClampNeg p) hw (hm.pf ((tk_pf T t p).trans a1)) x0 x4 h0 (show p < 100 by grind) h0
    rw [e]
    have e7 : (xa_u (tw t' p).1 37 d ((tw t' p).1 37 d - 1)) 29 7 = p := by rw [xa_c (by omega), tw_w]
    obtain ⟨T', b1, b2, b3⟩ := M_exit (x := x) (q := q) d (n' + 1) (xa_u (tw t' p).1 37 d ((tw t' p).1 37 d - 1), (tw t' p).2) (by omega) (by omega) (by have := h0; rw [← e7] at this; exact this)
    exact ⟨q, T', b1, (hpf.trans (PF.u _ (by omega))).trans b2, b3.trans e7⟩
  · rw [if_neg q5, GL_125_0]
    have e7 : (xa_u (tw t' p).1 37 (d + 1) (if bt A x.toNatClampNeg p = 5 then 1 else 2)) 29 7 = p := by rw [xa_c (by omega), tw_w]
    rw [if_pos (show 0 ≤ (xa_u (tw t' p).1 37 (d + 1) (if bt A x.toNatClampNeg p = 5 then 1 else 2)) 29 7 by rw [e7]; exact h0)]
    have e2 : T.2 = (tw t' p).2 := hpf.2.symm
    refine ⟨p + 1, _, rfl, ?_, e7⟩
    rw [e2]
    exact hpf.trans (PF.u _ (by omega))
theorem M_prs (hw : WF A) {x : Int32} (x0 : 0 ≤ x) (x4 : x < 4) (k : Nat) : Sc A C z x k := by
  have hr := tn4 x0 x4
  have hb := hw.b0 hr
  have n6 := hb.n64
  have l6 := ile n6
  have h64 : (64 : Int32).toInt = 64 := rfl
  have h00 : (0 : Int32).toInt = 0 := rfl
  induction k with
  | zero =>
    intro T p d t hm h0 h1 ht htp hd hl hww
    rw [prs, toks]
    by_cases hc : 0 ≤ bt A x.toNatClampNeg p ∧ bt A x.toNatClampNeg p < 5
    · rw [if_pos hc]
      exact Sc_leaf hw x0 x4 (k := 0) hm h0 h1 ht htp hd hl hww hc
    · rw [if_neg hc]
      refine ⟨fun h => by exfalso; have h : p = -1 := h; grind, fun _ n hn => ?_⟩
      exact Sc_no hw x0 x4 (k := 0) hm h0 h1 ht htp hd hl hww hc (fun h => absurd hd (by omega)) n hn
  | succ k ih =>
    intro T p d t hm h0 h1 ht htp hd hl hww
    rw [prs, toks]
    by_cases hc : 0 ≤ bt A x.toNatClampNeg p ∧ bt A x.toNatClampNeg p < 5
    · rw [if_pos hc, if_neg (show ¬ (5 ≤ bt A x.toNatClampNeg p ∧ bt A x.toNatClampNeg p ≤ 7) by grind)]
      exact Sc_leaf hw x0 x4 (k := k + 1) hm h0 h1 ht htp hd hl hww hc
    · rw [if_neg hc]
      by_cases hc5 : 5 ≤ bt A x.toNatClampNeg p ∧ bt A x.toNatClampNeg p ≤ 7
      · rw [if_pos hc5, if_pos hc5]
        have hp := hb.lt (p := p) (by grind)
        have lp := ilt hp
        have lp0 := ile h0
        have e1 : (p + 1).toInt = p.toInt + 1 := by
          have h1 : (1 : Int32).toInt = 1 := rfl
          rw [iadd] <;> rw [h1] <;> omega
        have hch : chk (bt A x.toNatClampNeg) (-1) p 0 (if d = 6 then 4 else 7) = -1 := by
          rw [chk_ok h0, if_neg (show ¬ d = 6 by omega)]; grind
        have step : ∀ n, GL_125_0 (n + 1) 0 T x p (Int32.ofNat d) = GL_125_0 n 0 (xa_u (tw (tk T t p) (-1)).1 37 (d + 1) (if bt A x.toNatClampNeg p = 5 then 1 else 2), T.2) x (p + 1) (Int32.ofNat (d + 1)) := by
          intro n
          obtain ⟨t', a1, a2, a3, a4⟩ := M_tok (d := d) hw hm x0 x4 h0 (by grind) ht htp (by omega) hl hww n
          have a3 := a3 hp
          subst a3
          rw [a4, if_neg (show ¬ bt A x.toNatClampNeg p < 5 by grind), hch]
        -- the state with the first counter
        have hX : ∃ X : St, (∀ n, GL_125_0 (n + 1) 0 T x p (Int32.ofNat d) = GL_125_0 n 0 X x (p + 1) (Int32.ofNat (d + 1))) ∧ PF T X ∧ X.1 29 7 = -1 ∧ X.1 29 10 = Int32.ofNat (t + 1) ∧ (∀ j, j < d + 1 → X.1 37 j = T.1 37 j) ∧ X.1 37 (d + 1) = (if bt A x.toNatClampNeg p = 5 then 1 else 2) ∧ (∀ j, j < t → X.1 38 j = T.1 38 j) ∧ X.1 38 t = p := by
          have e37 : ∀ j, (tw (tk T t p) (-1)).1 37 j = T.1 37 j := fun j => by rw [tw_c _ _ (by omega)]; exact tk_37 T t p j
          have ec : ∀ c j, ¬ (c = 37 ∧ j = d + 1) → (xa_u (tw (tk T t p) (-1)).1 37 (d + 1) (if bt A x.toNatClampNeg p = 5 then 1 else 2), T.2).1 c j = (tw (tk T t p) (-1)).1 c j := fun c j h => xa_c h
          refine ⟨_, step, ((tk_pf T t p).trans (PF.tw _ _)).trans (PF.u (T := tw (tk T t p) (-1)) _ (by omega)), ?_, ?_, fun j hj => ?_, (by show xa_u (tw (tk T t p) (-1)).1 37 (d + 1) (if bt A x.toNatClampNeg p = 5 then 1 else 2) 37 (d + 1) = _; exact xa_e), fun j hj => ?_, ?_⟩
          · rw [ec _ _ (by omega), tw_w]
          · rw [ec _ _ (by omega), tw_c _ _ (by omega), tk_n]
          · rw [ec _ _ (by omega), e37]
          · rw [ec _ _ (by omega), tw_c _ _ (by omega), tk_o _ _ _ (by omega)]
          · rw [ec _ _ (by omega), tw_c _ _ (by omega), tk_t]
        obtain ⟨X, step, hpf, x7, x10, x37, xd, x38, xt⟩ := hX
        obtain ⟨i1, i2⟩ := ih X (p + 1) (d + 1) (t + 1) (hm.pf hpf) (by grind) (by grind) x10 (by omega) (by omega) (by rw [x37 0 (by omega)]; exact hl) x7
        have pr := prs_rg hb k (p + 1) (by grind) (by grind)
        by_cases q1 : (prs (bt A x.toNatClampNeg) k (p + 1)).1 = -1
        · rw [if_pos q1]
          obtain ⟨T1, c1, a1, a2, a3⟩ := i1 q1
          have pr1 := pr.1 q1
          have lq1 := ilt pr1.1
          have lq2 := ile pr1.2
          by_cases q5 : bt A x.toNatClampNeg p = 5
          · rw [if_pos q5, if_pos q5, List.append_nil]
            have z0 : T1.1 37 (d + 1) = 0 := by rw [a3.one, xd, if_pos q5]; rfl
            refine ⟨fun _ => ⟨(xa_u T1.1 37 d (T1.1 37 d - 1), T1.2), c1 + 2, by omega, fun n => ?_, Pq.fin hpf x37 x38 xt a3.q⟩, fun h => absurd q1 h⟩
            rw [show n + (c1 + 2) = (n + 1 + c1) + 1 by omega, step, a2, M_pop (by omega) z0]
          · rw [if_neg q5, if_neg q5]
            have z1 : T1.1 37 (d + 1) ≠ 0 := by rw [a3.one, xd, if_neg q5]; decide
            have tl := toks_len hb k (p + 1) (by grind) (by grind) q1
            obtain ⟨j1, j2⟩ := ih T1 (prs (bt A x.toNatClampNeg) k (p + 1)).2 (d + 1) (t + 1 + (toks (bt A x.toNatClampNeg) k (p + 1)).length) ((hm.pf hpf).pf a3.pf) (by grind) pr1.2 a3.n (by omega) (by omega) (by rw [a3.left 0 (by omega), x37 0 (by omega)]; exact hl) a3.w
            refine ⟨fun h2 => ?_, fun h2 n hn => ?_⟩
            · obtain ⟨T2, c2, b1, b2, b3⟩ := j1 h2
              have z0 : T2.1 37 (d + 1) = 0 := by rw [b3.one, a3.one, xd, if_neg q5]; rfl
              refine ⟨(xa_u T2.1 37 d (T2.1 37 d - 1), T2.2), c1 + c2 + 3, by omega, fun n => ?_, Pq.fin hpf x37 x38 xt (a3.app b3)⟩
              rw [show n + (c1 + c2 + 3) = (n + 1 + c2 + 1 + c1) + 1 by omega, step, a2, M_stay (by omega) z1, b2, M_pop (by omega) z0]
            · obtain ⟨n', rfl⟩ : ∃ n', n = n' + 1 + c1 + 1 := ⟨n - (c1 + 2), by omega⟩
              rw [step, a2, M_stay (by omega) z1]
              obtain ⟨q', T', b1, b2, b3⟩ := j2 h2 n' (by omega)
              exact ⟨q', T', b1, (hpf.trans a3.pf).trans b2, b3⟩
        · rw [if_neg q1]
          refine ⟨fun h => absurd h q1, fun h2 n hn => ?_⟩
          obtain ⟨n', rfl⟩ : ∃ n', n = n' + 1 := ⟨n - 1, by omega⟩
          rw [step]
          obtain ⟨q', T', b1, b2, b3⟩ := i2 h2 n' (by omega)
          exact ⟨q', T', b1, hpf.trans b2, b3⟩
      · rw [if_neg hc5]
        refine ⟨fun h => by exfalso; have h : p = -1 := h; grind, fun _ n hn => ?_⟩
        exact Sc_no hw x0 x4 (k := k + 1) hm h0 h1 ht htp hd hl hww hc (fun _ => hc5) n hn
end
section
variable {A M C : Ab} {z : Option Nat × (Nat → Option Nat)}
theorem M_125 (hw : WF A) {x : Int32} (x0 : 0 ≤ x) (x4 : x < 4) {T : St} {p : Int32} (hm : MR A C z T) (h1 : 1 ≤ p) (h2 : p ≤ A 5 x.toNatClampNeg) (hww : T.1 29 7 = -1) : ∃ (q : Int32) (T' : St), G_125 T x p = some (q, T') ∧ PF T T' ∧ T'.1 29 7 = (prs (bt A x.toNatClampNeg) 6 p).1 ∧ ((prs (bt A x.toNatClampNeg) 6 p).1 = -1 → q = (prs (bt A x.toNatClampNeg) 6 p).2 ∧ T'.1 29 10 = Int32.ofNat (toks (bt A x.toNatClampNeg) 6 p).length ∧ ∀ i (h : i < (toks (bt A x.toNatClampNeg) 6 p).length), T'.1 38 i = (toks (bt A x.toNatClampNeg) 6 p)[i]) := by
  have hr := tn4 x0 x4
  have hb := hw.b0 hr
  have n6 := hb.n64
  have l6 := ile n6
  have lp := ile h1
  have lp2 := ile h2
  have h64 : (64 : Int32).toInt = 64 := rfl
  have h11 : (1 : Int32).toInt = 1 := rfl
  have hX : ∃ X : St, G_125 T x p = GL_125_0 xFu 0 X x p (Int32.ofNat 0) ∧ PF T X ∧ X.1 29 7 = -1 ∧ X.1 29 10 = Int32.ofNat 0 ∧ X.1 37 0 = 1 := by
    refine ⟨(xa_u (xa_u T.1 29 10 0) 37 0 1, T.2), rfl, (PF.u (c := 29) (k := 10) 0 (by omega)).trans (PF.u (c := 37) (k := 0) 1 (by omega)), ?_, ?_, ?_⟩
    · show xa_u (xa_u T.1 29 10 0) 37 0 1 29 7 = -1
      rw [xa_c (by omega), xa_c (by omega)]; exact hww
    · show xa_u (xa_u T.1 29 10 0) 37 0 1 29 10 = _
      rw [xa_c (by omega), xa_e]; rfl
    · show xa_u (xa_u T.1 29 10 0) 37 0 1 37 0 = _
      rw [xa_e]
  obtain ⟨X, e1, pf, x7, x10, x37⟩ := hX
  rw [e1]
  obtain ⟨i1, i2⟩ := M_prs hw x0 x4 6 X p 0 0 (hm.pf pf) (by grind) h2 x10 (by omega) (by omega) (by rw [x37]; decide) x7
  by_cases q : (prs (bt A x.toNatClampNeg) 6 p).1 = -1
  · obtain ⟨T', c, a1, a2, a3⟩ := i1 q
    have pr := (prs_rg hb 6 p (by grind) h2).1 q
    have l2 := ile pr.2
    have hfu : xFu = (xFu - (c + 2)) + 1 + 1 + c := by unfold xFu; omega
    rw [hfu, a2]
    have o1 : T'.1 37 0 = 0 := by rw [a3.one, x37]; rfl
    rw [GL_125_0, if_pos (by decide), GL_125_0, if_neg (show ¬ 0 ≤ T'.1 29 7 by rw [a3.w]; decide), if_pos (show T'.1 37 ((0 : Int32)).toNatClampNeg ≤ 0 by rw [show (0 : Int32).toNatClampNeg = 0 from rfl, o1]; decide)]
    refine ⟨_, T', rfl, pf.trans a3.pf, by rw [a3.w, q], fun _ => ⟨rfl, by rw [a3.n, Nat.zero_add], fun i hi => ?_⟩⟩
    have := a3.new i hi
    rw [Nat.zero_add] at this
    exact this
  · obtain ⟨q', T', b1, b2, b3⟩ := i2 q xFu (by unfold xFu; omega)
    exact ⟨q', T', b1, pf.trans b2, b3, fun h => absurd h q⟩
set_option maxHeartbeats 4000000 in
theorem M_124 (hw : WF A) {x : Int32} (x0 : 0 ≤ x) (x4 : x < 4) {T : St} {p : Int32} (hm : MR A C z T) (h0 : 0 ≤ p) (h1 : p < A 5 x.toNatClampNeg) (hww : T.1 29 7 = -1) : ∃ (q : Int32) (T' : St), G_124 T x p = some (q, T') ∧ PF T T' ∧ T'.1 29 7 = (ins (bt A x.toNatClampNeg) p).1 ∧ ((ins (bt A x.toNatClampNeg) p).1 = -1 → q = (ins (bt A x.toNatClampNeg) p).2) := by
  have hr := tn4 x0 x4
  have hb := hw.b0 hr
  have n6 := hb.n64
  have hbp := hb.rg p h0 h1
  have p1 : 0 ≤ p + 1 := by grind
  have p2 : 0 ≤ p + 2 := by grind
  have p3 : 0 ≤ p + 3 := by grind
  have p4 : 0 ≤ p + 4 := by grind
  have l2 : p + 2 < 1000 := by grind
  have a2 : p + 1 + 1 = p + 2 := by grind
  have a3 : p + 2 + 1 = p + 3 := by grind
  have a4 : p + 3 + 1 = p + 4 := by grind
  have a5 : p + 4 + 1 = p + 5 := by grind
  have hT : tw T (-1) = T := tw_s hww
  have q0 := M_120 hw hm (l := 0) (h := 18) x0 x4 h0 (-1)
  rw [hT] at q0
  have fin : ∀ (L : List Int32) (e : Int32), 0 ≤ bt A x.toNatClampNeg p ∧ bt A x.toNatClampNeg p ≤ 18 → bt A x.toNatClampNeg p ≠ 8 → opc (bt A x.toNatClampNeg p) = L → e = p + 1 + ln L → G_124 T x p = some (e, tw T (ops (bt A x.toNatClampNeg) (-1) (p + 1) L)) → ∃ (q : Int32) (T' : St), G_124 T x p = some (q, T') ∧ PF T T' ∧ T'.1 29 7 = (ins (bt A x.toNatClampNeg) p).1 ∧ ((ins (bt A x.toNatClampNeg) p).1 = -1 → q = (ins (bt A x.toNatClampNeg) p).2) := by
    intro L e hc h8 hL he hG
    unfold ins
    rw [if_pos hc, if_neg h8, hL]
    exact ⟨e, _, hG, PF.tw _ _, tw_w _ _, fun _ => he⟩
  by_cases hc : bt A x.toNatClampNeg p ≤ 18
  · have hch : chk (bt A x.toNatClampNeg) (-1) p 0 18 = -1 := (chk_ok h0).mpr ⟨hbp.1, hc⟩
    rw [hch] at q0
    have m118p := M_118 hw hm x0 x4 h0
    have ev : ∀ c : Int32, bt A x.toNatClampNeg p = c → G_118 T x p = some (c, T) := fun c h => by rw [← h]; exact m118p
    rcases c18 hbp.1 hc with h | h | h | h | h | h | h | h | h | h | h | h | h | h | h | h | h | h | h
    · refine fin [] (p + 1) ⟨hbp.1, hc⟩ (by rw [h]; decide) (by rw [h]; rfl) (by rw [ln_n]; grind) ?_
      unfold G_124; rw [ev _ h]; simp only [q0, ops]; simp
    · refine fin [118, 110] (p + 3) ⟨hbp.1, hc⟩ (by rw [h]; decide) (by rw [h]; rfl) (by rw [show ln [118, 110] = 2 from rfl]; grind) ?_
      unfold G_124; rw [ev _ h]; simp only [q0, ops, M_120 hw hm x0 x4 p1, M_120 hw hm x0 x4 p2, a2]; simp [lo, hi]
    · refine fin [118, 110] (p + 3) ⟨hbp.1, hc⟩ (by rw [h]; decide) (by rw [h]; rfl) (by rw [show ln [118, 110] = 2 from rfl]; grind) ?_
      unfold G_124; rw [ev _ h]; simp only [q0, ops, M_120 hw hm x0 x4 p1, M_120 hw hm x0 x4 p2, a2]; simp [lo, hi]
    · refine fin [118, 118] (p + 3) ⟨hbp.1, hc⟩ (by rw [h]; decide) (by rw [h]; rfl) (by rw [show ln [118, 118] = 2 from rfl]; grind) ?_
      unfold G_124; rw [ev _ h]; simp only [q0, ops, M_120 hw hm x0 x4 p1, M_120 hw hm x0 x4 p2, a2]; simp [lo, hi]
    · refine fin [102] (p + 2) ⟨hbp.1, hc⟩ (by rw [h]; decide) (by rw [h]; rfl) (by rw [show ln [102] = 1 from rfl]; grind) ?_
      unfold G_124; rw [ev _ h]; simp only [q0, ops, M_120 hw hm x0 x4 p1, M_120 hw hm x0 x4 p2, a2]; simp [lo, hi]
    · refine fin [102] (p + 2) ⟨hbp.1, hc⟩ (by rw [h]; decide) (by rw [h]; rfl) (by rw [show ln [102] = 1 from rfl]; grind) ?_
      unfold G_124; rw [ev _ h]; simp only [q0, ops, M_120 hw hm x0 x4 p1, M_120 hw hm x0 x4 p2, a2]; simp [lo, hi]
    · refine fin [107] (p + 2) ⟨hbp.1, hc⟩ (by rw [h]; decide) (by rw [h]; rfl) (by rw [show ln [107] = 1 from rfl]; grind) ?_
      unfold G_124; rw [ev _ h]; simp only [q0, ops, M_120 hw hm x0 x4 p1, M_120 hw hm x0 x4 p2, a2]; simp [lo, hi]
    · refine fin [110] (p + 2) ⟨hbp.1, hc⟩ (by rw [h]; decide) (by rw [h]; rfl) (by rw [show ln [110] = 1 from rfl]; grind) ?_
      unfold G_124; rw [ev _ h]; simp only [q0, ops, M_120 hw hm x0 x4 p1, M_120 hw hm x0 x4 p2, a2]; simp [lo, hi]
    · -- the test
      obtain ⟨q, T1, b1, b2, b3, b4⟩ := M_125 hw x0 x4 (p := p + 1) hm (by grind) (by grind) hww
      have pr := prs_rg hb 6 (p + 1) p1 (by grind)
      have hins : ins (bt A x.toNatClampNeg) p = (if (prs (bt A x.toNatClampNeg) 6 (p + 1)).1 = -1 then (chk (bt A x.toNatClampNeg) (-1) (prs (bt A x.toNatClampNeg) 6 (p + 1)).2 0 255, (prs (bt A x.toNatClampNeg) 6 (p + 1)).2 + 1) else prs (bt A x.toNatClampNeg) 6 (p + 1)) := by
        unfold ins; rw [if_pos ⟨hbp.1, hc⟩, if_pos h]
      have hG : G_124 T x p = (match G_120 T1 x q 0 255 with
          | none => none
          | some (v24, S24) => some (q + 1, S24)) := by
        unfold G_124; rw [ev _ h]; simp only [q0, hT, b1]; simp; rfl
      rw [hins, hG]
      by_cases qw : (prs (bt A x.toNatClampNeg) 6 (p + 1)).1 = -1
      · rw [if_pos qw]
        have b4 := (b4 qw).1
        subst b4
        have g := pr.1 qw
        have hm1 := hm.pf b2
        have m := M_120 hw hm1 (l := 0) (h := 255) x0 x4 (show 0 ≤ (prs (bt A x.toNatClampNeg) 6 (p + 1)).2 by grind) (-1)
        rw [tw_s (by rw [b3, qw])] at m
        rw [m]
        exact ⟨_, _, rfl, b2.trans (PF.tw _ _), tw_w _ _, fun _ => rfl⟩
      · rw [if_neg qw]
        have hge : 0 ≤ T1.1 29 7 := by rw [b3]; rcases pr.2 with h | h; exact absurd h qw; exact h
        unfold G_120
        rw [if_pos hge]
        exact ⟨_, T1, rfl, b2, b3, fun h => absurd h qw⟩
    · refine fin [111, 120, 121] (p + 4) ⟨hbp.1, hc⟩ (by rw [h]; decide) (by rw [h]; rfl) (by rw [show ln [111, 120, 121] = 3 from rfl]; grind) ?_
      unfold G_124 G_127; rw [ev _ h]; simp only [q0, ops, M_120 hw hm x0 x4 p1, M_120 hw hm x0 x4 p2, M_121 hw hm x0 x4 p2 l2, a2, a3]; simp [lo, hi]
    · refine fin [111] (p + 2) ⟨hbp.1, hc⟩ (by rw [h]; decide) (by rw [h]; rfl) (by rw [show ln [111] = 1 from rfl]; grind) ?_
      unfold G_124 G_127; rw [ev _ h]; simp only [q0, ops, M_120 hw hm x0 x4 p1, M_120 hw hm x0 x4 p2, a2]; simp [lo, hi]
    · refine fin [111, 115, 115] (p + 4) ⟨hbp.1, hc⟩ (by rw [h]; decide) (by rw [h]; rfl) (by rw [show ln [111, 115, 115] = 3 from rfl]; grind) ?_
      unfold G_124 G_127; rw [ev _ h]; simp only [q0, ops, M_120 hw hm x0 x4 p1, M_120 hw hm x0 x4 p2, M_120 hw hm x0 x4 p3, a2, a3]; simp [lo, hi]
    · refine fin [111, 100] (p + 3) ⟨hbp.1, hc⟩ (by rw [h]; decide) (by rw [h]; rfl) (by rw [show ln [111, 100] = 2 from rfl]; grind) ?_
      unfold G_124 G_127; rw [ev _ h]; simp only [q0, ops, M_120 hw hm x0 x4 p1, M_120 hw hm x0 x4 p2, a2]; simp [lo, hi]
    · refine fin [111, 120, 121, 102] (p + 5) ⟨hbp.1, hc⟩ (by rw [h]; decide) (by rw [h]; rfl) (by rw [show ln [111, 120, 121, 102] = 4 from rfl]; grind) ?_
      unfold G_124 G_127; rw [ev _ h]; simp only [q0, ops, M_120 hw hm x0 x4 p1, M_121 hw hm x0 x4 p2 l2, M_120 hw hm x0 x4 p4, a2, a3, a4]; simp [lo, hi]
    · refine fin [101, 102] (p + 3) ⟨hbp.1, hc⟩ (by rw [h]; decide) (by rw [h]; rfl) (by rw [show ln [101, 102] = 2 from rfl]; grind) ?_
      unfold G_124 G_127; rw [ev _ h]; simp only [q0, ops, M_120 hw hm x0 x4 p1, M_120 hw hm x0 x4 p2, a2]; simp [lo, hi]
    · refine fin [111] (p + 2) ⟨hbp.1, hc⟩ (by rw [h]; decide) (by rw [h]; rfl) (by rw [show ln [111] = 1 from rfl]; grind) ?_
      unfold G_124 G_127; rw [ev _ h]; simp only [q0, ops, M_120 hw hm x0 x4 p1, M_120 hw hm x0 x4 p2, a2]; simp [lo, hi]
    · refine fin [111, 114] (p + 3) ⟨hbp.1, hc⟩ (by rw [h]; decide) (by rw [h]; rfl) (by rw [show ln [111, 114] = 2 from rfl]; grind) ?_
      have m18 : ∀ w, G_118 (tw T w) x (p + 2) = some (bt A x.toNatClampNeg (p + 2), tw T w) := fun w => M_118 hw (hm.tw w) x0 x4 p2
      unfold G_124 G_127; rw [ev _ h]; simp only [q0, ops, M_120 hw hm x0 x4 p1, M_120 hw hm x0 x4 p2, m18, a2]
      by_cases q : bt A x.toNatClampNeg (p + 2) = 0
      · simp [lo, hi, q]
      · simp [lo, hi, q]
    · refine fin [111, 98] (p + 3) ⟨hbp.1, hc⟩ (by rw [h]; decide) (by rw [h]; rfl) (by rw [show ln [111, 98] = 2 from rfl]; grind) ?_
      unfold G_124 G_127; rw [ev _ h]; simp only [q0, ops, M_120 hw hm x0 x4 p1, M_120 hw hm x0 x4 p2, a2]; simp [lo, hi]
    · refine fin [] (p + 1) ⟨hbp.1, hc⟩ (by rw [h]; decide) (by rw [h]; rfl) (by rw [ln_n]; grind) ?_
      unfold G_124; rw [ev _ h]; simp only [q0, ops]; simp
  · have hch : chk (bt A x.toNatClampNeg) (-1) p 0 18 = p := chk_no (by grind)
    rw [hch] at q0
    unfold ins
    rw [if_neg (show ¬ (0 ≤ bt A x.toNatClampNeg p ∧ bt A x.toNatClampNeg p ≤ 18) by grind)]
    refine ⟨p + 2, tw T p, ?_, PF.tw _ _, tw_w _ _, fun h => by exfalso; have h : p = -1 := h; grind⟩
    unfold G_124 G_127
    rw [M_118 hw hm x0 x4 h0]
    simp only [q0]
    have c0 : ∀ c : Int32, c ≤ 18 → bt A x.toNatClampNeg p ≠ c := fun c h1 h2 => hc (by rw [h2]; exact h1)
    simp only [if_neg (show ¬ bt A x.toNatClampNeg p < 9 by grind), if_pos (show 18 ≤ bt A x.toNatClampNeg p by grind), if_neg (c0 0 (by decide)), if_neg (c0 1 (by decide)), if_neg (c0 2 (by decide)), if_neg (c0 3 (by decide)), if_neg (c0 4 (by decide)), if_neg (c0 5 (by decide)), if_neg (c0 6 (by decide)), if_neg (c0 7 (by decide)), if_neg (c0 8 (by decide)), if_neg (c0 18 (by decide)), if_neg (c0 9 (by decide)), if_neg (c0 11 (by decide)), if_neg (c0 12 (by decide)), if_neg (c0 13 (by decide)), if_neg (c0 14 (by decide)), if_neg (c0 16 (by decide)), if_neg (c0 17 (by decide))]
end
section
variable {A M C : Ab} {z : Option Nat × (Nat → Option Nat)}
theorem MR.u36 {T : St} (h : MR A C z T) {k : Nat} {v : Int32} : MR A C z (xa_u T.1 36 k v, T.2) := h.up (by unfold mpv; omega) v
theorem u36_7 {T : St} {k : Nat} {v : Int32} : ((xa_u T.1 36 k v, T.2) : St).1 29 7 = T.1 29 7 := by
  show xa_u T.1 36 k v 29 7 = _
  exact xa_c (by omega)
theorem M_128 (hw : WF A) {x : Int32} (x0 : 0 ≤ x) (x4 : x < 4) {T : St} {p q : Int32} (hm : MR A C z T) (h0 : 0 ≤ p) (h1 : 1 ≤ q) : G_128 T x p q = some (if bt A x.toNatClampNeg p = 7 ∨ bt A x.toNatClampNeg p = 8 then jmp (bt A x.toNatClampNeg) p q else -1, T) := by
  unfold G_128 jmp
  rw [M_118 hw hm x0 x4 (show 0 ≤ q - 1 by grind)]
  simp only [M_118 hw hm x0 x4 h0]
  by_cases q7 : bt A x.toNatClampNeg p = 7
  · simp only [if_pos q7, q7, true_or, if_true]
    split <;> rfl
  · by_cases q8 : bt A x.toNatClampNeg p = 8
    · simp only [if_neg q7, if_pos q8, q8, or_true, if_true]
      rfl
    · simp only [if_neg q7, if_neg q8, q7, q8, or_self, if_false]
/-- forwards over the jumps -/
theorem M_123j (hw : WF A) {x : Int32} (x0 : 0 ≤ x) (x4 : x < 4) {m : Nat} (hp : Pfx (bt A x.toNatClampNeg) (A 5 x.toNatClampNeg) m) (hme : sq (bt A x.toNatClampNeg) m = A 5 x.toNatClampNeg) {y : Int32} : ∀ (k i : Nat), i + k = m → ∀ (T : St), MR A C z T → T.1 29 7 = -1 → Mk (bt A x.toNatClampNeg) (m + 1) (T.1 36) → ∀ n, k + 3 ≤ n → ∃ T', GL_123_0 n T x y (sq (bt A x.toNatClampNeg) i) = some (y, T') ∧ MR A C z T' ∧ T'.1 29 7 = Fj (bt A x.toNatClampNeg) m k := by
  have hr := tn4 x0 x4
  have hb := hw.b0 hr
  have n6 := hb.n64
  intro k
  induction k with
  | zero =>
    intro i him T hm hww hk n hn
    have him : i = m := by omega
    subst him
    obtain ⟨n', rfl⟩ : ∃ n', n = n' + 1 := ⟨n - 1, by omega⟩
    rw [GL_123_0, if_neg (by rw [hww]; decide), if_pos ((xin4 x).mpr ⟨x0, x4⟩), hm.siz _ hr, if_pos (by rw [hme]; exact Int32.le_refl _)]
    exact ⟨T, rfl, hm, hww⟩
  | succ k ih =>
    intro i him T hm hww hk n hn
    obtain ⟨n', rfl⟩ : ∃ n', n = n' + 1 + 1 := ⟨n - 2, by omega⟩
    have hpi : Pfx (bt A x.toNatClampNeg) (A 5 x.toNatClampNeg) i := fun j hj => hp j (by omega)
    have g := sq_rg hb i hpi
    have g2 := sq_rg hb (i + 1) (fun j hj => hp j (by omega))
    have g3 := sq_mono hb hp (i + 1) (by omega) i (by omega)
    have hl := hp i (by omega)
    obtain ⟨q, T1, e1, e2, e3, e4⟩ := M_124 hw x0 x4 hm g.2.2 hl.1 hww
    have e4' : q = sq (bt A x.toNatClampNeg) (i + 1) := e4 hl.2
    subst e4'
    have hm1 := hm.pf e2
    have e3' : T1.1 29 7 = -1 := by rw [e3, hl.2]
    have h36 : T1.1 36 = T.1 36 := by funext j; exact e2.1 36 j (by omega) (by omega) (by omega) (by omega)
    rw [GL_123_0, if_neg (by rw [hww]; decide), if_pos ((xin4 x).mpr ⟨x0, x4⟩), hm.siz _ hr, if_neg (show ¬ A 5 x.toNatClampNeg ≤ sq (bt A x.toNatClampNeg) i by grind), e1]
    simp only [M_128 hw x0 x4 hm1 g.2.2 (show 1 ≤ sq (bt A x.toNatClampNeg) (i + 1) by grind), M_118 hw hm1 x0 x4 g.2.2, hm1.siz _ hr, h36]
    -- what a bad jump does
    have fail : ∀ T2 : St, T2 = (xa_u T1.1 29 7 (sq (bt A x.toNatClampNeg) i), T1.2) → ∃ T', GL_123_0 (n' + 1) T2 x y (sq (bt A x.toNatClampNeg) (i + 1)) = some (y, T') ∧ MR A C z T' ∧ T'.1 29 7 = sq (bt A x.toNatClampNeg) i := by
      intro T2 h2
      have w2 : T2.1 29 7 = sq (bt A x.toNatClampNeg) i := by rw [h2]; exact tw_w T1 _
      rw [GL_123_0, if_pos (by rw [w2]; exact g.2.2)]
      exact ⟨T2, rfl, by rw [h2]; exact hm1.tw _, w2⟩
    have ei : m - (k + 1) = i := by omega
    have hFb : bad (bt A x.toNatClampNeg) m i → Fj (bt A x.toNatClampNeg) m (k + 1) = sq (bt A x.toNatClampNeg) i := fun h => by rw [Fj, ei, if_pos h]
    have hFg : ¬ bad (bt A x.toNatClampNeg) m i → Fj (bt A x.toNatClampNeg) m (k + 1) = Fj (bt A x.toNatClampNeg) m k := fun h => by rw [Fj, ei, if_neg h]
    have good : ¬ bad (bt A x.toNatClampNeg) m i → ∃ T', GL_123_0 (n' + 1) T1 x y (sq (bt A x.toNatClampNeg) (i + 1)) = some (y, T') ∧ MR A C z T' ∧ T'.1 29 7 = Fj (bt A x.toNatClampNeg) m (k + 1) := by
      intro hnb
      rw [hFg hnb]
      exact ih (i + 1) (by omega) T1 hm1 e3' (by rw [h36]; exact hk) (n' + 1) (by omega)
    have key : ∀ t : Int32, (¬ (t < 0) ∧ ¬ (A 5 x.toNatClampNeg < t) ∧ T.1 36 t.toNatClampNeg ≠ 0) ↔ ∃ j, j ≤ m ∧ t = sq (bt A x.toNatClampNeg) j := by
      intro t
      constructor
      · rintro ⟨t0, t1, t2⟩
        obtain ⟨j, h1, h2⟩ := (hk t (by grind) (by grind)).mp t2
        exact ⟨j, by omega, h2.symm⟩
      · rintro ⟨j, h1, rfl⟩
        have g := sq_rg hb j (fun i hi => hp i (by omega))
        exact ⟨by grind, by grind, (hk _ g.2.2 (by grind)).mpr ⟨j, by omega, rfl⟩⟩
    have hjmp : (bt A x.toNatClampNeg (sq (bt A x.toNatClampNeg) i) = 7 ∨ bt A x.toNatClampNeg (sq (bt A x.toNatClampNeg) i) = 8) → ∃ T', (if jmp (bt A x.toNatClampNeg) (sq (bt A x.toNatClampNeg) i) (sq (bt A x.toNatClampNeg) (i + 1)) < 0 then GL_123_0 (n' + 1) (xa_u T1.1 29 7 (sq (bt A x.toNatClampNeg) i), T1.2.1, T1.2.2) x y (sq (bt A x.toNatClampNeg) (i + 1)) else if A 5 x.toNatClampNeg < jmp (bt A x.toNatClampNeg) (sq (bt A x.toNatClampNeg) i) (sq (bt A x.toNatClampNeg) (i + 1)) then GL_123_0 (n' + 1) (xa_u T1.1 29 7 (sq (bt A x.toNatClampNeg) i), T1.2.1, T1.2.2) x y (sq (bt A x.toNatClampNeg) (i + 1)) else if xa_in (jmp (bt A x.toNatClampNeg) (sq (bt A x.toNatClampNeg) i) (sq (bt A x.toNatClampNeg) (i + 1))) 65 then (if T.1 36 (jmp (bt A x.toNatClampNeg) (sq (bt A x.toNatClampNeg) i) (sq (bt A x.toNatClampNeg) (i + 1))).toNatClampNeg = 0 then GL_123_0 (n' + 1) (xa_u T1.1 29 7 (sq (bt A x.toNatClampNeg) i), T1.2.1, T1.2.2) x y (sq (bt A x.toNatClampNeg) (i + 1)) else GL_123_0 (n' + 1) T1 x y (sq (bt A x.toNatClampNeg) (i + 1))) else none) = some (y, T') ∧ MR A C z T' ∧ T'.1 29 7 = Fj (bt A x.toNatClampNeg) m (k + 1) := by
      intro h78
      have kj := key (jmp (bt A x.toNatClampNeg) (sq (bt A x.toNatClampNeg) i) (sq (bt A x.toNatClampNeg) (i + 1)))
      by_cases qb : bad (bt A x.toNatClampNeg) m i
      · rw [hFb qb]
        have nk : ¬ (¬ (jmp (bt A x.toNatClampNeg) (sq (bt A x.toNatClampNeg) i) (sq (bt A x.toNatClampNeg) (i + 1)) < 0) ∧ ¬ (A 5 x.toNatClampNeg < jmp (bt A x.toNatClampNeg) (sq (bt A x.toNatClampNeg) i) (sq (bt A x.toNatClampNeg) (i + 1))) ∧ T.1 36 (jmp (bt A x.toNatClampNeg) (sq (bt A x.toNatClampNeg) i) (sq (bt A x.toNatClampNeg) (i + 1))).toNatClampNeg ≠ 0) := fun h => qb.2 (kj.mp h)
        by_cases c1 : jmp (bt A x.toNatClampNeg) (sq (bt A x.toNatClampNeg) i) (sq (bt A x.toNatClampNeg) (i + 1)) < 0
        · rw [if_pos c1]; exact fail _ rfl
        · rw [if_neg c1]
          by_cases c2 : A 5 x.toNatClampNeg < jmp (bt A x.toNatClampNeg) (sq (bt A x.toNatClampNeg) i) (sq (bt A x.toNatClampNeg) (i + 1))
          · rw [if_pos c2]; exact fail _ rfl
          · rw [if_neg c2, if_pos ((xin65 _).mpr (by grind)), if_pos (Classical.byContradiction (fun h => nk ⟨c1, c2, h⟩))]; exact fail _ rfl
      · have hj : ∃ j, j ≤ m ∧ jmp (bt A x.toNatClampNeg) (sq (bt A x.toNatClampNeg) i) (sq (bt A x.toNatClampNeg) (i + 1)) = sq (bt A x.toNatClampNeg) j := Classical.byContradiction (fun h => qb ⟨h78, h⟩)
        obtain ⟨c1, c2, c3⟩ := kj.mpr hj
        rw [if_neg c1, if_neg c2, if_pos ((xin65 _).mpr (by grind)), if_neg c3]
        exact good qb
    by_cases q7 : bt A x.toNatClampNeg (sq (bt A x.toNatClampNeg) i) = 7
    · have h78 := hjmp (Or.inl q7)
      simp only [if_pos q7, if_pos (Or.inl q7 : bt A x.toNatClampNeg (sq (bt A x.toNatClampNeg) i) = 7 ∨ bt A x.toNatClampNeg (sq (bt A x.toNatClampNeg) i) = 8)]
      exact h78
    · by_cases q8 : bt A x.toNatClampNeg (sq (bt A x.toNatClampNeg) i) = 8
      · have h78 := hjmp (Or.inr q8)
        simp only [if_neg q7, if_pos q8, if_pos (Or.inr q8 : bt A x.toNatClampNeg (sq (bt A x.toNatClampNeg) i) = 7 ∨ bt A x.toNatClampNeg (sq (bt A x.toNatClampNeg) i) = 8)]
        exact h78
      · simp only [if_neg q7, if_neg q8]
        exact good (fun h => by rcases h.1 with h | h; exact q7 h; exact q8 h)
/-- the marks with the end marked before -/
def Mk2 (b : Int32 → Int32) (n : Int32) (m : Nat) (f : Nat → Int32) : Prop := ∀ p : Int32, 0 ≤ p → p ≤ 64 → (f p.toNatClampNeg ≠ 0 ↔ (∃ j, j < m ∧ sq b j = p) ∨ p = n)
theorem Mk2.u {b : Int32 → Int32} {n : Int32} (hb : BT b n) {m : Nat} (hp : Pfx b n m) {f : Nat → Nat → Int32} {c : Nat} (h : Mk2 b n m (f c)) : Mk2 b n (m + 1) (xa_u f c (sq b m).toNatClampNeg 1 c) := by
  have g := sq_rg hb m hp
  intro p p0 p64
  rw [xa_if]
  by_cases q : p = sq b m
  · subst q
    rw [if_pos ⟨rfl, rfl⟩]
    exact ⟨fun _ => Or.inl ⟨m, by omega, rfl⟩, fun _ => by decide⟩
  · rw [if_neg (fun e => q (tn_inj p0 g.2.2 e.2)), h p p0 p64]
    constructor
    · rintro (⟨j, h1, h2⟩ | h)
      · exact Or.inl ⟨j, by omega, h2⟩
      · exact Or.inr h
    · rintro (⟨j, h1, h2⟩ | h)
      · refine Or.inl ⟨j, ?_, h2⟩
        have : j ≠ m := fun e => q (by rw [← h2, e])
        omega
      · exact Or.inr h
def MRes (A : Ab) (x : Int32) (m : Nat) (v : Int32) (T' : St) : Prop := (if T'.1 29 7 < 0 then v else -2 - T'.1 29 7) = LRes (bt A x.toNatClampNeg) (A 5 x.toNatClampNeg) m ∧ (T'.1 29 7 < 0 ↔ sq (bt A x.toNatClampNeg) m = A 5 x.toNatClampNeg ∧ Fj (bt A x.toNatClampNeg) m m = -1)
theorem M_123s (hw : WF A) {x : Int32} (x0 : 0 ≤ x) (x4 : x < 4) {m : Nat} (hp : Pfx (bt A x.toNatClampNeg) (A 5 x.toNatClampNeg) m) (hm64 : m ≤ 64) (he : sq (bt A x.toNatClampNeg) m = A 5 x.toNatClampNeg ∨ (sq (bt A x.toNatClampNeg) m < A 5 x.toNatClampNeg ∧ (ins (bt A x.toNatClampNeg) (sq (bt A x.toNatClampNeg) m)).1 ≠ -1)) : ∀ (k i : Nat), i + k = m → ∀ (T : St), MR A C z T → T.1 29 7 = -1 → Mk2 (bt A x.toNatClampNeg) (A 5 x.toNatClampNeg) i (T.1 36) → ∀ n, k + 3 ≤ n → ∃ v T', GL_123_1 n T x (Int32.ofNat i) (sq (bt A x.toNatClampNeg) i) = some (v, T') ∧ MR A C z T' ∧ MRes A x m v T' := by
  have hr := tn4 x0 x4
  have hb := hw.b0 hr
  have n6 := hb.n64
  intro k
  induction k with
  | zero =>
    intro i him T hm hww hk n hn
    have him : i = m := by omega
    subst him
    obtain ⟨n', rfl⟩ : ∃ n', n = n' + 1 + 1 := ⟨n - 2, by omega⟩
    have g := sq_rg hb i hp
    rw [GL_123_1, if_neg (by rw [hww]; decide), if_pos ((xin4 x).mpr ⟨x0, x4⟩), hm.siz _ hr]
    by_cases hend : sq (bt A x.toNatClampNeg) i = A 5 x.toNatClampNeg
    · rw [if_pos (show A 5 x.toNatClampNeg ≤ sq (bt A x.toNatClampNeg) i by rw [hend]; exact Int32.le_refl _), if_pos (show T.1 29 7 < 0 by rw [hww]; decide)]
      have hk' : Mk (bt A x.toNatClampNeg) (i + 1) (T.1 36) := by
        intro p p0 p1
        rw [hk p p0 p1]
        constructor
        · rintro (⟨j, h1, h2⟩ | h)
          · exact ⟨j, by omega, h2⟩
          · exact ⟨i, by omega, by rw [hend, h]⟩
        · rintro ⟨j, h1, h2⟩
          by_cases q : j = i
          · subst q; exact Or.inr (by rw [← h2, hend])
          · exact Or.inl ⟨j, by omega, h2⟩
      obtain ⟨T', e1, e2, e3⟩ := M_123j (y := Int32.ofNat i) hw x0 x4 hp hend i 0 (by omega) T hm hww hk' xFu (by unfold xFu; omega)
      refine ⟨_, T', e1, e2, ?_, ?_⟩
      · rw [e3]
        unfold LRes
        rw [if_pos hend]
        rcases Fj_ge hb hp i (by omega) with h | h
        · rw [h]; rfl
        · rw [if_neg (by grind), if_neg (by grind)]
      · rw [e3]
        rcases Fj_ge hb hp i (by omega) with h | h
        · rw [h]; exact ⟨fun _ => ⟨hend, rfl⟩, fun _ => by decide⟩
        · exact ⟨fun h' => by exfalso; grind, fun h' => by exfalso; grind⟩
    · have hl : sq (bt A x.toNatClampNeg) i < A 5 x.toNatClampNeg ∧ (ins (bt A x.toNatClampNeg) (sq (bt A x.toNatClampNeg) i)).1 ≠ -1 := by rcases he with h | h; exact absurd h hend; exact h
      rw [if_neg (show ¬ A 5 x.toNatClampNeg ≤ sq (bt A x.toNatClampNeg) i by grind), if_pos ((xin65 _).mpr (by grind))]
      obtain ⟨q, T1, e1, e2, e3, e4⟩ := M_124 hw x0 x4 (T := (xa_u T.1 36 (sq (bt A x.toNatClampNeg) i).toNatClampNeg 1, T.2)) hm.u36 g.2.2 hl.1 (u36_7.trans hww)
      have e1' : G_124 (xa_u T.1 36 (sq (bt A x.toNatClampNeg) i).toNatClampNeg 1, T.2.1, T.2.2) x (sq (bt A x.toNatClampNeg) i) = some (q, T1) := e1
      rw [e1']
      have ig := (ins_rg hb g.2.2 hl.1).2
      have hge : 0 ≤ T1.1 29 7 := by rw [e3]; rcases ig with h | h; exact absurd h hl.2; exact h
      simp only []
      rw [GL_123_1, if_pos hge, if_neg (show ¬ T1.1 29 7 < 0 by grind)]
      refine ⟨_, T1, rfl, hm.u36.pf e2, ?_, ⟨fun h => by exfalso; grind, fun h => absurd h.1 hend⟩⟩
      rw [if_neg (show ¬ T1.1 29 7 < 0 by grind), e3]
      unfold LRes
      rw [if_neg hend]
  | succ k ih =>
    intro i him T hm hww hk n hn
    obtain ⟨n', rfl⟩ : ∃ n', n = n' + 1 := ⟨n - 1, by omega⟩
    have hpi : Pfx (bt A x.toNatClampNeg) (A 5 x.toNatClampNeg) i := fun j hj => hp j (by omega)
    have g := sq_rg hb i hpi
    have hl := hp i (by omega)
    rw [GL_123_1, if_neg (by rw [hww]; decide), if_pos ((xin4 x).mpr ⟨x0, x4⟩), hm.siz _ hr, if_neg (show ¬ A 5 x.toNatClampNeg ≤ sq (bt A x.toNatClampNeg) i by grind), if_pos ((xin65 _).mpr (by grind))]
    obtain ⟨q, T1, e1, e2, e3, e4⟩ := M_124 hw x0 x4 (T := (xa_u T.1 36 (sq (bt A x.toNatClampNeg) i).toNatClampNeg 1, T.2)) hm.u36 g.2.2 hl.1 (u36_7.trans hww)
    have e1' : G_124 (xa_u T.1 36 (sq (bt A x.toNatClampNeg) i).toNatClampNeg 1, T.2.1, T.2.2) x (sq (bt A x.toNatClampNeg) i) = some (q, T1) := e1
    have e4' : q = sq (bt A x.toNatClampNeg) (i + 1) := e4 hl.2
    subst e4'
    rw [e1']
    simp only [nj_s]
    refine ih (i + 1) (by omega) T1 (hm.u36.pf e2) (by rw [e3, hl.2]) ?_ n' (by omega)
    have h36 : T1.1 36 = xa_u T.1 36 (sq (bt A x.toNatClampNeg) i).toNatClampNeg 1 36 := by funext j; exact e2.1 36 j (by omega) (by omega) (by omega) (by omega)
    rw [h36]
    exact Mk2.u hb hpi hk
theorem M_123 (hw : WF A) {x : Int32} (x0 : 0 ≤ x) (x4 : x < 4) {m : Nat} (hp : Pfx (bt A x.toNatClampNeg) (A 5 x.toNatClampNeg) m) (hm64 : m ≤ 64) (he : sq (bt A x.toNatClampNeg) m = A 5 x.toNatClampNeg ∨ (sq (bt A x.toNatClampNeg) m < A 5 x.toNatClampNeg ∧ (ins (bt A x.toNatClampNeg) (sq (bt A x.toNatClampNeg) m)).1 ≠ -1)) {T : St} (hm : MR A C z T) (hww : T.1 29 7 = -1) : ∃ v T', G_123 T x = some (v, T') ∧ MR A C z T' ∧ MRes A x m v T' := by
  have hr := tn4 x0 x4
  have hb := hw.b0 hr
  have n6 := hb.n64
  have key : ∀ (i : Int32) (n : Nat), 0 ≤ i → i ≤ 65 → ((65 : Int32).toInt - i.toInt) < n → ∀ T : St, MR A C z T → T.1 29 7 = -1 → (∀ p : Int32, 0 ≤ p → p < i → (T.1 36 p.toNatClampNeg ≠ 0 ↔ p = A 5 x.toNatClampNeg)) → ∃ v T', GL_123_2 n T x 0 i = some (v, T') ∧ MR A C z T' ∧ MRes A x m v T' := by
    refine up_ind (P := fun i n => ∀ T : St, MR A C z T → T.1 29 7 = -1 → (∀ p : Int32, 0 ≤ p → p < i → (T.1 36 p.toNatClampNeg ≠ 0 ↔ p = A 5 x.toNatClampNeg)) → ∃ v T', GL_123_2 n T x 0 i = some (v, T') ∧ MR A C z T' ∧ MRes A x m v T') ?_ ?_
    · intro n T hm hww h
      rw [GL_123_2, if_pos (by decide)]
      exact M_123s hw x0 x4 hp hm64 he m 0 (by omega) T hm hww (fun p p0 p1 => by
        rw [h p p0 (by grind)]
        exact ⟨fun h => Or.inr h, fun h => by rcases h with ⟨j, j1, _⟩ | h; omega; exact h⟩) xFu (by unfold xFu; omega)
    · intro i n i0 i1 ih T hm hww h
      rw [GL_123_2, if_neg (show ¬ 65 ≤ i by grind), if_pos ((xin4 x).mpr ⟨x0, x4⟩), hm.siz _ hr, if_pos ((xin65 _).mpr ⟨i0, i1⟩), if_pos ((xin65 _).mpr ⟨i0, i1⟩)]
      have go : ∀ v : Int32, (v ≠ 0 ↔ i = A 5 x.toNatClampNeg) → ∃ v' T', GL_123_2 n (xa_u T.1 36 i.toNatClampNeg v, T.2) x 0 (i + 1) = some (v', T') ∧ MR A C z T' ∧ MRes A x m v' T' := by
        intro v hv
        refine ih _ hm.u36 (u36_7.trans hww) (fun p p0 p1 => ?_)
        show xa_u T.1 36 i.toNatClampNeg v 36 p.toNatClampNeg ≠ 0 ↔ _
        rw [xa_if]
        by_cases q : p = i
        · rw [q, if_pos ⟨rfl, rfl⟩]; exact hv
        · rw [if_neg (fun e => q (tn_inj p0 i0 e.2))]
          exact h p p0 (by grind)
      by_cases q : i = A 5 x.toNatClampNeg
      · rw [if_pos q]; exact go 1 ⟨fun _ => q, fun _ => by decide⟩
      · rw [if_neg q]; exact go 0 ⟨fun h => absurd rfl h, fun h => absurd h q⟩
  unfold G_123
  exact key 0 xFu (by decide) (by decide) (by decide) T hm hww (fun p p0 p1 => by exfalso; grind)
end
