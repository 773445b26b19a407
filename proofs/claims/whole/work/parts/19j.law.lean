/-! The pure part (19j.law): both halves answer alike -/
section
variable {A M C : Ab} {z : Option Nat × (Nat → Option Nat)}
theorem step_b (hw : WF A) {S T : St} {w : Nat} {r p : Int32} (hc : CR A M S) (hm : MR A C z T) (hR : Rn A S T w r p) (hww : T.1 29 7 = -1) (hne : p ≠ A 5 r.toNatClampNeg) : ∃ v A' S' T', G_75 S = some (v, S') ∧ G_131 T = some (v, T') ∧ Out M C z A w v A' S' T' := by
  obtain ⟨h0, h1, h2, h3, h4, h5, h6⟩ := hR.pl.at hw hne
  have hcd : 0 ≤ bt A r.toNatClampNeg p ∧ bt A r.toNatClampNeg p ≤ 18 := by
    by_cases q : 0 ≤ bt A r.toNatClampNeg p ∧ bt A r.toNatClampNeg p ≤ 18
    · exact q
    · unfold ins at h2
      rw [if_neg q] at h2
      have h2 : p = -1 := h2
      exfalso; grind
  rcases c18 hcd.1 hcd.2 with h | h | h | h | h | h | h | h | h | h | h | h | h | h | h | h | h | h | h
  · exact st_0 hw hc hm hR hww hne h
  · exact st_1 hw hc hm hR hww hne h
  · exact st_2 hw hc hm hR hww hne h
  · exact st_3 hw hc hm hR hww hne h
  · exact st_4 hw hc hm hR hww hne h
  · exact st_5 hw hc hm hR hww hne h
  · exact st_6 hw hc hm hR hww hne h
  · exact st_7 hw hc hm hR hww hne h
  · exact st_8 hw hc hm hR hww hne h
  · exact st_9 hw hc hm hR hww hne h
  · exact st_10 hw hc hm hR hww hne h
  · exact st_11 hw hc hm hR hww hne h
  · exact st_12 hw hc hm hR hww hne h
  · exact st_13 hw hc hm hR hww hne h
  · exact st_14 hw hc hm hR hww hne h
  · exact st_15 hw hc hm hR hww hne h
  · exact st_16 hw hc hm hR hww hne h
  · exact st_17 hw hc hm hR hww hne h
  · exact st_18 hw hc hm hR hww hne h
/-- a logic is left at its end -/
theorem leave_b {S T : St} {w : Nat} {r p : Int32} (hc : CR A M S) (hm : MR A C z T) (hR : Rn A S T w r p) : ∃ S', G_74 S = some ((), S') ∧ CR A M S' ∧ MR A C z (xa_u T.1 29 34 (Int32.ofNat w), T.2) ∧ ((w = 0 ∧ S'.1 23 5 ≠ 0) ∨ ∃ w' r' p', w = w' + 1 ∧ Rn A S' (xa_u T.1 29 34 (Int32.ofNat w), T.2) w' r' p') := by
  have w3 := hR.w3
  have hm' : MR A C z (xa_u T.1 29 34 (Int32.ofNat w), T.2) := hm.up (c := 29) (k := 34) (by unfold mpv; omega) _
  by_cases w0 : w = 0
  · subst w0
    refine ⟨(xa_u S.1 23 5 1, S.2), ?_, hc.up (c := 23) (k := 5) (by unfold cpv; omega) 1, hm', Or.inl ⟨rfl, ?_⟩⟩
    · unfold G_74
      rw [hR.wt, if_neg (by decide)]
    · show xa_u S.1 23 5 1 23 5 ≠ 0
      rw [xa_e]; decide
  · obtain ⟨w', rfl⟩ : ∃ w', w = w' + 1 := ⟨w - 1, by omega⟩
    obtain ⟨r', p', b1, b2, b3, b4, b5⟩ := hR.st w' (by omega)
    have hpos : 0 < Int32.ofNat (w' + 1) := by
      rw [Int32.lt_iff_toInt_lt, ni_i (by omega)]
      have h00 : (0 : Int32).toInt = 0 := rfl
      omega
    have e2 : xa_u S.1 23 2 (Int32.ofNat w') 23 2 = Int32.ofNat w' := xa_e
    have e25 : xa_u S.1 23 2 (Int32.ofNat w') 25 w' = p' := by rw [xa_c (by omega)]; exact b3
    refine ⟨(xa_u (xa_u S.1 23 2 (Int32.ofNat w')) 23 4 p', some (15 + 2 * r'.toNatClampNeg), S.2.2), ?_, ((hc.up (c := 23) (k := 2) (by unfold cpv; omega) (Int32.ofNat w')).up (c := 23) (k := 4) (by unfold cpv; omega) p').uz _, hm', Or.inr ⟨w', r', p', rfl, ?_⟩⟩
    · unfold G_74
      rw [hR.wt, if_pos hpos, pm1, e2, if_pos (in4n (by omega)), ni_tn (by omega), b1]
      simp only [e25]
    · have xs : ∀ c k, ¬ (c = 23 ∧ (k = 2 ∨ k = 4)) → xa_u (xa_u S.1 23 2 (Int32.ofNat w')) 23 4 p' c k = S.1 c k := fun c k a => by rw [xa_c (by omega), xa_c (by omega)]
      have xo : ∀ c k, ¬ (c = 29 ∧ k = 34) → xa_u T.1 29 34 (Int32.ofNat (w' + 1)) c k = T.1 c k := fun c k a => xa_c a
      refine ⟨by omega, ?_, ?_, ?_, rfl, ?_, ?_, ?_, b5, fun i hi => ?_⟩
      · show xa_u (xa_u S.1 23 2 (Int32.ofNat w')) 23 4 p' 23 2 = _
        rw [xa_c (by omega)]; exact e2
      · show xa_u (xa_u S.1 23 2 (Int32.ofNat w')) 23 4 p' 23 5 = _
        rw [xs _ _ (by omega)]; exact hR.dn
      · show xa_u T.1 29 34 (Int32.ofNat (w' + 1)) 29 34 = _
        exact xa_e
      · show xa_u (xa_u S.1 23 2 (Int32.ofNat w')) 23 4 p' 23 4 = _
        exact xa_e
      · show xa_u T.1 29 34 (Int32.ofNat (w' + 1)) 55 w' = _
        rw [xo _ _ (by omega)]; exact b2
      · show xa_u T.1 29 34 (Int32.ofNat (w' + 1)) 56 w' = _
        rw [xo _ _ (by omega)]; exact b4
      · obtain ⟨r2, p2, d1, d2, d3, d4, d5⟩ := hR.st i (by omega)
        refine ⟨r2, p2, d1, ?_, ?_, ?_, d5⟩
        · show xa_u T.1 29 34 (Int32.ofNat (w' + 1)) 55 i = _
          rw [xo _ _ (by omega)]; exact d2
        · show xa_u (xa_u S.1 23 2 (Int32.ofNat w')) 23 4 p' 25 i = _
          rw [xs _ _ (by omega)]; exact d3
        · show xa_u T.1 29 34 (Int32.ofNat (w' + 1)) 56 i = _
          rw [xo _ _ (by omega)]; exact d4
theorem lt_n {a b : Nat} (ha : a < 10000) (hb : b < 10000) : (Int32.ofNat a < Int32.ofNat b) ↔ a < b := by
  rw [Int32.lt_iff_toInt_lt, ni_i (by omega), ni_i (by omega)]; omega
theorem eq_n {a b : Nat} (ha : a < 10000) (hb : b < 10000) : (Int32.ofNat a = Int32.ofNat b) ↔ a = b := by
  constructor
  · intro e
    have := congrArg Int32.toNatClampNeg e
    rw [ni_tn (by omega), ni_tn (by omega)] at this
    exact this
  · intro e; rw [e]
theorem le_k {a b : Nat} (ha : a < 10000) (hb : b < 10000) : (Int32.ofNat a ≤ Int32.ofNat b) ↔ a ≤ b := by
  rw [Int32.le_iff_toInt_le, ni_i (by omega), ni_i (by omega)]; omega
theorem run_l {L : Nat} (hL : 16 ≤ L ∧ L ≤ 200) : ∀ (D t : Nat) (A : Ab) (S T : St) (w s : Nat) (r p : Int32) (n m : Nat), t + D = 401 → WF A → CR A M S → MR A C z T → T.1 29 7 = -1 → Rn A S T w r p → A 0 0 = Int32.ofNat L → A 0 4 = Int32.ofNat s → s ≤ L → t + w + 1 ≤ 2 * s + 1 → D + 3 ≤ n → D + 3 ≤ m → ∃ (v : Int32) (A' : Ab) (S' T' : St), GL_72_0 n S (Int32.ofNat L) 0 (Int32.ofNat t) = some (v, S') ∧ GL_130_0 m T (Int32.ofNat t) = some (v, T') ∧ CR A' M S' ∧ MR A' C z T' ∧ WF A' := by
  intro D
  induction D with
  | zero => intro t A S T w s r p n m ht hw hc hm hww hR e0 e4 hs hts; omega
  | succ D ih =>
    intro t A S T w s r p n m ht hw hc hm hww hR e0 e4 hs hts hn hmf
    obtain ⟨n, rfl⟩ : ∃ n', n = n' + 1 + 1 := ⟨n - 2, by omega⟩
    obtain ⟨m, rfl⟩ : ∃ m', m = m' + 1 + 1 := ⟨m - 2, by omega⟩
    have r0 : 0 ≤ r := by have := hR.pl.1; grind
    have r4 := hR.pl.2.1
    have hr := tn4 r0 r4
    have w3 := hR.w3
    have wn : (Int32.ofNat w).toNatClampNeg = w := ni_tn (by omega)
    have c1 : ¬ (1000 ≤ Int32.ofNat t) := by rw [show (1000 : Int32) = Int32.ofNat 1000 from rfl, le_k (by omega) (by omega)]; omega
    have c2 : ¬ (500 ≤ Int32.ofNat t) := by rw [show (500 : Int32) = Int32.ofNat 500 from rfl, le_k (by omega) (by omega)]; omega
    have d1 : ¬ (1000 ≤ Int32.ofNat (t + 1)) := by rw [show (1000 : Int32) = Int32.ofNat 1000 from rfl, le_k (by omega) (by omega)]; omega
    have d2 : ¬ (500 ≤ Int32.ofNat (t + 1)) := by rw [show (500 : Int32) = Int32.ofNat 500 from rfl, le_k (by omega) (by omega)]; omega
    have c3 : ¬ (Int32.ofNat (w + 1) ≤ 0) := by rw [show (0 : Int32) = Int32.ofNat 0 from rfl, le_k (by omega) (by omega)]; omega
    have rin : xa_in r 4 := (xin4 r).mpr ⟨r0, r4⟩
    have pl := hR.pl.le hw
    -- both at the top of a turn
    have hS0 : GL_72_0 (n + 1 + 1) S (Int32.ofNat L) 0 (Int32.ofNat t) = (if p < A 5 r.toNatClampNeg then
          (if A 0 4 < Int32.ofNat L then (match G_75 (xa_u S.1 23 6 (A 0 4 + 1), S.2.1, S.2.2) with
            | none => none
            | some (v7, S7) => GL_72_0 (n + 1) S7 (Int32.ofNat L) v7 (Int32.ofNat (t + 1)))
          else GL_72_0 (n + 1) S (Int32.ofNat L) (-2) (Int32.ofNat (t + 1)))
        else (match G_74 S with
            | none => none
            | some (v8, S8) => GL_72_0 (n + 1) S8 (Int32.ofNat L) 0 (Int32.ofNat (t + 1)))) := by
      have g73 : G_73 S = some (if p < A 5 r.toNatClampNeg then 0 else 1, S) := by
        unfold G_73
        rw [hR.lg]
        simp only [if_pos (kd_res hr), hR.at', hc.siz _ hr]
        split <;> rfl
      rw [GL_72_0, if_neg c1, if_pos hR.dn, if_pos rfl, g73]
      simp only [nj_s]
      by_cases q : p < A 5 r.toNatClampNeg
      · simp only [if_pos q, if_true, hc.stp]
        by_cases q2 : A 0 4 < Int32.ofNat L
        · simp only [if_pos q2]; try rfl
        · simp only [if_neg q2]
      · simp only [if_neg q, e10, if_false]; try rfl
    have hT0 : GL_130_0 (m + 1 + 1) T (Int32.ofNat t) = (if p = A 5 r.toNatClampNeg then GL_130_0 (m + 1) (xa_u T.1 29 34 (Int32.ofNat w), T.2.1, T.2.2) (Int32.ofNat (t + 1))
        else if A 0 4 = A 0 0 then some (-2, T) else (match G_131 (xa_u T.1 29 32 (A 0 4 + 1), T.2.1, T.2.2) with
          | none => none
          | some (v7, S7) => if v7 = 0 then GL_130_0 (m + 1) S7 (Int32.ofNat (t + 1)) else some (v7, S7))) := by
      rw [GL_130_0, if_neg c2, hR.un, if_neg c3, pm1, if_pos (in4n w3), wn, hR.tl, if_pos rin, hR.tp, hm.siz _ hr, hm.stp, hm.lim, nj_s]
      try rfl
    by_cases q : p = A 5 r.toNatClampNeg
    · -- the end of a logic
      rw [if_neg (by rw [q]; exact fun h => Int32.lt_irrefl h)] at hS0
      rw [if_pos q] at hT0
      obtain ⟨S', a1, a2, a3, a4⟩ := leave_b hc hm hR
      rw [a1] at hS0
      simp only [] at hS0
      rw [hS0, hT0]
      rcases a4 with ⟨rfl, a4⟩ | ⟨w', r', p', rfl, a4⟩
      · have u0 : xa_u T.1 29 34 (Int32.ofNat 0) 29 34 = 0 := xa_e
        refine ⟨0, A, S', _, ?_, ?_, a2, a3, hw⟩
        · rw [GL_72_0, if_neg d1, if_neg a4]
        · rw [GL_130_0, if_neg d2, if_pos (show (xa_u T.1 29 34 (Int32.ofNat 0), T.2.1, T.2.2).1 29 34 ≤ 0 by show xa_u T.1 29 34 (Int32.ofNat 0) 29 34 ≤ 0; rw [u0]; decide)]
      · exact ih (t + 1) A S' _ w' s r' p' (n + 1) (m + 1) (by omega) hw a2 a3 (by show xa_u T.1 29 34 (Int32.ofNat (w' + 1)) 29 7 = -1; rw [xa_c (by omega)]; exact hww) a4 e0 e4 hs (by omega) (by omega) (by omega)
    · have hlt : p < A 5 r.toNatClampNeg := by have := pl.2; grind
      rw [if_pos hlt] at hS0
      rw [if_neg q] at hT0
      by_cases qs : s < L
      · have k1 : A 0 4 < Int32.ofNat L := by rw [e4, lt_n (by omega) (by omega)]; exact qs
        have k2 : ¬ (A 0 4 = A 0 0) := by rw [e4, e0, eq_n (by omega) (by omega)]; omega
        rw [if_pos k1] at hS0
        rw [if_neg k2] at hT0
        have hc1 : CR (xa_u A 0 4 (A 0 4 + 1)) M (xa_u S.1 23 6 (A 0 4 + 1), S.2) := hc.ustp _
        have hm1 : MR (xa_u A 0 4 (A 0 4 + 1)) C z (xa_u T.1 29 32 (A 0 4 + 1), T.2) := hm.ustp _
        have hw1 : WF (xa_u A 0 4 (A 0 4 + 1)) := hw.u0 (by omega)
        have re1 : RE A (xa_u A 0 4 (A 0 4 + 1)) := RE.u _ (by unfold rsc; omega)
        have hR1 : Rn (xa_u A 0 4 (A 0 4 + 1)) (xa_u S.1 23 6 (A 0 4 + 1), S.2) (xa_u T.1 29 32 (A 0 4 + 1), T.2) w r p := by
          refine hR.mv re1 hR.pl rfl ?_ ?_ ?_ (fun i => ?_) ?_ (fun i => ?_) ?_ (fun i hi => ?_)
          · show xa_u S.1 23 6 (A 0 4 + 1) 23 2 = _; exact xa_c (by omega)
          · show xa_u S.1 23 6 (A 0 4 + 1) 23 5 = _; exact xa_c (by omega)
          · show xa_u S.1 23 6 (A 0 4 + 1) 23 4 = _; rw [xa_c (by omega)]; exact hR.at'
          · show xa_u S.1 23 6 (A 0 4 + 1) 25 i = _; exact xa_c (by omega)
          · show xa_u T.1 29 32 (A 0 4 + 1) 29 34 = _; exact xa_c (by omega)
          · show xa_u T.1 29 32 (A 0 4 + 1) 55 i = _; exact xa_c (by omega)
          · show xa_u T.1 29 32 (A 0 4 + 1) 56 w = _; rw [xa_c (by omega)]; exact hR.tp
          · show xa_u T.1 29 32 (A 0 4 + 1) 56 i = _; exact xa_c (by omega)
        have ne1 : p ≠ xa_u A 0 4 (A 0 4 + 1) 5 r.toNatClampNeg := by rw [xa_c (by omega)]; exact q
        obtain ⟨v, A', S', T', f1, f2, f3, f4, f5, f6, f7, f8, f9, f10⟩ := step_b hw1 hc1 hm1 hR1 (by show xa_u T.1 29 32 (A 0 4 + 1) 29 7 = -1; rw [xa_c (by omega)]; exact hww) ne1
        have f1' : G_75 (xa_u S.1 23 6 (A 0 4 + 1), S.2.1, S.2.2) = some (v, S') := f1
        have f2' : G_131 (xa_u T.1 29 32 (A 0 4 + 1), T.2.1, T.2.2) = some (v, T') := f2
        rw [f1'] at hS0
        rw [f2'] at hT0
        simp only [] at hS0 hT0
        rw [hS0, hT0]
        have e4' : A' 0 4 = Int32.ofNat (s + 1) := by rw [f8, xa_e, e4, nj_s]
        have e0' : A' 0 0 = Int32.ofNat L := by rw [f9, xa_c (by omega), e0]
        by_cases v0 : v = 0
        · subst v0
          rw [if_pos rfl]
          rcases f10 rfl with ⟨w', r', p', g1, g2⟩ | ⟨g1, g2⟩
          · exact ih (t + 1) A' S' T' w' (s + 1) r' p' (n + 1) (m + 1) (by omega) f5 f3 f4 f6 g1 e0' e4' (by omega) (by omega) (by omega) (by omega)
          · refine ⟨0, A', S', T', ?_, ?_, f3, f4, f5⟩
            · rw [GL_72_0, if_neg d1, if_neg g1]
            · rw [GL_130_0, if_neg d2, if_pos (by rw [g2]; decide)]
        · rw [if_neg v0]
          refine ⟨v, A', S', T', ?_, rfl, f3, f4, f5⟩
          rw [GL_72_0, if_neg d1, if_neg v0, ite_self]
      · have k1 : ¬ (A 0 4 < Int32.ofNat L) := by rw [e4, lt_n (by omega) (by omega)]; exact qs
        have k2 : A 0 4 = A 0 0 := by rw [e4, e0, eq_n (by omega) (by omega)]; omega
        rw [if_neg k1] at hS0
        rw [if_pos k2] at hT0
        rw [hS0, hT0]
        refine ⟨-2, A, S, T, ?_, rfl, hc, hm, hw⟩
        rw [GL_72_0, if_neg d1, if_neg (show ¬ ((-2 : Int32) = 0) by decide), ite_self]
/-- the logics of a cycle -/
theorem run_b {S T : St} (hw : WF A) (hc : CR A M S) (hm : MR A C z T) (hww : T.1 29 7 = -1) : ∃ (v : Int32) (A' : Ab) (S' T' : St), G_72 S (A 0 0) = some (v, S') ∧ G_130 T = some (v, T') ∧ CR A' M S' ∧ MR A' C z T' ∧ WF A' := by
  obtain ⟨L, l1, l2, l3⟩ := nn (A 0 0) (by have := hw.lim; grind)
  have hL : 16 ≤ L ∧ L ≤ 200 := by
    have a := ile hw.lim.1; have b := ile hw.lim.2
    rw [l1, ni_i l3] at a b
    have h16 : (16 : Int32).toInt = 16 := rfl
    have h200 : (200 : Int32).toInt = 200 := rfl
    omega
  have z1 : (1 : Int32).toNatClampNeg = 1 := rfl
  have z0 : (0 : Int32).toNatClampNeg = 0 := rfl
  have hw1 : WF (xa_u A 0 4 0) := hw.u0 (by omega)
  have e00 : xa_u A 0 4 0 0 0 = A 0 0 := xa_c (by omega)
  have e6 : xa_u A 0 4 0 6 1 = A 6 1 := xa_c (by omega)
  -- the class
  have hcd : ∀ d : Int32, CR (xa_u A 0 4 0) M (xa_u (xa_u (xa_u (xa_u S.1 23 6 0) 23 2 0) 23 4 0) 23 5 d, some (15 + 2 * 1), S.2.2) := fun d => ((((hc.ustp 0).up (c := 23) (k := 2) (by unfold cpv; omega) 0).up (c := 23) (k := 4) (by unfold cpv; omega) 0).up (c := 23) (k := 5) (by unfold cpv; omega) d).uz _
  have lod : (xa_u (xa_u (xa_u S.1 23 6 0) 23 2 0) 23 4 0) (15 + 2 * 1) 2 = A 6 1 := by
    rw [xa_c (by omega), xa_c (by omega), xa_c (by omega)]; exact hc.lod 1 (by decide)
  have hS : G_72 S (A 0 0) = (if A 6 1 = 0 then GL_72_0 xFu (xa_u (xa_u (xa_u (xa_u S.1 23 6 0) 23 2 0) 23 4 0) 23 5 1, some (15 + 2 * 1), S.2.2) (A 0 0) 0 0 else GL_72_0 xFu (xa_u (xa_u (xa_u (xa_u S.1 23 6 0) 23 2 0) 23 4 0) 23 5 0, some (15 + 2 * 1), S.2.2) (A 0 0) 0 0) := by
    unfold G_72
    rw [V_50, if_pos (by decide), z1]
    simp only [if_pos (kd_res (show 1 < 4 by decide)), lod]
  have hmd : ∀ u : Int32, MR (xa_u A 0 4 0) C z (xa_u (xa_u (xa_u (xa_u T.1 29 34 u) 55 0 1) 56 0 0) 29 32 0, T.2) := fun u => ((((hm.up (c := 29) (k := 34) (by unfold mpv; omega) u).up (c := 55) (k := 0) (by unfold mpv; omega) 1).up (c := 56) (k := 0) (by unfold mpv; omega) 0).ustp 0)
  have hT : G_130 T = (if A 6 1 = 0 then GL_130_0 xFu (xa_u (xa_u (xa_u (xa_u T.1 29 34 0) 55 0 1) 56 0 0) 29 32 0, T.2) 0 else GL_130_0 xFu (xa_u (xa_u (xa_u (xa_u T.1 29 34 1) 55 0 1) 56 0 0) 29 32 0, T.2) 0) := by
    unfold G_130
    rw [z1, hm.lod 1 (by decide), z0]
  rw [hS, hT]
  by_cases q : A 6 1 = 0
  · rw [if_pos q, if_pos q]
    refine ⟨0, _, _, _, ?_, ?_, hcd 1, hmd 0, hw1⟩
    · rw [show xFu = 999999 + 1 from rfl, GL_72_0, if_neg (by decide), if_neg]
      show ¬ (xa_u (xa_u (xa_u (xa_u S.1 23 6 0) 23 2 0) 23 4 0) 23 5 1 23 5 = 0)
      rw [xa_e]; decide
    · rw [show xFu = 999999 + 1 from rfl, GL_130_0, if_neg (by decide), if_pos]
      show xa_u (xa_u (xa_u (xa_u T.1 29 34 0) 55 0 1) 56 0 0) 29 32 0 29 34 ≤ 0
      rw [xa_c (by omega), xa_c (by omega), xa_c (by omega), xa_e]; decide
  · rw [if_neg q, if_neg q]
    rw [l1]
    have hpl : Pl (xa_u A 0 4 0) 1 0 := Pl.start hw1 (by decide) (by decide) (by rw [z1, e6]; exact q)
    refine run_l hL 401 0 (xa_u A 0 4 0) _ _ 0 0 1 0 xFu xFu (by omega) hw1 (hcd 0) (hmd 1) ?_ ⟨by omega, ?_, ?_, ?_, rfl, ?_, ?_, ?_, hpl, fun i hi => by omega⟩ (by rw [e00, l1]) xa_e (by omega) (by omega) (by decide) (by decide)
    · show xa_u (xa_u (xa_u (xa_u T.1 29 34 1) 55 0 1) 56 0 0) 29 32 0 29 7 = -1
      rw [xa_c (by omega), xa_c (by omega), xa_c (by omega), xa_c (by omega)]; exact hww
    · show xa_u (xa_u (xa_u (xa_u S.1 23 6 0) 23 2 0) 23 4 0) 23 5 0 23 2 = _
      rw [xa_c (by omega), xa_c (by omega), xa_e]; try rfl
    · show xa_u (xa_u (xa_u (xa_u S.1 23 6 0) 23 2 0) 23 4 0) 23 5 0 23 5 = _
      exact xa_e
    · show xa_u (xa_u (xa_u (xa_u T.1 29 34 1) 55 0 1) 56 0 0) 29 32 0 29 34 = _
      rw [xa_c (by omega), xa_c (by omega), xa_c (by omega), xa_e]; try rfl
    · show xa_u (xa_u (xa_u (xa_u S.1 23 6 0) 23 2 0) 23 4 0) 23 5 0 23 4 = _
      rw [xa_c (by omega), xa_e]
    · show xa_u (xa_u (xa_u (xa_u T.1 29 34 1) 55 0 1) 56 0 0) 29 32 0 55 0 = _
      rw [xa_c (by omega), xa_c (by omega), xa_e]
    · show xa_u (xa_u (xa_u (xa_u T.1 29 34 1) 55 0 1) 56 0 0) 29 32 0 56 0 = _
      rw [xa_c (by omega), xa_e]
end
/-! a cycle -/
theorem s_101 (x y u : Int32) : Same (fun S => G_101 S x y u) (fun S => G_129 S x y u) := by
  intro A M C z S T hw hc hm
  have none' : ∀ (hS : G_101 S x y u = some (-1, S)) (hT : G_129 T x y u = some (-1, T)), ∃ (v : Int32) (A' : Ab) (S' T' : St), G_101 S x y u = some (v, S') ∧ G_129 T x y u = some (v, T') ∧ CR A' M S' ∧ MR A' C z T' ∧ WF A' := fun h1 h2 => ⟨-1, A, S, T, h1, h2, hc, hm, hw⟩
  show ∃ (v : Int32) (A' : Ab) (S' T' : St), G_101 S x y u = some (v, S') ∧ G_129 T x y u = some (v, T') ∧ CR A' M S' ∧ MR A' C z T' ∧ WF A'
  by_cases q0 : A 0 2 = 0
  · by_cases qv : (0 ≤ x ∧ x ≤ 255) ∧ (0 ≤ y ∧ y ≤ 8) ∧ (0 ≤ u ∧ u ≤ 255)
    · have z0 : (0 : Int32).toNatClampNeg = 0 := rfl
      obtain ⟨vx, vy, vu⟩ := qv
      have nx : ¬ (x < 0 ∨ 255 < x) := by grind
      have ny : ¬ (y < 0 ∨ 8 < y) := by grind
      have nu : ¬ (u < 0 ∨ 255 < u) := by grind
      -- counted, the word heard
      have hc1 : CR (xa_u (xa_u A 0 1 (A 0 1 + 1)) 0 3 x) M (xa_u (xa_u S.1 0 5 (A 0 1 + 1)) 1 5 x, S.2) := (hc.ucyc _).uwrd x
      have hm1 : MR (xa_u (xa_u A 0 1 (A 0 1 + 1)) 0 3 x) C z (xa_u (xa_u (xa_u T.1 29 31 (A 0 1 + 1)) 29 33 x) 29 7 (-1), T.2) := ((hm.ucyc _).uwrd x).up (c := 29) (k := 7) (by unfold mpv; omega) (-1)
      have hw1 : WF (xa_u (xa_u A 0 1 (A 0 1 + 1)) 0 3 x) := (hw.u0 (by omega)).u0 (by omega)
      have h7 : xa_u (xa_u (xa_u T.1 29 31 (A 0 1 + 1)) 29 33 x) 29 7 (-1) 29 7 = -1 := xa_e
      -- steering
      have steer : ∃ (A2 : Ab) (S2 T2 : St), G_12 (xa_u (xa_u S.1 0 5 (A 0 1 + 1)) 1 5 x, S.2.1, S.2.2) 11 y = some ((), S2) ∧ (G_129 T x y u = (match G_130 T2 with
          | none => none
          | some (v, S16) => if v = 0 then GL_129_0 xFu (xa_u S16.1 40 0 0, S16.2.1, S16.2.2) u 0 else some (v, (xa_u S16.1 29 30 1, S16.2.1, S16.2.2)))) ∧ CR A2 M S2 ∧ MR A2 C z T2 ∧ WF A2 ∧ T2.1 29 7 = -1 := by
        have hk := hc1.ks (show 0 < 4 by decide)
        have hl := hm1.ks (show 0 < 4 by decide)
        have k5 : (xa_u (xa_u S.1 0 5 (A 0 1 + 1)) 1 5 x) 11 5 = A 25 0 := by rw [xa_c (by omega), xa_c (by omega)]; exact (hc.ks (show 0 < 4 by decide)).2.2.2.2.2.1
        have k4 : (xa_u (xa_u S.1 0 5 (A 0 1 + 1)) 1 5 x) 11 4 = A 24 0 := by rw [xa_c (by omega), xa_c (by omega)]; exact (hc.ks (show 0 < 4 by decide)).2.2.2.2.1
        have l5 : xa_u (xa_u (xa_u T.1 29 31 (A 0 1 + 1)) 29 33 x) 29 7 (-1) 47 0 = A 25 0 := by rw [xa_c (by omega), xa_c (by omega), xa_c (by omega)]; exact (hm.ks (show 0 < 4 by decide)).2.2.2.2.2.1
        have l4 : xa_u (xa_u (xa_u T.1 29 31 (A 0 1 + 1)) 29 33 x) 29 7 (-1) 46 0 = A 24 0 := by rw [xa_c (by omega), xa_c (by omega), xa_c (by omega)]; exact (hm.ks (show 0 < 4 by decide)).2.2.2.2.1
        have k11 : (kd 11).1 = 10 + 0 := rfl
        have hT0 : ∀ X, (if y = 0 then (match G_130 (xa_u (xa_u (xa_u T.1 29 31 (A 0 1 + 1)) 29 33 x) 29 7 (-1), T.2.1, T.2.2) with
              | none => none
              | some (v, S16) => if v = 0 then GL_129_0 xFu (xa_u S16.1 40 0 0, S16.2.1, S16.2.2) u 0 else some (v, (xa_u S16.1 29 30 1, S16.2.1, S16.2.2)))
            else if A 25 0 = 0 then (if A 24 0 = y then (match G_130 (xa_u (xa_u (xa_u (xa_u T.1 29 31 (A 0 1 + 1)) 29 33 x) 29 7 (-1)) 46 0 0, T.2.1, T.2.2) with
              | none => none
              | some (v, S16) => if v = 0 then GL_129_0 xFu (xa_u S16.1 40 0 0, S16.2.1, S16.2.2) u 0 else some (v, (xa_u S16.1 29 30 1, S16.2.1, S16.2.2)))
              else (match G_130 (xa_u (xa_u (xa_u (xa_u T.1 29 31 (A 0 1 + 1)) 29 33 x) 29 7 (-1)) 46 0 y, T.2.1, T.2.2) with
              | none => none
              | some (v, S16) => if v = 0 then GL_129_0 xFu (xa_u S16.1 40 0 0, S16.2.1, S16.2.2) u 0 else some (v, (xa_u S16.1 29 30 1, S16.2.1, S16.2.2))))
            else (match G_130 (xa_u (xa_u (xa_u T.1 29 31 (A 0 1 + 1)) 29 33 x) 29 7 (-1), T.2.1, T.2.2) with
              | none => none
              | some (v, S16) => if v = 0 then GL_129_0 xFu (xa_u S16.1 40 0 0, S16.2.1, S16.2.2) u 0 else some (v, (xa_u S16.1 29 30 1, S16.2.1, S16.2.2)))) = X → G_129 T x y u = X := by
          intro X hX
          rw [← hX]
          unfold G_129
          simp only [hm.ovr, if_pos q0, V_115, if_neg nx, if_neg nu, if_neg ny, if_true, hm.cyc, z0, l5, l4]
          try rfl
        by_cases y0 : y = 0
        · refine ⟨_, (xa_u (xa_u S.1 0 5 (A 0 1 + 1)) 1 5 x, S.2), (xa_u (xa_u (xa_u T.1 29 31 (A 0 1 + 1)) 29 33 x) 29 7 (-1), T.2), ?_, ?_, hc1, hm1, hw1, h7⟩
          · unfold G_12; rw [if_pos y0]
          · apply hT0; rw [if_pos y0]
        · by_cases m0 : A 25 0 = 0
          · by_cases dy : A 24 0 = y
            · refine ⟨_, _, _, ?_, ?_, hc1.uact (f := 4) (o := 0) (by decide) (by decide) 0, hm1.uact (f := 4) (o := 0) (by decide) (by decide) 0, hw1.ua (by decide) (by decide), ?_⟩
              · unfold G_12
                simp only [if_neg y0, if_pos k11, k5, k4, if_pos m0, if_pos dy]
              · apply hT0; rw [if_neg y0, if_pos m0, if_pos dy]; try rfl
              · show xa_u (xa_u (xa_u (xa_u T.1 29 31 (A 0 1 + 1)) 29 33 x) 29 7 (-1)) 46 0 0 29 7 = -1
                rw [xa_c (by omega)]; exact h7
            · refine ⟨_, _, _, ?_, ?_, hc1.uact (f := 4) (o := 0) (by decide) (by decide) y, hm1.uact (f := 4) (o := 0) (by decide) (by decide) y, hw1.ua (by decide) (by decide), ?_⟩
              · unfold G_12
                simp only [if_neg y0, if_pos k11, k5, k4, if_pos m0, if_neg dy]
              · apply hT0; rw [if_neg y0, if_pos m0, if_neg dy]; try rfl
              · show xa_u (xa_u (xa_u (xa_u T.1 29 31 (A 0 1 + 1)) 29 33 x) 29 7 (-1)) 46 0 y 29 7 = -1
                rw [xa_c (by omega)]; exact h7
          · refine ⟨_, (xa_u (xa_u S.1 0 5 (A 0 1 + 1)) 1 5 x, S.2), (xa_u (xa_u (xa_u T.1 29 31 (A 0 1 + 1)) 29 33 x) 29 7 (-1), T.2), ?_, ?_, hc1, hm1, hw1, h7⟩
            · unfold G_12
              simp only [if_neg y0, if_pos k11, k5, if_neg m0]
            · apply hT0; rw [if_neg y0, if_neg m0]
      obtain ⟨A2, S2, T2, s1, s2, s3, s4, s5, s6⟩ := steer
      obtain ⟨v, A3, S3, T3, r1, r2, r3, r4, r5⟩ := run_b s5 s3 s4 s6
      have hS0 : G_101 S x y u = (if v = 0 then (match G_85 S3 u with
          | none => none
          | some (v11, S11) => some (S11.1 23 6, S11)) else some (v, (xa_u S3.1 0 6 1, S3.2.1, S3.2.2))) := by
        unfold G_101
        rw [hc.ovr, if_pos q0]
        simp only [V_102, if_pos vx, if_pos vy, if_pos vu, e10, if_false, hc.cyc, s1]
        rw [s3.lim, r1]
        try rfl
      rw [s2, r2, hS0]
      simp only []
      by_cases v0 : v = 0
      · rw [if_pos v0, if_pos v0]
        obtain ⟨A4, S4, T4, m1, m2, m3, m4, m5⟩ := move_b r5 r3 r4 u
        have m2' : GL_129_0 xFu (xa_u T3.1 40 0 0, T3.2.1, T3.2.2) u 0 = some (A4 0 4, T4) := m2
        rw [m1, m2']
        exact ⟨A4 0 4, A4, S4, T4, by simp only [m3.stp], rfl, m3, m4, m5⟩
      · rw [if_neg v0, if_neg v0]
        exact ⟨v, _, _, _, rfl, rfl, r3.uovr 1, r4.uovr 1, r5.u0 (by omega)⟩
    · apply none'
      · unfold G_101
        simp only [hc.ovr, if_pos q0, V_102]
        grind
      · unfold G_129
        simp only [hm.ovr, if_pos q0, V_115]
        grind
  · apply none'
    · unfold G_101; rw [hc.ovr, if_neg q0]
    · unfold G_129; rw [hm.ovr, if_neg q0]
/-! the law -/
def iA (L : Int32) : Ab := fun c j => if c = 0 ∧ j = 0 then L else if c = 1 then 15 else if c = 2 then 4 else if c = 22 ∨ c = 23 then 1 else 0
theorem iA_WF {L : Int32} (h : 16 ≤ L ∧ L ≤ 200) : WF (iA L) := by
  refine ⟨?lim_0, ?siz_0, ?byt_0, ?act_0, ?gfl_0, ?flg_0, ?log_0, ?pic_0⟩
  · exact h
  · intro r hr; show 0 ≤ iA L 5 r ∧ iA L 5 r ≤ 64; unfold iA; simp
  · intro r j hr hj
    have e : iA L (10 + r) j = 0 := by unfold iA; rw [if_neg (by omega), if_neg (by omega), if_neg (by omega), if_neg (by omega)]
    rw [e]; decide
  · intro o ho
    have e1 : iA L 20 o = 0 := by unfold iA; simp
    have e2 : iA L 21 o = 0 := by unfold iA; simp
    have e3 : iA L 22 o = 1 := by unfold iA; simp
    rw [e1, e2, e3]; decide
  · intro o ho
    have e1 : iA L 32 o = 0 := by unfold iA; simp
    rw [e1]; decide
  · intro j hj; exact Or.inl (by unfold iA; simp)
  · intro r _ _ h3; exact absurd (by unfold iA; simp) h3
  · intro h3; exact absurd (by unfold iA; simp) h3
theorem xml_eq (v : Int32) : xml v = xmx 16 (xmn 200 v) ∧ 16 ≤ xmx 16 (xmn 200 v) ∧ xmx 16 (xmn 200 v) ≤ 200 := by
  unfold xml xmx xmn; grind
theorem r4c {r : Nat} (h : r < 4) : r = 0 ∨ r = 1 ∨ r = 2 ∨ r = 3 := by omega
theorem f13c {f : Nat} (h : f < 13) : f = 0 ∨ f = 1 ∨ f = 2 ∨ f = 3 ∨ f = 4 ∨ f = 5 ∨ f = 6 ∨ f = 7 ∨ f = 8 ∨ f = 9 ∨ f = 10 ∨ f = 11 ∨ f = 12 := by omega
set_option maxRecDepth 20000 in
theorem init_inv (v : Int32) : ∃ S0, G_113 (cI_79 v, none, fun _ => none) = some ((), S0) ∧ Inv S0 := by
  obtain ⟨S0, a1, a2, a3, a4, a5, a6⟩ := V_113 (cI_79 v, none, fun _ => none)
  have xm := xml_eq v
  have e : ∀ c k, c ≠ 30 → c ≠ 31 → ¬ (c = 29 ∧ (k = 13 ∨ k = 14)) → S0.1 c k = cI_79 v c k := a5
  refine ⟨S0, a1, iA (xmx 16 (xmn 200 v)), iA_WF xm.2, ?_, ?_⟩
  · refine ⟨?lim_1, ?cyc_1, ?ovr_1, ?wrd_1, ?stp_1, ?col_1, ?ctl_1, ?val_1, ?flg_1, ?siz_1, ?lod_1, ?byt_1, ?act_1, ?fr_1⟩
    case lim_1 => rw [e _ _ (by omega) (by omega) (by omega)]; rfl
    case cyc_1 => rw [e _ _ (by omega) (by omega) (by omega)]; rfl
    case ovr_1 => rw [e _ _ (by omega) (by omega) (by omega)]; rfl
    case wrd_1 => rw [e _ _ (by omega) (by omega) (by omega)]; rfl
    case stp_1 => rw [e _ _ (by omega) (by omega) (by omega)]; rfl
    case col_1 =>
      intro j hj; rw [e _ _ (by omega) (by omega) (by omega)]
      show (if j < 192 then (15 : Int32) else cI_10 v 3 j) = 15
      rw [if_pos hj]
    case ctl_1 =>
      intro j hj; rw [e _ _ (by omega) (by omega) (by omega)]
      show (if j < 192 then (4 : Int32) else cI_11 v 4 j) = 4
      rw [if_pos hj]
    case val_1 => intro j hj; rw [e _ _ (by omega) (by omega) (by omega)]; rfl
    case flg_1 => intro j hj; rw [e _ _ (by omega) (by omega) (by omega)]; rfl
    case siz_1 => intro r hr; rw [e _ _ (by omega) (by omega) (by omega)]; rcases r4c hr with rfl | rfl | rfl | rfl <;> rfl
    case lod_1 => intro r hr; rw [e _ _ (by omega) (by omega) (by omega)]; rcases r4c hr with rfl | rfl | rfl | rfl <;> rfl
    case byt_1 => intro r j hr hj; rw [e _ _ (by omega) (by omega) (by omega)]; rcases r4c hr with rfl | rfl | rfl | rfl <;> rfl
    case act_1 =>
      intro o f ho hf; rw [e _ _ (by omega) (by omega) (by omega)]
      rcases r4c ho with rfl | rfl | rfl | rfl <;> rcases f13c hf with rfl | rfl | rfl | rfl | rfl | rfl | rfl | rfl | rfl | rfl | rfl | rfl | rfl <;> rfl
    case fr_1 => intro c j _; rfl
  · refine ⟨?lim_2, ?cyc_2, ?ovr_2, ?wrd_2, ?stp_2, ?col_2, ?ctl_2, ?val_2, ?flg_2, ?siz_2, ?lod_2, ?byt_2, ?act_2, ?fr_2, ?fz_2⟩
    case lim_2 =>
      rw [e _ _ (by omega) (by omega) (by omega)]
      show xml v = xmx 16 (xmn 200 v)
      exact xm.1
    case cyc_2 => rw [e _ _ (by omega) (by omega) (by omega)]; rfl
    case ovr_2 => rw [e _ _ (by omega) (by omega) (by omega)]; rfl
    case wrd_2 => rw [e _ _ (by omega) (by omega) (by omega)]; rfl
    case stp_2 => rw [e _ _ (by omega) (by omega) (by omega)]; rfl
    case col_2 => intro j hj; rw [(a2 j hj).1]; rfl
    case ctl_2 => intro j hj; rw [(a2 j hj).2]; rfl
    case val_2 => intro j hj; rw [e _ _ (by omega) (by omega) (by omega)]; rfl
    case flg_2 => intro j hj; rw [e _ _ (by omega) (by omega) (by omega)]; rfl
    case siz_2 => intro r hr; rw [e _ _ (by omega) (by omega) (by omega)]; rfl
    case lod_2 => intro r hr; rw [e _ _ (by omega) (by omega) (by omega)]; rfl
    case byt_2 => intro r j hr hj; rw [e _ _ (by omega) (by omega) (by omega)]; rcases r4c hr with rfl | rfl | rfl | rfl <;> rfl
    case act_2 =>
      intro o f ho hf; rw [e _ _ (by unfold mcl; grind) (by unfold mcl; grind) (by unfold mcl; grind)]
      rcases r4c ho with rfl | rfl | rfl | rfl <;> rcases f13c hf with rfl | rfl | rfl | rfl | rfl | rfl | rfl | rfl | rfl | rfl | rfl | rfl | rfl <;> rfl
    case fr_2 => intro c j _; rfl
    case fz_2 => rfl
theorem law_l {X : Nat × (Nat → Int32)} (hX : X.1 ≤ 2049) : ∀ (n : Nat) (S : St) (y : Int32), Inv S → 1 ≤ y → y ≤ 3000 → (X.1 : Int) - 4 < y.toInt + 4 * n → ∃ S', GLaw X (n + 1) S y = some (1, S') := by
  intro n
  have h4 : (4 : Int32).toInt = 4 := rfl
  have h11 : (1 : Int32).toInt = 1 := rfl
  have h3k : (3000 : Int32).toInt = 3000 := rfl
  have eX : (Int32.ofNat X.1 - 4).toInt = (X.1 : Int) - 4 := by
    rw [isub] <;> rw [ni_i (by omega), h4] <;> omega
  induction n with
  | zero =>
    intro S y hi h1 h2 hn
    refine ⟨S, ?_⟩
    rw [GLaw, if_pos (by rw [Int32.lt_iff_toInt_lt, eX]; omega)]
  | succ n ih =>
    intro S y hi h1 h2 hn
    have l1 := ile h1
    have l2 := ile h2
    by_cases q : Int32.ofNat X.1 - 4 < y
    · exact ⟨S, by rw [GLaw, if_pos q]⟩
    · have hq : y.toInt ≤ (X.1 : Int) - 4 := by rw [Int32.lt_iff_toInt_lt, eX] at q; omega
      have add : ∀ k : Int32, 0 ≤ k.toInt → k.toInt ≤ 4 → (y + k).toInt = y.toInt + k.toInt := fun k a b => iadd (by omega) (by omega)
      have xin : ∀ k : Int32, 0 ≤ k.toInt → k.toInt ≤ 3 → xa_in (y + k) X.1 := by
        intro k a b
        unfold xa_in
        have e := add k a (by omega)
        rintro (h | h)
        · have := ilt h
          have h00 : (0 : Int32).toInt = 0 := rfl
          omega
        · rw [tnc, e] at h; omega
      have x0 : xa_in y X.1 := by
        have := xin 0 (by decide) (by decide)
        rw [show y + 0 = y by grind] at this
        exact this
      have x1 := xin 1 (by decide) (by decide)
      have x2 := xin 2 (by decide) (by decide)
      have x3 := xin 3 (by decide) (by decide)
      have e4 := add 4 (by decide) (by decide)
      have y4 : 1 ≤ y + 4 ∧ y + 4 ≤ 3000 := by
        rw [Int32.le_iff_toInt_le, Int32.le_iff_toInt_le, e4, h4]; omega
      have go : ∀ T : St, Inv T → ∃ S', GLaw X (n + 1) T (y + 4) = some (1, S') := fun T hT => ih T (y + 4) hT y4.1 y4.2 (by rw [e4, h4]; omega)
      rw [GLaw, if_neg q, if_pos x0]
      simp only [if_pos x1, if_pos x2, if_pos x3]
      by_cases c0 : (X.2 y.toNatClampNeg &&& 15) = 0
      · obtain ⟨v, S', T', a1, a2, a3⟩ := (s_98 (X.2 (y + 1).toNatClampNeg) (X.2 (y + 2).toNatClampNeg) (X.2 (y + 3).toNatClampNeg)).step hi
        simp only [if_pos c0, a1, a2, if_true]
        exact go T' a3
      · by_cases c1 : (X.2 y.toNatClampNeg &&& 15) = 1
        · obtain ⟨v, S', T', a1, a2, a3⟩ := (s_99 (X.2 (y + 1).toNatClampNeg)).step hi
          simp only [if_neg c0, if_pos c1, a1, a2, if_true]
          exact go T' a3
        · by_cases c2 : (X.2 y.toNatClampNeg &&& 15) = 2
          · obtain ⟨v, S', T', a1, a2, a3⟩ := (s_101 (X.2 (y + 1).toNatClampNeg) (X.2 (y + 2).toNatClampNeg) (X.2 (y + 3).toNatClampNeg)).step hi
            simp only [if_neg c0, if_neg c1, if_pos c2, a1, a2, if_true]
            exact go T' a3
          · by_cases c3 : (X.2 y.toNatClampNeg &&& 15) = 3
            · obtain ⟨v, S', T', a1, a2, a3⟩ := s_103.step hi
              simp only [if_neg c0, if_neg c1, if_neg c2, if_pos c3, a1, a2, if_true]
              exact go T' a3
            · by_cases c4 : (X.2 y.toNatClampNeg &&& 15) = 4
              · obtain ⟨v, S', T', a1, a2, a3⟩ := s_104.step hi
                simp only [if_neg c0, if_neg c1, if_neg c2, if_neg c3, if_pos c4, a1, a2, if_true]
                exact go T' a3
              · by_cases c5 : (X.2 y.toNatClampNeg &&& 15) = 5
                · obtain ⟨v, S', T', a1, a2, a3⟩ := (s_105 (X.2 (y + 1).toNatClampNeg)).step hi
                  simp only [if_neg c0, if_neg c1, if_neg c2, if_neg c3, if_neg c4, if_pos c5, a1, a2, if_true]
                  exact go T' a3
                · by_cases c6 : (X.2 y.toNatClampNeg &&& 15) = 6
                  · obtain ⟨v, S', T', a1, a2, a3⟩ := (s_106 (X.2 (y + 1).toNatClampNeg) (X.2 (y + 2).toNatClampNeg)).step hi
                    simp only [if_neg c0, if_neg c1, if_neg c2, if_neg c3, if_neg c4, if_neg c5, if_pos c6, a1, a2, if_true]
                    exact go T' a3
                  · by_cases c7 : (X.2 y.toNatClampNeg &&& 15) = 7
                    · obtain ⟨v, S', T', a1, a2, a3⟩ := (s_107 (X.2 (y + 1).toNatClampNeg)).step hi
                      simp only [if_neg c0, if_neg c1, if_neg c2, if_neg c3, if_neg c4, if_neg c5, if_neg c6, if_pos c7, a1, a2, if_true]
                      exact go T' a3
                    · by_cases c8 : (X.2 y.toNatClampNeg &&& 15) = 8
                      · by_cases b0 : X.2 (y + 2).toNatClampNeg = 0
                        · obtain ⟨v, S', T', a1, a2, a3⟩ := (s_108 (X.2 (y + 1).toNatClampNeg) 0 (Or.inl rfl)).step hi
                          simp only [if_neg c0, if_neg c1, if_neg c2, if_neg c3, if_neg c4, if_neg c5, if_neg c6, if_neg c7, if_pos c8, if_pos b0, a1, a2, if_true]
                          exact go T' a3
                        · obtain ⟨v, S', T', a1, a2, a3⟩ := (s_108 (X.2 (y + 1).toNatClampNeg) 1 (Or.inr rfl)).step hi
                          simp only [if_neg c0, if_neg c1, if_neg c2, if_neg c3, if_neg c4, if_neg c5, if_neg c6, if_neg c7, if_pos c8, if_neg b0, a1, a2, if_true]
                          exact go T' a3
                      · by_cases c9 : (X.2 y.toNatClampNeg &&& 15) = 9
                        · obtain ⟨v, S', T', a1, a2, a3⟩ := (s_109 (X.2 (y + 1).toNatClampNeg) (X.2 (y + 2).toNatClampNeg)).step hi
                          simp only [if_neg c0, if_neg c1, if_neg c2, if_neg c3, if_neg c4, if_neg c5, if_neg c6, if_neg c7, if_neg c8, if_pos c9, a1, a2, if_true]
                          exact go T' a3
                        · by_cases c10 : (X.2 y.toNatClampNeg &&& 15) = 10
                          · obtain ⟨v, S', T', a1, a2, a3⟩ := (s_110 (X.2 (y + 1).toNatClampNeg) (X.2 (y + 2).toNatClampNeg) (X.2 (y + 3).toNatClampNeg)).step hi
                            simp only [if_neg c0, if_neg c1, if_neg c2, if_neg c3, if_neg c4, if_neg c5, if_neg c6, if_neg c7, if_neg c8, if_neg c9, if_pos c10, a1, a2, if_true]
                            exact go T' a3
                          · by_cases c11 : (X.2 y.toNatClampNeg &&& 15) = 11
                            · obtain ⟨v, S', T', a1, a2, a3⟩ := (s_111 (X.2 (y + 1).toNatClampNeg) (X.2 (y + 2).toNatClampNeg)).step hi
                              simp only [if_neg c0, if_neg c1, if_neg c2, if_neg c3, if_neg c4, if_neg c5, if_neg c6, if_neg c7, if_neg c8, if_neg c9, if_neg c10, if_pos c11, a1, a2, if_true]
                              exact go T' a3
                            · simp only [if_neg c0, if_neg c1, if_neg c2, if_neg c3, if_neg c4, if_neg c5, if_neg c6, if_neg c7, if_neg c8, if_neg c9, if_neg c10, if_neg c11]
                              exact go S hi
theorem pure_law : PureLaw := by
  intro X hX
  obtain ⟨S0, a1, a2⟩ := init_inv (xcl X)
  obtain ⟨S', a3⟩ := law_l hX 3000 S0 1 a2 (by decide) (by decide) (by have h11 : (1 : Int32).toInt = 1 := rfl; rw [h11]; omega)
  exact ⟨S0, S', 3001, a1, a3⟩
