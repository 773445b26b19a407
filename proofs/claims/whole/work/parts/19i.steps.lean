/-! The pure part (19i.steps): both halves answer alike -/
/-! the instructions, one by one -/
theorem ins_ops {b : Int32 → Int32} {p : Int32} (hc : 0 ≤ b p ∧ b p ≤ 18) (h8 : b p ≠ 8) (h : (ins b p).1 = -1) : ops b (-1) (p + 1) (opc (b p)) = -1 ∧ (ins b p).2 = p + 1 + ln (opc (b p)) := by
  unfold ins at *
  rw [if_pos hc, if_neg h8] at *
  exact ⟨h, rfl⟩
theorem ip2 {p : Int32} : p + 1 + 1 = p + 2 := by grind
theorem Out.of2 {A A' M C : Ab} {z : Option Nat × (Nat → Option Nat)} {S S' T T1 T' : St} {w : Nat} {r p q : Int32} (hR : Rn A S T w r p) (hH : Hd A C z T T1 w r p q) (hc : CR A' M S') (hm : MR A' C z T') (hw : WF A') (hre : RE A A') (e4 : A' 0 4 = A 0 4) (e0 : A' 0 0 = A 0 0) (hpl : Pl A r q) (s1 : S'.2 = S.2) (fs : ∀ c k, (c = 23 ∨ c = 25) → S'.1 c k = (ca S q).1 c k) (ft : ∀ c k, ((c = 29 ∧ (k = 7 ∨ k = 34)) ∨ c = 55 ∨ c = 56) → T'.1 c k = xa_u T1.1 56 w q c k) : Out M C z A w 0 A' S' T' := by
  refine Out.of hR hH hc hm hw hre e4 e0 hpl s1 (fun k h1 h2 => ?_) ?_ (fun i => ?_) (fun k hk => ?_) (fun i => ?_) (fun i => ?_)
  · rw [fs 23 k (Or.inl rfl)]; exact ca_c _ _ (by omega)
  · rw [fs 23 4 (Or.inl rfl)]; exact ca_p _ _
  · rw [fs 25 i (Or.inr rfl)]; exact ca_c _ _ (by omega)
  · rw [ft 29 k (Or.inl ⟨rfl, hk⟩), xa_c (by omega)]
  · rw [ft 55 i (Or.inr (Or.inl rfl)), xa_c (by omega)]
  · rw [ft 56 i (Or.inr (Or.inr rfl))]
section
variable {A M C : Ab} {z : Option Nat × (Nat → Option Nat)}
theorem st_1 (hw : WF A) {S T : St} {w : Nat} {r p : Int32} (hc : CR A M S) (hm : MR A C z T) (hR : Rn A S T w r p) (hww : T.1 29 7 = -1) (hne : p ≠ A 5 r.toNatClampNeg) (h : bt A r.toNatClampNeg p = 1) : ∃ v A' S' T', G_75 S = some (v, S') ∧ G_131 T = some (v, T') ∧ Out M C z A w v A' S' T' := by
  obtain ⟨h0, h1, h2, h3, h4, h5, h6⟩ := hR.pl.at hw hne
  obtain ⟨T1, g124, hH⟩ := M_hd hw hm hR hww hne
  have r0 : 0 ≤ r := by have := hR.pl.1; grind
  have r4 := hR.pl.2.1
  have hr := tn4 r0 r4
  have hb := hw.b0 hr
  have n6 := hb.n64
  have w3 := hR.w3
  have st := C_st hw hc hR h0 h1
  have wn : (Int32.ofNat w).toNatClampNeg = w := ni_tn (by omega)
  have p1 : 0 ≤ p + 1 := by grind
  have p2 : 0 ≤ p + 2 := by grind
  have a2 : p + 1 + 1 = p + 2 := by grind
  have a3 : p + 2 + 1 = p + 3 := by grind
  have a4 : p + 3 + 1 = p + 4 := by grind
  have a5 : p + 4 + 1 = p + 5 := by grind
  obtain ⟨o1, o2⟩ := ins_ops (by rw [h]; decide) (by rw [h]; decide) h2
  rw [h, show opc 1 = [118, 110] from rfl] at o1 o2
  rw [show p + 1 + ln [118, 110] = p + 3 from by rw [show ln [118, 110] = 2 from rfl]; grind] at o2
  obtain ⟨i1, o1⟩ := ops_in p1 o1
  rw [a2] at o1
  obtain ⟨i2, _⟩ := ops_in p2 o1
  have l1 : 0 ≤ bt A r.toNatClampNeg (p + 1) := Int32.le_trans (lo_ge _ _) i1.1
  have l2 : 0 ≤ bt A r.toNatClampNeg (p + 2) := Int32.le_trans (lo_ge _ _) i2.1
  have u1 : bt A r.toNatClampNeg (p + 1) ≤ 15 := i1.2
  have v1 : 0 ≤ bt A r.toNatClampNeg (p + 1) ∧ bt A r.toNatClampNeg (p + 1) < 16 := by grind
  have q1 := hb.lt l1
  have q2 := hb.lt l2
  rw [o2] at hH h5 g124
  have hM : G_131 T = some (0, (xa_u (xa_u T1.1 56 w (p + 3)) 40 (bt A r.toNatClampNeg (p + 1)).toNatClampNeg (bt A r.toNatClampNeg (p + 2)), T1.2)) := by
    unfold G_131
    rw [hR.un, pm1, if_pos (in4n w3), wn, hR.tl, hR.tp, M_118 hw hm r0 r4 h0]
    simp only [g124, M_118 hw hH.m r0 r4 p1, hH.un, pm1, if_pos (in4n w3), wn, hH.r34]
    rw [h, if_neg (by decide), if_neg (by decide), M_118 hw hH.m2 r0 r4 p2]
    unfold G_132
    simp only []
    rw [if_pos trivial, if_pos ((xin16 _).mpr v1)]
  have hS : G_75 S = some (0, (xa_u (ca S (p + 3)).1 9 (bt A r.toNatClampNeg (p + 1)).toNatClampNeg (bt A r.toNatClampNeg (p + 2)), (ca S (p + 3)).2)) := by
    unfold G_75
    rw [st]
    simp only [h]
    rw [if_neg (by decide), if_pos trivial]
    unfold G_77
    simp only [C_76 hw hc hr hR.lg p1 q1, a2, C_76 hw hc hr hR.lg p2 q2, a3, V_51, V_52, if_pos v1]
    simp []
  exact ⟨0, _, _, _, hS, hM, Out.of2 hR hH ((hc.ca (p + 3)).uval (n16 v1) _) (hH.m2.uval (n16 v1) _) hw.uval (RE.u _ (by unfold rsc; omega)) (xa_c (by omega)) (xa_c (by omega)) h5 rfl (fun c k hk => xa_c (by omega)) (fun c k hk => xa_c (by omega))⟩
theorem st_2 (hw : WF A) {S T : St} {w : Nat} {r p : Int32} (hc : CR A M S) (hm : MR A C z T) (hR : Rn A S T w r p) (hww : T.1 29 7 = -1) (hne : p ≠ A 5 r.toNatClampNeg) (h : bt A r.toNatClampNeg p = 2) : ∃ v A' S' T', G_75 S = some (v, S') ∧ G_131 T = some (v, T') ∧ Out M C z A w v A' S' T' := by
  obtain ⟨h0, h1, h2, h3, h4, h5, h6⟩ := hR.pl.at hw hne
  obtain ⟨T1, g124, hH⟩ := M_hd hw hm hR hww hne
  have r0 : 0 ≤ r := by have := hR.pl.1; grind
  have r4 := hR.pl.2.1
  have hr := tn4 r0 r4
  have hb := hw.b0 hr
  have n6 := hb.n64
  have w3 := hR.w3
  have st := C_st hw hc hR h0 h1
  have wn : (Int32.ofNat w).toNatClampNeg = w := ni_tn (by omega)
  have p1 : 0 ≤ p + 1 := by grind
  have p2 : 0 ≤ p + 2 := by grind
  have a2 : p + 1 + 1 = p + 2 := by grind
  have a3 : p + 2 + 1 = p + 3 := by grind
  have a4 : p + 3 + 1 = p + 4 := by grind
  have a5 : p + 4 + 1 = p + 5 := by grind
  obtain ⟨o1, o2⟩ := ins_ops (by rw [h]; decide) (by rw [h]; decide) h2
  rw [h, show opc 2 = [118, 110] from rfl] at o1 o2
  rw [show p + 1 + ln [118, 110] = p + 3 from by rw [show ln [118, 110] = 2 from rfl]; grind] at o2
  obtain ⟨i1, o1⟩ := ops_in p1 o1
  rw [a2] at o1
  obtain ⟨i2, _⟩ := ops_in p2 o1
  have l1 : 0 ≤ bt A r.toNatClampNeg (p + 1) := Int32.le_trans (lo_ge _ _) i1.1
  have l2 : 0 ≤ bt A r.toNatClampNeg (p + 2) := Int32.le_trans (lo_ge _ _) i2.1
  have u1 : bt A r.toNatClampNeg (p + 1) ≤ 15 := i1.2
  have v1 : 0 ≤ bt A r.toNatClampNeg (p + 1) ∧ bt A r.toNatClampNeg (p + 1) < 16 := by grind
  have q1 := hb.lt l1
  have q2 := hb.lt l2
  rw [o2] at hH h5 g124
  have hM : G_131 T = some (0, (xa_u (xa_u T1.1 56 w (p + 3)) 40 (bt A r.toNatClampNeg (p + 1)).toNatClampNeg ((A 3 (bt A r.toNatClampNeg (p + 1)).toNatClampNeg + bt A r.toNatClampNeg (p + 2)) - (A 3 (bt A r.toNatClampNeg (p + 1)).toNatClampNeg + bt A r.toNatClampNeg (p + 2)) / 256 * 256), T1.2)) := by
    unfold G_131
    rw [hR.un, pm1, if_pos (in4n w3), wn, hR.tl, hR.tp, M_118 hw hm r0 r4 h0]
    simp only [g124, M_118 hw hH.m r0 r4 p1, hH.un, pm1, if_pos (in4n w3), wn, hH.r34]
    rw [h, if_neg (by decide), if_neg (by decide), M_118 hw hH.m2 r0 r4 p2]
    unfold G_132
    simp only []
    have e := hH.m2.val _ (n16 v1)
    rw [if_neg (by decide), if_pos trivial, if_pos ((xin16 _).mpr v1)]
    simp only [] at e ⊢
    rw [e]
  have hS : G_75 S = some (0, (xa_u (ca S (p + 3)).1 9 (bt A r.toNatClampNeg (p + 1)).toNatClampNeg ((A 3 (bt A r.toNatClampNeg (p + 1)).toNatClampNeg + bt A r.toNatClampNeg (p + 2)) - (A 3 (bt A r.toNatClampNeg (p + 1)).toNatClampNeg + bt A r.toNatClampNeg (p + 2)) / 256 * 256), (ca S (p + 3)).2)) := by
    unfold G_75
    rw [st]
    simp only [h]
    rw [if_neg (by decide), if_neg (by decide), if_pos trivial]
    unfold G_77
    simp only [C_76 hw hc hr hR.lg p1 q1, a2, C_76 hw hc hr hR.lg p2 q2, a3, V_51, V_52, if_pos v1]
    simp [(hc.ca (p + 3)).val _ (n16 v1)]
  exact ⟨0, _, _, _, hS, hM, Out.of2 hR hH ((hc.ca (p + 3)).uval (n16 v1) _) (hH.m2.uval (n16 v1) _) hw.uval (RE.u _ (by unfold rsc; omega)) (xa_c (by omega)) (xa_c (by omega)) h5 rfl (fun c k hk => xa_c (by omega)) (fun c k hk => xa_c (by omega))⟩
theorem st_3 (hw : WF A) {S T : St} {w : Nat} {r p : Int32} (hc : CR A M S) (hm : MR A C z T) (hR : Rn A S T w r p) (hww : T.1 29 7 = -1) (hne : p ≠ A 5 r.toNatClampNeg) (h : bt A r.toNatClampNeg p = 3) : ∃ v A' S' T', G_75 S = some (v, S') ∧ G_131 T = some (v, T') ∧ Out M C z A w v A' S' T' := by
  obtain ⟨h0, h1, h2, h3, h4, h5, h6⟩ := hR.pl.at hw hne
  obtain ⟨T1, g124, hH⟩ := M_hd hw hm hR hww hne
  have r0 : 0 ≤ r := by have := hR.pl.1; grind
  have r4 := hR.pl.2.1
  have hr := tn4 r0 r4
  have hb := hw.b0 hr
  have n6 := hb.n64
  have w3 := hR.w3
  have st := C_st hw hc hR h0 h1
  have wn : (Int32.ofNat w).toNatClampNeg = w := ni_tn (by omega)
  have p1 : 0 ≤ p + 1 := by grind
  have p2 : 0 ≤ p + 2 := by grind
  have a2 : p + 1 + 1 = p + 2 := by grind
  have a3 : p + 2 + 1 = p + 3 := by grind
  have a4 : p + 3 + 1 = p + 4 := by grind
  have a5 : p + 4 + 1 = p + 5 := by grind
  obtain ⟨o1, o2⟩ := ins_ops (by rw [h]; decide) (by rw [h]; decide) h2
  rw [h, show opc 3 = [118, 118] from rfl] at o1 o2
  rw [show p + 1 + ln [118, 118] = p + 3 from by rw [show ln [118, 118] = 2 from rfl]; grind] at o2
  obtain ⟨i1, o1⟩ := ops_in p1 o1
  rw [a2] at o1
  obtain ⟨i2, _⟩ := ops_in p2 o1
  have l1 : 0 ≤ bt A r.toNatClampNeg (p + 1) := Int32.le_trans (lo_ge _ _) i1.1
  have l2 : 0 ≤ bt A r.toNatClampNeg (p + 2) := Int32.le_trans (lo_ge _ _) i2.1
  have u1 : bt A r.toNatClampNeg (p + 1) ≤ 15 := i1.2
  have v1 : 0 ≤ bt A r.toNatClampNeg (p + 1) ∧ bt A r.toNatClampNeg (p + 1) < 16 := by grind
  have u2 : bt A r.toNatClampNeg (p + 2) ≤ 15 := i2.2
  have v2 : 0 ≤ bt A r.toNatClampNeg (p + 2) ∧ bt A r.toNatClampNeg (p + 2) < 16 := by grind
  have q1 := hb.lt l1
  have q2 := hb.lt l2
  rw [o2] at hH h5 g124
  have hM : G_131 T = some (0, (xa_u (xa_u T1.1 56 w (p + 3)) 40 (bt A r.toNatClampNeg (p + 1)).toNatClampNeg (A 3 (bt A r.toNatClampNeg (p + 2)).toNatClampNeg), T1.2)) := by
    unfold G_131
    rw [hR.un, pm1, if_pos (in4n w3), wn, hR.tl, hR.tp, M_118 hw hm r0 r4 h0]
    simp only [g124, M_118 hw hH.m r0 r4 p1, hH.un, pm1, if_pos (in4n w3), wn, hH.r34]
    rw [h, if_neg (by decide), if_neg (by decide), M_118 hw hH.m2 r0 r4 p2]
    unfold G_132
    simp only []
    have e := hH.m2.val _ (n16 v2)
    rw [if_neg (by decide), if_neg (by decide), if_pos trivial, if_pos ((xin16 _).mpr v2), if_pos ((xin16 _).mpr v1)]
    simp only [] at e ⊢
    rw [e]
  have hS : G_75 S = some (0, (xa_u (ca S (p + 3)).1 9 (bt A r.toNatClampNeg (p + 1)).toNatClampNeg (A 3 (bt A r.toNatClampNeg (p + 2)).toNatClampNeg), (ca S (p + 3)).2)) := by
    unfold G_75
    rw [st]
    simp only [h]
    rw [if_neg (by decide), if_neg (by decide), if_neg (by decide), if_pos trivial]
    unfold G_77
    simp only [C_76 hw hc hr hR.lg p1 q1, a2, C_76 hw hc hr hR.lg p2 q2, a3, V_51, V_52, if_pos v1, if_pos v2]
    simp [(hc.ca (p + 3)).val _ (n16 v2)]
  exact ⟨0, _, _, _, hS, hM, Out.of2 hR hH ((hc.ca (p + 3)).uval (n16 v1) _) (hH.m2.uval (n16 v1) _) hw.uval (RE.u _ (by unfold rsc; omega)) (xa_c (by omega)) (xa_c (by omega)) h5 rfl (fun c k hk => xa_c (by omega)) (fun c k hk => xa_c (by omega))⟩
theorem st_4 (hw : WF A) {S T : St} {w : Nat} {r p : Int32} (hc : CR A M S) (hm : MR A C z T) (hR : Rn A S T w r p) (hww : T.1 29 7 = -1) (hne : p ≠ A 5 r.toNatClampNeg) (h : bt A r.toNatClampNeg p = 4) : ∃ v A' S' T', G_75 S = some (v, S') ∧ G_131 T = some (v, T') ∧ Out M C z A w v A' S' T' := by
  obtain ⟨h0, h1, h2, h3, h4, h5, h6⟩ := hR.pl.at hw hne
  obtain ⟨T1, g124, hH⟩ := M_hd hw hm hR hww hne
  have r0 : 0 ≤ r := by have := hR.pl.1; grind
  have r4 := hR.pl.2.1
  have hr := tn4 r0 r4
  have hb := hw.b0 hr
  have n6 := hb.n64
  have w3 := hR.w3
  have st := C_st hw hc hR h0 h1
  have wn : (Int32.ofNat w).toNatClampNeg = w := ni_tn (by omega)
  have p1 : 0 ≤ p + 1 := by grind
  have p2 : 0 ≤ p + 2 := by grind
  have a2 : p + 1 + 1 = p + 2 := by grind
  have a3 : p + 2 + 1 = p + 3 := by grind
  have a4 : p + 3 + 1 = p + 4 := by grind
  have a5 : p + 4 + 1 = p + 5 := by grind
  obtain ⟨o1, o2⟩ := ins_ops (by rw [h]; decide) (by rw [h]; decide) h2
  rw [h, show opc 4 = [102] from rfl] at o1 o2
  rw [show p + 1 + ln [102] = p + 2 from by rw [show ln [102] = 1 from rfl]; grind] at o2
  obtain ⟨i1, o1⟩ := ops_in p1 o1
  have l1 : 0 ≤ bt A r.toNatClampNeg (p + 1) := Int32.le_trans (lo_ge _ _) i1.1
  have u1 : bt A r.toNatClampNeg (p + 1) ≤ 15 := i1.2
  have v1 : 0 ≤ bt A r.toNatClampNeg (p + 1) ∧ bt A r.toNatClampNeg (p + 1) < 16 := by grind
  have q1 := hb.lt l1
  rw [o2] at hH h5 g124
  have hM : G_131 T = some (0, (xa_u (xa_u T1.1 56 w (p + 2)) 41 (bt A r.toNatClampNeg (p + 1)).toNatClampNeg 1, T1.2)) := by
    unfold G_131
    rw [hR.un, pm1, if_pos (in4n w3), wn, hR.tl, hR.tp, M_118 hw hm r0 r4 h0]
    simp only [g124, M_118 hw hH.m r0 r4 p1, hH.un, pm1, if_pos (in4n w3), wn, hH.r34]
    rw [h, if_neg (by decide), if_neg (by decide), M_118 hw hH.m2 r0 r4 p2]
    unfold G_132
    simp only []
    rw [if_neg (by decide), if_neg (by decide), if_neg (by decide), if_pos trivial, if_pos ((xin16 _).mpr v1)]
  have hS : G_75 S = some (0, (xa_u (ca S (p + 2)).1 10 (bt A r.toNatClampNeg (p + 1)).toNatClampNeg 1, (ca S (p + 2)).2)) := by
    unfold G_75
    rw [st]
    simp only [h]
    rw [if_neg (by decide), if_neg (by decide), if_neg (by decide), if_neg (by decide), if_pos trivial]
    simp only [C_76 hw hc hr hR.lg p1 q1, a2, V_53 (by decide : (1 : Int32) = 0 ∨ (1 : Int32) = 1), if_pos v1]
  exact ⟨0, _, _, _, hS, hM, Out.of2 hR hH ((hc.ca (p + 2)).uflg (n16 v1) _) (hH.m2.uflg (n16 v1) _) (hw.uflg (by decide)) (RE.u _ (by unfold rsc; omega)) (xa_c (by omega)) (xa_c (by omega)) h5 rfl (fun c k hk => xa_c (by omega)) (fun c k hk => xa_c (by omega))⟩
theorem st_5 (hw : WF A) {S T : St} {w : Nat} {r p : Int32} (hc : CR A M S) (hm : MR A C z T) (hR : Rn A S T w r p) (hww : T.1 29 7 = -1) (hne : p ≠ A 5 r.toNatClampNeg) (h : bt A r.toNatClampNeg p = 5) : ∃ v A' S' T', G_75 S = some (v, S') ∧ G_131 T = some (v, T') ∧ Out M C z A w v A' S' T' := by
  obtain ⟨h0, h1, h2, h3, h4, h5, h6⟩ := hR.pl.at hw hne
  obtain ⟨T1, g124, hH⟩ := M_hd hw hm hR hww hne
  have r0 : 0 ≤ r := by have := hR.pl.1; grind
  have r4 := hR.pl.2.1
  have hr := tn4 r0 r4
  have hb := hw.b0 hr
  have n6 := hb.n64
  have w3 := hR.w3
  have st := C_st hw hc hR h0 h1
  have wn : (Int32.ofNat w).toNatClampNeg = w := ni_tn (by omega)
  have p1 : 0 ≤ p + 1 := by grind
  have p2 : 0 ≤ p + 2 := by grind
  have a2 : p + 1 + 1 = p + 2 := by grind
  have a3 : p + 2 + 1 = p + 3 := by grind
  have a4 : p + 3 + 1 = p + 4 := by grind
  have a5 : p + 4 + 1 = p + 5 := by grind
  obtain ⟨o1, o2⟩ := ins_ops (by rw [h]; decide) (by rw [h]; decide) h2
  rw [h, show opc 5 = [102] from rfl] at o1 o2
  rw [show p + 1 + ln [102] = p + 2 from by rw [show ln [102] = 1 from rfl]; grind] at o2
  obtain ⟨i1, o1⟩ := ops_in p1 o1
  have l1 : 0 ≤ bt A r.toNatClampNeg (p + 1) := Int32.le_trans (lo_ge _ _) i1.1
  have u1 : bt A r.toNatClampNeg (p + 1) ≤ 15 := i1.2
  have v1 : 0 ≤ bt A r.toNatClampNeg (p + 1) ∧ bt A r.toNatClampNeg (p + 1) < 16 := by grind
  have q1 := hb.lt l1
  rw [o2] at hH h5 g124
  have hM : G_131 T = some (0, (xa_u (xa_u T1.1 56 w (p + 2)) 41 (bt A r.toNatClampNeg (p + 1)).toNatClampNeg 0, T1.2)) := by
    unfold G_131
    rw [hR.un, pm1, if_pos (in4n w3), wn, hR.tl, hR.tp, M_118 hw hm r0 r4 h0]
    simp only [g124, M_118 hw hH.m r0 r4 p1, hH.un, pm1, if_pos (in4n w3), wn, hH.r34]
    rw [h, if_neg (by decide), if_neg (by decide), M_118 hw hH.m2 r0 r4 p2]
    unfold G_132
    simp only []
    rw [if_neg (by decide), if_neg (by decide), if_neg (by decide), if_neg (by decide), if_pos ((xin16 _).mpr v1)]
  have hS : G_75 S = some (0, (xa_u (ca S (p + 2)).1 10 (bt A r.toNatClampNeg (p + 1)).toNatClampNeg 0, (ca S (p + 2)).2)) := by
    unfold G_75
    rw [st]
    simp only [h]
    rw [if_neg (by decide), if_neg (by decide), if_neg (by decide), if_neg (by decide), if_neg (by decide), if_pos trivial]
    simp only [C_76 hw hc hr hR.lg p1 q1, a2, V_53 (by decide : (0 : Int32) = 0 ∨ (0 : Int32) = 1), if_pos v1]
  exact ⟨0, _, _, _, hS, hM, Out.of2 hR hH ((hc.ca (p + 2)).uflg (n16 v1) _) (hH.m2.uflg (n16 v1) _) (hw.uflg (by decide)) (RE.u _ (by unfold rsc; omega)) (xa_c (by omega)) (xa_c (by omega)) h5 rfl (fun c k hk => xa_c (by omega)) (fun c k hk => xa_c (by omega))⟩
end
theorem va_if {α : Type} {f : Nat → α} {a : Nat} {v : α} (i : Nat) : va_up f a v i = if i = a then v else f i := rfl
section
variable {A M C : Ab} {z : Option Nat × (Nat → Option Nat)}
theorem Hd.q {T T1 : St} {w : Nat} {r p q : Int32} (h : Hd A C z T T1 w r p q) (q' : Int32) : Hd A C z T T1 w r p q' :=
  ⟨h.pf, h.m, h.w7, h.un, h.m.up (c := 56) (k := w) (by unfold mpv; omega) _, by rw [xa_c (by omega)]; exact h.un⟩
theorem st_0 (hw : WF A) {S T : St} {w : Nat} {r p : Int32} (hc : CR A M S) (hm : MR A C z T) (hR : Rn A S T w r p) (hww : T.1 29 7 = -1) (hne : p ≠ A 5 r.toNatClampNeg) (h : bt A r.toNatClampNeg p = 0) : ∃ v A' S' T', G_75 S = some (v, S') ∧ G_131 T = some (v, T') ∧ Out M C z A w v A' S' T' := by
  obtain ⟨h0, h1, h2, h3, h4, h5, h6⟩ := hR.pl.at hw hne
  obtain ⟨T1, g124, hH⟩ := M_hd hw hm hR hww hne
  have r0 : 0 ≤ r := by have := hR.pl.1; grind
  have r4 := hR.pl.2.1
  have hr := tn4 r0 r4
  have hb := hw.b0 hr
  have n6 := hb.n64
  have w3 := hR.w3
  have st := C_st hw hc hR h0 h1
  have wn : (Int32.ofNat w).toNatClampNeg = w := ni_tn (by omega)
  have p1 : 0 ≤ p + 1 := by grind
  have p2 : 0 ≤ p + 2 := by grind
  have a2 : p + 1 + 1 = p + 2 := by grind
  have a3 : p + 2 + 1 = p + 3 := by grind
  have a4 : p + 3 + 1 = p + 4 := by grind
  have a5 : p + 4 + 1 = p + 5 := by grind
  have hM : G_131 T = some (0, (xa_u (xa_u T1.1 56 w (ins (bt A r.toNatClampNeg) p).2) 29 34 (Int32.ofNat w), T1.2)) := by
    unfold G_131
    rw [hR.un, pm1, if_pos (in4n w3), wn, hR.tl, hR.tp, M_118 hw hm r0 r4 h0]
    simp only [g124, M_118 hw hH.m r0 r4 p1, hH.un, pm1, if_pos (in4n w3), wn, hH.r34]
    rw [h, if_pos rfl]
  have x34 : xa_u (xa_u T1.1 56 w (ins (bt A r.toNatClampNeg) p).2) 29 34 (Int32.ofNat w) 29 34 = Int32.ofNat w := xa_e
  have xo : ∀ c k, ¬ (c = 29 ∧ k = 34) → ¬ (c = 56 ∧ k = w) → xa_u (xa_u T1.1 56 w (ins (bt A r.toNatClampNeg) p).2) 29 34 (Int32.ofNat w) c k = T1.1 c k := fun c k a b => by rw [xa_c a, xa_c b]
  have hm' : MR A C z (xa_u (xa_u T1.1 56 w (ins (bt A r.toNatClampNeg) p).2) 29 34 (Int32.ofNat w), T1.2) := hH.m2.up (c := 29) (k := 34) (by unfold mpv; omega) _
  have c2 : (ca S (p + 1)).1 23 2 = Int32.ofNat w := by rw [ca_c _ _ (by omega)]; exact hR.wt
  have hS0 : G_75 S = (match G_74 (ca S (p + 1)) with
      | none => none
      | some (v3, S3) => some (0, S3)) := by
    unfold G_75
    rw [st]
    simp only [h, if_true]
    try rfl
  by_cases w0 : w = 0
  · subst w0
    have hS : G_75 S = some (0, (xa_u (ca S (p + 1)).1 23 5 1, (ca S (p + 1)).2)) := by
      rw [hS0]
      unfold G_74
      rw [c2, if_neg (by decide)]
    refine ⟨0, A, _, _, hS, hM, (hc.ca (p + 1)).up (c := 23) (k := 5) (by unfold cpv; omega) 1, hm', hw, ?_, RE.refl A, rfl, rfl, fun _ => Or.inr ⟨?_, x34⟩⟩
    · show xa_u (xa_u T1.1 56 0 (ins (bt A r.toNatClampNeg) p).2) 29 34 (Int32.ofNat 0) 29 7 = -1
      rw [xo _ _ (by omega) (by omega)]; exact hH.w7
    · show xa_u (ca S (p + 1)).1 23 5 1 23 5 ≠ 0
      rw [xa_e]; decide
  · obtain ⟨w', rfl⟩ : ∃ w', w = w' + 1 := ⟨w - 1, by omega⟩
    obtain ⟨r', p', b1, b2, b3, b4, b5⟩ := hR.st w' (by omega)
    have hpos : 0 < Int32.ofNat (w' + 1) := by
      rw [Int32.lt_iff_toInt_lt, ni_i (by omega)]
      have h00 : (0 : Int32).toInt = 0 := rfl
      omega
    have e2 : xa_u (ca S (p + 1)).1 23 2 (Int32.ofNat w') 23 2 = Int32.ofNat w' := xa_e
    have e25 : xa_u (ca S (p + 1)).1 23 2 (Int32.ofNat w') 25 w' = p' := by rw [xa_c (by omega), ca_c _ _ (by omega)]; exact b3
    have hcl : (ca S (p + 1)).2.2 w' = some (15 + 2 * r'.toNatClampNeg) := b1
    have hS : G_75 S = some (0, (xa_u (xa_u (ca S (p + 1)).1 23 2 (Int32.ofNat w')) 23 4 p', some (15 + 2 * r'.toNatClampNeg), S.2.2)) := by
      rw [hS0]
      unfold G_74
      rw [c2, if_pos hpos, pm1, e2, if_pos (in4n (by omega)), ni_tn (by omega), hcl]
      simp only [e25]
      try rfl
    refine ⟨0, A, _, _, hS, hM, (((hc.ca (p + 1)).up (c := 23) (k := 2) (by unfold cpv; omega) (Int32.ofNat w')).up (c := 23) (k := 4) (by unfold cpv; omega) p').uz _, hm', hw, ?_, RE.refl A, rfl, rfl, fun _ => Or.inl ⟨w', r', p', ?_, by omega⟩⟩
    · show xa_u (xa_u T1.1 56 (w' + 1) (ins (bt A r.toNatClampNeg) p).2) 29 34 (Int32.ofNat (w' + 1)) 29 7 = -1
      rw [xo _ _ (by omega) (by omega)]; exact hH.w7
    · have xs : ∀ c k, ¬ (c = 23 ∧ (k = 2 ∨ k = 4)) → xa_u (xa_u (ca S (p + 1)).1 23 2 (Int32.ofNat w')) 23 4 p' c k = S.1 c k := fun c k a => by rw [xa_c (by omega), xa_c (by omega)]; exact ca_c _ _ (by omega)
      refine ⟨by omega, ?_, ?_, x34, rfl, ?_, ?_, ?_, b5, fun i hi => ?_⟩
      · show xa_u (xa_u (ca S (p + 1)).1 23 2 (Int32.ofNat w')) 23 4 p' 23 2 = _
        rw [xa_c (by omega)]; exact e2
      · show xa_u (xa_u (ca S (p + 1)).1 23 2 (Int32.ofNat w')) 23 4 p' 23 5 = _
        rw [xs _ _ (by omega)]; exact hR.dn
      · show xa_u (xa_u (ca S (p + 1)).1 23 2 (Int32.ofNat w')) 23 4 p' 23 4 = _
        exact xa_e
      · show xa_u (xa_u T1.1 56 (w' + 1) (ins (bt A r.toNatClampNeg) p).2) 29 34 (Int32.ofNat (w' + 1)) 55 w' = _
        rw [xo _ _ (by omega) (by omega), hH.pf.1 55 w' (by omega) (by omega) (by omega) (by omega)]; exact b2
      · show xa_u (xa_u T1.1 56 (w' + 1) (ins (bt A r.toNatClampNeg) p).2) 29 34 (Int32.ofNat (w' + 1)) 56 w' = _
        rw [xo _ _ (by omega) (by omega), hH.pf.1 56 w' (by omega) (by omega) (by omega) (by omega)]; exact b4
      · obtain ⟨r2, p2, d1, d2, d3, d4, d5⟩ := hR.st i (by omega)
        refine ⟨r2, p2, d1, ?_, ?_, ?_, d5⟩
        · show xa_u (xa_u T1.1 56 (w' + 1) (ins (bt A r.toNatClampNeg) p).2) 29 34 (Int32.ofNat (w' + 1)) 55 i = _
          rw [xo _ _ (by omega) (by omega), hH.pf.1 55 i (by omega) (by omega) (by omega) (by omega)]; exact d2
        · show xa_u (xa_u (ca S (p + 1)).1 23 2 (Int32.ofNat w')) 23 4 p' 25 i = _
          rw [xs _ _ (by omega)]; exact d3
        · show xa_u (xa_u T1.1 56 (w' + 1) (ins (bt A r.toNatClampNeg) p).2) 29 34 (Int32.ofNat (w' + 1)) 56 i = _
          rw [xo _ _ (by omega) (by omega), hH.pf.1 56 i (by omega) (by omega) (by omega) (by omega)]; exact d4
theorem st_7 (hw : WF A) {S T : St} {w : Nat} {r p : Int32} (hc : CR A M S) (hm : MR A C z T) (hR : Rn A S T w r p) (hww : T.1 29 7 = -1) (hne : p ≠ A 5 r.toNatClampNeg) (h : bt A r.toNatClampNeg p = 7) : ∃ v A' S' T', G_75 S = some (v, S') ∧ G_131 T = some (v, T') ∧ Out M C z A w v A' S' T' := by
  obtain ⟨h0, h1, h2, h3, h4, h5, h6⟩ := hR.pl.at hw hne
  obtain ⟨T1, g124, hH⟩ := M_hd hw hm hR hww hne
  have r0 : 0 ≤ r := by have := hR.pl.1; grind
  have r4 := hR.pl.2.1
  have hr := tn4 r0 r4
  have hb := hw.b0 hr
  have n6 := hb.n64
  have w3 := hR.w3
  have st := C_st hw hc hR h0 h1
  have wn : (Int32.ofNat w).toNatClampNeg = w := ni_tn (by omega)
  have p1 : 0 ≤ p + 1 := by grind
  have p2 : 0 ≤ p + 2 := by grind
  have a2 : p + 1 + 1 = p + 2 := by grind
  have a3 : p + 2 + 1 = p + 3 := by grind
  have a4 : p + 3 + 1 = p + 4 := by grind
  have a5 : p + 4 + 1 = p + 5 := by grind
  obtain ⟨o1, o2⟩ := ins_ops (by rw [h]; decide) (by rw [h]; decide) h2
  rw [h, show opc 7 = [110] from rfl] at o1 o2
  rw [show p + 1 + ln [110] = p + 2 from by rw [show ln [110] = 1 from rfl]; grind] at o2
  obtain ⟨i1, o1⟩ := ops_in p1 o1
  have l1 : 0 ≤ bt A r.toNatClampNeg (p + 1) := Int32.le_trans (lo_ge _ _) i1.1
  have q1 := hb.lt l1
  have h6 := h6 (Or.inl h)
  rw [o2] at hH h5 g124 h6
  have s1 : p + 2 - 1 = p + 1 := by grind
  have hj : jmp (bt A r.toNatClampNeg) p (p + 2) = p + 2 + (if bt A r.toNatClampNeg (p + 1) ≤ 127 then bt A r.toNatClampNeg (p + 1) else bt A r.toNatClampNeg (p + 1) - 256) := by
    unfold jmp; rw [if_pos h, s1]; split <;> rfl
  have hM : G_131 T = some (0, (xa_u T1.1 56 w (jmp (bt A r.toNatClampNeg) p (p + 2)), T1.2)) := by
    unfold G_131
    rw [hR.un, pm1, if_pos (in4n w3), wn, hR.tl, hR.tp, M_118 hw hm r0 r4 h0]
    simp only [g124, M_118 hw hH.m r0 r4 p1, hH.un, pm1, if_pos (in4n w3), wn, hH.r34]
    rw [if_neg (by rw [h]; decide), if_pos (by rw [h]; decide), if_neg (by rw [h]; decide), if_pos h, M_128 hw r0 r4 hH.m2 h0 (show 1 ≤ p + 2 by grind), if_pos (Or.inl h)]
    simp only [xa_uu]
  have hS : G_75 S = some (0, ca S (jmp (bt A r.toNatClampNeg) p (p + 2))) := by
    unfold G_75
    rw [st]
    simp only [h]
    rw [if_neg (by decide), if_neg (by decide), if_neg (by decide), if_neg (by decide), if_neg (by decide), if_neg (by decide), if_neg (by decide), if_pos trivial]
    unfold G_79
    simp only [C_76 hw hc hr hR.lg p1 q1, a2, e10, if_false, if_true, V_71, ca_p, ca_u]
    rw [hj]
  exact ⟨0, A, _, _, hS, hM, Out.of2 hR (hH.q _) (hc.ca _) (hH.q _).m2 hw (RE.refl A) rfl rfl h6 rfl (fun c k hk => rfl) (fun c k hk => rfl)⟩
theorem st_18 (hw : WF A) {S T : St} {w : Nat} {r p : Int32} (hc : CR A M S) (hm : MR A C z T) (hR : Rn A S T w r p) (hww : T.1 29 7 = -1) (hne : p ≠ A 5 r.toNatClampNeg) (h : bt A r.toNatClampNeg p = 18) : ∃ v A' S' T', G_75 S = some (v, S') ∧ G_131 T = some (v, T') ∧ Out M C z A w v A' S' T' := by
  obtain ⟨h0, h1, h2, h3, h4, h5, h6⟩ := hR.pl.at hw hne
  obtain ⟨T1, g124, hH⟩ := M_hd hw hm hR hww hne
  have r0 : 0 ≤ r := by have := hR.pl.1; grind
  have r4 := hR.pl.2.1
  have hr := tn4 r0 r4
  have hb := hw.b0 hr
  have n6 := hb.n64
  have w3 := hR.w3
  have st := C_st hw hc hR h0 h1
  have wn : (Int32.ofNat w).toNatClampNeg = w := ni_tn (by omega)
  have p1 : 0 ≤ p + 1 := by grind
  have p2 : 0 ≤ p + 2 := by grind
  have a2 : p + 1 + 1 = p + 2 := by grind
  have a3 : p + 2 + 1 = p + 3 := by grind
  have a4 : p + 3 + 1 = p + 4 := by grind
  have a5 : p + 4 + 1 = p + 5 := by grind
  obtain ⟨o1, o2⟩ := ins_ops (by rw [h]; decide) (by rw [h]; decide) h2
  rw [h, show opc 18 = [] from rfl] at o1 o2
  rw [show p + 1 + ln [] = p + 1 from by rw [ln_n]; grind] at o2
  rw [o2] at hH h5 g124
  have t7 : xa_u T1.1 56 w (p + 1) 29 7 = -1 := by rw [xa_c (by omega)]; exact hH.w7
  obtain ⟨A', S', T', b1, b2, b3, b4, b5, b6, b7, b8⟩ := show_b hw (hc.ca (p + 1)) hH.m2 t7
  have hM : G_131 T = some (0, T') := by
    unfold G_131
    rw [hR.un, pm1, if_pos (in4n w3), wn, hR.tl, hR.tp, M_118 hw hm r0 r4 h0]
    simp only [g124, M_118 hw hH.m r0 r4 p1, hH.un, pm1, if_pos (in4n w3), wn, hH.r34]
    rw [if_neg (by rw [h]; decide), if_pos (by rw [h]; decide), if_neg (by rw [h]; decide), if_neg (by rw [h]; decide), if_neg (by rw [h]; decide), if_pos h, b2]
  have hS : G_75 S = some (0, S') := by
    unfold G_75
    rw [st]
    simp only [h]
    rw [if_neg (by decide), if_neg (by decide), if_neg (by decide), if_neg (by decide), if_neg (by decide), if_neg (by decide), if_neg (by decide), if_neg (by decide), if_neg (by decide), if_pos trivial, V_50]
    simp only [if_pos (show (0 : Int32) ≤ 0 ∧ (0 : Int32) < 4 by decide), show (0 : Int32).toNatClampNeg = 0 from rfl, Nat.mul_zero, Nat.add_zero, b1]
  have e04 : A' 0 4 = A 0 4 := by
    rw [← b3.stp, b7.1 23 6 (by omega), ca_c _ _ (by omega), hc.stp]
  have e00 : A' 0 0 = A 0 0 := by
    rw [← b4.lim, b8.2.1 0 (by omega) (by omega)]
    exact hH.m2.lim
  exact ⟨0, A', S', T', hS, hM, Out.of2 hR hH b3 b4 b5 b6 e04 e00 h5 b7.2 (fun c k hk => b7.1 c k (by omega)) (fun c k hk => by
    rcases hk with ⟨rfl, hk⟩ | hk | hk
    · exact b8.2.1 k (by omega) (by omega)
    · exact b8.1 c k (by omega)
    · exact b8.1 c k (by omega))⟩
theorem st_6 (hw : WF A) {S T : St} {w : Nat} {r p : Int32} (hc : CR A M S) (hm : MR A C z T) (hR : Rn A S T w r p) (hww : T.1 29 7 = -1) (hne : p ≠ A 5 r.toNatClampNeg) (h : bt A r.toNatClampNeg p = 6) : ∃ v A' S' T', G_75 S = some (v, S') ∧ G_131 T = some (v, T') ∧ Out M C z A w v A' S' T' := by
  obtain ⟨h0, h1, h2, h3, h4, h5, h6⟩ := hR.pl.at hw hne
  obtain ⟨T1, g124, hH⟩ := M_hd hw hm hR hww hne
  have r0 : 0 ≤ r := by have := hR.pl.1; grind
  have r4 := hR.pl.2.1
  have hr := tn4 r0 r4
  have hb := hw.b0 hr
  have n6 := hb.n64
  have w3 := hR.w3
  have st := C_st hw hc hR h0 h1
  have wn : (Int32.ofNat w).toNatClampNeg = w := ni_tn (by omega)
  have p1 : 0 ≤ p + 1 := by grind
  have p2 : 0 ≤ p + 2 := by grind
  have a2 : p + 1 + 1 = p + 2 := by grind
  have a3 : p + 2 + 1 = p + 3 := by grind
  have a4 : p + 3 + 1 = p + 4 := by grind
  have a5 : p + 4 + 1 = p + 5 := by grind
  obtain ⟨o1, o2⟩ := ins_ops (by rw [h]; decide) (by rw [h]; decide) h2
  rw [h, show opc 6 = [107] from rfl] at o1 o2
  rw [show p + 1 + ln [107] = p + 2 from by rw [show ln [107] = 1 from rfl]; grind] at o2
  obtain ⟨i1, o1⟩ := ops_in p1 o1
  have l1 : 1 ≤ bt A r.toNatClampNeg (p + 1) := i1.1
  have u1 : bt A r.toNatClampNeg (p + 1) ≤ 3 := i1.2
  have v1 : 0 ≤ bt A r.toNatClampNeg (p + 1) ∧ bt A r.toNatClampNeg (p + 1) < 4 := by grind
  have q1 := hb.lt v1.1
  have hv := tn4 v1.1 v1.2
  rw [o2] at hH h5 g124
  have r35 : xa_u T1.1 56 w (p + 2) 35 (bt A r.toNatClampNeg (p + 1)).toNatClampNeg = A 6 (bt A r.toNatClampNeg (p + 1)).toNatClampNeg := hH.m2.lod _ hv
  have hS0 : G_75 S = (match G_78 (ca S (p + 2)) (15 + 2 * (bt A r.toNatClampNeg (p + 1)).toNatClampNeg) with
      | none => none
      | some (v20, S20) => some (v20, S20)) := by
    unfold G_75
    rw [st]
    simp only [h]
    rw [if_neg (by decide), if_neg (by decide), if_neg (by decide), if_neg (by decide), if_neg (by decide), if_neg (by decide), if_pos trivial]
    simp only [C_76 hw hc hr hR.lg p1 q1, a2, V_50, if_pos v1]
    try rfl
  have cl : (ca S (p + 2)).1 (15 + 2 * (bt A r.toNatClampNeg (p + 1)).toNatClampNeg) 2 = A 6 (bt A r.toNatClampNeg (p + 1)).toNatClampNeg := (hc.ca (p + 2)).lod _ hv
  have c2 : (ca S (p + 2)).1 23 2 = Int32.ofNat w := by rw [ca_c _ _ (by omega)]; exact hR.wt
  by_cases hl : A 6 (bt A r.toNatClampNeg (p + 1)).toNatClampNeg = 0
  · have hM : G_131 T = some (0, (xa_u T1.1 56 w (p + 2), T1.2)) := by
      unfold G_131
      rw [hR.un, pm1, if_pos (in4n w3), wn, hR.tl, hR.tp, M_118 hw hm r0 r4 h0]
      simp only [g124, M_118 hw hH.m r0 r4 p1, hH.un, pm1, if_pos (in4n w3), wn, hH.r34, r35]
      rw [h, if_neg (by decide), if_pos (by decide), if_pos rfl, if_pos ((xin4 _).mpr v1), if_pos hl, if_neg (by decide), if_neg (by decide), if_neg (by decide), if_pos (by decide)]
    have hS : G_75 S = some (0, ca S (p + 2)) := by
      rw [hS0]
      unfold G_78
      rw [if_pos (kd_res hv), cl, if_pos hl]
    exact ⟨0, A, _, _, hS, hM, Out.of2 hR hH (hc.ca _) hH.m2 hw (RE.refl A) rfl rfl h5 rfl (fun c k hk => rfl) (fun c k hk => rfl)⟩
  · by_cases w4 : w = 3
    · have hM : G_131 T = some (-3, (xa_u T1.1 56 w (p + 2), T1.2)) := by
        unfold G_131
        rw [hR.un, pm1, if_pos (in4n w3), wn, hR.tl, hR.tp, M_118 hw hm r0 r4 h0]
        simp only [g124, M_118 hw hH.m r0 r4 p1, hH.un, pm1, if_pos (in4n w3), wn, hH.r34, r35]
        rw [h, if_neg (by decide), if_pos (by decide), if_pos rfl, if_pos ((xin4 _).mpr v1), if_neg hl, if_pos (by rw [w4]; rfl)]
      have hS : G_75 S = some (-3, ca S (p + 2)) := by
        rw [hS0]
        unfold G_78
        rw [if_pos (kd_res hv), cl, if_neg hl, c2, if_neg (by rw [w4]; decide)]
      refine ⟨-3, A, _, _, hS, hM, hc.ca _, hH.m2, hw, ?_, RE.refl A, rfl, rfl, fun h => by exfalso; revert h; decide⟩
      show xa_u T1.1 56 w (p + 2) 29 7 = -1
      rw [xa_c (by omega)]; exact hH.w7
    · have w2 : w ≤ 2 := by omega
      have wn1 : (Int32.ofNat (w + 1)).toNatClampNeg = w + 1 := ni_tn (by omega)
      have ne4 : ¬ (Int32.ofNat (w + 1) = 4) := by
        rcases (by omega : w = 0 ∨ w = 1 ∨ w = 2) with rfl | rfl | rfl <;> decide
      have lt4 : Int32.ofNat w + 1 < 4 := by
        rcases (by omega : w = 0 ∨ w = 1 ∨ w = 2) with rfl | rfl | rfl <;> decide
      have k1 : xa_u (xa_u T1.1 56 w (p + 2)) 55 (w + 1) (bt A r.toNatClampNeg (p + 1)) 29 34 = Int32.ofNat (w + 1) := by rw [xa_c (by omega)]; exact hH.r34
      have k2 : xa_u (xa_u (xa_u T1.1 56 w (p + 2)) 55 (w + 1) (bt A r.toNatClampNeg (p + 1))) 56 (w + 1) 0 29 34 = Int32.ofNat (w + 1) := by rw [xa_c (by omega)]; exact k1
      have hM : G_131 T = some (0, (xa_u (xa_u (xa_u (xa_u T1.1 56 w (p + 2)) 55 (w + 1) (bt A r.toNatClampNeg (p + 1))) 56 (w + 1) 0) 29 34 (Int32.ofNat (w + 1 + 1)), T1.2)) := by
        unfold G_131
        rw [hR.un, pm1, if_pos (in4n w3), wn, hR.tl, hR.tp, M_118 hw hm r0 r4 h0]
        simp only [g124, M_118 hw hH.m r0 r4 p1, hH.un, pm1, if_pos (in4n w3), wn, hH.r34, r35]
        rw [h, if_neg (by decide), if_pos (by decide), if_pos rfl, if_pos ((xin4 _).mpr v1), if_neg hl, if_neg ne4, if_pos (in4n (show w + 1 ≤ 3 by omega))]
        simp only [wn1, k1, if_pos (in4n (show w + 1 ≤ 3 by omega)), k2, nj_s]
      have e25 : xa_u (ca S (p + 2)).1 25 w (p + 2) 23 2 = Int32.ofNat w := by rw [xa_c (by omega)]; exact c2
      have hS : G_75 S = some (0, (xa_u (xa_u (xa_u (ca S (p + 2)).1 25 w (p + 2)) 23 2 (Int32.ofNat (w + 1))) 23 4 0, some (15 + 2 * (bt A r.toNatClampNeg (p + 1)).toNatClampNeg), va_up S.2.2 w (some (15 + 2 * r.toNatClampNeg)))) := by
        rw [hS0]
        unfold G_78
        have hl1 : (ca S (p + 2)).2.1 = some (15 + 2 * r.toNatClampNeg) := hR.lg
        rw [if_pos (kd_res hv), cl, if_neg hl, c2, if_pos lt4, hl1]
        simp only []
        rw [if_pos ⟨in4n w3, kd_res hr⟩, if_pos (in4n w3), wn, ca_p, e25, nj_s]
        try rfl
      refine ⟨0, A, _, _, hS, hM, ((((hc.ca (p + 2)).up (c := 25) (k := w) (by unfold cpv; omega) (p + 2)).up (c := 23) (k := 2) (by unfold cpv; omega) (Int32.ofNat (w + 1))).up (c := 23) (k := 4) (by unfold cpv; omega) 0).uz _, ((hH.m2.up (c := 55) (k := w + 1) (by unfold mpv; omega) _).up (c := 56) (k := w + 1) (by unfold mpv; omega) _).up (c := 29) (k := 34) (by unfold mpv; omega) _, hw, ?_, RE.refl A, rfl, rfl, fun _ => Or.inl ⟨w + 1, bt A r.toNatClampNeg (p + 1), 0, ?_, by omega⟩⟩
      · show xa_u (xa_u (xa_u (xa_u T1.1 56 w (p + 2)) 55 (w + 1) (bt A r.toNatClampNeg (p + 1))) 56 (w + 1) 0) 29 34 (Int32.ofNat (w + 1 + 1)) 29 7 = -1
        rw [xa_c (by omega), xa_c (by omega), xa_c (by omega), xa_c (by omega)]; exact hH.w7
      · refine ⟨by omega, ?_, ?_, ?_, rfl, ?_, ?_, ?_, Pl.start hw l1 v1.2 hl, fun i hi => ?_⟩
        · show xa_u (xa_u (xa_u (ca S (p + 2)).1 25 w (p + 2)) 23 2 (Int32.ofNat (w + 1))) 23 4 0 23 2 = _
          rw [xa_c (by omega), xa_e]
        · show xa_u (xa_u (xa_u (ca S (p + 2)).1 25 w (p + 2)) 23 2 (Int32.ofNat (w + 1))) 23 4 0 23 5 = _
          rw [xa_c (by omega), xa_c (by omega), xa_c (by omega), ca_c _ _ (by omega)]; exact hR.dn
        · show xa_u (xa_u (xa_u (xa_u T1.1 56 w (p + 2)) 55 (w + 1) (bt A r.toNatClampNeg (p + 1))) 56 (w + 1) 0) 29 34 (Int32.ofNat (w + 1 + 1)) 29 34 = _
          exact xa_e
        · show xa_u (xa_u (xa_u (ca S (p + 2)).1 25 w (p + 2)) 23 2 (Int32.ofNat (w + 1))) 23 4 0 23 4 = _
          exact xa_e
        · show xa_u (xa_u (xa_u (xa_u T1.1 56 w (p + 2)) 55 (w + 1) (bt A r.toNatClampNeg (p + 1))) 56 (w + 1) 0) 29 34 (Int32.ofNat (w + 1 + 1)) 55 (w + 1) = _
          rw [xa_c (by omega), xa_c (by omega), xa_e]
        · show xa_u (xa_u (xa_u (xa_u T1.1 56 w (p + 2)) 55 (w + 1) (bt A r.toNatClampNeg (p + 1))) 56 (w + 1) 0) 29 34 (Int32.ofNat (w + 1 + 1)) 56 (w + 1) = _
          rw [xa_c (by omega), xa_e]
        · have xo : ∀ c k, (c = 55 ∨ c = 56) → k < w → xa_u (xa_u (xa_u (xa_u T1.1 56 w (p + 2)) 55 (w + 1) (bt A r.toNatClampNeg (p + 1))) 56 (w + 1) 0) 29 34 (Int32.ofNat (w + 1 + 1)) c k = T.1 c k := fun c k hc hk => by
            rw [xa_c (by omega), xa_c (by omega), xa_c (by omega), xa_c (by omega)]; exact hH.pf.1 c k (by omega) (by omega) (by omega) (by omega)
          have x25 : ∀ k, xa_u (xa_u (xa_u (ca S (p + 2)).1 25 w (p + 2)) 23 2 (Int32.ofNat (w + 1))) 23 4 0 25 k = if k = w then p + 2 else S.1 25 k := fun k => by
            rw [xa_c (by omega), xa_c (by omega), xa_if]
            by_cases e : k = w
            · rw [if_pos ⟨rfl, e⟩, if_pos e]
            · rw [if_neg (fun h => e h.2), if_neg e]; exact ca_c _ _ (by omega)
          by_cases e : i = w
          · subst e
            refine ⟨r, p + 2, ?_, ?_, ?_, ?_, h5⟩
            · show va_up S.2.2 i (some (15 + 2 * r.toNatClampNeg)) i = _
              rw [va_if, if_pos rfl]
            · show xa_u (xa_u (xa_u (xa_u T1.1 56 i (p + 2)) 55 (i + 1) (bt A r.toNatClampNeg (p + 1))) 56 (i + 1) 0) 29 34 (Int32.ofNat (i + 1 + 1)) 55 i = _
              rw [xa_c (by omega), xa_c (by omega), xa_c (by omega), xa_c (by omega), hH.pf.1 55 i (by omega) (by omega) (by omega) (by omega)]; exact hR.tl
            · show xa_u (xa_u (xa_u (ca S (p + 2)).1 25 i (p + 2)) 23 2 (Int32.ofNat (i + 1))) 23 4 0 25 i = _
              rw [x25, if_pos rfl]
            · show xa_u (xa_u (xa_u (xa_u T1.1 56 i (p + 2)) 55 (i + 1) (bt A r.toNatClampNeg (p + 1))) 56 (i + 1) 0) 29 34 (Int32.ofNat (i + 1 + 1)) 56 i = _
              rw [xa_c (by omega), xa_c (by omega), xa_c (by omega), xa_e]
          · obtain ⟨r2, p2', d1, d2, d3, d4, d5⟩ := hR.st i (by omega)
            refine ⟨r2, p2', ?_, ?_, ?_, ?_, d5⟩
            · show va_up S.2.2 w (some (15 + 2 * r.toNatClampNeg)) i = _
              rw [va_if, if_neg e]; exact d1
            · exact (xo 55 i (Or.inl rfl) (by omega)).trans d2
            · exact (x25 i).trans (by rw [if_neg e]; exact d3)
            · exact (xo 56 i (Or.inr rfl) (by omega)).trans d4
theorem st_8 (hw : WF A) {S T : St} {w : Nat} {r p : Int32} (hc : CR A M S) (hm : MR A C z T) (hR : Rn A S T w r p) (hww : T.1 29 7 = -1) (hne : p ≠ A 5 r.toNatClampNeg) (h : bt A r.toNatClampNeg p = 8) : ∃ v A' S' T', G_75 S = some (v, S') ∧ G_131 T = some (v, T') ∧ Out M C z A w v A' S' T' := by
  obtain ⟨h0, h1, h2, h3, h4, h5, h6⟩ := hR.pl.at hw hne
  obtain ⟨T1, g124, hH⟩ := M_hd hw hm hR hww hne
  have r0 : 0 ≤ r := by have := hR.pl.1; grind
  have r4 := hR.pl.2.1
  have hr := tn4 r0 r4
  have hb := hw.b0 hr
  have n6 := hb.n64
  have w3 := hR.w3
  have st := C_st hw hc hR h0 h1
  have wn : (Int32.ofNat w).toNatClampNeg = w := ni_tn (by omega)
  have p1 : 0 ≤ p + 1 := by grind
  have p2 : 0 ≤ p + 2 := by grind
  have a2 : p + 1 + 1 = p + 2 := by grind
  have a3 : p + 2 + 1 = p + 3 := by grind
  have a4 : p + 3 + 1 = p + 4 := by grind
  have a5 : p + 4 + 1 = p + 5 := by grind
  have h6 := h6 (Or.inr h)
  have hw1 : (prs (bt A r.toNatClampNeg) 6 (p + 1)).1 = -1 ∧ chk (bt A r.toNatClampNeg) (-1) (prs (bt A r.toNatClampNeg) 6 (p + 1)).2 0 255 = -1 ∧ (ins (bt A r.toNatClampNeg) p).2 = (prs (bt A r.toNatClampNeg) 6 (p + 1)).2 + 1 := by
    unfold ins at h2 ⊢
    rw [if_pos (show 0 ≤ bt A r.toNatClampNeg p ∧ bt A r.toNatClampNeg p ≤ 18 by rw [h]; decide), if_pos h] at h2 ⊢
    by_cases q : (prs (bt A r.toNatClampNeg) 6 (p + 1)).1 = -1
    · rw [if_pos q] at h2 ⊢; exact ⟨q, h2, rfl⟩
    · rw [if_neg q] at h2; exact absurd h2 q
  obtain ⟨w1, w2, w3'⟩ := hw1
  have g1 := (prs_rg hb 6 (p + 1) p1 (by grind)).1 w1
  have hp1 : p + 1 < A 5 r.toNatClampNeg := by grind
  have hq0 : 0 ≤ (prs (bt A r.toNatClampNeg) 6 (p + 1)).2 := by grind
  have ck := (chk_ok (b := bt A r.toNatClampNeg) hq0).mp w2
  have hq1 := hb.lt ck.1
  rw [w3'] at hH h5 g124 h6
  have t7 : xa_u T1.1 56 w ((prs (bt A r.toNatClampNeg) 6 (p + 1)).2 + 1) 29 7 = -1 := by rw [xa_c (by omega)]; exact hH.w7
  obtain ⟨T3, b1, b2, b3⟩ := M_133 hw r0 r4 hH.m2 (show 1 ≤ p + 1 by grind) hp1 t7 w1
  have hm3 := hH.m2.pf b2
  have u3 : T3.1 29 34 = Int32.ofNat (w + 1) := by rw [b2.1 29 34 (by omega) (by omega) (by omega) (by omega)]; exact hH.r34
  have cev := C_ev hw hc hr hR.lg 6 40 (p + 1) 0 (by decide) rfl (by decide) p1 hp1 w1
  have hS0 : G_75 S = (if evi A (bt A r.toNatClampNeg) 6 (p + 1) = 0 then some (0, ca S ((prs (bt A r.toNatClampNeg) 6 (p + 1)).2 + 1 + bt A r.toNatClampNeg (prs (bt A r.toNatClampNeg) 6 (p + 1)).2)) else some (0, ca S ((prs (bt A r.toNatClampNeg) 6 (p + 1)).2 + 1))) := by
    unfold G_75
    rw [st]
    simp only [h]
    rw [if_neg (by decide), if_neg (by decide), if_neg (by decide), if_neg (by decide), if_neg (by decide), if_neg (by decide), if_neg (by decide), if_neg (by decide), if_pos trivial]
    unfold G_80
    rw [cev]
    unfold G_79
    simp only [C_76 hw hc hr hR.lg hq0 hq1, e10, if_false, if_true, show ((8 : Int32) = 7) = False by simp, ca_p, ca_u]
  have hj : jmp (bt A r.toNatClampNeg) p ((prs (bt A r.toNatClampNeg) 6 (p + 1)).2 + 1) = (prs (bt A r.toNatClampNeg) 6 (p + 1)).2 + 1 + bt A r.toNatClampNeg (prs (bt A r.toNatClampNeg) 6 (p + 1)).2 := by
    have s1 : (prs (bt A r.toNatClampNeg) 6 (p + 1)).2 + 1 - 1 = (prs (bt A r.toNatClampNeg) 6 (p + 1)).2 := by generalize (prs (bt A r.toNatClampNeg) 6 (p + 1)).2 = y; grind
    unfold jmp; rw [if_neg (by rw [h]; decide), s1]
  have hM0 : G_131 T = (if evi A (bt A r.toNatClampNeg) 6 (p + 1) = 0 then some (0, (xa_u T3.1 56 w (jmp (bt A r.toNatClampNeg) p ((prs (bt A r.toNatClampNeg) 6 (p + 1)).2 + 1)), T3.2.1, T3.2.2)) else some (0, T3)) := by
    unfold G_131
    rw [hR.un, pm1, if_pos (in4n w3), wn, hR.tl, hR.tp, M_118 hw hm r0 r4 h0]
    simp only [g124, M_118 hw hH.m r0 r4 p1, hH.un, pm1, if_pos (in4n w3), wn, hH.r34]
    rw [if_neg (by rw [h]; decide), if_pos (by rw [h]; decide), if_neg (by rw [h]; decide), if_neg (by rw [h]; decide), if_pos h, b1]
    simp only [M_128 hw r0 r4 hm3 h0 (show 1 ≤ (prs (bt A r.toNatClampNeg) 6 (p + 1)).2 + 1 by grind), if_pos (Or.inr h : bt A r.toNatClampNeg p = 7 ∨ bt A r.toNatClampNeg p = 8), u3, pm1, if_pos (in4n w3), wn]
    rw [if_neg (show ¬ bt A r.toNatClampNeg p = 18 by rw [h]; decide), if_pos (show bt A r.toNatClampNeg p ≤ 8 by rw [h]; decide)]
  by_cases v : evi A (bt A r.toNatClampNeg) 6 (p + 1) = 0
  · rw [if_pos v] at hS0 hM0
    rw [hj] at hM0 h6
    refine ⟨0, A, _, _, hS0, hM0, Out.of2 hR (hH.q _) (hc.ca _) (hm3.up (c := 56) (k := w) (by unfold mpv; omega) _) hw (RE.refl A) rfl rfl h6 rfl (fun c k hk => rfl) (fun c k hk => ?_)⟩
    show xa_u T3.1 56 w _ c k = xa_u T1.1 56 w _ c k
    rw [xa_if, xa_if]
    by_cases e : c = 56 ∧ k = w
    · rw [if_pos e, if_pos e]
    · rw [if_neg e, if_neg e]
      by_cases e7 : c = 29 ∧ k = 7
      · rw [e7.1, e7.2, b3, hH.w7]
      · rw [b2.1 c k (by omega) (by omega) (by omega) (by omega)]
        exact xa_c e
  · rw [if_neg v] at hS0 hM0
    refine ⟨0, A, _, _, hS0, hM0, Out.of2 hR hH (hc.ca _) hm3 hw (RE.refl A) rfl rfl h5 rfl (fun c k hk => rfl) (fun c k hk => ?_)⟩
    by_cases e7 : c = 29 ∧ k = 7
    · rw [e7.1, e7.2, b3, t7]
    · exact b2.1 c k (by omega) (by omega) (by omega) (by omega)
end
theorem rz {x a : Int32} (h0 : 0 ≤ x) (h1 : x < 16) (h2 : 1 ≤ a) (h3 : a ≤ 4) : 0 ≤ (if 16 - a < x then 16 - a else x) ∧ (if 16 - a < x then 16 - a else x) < 16 ∧ (if 16 - a < x then 16 - a else x) + a ≤ 16 := by
  have ha : a = 1 ∨ a = 2 ∨ a = 3 ∨ a = 4 := by grind
  rcases ha with rfl | rfl | rfl | rfl
  · rw [show (16 : Int32) - 1 = 15 from rfl]; split <;> grind
  · rw [show (16 : Int32) - 2 = 14 from rfl]; split <;> grind
  · rw [show (16 : Int32) - 3 = 13 from rfl]; split <;> grind
  · rw [show (16 : Int32) - 4 = 12 from rfl]; split <;> grind
section
variable {A M C : Ab} {z : Option Nat × (Nat → Option Nat)}
theorem WF.usz (hw : WF A) {o : Nat} {a b x : Int32} (ho : o < 4) (h : 0 ≤ x ∧ x < 16 ∧ 1 ≤ a ∧ a ≤ 4 ∧ x + a ≤ 16) : WF (xa_u (xa_u (xa_u A 22 o a) 23 o b) 20 o x) := by
  refine hw.of (((RE.u _ (by unfold rsc; omega)).trans (RE.u _ (by unfold rsc; omega))).trans (RE.u _ (by unfold rsc; omega))) ?_ ?_ ?_ ?_
  all_goals simp only [xa_if]
  · have := hw.lim; grind
  · intro p hp; have := hw.act p hp; grind
  · have := hw.gfl; grind
  · have := hw.flg; grind
theorem st_10 (hw : WF A) {S T : St} {w : Nat} {r p : Int32} (hc : CR A M S) (hm : MR A C z T) (hR : Rn A S T w r p) (hww : T.1 29 7 = -1) (hne : p ≠ A 5 r.toNatClampNeg) (h : bt A r.toNatClampNeg p = 10) : ∃ v A' S' T', G_75 S = some (v, S') ∧ G_131 T = some (v, T') ∧ Out M C z A w v A' S' T' := by
  obtain ⟨h0, h1, h2, h3, h4, h5, h6⟩ := hR.pl.at hw hne
  obtain ⟨T1, g124, hH⟩ := M_hd hw hm hR hww hne
  have r0 : 0 ≤ r := by have := hR.pl.1; grind
  have r4 := hR.pl.2.1
  have hr := tn4 r0 r4
  have hb := hw.b0 hr
  have n6 := hb.n64
  have w3 := hR.w3
  have st := C_st hw hc hR h0 h1
  have wn : (Int32.ofNat w).toNatClampNeg = w := ni_tn (by omega)
  have p1 : 0 ≤ p + 1 := by grind
  have p2 : 0 ≤ p + 2 := by grind
  have a2 : p + 1 + 1 = p + 2 := by grind
  have a3 : p + 2 + 1 = p + 3 := by grind
  have a4 : p + 3 + 1 = p + 4 := by grind
  have a5 : p + 4 + 1 = p + 5 := by grind
  obtain ⟨o1, o2⟩ := ins_ops (by rw [h]; decide) (by rw [h]; decide) h2
  rw [h, show opc 10 = [111] from rfl] at o1 o2
  rw [show p + 1 + ln [111] = p + 2 from by rw [show ln [111] = 1 from rfl]; grind] at o2
  have p3 : 0 ≤ p + 3 := by grind
  have p4 : 0 ≤ p + 4 := by grind
  obtain ⟨i1, o1⟩ := ops_in p1 o1
  have l1 : 0 ≤ (bt A r.toNatClampNeg (p + 1)) := Int32.le_trans (lo_ge _ _) i1.1
  have q1 := hb.lt l1
  have u1 : (bt A r.toNatClampNeg (p + 1)) ≤ 3 := i1.2
  have vo : 0 ≤ (bt A r.toNatClampNeg (p + 1)) ∧ (bt A r.toNatClampNeg (p + 1)) < 4 := by grind
  have ho := tn4 vo.1 vo.2
  rw [o2] at hH h5 g124
  have ka := kd_act ho
  have hS : G_75 S = some (0, (xa_u ((ca S (p + 2)).1) (11 + (bt A r.toNatClampNeg (p + 1)).toNatClampNeg) 7 0, (ca S (p + 2)).2)) := by
    unfold G_75
    rw [st]
    simp only [h]
    rw [if_neg (by decide), if_neg (by decide), if_neg (by decide), if_neg (by decide), if_neg (by decide), if_neg (by decide), if_neg (by decide), if_neg (by decide), if_neg (by decide), if_neg (by decide)]
    unfold G_83
    simp only [C_76 hw hc hr hR.lg p1 q1, a2, V_55, if_pos vo]
    rw [if_pos trivial]
    simp only [if_pos ka]
  have hM : G_131 T = some (0, (xa_u (xa_u T1.1 56 w (p + 2)) 49 (bt A r.toNatClampNeg (p + 1)).toNatClampNeg 0, T1.2)) := by
    unfold G_131
    rw [hR.un, pm1, if_pos (in4n w3), wn, hR.tl, hR.tp, M_118 hw hm r0 r4 h0]
    simp only [g124, M_118 hw hH.m r0 r4 p1, hH.un, pm1, if_pos (in4n w3), wn, hH.r34]
    rw [if_neg (by rw [h]; decide), if_pos (by rw [h]; decide), if_neg (by rw [h]; decide), if_neg (by rw [h]; decide), if_neg (by rw [h]; decide), if_neg (by rw [h]; decide), if_neg (by rw [h]; decide)]
    unfold G_143
    simp only [M_118 hw hH.m2 r0 r4 h0, M_118 hw hH.m2 r0 r4 p1, M_118 hw hH.m2 r0 r4 p2, M_118 hw hH.m2 r0 r4 p3, if_pos ((xin4 _).mpr vo), h]
    rw [if_neg (by decide), if_pos trivial]
  refine ⟨0, _, _, _, hS, hM, Out.of2 hR hH ((hc.ca (p + 2)).uact (f := 7) ho (by decide) _) (hH.m2.uact (f := 7) ho (by decide) _) ?_ ((RE.refl A).trans (RE.u _ (by unfold rsc; omega))) ?_ ?_ h5 rfl (fun c k hk => ?_) (fun c k hk => ?_)⟩
  · exact (hw.ua (f := 7) (by decide) (by decide))
  · rw [xa_c (by omega)]
  · rw [xa_c (by omega)]
  · show xa_u ((ca S (p + 2)).1) (11 + (bt A r.toNatClampNeg (p + 1)).toNatClampNeg) 7 0 c k = _
    rw [xa_c (by omega)]
  · show xa_u (xa_u T1.1 56 w (p + 2)) 49 (bt A r.toNatClampNeg (p + 1)).toNatClampNeg 0 c k = _
    rw [xa_c (by omega)]
theorem st_12 (hw : WF A) {S T : St} {w : Nat} {r p : Int32} (hc : CR A M S) (hm : MR A C z T) (hR : Rn A S T w r p) (hww : T.1 29 7 = -1) (hne : p ≠ A 5 r.toNatClampNeg) (h : bt A r.toNatClampNeg p = 12) : ∃ v A' S' T', G_75 S = some (v, S') ∧ G_131 T = some (v, T') ∧ Out M C z A w v A' S' T' := by
  obtain ⟨h0, h1, h2, h3, h4, h5, h6⟩ := hR.pl.at hw hne
  obtain ⟨T1, g124, hH⟩ := M_hd hw hm hR hww hne
  have r0 : 0 ≤ r := by have := hR.pl.1; grind
  have r4 := hR.pl.2.1
  have hr := tn4 r0 r4
  have hb := hw.b0 hr
  have n6 := hb.n64
  have w3 := hR.w3
  have st := C_st hw hc hR h0 h1
  have wn : (Int32.ofNat w).toNatClampNeg = w := ni_tn (by omega)
  have p1 : 0 ≤ p + 1 := by grind
  have p2 : 0 ≤ p + 2 := by grind
  have a2 : p + 1 + 1 = p + 2 := by grind
  have a3 : p + 2 + 1 = p + 3 := by grind
  have a4 : p + 3 + 1 = p + 4 := by grind
  have a5 : p + 4 + 1 = p + 5 := by grind
  obtain ⟨o1, o2⟩ := ins_ops (by rw [h]; decide) (by rw [h]; decide) h2
  rw [h, show opc 12 = [111, 100] from rfl] at o1 o2
  rw [show p + 1 + ln [111, 100] = p + 3 from by rw [show ln [111, 100] = 2 from rfl]; grind] at o2
  have p3 : 0 ≤ p + 3 := by grind
  have p4 : 0 ≤ p + 4 := by grind
  obtain ⟨i1, o1⟩ := ops_in p1 o1
  rw [a2] at o1
  have l1 : 0 ≤ (bt A r.toNatClampNeg (p + 1)) := Int32.le_trans (lo_ge _ _) i1.1
  have q1 := hb.lt l1
  obtain ⟨i2, o1⟩ := ops_in p2 o1
  have l2 : 0 ≤ (bt A r.toNatClampNeg (p + 2)) := Int32.le_trans (lo_ge _ _) i2.1
  have q2 := hb.lt l2
  have u1 : (bt A r.toNatClampNeg (p + 1)) ≤ 3 := i1.2
  have vo : 0 ≤ (bt A r.toNatClampNeg (p + 1)) ∧ (bt A r.toNatClampNeg (p + 1)) < 4 := by grind
  have ho := tn4 vo.1 vo.2
  rw [o2] at hH h5 g124
  have ka := kd_act ho
  have hS : G_75 S = some (0, (xa_u (xa_u ((ca S (p + 3)).1) (11 + (bt A r.toNatClampNeg (p + 1)).toNatClampNeg) 5 0) (11 + (bt A r.toNatClampNeg (p + 1)).toNatClampNeg) 4 (bt A r.toNatClampNeg (p + 2)), (ca S (p + 3)).2)) := by
    unfold G_75
    rw [st]
    simp only [h]
    rw [if_neg (by decide), if_neg (by decide), if_neg (by decide), if_neg (by decide), if_neg (by decide), if_neg (by decide), if_neg (by decide), if_neg (by decide), if_neg (by decide), if_neg (by decide)]
    unfold G_83
    simp only [C_76 hw hc hr hR.lg p1 q1, a2, V_55, if_pos vo]
    rw [if_neg (by decide), if_pos trivial]
    unfold G_14
    simp only [C_76 hw hc hr hR.lg p2 q2, a3, if_pos ka]
  have hM : G_131 T = some (0, (xa_u (xa_u (xa_u T1.1 56 w (p + 3)) 47 (bt A r.toNatClampNeg (p + 1)).toNatClampNeg 0) 46 (bt A r.toNatClampNeg (p + 1)).toNatClampNeg (bt A r.toNatClampNeg (p + 2)), T1.2)) := by
    unfold G_131
    rw [hR.un, pm1, if_pos (in4n w3), wn, hR.tl, hR.tp, M_118 hw hm r0 r4 h0]
    simp only [g124, M_118 hw hH.m r0 r4 p1, hH.un, pm1, if_pos (in4n w3), wn, hH.r34]
    rw [if_neg (by rw [h]; decide), if_pos (by rw [h]; decide), if_neg (by rw [h]; decide), if_neg (by rw [h]; decide), if_neg (by rw [h]; decide), if_neg (by rw [h]; decide), if_neg (by rw [h]; decide)]
    unfold G_143
    simp only [M_118 hw hH.m2 r0 r4 h0, M_118 hw hH.m2 r0 r4 p1, M_118 hw hH.m2 r0 r4 p2, M_118 hw hH.m2 r0 r4 p3, if_pos ((xin4 _).mpr vo), h]
    rw [if_neg (by decide), if_neg (by decide), if_neg (by decide), if_pos trivial]
  refine ⟨0, _, _, _, hS, hM, Out.of2 hR hH (((hc.ca (p + 3)).uact (f := 5) ho (by decide) _).uact (f := 4) ho (by decide) _) ((hH.m2.uact (f := 5) ho (by decide) _).uact (f := 4) ho (by decide) _) ?_ (((RE.refl A).trans (RE.u _ (by unfold rsc; omega))).trans (RE.u _ (by unfold rsc; omega))) ?_ ?_ h5 rfl (fun c k hk => ?_) (fun c k hk => ?_)⟩
  · exact ((hw.ua (f := 5) (by decide) (by decide)).ua (f := 4) (by decide) (by decide))
  · rw [xa_c (by omega)]; rw [xa_c (by omega)]
  · rw [xa_c (by omega)]; rw [xa_c (by omega)]
  · show xa_u (xa_u ((ca S (p + 3)).1) (11 + (bt A r.toNatClampNeg (p + 1)).toNatClampNeg) 5 0) (11 + (bt A r.toNatClampNeg (p + 1)).toNatClampNeg) 4 (bt A r.toNatClampNeg (p + 2)) c k = _
    rw [xa_c (by omega)]; rw [xa_c (by omega)]
  · show xa_u (xa_u (xa_u T1.1 56 w (p + 3)) 47 (bt A r.toNatClampNeg (p + 1)).toNatClampNeg 0) 46 (bt A r.toNatClampNeg (p + 1)).toNatClampNeg (bt A r.toNatClampNeg (p + 2)) c k = _
    rw [xa_c (by omega)]; rw [xa_c (by omega)]
theorem st_14 (hw : WF A) {S T : St} {w : Nat} {r p : Int32} (hc : CR A M S) (hm : MR A C z T) (hR : Rn A S T w r p) (hww : T.1 29 7 = -1) (hne : p ≠ A 5 r.toNatClampNeg) (h : bt A r.toNatClampNeg p = 14) : ∃ v A' S' T', G_75 S = some (v, S') ∧ G_131 T = some (v, T') ∧ Out M C z A w v A' S' T' := by
  obtain ⟨h0, h1, h2, h3, h4, h5, h6⟩ := hR.pl.at hw hne
  obtain ⟨T1, g124, hH⟩ := M_hd hw hm hR hww hne
  have r0 : 0 ≤ r := by have := hR.pl.1; grind
  have r4 := hR.pl.2.1
  have hr := tn4 r0 r4
  have hb := hw.b0 hr
  have n6 := hb.n64
  have w3 := hR.w3
  have st := C_st hw hc hR h0 h1
  have wn : (Int32.ofNat w).toNatClampNeg = w := ni_tn (by omega)
  have p1 : 0 ≤ p + 1 := by grind
  have p2 : 0 ≤ p + 2 := by grind
  have a2 : p + 1 + 1 = p + 2 := by grind
  have a3 : p + 2 + 1 = p + 3 := by grind
  have a4 : p + 3 + 1 = p + 4 := by grind
  have a5 : p + 4 + 1 = p + 5 := by grind
  obtain ⟨o1, o2⟩ := ins_ops (by rw [h]; decide) (by rw [h]; decide) h2
  rw [h, show opc 14 = [101, 102] from rfl] at o1 o2
  rw [show p + 1 + ln [101, 102] = p + 3 from by rw [show ln [101, 102] = 2 from rfl]; grind] at o2
  have p3 : 0 ≤ p + 3 := by grind
  have p4 : 0 ≤ p + 4 := by grind
  obtain ⟨i1, o1⟩ := ops_in p1 o1
  rw [a2] at o1
  have l1 : 0 ≤ (bt A r.toNatClampNeg (p + 1)) := Int32.le_trans (lo_ge _ _) i1.1
  have q1 := hb.lt l1
  obtain ⟨i2, o1⟩ := ops_in p2 o1
  have l2 : 0 ≤ (bt A r.toNatClampNeg (p + 2)) := Int32.le_trans (lo_ge _ _) i2.1
  have q2 := hb.lt l2
  have u1 : (bt A r.toNatClampNeg (p + 1)) ≤ 3 := i1.2
  have vo : 0 ≤ (bt A r.toNatClampNeg (p + 1)) ∧ (bt A r.toNatClampNeg (p + 1)) < 4 := by grind
  have ho := tn4 vo.1 vo.2
  rw [o2] at hH h5 g124
  have ka := kd_act ho
  have hS : G_75 S = some (0, (xa_u (xa_u ((ca S (p + 3)).1) (11 + (bt A r.toNatClampNeg (p + 1)).toNatClampNeg) 5 2) (11 + (bt A r.toNatClampNeg (p + 1)).toNatClampNeg) 12 (bt A r.toNatClampNeg (p + 2)), (ca S (p + 3)).2)) := by
    unfold G_75
    rw [st]
    simp only [h]
    rw [if_neg (by decide), if_neg (by decide), if_neg (by decide), if_neg (by decide), if_neg (by decide), if_neg (by decide), if_neg (by decide), if_neg (by decide), if_neg (by decide), if_neg (by decide)]
    unfold G_83
    simp only [C_76 hw hc hr hR.lg p1 q1, a2, V_55, if_pos vo]
    rw [if_neg (by decide), if_neg (by decide), if_pos trivial]
    unfold G_15
    simp only [C_76 hw hc hr hR.lg p2 q2, a3, if_pos ka]
  have hM : G_131 T = some (0, (xa_u (xa_u (xa_u T1.1 56 w (p + 3)) 47 (bt A r.toNatClampNeg (p + 1)).toNatClampNeg 2) 53 (bt A r.toNatClampNeg (p + 1)).toNatClampNeg (bt A r.toNatClampNeg (p + 2)), T1.2)) := by
    unfold G_131
    rw [hR.un, pm1, if_pos (in4n w3), wn, hR.tl, hR.tp, M_118 hw hm r0 r4 h0]
    simp only [g124, M_118 hw hH.m r0 r4 p1, hH.un, pm1, if_pos (in4n w3), wn, hH.r34]
    rw [if_neg (by rw [h]; decide), if_pos (by rw [h]; decide), if_neg (by rw [h]; decide), if_neg (by rw [h]; decide), if_neg (by rw [h]; decide), if_neg (by rw [h]; decide), if_neg (by rw [h]; decide)]
    unfold G_143
    simp only [M_118 hw hH.m2 r0 r4 h0, M_118 hw hH.m2 r0 r4 p1, M_118 hw hH.m2 r0 r4 p2, M_118 hw hH.m2 r0 r4 p3, if_pos ((xin4 _).mpr vo), h]
    rw [if_neg (by decide), if_neg (by decide), if_neg (by decide), if_neg (by decide), if_neg (by decide), if_pos trivial]
  refine ⟨0, _, _, _, hS, hM, Out.of2 hR hH (((hc.ca (p + 3)).uact (f := 5) ho (by decide) _).uact (f := 12) ho (by decide) _) ((hH.m2.uact (f := 5) ho (by decide) _).uact (f := 12) ho (by decide) _) ?_ (((RE.refl A).trans (RE.u _ (by unfold rsc; omega))).trans (RE.u _ (by unfold rsc; omega))) ?_ ?_ h5 rfl (fun c k hk => ?_) (fun c k hk => ?_)⟩
  · exact ((hw.ua (f := 5) (by decide) (by decide)).ug ⟨l2, Int32.lt_of_le_of_lt (show (bt A r.toNatClampNeg (p + 2)) ≤ 15 from i2.2) (by decide)⟩)
  · rw [xa_c (by omega)]; rw [xa_c (by omega)]
  · rw [xa_c (by omega)]; rw [xa_c (by omega)]
  · show xa_u (xa_u ((ca S (p + 3)).1) (11 + (bt A r.toNatClampNeg (p + 1)).toNatClampNeg) 5 2) (11 + (bt A r.toNatClampNeg (p + 1)).toNatClampNeg) 12 (bt A r.toNatClampNeg (p + 2)) c k = _
    rw [xa_c (by omega)]; rw [xa_c (by omega)]
  · show xa_u (xa_u (xa_u T1.1 56 w (p + 3)) 47 (bt A r.toNatClampNeg (p + 1)).toNatClampNeg 2) 53 (bt A r.toNatClampNeg (p + 1)).toNatClampNeg (bt A r.toNatClampNeg (p + 2)) c k = _
    rw [xa_c (by omega)]; rw [xa_c (by omega)]
theorem st_15 (hw : WF A) {S T : St} {w : Nat} {r p : Int32} (hc : CR A M S) (hm : MR A C z T) (hR : Rn A S T w r p) (hww : T.1 29 7 = -1) (hne : p ≠ A 5 r.toNatClampNeg) (h : bt A r.toNatClampNeg p = 15) : ∃ v A' S' T', G_75 S = some (v, S') ∧ G_131 T = some (v, T') ∧ Out M C z A w v A' S' T' := by
  obtain ⟨h0, h1, h2, h3, h4, h5, h6⟩ := hR.pl.at hw hne
  obtain ⟨T1, g124, hH⟩ := M_hd hw hm hR hww hne
  have r0 : 0 ≤ r := by have := hR.pl.1; grind
  have r4 := hR.pl.2.1
  have hr := tn4 r0 r4
  have hb := hw.b0 hr
  have n6 := hb.n64
  have w3 := hR.w3
  have st := C_st hw hc hR h0 h1
  have wn : (Int32.ofNat w).toNatClampNeg = w := ni_tn (by omega)
  have p1 : 0 ≤ p + 1 := by grind
  have p2 : 0 ≤ p + 2 := by grind
  have a2 : p + 1 + 1 = p + 2 := by grind
  have a3 : p + 2 + 1 = p + 3 := by grind
  have a4 : p + 3 + 1 = p + 4 := by grind
  have a5 : p + 4 + 1 = p + 5 := by grind
  obtain ⟨o1, o2⟩ := ins_ops (by rw [h]; decide) (by rw [h]; decide) h2
  rw [h, show opc 15 = [111] from rfl] at o1 o2
  rw [show p + 1 + ln [111] = p + 2 from by rw [show ln [111] = 1 from rfl]; grind] at o2
  have p3 : 0 ≤ p + 3 := by grind
  have p4 : 0 ≤ p + 4 := by grind
  obtain ⟨i1, o1⟩ := ops_in p1 o1
  have l1 : 0 ≤ (bt A r.toNatClampNeg (p + 1)) := Int32.le_trans (lo_ge _ _) i1.1
  have q1 := hb.lt l1
  have u1 : (bt A r.toNatClampNeg (p + 1)) ≤ 3 := i1.2
  have vo : 0 ≤ (bt A r.toNatClampNeg (p + 1)) ∧ (bt A r.toNatClampNeg (p + 1)) < 4 := by grind
  have ho := tn4 vo.1 vo.2
  rw [o2] at hH h5 g124
  have ka := kd_act ho
  have hS : G_75 S = some (0, (xa_u ((ca S (p + 2)).1) (11 + (bt A r.toNatClampNeg (p + 1)).toNatClampNeg) 5 3, (ca S (p + 2)).2)) := by
    unfold G_75
    rw [st]
    simp only [h]
    rw [if_neg (by decide), if_neg (by decide), if_neg (by decide), if_neg (by decide), if_neg (by decide), if_neg (by decide), if_neg (by decide), if_neg (by decide), if_neg (by decide), if_neg (by decide)]
    unfold G_83
    simp only [C_76 hw hc hr hR.lg p1 q1, a2, V_55, if_pos vo]
    rw [if_neg (by decide), if_neg (by decide), if_neg (by decide), if_pos trivial]
    simp only [if_pos ka]
  have hM : G_131 T = some (0, (xa_u (xa_u T1.1 56 w (p + 2)) 47 (bt A r.toNatClampNeg (p + 1)).toNatClampNeg 3, T1.2)) := by
    unfold G_131
    rw [hR.un, pm1, if_pos (in4n w3), wn, hR.tl, hR.tp, M_118 hw hm r0 r4 h0]
    simp only [g124, M_118 hw hH.m r0 r4 p1, hH.un, pm1, if_pos (in4n w3), wn, hH.r34]
    rw [if_neg (by rw [h]; decide), if_pos (by rw [h]; decide), if_neg (by rw [h]; decide), if_neg (by rw [h]; decide), if_neg (by rw [h]; decide), if_neg (by rw [h]; decide), if_neg (by rw [h]; decide)]
    unfold G_143
    simp only [M_118 hw hH.m2 r0 r4 h0, M_118 hw hH.m2 r0 r4 p1, M_118 hw hH.m2 r0 r4 p2, M_118 hw hH.m2 r0 r4 p3, if_pos ((xin4 _).mpr vo), h]
    rw [if_neg (by decide), if_neg (by decide), if_neg (by decide), if_neg (by decide), if_neg (by decide), if_neg (by decide), if_pos trivial]
  refine ⟨0, _, _, _, hS, hM, Out.of2 hR hH ((hc.ca (p + 2)).uact (f := 5) ho (by decide) _) (hH.m2.uact (f := 5) ho (by decide) _) ?_ ((RE.refl A).trans (RE.u _ (by unfold rsc; omega))) ?_ ?_ h5 rfl (fun c k hk => ?_) (fun c k hk => ?_)⟩
  · exact (hw.ua (f := 5) (by decide) (by decide))
  · rw [xa_c (by omega)]
  · rw [xa_c (by omega)]
  · show xa_u ((ca S (p + 2)).1) (11 + (bt A r.toNatClampNeg (p + 1)).toNatClampNeg) 5 3 c k = _
    rw [xa_c (by omega)]
  · show xa_u (xa_u T1.1 56 w (p + 2)) 47 (bt A r.toNatClampNeg (p + 1)).toNatClampNeg 3 c k = _
    rw [xa_c (by omega)]
theorem st_16 (hw : WF A) {S T : St} {w : Nat} {r p : Int32} (hc : CR A M S) (hm : MR A C z T) (hR : Rn A S T w r p) (hww : T.1 29 7 = -1) (hne : p ≠ A 5 r.toNatClampNeg) (h : bt A r.toNatClampNeg p = 16) : ∃ v A' S' T', G_75 S = some (v, S') ∧ G_131 T = some (v, T') ∧ Out M C z A w v A' S' T' := by
  obtain ⟨h0, h1, h2, h3, h4, h5, h6⟩ := hR.pl.at hw hne
  obtain ⟨T1, g124, hH⟩ := M_hd hw hm hR hww hne
  have r0 : 0 ≤ r := by have := hR.pl.1; grind
  have r4 := hR.pl.2.1
  have hr := tn4 r0 r4
  have hb := hw.b0 hr
  have n6 := hb.n64
  have w3 := hR.w3
  have st := C_st hw hc hR h0 h1
  have wn : (Int32.ofNat w).toNatClampNeg = w := ni_tn (by omega)
  have p1 : 0 ≤ p + 1 := by grind
  have p2 : 0 ≤ p + 2 := by grind
  have a2 : p + 1 + 1 = p + 2 := by grind
  have a3 : p + 2 + 1 = p + 3 := by grind
  have a4 : p + 3 + 1 = p + 4 := by grind
  have a5 : p + 4 + 1 = p + 5 := by grind
  obtain ⟨o1, o2⟩ := ins_ops (by rw [h]; decide) (by rw [h]; decide) h2
  rw [h, show opc 16 = [111, 114] from rfl] at o1 o2
  rw [show p + 1 + ln [111, 114] = p + 3 from by rw [show ln [111, 114] = 2 from rfl]; grind] at o2
  have p3 : 0 ≤ p + 3 := by grind
  have p4 : 0 ≤ p + 4 := by grind
  obtain ⟨i1, o1⟩ := ops_in p1 o1
  rw [a2] at o1
  have l1 : 0 ≤ (bt A r.toNatClampNeg (p + 1)) := Int32.le_trans (lo_ge _ _) i1.1
  have q1 := hb.lt l1
  obtain ⟨i2, o1⟩ := ops_in p2 o1
  have l2 : 0 ≤ (bt A r.toNatClampNeg (p + 2)) := Int32.le_trans (lo_ge _ _) i2.1
  have q2 := hb.lt l2
  have u1 : (bt A r.toNatClampNeg (p + 1)) ≤ 3 := i1.2
  have vo : 0 ≤ (bt A r.toNatClampNeg (p + 1)) ∧ (bt A r.toNatClampNeg (p + 1)) < 4 := by grind
  have ho := tn4 vo.1 vo.2
  rw [o2] at hH h5 g124
  have ka := kd_act ho
  have hS : G_75 S = some (0, (xa_u ((ca S (p + 3)).1) (11 + (bt A r.toNatClampNeg (p + 1)).toNatClampNeg) 6 (bt A r.toNatClampNeg (p + 2)), (ca S (p + 3)).2)) := by
    unfold G_75
    rw [st]
    simp only [h]
    rw [if_neg (by decide), if_neg (by decide), if_neg (by decide), if_neg (by decide), if_neg (by decide), if_neg (by decide), if_neg (by decide), if_neg (by decide), if_neg (by decide), if_neg (by decide)]
    unfold G_83
    simp only [C_76 hw hc hr hR.lg p1 q1, a2, V_55, if_pos vo]
    rw [if_neg (by decide), if_neg (by decide), if_neg (by decide), if_neg (by decide), if_pos trivial]
    simp only [C_76 hw hc hr hR.lg p2 q2, a3, if_pos ka]
  have hM : G_131 T = some (0, (xa_u (xa_u T1.1 56 w (p + 3)) 48 (bt A r.toNatClampNeg (p + 1)).toNatClampNeg (bt A r.toNatClampNeg (p + 2)), T1.2)) := by
    unfold G_131
    rw [hR.un, pm1, if_pos (in4n w3), wn, hR.tl, hR.tp, M_118 hw hm r0 r4 h0]
    simp only [g124, M_118 hw hH.m r0 r4 p1, hH.un, pm1, if_pos (in4n w3), wn, hH.r34]
    rw [if_neg (by rw [h]; decide), if_pos (by rw [h]; decide), if_neg (by rw [h]; decide), if_neg (by rw [h]; decide), if_neg (by rw [h]; decide), if_neg (by rw [h]; decide), if_neg (by rw [h]; decide)]
    unfold G_143
    simp only [M_118 hw hH.m2 r0 r4 h0, M_118 hw hH.m2 r0 r4 p1, M_118 hw hH.m2 r0 r4 p2, M_118 hw hH.m2 r0 r4 p3, if_pos ((xin4 _).mpr vo), h]
    rw [if_neg (by decide), if_neg (by decide), if_neg (by decide), if_neg (by decide), if_neg (by decide), if_neg (by decide), if_neg (by decide), if_pos trivial]
  refine ⟨0, _, _, _, hS, hM, Out.of2 hR hH ((hc.ca (p + 3)).uact (f := 6) ho (by decide) _) (hH.m2.uact (f := 6) ho (by decide) _) ?_ ((RE.refl A).trans (RE.u _ (by unfold rsc; omega))) ?_ ?_ h5 rfl (fun c k hk => ?_) (fun c k hk => ?_)⟩
  · exact (hw.ua (f := 6) (by decide) (by decide))
  · rw [xa_c (by omega)]
  · rw [xa_c (by omega)]
  · show xa_u ((ca S (p + 3)).1) (11 + (bt A r.toNatClampNeg (p + 1)).toNatClampNeg) 6 (bt A r.toNatClampNeg (p + 2)) c k = _
    rw [xa_c (by omega)]
  · show xa_u (xa_u T1.1 56 w (p + 3)) 48 (bt A r.toNatClampNeg (p + 1)).toNatClampNeg (bt A r.toNatClampNeg (p + 2)) c k = _
    rw [xa_c (by omega)]
theorem st_17 (hw : WF A) {S T : St} {w : Nat} {r p : Int32} (hc : CR A M S) (hm : MR A C z T) (hR : Rn A S T w r p) (hww : T.1 29 7 = -1) (hne : p ≠ A 5 r.toNatClampNeg) (h : bt A r.toNatClampNeg p = 17) : ∃ v A' S' T', G_75 S = some (v, S') ∧ G_131 T = some (v, T') ∧ Out M C z A w v A' S' T' := by
  obtain ⟨h0, h1, h2, h3, h4, h5, h6⟩ := hR.pl.at hw hne
  obtain ⟨T1, g124, hH⟩ := M_hd hw hm hR hww hne
  have r0 : 0 ≤ r := by have := hR.pl.1; grind
  have r4 := hR.pl.2.1
  have hr := tn4 r0 r4
  have hb := hw.b0 hr
  have n6 := hb.n64
  have w3 := hR.w3
  have st := C_st hw hc hR h0 h1
  have wn : (Int32.ofNat w).toNatClampNeg = w := ni_tn (by omega)
  have p1 : 0 ≤ p + 1 := by grind
  have p2 : 0 ≤ p + 2 := by grind
  have a2 : p + 1 + 1 = p + 2 := by grind
  have a3 : p + 2 + 1 = p + 3 := by grind
  have a4 : p + 3 + 1 = p + 4 := by grind
  have a5 : p + 4 + 1 = p + 5 := by grind
  obtain ⟨o1, o2⟩ := ins_ops (by rw [h]; decide) (by rw [h]; decide) h2
  rw [h, show opc 17 = [111, 98] from rfl] at o1 o2
  rw [show p + 1 + ln [111, 98] = p + 3 from by rw [show ln [111, 98] = 2 from rfl]; grind] at o2
  have p3 : 0 ≤ p + 3 := by grind
  have p4 : 0 ≤ p + 4 := by grind
  obtain ⟨i1, o1⟩ := ops_in p1 o1
  rw [a2] at o1
  have l1 : 0 ≤ (bt A r.toNatClampNeg (p + 1)) := Int32.le_trans (lo_ge _ _) i1.1
  have q1 := hb.lt l1
  obtain ⟨i2, o1⟩ := ops_in p2 o1
  have l2 : 0 ≤ (bt A r.toNatClampNeg (p + 2)) := Int32.le_trans (lo_ge _ _) i2.1
  have q2 := hb.lt l2
  have u1 : (bt A r.toNatClampNeg (p + 1)) ≤ 3 := i1.2
  have vo : 0 ≤ (bt A r.toNatClampNeg (p + 1)) ∧ (bt A r.toNatClampNeg (p + 1)) < 4 := by grind
  have ho := tn4 vo.1 vo.2
  rw [o2] at hH h5 g124
  have ka := kd_act ho
  have hS : G_75 S = some (0, (xa_u ((ca S (p + 3)).1) (11 + (bt A r.toNatClampNeg (p + 1)).toNatClampNeg) 8 (if (bt A r.toNatClampNeg (p + 2)) = 1 then 1 else 0), (ca S (p + 3)).2)) := by
    unfold G_75
    rw [st]
    simp only [h]
    rw [if_neg (by decide), if_neg (by decide), if_neg (by decide), if_neg (by decide), if_neg (by decide), if_neg (by decide), if_neg (by decide), if_neg (by decide), if_neg (by decide), if_neg (by decide)]
    unfold G_83
    simp only [C_76 hw hc hr hR.lg p1 q1, a2, V_55, if_pos vo]
    rw [if_neg (by decide), if_neg (by decide), if_neg (by decide), if_neg (by decide), if_neg (by decide), if_pos trivial]
    simp only [C_76 hw hc hr hR.lg p2 q2, a3, if_pos ka]
    by_cases e : (bt A r.toNatClampNeg (p + 2)) = 1
    · simp only [if_pos e]
    · simp only [if_neg e]
  have hM : G_131 T = some (0, (xa_u (xa_u T1.1 56 w (p + 3)) 50 (bt A r.toNatClampNeg (p + 1)).toNatClampNeg (if (bt A r.toNatClampNeg (p + 2)) = 1 then 1 else 0), T1.2)) := by
    unfold G_131
    rw [hR.un, pm1, if_pos (in4n w3), wn, hR.tl, hR.tp, M_118 hw hm r0 r4 h0]
    simp only [g124, M_118 hw hH.m r0 r4 p1, hH.un, pm1, if_pos (in4n w3), wn, hH.r34]
    rw [if_neg (by rw [h]; decide), if_pos (by rw [h]; decide), if_neg (by rw [h]; decide), if_neg (by rw [h]; decide), if_neg (by rw [h]; decide), if_neg (by rw [h]; decide), if_neg (by rw [h]; decide)]
    unfold G_143
    simp only [M_118 hw hH.m2 r0 r4 h0, M_118 hw hH.m2 r0 r4 p1, M_118 hw hH.m2 r0 r4 p2, M_118 hw hH.m2 r0 r4 p3, if_pos ((xin4 _).mpr vo), h]
    rw [if_neg (by decide), if_neg (by decide), if_neg (by decide), if_neg (by decide), if_neg (by decide), if_neg (by decide), if_neg (by decide), if_neg (by decide)]
    by_cases e : (bt A r.toNatClampNeg (p + 2)) = 1
    · simp only [if_pos e]
    · simp only [if_neg e]
  refine ⟨0, _, _, _, hS, hM, Out.of2 hR hH ((hc.ca (p + 3)).uact (f := 8) ho (by decide) _) (hH.m2.uact (f := 8) ho (by decide) _) ?_ ((RE.refl A).trans (RE.u _ (by unfold rsc; omega))) ?_ ?_ h5 rfl (fun c k hk => ?_) (fun c k hk => ?_)⟩
  · exact (hw.ua (f := 8) (by decide) (by decide))
  · rw [xa_c (by omega)]
  · rw [xa_c (by omega)]
  · show xa_u ((ca S (p + 3)).1) (11 + (bt A r.toNatClampNeg (p + 1)).toNatClampNeg) 8 (if (bt A r.toNatClampNeg (p + 2)) = 1 then 1 else 0) c k = _
    rw [xa_c (by omega)]
  · show xa_u (xa_u T1.1 56 w (p + 3)) 50 (bt A r.toNatClampNeg (p + 1)).toNatClampNeg (if (bt A r.toNatClampNeg (p + 2)) = 1 then 1 else 0) c k = _
    rw [xa_c (by omega)]
theorem st_13 (hw : WF A) {S T : St} {w : Nat} {r p : Int32} (hc : CR A M S) (hm : MR A C z T) (hR : Rn A S T w r p) (hww : T.1 29 7 = -1) (hne : p ≠ A 5 r.toNatClampNeg) (h : bt A r.toNatClampNeg p = 13) : ∃ v A' S' T', G_75 S = some (v, S') ∧ G_131 T = some (v, T') ∧ Out M C z A w v A' S' T' := by
  obtain ⟨h0, h1, h2, h3, h4, h5, h6⟩ := hR.pl.at hw hne
  obtain ⟨T1, g124, hH⟩ := M_hd hw hm hR hww hne
  have r0 : 0 ≤ r := by have := hR.pl.1; grind
  have r4 := hR.pl.2.1
  have hr := tn4 r0 r4
  have hb := hw.b0 hr
  have n6 := hb.n64
  have w3 := hR.w3
  have st := C_st hw hc hR h0 h1
  have wn : (Int32.ofNat w).toNatClampNeg = w := ni_tn (by omega)
  have p1 : 0 ≤ p + 1 := by grind
  have p2 : 0 ≤ p + 2 := by grind
  have a2 : p + 1 + 1 = p + 2 := by grind
  have a3 : p + 2 + 1 = p + 3 := by grind
  have a4 : p + 3 + 1 = p + 4 := by grind
  have a5 : p + 4 + 1 = p + 5 := by grind
  obtain ⟨o1, o2⟩ := ins_ops (by rw [h]; decide) (by rw [h]; decide) h2
  rw [h, show opc 13 = [111, 120, 121, 102] from rfl] at o1 o2
  rw [show p + 1 + ln [111, 120, 121, 102] = p + 5 from by rw [show ln [111, 120, 121, 102] = 4 from rfl]; grind] at o2
  have p3 : 0 ≤ p + 3 := by grind
  have p4 : 0 ≤ p + 4 := by grind
  obtain ⟨i1, o1⟩ := ops_in p1 o1
  rw [a2] at o1
  have l1 : 0 ≤ (bt A r.toNatClampNeg (p + 1)) := Int32.le_trans (lo_ge _ _) i1.1
  have q1 := hb.lt l1
  obtain ⟨i2, o1⟩ := ops_in p2 o1
  rw [a3] at o1
  have l2 : 0 ≤ (bt A r.toNatClampNeg (p + 2)) := Int32.le_trans (lo_ge _ _) i2.1
  have q2 := hb.lt l2
  obtain ⟨i3, o1⟩ := ops_in p3 o1
  rw [a4] at o1
  have l3 : 0 ≤ (bt A r.toNatClampNeg (p + 3)) := Int32.le_trans (lo_ge _ _) i3.1
  have q3 := hb.lt l3
  obtain ⟨i4, o1⟩ := ops_in p4 o1
  have l4 : 0 ≤ (bt A r.toNatClampNeg (p + 4)) := Int32.le_trans (lo_ge _ _) i4.1
  have q4 := hb.lt l4
  have u1 : (bt A r.toNatClampNeg (p + 1)) ≤ 3 := i1.2
  have vo : 0 ≤ (bt A r.toNatClampNeg (p + 1)) ∧ (bt A r.toNatClampNeg (p + 1)) < 4 := by grind
  have ho := tn4 vo.1 vo.2
  rw [o2] at hH h5 g124
  have ka := kd_act ho
  have hS : G_75 S = some (0, (xa_u (xa_u (xa_u (xa_u ((ca S (p + 5)).1) (11 + (bt A r.toNatClampNeg (p + 1)).toNatClampNeg) 5 1) (11 + (bt A r.toNatClampNeg (p + 1)).toNatClampNeg) 10 (bt A r.toNatClampNeg (p + 2))) (11 + (bt A r.toNatClampNeg (p + 1)).toNatClampNeg) 11 (bt A r.toNatClampNeg (p + 3))) (11 + (bt A r.toNatClampNeg (p + 1)).toNatClampNeg) 12 (bt A r.toNatClampNeg (p + 4)), (ca S (p + 5)).2)) := by
    unfold G_75
    rw [st]
    simp only [h]
    rw [if_neg (by decide), if_neg (by decide), if_neg (by decide), if_neg (by decide), if_neg (by decide), if_neg (by decide), if_neg (by decide), if_neg (by decide), if_neg (by decide), if_neg (by decide)]
    unfold G_83
    simp only [C_76 hw hc hr hR.lg p1 q1, a2, V_55, if_pos vo]
    rw [if_neg (by decide), if_neg (by decide), if_neg (by decide), if_neg (by decide), if_neg (by decide), if_neg (by decide)]
    unfold G_84
    simp only [C_76 hw hc hr hR.lg p2 q2, a3, C_76 hw hc hr hR.lg p3 q3, a4]
    rw [if_neg (by decide), if_neg (by decide), if_pos trivial]
    unfold G_18
    simp only [C_76 hw hc hr hR.lg p4 q4, a5, if_pos ka]
  have hm3 : MR (xa_u (xa_u (xa_u A (20 + 5) (bt A r.toNatClampNeg (p + 1)).toNatClampNeg 1) (20 + 10) (bt A r.toNatClampNeg (p + 1)).toNatClampNeg (bt A r.toNatClampNeg (p + 2))) (20 + 11) (bt A r.toNatClampNeg (p + 1)).toNatClampNeg (bt A r.toNatClampNeg (p + 3))) C z (xa_u (xa_u (xa_u (xa_u T1.1 56 w (p + 5)) 47 (bt A r.toNatClampNeg (p + 1)).toNatClampNeg 1) 51 (bt A r.toNatClampNeg (p + 1)).toNatClampNeg (bt A r.toNatClampNeg (p + 2))) 52 (bt A r.toNatClampNeg (p + 1)).toNatClampNeg (bt A r.toNatClampNeg (p + 3)), T1.2.1, T1.2.2) := ((hH.m2.uact (f := 5) ho (by decide) _).uact (f := 10) ho (by decide) _).uact (f := 11) ho (by decide) _
  have hw3 : WF (xa_u (xa_u (xa_u A (20 + 5) (bt A r.toNatClampNeg (p + 1)).toNatClampNeg 1) (20 + 10) (bt A r.toNatClampNeg (p + 1)).toNatClampNeg (bt A r.toNatClampNeg (p + 2))) (20 + 11) (bt A r.toNatClampNeg (p + 1)).toNatClampNeg (bt A r.toNatClampNeg (p + 3))) := ((hw.ua (f := 5) (by decide) (by decide)).ua (f := 10) (by decide) (by decide)).ua (f := 11) (by decide) (by decide)
  have m4 := M_118 hw3 hm3 r0 r4 p4
  have hb4 : bt (xa_u (xa_u (xa_u A (20 + 5) (bt A r.toNatClampNeg (p + 1)).toNatClampNeg 1) (20 + 10) (bt A r.toNatClampNeg (p + 1)).toNatClampNeg (bt A r.toNatClampNeg (p + 2))) (20 + 11) (bt A r.toNatClampNeg (p + 1)).toNatClampNeg (bt A r.toNatClampNeg (p + 3))) r.toNatClampNeg = bt A r.toNatClampNeg := ((((RE.u (A := A) (c := 20 + 5) (k := (bt A r.toNatClampNeg (p + 1)).toNatClampNeg) 1 (by unfold rsc; omega)).trans (RE.u (c := 20 + 10) _ (by unfold rsc; omega))).trans (RE.u (c := 20 + 11) _ (by unfold rsc; omega))).b0 hr).symm
  rw [hb4] at m4
  have hM : G_131 T = some (0, (xa_u (xa_u (xa_u (xa_u (xa_u T1.1 56 w (p + 5)) 47 (bt A r.toNatClampNeg (p + 1)).toNatClampNeg 1) 51 (bt A r.toNatClampNeg (p + 1)).toNatClampNeg (bt A r.toNatClampNeg (p + 2))) 52 (bt A r.toNatClampNeg (p + 1)).toNatClampNeg (bt A r.toNatClampNeg (p + 3))) 53 (bt A r.toNatClampNeg (p + 1)).toNatClampNeg (bt A r.toNatClampNeg (p + 4)), T1.2)) := by
    unfold G_131
    rw [hR.un, pm1, if_pos (in4n w3), wn, hR.tl, hR.tp, M_118 hw hm r0 r4 h0]
    simp only [g124, M_118 hw hH.m r0 r4 p1, hH.un, pm1, if_pos (in4n w3), wn, hH.r34]
    rw [if_neg (by rw [h]; decide), if_pos (by rw [h]; decide), if_neg (by rw [h]; decide), if_neg (by rw [h]; decide), if_neg (by rw [h]; decide), if_neg (by rw [h]; decide), if_neg (by rw [h]; decide)]
    unfold G_143
    simp only [M_118 hw hH.m2 r0 r4 h0, M_118 hw hH.m2 r0 r4 p1, M_118 hw hH.m2 r0 r4 p2, M_118 hw hH.m2 r0 r4 p3, if_pos ((xin4 _).mpr vo), h]
    rw [if_neg (by decide), if_neg (by decide), if_neg (by decide), if_neg (by decide), if_pos trivial]
    simp only [m4]
  refine ⟨0, _, _, _, hS, hM, Out.of2 hR hH ((((hc.ca (p + 5)).uact (f := 5) ho (by decide) _).uact (f := 10) ho (by decide) _).uact (f := 11) ho (by decide) _ |>.uact (f := 12) ho (by decide) _) (hm3.uact (f := 12) ho (by decide) _) (hw3.ug ⟨l4, Int32.lt_of_le_of_lt (show (bt A r.toNatClampNeg (p + 4)) ≤ 15 from i4.2) (by decide)⟩) ((((RE.u (A := A) (c := 20 + 5) (k := (bt A r.toNatClampNeg (p + 1)).toNatClampNeg) 1 (by unfold rsc; omega)).trans (RE.u (c := 20 + 10) _ (by unfold rsc; omega))).trans (RE.u (c := 20 + 11) _ (by unfold rsc; omega))).trans (RE.u _ (by unfold rsc; omega))) ?_ ?_ h5 rfl (fun c k hk => ?_) (fun c k hk => ?_)⟩
  · rw [xa_c (by omega), xa_c (by omega), xa_c (by omega), xa_c (by omega)]
  · rw [xa_c (by omega), xa_c (by omega), xa_c (by omega), xa_c (by omega)]
  · show xa_u (xa_u (xa_u (xa_u ((ca S (p + 5)).1) (11 + (bt A r.toNatClampNeg (p + 1)).toNatClampNeg) 5 1) (11 + (bt A r.toNatClampNeg (p + 1)).toNatClampNeg) 10 (bt A r.toNatClampNeg (p + 2))) (11 + (bt A r.toNatClampNeg (p + 1)).toNatClampNeg) 11 (bt A r.toNatClampNeg (p + 3))) (11 + (bt A r.toNatClampNeg (p + 1)).toNatClampNeg) 12 (bt A r.toNatClampNeg (p + 4)) c k = _
    rw [xa_c (by omega), xa_c (by omega), xa_c (by omega), xa_c (by omega)]
  · show xa_u (xa_u (xa_u (xa_u (xa_u T1.1 56 w (p + 5)) 47 (bt A r.toNatClampNeg (p + 1)).toNatClampNeg 1) 51 (bt A r.toNatClampNeg (p + 1)).toNatClampNeg (bt A r.toNatClampNeg (p + 2))) 52 (bt A r.toNatClampNeg (p + 1)).toNatClampNeg (bt A r.toNatClampNeg (p + 3))) 53 (bt A r.toNatClampNeg (p + 1)).toNatClampNeg (bt A r.toNatClampNeg (p + 4)) c k = _
    rw [xa_c (by omega), xa_c (by omega), xa_c (by omega), xa_c (by omega)]
theorem st_9 (hw : WF A) {S T : St} {w : Nat} {r p : Int32} (hc : CR A M S) (hm : MR A C z T) (hR : Rn A S T w r p) (hww : T.1 29 7 = -1) (hne : p ≠ A 5 r.toNatClampNeg) (h : bt A r.toNatClampNeg p = 9) : ∃ v A' S' T', G_75 S = some (v, S') ∧ G_131 T = some (v, T') ∧ Out M C z A w v A' S' T' := by
  obtain ⟨h0, h1, h2, h3, h4, h5, h6⟩ := hR.pl.at hw hne
  obtain ⟨T1, g124, hH⟩ := M_hd hw hm hR hww hne
  have r0 : 0 ≤ r := by have := hR.pl.1; grind
  have r4 := hR.pl.2.1
  have hr := tn4 r0 r4
  have hb := hw.b0 hr
  have n6 := hb.n64
  have w3 := hR.w3
  have st := C_st hw hc hR h0 h1
  have wn : (Int32.ofNat w).toNatClampNeg = w := ni_tn (by omega)
  have p1 : 0 ≤ p + 1 := by grind
  have p2 : 0 ≤ p + 2 := by grind
  have a2 : p + 1 + 1 = p + 2 := by grind
  have a3 : p + 2 + 1 = p + 3 := by grind
  have a4 : p + 3 + 1 = p + 4 := by grind
  have a5 : p + 4 + 1 = p + 5 := by grind
  obtain ⟨o1, o2⟩ := ins_ops (by rw [h]; decide) (by rw [h]; decide) h2
  rw [h, show opc 9 = [111, 120, 121] from rfl] at o1 o2
  rw [show p + 1 + ln [111, 120, 121] = p + 4 from by rw [show ln [111, 120, 121] = 3 from rfl]; grind] at o2
  have p3 : 0 ≤ p + 3 := by grind
  have p4 : 0 ≤ p + 4 := by grind
  obtain ⟨i1, o1⟩ := ops_in p1 o1
  rw [a2] at o1
  have l1 : 0 ≤ (bt A r.toNatClampNeg (p + 1)) := Int32.le_trans (lo_ge _ _) i1.1
  have q1 := hb.lt l1
  obtain ⟨i2, o1⟩ := ops_in p2 o1
  rw [a3] at o1
  have l2 : 0 ≤ (bt A r.toNatClampNeg (p + 2)) := Int32.le_trans (lo_ge _ _) i2.1
  have q2 := hb.lt l2
  obtain ⟨i3, o1⟩ := ops_in p3 o1
  have l3 : 0 ≤ (bt A r.toNatClampNeg (p + 3)) := Int32.le_trans (lo_ge _ _) i3.1
  have q3 := hb.lt l3
  have u1 : (bt A r.toNatClampNeg (p + 1)) ≤ 3 := i1.2
  have vo : 0 ≤ (bt A r.toNatClampNeg (p + 1)) ∧ (bt A r.toNatClampNeg (p + 1)) < 4 := by grind
  have ho := tn4 vo.1 vo.2
  rw [o2] at hH h5 g124
  have ka := kd_act ho
  have wa := hw.act _ ho
  have u2 : (bt A r.toNatClampNeg (p + 2)) ≤ 15 := i2.2
  have u3 : (bt A r.toNatClampNeg (p + 3)) ≤ 11 := i3.2
  have k2 : xa_u (ca S (p + 4)).1 (11 + (bt A r.toNatClampNeg (p + 1)).toNatClampNeg) 7 1 (11 + (bt A r.toNatClampNeg (p + 1)).toNatClampNeg) 2 = A 22 (bt A r.toNatClampNeg (p + 1)).toNatClampNeg := by rw [xa_c (by omega)]; exact ((hc.ca (p + 4)).ks ho).2.2.1
  have hS : G_75 S = some (0, (xa_u (xa_u (xa_u ((ca S (p + 4)).1) (11 + (bt A r.toNatClampNeg (p + 1)).toNatClampNeg) 7 1) (11 + (bt A r.toNatClampNeg (p + 1)).toNatClampNeg) 0 (if 16 - A 22 (bt A r.toNatClampNeg (p + 1)).toNatClampNeg < (bt A r.toNatClampNeg (p + 2)) then 16 - A 22 (bt A r.toNatClampNeg (p + 1)).toNatClampNeg else (bt A r.toNatClampNeg (p + 2)))) (11 + (bt A r.toNatClampNeg (p + 1)).toNatClampNeg) 1 (bt A r.toNatClampNeg (p + 3)), (ca S (p + 4)).2)) := by
    unfold G_75
    rw [st]
    simp only [h]
    rw [if_neg (by decide), if_neg (by decide), if_neg (by decide), if_neg (by decide), if_neg (by decide), if_neg (by decide), if_neg (by decide), if_neg (by decide), if_neg (by decide), if_neg (by decide)]
    unfold G_83
    simp only [C_76 hw hc hr hR.lg p1 q1, a2, V_55, if_pos vo]
    rw [if_neg (by decide), if_neg (by decide), if_neg (by decide), if_neg (by decide), if_neg (by decide), if_neg (by decide)]
    unfold G_84
    simp only [C_76 hw hc hr hR.lg p2 q2, a3, C_76 hw hc hr hR.lg p3 q3, a4]
    rw [if_pos trivial]
    unfold G_16 G_1
    simp only [if_pos ka, k2]
    by_cases e : 16 - A 22 (bt A r.toNatClampNeg (p + 1)).toNatClampNeg < (bt A r.toNatClampNeg (p + 2))
    · simp only [if_pos e]
    · simp only [if_neg e]
  have m42 : xa_u (xa_u (xa_u (xa_u T1.1 56 w (p + 4)) 49 (bt A r.toNatClampNeg (p + 1)).toNatClampNeg 1) 42 (bt A r.toNatClampNeg (p + 1)).toNatClampNeg (bt A r.toNatClampNeg (p + 2))) 43 (bt A r.toNatClampNeg (p + 1)).toNatClampNeg (bt A r.toNatClampNeg (p + 3)) 42 (bt A r.toNatClampNeg (p + 1)).toNatClampNeg = (bt A r.toNatClampNeg (p + 2)) := by rw [xa_c (by omega), xa_e]
  have m44 : xa_u (xa_u (xa_u (xa_u T1.1 56 w (p + 4)) 49 (bt A r.toNatClampNeg (p + 1)).toNatClampNeg 1) 42 (bt A r.toNatClampNeg (p + 1)).toNatClampNeg (bt A r.toNatClampNeg (p + 2))) 43 (bt A r.toNatClampNeg (p + 1)).toNatClampNeg (bt A r.toNatClampNeg (p + 3)) 44 (bt A r.toNatClampNeg (p + 1)).toNatClampNeg = A 22 (bt A r.toNatClampNeg (p + 1)).toNatClampNeg := by rw [xa_c (by omega), xa_c (by omega), xa_c (by omega)]; exact (hH.m2.ks ho).2.2.1
  have hM : G_131 T = some (0, (xa_u (xa_u (xa_u (xa_u (xa_u T1.1 56 w (p + 4)) 49 (bt A r.toNatClampNeg (p + 1)).toNatClampNeg 1) 42 (bt A r.toNatClampNeg (p + 1)).toNatClampNeg (bt A r.toNatClampNeg (p + 2))) 43 (bt A r.toNatClampNeg (p + 1)).toNatClampNeg (bt A r.toNatClampNeg (p + 3))) 42 (bt A r.toNatClampNeg (p + 1)).toNatClampNeg (if 16 - A 22 (bt A r.toNatClampNeg (p + 1)).toNatClampNeg < (bt A r.toNatClampNeg (p + 2)) then 16 - A 22 (bt A r.toNatClampNeg (p + 1)).toNatClampNeg else (bt A r.toNatClampNeg (p + 2))), T1.2)) := by
    unfold G_131
    rw [hR.un, pm1, if_pos (in4n w3), wn, hR.tl, hR.tp, M_118 hw hm r0 r4 h0]
    simp only [g124, M_118 hw hH.m r0 r4 p1, hH.un, pm1, if_pos (in4n w3), wn, hH.r34]
    rw [if_neg (by rw [h]; decide), if_pos (by rw [h]; decide), if_neg (by rw [h]; decide), if_neg (by rw [h]; decide), if_neg (by rw [h]; decide), if_neg (by rw [h]; decide), if_neg (by rw [h]; decide)]
    unfold G_143
    simp only [M_118 hw hH.m2 r0 r4 h0, M_118 hw hH.m2 r0 r4 p1, M_118 hw hH.m2 r0 r4 p2, M_118 hw hH.m2 r0 r4 p3, if_pos ((xin4 _).mpr vo), h]
    rw [if_pos trivial]
    unfold G_144
    simp only [if_pos ((xin4 _).mpr vo), m42, m44]
    by_cases e : 16 - A 22 (bt A r.toNatClampNeg (p + 1)).toNatClampNeg < (bt A r.toNatClampNeg (p + 2))
    · simp only [if_pos e, if_neg (Int32.not_le.mpr e)]
    · simp only [if_neg e, if_pos (Int32.not_lt.mp e)]
  have hA : xa_u (xa_u (xa_u (xa_u A (20 + 7) (bt A r.toNatClampNeg (p + 1)).toNatClampNeg 1) (20 + 0) (bt A r.toNatClampNeg (p + 1)).toNatClampNeg (bt A r.toNatClampNeg (p + 2))) (20 + 1) (bt A r.toNatClampNeg (p + 1)).toNatClampNeg (bt A r.toNatClampNeg (p + 3))) (20 + 0) (bt A r.toNatClampNeg (p + 1)).toNatClampNeg (if 16 - A 22 (bt A r.toNatClampNeg (p + 1)).toNatClampNeg < (bt A r.toNatClampNeg (p + 2)) then 16 - A 22 (bt A r.toNatClampNeg (p + 1)).toNatClampNeg else (bt A r.toNatClampNeg (p + 2))) = xa_u (xa_u (xa_u A (20 + 7) (bt A r.toNatClampNeg (p + 1)).toNatClampNeg 1) (20 + 0) (bt A r.toNatClampNeg (p + 1)).toNatClampNeg (if 16 - A 22 (bt A r.toNatClampNeg (p + 1)).toNatClampNeg < (bt A r.toNatClampNeg (p + 2)) then 16 - A 22 (bt A r.toNatClampNeg (p + 1)).toNatClampNeg else (bt A r.toNatClampNeg (p + 2)))) (20 + 1) (bt A r.toNatClampNeg (p + 1)).toNatClampNeg (bt A r.toNatClampNeg (p + 3)) := by
    funext c k; simp only [xa_if]; grind
  have hmm := (((hH.m2.uact (f := 7) ho (by decide) 1).uact (f := 0) ho (by decide) (bt A r.toNatClampNeg (p + 2))).uact (f := 1) ho (by decide) (bt A r.toNatClampNeg (p + 3))).uact (f := 0) ho (by decide) (if 16 - A 22 (bt A r.toNatClampNeg (p + 1)).toNatClampNeg < (bt A r.toNatClampNeg (p + 2)) then 16 - A 22 (bt A r.toNatClampNeg (p + 1)).toNatClampNeg else (bt A r.toNatClampNeg (p + 2)))
  rw [hA] at hmm
  have hX := rz (x := (bt A r.toNatClampNeg (p + 2))) (a := A 22 (bt A r.toNatClampNeg (p + 1)).toNatClampNeg) l2 (Int32.lt_of_le_of_lt u2 (by decide)) wa.2.2.1 wa.2.2.2.1
  have hw' : WF (xa_u (xa_u (xa_u A (20 + 7) (bt A r.toNatClampNeg (p + 1)).toNatClampNeg 1) (20 + 0) (bt A r.toNatClampNeg (p + 1)).toNatClampNeg (if 16 - A 22 (bt A r.toNatClampNeg (p + 1)).toNatClampNeg < (bt A r.toNatClampNeg (p + 2)) then 16 - A 22 (bt A r.toNatClampNeg (p + 1)).toNatClampNeg else (bt A r.toNatClampNeg (p + 2)))) (20 + 1) (bt A r.toNatClampNeg (p + 1)).toNatClampNeg (bt A r.toNatClampNeg (p + 3))) := by
    have hw1 : WF (xa_u A (20 + 7) (bt A r.toNatClampNeg (p + 1)).toNatClampNeg 1) := hw.ua (by decide) (by decide)
    refine hw1.upos ho ⟨hX.1, hX.2.1, ?_, l3, Int32.lt_of_le_of_lt u3 (by decide)⟩
    rw [xa_c (by omega)]; exact hX.2.2
  refine ⟨0, _, _, _, hS, hM, Out.of2 hR hH ((((hc.ca (p + 4)).uact (f := 7) ho (by decide) _).uact (f := 0) ho (by decide) _).uact (f := 1) ho (by decide) _) hmm hw' (((RE.u (A := A) (c := 20 + 7) (k := (bt A r.toNatClampNeg (p + 1)).toNatClampNeg) 1 (by unfold rsc; omega)).trans (RE.u (c := 20 + 0) _ (by unfold rsc; omega))).trans (RE.u (c := 20 + 1) _ (by unfold rsc; omega))) ?_ ?_ h5 rfl (fun c k hk => ?_) (fun c k hk => ?_)⟩
  · rw [xa_c (by omega), xa_c (by omega), xa_c (by omega)]
  · rw [xa_c (by omega), xa_c (by omega), xa_c (by omega)]
  · show xa_u (xa_u (xa_u ((ca S (p + 4)).1) (11 + (bt A r.toNatClampNeg (p + 1)).toNatClampNeg) 7 1) (11 + (bt A r.toNatClampNeg (p + 1)).toNatClampNeg) 0 (if 16 - A 22 (bt A r.toNatClampNeg (p + 1)).toNatClampNeg < (bt A r.toNatClampNeg (p + 2)) then 16 - A 22 (bt A r.toNatClampNeg (p + 1)).toNatClampNeg else (bt A r.toNatClampNeg (p + 2)))) (11 + (bt A r.toNatClampNeg (p + 1)).toNatClampNeg) 1 (bt A r.toNatClampNeg (p + 3)) c k = _
    rw [xa_c (by omega), xa_c (by omega), xa_c (by omega)]
  · show xa_u (xa_u (xa_u (xa_u (xa_u T1.1 56 w (p + 4)) 49 (bt A r.toNatClampNeg (p + 1)).toNatClampNeg 1) 42 (bt A r.toNatClampNeg (p + 1)).toNatClampNeg (bt A r.toNatClampNeg (p + 2))) 43 (bt A r.toNatClampNeg (p + 1)).toNatClampNeg (bt A r.toNatClampNeg (p + 3))) 42 (bt A r.toNatClampNeg (p + 1)).toNatClampNeg (if 16 - A 22 (bt A r.toNatClampNeg (p + 1)).toNatClampNeg < (bt A r.toNatClampNeg (p + 2)) then 16 - A 22 (bt A r.toNatClampNeg (p + 1)).toNatClampNeg else (bt A r.toNatClampNeg (p + 2))) c k = _
    rw [xa_c (by omega), xa_c (by omega), xa_c (by omega), xa_c (by omega)]
theorem st_11 (hw : WF A) {S T : St} {w : Nat} {r p : Int32} (hc : CR A M S) (hm : MR A C z T) (hR : Rn A S T w r p) (hww : T.1 29 7 = -1) (hne : p ≠ A 5 r.toNatClampNeg) (h : bt A r.toNatClampNeg p = 11) : ∃ v A' S' T', G_75 S = some (v, S') ∧ G_131 T = some (v, T') ∧ Out M C z A w v A' S' T' := by
  obtain ⟨h0, h1, h2, h3, h4, h5, h6⟩ := hR.pl.at hw hne
  obtain ⟨T1, g124, hH⟩ := M_hd hw hm hR hww hne
  have r0 : 0 ≤ r := by have := hR.pl.1; grind
  have r4 := hR.pl.2.1
  have hr := tn4 r0 r4
  have hb := hw.b0 hr
  have n6 := hb.n64
  have w3 := hR.w3
  have st := C_st hw hc hR h0 h1
  have wn : (Int32.ofNat w).toNatClampNeg = w := ni_tn (by omega)
  have p1 : 0 ≤ p + 1 := by grind
  have p2 : 0 ≤ p + 2 := by grind
  have a2 : p + 1 + 1 = p + 2 := by grind
  have a3 : p + 2 + 1 = p + 3 := by grind
  have a4 : p + 3 + 1 = p + 4 := by grind
  have a5 : p + 4 + 1 = p + 5 := by grind
  obtain ⟨o1, o2⟩ := ins_ops (by rw [h]; decide) (by rw [h]; decide) h2
  rw [h, show opc 11 = [111, 115, 115] from rfl] at o1 o2
  rw [show p + 1 + ln [111, 115, 115] = p + 4 from by rw [show ln [111, 115, 115] = 3 from rfl]; grind] at o2
  have p3 : 0 ≤ p + 3 := by grind
  have p4 : 0 ≤ p + 4 := by grind
  obtain ⟨i1, o1⟩ := ops_in p1 o1
  rw [a2] at o1
  have l1 : 0 ≤ (bt A r.toNatClampNeg (p + 1)) := Int32.le_trans (lo_ge _ _) i1.1
  have q1 := hb.lt l1
  obtain ⟨i2, o1⟩ := ops_in p2 o1
  rw [a3] at o1
  have l2 : 0 ≤ (bt A r.toNatClampNeg (p + 2)) := Int32.le_trans (lo_ge _ _) i2.1
  have q2 := hb.lt l2
  obtain ⟨i3, o1⟩ := ops_in p3 o1
  have l3 : 0 ≤ (bt A r.toNatClampNeg (p + 3)) := Int32.le_trans (lo_ge _ _) i3.1
  have q3 := hb.lt l3
  have u1 : (bt A r.toNatClampNeg (p + 1)) ≤ 3 := i1.2
  have vo : 0 ≤ (bt A r.toNatClampNeg (p + 1)) ∧ (bt A r.toNatClampNeg (p + 1)) < 4 := by grind
  have ho := tn4 vo.1 vo.2
  rw [o2] at hH h5 g124
  have ka := kd_act ho
  have wa := hw.act _ ho
  have u2 : (bt A r.toNatClampNeg (p + 2)) ≤ 4 := i2.2
  have d2 : 1 ≤ (bt A r.toNatClampNeg (p + 2)) := i2.1
  have k0 : xa_u (xa_u ((ca S (p + 4)).1) (11 + (bt A r.toNatClampNeg (p + 1)).toNatClampNeg) 2 (bt A r.toNatClampNeg (p + 2))) (11 + (bt A r.toNatClampNeg (p + 1)).toNatClampNeg) 3 (bt A r.toNatClampNeg (p + 3)) (11 + (bt A r.toNatClampNeg (p + 1)).toNatClampNeg) 0 = A 20 (bt A r.toNatClampNeg (p + 1)).toNatClampNeg := by rw [xa_c (by omega), xa_c (by omega)]; exact ((hc.ca (p + 4)).ks ho).1
  have k2 : xa_u (xa_u ((ca S (p + 4)).1) (11 + (bt A r.toNatClampNeg (p + 1)).toNatClampNeg) 2 (bt A r.toNatClampNeg (p + 2))) (11 + (bt A r.toNatClampNeg (p + 1)).toNatClampNeg) 3 (bt A r.toNatClampNeg (p + 3)) (11 + (bt A r.toNatClampNeg (p + 1)).toNatClampNeg) 2 = (bt A r.toNatClampNeg (p + 2)) := by rw [xa_c (by omega), xa_e]
  have hS : G_75 S = some (0, (xa_u (xa_u (xa_u ((ca S (p + 4)).1) (11 + (bt A r.toNatClampNeg (p + 1)).toNatClampNeg) 2 (bt A r.toNatClampNeg (p + 2))) (11 + (bt A r.toNatClampNeg (p + 1)).toNatClampNeg) 3 (bt A r.toNatClampNeg (p + 3))) (11 + (bt A r.toNatClampNeg (p + 1)).toNatClampNeg) 0 (if 16 - (bt A r.toNatClampNeg (p + 2)) < A 20 (bt A r.toNatClampNeg (p + 1)).toNatClampNeg then 16 - (bt A r.toNatClampNeg (p + 2)) else A 20 (bt A r.toNatClampNeg (p + 1)).toNatClampNeg), (ca S (p + 4)).2)) := by
    unfold G_75
    rw [st]
    simp only [h]
    rw [if_neg (by decide), if_neg (by decide), if_neg (by decide), if_neg (by decide), if_neg (by decide), if_neg (by decide), if_neg (by decide), if_neg (by decide), if_neg (by decide), if_neg (by decide)]
    unfold G_83
    simp only [C_76 hw hc hr hR.lg p1 q1, a2, V_55, if_pos vo]
    rw [if_neg (by decide), if_neg (by decide), if_neg (by decide), if_neg (by decide), if_neg (by decide), if_neg (by decide)]
    unfold G_84
    simp only [C_76 hw hc hr hR.lg p2 q2, a3, C_76 hw hc hr hR.lg p3 q3, a4]
    rw [if_neg (by decide), if_pos trivial]
    unfold G_17 G_1
    simp only [if_pos ka, k0, k2]
    by_cases e : 16 - (bt A r.toNatClampNeg (p + 2)) < A 20 (bt A r.toNatClampNeg (p + 1)).toNatClampNeg
    · simp only [if_pos e]
    · simp only [if_neg e]
  have m42 : xa_u (xa_u (xa_u T1.1 56 w (p + 4)) 44 (bt A r.toNatClampNeg (p + 1)).toNatClampNeg (bt A r.toNatClampNeg (p + 2))) 45 (bt A r.toNatClampNeg (p + 1)).toNatClampNeg (bt A r.toNatClampNeg (p + 3)) 42 (bt A r.toNatClampNeg (p + 1)).toNatClampNeg = A 20 (bt A r.toNatClampNeg (p + 1)).toNatClampNeg := by rw [xa_c (by omega), xa_c (by omega)]; exact (hH.m2.ks ho).1
  have m44 : xa_u (xa_u (xa_u T1.1 56 w (p + 4)) 44 (bt A r.toNatClampNeg (p + 1)).toNatClampNeg (bt A r.toNatClampNeg (p + 2))) 45 (bt A r.toNatClampNeg (p + 1)).toNatClampNeg (bt A r.toNatClampNeg (p + 3)) 44 (bt A r.toNatClampNeg (p + 1)).toNatClampNeg = (bt A r.toNatClampNeg (p + 2)) := by rw [xa_c (by omega), xa_e]
  have hM : G_131 T = some (0, (xa_u (xa_u (xa_u (xa_u T1.1 56 w (p + 4)) 44 (bt A r.toNatClampNeg (p + 1)).toNatClampNeg (bt A r.toNatClampNeg (p + 2))) 45 (bt A r.toNatClampNeg (p + 1)).toNatClampNeg (bt A r.toNatClampNeg (p + 3))) 42 (bt A r.toNatClampNeg (p + 1)).toNatClampNeg (if 16 - (bt A r.toNatClampNeg (p + 2)) < A 20 (bt A r.toNatClampNeg (p + 1)).toNatClampNeg then 16 - (bt A r.toNatClampNeg (p + 2)) else A 20 (bt A r.toNatClampNeg (p + 1)).toNatClampNeg), T1.2)) := by
    unfold G_131
    rw [hR.un, pm1, if_pos (in4n w3), wn, hR.tl, hR.tp, M_118 hw hm r0 r4 h0]
    simp only [g124, M_118 hw hH.m r0 r4 p1, hH.un, pm1, if_pos (in4n w3), wn, hH.r34]
    rw [if_neg (by rw [h]; decide), if_pos (by rw [h]; decide), if_neg (by rw [h]; decide), if_neg (by rw [h]; decide), if_neg (by rw [h]; decide), if_neg (by rw [h]; decide), if_neg (by rw [h]; decide)]
    unfold G_143
    simp only [M_118 hw hH.m2 r0 r4 h0, M_118 hw hH.m2 r0 r4 p1, M_118 hw hH.m2 r0 r4 p2, M_118 hw hH.m2 r0 r4 p3, if_pos ((xin4 _).mpr vo), h]
    rw [if_neg (by decide), if_neg (by decide), if_pos trivial]
    unfold G_144
    simp only [if_pos ((xin4 _).mpr vo), m42, m44]
    by_cases e : 16 - (bt A r.toNatClampNeg (p + 2)) < A 20 (bt A r.toNatClampNeg (p + 1)).toNatClampNeg
    · simp only [if_pos e, if_neg (Int32.not_le.mpr e)]
    · simp only [if_neg e, if_pos (Int32.not_lt.mp e)]
  have hX := rz (x := A 20 (bt A r.toNatClampNeg (p + 1)).toNatClampNeg) (a := (bt A r.toNatClampNeg (p + 2))) wa.1 wa.2.1 d2 u2
  refine ⟨0, _, _, _, hS, hM, Out.of2 hR hH ((((hc.ca (p + 4)).uact (f := 2) ho (by decide) _).uact (f := 3) ho (by decide) _).uact (f := 0) ho (by decide) _) (((hH.m2.uact (f := 2) ho (by decide) _).uact (f := 3) ho (by decide) _).uact (f := 0) ho (by decide) _) (hw.usz ho ⟨hX.1, hX.2.1, d2, u2, hX.2.2⟩) (((RE.u (A := A) (c := 20 + 2) (k := (bt A r.toNatClampNeg (p + 1)).toNatClampNeg) _ (by unfold rsc; omega)).trans (RE.u (c := 20 + 3) _ (by unfold rsc; omega))).trans (RE.u (c := 20 + 0) _ (by unfold rsc; omega))) ?_ ?_ h5 rfl (fun c k hk => ?_) (fun c k hk => ?_)⟩
  · rw [xa_c (by omega), xa_c (by omega), xa_c (by omega)]
  · rw [xa_c (by omega), xa_c (by omega), xa_c (by omega)]
  · show xa_u (xa_u (xa_u ((ca S (p + 4)).1) (11 + (bt A r.toNatClampNeg (p + 1)).toNatClampNeg) 2 (bt A r.toNatClampNeg (p + 2))) (11 + (bt A r.toNatClampNeg (p + 1)).toNatClampNeg) 3 (bt A r.toNatClampNeg (p + 3))) (11 + (bt A r.toNatClampNeg (p + 1)).toNatClampNeg) 0 (if 16 - (bt A r.toNatClampNeg (p + 2)) < A 20 (bt A r.toNatClampNeg (p + 1)).toNatClampNeg then 16 - (bt A r.toNatClampNeg (p + 2)) else A 20 (bt A r.toNatClampNeg (p + 1)).toNatClampNeg) c k = _
    rw [xa_c (by omega), xa_c (by omega), xa_c (by omega)]
  · show xa_u (xa_u (xa_u (xa_u T1.1 56 w (p + 4)) 44 (bt A r.toNatClampNeg (p + 1)).toNatClampNeg (bt A r.toNatClampNeg (p + 2))) 45 (bt A r.toNatClampNeg (p + 1)).toNatClampNeg (bt A r.toNatClampNeg (p + 3))) 42 (bt A r.toNatClampNeg (p + 1)).toNatClampNeg (if 16 - (bt A r.toNatClampNeg (p + 2)) < A 20 (bt A r.toNatClampNeg (p + 1)).toNatClampNeg then 16 - (bt A r.toNatClampNeg (p + 2)) else A 20 (bt A r.toNatClampNeg (p + 1)).toNatClampNeg) c k = _
    rw [xa_c (by omega), xa_c (by omega), xa_c (by omega)]
end
