theorem xa_swl {α : Type} {res : α} {k : Nat → α} (pc : Nat) : ∀ (ps : List (Int × Int)) (ks : List (Int32 × Nat)) (x : Int32) (d : Nat) (df : Int), ps.map (fun q => (q.1, (pc : Int) + q.2)) = ks.map (fun q => (q.1.toInt, (q.2 : Int))) → (pc : Int) + df = (d : Int) → xa_sw ks x d k = res → ∃ t : Nat, k t = res ∧ (pc : Int) + Op.lookupswitch.offset ps df x.toInt = (t : Int)
  | [], [], x, d, df, _, hd, h => ⟨d, h, hd⟩
  | [], q :: ks, x, d, df, he, _, _ => by simp at he
  | q :: ps, [], x, d, df, he, _, _ => by simp at he
  | (a, o) :: ps, (i, t) :: ks, x, d, df, he, hd, h => by
    simp only [List.map_cons, List.cons.injEq, Prod.mk.injEq] at he
    obtain ⟨⟨e1, e2⟩, e3⟩ := he
    unfold xa_sw at h
    rw [Op.lookupswitch.offset_cons]
    by_cases hx : x = i
    · rw [if_pos hx] at h
      rw [if_pos (by rw [e1, hx])]
      exact ⟨t, h, e2⟩
    · rw [if_neg hx] at h
      rw [if_neg (fun z => hx (Int32.toInt_inj.mp (by rw [← z, e1])))]
      exact xa_swl pc ps ks x d df e3 hd h
theorem xn_split {i c n : Nat} (h : c ≤ i ∧ i < c + n) : ∃ k : Nat, i = c + k ∧ k < n := ⟨i - c, by omega, by omega⟩
theorem xn_ge {c k : Nat} (h : 1000 ≤ c) : ¬ c + k < 1000 := by omega
theorem xn_23 (k : Nat) : 2000 + k + 1000 = 3000 + k := by omega
theorem xn_33 (k : Nat) : 3000 + k - 3000 = k := by omega
theorem xrec {st : List Value} {n i : Nat} (hn : 1 ≤ n) (h : st[n - 1]? = some (.ref i)) : ∃ As, (st.take n).reverse = .ref i :: As := by
  have hl := (List.getElem?_eq_some_iff.mp h).1
  have e : st.take n = st.take (n - 1) ++ [.ref i] := by
    have h2 := List.take_succ (l := st) (i := n - 1)
    rw [show n - 1 + 1 = n by omega, h] at h2
    exact h2
  exact ⟨(st.take (n - 1)).reverse, by rw [e, List.reverse_append]; rfl⟩
set_option maxHeartbeats 40000000 in
set_option maxRecDepth 100000 in
theorem snd_step (X : Nat × (Nat → Int32)) (d : Nat) (hM : ∀ d', d = d' + 1 → Sd X d') : Sd X d := by
  intro n
  induction n with
  | zero => intro mi pc L st h r h' hq; simp [ex] at hq
  | succ n ih =>
    intro mi pc L st h r h' hq p l e R s m args below meth c D dA B sp H locs cells slots Tc Ts Q ls C hz hP hS hl hTc hTs hRc hRs hret
    have hmono := ex_mono _ _ _ _ _ _ _ _ _ hq
    have C0 := C
    obtain ⟨hx, hb, hml, hown, hts, hnm, hfr, hlo, hK, hN, hX, hsp, hB, hmi, hZ, hY⟩ := C0
    have hk := xk mi hmi pc
    have go : ∀ (pc' : Nat) (L' st' : List Value) (ls' : Array Slot), ex X d mi pc' L' st' h n = some (r, h') → xh B sp ls' (xm_l mi) L' → W p l e R s m args below meth c H locs cells slots Q (F0 m pc' ls' (st'.map (xv B sp))) := fun pc' L' st' ls' hq' hl' => ih mi pc' L' st' h r h' hq' p l e R s m args below meth c D dA B sp H locs cells slots Tc Ts Q ls' C hz hP hS hl' hTc hTs hRc hRs hret
    have gs : ∀ (pc' : Nat) (st' : List Value) (h2 : xa_H) (H1 : Heap) (locs1 : List Loc), ex X d mi pc' L st' h2 n = some (r, h') → h2.1 = h.1 → h2.2.1 = h.2.1 → H1.size = H.size → va_P D xc_l (xw dA B sp h2) H1 → va_S (fun q => B ≤ q) s.heap H1 locs1 → W p l e R s m args below meth c H1 locs1 cells slots Q (F0 m pc' ls (st'.map (xv B sp))) := fun pc' st' h2 H1 locs1 hq' e1 e2 hz1 hP1 hS1 => ih mi pc' L st' h2 r h' hq' p l e R s m args below meth c D dA B sp H1 locs1 cells slots Tc Ts Q ls C (by rw [hz1, hz, e1]) hP1 hS1 hl (by rw [e1]; exact hTc) (by rw [e2]; exact hTs) hRc hRs hret
    have hD := xw_D dA B sp h
    rw [ex] at hq
    unfold xs at hq
    unfold xk_B at hk
    rcases hcd : cdt mi pc with ⟨i, a, b, c0, v⟩
    rw [hcd] at hq hk
    cases i
    case iconst k0 =>
      dsimp only at hq hk
      simp only [Bool.and_eq_true, decide_eq_true_eq] at hk
      exact lv_iconst hx hb hk.1 hk.2 (go _ _ _ _ hq hl)
    case bipush k0 =>
      dsimp only at hq hk
      simp only [Bool.and_eq_true, decide_eq_true_eq] at hk
      exact lv_bipush hx hb hk.1 hk.2 (go _ _ _ _ hq hl)
    case sipush k0 =>
      dsimp only at hq hk
      simp only [Bool.and_eq_true, decide_eq_true_eq] at hk
      exact lv_sipush hx hb hk.1 hk.2 (go _ _ _ _ hq hl)
    case aconst_null =>
      dsimp only at hq hk
      simp only [decide_eq_true_eq] at hk
      exact lv_null hx hb hk (go _ _ _ _ hq hl)
    case iload_n k0 =>
      dsimp only at hq hk
      simp only [Bool.and_eq_true, decide_eq_true_eq] at hk
      split at hq
      · rename_i x hLx
        exact lv_iload_n hx hb hk.1 hk.2 (xh_at hl hLx rfl) (go _ _ _ _ hq hl)
      · cases hq
    case iload k0 =>
      dsimp only at hq hk
      simp only [Bool.and_eq_true, decide_eq_true_eq] at hk
      obtain ⟨hk1, rfl⟩ := hk
      split at hq
      · rename_i x hLx
        exact lv_iload hx hb hk1 (xh_at hl hLx rfl) (go _ _ _ _ hq hl)
      · cases hq
    case aload_n k0 =>
      dsimp only at hq hk
      simp only [Bool.and_eq_true, decide_eq_true_eq] at hk
      split at hq
      · rename_i x hLx
        exact lv_aload_n hx hb hk.1 hk.2 (xh_at hl hLx rfl) (go _ _ _ _ hq hl)
      · rename_i hLx
        exact lv_aload_nN hx hb hk.1 hk.2 (xh_at hl hLx rfl) (go _ _ _ _ hq hl)
      · cases hq
    case aload k0 =>
      dsimp only at hq hk
      simp only [Bool.and_eq_true, decide_eq_true_eq] at hk
      obtain ⟨hk1, rfl⟩ := hk
      split at hq
      · rename_i x hLx
        exact lv_aload hx hb hk1 (xh_at hl hLx rfl) (go _ _ _ _ hq hl)
      · rename_i hLx
        exact lv_aloadN hx hb hk1 (xh_at hl hLx rfl) (go _ _ _ _ hq hl)
      · cases hq
    case istore_n k0 =>
      dsimp only at hq hk
      simp only [Bool.and_eq_true, decide_eq_true_eq] at hk
      split at hq
      · exact lv_istore_n hx hb hk.1.1 hk.1.2 hl.1 hk.2 rfl (fun ls1 hl1 => go _ _ _ _ hq (xh_set hl rfl hl1))
      · cases hq
    case istore k0 =>
      dsimp only at hq hk
      simp only [Bool.and_eq_true, decide_eq_true_eq] at hk
      obtain ⟨⟨hk1, rfl⟩, hk2⟩ := hk
      split at hq
      · exact lv_istore hx hb hk1 hl.1 hk2 rfl (fun ls1 hl1 => go _ _ _ _ hq (xh_set hl rfl hl1))
      · cases hq
    case astore_n k0 =>
      dsimp only at hq hk
      simp only [Bool.and_eq_true, decide_eq_true_eq] at hk
      split at hq
      · rename_i x rr
        exact lv_astore_n hx hb hk.1.1 hk.1.2 hl.1 hk.2 rfl (fun ls1 hl1 => go _ _ _ _ hq (xh_set (v := .ref x) hl rfl hl1))
      · exact lv_astore_nN hx hb hk.1.1 hk.1.2 hl.1 hk.2 rfl (fun ls1 hl1 => go _ _ _ _ hq (xh_set (v := .null) hl rfl hl1))
      · cases hq
    case astore k0 =>
      dsimp only at hq hk
      simp only [Bool.and_eq_true, decide_eq_true_eq] at hk
      obtain ⟨⟨hk1, rfl⟩, hk2⟩ := hk
      split at hq
      · rename_i x rr
        exact lv_astore hx hb hk1 hl.1 hk2 rfl (fun ls1 hl1 => go _ _ _ _ hq (xh_set (v := .ref x) hl rfl hl1))
      · exact lv_astoreN hx hb hk1 hl.1 hk2 rfl (fun ls1 hl1 => go _ _ _ _ hq (xh_set (v := .null) hl rfl hl1))
      · cases hq
    case iinc k0 n0 =>
      dsimp only at hq hk
      simp only [Bool.and_eq_true, decide_eq_true_eq] at hk
      obtain ⟨⟨⟨hk1, rfl⟩, hk2⟩, hk3⟩ := hk
      split at hq
      · rename_i x hLx
        obtain ⟨k9, hk9⟩ := List.getElem?_of_mem (xlv_in.mpr ⟨.int x, hLx, rfl, rfl⟩ : (k0, xv B sp (.int x)) ∈ xlv B sp L)
        exact lv_iinc hx hb hk1 hl.1 hk9 (by rw [hk3]) hk2 rfl (fun ls1 hl1 => go _ _ _ _ hq (xh_set (v := .int (x + v)) hl rfl hl1))
      · cases hq
    case iadd =>
      dsimp only at hq hk
      simp only [decide_eq_true_eq] at hk
      split at hq
      · exact lv_iadd hx hb hk (go _ _ _ _ hq hl)
      · cases hq
    case isub =>
      dsimp only at hq hk
      simp only [decide_eq_true_eq] at hk
      split at hq
      · exact lv_isub hx hb hk (go _ _ _ _ hq hl)
      · cases hq
    case imul =>
      dsimp only at hq hk
      simp only [decide_eq_true_eq] at hk
      split at hq
      · exact lv_imul hx hb hk (go _ _ _ _ hq hl)
      · cases hq
    case iand =>
      dsimp only at hq hk
      simp only [decide_eq_true_eq] at hk
      split at hq
      · exact lv_iand hx hb hk (go _ _ _ _ hq hl)
      · cases hq
    case ior =>
      dsimp only at hq hk
      simp only [decide_eq_true_eq] at hk
      split at hq
      · exact lv_ior hx hb hk (go _ _ _ _ hq hl)
      · cases hq
    case ixor =>
      dsimp only at hq hk
      simp only [decide_eq_true_eq] at hk
      split at hq
      · exact lv_ixor hx hb hk (go _ _ _ _ hq hl)
      · cases hq
    case ishl =>
      dsimp only at hq hk
      simp only [decide_eq_true_eq] at hk
      split at hq
      · exact lv_ishl hx hb hk (go _ _ _ _ hq hl)
      · cases hq
    case ishr =>
      dsimp only at hq hk
      simp only [decide_eq_true_eq] at hk
      split at hq
      · exact lv_ishr hx hb hk (go _ _ _ _ hq hl)
      · cases hq
    case iushr =>
      dsimp only at hq hk
      simp only [decide_eq_true_eq] at hk
      split at hq
      · exact lv_iushr hx hb hk rfl (go _ _ _ _ hq hl)
      · cases hq
    case idiv =>
      dsimp only at hq hk
      simp only [decide_eq_true_eq] at hk
      split at hq
      · split at hq
        · cases hq
        · rename_i hne
          exact lv_idiv hx hb hk hne (go _ _ _ _ hq hl)
      · cases hq
    case irem =>
      dsimp only at hq hk
      simp only [decide_eq_true_eq] at hk
      split at hq
      · split at hq
        · cases hq
        · rename_i hne
          exact lv_irem hx hb hk hne (go _ _ _ _ hq hl)
      · cases hq
    case ineg =>
      dsimp only at hq hk
      simp only [decide_eq_true_eq] at hk
      split at hq
      · exact lv_ineg hx hb hk (go _ _ _ _ hq hl)
      · cases hq
    case dup =>
      dsimp only at hq hk
      simp only [decide_eq_true_eq] at hk
      split at hq
      · split at hq
        · rename_i hc
          exact lv_dup hx hb hk (by rw [xv_cat]; exact hc) (go _ _ _ _ hq hl)
        · cases hq
      · cases hq
    case pop =>
      dsimp only at hq hk
      simp only [decide_eq_true_eq] at hk
      split at hq
      · split at hq
        · rename_i hc
          exact lv_pop hx hb hk (by rw [xv_cat]; exact hc) (go _ _ _ _ hq hl)
        · cases hq
      · cases hq
    case dup_x1 =>
      dsimp only at hq hk
      simp only [decide_eq_true_eq] at hk
      split at hq
      · split at hq
        · rename_i hc
          exact lv_dup_x1 hx hb hk (by rw [xv_cat]; exact hc.1) (by rw [xv_cat]; exact hc.2) (go _ _ _ _ hq hl)
        · cases hq
      · cases hq
    case dup2 =>
      dsimp only at hq hk
      simp only [decide_eq_true_eq] at hk
      split at hq
      · split at hq
        · rename_i hc
          exact lv_dup2_11 hx hb hk (by rw [xv_cat]; exact hc.1) (by rw [xv_cat]; exact hc.2) (go _ _ _ _ hq hl)
        · cases hq
      · cases hq
    case goto off =>
      dsimp only at hq hk
      simp only [Bool.and_eq_true, decide_eq_true_eq] at hk
      exact lv_goto hx hb hk.1 hk.2 (go _ _ _ _ hq hl)
    case ifCond k0 off =>
      dsimp only at hq hk
      simp only [Bool.and_eq_true, decide_eq_true_eq] at hk
      cases k0
      case eq =>
        dsimp only at hq
        split at hq
        · exact lv_if_eq hx hb hk.1 hk.2 (fun hc => go _ _ _ _ (by rw [if_pos hc] at hq; exact hq) hl) (fun hc => go _ _ _ _ (by rw [if_neg hc] at hq; exact hq) hl)
        · cases hq
      case ne =>
        dsimp only at hq
        split at hq
        · exact lv_if_ne hx hb hk.1 hk.2 (fun hc => go _ _ _ _ (by rw [if_neg hc] at hq; exact hq) hl) (fun hc => go _ _ _ _ (by rw [if_pos hc] at hq; exact hq) hl)
        · cases hq
      case lt =>
        dsimp only at hq
        split at hq
        · exact lv_if_lt hx hb hk.1 hk.2 (fun hc => go _ _ _ _ (by rw [if_pos hc] at hq; exact hq) hl) (fun hc => go _ _ _ _ (by rw [if_neg hc] at hq; exact hq) hl)
        · cases hq
      case ge =>
        dsimp only at hq
        split at hq
        · exact lv_if_ge hx hb hk.1 hk.2 (fun hc => go _ _ _ _ (by rw [if_pos hc] at hq; exact hq) hl) (fun hc => go _ _ _ _ (by rw [if_neg hc] at hq; exact hq) hl)
        · cases hq
      case gt =>
        dsimp only at hq
        split at hq
        · exact lv_if_gt hx hb hk.1 hk.2 (fun hc => go _ _ _ _ (by rw [if_pos hc] at hq; exact hq) hl) (fun hc => go _ _ _ _ (by rw [if_neg hc] at hq; exact hq) hl)
        · cases hq
      case le =>
        dsimp only at hq
        split at hq
        · exact lv_if_le hx hb hk.1 hk.2 (fun hc => go _ _ _ _ (by rw [if_pos hc] at hq; exact hq) hl) (fun hc => go _ _ _ _ (by rw [if_neg hc] at hq; exact hq) hl)
        · cases hq
    case if_icmp k0 off =>
      dsimp only at hq hk
      simp only [Bool.and_eq_true, decide_eq_true_eq] at hk
      cases k0
      case eq =>
        dsimp only at hq
        split at hq
        · exact lv_icmp_eq hx hb hk.1 hk.2 (fun hc => go _ _ _ _ (by rw [if_pos hc] at hq; exact hq) hl) (fun hc => go _ _ _ _ (by rw [if_neg hc] at hq; exact hq) hl)
        · cases hq
      case ne =>
        dsimp only at hq
        split at hq
        · exact lv_icmp_ne hx hb hk.1 hk.2 (fun hc => go _ _ _ _ (by rw [if_neg hc] at hq; exact hq) hl) (fun hc => go _ _ _ _ (by rw [if_pos hc] at hq; exact hq) hl)
        · cases hq
      case lt =>
        dsimp only at hq
        split at hq
        · exact lv_icmp_lt hx hb hk.1 hk.2 (fun hc => go _ _ _ _ (by rw [if_pos hc] at hq; exact hq) hl) (fun hc => go _ _ _ _ (by rw [if_neg hc] at hq; exact hq) hl)
        · cases hq
      case ge =>
        dsimp only at hq
        split at hq
        · exact lv_icmp_ge hx hb hk.1 hk.2 (fun hc => go _ _ _ _ (by rw [if_pos hc] at hq; exact hq) hl) (fun hc => go _ _ _ _ (by rw [if_neg hc] at hq; exact hq) hl)
        · cases hq
      case gt =>
        dsimp only at hq
        split at hq
        · exact lv_icmp_gt hx hb hk.1 hk.2 (fun hc => go _ _ _ _ (by rw [if_pos hc] at hq; exact hq) hl) (fun hc => go _ _ _ _ (by rw [if_neg hc] at hq; exact hq) hl)
        · cases hq
      case le =>
        dsimp only at hq
        split at hq
        · exact lv_icmp_le hx hb hk.1 hk.2 (fun hc => go _ _ _ _ (by rw [if_pos hc] at hq; exact hq) hl) (fun hc => go _ _ _ _ (by rw [if_neg hc] at hq; exact hq) hl)
        · cases hq
    case ifnull off =>
      dsimp only at hq hk
      simp only [Bool.and_eq_true, decide_eq_true_eq] at hk
      split at hq
      · exact lv_ifnullN hx hb hk.1 hk.2 (go _ _ _ _ hq hl)
      · exact lv_ifnull hx hb hk.1 (go _ _ _ _ hq hl)
      · cases hq
    case ifnonnull off =>
      dsimp only at hq hk
      simp only [Bool.and_eq_true, decide_eq_true_eq] at hk
      split at hq
      · exact lv_ifnonnullN hx hb hk.1 (go _ _ _ _ hq hl)
      · exact lv_ifnonnull hx hb hk.1 hk.2 (go _ _ _ _ hq hl)
      · cases hq
    case tableswitch df lo hi offs =>
      dsimp only at hq hk
      simp only [Bool.and_eq_true, decide_eq_true_eq] at hk
      obtain ⟨⟨⟨hk1, hk2⟩, hk3⟩, hk4⟩ := hk
      split at hq
      · rename_i x rr
        rcases xa_swk hq with ⟨q, hqm, rfl, hk5⟩ | ⟨hno, hk5⟩
        · have h3 := List.all_eq_true.mp hk3 q hqm
          simp only [Bool.and_eq_true, decide_eq_true_eq] at h3
          obtain ⟨⟨g1, g2⟩, g3⟩ := h3
          split at g3
          · rename_i o9 ho
            exact lv_tableIn hx hb hk1 g1 g2 ho (of_decide_eq_true g3) (go _ _ _ _ hk5 hl)
          · cases g3
        · by_cases hr : x.toInt < lo ∨ hi < x.toInt
          · exact lv_tableOut hx hb hk1 hr hk2 (go _ _ _ _ hk5 hl)
          · have g1 : ¬ x.toInt < lo := fun z => hr (Or.inl z)
            have g2 : ¬ hi < x.toInt := fun z => hr (Or.inr z)
            have h4 := List.all_eq_true.mp hk4 (x.toInt - lo).toNat (List.mem_range.mpr (by omega))
            rw [Bool.or_eq_true] at h4
            rcases h4 with h4 | h4
            · obtain ⟨q, hq1, hq2⟩ := List.any_eq_true.mp h4
              have e9 : q.1.toInt = x.toInt := by have := of_decide_eq_true hq2; omega
              exact absurd (Int32.toInt_inj.mp e9) (hno q hq1)
            · exact lv_tableIn hx hb hk1 g1 g2 (of_decide_eq_true h4) hk2 (go _ _ _ _ hk5 hl)
      · cases hq
    case lookupswitch df ps =>
      dsimp only at hq hk
      simp only [Bool.and_eq_true, decide_eq_true_eq] at hk
      obtain ⟨⟨⟨hk1, hk2⟩, hk3⟩, hk4⟩ := hk
      split at hq
      · rename_i x rr
        obtain ⟨t, hk5, ht⟩ := xa_swl pc ps.toList (xs_w mi pc) x a df hk4 hk2 hq
        exact lv_lookup hx hb hk1 hk3 rfl ht (go _ _ _ _ hk5 hl)
      · cases hq
    case ldc idx =>
      dsimp only at hq hk
      simp only [Bool.and_eq_true, decide_eq_true_eq] at hk
      obtain ⟨⟨hk1, ha⟩, hw⟩ := hk
      have hgo := go _ _ _ _ hq hl
      have hR := hZ.2.2 a ha
      have e9 : xS_i.getD a ("", 0) = ((xm_y mi).cls, idx) := by rw [List.getD_eq_getElem?_getD, hw]; rfl
      rw [e9] at hR
      have e8 : (Value.ref (2000 + a) :: st).map (xv B sp) = .ref (sp (2000 + a)) :: st.map (xv B sp) := by show Value.ref (xr B sp (2000 + a)) :: _ = _; rw [xr, if_neg (xn_ge (by omega))]
      rw [e8] at hgo
      exact va_ldcS hx hb hown hR hk1 hgo
    case getstatic idx =>
      dsimp only at hq hk
      rw [Bool.and_eq_true, decide_eq_true_eq] at hk
      obtain ⟨hk1, hk2⟩ := hk
      by_cases hb0 : b = 0
      · rw [if_pos hb0] at hq hk2
        rw [Bool.and_eq_true] at hk2
        have hv1 : v = 1 := of_decide_eq_true hk2.2
        subst hv1
        exact va_gets hx hb hZ.2.1 hS hown (hts _ (xw_word hk2.1)) (fun _ z => z) hk1 (go _ _ _ _ hq hl)
      · rw [if_neg hb0] at hq hk2
        by_cases h9 : X.2 1000000000 = 0
        · rw [if_pos h9] at hq
          exact va_gets hx hb (hY.1 h9) hS hown (hts _ (xw_word hk2)) (fun _ z => z) hk1 (go _ _ _ _ hq hl)
        · rw [if_neg h9] at hq
          exact va_gets hx hb (hY.2 h9) hS hown (hts _ (xw_word hk2)) (fun _ z => z) hk1 (go _ _ _ _ hq hl)
    case i2c =>
      dsimp only at hq hk
      simp only [decide_eq_true_eq] at hk
      split at hq
      · exact lv_i2c hx hb hk rfl (go _ _ _ _ hq hl)
      · cases hq
    case getfield idx =>
      dsimp only at hq hk
      rw [Bool.and_eq_true, decide_eq_true_eq] at hk
      obtain ⟨hk1, hk2⟩ := hk
      split at hq
      · rename_i i0 rr
        by_cases h200 : a = 200
        · rw [if_pos h200] at hq hk2
          by_cases hc : 2000 ≤ i0 ∧ i0 < 2000 + xS_n
          · rw [if_pos hc] at hq
            obtain ⟨k9, e9, hk9⟩ := xn_split hc
            subst e9
            obtain ⟨g1, g2, g3, g4⟩ := hZ.1.1 k9 hk9
            have e5 : (Value.ref (2000 + k9) :: rr).map (xv B sp) = .ref (sp (2000 + k9)) :: rr.map (xv B sp) := by show Value.ref (xr B sp (2000 + k9)) :: _ = _; rw [xr, if_neg (xn_ge (by omega))]
            rw [e5]
            have hgo := go _ _ _ _ hq hl
            by_cases hb0 : b = 0
            · rw [if_pos hb0] at hk2 hgo
              have e6 : (Value.ref (2000 + k9 + 1000) :: rr).map (xv B sp) = .ref (sp (3000 + k9)) :: rr.map (xv B sp) := by show Value.ref (xr B sp (2000 + k9 + 1000)) :: _ = _; rw [xr, if_neg (by rw [xn_23]; exact xn_ge (by omega)), xn_23]
              rw [e6] at hgo
              exact vk_getf hx hb g3 hS hown (hts _ (xw_word hk2)) (fun _ z => z) hk1 hgo
            · rw [if_neg hb0] at hk2 hgo
              exact vk_getf hx hb g2 hS hown (hts _ (xw_word hk2)) (fun _ z => z) hk1 hgo
          · rw [if_neg hc] at hq
            cases hq
        rw [if_neg h200] at hq hk2
        simp only [xkf, Bool.and_eq_true, decide_eq_true_eq] at hk2
        obtain ⟨⟨ha, hbn⟩, hw⟩ := hk2
        split at hq
        · rename_i hkd
          obtain ⟨hi, hi2⟩ := xk_lt (h := h) (i := i0) (by rw [hkd]; have := xc_80 ha; omega)
          have he := xw_at (dA := dA) (B := B) (sp := sp) hi
          rw [xe_obj hkd] at he
          have hgo := go _ _ _ _ hq hl
          have e5 : (Value.ref i0 :: rr).map (xv B sp) = .ref (B + i0) :: rr.map (xv B sp) := by show Value.ref (xr B sp i0) :: _ = _; rw [xr_lt hi2]
          rw [e5]
          refine va_get (D := D) (cl := xc_l) (ci := a) (v := (if xf_k a b = 2 then va_rf ((h.2.2.2 i0 b).map (xr B sp)) else .int (h.2.2.1 i0 b))) (C := (xc_q a).1) (T := (xc_q a).2.1) (N := (xc_q a).2.2) hx hb hts (xw_in_lay ha) hown hK hP i0 he (xc_at ha) b hbn (hts _ (xw_word hw)) (fun _ z => z) (by rw [List.getElem?_map, List.getElem?_range (by rw [xc_nq]; exact hbn)]; rfl) hk1 ?_
          have e6 : xv B sp (if xf_k a b = 2 then va_rf (h.2.2.2 i0 b) else .int (h.2.2.1 i0 b)) = (if xf_k a b = 2 then va_rf ((h.2.2.2 i0 b).map (xr B sp)) else .int (h.2.2.1 i0 b)) := by
            by_cases h6 : xf_k a b = 2
            · rw [if_pos h6, if_pos h6, xv_rf]
            · rw [if_neg h6, if_neg h6]; rfl
          rw [← e6]
          exact hgo
        · cases hq
      · cases hq
    case putfield idx =>
      dsimp only at hq hk
      simp only [Bool.and_eq_true, Bool.or_eq_true, decide_eq_true_eq, xkf] at hk
      obtain ⟨⟨hk1, ⟨ha, hbn⟩, hw⟩, hfin⟩ := hk
      have hfin2 : ((xc_q a).2.1 b).2.2.2 = false ∨ (meth.name = "<init>" ∧ ((xc_q a).2.1 b).1 = (xm_y mi).cls) := by
        rcases hfin with z | ⟨z1, z2⟩
        · exact Or.inl z
        · exact Or.inr ⟨hnm z1, z2⟩
      obtain ⟨hty, hnd⟩ := xc_ty ha
      split at hq
      · rename_i x i0 rr
        split at hq
        · rename_i hc
          obtain ⟨hkd, hkx⟩ := hc
          obtain ⟨hi, hi2⟩ := xk_lt (h := h) (i := i0) (by rw [hkd]; have := xc_80 ha; omega)
          have he := xw_at (dA := dA) (B := B) (sp := sp) hi
          rw [xe_obj hkd] at he
          have e5 : (Value.int x :: Value.ref i0 :: rr).map (xv B sp) = .int x :: .ref (B + i0) :: rr.map (xv B sp) := by show Value.int x :: Value.ref (xr B sp i0) :: _ = _; rw [xr_lt hi2]
          rw [e5]
          have h2 : xf_k a b ≠ 2 := by rcases hkx with z | ⟨z, -⟩ <;> omega
          have hnf : narrow (xc_t a b) (.int x) = .int x ∧ fits (xc_t a b) (.int x) = true := by
            rcases hkx with z | ⟨z, z1⟩
            · rw [xc_t0 ha hbn z]; exact ⟨rfl, rfl⟩
            · rw [xc_t1 ha hbn z]; rcases z1 with rfl | rfl <;> exact ⟨rfl, rfl⟩
          refine xq_put (D := D) (cl := xc_l) (ci := a) (v := .int x) (C := (xc_q a).1) (T := (xc_q a).2.1) (N := (xc_q a).2.2) hx hb hts (xw_in_lay ha) (xc_t a) hty hnd hown hK hP hD hS i0 he (xc_at ha) b hbn (hts _ (xw_word hw)) hfin2 (hty b hbn) hnf.1 hnf.2 (by rw [List.length_map, List.length_range, xc_nq]; exact hbn) hk1 (fun H1 locs1 hz1 hP1 hS1 => ?_)
          rw [xw_setF hi hkd (by rw [xc_nq]; exact hbn) h2] at hP1
          exact gs _ _ (xa_I h i0 b x) H1 locs1 hq rfl rfl hz1 hP1 hS1
        · cases hq
      · rename_i j0 i0 rr
        split at hq
        · rename_i hc
          obtain ⟨hkd, hkx⟩ := hc
          obtain ⟨hi, hi2⟩ := xk_lt (h := h) (i := i0) (by rw [hkd]; have := xc_80 ha; omega)
          have he := xw_at (dA := dA) (B := B) (sp := sp) hi
          rw [xe_obj hkd] at he
          have e5 : (Value.ref j0 :: Value.ref i0 :: rr).map (xv B sp) = .ref (xr B sp j0) :: .ref (B + i0) :: rr.map (xv B sp) := by show Value.ref _ :: Value.ref (xr B sp i0) :: _ = _; rw [xr_lt hi2]
          rw [e5]
          have hnf : narrow (xc_t a b) (.ref (xr B sp j0)) = .ref (xr B sp j0) ∧ fits (xc_t a b) (.ref (xr B sp j0)) = true := by
            rcases xc_t2 ha hbn hkx with ⟨z, hz9⟩ | ⟨z, hz9⟩ <;> rw [hz9] <;> exact ⟨rfl, rfl⟩
          refine xq_put (D := D) (cl := xc_l) (ci := a) (v := .ref (xr B sp j0)) (C := (xc_q a).1) (T := (xc_q a).2.1) (N := (xc_q a).2.2) hx hb hts (xw_in_lay ha) (xc_t a) hty hnd hown hK hP hD hS i0 he (xc_at ha) b hbn (hts _ (xw_word hw)) hfin2 (hty b hbn) hnf.1 hnf.2 (by rw [List.length_map, List.length_range, xc_nq]; exact hbn) hk1 (fun H1 locs1 hz1 hP1 hS1 => ?_)
          rw [xw_setG hi hkd (by rw [xc_nq]; exact hbn) hkx] at hP1
          exact gs _ _ (xa_R h i0 b (some j0)) H1 locs1 hq rfl rfl hz1 hP1 hS1
        · cases hq
      · cases hq
    case iaload =>
      dsimp only at hq hk
      simp only [decide_eq_true_eq] at hk
      split at hq
      · rename_i j i0 rr
        split at hq
        · rename_i h10
          subst h10
          split at hq
          · rename_i hin
            exact va_sld (b := sp 1000) hx hb hX (by omega) (by show ¬ B ≤ _; omega) hS hin hk (go _ _ _ _ hq hl)
          · cases hq
        · split at hq
          · rename_i hc
            obtain ⟨hkd, hin⟩ := hc
            obtain ⟨hi, hi2⟩ := xk_lt (h := h) (i := i0) (by omega)
            have he := xw_at (dA := dA) (B := B) (sp := sp) hi
            unfold xe at he
            rw [if_pos (by omega)] at he
            rw [hkd] at he
            have e5 : (Value.int j :: Value.ref i0 :: rr).map (xv B sp) = .int j :: .ref (B + i0) :: rr.map (xv B sp) := by show Value.int j :: Value.ref (xr B sp i0) :: _ = _; rw [xr_lt hi2]
            rw [e5]
            exact va_iald hx hb hK hP i0 0 he (xo_at0 dA) hin hk (go _ _ _ _ hq hl)
          · cases hq
      · cases hq
    case baload =>
      dsimp only at hq hk
      simp only [decide_eq_true_eq] at hk
      split at hq
      · rename_i j i0 rr
        by_cases h30 : 3000 ≤ i0 ∧ i0 < 3000 + xS_n
        · rw [if_pos h30] at hq
          obtain ⟨k9, e9, hk9⟩ := xn_split h30
          subst e9
          rw [xn_33] at hq
          split at hq
          · rename_i hin
            obtain ⟨g1, g2, g3, g4⟩ := hZ.1.1 k9 hk9
            have e5 : (Value.int j :: Value.ref (3000 + k9) :: rr).map (xv B sp) = .int j :: .ref (sp (3000 + k9)) :: rr.map (xv B sp) := by show Value.int j :: Value.ref (xr B sp (3000 + k9)) :: _ = _; rw [xr, if_neg (xn_ge (by omega))]
            rw [e5]
            exact va_tb hx hb g4 hS hin rfl hk (go _ _ _ _ hq hl)
          · cases hq
        rw [if_neg h30] at hq
        split at hq
        · rename_i hc
          obtain ⟨hkd, hin⟩ := hc
          obtain ⟨hi, hi2⟩ := xk_lt (h := h) (i := i0) (by omega)
          have he := xw_at (dA := dA) (B := B) (sp := sp) hi
          unfold xe at he
          rw [if_pos (by omega)] at he
          rw [hkd] at he
          have e5 : (Value.int j :: Value.ref i0 :: rr).map (xv B sp) = .int j :: .ref (B + i0) :: rr.map (xv B sp) := by show Value.int j :: Value.ref (xr B sp i0) :: _ = _; rw [xr_lt hi2]
          rw [e5]
          exact va_zald hx hb hK hP i0 1 he (xo_at1 dA) hin hk (go _ _ _ _ hq hl)
        · cases hq
      · cases hq
    case aaload =>
      dsimp only at hq hk
      simp only [decide_eq_true_eq] at hk
      split at hq
      · rename_i j i0 rr
        split at hq
        · rename_i hc
          obtain ⟨⟨hk2, hkn⟩, hin⟩ := hc
          have hk10 := xo_10 hkn
          obtain ⟨hi, hi2⟩ := xk_lt (h := h) (i := i0) (by omega)
          have he := xw_at (dA := dA) (B := B) (sp := sp) hi
          unfold xe at he
          rw [if_neg (by omega), if_pos (by omega)] at he
          have e5 : (Value.int j :: Value.ref i0 :: rr).map (xv B sp) = .int j :: .ref (B + i0) :: rr.map (xv B sp) := by show Value.int j :: Value.ref (xr B sp i0) :: _ = _; rw [xr_lt hi2]
          rw [e5]
          have hgo := go _ _ _ _ hq hl
          rw [List.map_cons, xv_rf] at hgo
          exact va_aldq hx hb hK hP i0 (xa_k h i0).1 he (xo_at dA hk2 hkn) hin hk hgo
        · cases hq
      · cases hq
    case iastore =>
      dsimp only at hq hk
      simp only [decide_eq_true_eq] at hk
      split at hq
      · rename_i x j i0 rr
        split at hq
        · rename_i hc
          obtain ⟨hkd, hin⟩ := hc
          obtain ⟨hi, hi2⟩ := xk_lt (h := h) (i := i0) (by omega)
          have he := xw_at (dA := dA) (B := B) (sp := sp) hi
          unfold xe at he
          rw [if_pos (by omega)] at he
          have e5 : (Value.int x :: Value.int j :: Value.ref i0 :: rr).map (xv B sp) = .int x :: .int j :: .ref (B + i0) :: rr.map (xv B sp) := by show Value.int x :: Value.int j :: Value.ref (xr B sp i0) :: _ = _; rw [xr_lt hi2]
          rw [e5]
          refine xq_iast hx hb hK hP hD hS i0 0 he (by rw [hkd]; exact xo_at0 dA) hin hk (fun H1 locs1 hz1 hP1 hS1 => ?_)
          rw [xw_setI hi (by omega)] at hP1
          exact gs _ _ (xa_I h i0 j.toNatClampNeg x) H1 locs1 hq rfl rfl hz1 hP1 hS1
        · cases hq
      · cases hq
    case bastore =>
      dsimp only at hq hk
      simp only [decide_eq_true_eq] at hk
      split at hq
      · rename_i x j i0 rr
        split at hq
        · rename_i hc
          obtain ⟨hkd, hin, hxx⟩ := hc
          obtain ⟨hi, hi2⟩ := xk_lt (h := h) (i := i0) (by omega)
          have he := xw_at (dA := dA) (B := B) (sp := sp) hi
          unfold xe at he
          rw [if_pos (by omega)] at he
          have e5 : (Value.int x :: Value.int j :: Value.ref i0 :: rr).map (xv B sp) = .int x :: .int j :: .ref (B + i0) :: rr.map (xv B sp) := by show Value.int x :: Value.int j :: Value.ref (xr B sp i0) :: _ = _; rw [xr_lt hi2]
          rw [e5]
          refine xq_zast hx hb hK hP hD hS i0 1 he (by rw [hkd]; exact xo_at1 dA) hin hxx hk (fun H1 locs1 hz1 hP1 hS1 => ?_)
          rw [xw_setI hi (by omega)] at hP1
          exact gs _ _ (xa_I h i0 j.toNatClampNeg x) H1 locs1 hq rfl rfl hz1 hP1 hS1
        · cases hq
      · cases hq
    case aastore =>
      dsimp only at hq hk
      simp only [decide_eq_true_eq] at hk
      split at hq
      · rename_i v0 j i0 rr
        split at hq
        · rename_i hc
          obtain ⟨⟨hk2, hkn⟩, hin, hvk⟩ := hc
          have hk10 := xo_10 hkn
          obtain ⟨hi, hi2⟩ := xk_lt (h := h) (i := i0) (by omega)
          have hcl := xo_cl hk2 hkn
          obtain ⟨hvi, hvi2⟩ := xk_lt (h := h) (i := v0) (by rw [hvk]; have := xc_80 hcl; omega)
          have he := xw_at (dA := dA) (B := B) (sp := sp) hi
          unfold xe at he
          rw [if_neg (by omega), if_pos (by omega)] at he
          have hev := xw_at (dA := dA) (B := B) (sp := sp) hvi
          rw [xe_obj hvk] at hev
          have e5 : (Value.ref v0 :: Value.int j :: Value.ref i0 :: rr).map (xv B sp) = .ref (B + v0) :: .int j :: .ref (B + i0) :: rr.map (xv B sp) := by show Value.ref (xr B sp v0) :: Value.int j :: Value.ref (xr B sp i0) :: _ = _; rw [xr_lt hi2, xr_lt hvi2]
          rw [e5]
          refine xq_astq hx hb hK hP hD hS i0 (xa_k h i0).1 v0 (xo_c (xa_k h i0).1) he (r := xc_q (xo_c (xa_k h i0).1)) (xo_at dA hk2 hkn) hev (xc_at hcl) hin hk (fun H1 locs1 hz1 hP1 hS1 => ?_)
          have e7 : some (B + v0) = (some v0).map (xr B sp) := by show _ = some (xr B sp v0); rw [xr_lt hvi2]
          rw [e7, xw_setR hi hk2 hk10] at hP1
          exact gs _ _ (xa_R h i0 j.toNatClampNeg (some v0)) H1 locs1 hq rfl rfl hz1 hP1 hS1
        · cases hq
      · cases hq
    case arraylength =>
      dsimp only at hq hk
      simp only [decide_eq_true_eq] at hk
      split at hq
      · rename_i i0 rr
        split at hq
        · rename_i h10
          subst h10
          exact va_slen (b := sp 1000) hx hb hX (by omega) (by show ¬ B ≤ _; omega) hS hk (go _ _ _ _ hq hl)
        · by_cases h30 : 3000 ≤ i0 ∧ i0 < 3000 + xS_n
          · rw [if_pos h30] at hq
            obtain ⟨k9, e9, hk9⟩ := xn_split h30
            subst e9
            rw [xn_33] at hq
            obtain ⟨g1, g2, g3, g4⟩ := hZ.1.1 k9 hk9
            have e5 : (Value.ref (3000 + k9) :: rr).map (xv B sp) = .ref (sp (3000 + k9)) :: rr.map (xv B sp) := by show Value.ref (xr B sp (3000 + k9)) :: _ = _; rw [xr, if_neg (xn_ge (by omega))]
            rw [e5]
            exact va_tlen hx hb g4 hS rfl hk (go _ _ _ _ hq hl)
          rw [if_neg h30] at hq
          split at hq
          · rename_i hkd
            obtain ⟨hi, hi2⟩ := xk_lt (h := h) (i := i0) (by omega)
            have he := xw_at (dA := dA) (B := B) (sp := sp) hi
            unfold xe at he
            rw [if_pos hkd] at he
            have e5 : (Value.ref i0 :: rr).map (xv B sp) = .ref (B + i0) :: rr.map (xv B sp) := by show Value.ref (xr B sp i0) :: _ = _; rw [xr_lt hi2]
            rw [e5]
            exact va_alen hx hb hK hP i0 (xa_k h i0).1 he (xt_at (xo_2 hkd)) rfl hk (go _ _ _ _ hq hl)
          · cases hq
      · cases hq
    case new idx =>
      dsimp only at hq hk
      simp only [Bool.and_eq_true, decide_eq_true_eq] at hk
      obtain ⟨⟨⟨hk1, ha⟩, rfl⟩, hw⟩ := hk
      split at hq
      · rename_i hlen
        obtain ⟨hty, hnd⟩ := xc_ty ha
        have hm2 := ex_mono _ _ _ _ _ _ _ _ _ hq
        have hl1 : (xa_push h (10 + a) (xc_q a).2.2).1.length = h.1.length + 1 := by simp [xa_push]
        have hl2 : (xa_push h (10 + a) (xc_q a).2.2).2.1 = h.2.1 + (xc_q a).2.2 := rfl
        rw [hl1, hl2] at hm2
        refine xq_new (D := D) (cl := xc_l) (ci := a) (fs := (List.range (xc_n a)).map (fun k => if xf_k a k = 2 then .null else .int 0)) (C := (xc_q a).1) (T := (xc_q a).2.1) (N := (xc_q a).2.2) hx hb hts (xw_in_lay ha) (xc_t a) hty hown (hts _ (xw_word hw)) (hts _ (xc_ins ha)) (hts _ (xc_ini ha)) hK hP hS (xc_at ha) (fun j hj => ?_) (by omega) (by omega) hk1 (fun H1 hz1 hP1 hS1 => ?_)
        · rw [vp_V, List.getD_eq_getElem?_getD, List.getElem?_map, List.getElem?_range (by rw [xc_nq]; exact hj)]
          exact xc_dv ha hj
        · have e7 : xe dA B sp (xa_push h (10 + a) (xc_q a).2.2) h.1.length = .inr (a, (List.range (xc_n a)).map (fun k => if xf_k a k = 2 then .null else .int 0)) := by
            rw [xe_obj (by rw [xk_push hlen])]
            congr 2
            refine List.map_congr_left (fun k _ => ?_)
            simp [xa_push, va_up, va_rf]
          rw [hz, ← e7, ← xw_push] at hP1
          have e8 : (Value.ref H.size :: st.map (xv B sp)) = (Value.ref h.1.length :: st).map (xv B sp) := by show _ = Value.ref (xr B sp h.1.length) :: _; rw [xr_lt hlen, hz]
          rw [e8]
          exact ih mi _ L _ _ r h' hq p l e R s m args below meth c D dA B sp H1 locs (cells + 1) (slots + (xc_q a).2.2) Tc Ts Q ls C (by rw [hz1, hz, hl1]; omega) hP1 hS1 hl (by rw [hl1]; omega) (by rw [hl2]; omega) hRc hRs hret
      · cases hq
    case newarray at_ =>
      dsimp only at hq hk
      simp only [Bool.and_eq_true, decide_eq_true_eq] at hk
      obtain ⟨⟨⟨hk1, ha⟩, hat⟩, hw⟩ := hk
      split at hq
      · rename_i x rr
        split at hq
        · rename_i hc
          obtain ⟨hlen, hx0, hx1⟩ := hc
          have hm2 := ex_mono _ _ _ _ _ _ _ _ _ hq
          have hl1 : (xa_push h a x.toNatClampNeg).1.length = h.1.length + 1 := by simp [xa_push]
          have hl2 : (xa_push h a x.toNatClampNeg).2.1 = h.2.1 + x.toNatClampNeg := rfl
          rw [hl1, hl2] at hm2
          refine xq_newa (D := D) (cl := xc_l) (a0 := (x.toNatClampNeg, .inl (fun _ => 0))) hx hb (by rw [hat]; exact hts _ (xw_word hw)) hK hP hS a (by rw [hat]; exact xt_at (xo_2 ha)) (by rw [hat]; exact xo_dv ha) hx0 rfl (by rw [hat]; exact xo_by ha hx1) (by omega) (by omega) hk1 (fun H1 hz1 hP1 hS1 => ?_)
          have e7 : xe dA B sp (xa_push h a x.toNatClampNeg) h.1.length = .inl (dA a, x.toNatClampNeg, .inl (fun _ => 0)) := by
            unfold xe
            rw [xk_push hlen, if_pos ha]
            simp [xa_push, va_up]
          rw [hz, ← e7, ← xw_push] at hP1
          have e8 : (Value.ref H.size :: rr.map (xv B sp)) = (Value.ref h.1.length :: rr).map (xv B sp) := by show _ = Value.ref (xr B sp h.1.length) :: _; rw [xr_lt hlen, hz]
          rw [e8]
          exact ih mi _ L _ _ r h' hq p l e R s m args below meth c D dA B sp H1 locs (cells + 1) (slots + x.toNatClampNeg) Tc Ts Q ls C (by rw [hz1, hz, hl1]; omega) hP1 hS1 hl (by rw [hl1]; omega) (by rw [hl2]; omega) hRc hRs hret
        · cases hq
      · cases hq
    case anewarray idx =>
      dsimp only at hq hk
      simp only [Bool.and_eq_true, decide_eq_true_eq] at hk
      obtain ⟨⟨⟨hk1, ha2⟩, han⟩, hw⟩ := hk
      split at hq
      · rename_i x rr
        split at hq
        · rename_i hc
          obtain ⟨hlen, hx0, hx1⟩ := hc
          have hm2 := ex_mono _ _ _ _ _ _ _ _ _ hq
          have hl1 : (xa_push h a x.toNatClampNeg).1.length = h.1.length + 1 := by simp [xa_push]
          have hl2 : (xa_push h a x.toNatClampNeg).2.1 = h.2.1 + x.toNatClampNeg := rfl
          rw [hl1, hl2] at hm2
          have ha10 := xo_10 han
          refine xq_newq (D := D) (cl := xc_l) hx hb hown (hts _ (xw_word hw)) (hN.2 _ (xo_in ha2 han)) hK hP hS a (xo_at dA ha2 han) hx0 rfl (by omega) (by omega) (by omega) hk1 (fun H1 hz1 hP1 hS1 => ?_)
          have e7 : xe dA B sp (xa_push h a x.toNatClampNeg) h.1.length = .inl (dA a, x.toNatClampNeg, .inr (.inr (.inr (.inr (fun _ => none))))) := by
            unfold xe
            rw [xk_push hlen, if_neg (by show ¬ a < 2; omega), if_pos ha10]
            simp [xa_push, va_up]
          rw [hz, ← e7, ← xw_push] at hP1
          have e8 : (Value.ref H.size :: rr.map (xv B sp)) = (Value.ref h.1.length :: rr).map (xv B sp) := by show _ = Value.ref (xr B sp h.1.length) :: _; rw [xr_lt hlen, hz]
          rw [e8]
          exact ih mi _ L _ _ r h' hq p l e R s m args below meth c D dA B sp H1 locs (cells + 1) (slots + x.toNatClampNeg) Tc Ts Q ls C (by rw [hz1, hz, hl1]; omega) hP1 hS1 hl (by rw [hl1]; omega) (by rw [hl2]; omega) hRc hRs hret
        · cases hq
      · cases hq
    case invokestatic idx =>
      dsimp only at hq hk
      simp only [Bool.and_eq_true, decide_eq_true_eq] at hk
      obtain ⟨⟨⟨hk1, hkl⟩, hkk⟩, rfl⟩ := hk
      have h0 : a ≠ 0 := by rintro rfl; exact absurd hkk (by decide)
      cases d with
      | zero => cases hq
      | succ d1 =>
        dsimp only at hq
        split at hq
        · rename_i hc
          obtain ⟨hcat, hblen, hall⟩ := hc
          try rw [if_neg h0] at hq
          split at hq
          · rename_i r1 h1 he1
            have ha := xkl_lt hkl
            have hG := xm_G ha h0
            have hmn := ex_mono _ _ _ _ _ _ _ _ _ he1
            have hmn2 := ex_mono _ _ _ _ _ _ _ _ _ hq
            have hgo := fun H1 locs1 hz1 hP1 hS1 => ih mi _ L _ h1 r h' hq p l e R s m args below meth c D dA B sp H1 locs1 (cells + (h1.1.length - h.1.length)) (slots + (h1.2.1 - h.2.1)) Tc Ts Q ls C hz1 hP1 hS1 hl (by omega) (by omega) hRc hRs hret
            have hbl2 : ((st.take (xm_p a)).reverse).length = xm_p a := by rw [List.length_reverse, List.length_take, Nat.min_eq_left hblen]
            have hmet := xmet (hM d1 rfl) (by omega) hG.1 (av := (st.take (xm_p a)).reverse) (fun v hv => List.all_eq_true.mp hall v (List.mem_reverse.mp hv)) (by rw [hbl2]; exact hG.2.2.2.1) (by rw [hbl2]; exact he1) l D dA B sp
            have hpc : ∀ U : State, U.heap = H → s.WarmedH U.vm → va_Pc (((st.take (xm_p a)).reverse).map (xv B sp)) (Rp X D dA B sp h) (((st.take (xm_p a)).reverse).map (xv B sp)).toArray U := fun U hU hW => ⟨rfl, by rw [hU]; exact hz, by rw [hU]; exact hP, va_K.moved hW.alike hK, xN_warm hW hN, by rw [hU]; exact va_X.moved hW.alike (hX.kept (hS.2.1 _ (by omega) (by show ¬ B ≤ _; omega))), hsp, by rw [hU]; exact ⟨vk_S.moved hW.alike (hZ.1.kept hS.2.1), va_Z.moved hW.alike (hZ.2.1.kept hS.2.1), fun k hk => vk_R.warm hW (hZ.2.2 k hk)⟩, by rw [hU]; exact xY_moved hW.alike (xY_kept hY hS.2.1)⟩
            have hfb : FrameBlind (va_Pc (((st.take (xm_p a)).reverse).map (xv B sp)) (Rp X D dA B sp h)) := fun a9 U g mk q => ⟨q.1, Rp_calling g mk a9 q.2⟩
            have hroom : (xrm d1 (h1.1.length - h.1.length) (h1.2.1 - h.2.1)).frames + 1 ≤ R.frames ∧ 8 + (xm_l a + 11) + (xrm d1 (h1.1.length - h.1.length) (h1.2.1 - h.2.1)).locals ≤ R.locals := by
              have := hG.2.2.1
              exact ⟨hfr, by show 8 + (xm_l a + 11) + 60 * d1 ≤ _; omega⟩
            have hcat2 : 2 * (F0 m pc ls (st.map (xv B sp))).monitorRoom + (((st.drop (xm_p a)).map (xv B sp)).map fun v => v.category).sum ≤ 8 := lv_room (by rw [List.map_map, show ((fun v : Value => v.category) ∘ xv B sp) = Value.category from funext (fun v => xv_cat v)]; exact hcat)
            have hcells : cells + (h1.1.length - h.1.length) ≤ R.cells ∧ slots + (h1.2.1 - h.2.1) ≤ R.slots := ⟨by omega, by omega⟩
            have hst : (F0 m pc ls (st.map (xv B sp))).stack = (((st.take (xm_p a)).reverse).map (xv B sp)).reverse ++ (st.drop (xm_p a)).map (xv B sp) := by
              show st.map (xv B sp) = _
              rw [← List.map_reverse, List.reverse_reverse, ← List.map_append, List.take_append_drop]
            have hn : (((st.take (xm_p a)).reverse).map (xv B sp)).length = xm_p a := by rw [List.length_map, hbl2]
            rcases xkl_link hkl with hw | ⟨q, hqm, e1, e2, e3⟩
            · refine xrun (va_runS (As := ((st.take (xm_p a)).reverse).map (xv B sp)) (rest := (st.drop (xm_p a)).map (xv B sp)) ⟨hx, hb, hml, hown, hts⟩ hmet ⟨callB_of (xm_p a) hts (xw_good ha) rfl rfl rfl (hts _ hG.2.2.2.2.1) (hts _ hw) (by have := hG.2.1; rw [if_pos hkk] at this; exact this) hroom, hts _ (hG.2.2.2.2.2.1 hkk)⟩ ⟨hfb, hpc⟩ rfl hn (hl.1.1) hst hcat2 hk1 hcells) hS hz hmn.1 hB (fun H1 locs1 hz1 hP1 hS1 => ?_)
              have := hgo H1 locs1 hz1 hP1 hS1
              rw [List.map_append] at this
              cases r1 <;> exact this
            · have hnw := hN.1 q hqm
              rw [e1, e2, e3] at hnw
              refine xrun (va_runSN (host := q.2.2.2) (As := ((st.take (xm_p a)).reverse).map (xv B sp)) (rest := (st.drop (xm_p a)).map (xv B sp)) ⟨hx, hb, hml, hown, hts⟩ hmet ⟨va_cnB (xm_p a) hts (xw_good ha) rfl rfl rfl hnw (hts _ hG.2.2.2.2.1) (by have := hG.2.1; rw [if_pos hkk] at this; exact this) hroom, hts _ (hG.2.2.2.2.2.1 hkk), trivial⟩ ⟨hfb, hpc⟩ rfl hn (hl.1.1) hst hcat2 hk1 hcells) hS hz hmn.1 hB (fun H1 locs1 hz1 hP1 hS1 => ?_)
              have := hgo H1 locs1 hz1 hP1 hS1
              rw [List.map_append] at this
              cases r1 <;> exact this
          · cases hq
        · cases hq
    case invokevirtual idx =>
      dsimp only at hq hk
      simp only [Bool.and_eq_true, decide_eq_true_eq] at hk
      obtain ⟨⟨⟨hk1, hkl⟩, hkk⟩, rfl⟩ := hk
      have h0 : a ≠ 0 := by rintro rfl; exact absurd hkk (by decide)
      split at hq
      · rename_i i0 hi0
        split at hq
        · rename_i hkd
          cases d with
          | zero => cases hq
          | succ d1 =>
            dsimp only at hq
            split at hq
            · rename_i hc
              obtain ⟨hcat, hblen, hall⟩ := hc
              try rw [if_neg h0] at hq
              split at hq
              · rename_i r1 h1 he1
                have ha := xkl_lt hkl
                have hG := xm_G ha h0
                have hmn := ex_mono _ _ _ _ _ _ _ _ _ he1
                have hmn2 := ex_mono _ _ _ _ _ _ _ _ _ hq
                have hgo := fun H1 locs1 hz1 hP1 hS1 => ih mi _ L _ h1 r h' hq p l e R s m args below meth c D dA B sp H1 locs1 (cells + (h1.1.length - h.1.length)) (slots + (h1.2.1 - h.2.1)) Tc Ts Q ls C hz1 hP1 hS1 hl (by omega) (by omega) hRc hRs hret
                have hbl2 : ((st.take (xm_p a)).reverse).length = xm_p a := by rw [List.length_reverse, List.length_take, Nat.min_eq_left hblen]
                have hmet := xmet (hM d1 rfl) (by omega) hG.1 (av := (st.take (xm_p a)).reverse) (fun v hv => List.all_eq_true.mp hall v (List.mem_reverse.mp hv)) (by rw [hbl2]; exact hG.2.2.2.1) (by rw [hbl2]; exact he1) l D dA B sp
                have hpc : ∀ U : State, U.heap = H → s.WarmedH U.vm → va_Pc (((st.take (xm_p a)).reverse).map (xv B sp)) (Rp X D dA B sp h) (((st.take (xm_p a)).reverse).map (xv B sp)).toArray U := fun U hU hW => ⟨rfl, by rw [hU]; exact hz, by rw [hU]; exact hP, va_K.moved hW.alike hK, xN_warm hW hN, by rw [hU]; exact va_X.moved hW.alike (hX.kept (hS.2.1 _ (by omega) (by show ¬ B ≤ _; omega))), hsp, by rw [hU]; exact ⟨vk_S.moved hW.alike (hZ.1.kept hS.2.1), va_Z.moved hW.alike (hZ.2.1.kept hS.2.1), fun k hk => vk_R.warm hW (hZ.2.2 k hk)⟩, by rw [hU]; exact xY_moved hW.alike (xY_kept hY hS.2.1)⟩
                have hfb : FrameBlind (va_Pc (((st.take (xm_p a)).reverse).map (xv B sp)) (Rp X D dA B sp h)) := fun a9 U g mk q => ⟨q.1, Rp_calling g mk a9 q.2⟩
                have hroom : (xrm d1 (h1.1.length - h.1.length) (h1.2.1 - h.2.1)).frames + 1 ≤ R.frames ∧ 8 + (xm_l a + 11) + (xrm d1 (h1.1.length - h.1.length) (h1.2.1 - h.2.1)).locals ≤ R.locals := by
                  have := hG.2.2.1
                  exact ⟨hfr, by show 8 + (xm_l a + 11) + 60 * d1 ≤ _; omega⟩
                have hcat2 : 2 * (F0 m pc ls (st.map (xv B sp))).monitorRoom + (((st.drop (xm_p a)).map (xv B sp)).map fun v => v.category).sum ≤ 8 := lv_room (by rw [List.map_map, show ((fun v : Value => v.category) ∘ xv B sp) = Value.category from funext (fun v => xv_cat v)]; exact hcat)
                have hcells : cells + (h1.1.length - h.1.length) ≤ R.cells ∧ slots + (h1.2.1 - h.2.1) ≤ R.slots := ⟨by omega, by omega⟩
                have hp1 := (hG.2.2.2.2.2.2.1 (by omega)).2
                obtain ⟨As, e9⟩ : ∃ As, (st.take (xm_p a)).reverse = .ref i0 :: As := xrec hp1 hi0
                rw [e9] at hmet hpc hfb hbl2
                have hst : (F0 m pc ls (st.map (xv B sp))).stack = (As.map (xv B sp)).reverse ++ .ref (xr B sp i0) :: (st.drop (xm_p a)).map (xv B sp) := by
                  show st.map (xv B sp) = _
                  have e10 : st = As.reverse ++ .ref i0 :: st.drop (xm_p a) := by
                    have e11 : st.take (xm_p a) = As.reverse ++ [.ref i0] := by rw [← List.reverse_reverse (st.take (xm_p a)), e9, List.reverse_cons]
                    calc st = st.take (xm_p a) ++ st.drop (xm_p a) := (List.take_append_drop _ _).symm
                      _ = _ := by rw [e11, List.append_assoc]; rfl
                  conv => lhs; rw [e10]
                  rw [List.map_append, List.map_reverse]; rfl
                have hn : (As.map (xv B sp)).length = xm_p a - 1 := by rw [List.length_map]; rw [List.length_cons] at hbl2; omega
                have hrecv : ∃ cellB : Cell, H[xr B sp i0]? = some cellB ∧ cellB.vm.isStatics = false ∧ s.vm.findClass (xm_y a).cls = some cellB.cls := by
                  rcases hkd with ⟨h200, hs1, hs2⟩ | ⟨h200, hkd⟩
                  · rw [(hG.2.2.2.2.2.2.2.1 hkk).2.1 h200]
                    obtain ⟨k9, e9, hk9⟩ := xn_split ⟨hs1, hs2⟩
                    subst e9
                    rw [xr, if_neg (xn_ge (by omega))]
                    exact vk_recv (adK := fun k => sp (2000 + k)) (i := k9) hZ.1 hk9 hS
                  · have ho := (hG.2.2.2.2.2.2.2.1 hkk).2.2 h200
                    obtain ⟨hi, hi2⟩ := xk_lt (h := h) (i := i0) (by rw [hkd]; have := xc_80 ho.1; omega)
                    have he0 := xw_at (dA := dA) (B := B) (sp := sp) hi
                    rw [xe_obj hkd] at he0
                    rw [xr_lt hi2, ← ho.2]
                    exact va_recv hK hP (xc_at ho.1) he0
                rcases xkl_link hkl with hw | ⟨q, hqm, e1, e2, e3⟩
                · refine xrun (va_runV (As := As.map (xv B sp)) (rest := (st.drop (xm_p a)).map (xv B sp)) ⟨hx, hb, hml, hown, hts⟩ hmet ⟨callB_of (xm_p a - 1) hts (xw_good ha) rfl rfl rfl (hts _ hG.2.2.2.2.1) (hts _ hw) (by have := hG.2.1; rw [if_neg (by omega)] at this; exact this) hroom, hts _ (hG.2.2.2.2.2.2.1 (by omega)).1, hts _ (hG.2.2.2.2.2.2.2.1 hkk).1⟩ ⟨hfb, hrecv, hpc⟩ rfl hn (hl.1.1) hst hcat2 hk1 hcells) hS hz hmn.1 hB (fun H1 locs1 hz1 hP1 hS1 => ?_)
                  have := hgo H1 locs1 hz1 hP1 hS1
                  rw [List.map_append] at this
                  cases r1 <;> exact this
                · have hnw := hN.1 q hqm
                  rw [e1, e2, e3] at hnw
                  refine xrun (va_runVN (host := q.2.2.2) (As := As.map (xv B sp)) (rest := (st.drop (xm_p a)).map (xv B sp)) ⟨hx, hb, hml, hown, hts⟩ hmet ⟨va_cnB (xm_p a - 1) hts (xw_good ha) rfl rfl rfl hnw (hts _ hG.2.2.2.2.1) (by have := hG.2.1; rw [if_neg (by omega)] at this; exact this) hroom, hts _ (hG.2.2.2.2.2.2.1 (by omega)).1, hts _ (hG.2.2.2.2.2.2.2.1 hkk).1⟩ ⟨hfb, hrecv, hpc⟩ rfl hn (hl.1.1) hst hcat2 hk1 hcells) hS hz hmn.1 hB (fun H1 locs1 hz1 hP1 hS1 => ?_)
                  have := hgo H1 locs1 hz1 hP1 hS1
                  rw [List.map_append] at this
                  cases r1 <;> exact this
              · cases hq
            · cases hq
        · cases hq
      · cases hq
    case invokespecial idx =>
      dsimp only at hq hk
      simp only [Bool.and_eq_true, decide_eq_true_eq] at hk
      obtain ⟨⟨⟨⟨hk1, hkl⟩, hkk⟩, rfl⟩, hk0⟩ := hk
      split at hq
      · rename_i i0 hi0
        by_cases h0 : a = 0
        · subst h0
          cases d with
          | zero => cases hq
          | succ d1 =>
            dsimp only at hq
            split at hq
            · rename_i hc
              obtain ⟨hcat, hblen, hall⟩ := hc
              try rw [if_pos rfl] at hq
              have hlk : Cond.methodLink (xm_y mi).cls idx Lib.objectInit ∈ xw_s := by
                rcases xkl_link hkl with hw | ⟨q, hqm, e1, e2, e3⟩
                · exact hw
                · exact absurd e3 (xn_obj q hqm)
              have hp1 : xm_p 0 = 1 := rfl
              rw [hp1] at hq hcat hi0
              obtain ⟨rr, rfl⟩ : ∃ rr, st = .ref i0 :: rr := by
                cases st with
                | nil => cases hi0
                | cons z zz => exact ⟨zz, by cases hi0; rfl⟩
              exact W.objInit (rest := rr.map (xv B sp)) hx hb hown (hts _ hlk) (hts _ (xw_word xm_obj)) (hts _ (xw_cm 0 (by decide))) rfl (hl.1.1.trans hml.symm) rfl hk1 (by omega) (by have := lv_room (m := m) (pc := pc) (ls := ls) (rest := rr.map (xv B sp)) (st := rr.map (xv B sp)) (by rw [List.map_map, show ((fun v : Value => v.category) ∘ xv B sp) = Value.category from funext (fun v => xv_cat v)]; exact hcat); show 2 * (F0 m pc ls _).monitorRoom + _ + 12 ≤ _; have e0 : (F0 m pc ls (Value.ref (xr B sp i0) :: rr.map (xv B sp))).monitorRoom = (F0 m pc ls (rr.map (xv B sp))).monitorRoom := rfl; rw [e0]; omega) (go _ _ _ _ hq hl)
            · cases hq
        cases d with
        | zero => cases hq
        | succ d1 =>
          dsimp only at hq
          split at hq
          · rename_i hc
            obtain ⟨hcat, hblen, hall⟩ := hc
            try rw [if_neg h0] at hq
            split at hq
            · rename_i r1 h1 he1
              have ha := xkl_lt hkl
              have hG := xm_G ha h0
              have hmn := ex_mono _ _ _ _ _ _ _ _ _ he1
              have hmn2 := ex_mono _ _ _ _ _ _ _ _ _ hq
              have hgo := fun H1 locs1 hz1 hP1 hS1 => ih mi _ L _ h1 r h' hq p l e R s m args below meth c D dA B sp H1 locs1 (cells + (h1.1.length - h.1.length)) (slots + (h1.2.1 - h.2.1)) Tc Ts Q ls C hz1 hP1 hS1 hl (by omega) (by omega) hRc hRs hret
              have hbl2 : ((st.take (xm_p a)).reverse).length = xm_p a := by rw [List.length_reverse, List.length_take, Nat.min_eq_left hblen]
              have hmet := xmet (hM d1 rfl) (by omega) hG.1 (av := (st.take (xm_p a)).reverse) (fun v hv => List.all_eq_true.mp hall v (List.mem_reverse.mp hv)) (by rw [hbl2]; exact hG.2.2.2.1) (by rw [hbl2]; exact he1) l D dA B sp
              have hpc : ∀ U : State, U.heap = H → s.WarmedH U.vm → va_Pc (((st.take (xm_p a)).reverse).map (xv B sp)) (Rp X D dA B sp h) (((st.take (xm_p a)).reverse).map (xv B sp)).toArray U := fun U hU hW => ⟨rfl, by rw [hU]; exact hz, by rw [hU]; exact hP, va_K.moved hW.alike hK, xN_warm hW hN, by rw [hU]; exact va_X.moved hW.alike (hX.kept (hS.2.1 _ (by omega) (by show ¬ B ≤ _; omega))), hsp, by rw [hU]; exact ⟨vk_S.moved hW.alike (hZ.1.kept hS.2.1), va_Z.moved hW.alike (hZ.2.1.kept hS.2.1), fun k hk => vk_R.warm hW (hZ.2.2 k hk)⟩, by rw [hU]; exact xY_moved hW.alike (xY_kept hY hS.2.1)⟩
              have hfb : FrameBlind (va_Pc (((st.take (xm_p a)).reverse).map (xv B sp)) (Rp X D dA B sp h)) := fun a9 U g mk q => ⟨q.1, Rp_calling g mk a9 q.2⟩
              have hroom : (xrm d1 (h1.1.length - h.1.length) (h1.2.1 - h.2.1)).frames + 1 ≤ R.frames ∧ 8 + (xm_l a + 11) + (xrm d1 (h1.1.length - h.1.length) (h1.2.1 - h.2.1)).locals ≤ R.locals := by
                have := hG.2.2.1
                exact ⟨hfr, by show 8 + (xm_l a + 11) + 60 * d1 ≤ _; omega⟩
              have hcat2 : 2 * (F0 m pc ls (st.map (xv B sp))).monitorRoom + (((st.drop (xm_p a)).map (xv B sp)).map fun v => v.category).sum ≤ 8 := lv_room (by rw [List.map_map, show ((fun v : Value => v.category) ∘ xv B sp) = Value.category from funext (fun v => xv_cat v)]; exact hcat)
              have hcells : cells + (h1.1.length - h.1.length) ≤ R.cells ∧ slots + (h1.2.1 - h.2.1) ≤ R.slots := ⟨by omega, by omega⟩
              have hp1 := (hG.2.2.2.2.2.2.1 (by omega)).2
              obtain ⟨As, e9⟩ : ∃ As, (st.take (xm_p a)).reverse = .ref i0 :: As := xrec hp1 hi0
              rw [e9] at hmet hpc hfb hbl2
              have hst : (F0 m pc ls (st.map (xv B sp))).stack = (As.map (xv B sp)).reverse ++ .ref (xr B sp i0) :: (st.drop (xm_p a)).map (xv B sp) := by
                show st.map (xv B sp) = _
                have e10 : st = As.reverse ++ .ref i0 :: st.drop (xm_p a) := by
                  have e11 : st.take (xm_p a) = As.reverse ++ [.ref i0] := by rw [← List.reverse_reverse (st.take (xm_p a)), e9, List.reverse_cons]
                  calc st = st.take (xm_p a) ++ st.drop (xm_p a) := (List.take_append_drop _ _).symm
                    _ = _ := by rw [e11, List.append_assoc]; rfl
                conv => lhs; rw [e10]
                rw [List.map_append, List.map_reverse]; rfl
              have hn : (As.map (xv B sp)).length = xm_p a - 1 := by rw [List.length_map]; rw [List.length_cons] at hbl2; omega
              rcases xkl_link hkl with hw | ⟨q, hqm, e1, e2, e3⟩
              · refine xrun (va_runI (As := As.map (xv B sp)) (rest := (st.drop (xm_p a)).map (xv B sp)) ⟨hx, hb, hml, hown, hts⟩ hmet ⟨callB_of (xm_p a - 1) hts (xw_good ha) (xm_hw ha h0 hkk) rfl rfl (hts _ hG.2.2.2.2.1) (hts _ hw) (by have := hG.2.1; rw [if_neg (by omega)] at this; exact this) hroom, (hG.2.2.2.2.2.2.2.2 hkk).1, hts _ (hG.2.2.2.2.2.2.1 (by omega)).1⟩ ⟨hfb, hpc⟩ rfl hn (hl.1.1) hst hcat2 hk1 hcells) hS hz hmn.1 hB (fun H1 locs1 hz1 hP1 hS1 => ?_)
                have := hgo H1 locs1 hz1 hP1 hS1
                rw [List.map_append] at this
                cases r1 <;> exact this
              · have hnw := hN.1 q hqm
                rw [e1, e2, e3] at hnw
                refine xrun (va_runIN (host := q.2.2.2) (As := As.map (xv B sp)) (rest := (st.drop (xm_p a)).map (xv B sp)) ⟨hx, hb, hml, hown, hts⟩ hmet ⟨va_cnB (xm_p a - 1) hts (xw_good ha) (xm_hw ha h0 hkk) rfl rfl hnw (hts _ hG.2.2.2.2.1) (by have := hG.2.1; rw [if_neg (by omega)] at this; exact this) hroom, (hG.2.2.2.2.2.2.2.2 hkk).1, hts _ (hG.2.2.2.2.2.2.1 (by omega)).1⟩ ⟨hfb, hpc⟩ rfl hn (hl.1.1) hst hcat2 hk1 hcells) hS hz hmn.1 hB (fun H1 locs1 hz1 hP1 hS1 => ?_)
                have := hgo H1 locs1 hz1 hP1 hS1
                rw [List.map_append] at this
                cases r1 <;> exact this
            · cases hq
          · cases hq
      · cases hq
    case ireturn =>
      dsimp only at hq hk
      simp only [Bool.and_eq_true, decide_eq_true_eq] at hk
      split at hq
      · rename_i x
        split at hq
        · rename_i hc
          cases hq
          have hTc' : cells = Tc := by omega
          have hTs' : slots = Ts := by omega
          rw [hTc', hTs']
          refine hret pc ls H locs hz hP hS ⟨hk.1, ?_⟩
          have hk2 := hk.2
          rcases hc with hc | ⟨hc, h9⟩ | ⟨hc, h9⟩ | ⟨hc, h9⟩
          · rw [hc] at hk2
            exact ⟨_, of_decide_eq_true hk2, rfl⟩
          · rw [hc] at hk2
            exact ⟨_, of_decide_eq_true hk2, by rcases h9 with rfl | rfl <;> rfl⟩
          · rw [hc] at hk2
            exact ⟨_, of_decide_eq_true hk2, by show Value.int _ = _; rw [h9]⟩
          · rw [hc] at hk2
            exact ⟨_, of_decide_eq_true hk2, by show Value.int _ = _; rw [h9]⟩
        · cases hq
      · cases hq
    case areturn =>
      dsimp only at hq hk
      simp only [Bool.and_eq_true, decide_eq_true_eq] at hk
      have hTc' : ∀ (h9 : h' = h), cells = Tc ∧ slots = Ts := fun h9 => by rw [h9] at hTc hTs; omega
      have hr9 : (∃ n, xm_r mi = some (.object n)) ∨ ∃ t, xm_r mi = some (.array t) := by
        have hk2 := hk.2
        split at hk2
        · rename_i n9 h9; exact Or.inl ⟨n9, h9⟩
        · rename_i n9 h9; exact Or.inr ⟨n9, h9⟩
        · cases hk2
      split at hq
      · cases hq
        obtain ⟨q1, q2⟩ := hTc' rfl
        rw [q1, q2]
        exact hret pc ls H locs hz hP hS ⟨hk.1, hr9, Or.inr ⟨_, rfl⟩⟩
      · cases hq
        obtain ⟨q1, q2⟩ := hTc' rfl
        rw [q1, q2]
        exact hret pc ls H locs hz hP hS ⟨hk.1, hr9, Or.inl rfl⟩
      · cases hq
    case return_ =>
      dsimp only at hq hk
      simp only [Bool.and_eq_true, decide_eq_true_eq] at hk
      split at hq
      · cases hq
        have hTc' : cells = Tc := by omega
        have hTs' : slots = Ts := by omega
        rw [hTc', hTs']
        exact hret pc ls H locs hz hP hS ⟨hk.1, hk.2⟩
      · cases hq
    all_goals (dsimp only at hq; cases hq)
theorem snd (X : Nat × (Nat → Int32)) (d : Nat) : Sd X d := by
  induction d with
  | zero => exact snd_step X 0 (fun d' h => by cases h)
  | succ d ih => exact snd_step X (d + 1) (fun d' h => by cases h; exact ih)
