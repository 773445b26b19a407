/-! Every run of the abstract machine is the machine's -/
theorem xa_swk {α : Type} {res : α} {k : Nat → α} : ∀ {ks : List (Int32 × Nat)} {x : Int32} {d : Nat}, xa_sw ks x d k = res → (∃ q ∈ ks, q.1 = x ∧ k q.2 = res) ∨ ((∀ q ∈ ks, q.1 ≠ x) ∧ k d = res)
  | [], x, d, h => Or.inr ⟨(fun q hq => absurd hq List.not_mem_nil), h⟩
  | (i, t) :: r, x, d, h => by
    unfold xa_sw at h
    by_cases hx : x = i
    · rw [if_pos hx] at h
      exact Or.inl ⟨(i, t), List.mem_cons_self, hx.symm, h⟩
    · rw [if_neg hx] at h
      rcases xa_swk h with ⟨q, hq, e, hk⟩ | ⟨hn, hk⟩
      · exact Or.inl ⟨q, List.mem_cons_of_mem _ hq, e, hk⟩
      · refine Or.inr ⟨fun q hq => ?_, hk⟩
        rcases List.mem_cons.mp hq with rfl | hq
        · exact fun z => hx z.symm
        · exact hn q hq
set_option maxHeartbeats 4000000 in
theorem xs_mono {β : Type} {X : Nat × (Nat → Int32)} {m pc : Nat} {L st : List Value} {h : xa_H} {k : Nat → List Value → List Value → xa_H → Option β} {kr : Option Value → Option β} {kc : Nat → Nat → Option β} {res : β} (hq : xs X m pc L st h k kr kc none = some res) :
    (∃ pc' L' st' h', h.1.length ≤ h'.1.length ∧ h.2.1 ≤ h'.2.1 ∧ k pc' L' st' h' = some res) ∨ (∃ r, kr r = some res) ∨ ∃ a b, kc a b = some res := by
  unfold xs at hq
  generalize cdt m pc = e at hq
  obtain ⟨i, a, b, c0, v⟩ := e
  cases i
  all_goals dsimp only at hq
  all_goals first
    | (cases hq; done)
    | exact Or.inl ⟨_, _, _, _, Nat.le_refl _, Nat.le_refl _, hq⟩
    | exact Or.inr (Or.inr ⟨_, _, hq⟩)
    | skip
  all_goals (repeat' split at hq)
  all_goals first
    | (cases hq; done)
    | (refine Or.inl ⟨_, _, _, _, ?_, ?_, hq⟩ <;> exact Nat.le_refl _)
    | (refine Or.inl ⟨_, _, _, _, ?_, ?_, hq⟩ <;> simp [xa_push])
    | exact Or.inr (Or.inl ⟨_, hq⟩)
    | exact Or.inr (Or.inr ⟨_, _, hq⟩)
    | (rcases xa_swk hq with ⟨q, -, -, hk⟩ | ⟨-, hk⟩
       · exact Or.inl ⟨_, _, _, _, Nat.le_refl _, Nat.le_refl _, hk⟩
       · exact Or.inl ⟨_, _, _, _, Nat.le_refl _, Nat.le_refl _, hk⟩)
theorem ex_mono {X : Nat × (Nat → Int32)} : ∀ (n d m pc : Nat) (L st : List Value) (h : xa_H) (r : Option Value) (h' : xa_H), ex X d m pc L st h n = some (r, h') → h.1.length ≤ h'.1.length ∧ h.2.1 ≤ h'.2.1
  | 0, d, m, pc, L, st, h, r, h', hq => by simp [ex] at hq
  | n + 1, d, m, pc, L, st, h, r, h', hq => by
    rw [ex] at hq
    rcases xs_mono hq with ⟨pc', L', st', h1, e1, e2, hk⟩ | ⟨r', hk⟩ | ⟨a, b, hk⟩
    · obtain ⟨f1, f2⟩ := ex_mono n d m pc' L' st' h1 r h' hk
      exact ⟨Nat.le_trans e1 f1, Nat.le_trans e2 f2⟩
    · cases hk
      exact ⟨Nat.le_refl _, Nat.le_refl _⟩
    · cases d with
      | zero => cases hk
      | succ d' =>
        simp only at hk
        split at hk
        · by_cases h0 : a = 0
          · rw [if_pos h0] at hk
            exact ex_mono n _ _ _ _ _ _ _ _ hk
          rw [if_neg h0] at hk
          split at hk
          · rename_i r1 h1 he
            obtain ⟨f1, f2⟩ := ex_mono n _ _ _ _ _ _ _ _ he
            obtain ⟨g1, g2⟩ := ex_mono n _ _ _ _ _ _ _ _ hk
            exact ⟨Nat.le_trans f1 g1, Nat.le_trans f2 g2⟩
          · cases hk
        · cases hk
