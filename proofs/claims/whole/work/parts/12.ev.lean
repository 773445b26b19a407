/-! Runs of the abstract machine: more fuel and more depth change nothing -/
def xact {α : Type} (bad : α) (k : Nat → List Value → List Value → xa_H → α) (kr : Option Value → α) (kc : Nat → Nat → α) : Option ((Nat × List Value × List Value × xa_H) ⊕ Option Value ⊕ (Nat × Nat)) → α
  | none => bad
  | some (.inl q) => k q.1 q.2.1 q.2.2.1 q.2.2.2
  | some (.inr (.inl r)) => kr r
  | some (.inr (.inr q)) => kc q.1 q.2
theorem xa_swm {α β : Type} (F : β → α) (g : Nat → β) : ∀ (ks : List (Int32 × Nat)) (x : Int32) (d : Nat), xa_sw ks x d (fun t => F (g t)) = F (xa_sw ks x d g)
  | [], x, d => rfl
  | (i, t) :: r, x, d => by
    unfold xa_sw
    split
    · rfl
    · exact xa_swm F g r x d
set_option maxHeartbeats 4000000 in
theorem xs_nat {α : Type} {X : Nat × (Nat → Int32)} {m pc : Nat} {L st : List Value} {h : xa_H} {k : Nat → List Value → List Value → xa_H → α} {kr : Option Value → α} {kc : Nat → Nat → α} {bad : α} :
    xs X m pc L st h k kr kc bad = xact bad k kr kc (xs X m pc L st h (fun a b c d => some (.inl (a, b, c, d))) (fun r => some (.inr (.inl r))) (fun a b => some (.inr (.inr (a, b)))) none) := by
  unfold xs
  generalize cdt m pc = e
  obtain ⟨i, a, b, c0, v⟩ := e
  dsimp only
  cases i
  all_goals try dsimp only
  all_goals first
    | rfl
    | (split <;> first | rfl | (split <;> first | rfl | (split <;> first | rfl | (split <;> rfl))))
    | skip
  case ifCond c0 o0 => cases c0 <;> dsimp only <;> (split <;> first | rfl | (split <;> rfl))
  case if_icmp c0 o0 => cases c0 <;> dsimp only <;> (split <;> first | rfl | (split <;> rfl))
  case tableswitch =>
    split
    · rename_i x r
      exact xa_swm (xact bad k kr kc) (fun t => some (Sum.inl (t, L, r, h))) _ _ _
    · rfl
  case lookupswitch =>
    split
    · rename_i x r
      exact xa_swm (xact bad k kr kc) (fun t => some (Sum.inl (t, L, r, h))) _ _ _
    · rfl
def Ev (X : Nat × (Nat → Int32)) (d m pc : Nat) (L st : List Value) (h : xa_H) (r : Option Value × xa_H) : Prop := ∃ n, ex X d m pc L st h n = some r
theorem ex_up {X : Nat × (Nat → Int32)} : ∀ (n : Nat) {d d' n' m pc : Nat} {L st : List Value} {h : xa_H} {r : Option Value × xa_H}, ex X d m pc L st h n = some r → n ≤ n' → d ≤ d' → ex X d' m pc L st h n' = some r
  | 0, _, _, _, _, _, _, _, _, _, hq, _, _ => by simp [ex] at hq
  | n + 1, d, d', n', m, pc, L, st, h, r, hq, hn, hd => by
    obtain ⟨n2, rfl⟩ : ∃ n2, n' = n2 + 1 := ⟨n' - 1, by omega⟩
    rw [ex, xs_nat] at hq ⊢
    generalize xs X m pc L st h (fun a b c d => some (Sum.inl (a, b, c, d))) (fun r => some (Sum.inr (Sum.inl r))) (fun a b => some (Sum.inr (Sum.inr (a, b)))) none = A at hq ⊢
    rcases A with _ | q | r9 | q
    · cases hq
    · exact ex_up n hq (by omega) hd
    · exact hq
    · obtain ⟨a, b⟩ := q
      dsimp only [xact] at hq ⊢
      cases d with
      | zero => cases hq
      | succ e =>
        obtain ⟨e2, rfl⟩ : ∃ e2, d' = e2 + 1 := ⟨d' - 1, by omega⟩
        dsimp only at hq ⊢
        split at hq
        · rename_i hc
          rw [if_pos hc]
          by_cases h0 : a = 0
          · rw [if_pos h0] at hq ⊢
            exact ex_up n hq (by omega) hd
          rw [if_neg h0] at hq ⊢
          split at hq
          · rename_i r1 h1 he
            rw [ex_up n he (show n ≤ n2 by omega) (show e ≤ e2 by omega)]
            exact ex_up n hq (by omega) hd
          · cases hq
        · cases hq
theorem Ev.up {X : Nat × (Nat → Int32)} {d d' m pc : Nat} {L st : List Value} {h : xa_H} {r : Option Value × xa_H} (hd : d ≤ d') (he : Ev X d m pc L st h r) : Ev X d' m pc L st h r := by
  obtain ⟨n, hn⟩ := he
  exact ⟨n, ex_up n hn (Nat.le_refl _) hd⟩
theorem Ev.b {X : Nat × (Nat → Int32)} {d m pc pc' : Nat} {L st L' st' : List Value} {h h' : xa_H} {r : Option Value × xa_H} (k : Nat) (hb : ∀ n, ex X d m pc L st h (n + k) = ex X d m pc' L' st' h' n) (he : Ev X d m pc' L' st' h' r) : Ev X d m pc L st h r := by
  obtain ⟨n, hn⟩ := he
  exact ⟨n + k, (hb n).trans hn⟩
theorem Ev.r {X : Nat × (Nat → Int32)} {d m pc : Nat} {L st : List Value} {h : xa_H} {r : Option Value × xa_H} (k : Nat) (hb : ∀ n, ex X d m pc L st h (n + k) = some r) : Ev X d m pc L st h r := ⟨0 + k, hb 0⟩
theorem Ev.i {X : Nat × (Nat → Int32)} {d m pc p1 p2 : Nat} {L st L1 s1 L2 s2 : List Value} {h h1 h2 : xa_H} {r : Option Value × xa_H} {c : Prop} [Decidable c] (k : Nat) (hb : ∀ n, ex X d m pc L st h (n + k) = if c then ex X d m p1 L1 s1 h1 n else ex X d m p2 L2 s2 h2 n) (ht : c → Ev X d m p1 L1 s1 h1 r) (hf : ¬ c → Ev X d m p2 L2 s2 h2 r) : Ev X d m pc L st h r := by
  by_cases hc : c
  · obtain ⟨n, hn⟩ := ht hc
    exact ⟨n + k, by rw [hb n, if_pos hc]; exact hn⟩
  · obtain ⟨n, hn⟩ := hf hc
    exact ⟨n + k, by rw [hb n, if_neg hc]; exact hn⟩
theorem Ev.c {X : Nat × (Nat → Int32)} {d m pc pc' a : Nat} {L st L' rest A : List Value} {h h1 h2 : xa_H} {r1 : Option Value} {r : Option Value × xa_H} (k : Nat) (hb : ∀ n, ex X (d + 1) m pc L st h (n + k) = (match ex X d a 0 A [] h1 n with
      | some (v, h') => ex X (d + 1) m pc' L' (v.toList ++ rest) h' n
      | none => none)) (hc : Ev X d a 0 A [] h1 (r1, h2)) (he : Ev X (d + 1) m pc' L' (r1.toList ++ rest) h2 r) : Ev X (d + 1) m pc L st h r := by
  obtain ⟨n1, hn1⟩ := hc
  obtain ⟨n2, hn2⟩ := he
  refine ⟨(n1 + n2) + k, ?_⟩
  rw [hb, ex_up n1 hn1 (show n1 ≤ n1 + n2 by omega) (Nat.le_refl _)]
  exact ex_up n2 hn2 (by omega) (Nat.le_refl _)
