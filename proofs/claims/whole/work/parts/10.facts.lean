section XR
variable {p : Program} {l : Launch} {e : Env} {R : Room} {s : State} {m : MethodId} {args : Array Value} {below : List Frame} {meth : Method} {c : Code} {H : Heap} {locs : List Loc} {cells slots : Nat} {Q : State → Prop}
/-- behind a call -/
theorem xrun {D : va_G} {dA : Nat → ClassId} {B : Nat} {sp : Nat → Nat} {h h1 : xa_H} {r : Option Value} {mc ms pc : Nat} {ls : Array Slot} {st0 rest : List Value} {a : Array Value}
    (hr : va_Run p l e R s m args below meth c H locs cells slots mc ms (F0 m pc ls st0) rest (xQ D dA B sp r h1 a) (fun q => B ≤ q)) (hS : va_S (fun q => B ≤ q) s.heap H locs) (hz : H.size = B + h.1.length) (hle : h.1.length ≤ h1.1.length) (hB : B ≤ s.heap.size)
    (kk : ∀ (H1 : Heap) (locs1 : List Loc), H1.size = B + h1.1.length → va_P D xc_l (xw dA B sp h1) H1 → va_S (fun q => B ≤ q) s.heap H1 locs1 → W p l e R s m args below meth c H1 locs1 (cells + mc) (slots + ms) Q (F0 m (pc + 3) ls ((r.map (xv B sp)).toList ++ rest))) :
    W p l e R s m args below meth c H locs cells slots Q (F0 m pc ls st0) := by
  intro T hT X
  obtain ⟨v, st₀, t, T', L, h0, X', hL, e1, e2, ⟨hv, hz1, hP1, hk⟩, st⟩ := hr T hT X
  cases hv
  rw [h0] at hk
  obtain ⟨t2, a1, b1⟩ := kk T'.heap (locs ++ L) (by rw [e1]; exact hz1) (by rw [e1]; exact hP1) ⟨by have := hS.1; rw [e1, hz1]; omega, fun q h1 h2 => by
      have h2 : ¬ B ≤ q := h2
      rw [e1, hk q (by omega)]
      exact hS.2.1 q h1 h2, fun q hq => by
      rcases List.mem_append.mp hq with hh | hh
      · exact hS.2.2 q hh
      · exact hL q hh⟩ T' rfl X'
  exact ⟨t2, st t2 a1, b1⟩
end XR
theorem xc_at {a : Nat} (ha : a < xc_l.length) : xc_l[a]? = some ((xc_q a).1, (xc_q a).2.1, (xc_q a).2.2) := by
  unfold xc_q
  rw [List.getD_eq_getElem?_getD, List.getElem?_eq_getElem ha]
  rfl
theorem xc_nq (a : Nat) : xc_n a = (xc_q a).2.2 := rfl
theorem xk_lt {h : xa_H} {i : Nat} (h9 : (xa_k h i).1 ≠ 99) : i < h.1.length ∧ i < 1000 := xa_kl (kd := (xa_k h i).1) (n := (xa_k h i).2) rfl h9
theorem xr_lt {B : Nat} {sp : Nat → Nat} {i : Nat} (hi : i < 1000) : xr B sp i = B + i := if_pos hi
theorem xv_rf {B : Nat} {sp : Nat → Nat} (o : Option Nat) : xv B sp (va_rf o) = va_rf (o.map (xr B sp)) := by cases o <;> rfl
/-! What the checked tables give -/
theorem xw_word {c : Nat} {w : Cond} (h : xkw c w = true) : w ∈ xw_s := by
  unfold xkw at h
  rw [Bool.and_eq_true] at h
  exact List.mem_filter.mpr ⟨List.mem_of_getElem? (of_decide_eq_true h.1), h.2⟩
theorem xw_good {a : Nat} (ha : a + 1 < xt_n) : GoodIn xw_s (xws a) := by
  intro w hw
  have hm : w ∈ xw_s := by
    rcases List.mem_cons.mp hw with rfl | hw
    · exact xw_cm a ha
    · exact hw
  exact ⟨hm, good_of_word (List.mem_filter.mp hm).2⟩
theorem xk (mi : Nat) (h : mi < xt_n) (pc : Nat) : xk_B mi pc = true := by
  by_cases hp : pc < xm_n mi
  · exact List.all_eq_true.mp (xk_tab mi h) pc (List.mem_range.mpr hp)
  · have e : cdt mi pc = (.athrow, 0, 0, 0, 0) := if_neg hp
    unfold xk_B
    rw [e]
theorem xkl_lt {mi idx a c : Nat} (h : xkl mi idx a c = true) : a + 1 < xt_n := by
  unfold xkl at h
  rw [Bool.and_eq_true] at h
  exact of_decide_eq_true h.1
theorem xkl_link {mi idx a c : Nat} (h : xkl mi idx a c = true) : Cond.methodLink (xm_y mi).cls idx (xm_y a) ∈ xw_s ∨ ∃ q ∈ xn_m, q.1 = (xm_y mi).cls ∧ q.2.1 = idx ∧ q.2.2.1 = xm_y a := by
  unfold xkl at h
  rw [Bool.and_eq_true] at h
  have h2 := h.2
  split at h2
  · exact Or.inl (xw_word h2)
  · split at h2
    · rename_i q hq
      simp only [Bool.and_eq_true, decide_eq_true_eq] at h2
      exact Or.inr ⟨q, List.mem_of_getElem? hq, h2.1.1, h2.1.2, h2.2⟩
    · cases h2
theorem xc_F {a : Nat} (ha : a < xc_l.length) : xcB a = true := List.all_eq_true.mp xc_tab a (List.mem_range.mpr ha)
theorem xc_G {a : Nat} (ha : a < xc_l.length) : (∀ k, k < (xc_q a).2.2 → (parseFieldDescriptor ((xc_q a).2.1 k).2.2.1 = some (xc_t a k) ∧ ((xc_t a k = .int ∧ xf_k a k = 0) ∨ (xc_t a k = .boolean ∧ xf_k a k = 1) ∨ ((∃ z, xc_t a k = .object z) ∧ xf_k a k = 2) ∨ ((∃ z, xc_t a k = .array z) ∧ xf_k a k = 2)) ∧ ∀ j, j < (xc_q a).2.2 → j ≠ k → ((xc_q a).2.1 j).2.1 ≠ ((xc_q a).2.1 k).2.1)) ∧ Cond.instantiable (xc_q a).1 (xc_q a).2.2 ∈ xw_s ∧ Cond.initialized (xc_q a).1 ∈ xw_s ∧ (∀ k, k < (xc_q a).2.2 → u_lay (xc_q a).1 (xc_q a).2.1 k ∈ xw_s) ∧ a < 80 := by
  have h := xc_F ha
  unfold xcB at h
  rw [Bool.and_eq_true, Bool.and_eq_true, Bool.and_eq_true, Bool.and_eq_true] at h
  obtain ⟨⟨⟨⟨h1, h2⟩, h3⟩, h4⟩, h5⟩ := h
  refine ⟨fun k hk => ?_, xw_word h2, xw_word h3, fun k hk => xw_word (List.all_eq_true.mp h4 k (List.mem_range.mpr hk)), of_decide_eq_true h5⟩
  have h1 := List.all_eq_true.mp h1 k (List.mem_range.mpr hk)
  rw [Bool.and_eq_true, Bool.and_eq_true] at h1
  obtain ⟨⟨g1, g2⟩, g3⟩ := h1
  refine ⟨of_decide_eq_true g1, ?_, fun j hj hne => ?_⟩
  · split at g2
    · rename_i e; exact Or.inl ⟨e, of_decide_eq_true g2⟩
    · rename_i e; exact Or.inr (Or.inl ⟨e, of_decide_eq_true g2⟩)
    · rename_i z e; exact Or.inr (Or.inr (Or.inl ⟨⟨z, e⟩, of_decide_eq_true g2⟩))
    · rename_i z e; exact Or.inr (Or.inr (Or.inr ⟨⟨z, e⟩, of_decide_eq_true g2⟩))
    · cases g2
  · have h3 := List.all_eq_true.mp g3 j (List.mem_range.mpr hj)
    rw [Bool.or_eq_true] at h3
    rcases h3 with h3 | h3
    · exact absurd (of_decide_eq_true h3) hne
    · exact of_decide_eq_true h3
theorem xc_80 {a : Nat} (ha : a < xc_l.length) : a < 80 := (xc_G ha).2.2.2.2
theorem xc_ins {a : Nat} (ha : a < xc_l.length) : Cond.instantiable (xc_q a).1 (xc_q a).2.2 ∈ xw_s := (xc_G ha).2.1
theorem xc_ini {a : Nat} (ha : a < xc_l.length) : Cond.initialized (xc_q a).1 ∈ xw_s := (xc_G ha).2.2.1
theorem xw_in_lay {a : Nat} (ha : a < xc_l.length) : ∀ w ∈ u_ws (xc_q a).1 (xc_q a).2.1 (xc_q a).2.2, w ∈ xw_s := by
  intro w hw
  obtain ⟨k, hk, rfl⟩ := List.mem_map.mp hw
  exact (xc_G ha).2.2.2.1 k (List.mem_range.mp hk)
theorem xc_ty {a : Nat} (ha : a < xc_l.length) : (∀ k, k < (xc_q a).2.2 → parseFieldDescriptor ((xc_q a).2.1 k).2.2.1 = some (xc_t a k)) ∧ ∀ x, x < (xc_q a).2.2 → ∀ y, y < (xc_q a).2.2 → x ≠ y → ((xc_q a).2.1 x).2.1 ≠ ((xc_q a).2.1 y).2.1 :=
  ⟨fun k hk => ((xc_G ha).1 k hk).1, fun x hx y hy hne => ((xc_G ha).1 y hy).2.2 x hx hne⟩
theorem xc_t0 {a k : Nat} (ha : a < xc_l.length) (hk : k < (xc_q a).2.2) (h : xf_k a k = 0) : xc_t a k = .int := by
  rcases ((xc_G ha).1 k hk).2.1 with h1 | h1 | h1 | h1 <;> first | exact h1.1 | (rw [h1.2] at h; omega)
theorem xc_t1 {a k : Nat} (ha : a < xc_l.length) (hk : k < (xc_q a).2.2) (h : xf_k a k = 1) : xc_t a k = .boolean := by
  rcases ((xc_G ha).1 k hk).2.1 with h1 | h1 | h1 | h1 <;> first | exact h1.1 | (rw [h1.2] at h; omega)
theorem xc_t2 {a k : Nat} (ha : a < xc_l.length) (hk : k < (xc_q a).2.2) (h : xf_k a k = 2) : (∃ z, xc_t a k = .object z) ∨ ∃ z, xc_t a k = .array z := by
  rcases ((xc_G ha).1 k hk).2.1 with h1 | h1 | h1 | h1
  · rw [h1.2] at h; omega
  · rw [h1.2] at h; omega
  · exact Or.inl h1.1
  · exact Or.inr h1.1
theorem xc_dv {a k : Nat} (ha : a < xc_l.length) (hk : k < (xc_q a).2.2) : defaultValue (xc_t a k) = if xf_k a k = 2 then .null else .int 0 := by
  rcases ((xc_G ha).1 k hk).2.1 with h1 | h1 | ⟨⟨z, h1⟩, h2⟩ | ⟨⟨z, h1⟩, h2⟩
  · rw [h1.1, h1.2]; rfl
  · rw [h1.1, h1.2]; rfl
  · rw [h1, h2]; rfl
  · rw [h1, h2]; rfl
theorem xm_F {a : Nat} (ha : a + 1 < xt_n) (h0 : a ≠ 0) : xmB a = true := by
  have h := List.all_eq_true.mp xm_tab (a - 1) (List.mem_range.mpr (by omega))
  rw [show a - 1 + 1 = a by omega] at h
  exact h
theorem xm_G {a : Nat} (ha : a + 1 < xt_n) (h0 : a ≠ 0) : plainFor (xm_y a) = true ∧ ((xm_y a).cls ≠ "java/lang/invoke/MethodHandle" ∧ (xm_y a).cls ≠ "java/lang/invoke/VarHandle" ∧ (parseMethodDescriptor (xm_y a).desc).map (fun d => d.parameters.length) = some (if xm_k a = 0 then xm_p a else xm_p a - 1)) ∧ xm_l a ≤ 40 ∧ xm_p a ≤ xm_l a ∧ Cond.initialized (xm_y a).cls ∈ xw_s ∧ (xm_k a = 0 → Cond.static (xm_y a) ∈ xw_s) ∧ (xm_k a ≠ 0 → Cond.instanceMethod (xm_y a) ∈ xw_s ∧ 1 ≤ xm_p a) ∧ (xm_k a = 1 → Cond.selects (xm_y a).cls (xm_y a) (xm_y a) ∈ xw_s ∧ (xm_o a = 200 → (xm_y a).cls = "java/lang/String") ∧ (xm_o a ≠ 200 → xm_o a < xc_l.length ∧ (xc_q (xm_o a)).1 = (xm_y a).cls)) ∧ (xm_k a = 2 → (xm_y a).name = "<init>" ∧ xm_r a = none) := by
  have h := xm_F ha h0
  unfold xmB at h
  simp only [Bool.and_eq_true] at h
  obtain ⟨⟨⟨⟨⟨⟨⟨⟨⟨h1, h2⟩, h3⟩, h4⟩, h5⟩, h6⟩, h7⟩, h8⟩, h9⟩, h10⟩ := h
  refine ⟨h1, ⟨of_decide_eq_true h2, of_decide_eq_true h3, of_decide_eq_true h6⟩, of_decide_eq_true h4, of_decide_eq_true h5, xw_word h7, fun hk => ?_, fun hk => ?_, fun hk => ?_, fun hk => ?_⟩
  · rw [if_pos hk] at h8
    exact xw_word h8
  · rw [if_neg hk, Bool.and_eq_true] at h8
    exact ⟨xw_word h8.1, of_decide_eq_true h8.2⟩
  · rw [if_pos hk, Bool.and_eq_true] at h9
    refine ⟨xw_word h9.1, fun ho => ?_, fun ho => ?_⟩
    · have h11 := h9.2
      rw [if_pos ho] at h11
      exact of_decide_eq_true h11
    · have h11 := h9.2
      rw [if_neg ho, Bool.and_eq_true] at h11
      exact ⟨of_decide_eq_true h11.1, of_decide_eq_true h11.2⟩
  · rw [if_pos hk, Bool.and_eq_true] at h10
    exact ⟨of_decide_eq_true h10.1, of_decide_eq_true h10.2⟩
theorem xm_hw {a : Nat} (ha : a + 1 < xt_n) (h0 : a ≠ 0) (hk : xm_k a = 2) : xws a = Cond.code (xm_y a) (xm_c a) (xm_l a) none :: xw_s := by
  have h9 := ((xm_G ha h0).2.2.2.2.2.2.2.2 hk).2
  unfold xws
  rw [h9]
theorem xo_F : (xo_n ≤ 10 ∧ 2 ≤ xo_n) ∧ (xo_t 0 = .int ∧ xo_t 1 = .boolean) ∧ ∀ k, 2 ≤ k → k < xo_n → xo_t k = .object (xc_q (xo_c k)).1 ∧ xo_c k < xc_l.length ∧ (xc_q (xo_c k)).1 ∈ xo_s := by
  have h := xo_tab
  simp only [xoB, Bool.and_eq_true, decide_eq_true_eq] at h
  refine ⟨⟨h.1.1.1.1, h.1.1.1.2⟩, ⟨h.1.1.2, h.1.2⟩, fun k h2 hn => ?_⟩
  have h3 := List.all_eq_true.mp h.2 k (List.mem_range.mpr hn)
  simp only [Bool.or_eq_true, Bool.and_eq_true, decide_eq_true_eq] at h3
  rcases h3 with h3 | h3
  · omega
  · exact ⟨h3.1.1, h3.1.2, h3.2⟩
theorem xo_10 {k : Nat} (h : k < xo_n) : k < 10 := Nat.lt_of_lt_of_le h xo_F.1.1
theorem xo_2 {k : Nat} (h : k < 2) : k < xo_n := Nat.lt_of_lt_of_le h xo_F.1.2
theorem xo_cl {k : Nat} (h2 : 2 ≤ k) (h : k < xo_n) : xo_c k < xc_l.length := (xo_F.2.2 k h2 h).2.1
theorem xo_in {k : Nat} (h2 : 2 ≤ k) (h : k < xo_n) : (xc_q (xo_c k)).1 ∈ xo_s := (xo_F.2.2 k h2 h).2.2
theorem xo_at0 (dA : Nat → ClassId) : (xt_y dA)[0]? = some (dA 0, .int) := by rw [xt_at (xo_2 (by omega)), xo_F.2.1.1]
theorem xo_at1 (dA : Nat → ClassId) : (xt_y dA)[1]? = some (dA 1, .boolean) := by rw [xt_at (xo_2 (by omega)), xo_F.2.1.2]
theorem xo_at (dA : Nat → ClassId) {k : Nat} (h2 : 2 ≤ k) (h : k < xo_n) : (xt_y dA)[k]? = some (dA k, .object (xc_q (xo_c k)).1) := by rw [xt_at h, (xo_F.2.2 k h2 h).1]
theorem xo_dv {dA : Nat → ClassId} {a N : Nat} (ha : a < 2) : vp_cell (dA a) (N, .inl (fun _ => 0)) = arrV (dA a) N (fun _ => defaultValue (xo_t a)) := by
  rcases (show a = 0 ∨ a = 1 by omega) with rfl | rfl
  · rw [xo_F.2.1.1]; rfl
  · rw [xo_F.2.1.2]; rfl
theorem xo_by {a N : Nat} (ha : a < 2) (hN : N ≤ 1000) : N * componentBytes (xo_t a) ≤ 536870912 := by
  rcases (show a = 0 ∨ a = 1 by omega) with rfl | rfl
  · rw [xo_F.2.1.1]; show N * 4 ≤ _; omega
  · rw [xo_F.2.1.2]; show N * 1 ≤ _; omega
theorem xn_obj : ∀ q ∈ xn_m, q.2.2.1 ≠ xm_y 0 := by decide +kernel
theorem xm_obj : xkw (xm_v 0) (Cond.instanceMethod Lib.objectInit) = true := by decide +kernel
