/-! The abstract machine's cells as a world of the kit, and rows that keep the heap's size -/
def xr (B : Nat) (sp : Nat → Nat) (i : Nat) : Nat := if i < 1000 then B + i else sp i
def xv (B : Nat) (sp : Nat → Nat) (v : Value) : Value := match v with
  | .ref i => .ref (xr B sp i)
  | v => v
def xc_n (ci : Nat) : Nat := (xc_l.getD ci ("", fun _ => ("", "", "", false), 0)).2.2
def xe (dA : Nat → ClassId) (B : Nat) (sp : Nat → Nat) (h : xa_H) (i : Nat) : va_E :=
  if (xa_k h i).1 < 2 then .inl (dA (xa_k h i).1, (xa_k h i).2, .inl (h.2.2.1 i))
  else if (xa_k h i).1 < 10 then .inl (dA (xa_k h i).1, (xa_k h i).2, .inr (.inr (.inr (.inr (fun j => (h.2.2.2 i j).map (xr B sp))))))
  else .inr ((xa_k h i).1 - 10, (List.range (xc_n ((xa_k h i).1 - 10))).map (fun k => if xf_k ((xa_k h i).1 - 10) k = 2 then va_rf ((h.2.2.2 i k).map (xr B sp)) else .int (h.2.2.1 i k)))
def xw (dA : Nat → ClassId) (B : Nat) (sp : Nat → Nat) (h : xa_H) : va_W := (List.range h.1.length).map (fun i => (B + i, xe dA B sp h i))
theorem xw_at {dA : Nat → ClassId} {B : Nat} {sp : Nat → Nat} {h : xa_H} {i : Nat} (hi : i < h.1.length) : (xw dA B sp h)[i]? = some (B + i, xe dA B sp h i) := by
  simp [xw, hi]
theorem xw_of {dA : Nat → ClassId} {B : Nat} {sp : Nat → Nat} {h : xa_H} {i : Nat} {q : Nat × va_E} (hq : (xw dA B sp h)[i]? = some q) : i < h.1.length ∧ q = (B + i, xe dA B sp h i) := by
  by_cases hi : i < h.1.length
  · rw [xw_at hi] at hq
    exact ⟨hi, (Option.some.inj hq).symm⟩
  · simp [xw, hi] at hq
theorem xw_D (dA : Nat → ClassId) (B : Nat) (sp : Nat → Nat) (h : xa_H) : va_D (fun q => B ≤ q) (xw dA B sp h) := by
  refine ⟨fun i j p q hp hq e => ?_, fun k q hq => ?_⟩
  · obtain ⟨-, rfl⟩ := xw_of hp
    obtain ⟨-, rfl⟩ := xw_of hq
    have e : B + i = B + j := e
    omega
  · obtain ⟨-, rfl⟩ := xw_of hq
    exact Nat.le_add_right _ _
theorem xl_set {α : Type} {f g : Nat → α} {n i : Nat} {x : α} (hi : i < n) (h1 : g i = x) (h2 : ∀ j, j ≠ i → g j = f j) : ((List.range n).map f).set i x = (List.range n).map g := by
  apply List.ext_getElem?
  intro j
  by_cases hj : j = i
  · subst hj
    simp [hi, h1]
  · rw [List.getElem?_set_ne (Ne.symm hj)]
    simp only [List.getElem?_map]
    by_cases hn : j < n
    · simp [hn, h2 j hj]
    · simp [hn]
theorem xa_kl {h : xa_H} {i kd n : Nat} (hk : xa_k h i = (kd, n)) (h9 : kd ≠ 99) : i < h.1.length ∧ i < 1000 := by
  unfold xa_k at hk
  by_cases h1 : i < 1000
  · rw [if_pos h1] at hk
    by_cases hi : i < h.1.length
    · exact ⟨hi, h1⟩
    · rw [List.getD_eq_getElem?_getD, List.getElem?_eq_none (by omega)] at hk
      cases hk
      exact absurd rfl h9
  · rw [if_neg h1] at hk
    cases hk
    exact absurd rfl h9
theorem xe_cong {dA : Nat → ClassId} {B : Nat} {sp : Nat → Nat} {h h2 : xa_H} {j : Nat} (hk : xa_k h2 j = xa_k h j) (hI : h2.2.2.1 j = h.2.2.1 j) (hR : h2.2.2.2 j = h.2.2.2 j) : xe dA B sp h2 j = xe dA B sp h j := by
  unfold xe
  rw [hk, hI, hR]
theorem xw_setI {dA : Nat → ClassId} {B : Nat} {sp : Nat → Nat} {h : xa_H} {i k : Nat} {x : Int32} (hi : i < h.1.length) (hk : (xa_k h i).1 < 2) : (xw dA B sp h).set i (B + i, .inl (dA (xa_k h i).1, (xa_k h i).2, .inl (va_up (h.2.2.1 i) k x))) = xw dA B sp (xa_I h i k x) := by
  refine xl_set hi ?_ ?_
  · have e : xa_k (xa_I h i k x) i = xa_k h i := rfl
    have e1 : (xa_I h i k x).2.2.1 i = va_up (h.2.2.1 i) k x := if_pos rfl
    unfold xe
    rw [e, if_pos hk, e1]
  · intro j hj
    rw [xe_cong (h := h) (h2 := xa_I h i k x) (j := j) rfl (if_neg hj) rfl]
theorem xw_setR {dA : Nat → ClassId} {B : Nat} {sp : Nat → Nat} {h : xa_H} {i k : Nat} {v : Option Nat} (hi : i < h.1.length) (hk : 2 ≤ (xa_k h i).1) (hk2 : (xa_k h i).1 < 10) : (xw dA B sp h).set i (B + i, .inl (dA (xa_k h i).1, (xa_k h i).2, .inr (.inr (.inr (.inr (va_up (fun j => (h.2.2.2 i j).map (xr B sp)) k (v.map (xr B sp)))))))) = xw dA B sp (xa_R h i k v) := by
  refine xl_set hi ?_ ?_
  · have e : xa_k (xa_R h i k v) i = xa_k h i := rfl
    have e1 : (xa_R h i k v).2.2.2 i = va_up (h.2.2.2 i) k v := if_pos rfl
    unfold xe
    rw [e, if_neg (by omega), if_pos hk2, e1]
    have e2 : (fun j => Option.map (xr B sp) (va_up (h.2.2.2 i) k v j)) = va_up (fun j => (h.2.2.2 i j).map (xr B sp)) k (v.map (xr B sp)) := by
      funext j
      unfold va_up
      by_cases hj : j = k
      · rw [if_pos hj, if_pos hj]
      · rw [if_neg hj, if_neg hj]
    rw [e2]
  · intro j hj
    rw [xe_cong (h := h) (h2 := xa_R h i k v) (j := j) rfl rfl (if_neg hj)]
theorem xe_obj {dA : Nat → ClassId} {B : Nat} {sp : Nat → Nat} {h : xa_H} {i a : Nat} (hk : (xa_k h i).1 = 10 + a) : xe dA B sp h i = .inr (a, (List.range (xc_n a)).map (fun k => if xf_k a k = 2 then va_rf ((h.2.2.2 i k).map (xr B sp)) else .int (h.2.2.1 i k))) := by
  have e2 : ¬ 10 + a < 2 := by omega
  have e3 : ¬ 10 + a < 10 := by omega
  have e4 : 10 + a - 10 = a := by omega
  unfold xe
  rw [hk, if_neg e2, if_neg e3, e4]
theorem xw_setF {dA : Nat → ClassId} {B : Nat} {sp : Nat → Nat} {h : xa_H} {i k ci : Nat} {x : Int32} (hi : i < h.1.length) (hk : (xa_k h i).1 = 10 + ci) (hkn : k < xc_n ci) (hf : xf_k ci k ≠ 2) : (xw dA B sp h).set i (B + i, .inr (ci, ((List.range (xc_n ci)).map (fun k => if xf_k ci k = 2 then va_rf ((h.2.2.2 i k).map (xr B sp)) else .int (h.2.2.1 i k))).set k (.int x))) = xw dA B sp (xa_I h i k x) := by
  refine xl_set hi ?_ ?_
  · rw [xe_obj (h := xa_I h i k x) hk]
    have e1 : (xa_I h i k x).2.2.1 i = va_up (h.2.2.1 i) k x := if_pos rfl
    rw [e1]
    rw [xl_set (g := fun k1 => if xf_k ci k1 = 2 then va_rf (Option.map (xr B sp) ((xa_I h i k x).2.2.2 i k1)) else Value.int (va_up (h.2.2.1 i) k x k1)) hkn]
    · rw [if_neg hf]
      show Value.int (if k = k then x else _) = _
      rw [if_pos rfl]
    · intro j hj
      show (if _ then _ else Value.int (if j = k then x else _)) = _
      rw [if_neg hj]
      rfl
  · intro j hj
    rw [xe_cong (h := h) (h2 := xa_I h i k x) (j := j) rfl (if_neg hj) rfl]
theorem xw_setG {dA : Nat → ClassId} {B : Nat} {sp : Nat → Nat} {h : xa_H} {i k ci j0 : Nat} (hi : i < h.1.length) (hk : (xa_k h i).1 = 10 + ci) (hkn : k < xc_n ci) (hf : xf_k ci k = 2) : (xw dA B sp h).set i (B + i, .inr (ci, ((List.range (xc_n ci)).map (fun k => if xf_k ci k = 2 then va_rf ((h.2.2.2 i k).map (xr B sp)) else .int (h.2.2.1 i k))).set k (.ref (xr B sp j0)))) = xw dA B sp (xa_R h i k (some j0)) := by
  refine xl_set hi ?_ ?_
  · rw [xe_obj (h := xa_R h i k (some j0)) hk]
    have e1 : (xa_R h i k (some j0)).2.2.2 i = va_up (h.2.2.2 i) k (some j0) := if_pos rfl
    rw [e1]
    rw [xl_set (g := fun k1 => if xf_k ci k1 = 2 then va_rf (Option.map (xr B sp) (va_up (h.2.2.2 i) k (some j0) k1)) else Value.int ((xa_R h i k (some j0)).2.2.1 i k1)) hkn]
    · rw [if_pos hf]
      show va_rf (Option.map (xr B sp) (if k = k then some j0 else _)) = _
      rw [if_pos rfl]
      rfl
    · intro j hj
      show (if _ then va_rf (Option.map (xr B sp) (if j = k then some j0 else _)) else _) = _
      rw [if_neg hj]
      rfl
  · intro j hj
    rw [xe_cong (h := h) (h2 := xa_R h i k (some j0)) (j := j) rfl rfl (if_neg hj)]
theorem xw_push {dA : Nat → ClassId} {B : Nat} {sp : Nat → Nat} {h : xa_H} {kd n : Nat} : xw dA B sp (xa_push h kd n) = xw dA B sp h ++ [(B + h.1.length, xe dA B sp (xa_push h kd n) h.1.length)] := by
  have e : (xa_push h kd n).1.length = h.1.length + 1 := by simp [xa_push]
  unfold xw
  rw [e, List.range_succ, List.map_append]
  congr 1
  refine List.map_congr_left (fun i hi => ?_)
  have hi : i < h.1.length := List.mem_range.mp hi
  have hne : i ≠ h.1.length := by omega
  have hk : xa_k (xa_push h kd n) i = xa_k h i := by
    show (if i < 1000 then (h.1 ++ [(kd, n)]).getD i (99, 0) else (99, 0)) = (if i < 1000 then h.1.getD i (99, 0) else (99, 0))
    rw [List.getD_eq_getElem?_getD, List.getD_eq_getElem?_getD, List.getElem?_append_left hi]
  rw [xe_cong (h := h) hk (if_neg hne) (if_neg hne)]
theorem xk_push {h : xa_H} {kd n : Nat} (hl : h.1.length < 1000) : xa_k (xa_push h kd n) h.1.length = (kd, n) := by
  show (if h.1.length < 1000 then (h.1 ++ [(kd, n)]).getD h.1.length (99, 0) else (99, 0)) = (kd, n)
  rw [if_pos hl, List.getD_eq_getElem?_getD, List.getElem?_append_right (Nat.le_refl _), Nat.sub_self]
  rfl
