/-! Locals, what a state must hold, the contract of a method out of a run of the abstract machine -/
theorem xv_cat {B : Nat} {sp : Nat → Nat} (v : Value) : (xv B sp v).category = v.category := by cases v <;> rfl
theorem xg_cat {v : Value} (h : xg v = true) : v.category = 1 := by cases v <;> first | rfl | cases h
def xlv (B : Nat) (sp : Nat → Nat) (L : List Value) : List (Nat × Value) := (List.range L.length).filterMap (fun i => match L[i]? with
  | some v => if xg v = true then some (i, xv B sp v) else none
  | none => none)
theorem xlv_in {B : Nat} {sp : Nat → Nat} {L : List Value} {q : Nat × Value} : q ∈ xlv B sp L ↔ ∃ v, L[q.1]? = some v ∧ xg v = true ∧ q.2 = xv B sp v := by
  unfold xlv
  rw [List.mem_filterMap]
  constructor
  · rintro ⟨i, -, h⟩
    split at h
    · rename_i v hv
      by_cases hg : xg v = true
      · rw [if_pos hg] at h
        cases h
        exact ⟨v, hv, hg, rfl⟩
      · rw [if_neg hg] at h
        cases h
    · cases h
  · rintro ⟨v, hv, hg, e⟩
    refine ⟨q.1, List.mem_range.mpr (List.getElem?_eq_some_iff.mp hv).1, ?_⟩
    rw [hv]
    simp only [hg, if_true, ← e]
def xh (B : Nat) (sp : Nat → Nat) (ls : Array Slot) (nL : Nat) (L : List Value) : Prop := lv_has ls nL (xlv B sp L) ∧ L.length = nL
theorem xh_at {B : Nat} {sp : Nat → Nat} {ls : Array Slot} {nL : Nat} {L : List Value} (h : xh B sp ls nL L) {i : Nat} {v : Value} (hv : L[i]? = some v) (hg : xg v = true) : ls[i]? = some (.val (xv B sp v)) :=
  h.1.2.2 (i, xv B sp v) (xlv_in.mpr ⟨v, hv, hg, rfl⟩)
theorem xh_set {B : Nat} {sp : Nat → Nat} {ls ls' : Array Slot} {nL : Nat} {L : List Value} (h : xh B sp ls nL L) {i : Nat} {v : Value} (hg : xg v = true)
    (h' : lv_has ls' nL ((i, xv B sp v) :: (xlv B sp L).filter (fun q => !(q.1 == i) && !(q.1 + 1 == i && q.2.category == 2)))) : xh B sp ls' nL (L.set i v) := by
  refine ⟨⟨h'.1, h'.2.1, fun q hq => ?_⟩, by rw [List.length_set]; exact h.2⟩
  obtain ⟨w, hw, hgw, e⟩ := xlv_in.mp hq
  by_cases hj : q.1 = i
  · have hi : i < L.length := by
      have := (List.getElem?_eq_some_iff.mp hw).1
      rw [List.length_set, hj] at this
      exact this
    rw [hj, List.getElem?_set_self hi] at hw
    cases hw
    have := h'.2.2 (i, xv B sp v) List.mem_cons_self
    rw [hj, e]
    exact this
  · rw [List.getElem?_set_ne (Ne.symm hj)] at hw
    refine h'.2.2 q (List.mem_cons_of_mem _ (List.mem_filter.mpr ⟨xlv_in.mpr ⟨w, hw, hgw, e⟩, ?_⟩))
    have hc : q.2.category = 1 := by rw [e, xv_cat]; exact xg_cat hgw
    simp [hj, hc]
theorem xh_entry {B : Nat} {sp : Nat → Nat} {av : List Value} {n : Nat} (hg : ∀ v ∈ av, xg v = true) (hn : av.length ≤ n) : xh B sp ((lg_sl (av.map (xv B sp)) ++ List.replicate (n - (lg_sl (av.map (xv B sp))).length) Slot.unset).toArray) n (av ++ List.replicate (n - av.length) (.retAddr 0)) := by
  have e : ∀ (l : List Value), (∀ v ∈ l, xg v = true) → lg_sl (l.map (xv B sp)) = l.map (fun v => Slot.val (xv B sp v)) := by
    intro l
    induction l with
    | nil => intro _; rfl
    | cons v t ih =>
      intro hl
      have hc : (xv B sp v).category = 1 := by rw [xv_cat]; exact xg_cat (hl v List.mem_cons_self)
      have := ih (fun w hw => hl w (List.mem_cons_of_mem _ hw))
      unfold lg_sl at this ⊢
      simp only [List.map_cons, List.flatMap_cons, this, hc]
      simp
  have hlen : (lg_sl (av.map (xv B sp))).length = av.length := by rw [e av hg, List.length_map]
  have hl := lv_entry (av.map (xv B sp)) (n := n) (by rw [hlen]; exact hn)
  refine ⟨⟨hl.1, hl.2.1, fun q hq => ?_⟩, by simp; omega⟩
  obtain ⟨v, hv, hgv, e2⟩ := xlv_in.mp hq
  by_cases hi : q.1 < av.length
  · rw [List.getElem?_append_left hi] at hv
    rw [hlen, e av hg, List.getElem?_toArray, List.getElem?_append_left (by rw [List.length_map]; exact hi), List.getElem?_map, hv, e2]
    rfl
  · rw [List.getElem?_append_right (by omega)] at hv
    have := List.mem_of_getElem? hv
    rw [List.mem_replicate] at this
    rw [this.2] at hgv
    cases hgv
def xt_y (dA : Nat → ClassId) : List (ClassId × FieldType) := (List.range xo_n).map (fun k => (dA k, xo_t k))
theorem xt_at {dA : Nat → ClassId} {k : Nat} (hk : k < xo_n) : (xt_y dA)[k]? = some (dA k, xo_t k) := by simp [xt_y, hk]
/-- words that no table keeps: links of nest mates, arrays of references -/
def xN (U : State) : Prop := (∀ q ∈ xn_m, va_Nw (.methodLinkNest q.1 q.2.1 q.2.2.1 q.2.2.2) U) ∧ ∀ C ∈ xo_s, va_AO C U
theorem xN_warm {s U : State} (hW : s.WarmedH U.vm) (h : xN s) : xN U := ⟨fun q hq => va_Nw.warmM hW (h.1 q hq), fun C hC => va_AO.moved hW.alike (h.2 C hC)⟩
/-- the text constants: they lie below B and stay -/
def xZ (B : Nat) (sp : Nat → Nat) (U : State) (H : Heap) : Prop := vk_S xS_n xS_L xS_B (fun k => sp (2000 + k)) (fun k => sp (3000 + k)) (fun q => B ≤ q) U H ∧ va_Z "java/lang/String" "COMPACT_STRINGS" "Z" (.int 1) (fun q => B ≤ q) U H ∧ ∀ k, k < xS_n → vk_R (xS_i.getD k ("", 0)).1 (xS_i.getD k ("", 0)).2 (xS_t.getD k "") (sp (2000 + k)) U
/-- a static of the JDK's of which only 'null or a reference' is said: the script's place 1000000000 says which -/
def xY (X : Nat × (Nat → Int32)) (B : Nat) (sp : Nat → Nat) (U : State) (H : Heap) : Prop := (X.2 1000000000 = 0 → va_Z "jdk/internal/util/Preconditions" "SIOOBE_FORMATTER" "Ljava/util/function/BiFunction;" .null (fun q => B ≤ q) U H) ∧ (¬ X.2 1000000000 = 0 → va_Z "jdk/internal/util/Preconditions" "SIOOBE_FORMATTER" "Ljava/util/function/BiFunction;" (.ref (sp 4000)) (fun q => B ≤ q) U H)
theorem xY_moved {X : Nat × (Nat → Int32)} {B : Nat} {sp : Nat → Nat} {u U : State} {H : Heap} (hvm : u.vm.Alike U.vm) (h : xY X B sp u H) : xY X B sp U H := ⟨fun z => va_Z.moved hvm (h.1 z), fun z => va_Z.moved hvm (h.2 z)⟩
theorem xY_kept {X : Nat × (Nat → Int32)} {B : Nat} {sp : Nat → Nat} {U : State} {H H1 : Heap} (h : xY X B sp U H) (hq : ∀ a : Nat, a < H.size → ¬ B ≤ a → H1[a]? = H[a]?) : xY X B sp U H1 := ⟨fun z => (h.1 z).kept hq, fun z => (h.2 z).kept hq⟩
def Rp (X : Nat × (Nat → Int32)) (D : va_G) (dA : Nat → ClassId) (B : Nat) (sp : Nat → Nat) (h : xa_H) (U : State) : Prop :=
  U.heap.size = B + h.1.length ∧ va_P D xc_l (xw dA B sp h) U.heap ∧ va_K D xc_l (xt_y dA) U ∧ xN U ∧ va_X (sp 1000) X.1 X.2 U U.heap ∧ sp 1000 < B ∧ xZ B sp U U.heap ∧ xY X B sp U U.heap
theorem Rp_calling {X : Nat × (Nat → Int32)} {D : va_G} {dA : Nat → ClassId} {B : Nat} {sp : Nat → Nat} {h : xa_H} {U : State} (g : JFrame) (mk : MethodId) (a : Array Value) (q : Rp X D dA B sp h U) : Rp X D dA B sp h (U.calling g mk a) := by
  obtain ⟨q1, q2, q3, q4, q5, q6, ⟨q7, q8, q9⟩, q10⟩ := q
  have hA : U.vm.Alike (U.calling g mk a).vm := Vm.Alike.refl U.vm
  exact ⟨q1, q2, va_K.moved hA q3, ⟨fun w hw => va_Nw.same rfl rfl (q4.1 w hw), fun C hC => va_AO.moved hA (q4.2 C hC)⟩, va_X.moved hA q5, q6, ⟨vk_S.moved hA q7, va_Z.moved hA q8, fun k hk => vk_R.same rfl (q9 k hk)⟩, xY_moved hA q10⟩
def xQ (D : va_G) (dA : Nat → ClassId) (B : Nat) (sp : Nat → Nat) (r : Option Value) (h : xa_H) : Array Value → State → Outcome → State → Prop := fun _ st o t =>
  o = .returned (r.map (xv B sp)) ∧ t.heap.size = B + h.1.length ∧ va_P D xc_l (xw dA B sp h) t.heap ∧ ∀ q : Nat, q < B → t.heap[q]? = st.heap[q]?
def xrm (d mc ms : Nat) : Room := { frames := d, cells := mc, slots := ms, locals := 60 * d }
abbrev xws (mi : Nat) : List Cond := Cond.code (xm_y mi) (xm_c mi) (xm_l mi) (xm_r mi) :: xw_s
/-- what is fixed while a method's body runs -/
def Cx (X : Nat × (Nat → Int32)) (D : va_G) (dA : Nat → ClassId) (B : Nat) (sp : Nat → Nat) (p : Program) (R : Room) (s : State) (m : MethodId) (args : Array Value) (meth : Method) (c : Code) (mi d : Nat) : Prop :=
  p.tables.exec = Jvm.exec ∧ c.code = xm_c mi ∧ c.maxLocals = xm_l mi ∧ s.vm.findClass (xm_y mi).cls = some m.cls ∧ (∀ w ∈ xw_s, w.before args s = true) ∧ ((xm_y mi).name = "<init>" → meth.name = "<init>") ∧ d ≤ R.frames ∧ 60 * d ≤ R.locals ∧ va_K D xc_l (xt_y dA) s ∧ xN s ∧ va_X (sp 1000) X.1 X.2 s s.heap ∧ sp 1000 < B ∧ B ≤ s.heap.size ∧ mi < xt_n ∧ xZ B sp s s.heap ∧ xY X B sp s s.heap
/-- how a body ends -/
def xret (mi pc : Nat) (r : Option Value) : Prop := match r with
  | none => decode (xm_c mi) pc = .ok (.return_, 1) ∧ xm_r mi = none
  | some (.int x) => decode (xm_c mi) pc = .ok (.ireturn, 1) ∧ ∃ ty, xm_r mi = some ty ∧ narrow ty (.int x) = .int x
  | some _ => decode (xm_c mi) pc = .ok (.areturn, 1) ∧ ((∃ n, xm_r mi = some (.object n)) ∨ ∃ t, xm_r mi = some (.array t)) ∧ (r = some .null ∨ ∃ a, r = some (.ref a))
def Sd (X : Nat × (Nat → Int32)) (d : Nat) : Prop := ∀ (n mi pc : Nat) (L st : List Value) (h : xa_H) (r : Option Value) (h' : xa_H), ex X d mi pc L st h n = some (r, h') →
  ∀ (p : Program) (l : Launch) (e : Env) (R : Room) (s : State) (m : MethodId) (args : Array Value) (below : List Frame) (meth : Method) (c : Code) (D : va_G) (dA : Nat → ClassId) (B : Nat) (sp : Nat → Nat) (H : Heap) (locs : List Loc) (cells slots Tc Ts : Nat) (Q : State → Prop) (ls : Array Slot),
  Cx X D dA B sp p R s m args meth c mi d → H.size = B + h.1.length → va_P D xc_l (xw dA B sp h) H → va_S (fun q => B ≤ q) s.heap H locs → xh B sp ls (xm_l mi) L →
  cells + (h'.1.length - h.1.length) = Tc → slots + (h'.2.1 - h.2.1) = Ts → Tc ≤ R.cells → Ts ≤ R.slots →
  (∀ (pc1 : Nat) (ls1 : Array Slot) (H1 : Heap) (locs1 : List Loc), H1.size = B + h'.1.length → va_P D xc_l (xw dA B sp h') H1 → va_S (fun q => B ≤ q) s.heap H1 locs1 → xret mi pc1 r →
    W p l e R s m args below meth c H1 locs1 Tc Ts Q (F0 m pc1 ls1 (r.map (xv B sp)).toList)) →
  W p l e R s m args below meth c H locs cells slots Q (F0 m pc ls (st.map (xv B sp)))
/-- as Met.ofW, for a method that no native row stands in for -/
theorem xofW {l : Launch} {y : MethodName} {ws ws' : List Cond} {rm : Room} {Pc : Array Value → State → Prop} {Qc : Array Value → State → Outcome → State → Prop} {mc ms : Nat} {free : Addr → Prop} {cc : ByteArray} {maxL : Nat} {ret : Option FieldType}
    (hy : plainFor y = true) (hw : ws = Cond.code y cc maxL ret :: ws')
    (body : ∀ p e s m args below meth c s₁, BodyLoose p l y (headSpec ws rm) cc maxL ret e s m args below meth c s₁ → c.maxLocals = maxL → Pc args s →
      W p l e (headSpec ws rm).room s m args below meth c s.heap [] 0 0 (MQ below Qc args s mc ms free) (entryFrame m args maxL)) : Met l y ws rm Pc Qc mc ms free := by
  refine MetFree.of_bodyRF (code := cc) (maxLocals := maxL) (ret := ret) hy ?_ ?_
  · intro args s m h hn
    obtain ⟨meth, c, h1, h2, h3, h4, h5, h6, -, -⟩ := Cond.code_spec hn (atoms_spec (ws := ws) h _ (by rw [hw]; exact List.mem_cons_self))
    exact ⟨meth, c, h1, h2, h3, h4, h5, h6⟩
  · intro p e s m args below meth c s₁ B hml hP _ hst
    have hh0 : s₁.heap = s.heap := by rw [B.state]; rfl
    obtain ⟨t, a1, o, b1, b2, b3⟩ := body p e s m args below meth c s₁ B hml hP s₁ hh0 (Stand.of_body B)
    exact ⟨t, o, hst.trans a1, b1, b2, ⟨b3.1, b3.2⟩⟩
/-- a method's contract -/
theorem xmet {X : Nat × (Nat → Int32)} {d : Nat} (hSd : Sd X d) {mi n : Nat} {av : List Value} {h h' : xa_H} {r : Option Value} (hmi : mi < xt_n) (hpl : plainFor (xm_y mi) = true) (hg : ∀ v ∈ av, xg v = true) (hlen : av.length ≤ xm_l mi)
    (hq : ex X d mi 0 (av ++ List.replicate (xm_l mi - av.length) (.retAddr 0)) [] h n = some (r, h')) (l : Launch) (D : va_G) (dA : Nat → ClassId) (B : Nat) (sp : Nat → Nat) :
    Met l (xm_y mi) (xws mi) (xrm d (h'.1.length - h.1.length) (h'.2.1 - h.2.1)) (va_Pc (av.map (xv B sp)) (Rp X D dA B sp h)) (xQ D dA B sp r h') (h'.1.length - h.1.length) (h'.2.1 - h.2.1) (fun q => B ≤ q) := by
  refine xofW (cc := xm_c mi) (maxL := xm_l mi) (ret := xm_r mi) hpl rfl ?_
  intro p e s m args below meth c s₁ Bd hml hv
  obtain ⟨rfl, hz, hP, hK, hN, hX, hsp, hZ, hY⟩ := hv
  have hts := atoms_spec (ws := xws mi) Bd.pre
  have hlocks := Bd.notSynchronized
  have hr := Bd.returns
  rw [lg_entry_eq]
  refine hSd n mi 0 _ [] h r h' hq p l e _ s m _ below meth c D dA B sp s.heap [] 0 0 _ _ _ _ ⟨Bd.exec, Bd.bytes, hml, findClass_of_methodNamed Bd.named, fun w hw => hts w (List.mem_cons_of_mem _ hw), fun hn => ((name_of_methodNamed Bd.named Bd.method).1).trans hn, Nat.le_refl _, Nat.le_refl _, hK, hN, hX, hsp, by omega, hmi, hZ, hY⟩ hz hP va_S.rf (xh_entry hg hlen) rfl rfl (by rw [Nat.zero_add]; exact Nat.le_refl _) (by rw [Nat.zero_add]; exact Nat.le_refl _) ?_
  intro pc1 ls1 H1 locs1 hz1 hP1 hS1 hre
  rw [Nat.zero_add, Nat.zero_add]
  have hq2 : ∀ (t : State), t.heap = H1 → xQ D dA B sp r h' (av.map (xv B sp)).toArray s (.returned (r.map (xv B sp))) t := fun t ht => ⟨rfl, by rw [ht]; exact hz1, by rw [ht]; exact hP1, fun q hqB => by rw [ht]; exact hS1.2.1 q (by omega) (by show ¬ B ≤ q; omega)⟩
  cases r with
  | none => exact W.vret Bd.exec Bd.bytes (hr.trans hre.2) (fun t ht _ => hq2 t ht) hS1.2.2 hre.1
  | some v =>
    cases v with
    | int x =>
      obtain ⟨hdg, ty, h3, h4⟩ := hre
      exact W.zret Bd.exec Bd.bytes (hr.trans h3) h4 (fun t ht _ => hq2 t ht) hS1.2.2 hdg
    | null =>
      obtain ⟨hdg, h3, -⟩ := hre
      rcases h3 with ⟨z, h3⟩ | ⟨z, h3⟩
      · exact W.aret Bd.exec Bd.bytes (hr.trans h3) (Or.inl ⟨z, rfl⟩) (Or.inl rfl) (fun t ht _ => hq2 t ht) hS1.2.2 hdg
      · exact W.aret Bd.exec Bd.bytes (hr.trans h3) (Or.inr ⟨z, rfl⟩) (Or.inl rfl) (fun t ht _ => hq2 t ht) hS1.2.2 hdg
    | ref a =>
      obtain ⟨hdg, h3, -⟩ := hre
      rcases h3 with ⟨z, h3⟩ | ⟨z, h3⟩
      · exact W.aret Bd.exec Bd.bytes (hr.trans h3) (Or.inl ⟨z, rfl⟩) (Or.inr ⟨_, rfl⟩) (fun t ht _ => hq2 t ht) hS1.2.2 hdg
      · exact W.aret Bd.exec Bd.bytes (hr.trans h3) (Or.inr ⟨z, rfl⟩) (Or.inr ⟨_, rfl⟩) (fun t ht _ => hq2 t ht) hS1.2.2 hdg
    | long x => obtain ⟨-, -, h3⟩ := hre; rcases h3 with h3 | ⟨a, h3⟩ <;> cases h3
    | float x => obtain ⟨-, -, h3⟩ := hre; rcases h3 with h3 | ⟨a, h3⟩ <;> cases h3
    | double x => obtain ⟨-, -, h3⟩ := hre; rcases h3 with h3 | ⟨a, h3⟩ <;> cases h3
    | retAddr x => obtain ⟨-, -, h3⟩ := hre; rcases h3 with h3 | ⟨a, h3⟩ <;> cases h3
