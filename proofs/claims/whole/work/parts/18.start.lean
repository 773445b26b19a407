/-! THE CLAIM OUT OF ONE WALK OF THE LAW'S BODY. Your part is whole_start (and what it stands on); all else here is the same for every law, but numbers. -/
def R_law : String := "SceneCycleLaw"
def lw_P (b : Addr) (xs : List Int32) (args : Array Value) (s : State) : Prop := args = #[.ref b] ∧ s.IntsAt b xs ∧ xs.length ≤ 2049 ∧ (Jvm.Cond.and given_1 narrow_1).before args s = true
def lw_Q (_ : Array Value) (s : State) (o : Outcome) (t : State) : Prop := o = .returned (some (.int 1)) ∧ Framed s o t [] 600000 7302250
def lw_Z (below : List Frame) (a : Array Value) (s : State) : State → Prop := fun t => ∃ o, t.status = .running ∧ Ended t below o ∧ lw_Q a s o t
/-- the law's own end, with 1 on the stack, nothing written that was there before, its room as the claim has it -/
theorem lw_ret {p : Program} {l : Launch} {e : Env} {s : State} {m : MethodId} {below : List Frame} {meth : Method} {c : Code} {b : Nat} (hx : p.tables.exec = Jvm.exec) (hb : c.code = code) (hr : meth.sig.returnType = ret) (hlocks : meth.locks = false) {pc : Nat} {H : Heap} {ls : Array Slot} (hdg : decode code pc = .ok (.ireturn, 1)) : W p l e room_1 s m #[Value.ref b] below meth c H [] 600000 7302250 (lw_Z below #[Value.ref b] s) (F0 m pc ls [.int 1]) := by
  intro T hT X
  obtain ⟨fs, hret, hrun, hended, hW, hframe⟩ := X.leave (v := some (.int 1)) (hlocks := hlocks) (fun h => by rw [hr] at h; cases h)
  have hmeth' : T.vm.method? m = some meth := X.method'
  refine ⟨T.setFrames fs, ?_, .returned (some (.int 1)), hrun, hended, rfl, ⟨_, rfl⟩, hW, hframe⟩
  jvm_step X.here [X.here.top, hx, hb, hdg, hmeth', hr, ret, narrow_b1]
  (try refine ⟨rfl, ?_⟩); (try refine ⟨rfl, ?_⟩)
  first | (intro acts; rw [hret _ acts rfl rfl rfl]) | rw [hret _ _ rfl rfl rfl]
  exact Steps.refl _
/-- what holds at the law's entry: the machine, the code, the tables' words (any of lw_tbl by 'hts w (by decide +kernel)'), the script of L ints xs at the cell b, what the Statement gives of the start (any of its parts by flat_of_before) -/
def lw_At (p : Program) (s : State) (m : MethodId) (meth : Method) (c : Code) (b L : Nat) (xs : Nat → Int32) : Prop :=
  p.tables.exec = Jvm.exec ∧ c.code = code ∧ meth.sig.returnType = ret ∧ c.maxLocals = 4 ∧ s.vm.findClass R_law = some m.cls ∧ (∀ w ∈ lw_tbl, w.before #[Value.ref b] s = true) ∧ va_X b L xs s s.heap ∧ b < s.heap.size ∧ meth.locks = false ∧ (Jvm.Cond.and given_1 narrow_1).before #[Value.ref b] s = true
/-- the pure part: the class's calls and the reference's answer alike -/
def PureLaw : Prop := ∀ X : Nat × (Nat → Int32), X.1 ≤ 2049 → ∃ (S0 S' : St) (n : Nat), G_113 (cI_79 (xcl X), none, fun _ => none) = some ((), S0) ∧ GLaw X n S0 1 = some (1, S')
theorem start_D {s : State} {args : Array Value} (hts : ∀ w ∈ xw_s, w.before args s = true) : ∃ D : va_G, ∀ (c : Nat) (q : vw_C), xc_l[c]? = some q → u_Kn s q.1 q.2.1 q.2.2 (D.1 c) (D.2 c) := by
  have h1 : ∀ c : Nat, ∃ z : ClassId × (Nat → Nat), ∀ q, xc_l[c]? = some q → u_Kn s q.1 q.2.1 q.2.2 z.1 z.2 := by
    intro c
    by_cases hc : c < xc_l.length
    · obtain ⟨cC, iS, hK⟩ := u_known (ws := xw_s) hts (xw_in_lay hc) (hts _ (xc_ins hc))
      exact ⟨(cC, iS), fun q hq => by rw [xc_at hc] at hq; cases hq; exact hK⟩
    · exact ⟨(0, fun _ => 0), fun q hq => by rw [List.getElem?_eq_none (by omega)] at hq; cases hq⟩
  obtain ⟨f, hf⟩ := Classical.axiomOfChoice h1
  exact ⟨(fun c => (f c).1, fun c => (f c).2), hf⟩
theorem start_A {s : State} {args : Array Value} (hts : ∀ w ∈ lw_tbl, w.before args s = true) : ∃ dA : Nat → ClassId, ∀ (k : Nat) (q : ClassId × FieldType), (xt_y dA)[k]? = some q → ArrOfT s q.1 q.2 ∧ va_RA s q.1 q.2 := by
  obtain ⟨c0, k0, p0, a1, a2, a3⟩ := Cond.arrayClass_spec (hts _ (List.mem_of_getElem? xa_ci))
  obtain ⟨c1, k1, p1, b1, b2, b3⟩ := Cond.arrayClass_spec (hts _ (List.mem_of_getElem? xa_cz))
  obtain ⟨p2, c2, k2, d1, d2, d3, d4, d5⟩ := Cond.arrayOver_spec (hts _ (List.mem_of_getElem? xo_0_))
  obtain ⟨p3, c3, k3, e1, e2, e3, e4, e5⟩ := Cond.arrayOver_spec (hts _ (List.mem_of_getElem? xo_1_))
  refine ⟨fun k => if k = 0 then c0 else if k = 1 then c1 else if k = 2 then c2 else c3, fun k q hq => ?_⟩
  have hk : k < xo_n := by
    have := (List.getElem?_eq_some_iff.mp hq).1
    unfold xt_y at this
    rw [List.length_map, List.length_range] at this
    exact this
  rw [xt_at hk] at hq
  have hk : k < 4 := hk
  cases hq
  rcases (by omega : k = 0 ∨ k = 1 ∨ k = 2 ∨ k = 3) with rfl | rfl | rfl | rfl
  · exact ⟨fun N z => ⟨(fun k h => by cases h), k0, a2, p0, a3⟩, a1⟩
  · exact ⟨fun N z => ⟨(fun k h => by cases h), k1, b2, p1, b3⟩, b1⟩
  · exact ⟨fun N z => ⟨(fun k h => by cases h), k2, d3, p2, d4⟩, k2, p2, d3, d4, d1, d5⟩
  · exact ⟨fun N z => ⟨(fun k h => by cases h), k3, e3, p3, e4⟩, k3, p3, e3, e4, e1, e5⟩
def start_sp (b t : Nat) (adK adV : Nat → Nat) (i : Nat) : Nat := if i = 1000 then b else if i = 4000 then t else if i < 3000 then adK (i - 2000) else adV (i - 3000)
theorem start_K {b t : Nat} {adK adV : Nat → Nat} {k : Nat} (h : k < xS_n) : start_sp b t adK adV (2000 + k) = adK k := by
  have h : k < 19 := h
  unfold start_sp
  rw [if_neg (by omega), if_neg (by omega), if_pos (by omega), Nat.add_sub_cancel_left]
theorem start_V {b t : Nat} {adK adV : Nat → Nat} {k : Nat} (h : k < xS_n) : start_sp b t adK adV (3000 + k) = adV k := by
  have h : k < 19 := h
  unfold start_sp
  rw [if_neg (by omega), if_neg (by omega), if_neg (by omega), Nat.add_sub_cancel_left]
theorem xr_all {n : Nat} {f : Nat → Bool} (h : (List.range n).all f = true) {i : Nat} (hi : i < n) : f i = true := List.all_eq_true.mp h i (List.mem_range.mpr hi)
theorem start_Z {s : State} {args : Array Value} (hts : ∀ w ∈ lw_tbl, w.before args s = true) (hfl : ∀ w ∈ xFl, w.before args s = true) (b t : Nat) : ∃ adK adV : Nat → Nat, xZ s.heap.size (start_sp b t adK adV) s s.heap := by
  obtain ⟨adK, adV, hS, hev⟩ := vk_Sof (N := xS_n) (tm := xtm) (len := xS_L) (byt := xS_B) (A := fun q => s.heap.size ≤ q) (s := s) (args := args)
    (fun i hi => of_decide_eq_true (xr_all xf_7 hi))
    (fun i hi => hfl _ (of_decide_eq_true (xr_all xf_1 hi)))
    (fun i hi => hfl _ (of_decide_eq_true (xr_all xf_2 hi)))
    (fun i hi => hfl _ (of_decide_eq_true (xr_all xf_3 hi)))
    (fun i hi => hfl _ (of_decide_eq_true (xr_all xf_4 hi)))
    (fun i hi j hj => hfl _ (of_decide_eq_true (xr_all (xr_all xf_5 hi) hj)))
    (fun i j hi hj hne => by
      rcases Nat.lt_or_ge i j with h | h
      · exact Or.inl (hfl _ (List.mem_of_getElem? (of_decide_eq_true (xr_all (xr_all xf_6 hj) h))))
      · exact Or.inr (hfl _ (List.mem_of_getElem? (of_decide_eq_true (xr_all (xr_all xf_6 hi) (by omega))))))
    (fun a h1 h2 => by have h2 : s.heap.size ≤ a := h2; omega)
  refine ⟨adK, adV, ⟨fun i hi => ?_, fun i j hi hj e => ?_⟩, ?_, fun k hk => ?_⟩
  · have := hS.1 i hi
    show va_O _ (start_sp b t adK adV (2000 + i)) _ _ _ ∧ va_OF _ _ _ _ (start_sp b t adK adV (2000 + i)) _ _ _ ∧ va_OF _ _ _ (Value.ref (start_sp b t adK adV (3000 + i))) (start_sp b t adK adV (2000 + i)) _ _ _ ∧ va_T _ (start_sp b t adK adV (3000 + i)) _ _ _ _ _
    rw [start_K hi, start_V hi]
    exact this
  · have e : start_sp b t adK adV (2000 + i) = start_sp b t adK adV (2000 + j) := e
    rw [start_K hi, start_K hj] at e
    exact hS.2 i j hi hj e
  · exact va_Zof (hts _ (List.mem_of_getElem? xz_1)) (hts _ (List.mem_of_getElem? xz_3)) (va_eqi (hfl _ xf_8)) (fun a h1 h2 => by have h2 : s.heap.size ≤ a := h2; omega)
  · rw [start_K hk]
    exact vk_R.of (hts _ (List.mem_of_getElem? (of_decide_eq_true (xr_all xs_all hk)))) (hev k hk)
theorem start_of (hpl : PureLaw) {p : Program} {e : Env} {s : State} {m : MethodId} {below : List Frame} {meth : Method} {c : Code} (l : Launch) {b L : Nat} {xs : Nat → Int32} (hL : L ≤ 2049) (C0 : lw_At p s m meth c b L xs) : W p l e room_1 s m #[Value.ref b] below meth c s.heap [] 0 0 (lw_Z below #[Value.ref b] s) (entryFrame m ([Value.ref b] : List Value).toArray 4) := by
  obtain ⟨hx, hb, hr, hml, hown, hts, hX, hbl, hlocks, hgv⟩ := C0
  have hts' : ∀ w ∈ xw_s, w.before #[Value.ref b] s = true := fun w hw => hts w (List.mem_filter.mp hw).1
  have hfl : ∀ w ∈ xFl, w.before #[Value.ref b] s = true := fun w hw => flat_of_before _ hgv w hw
  obtain ⟨D, hD⟩ := start_D hts'
  obtain ⟨dA, hA⟩ := start_A hts
  have hN : xN s := ⟨fun q hq => va_Nw.of rfl (hts _ (xn_all q hq)), fun C hC => va_AO.of (hts _ (xo_all C hC))⟩
  have hq : va_Zq "jdk/internal/util/Preconditions" "SIOOBE_FORMATTER" "Ljava/util/function/BiFunction;" (fun q => s.heap.size ≤ q) s s.heap := va_Zqof (hts _ (List.mem_of_getElem? xz_2)) (hts _ (List.mem_of_getElem? xz_4)) (hfl _ xf_9) (fun a h1 h2 => by have h2 : s.heap.size ≤ a := h2; omega)
  obtain ⟨fl, t, hY⟩ : ∃ (fl : Int32) (t : Nat), (fl = 0 → va_Z "jdk/internal/util/Preconditions" "SIOOBE_FORMATTER" "Ljava/util/function/BiFunction;" .null (fun q => s.heap.size ≤ q) s s.heap) ∧ (¬ fl = 0 → va_Z "jdk/internal/util/Preconditions" "SIOOBE_FORMATTER" "Ljava/util/function/BiFunction;" (.ref t) (fun q => s.heap.size ≤ q) s s.heap) := by
    rcases hq with h | ⟨t, h⟩
    · exact ⟨0, 0, fun _ => h, fun z => absurd rfl z⟩
    · exact ⟨1, t, fun z => absurd z (by decide), fun _ => h⟩
  obtain ⟨adK, adV, hZ⟩ := start_Z hts hfl b t
  have hX2 : va_X b L (fun j => if j = 1000000000 then fl else xs j) s s.heap := by
    obtain ⟨scr, h1, h2, h3, h4, h5⟩ := hX
    exact ⟨scr, h1, h2, h3, h4, fun j hj => by show _ = some (Value.int (if j = 1000000000 then fl else xs j)); rw [if_neg (by omega)]; exact h5 j hj⟩
  obtain ⟨S0, S', n, hG, hLw⟩ := hpl (L, fun j => if j = 1000000000 then fl else xs j) hL
  obtain ⟨k, hk⟩ := E_law (X := (L, fun j => if j = 1000000000 then fl else xs j)) (by show L < _; omega) hG hLw
  rw [lg_entry_eq]
  refine snd (L, fun j => if j = 1000000000 then fl else xs j) 208 k 169 0 _ [] _ _ _ hk p l e room_1 s m _ below meth c D dA s.heap.size (start_sp b t adK adV) s.heap [] 0 0 57 2229 _ _ ⟨hx, hb, hml, hown, hts', fun hn => absurd hn (by decide), by decide, by decide, ⟨hD, hA⟩, hN, hX2, hbl, Nat.le_refl _, by decide, hZ, hY⟩ rfl (fun k q hq => ?_) va_S.rf (xh_entry (av := [.ref 1000]) (fun v hv => ?_) (by decide)) rfl rfl (by decide) (by decide) ?_
  · cases hq
  · rw [List.mem_singleton.mp hv]
    rfl
  · intro pc1 ls1 H1 locs1 hz1 hP1 hS1 hre
    exact va_forget (fun q hq => hS1.2.2 q hq) (W.widen (by decide) (by decide) (lw_ret hx hb hr hlocks hre.1))
