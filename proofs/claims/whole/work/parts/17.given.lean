/-! The start: what the Statement gives is what the abstract machine needs -/
theorem xn_0 : lw_tbl[109]? = some (Cond.methodLinkNest "SceneCycle$Screen" 23 ⟨"SceneCycle$PictureReader", "<init>", "()V"⟩ "SceneCycle") := by decide +kernel
theorem xn_1 : lw_tbl[182]? = some (Cond.methodLinkNest "SceneCycle$World" 38 ⟨"SceneCycle$Actor", "<init>", "()V"⟩ "SceneCycle") := by decide +kernel
theorem xn_2 : lw_tbl[248]? = some (Cond.methodLinkNest "SceneCycle$World" 39 ⟨"SceneCycle$Resource", "<init>", "()V"⟩ "SceneCycle") := by decide +kernel
theorem xn_3 : lw_tbl[296]? = some (Cond.methodLinkNest "SceneCycle" 31 ⟨"SceneCycle$Runner", "<init>", "()V"⟩ "SceneCycle") := by decide +kernel
theorem xn_4 : lw_tbl[325]? = some (Cond.methodLinkNest "SceneCycle" 38 ⟨"SceneCycle$PictureReader", "<init>", "()V"⟩ "SceneCycle") := by decide +kernel
theorem xn_5 : lw_tbl[328]? = some (Cond.methodLinkNest "SceneCycle" 45 ⟨"SceneCycle$LogicReader", "<init>", "()V"⟩ "SceneCycle") := by decide +kernel
theorem xn_6 : lw_tbl[416]? = some (Cond.methodLinkNest "SceneCycle$PictureReader" 76 ⟨"SceneCycle", "onScreen", "(II)Z"⟩ "SceneCycle") := by decide +kernel
theorem xn_7 : lw_tbl[646]? = some (Cond.methodLinkNest "SceneCycle$Screen" 41 ⟨"SceneCycle", "onScreen", "(II)Z"⟩ "SceneCycle") := by decide +kernel
theorem xn_all : ∀ q ∈ xn_m, Cond.methodLinkNest q.1 q.2.1 q.2.2.1 q.2.2.2 ∈ lw_tbl := List.forall_mem_cons.mpr ⟨List.mem_of_getElem? xn_0, List.forall_mem_cons.mpr ⟨List.mem_of_getElem? xn_1, List.forall_mem_cons.mpr ⟨List.mem_of_getElem? xn_2, List.forall_mem_cons.mpr ⟨List.mem_of_getElem? xn_3, List.forall_mem_cons.mpr ⟨List.mem_of_getElem? xn_4, List.forall_mem_cons.mpr ⟨List.mem_of_getElem? xn_5, List.forall_mem_cons.mpr ⟨List.mem_of_getElem? xn_6, List.forall_mem_cons.mpr ⟨List.mem_of_getElem? xn_7, fun _ h => absurd h List.not_mem_nil⟩⟩⟩⟩⟩⟩⟩⟩
theorem xo_0_ : lw_tbl[178]? = some (Cond.arrayOver (.object "SceneCycle$Actor")) := by decide +kernel
theorem xo_1_ : lw_tbl[180]? = some (Cond.arrayOver (.object "SceneCycle$Resource")) := by decide +kernel
theorem xo_all : ∀ C ∈ xo_s, Cond.arrayOver (.object C) ∈ lw_tbl := List.forall_mem_cons.mpr ⟨List.mem_of_getElem? xo_0_, List.forall_mem_cons.mpr ⟨List.mem_of_getElem? xo_1_, fun _ h => absurd h List.not_mem_nil⟩⟩
theorem xa_ci : lw_tbl[151]? = some (Cond.arrayClass .int) := by decide +kernel
theorem xa_cz : lw_tbl[246]? = some (Cond.arrayClass .boolean) := by decide +kernel
theorem xz_1 : lw_tbl[466]? = some (Cond.laysStatic "java/lang/String" "COMPACT_STRINGS" "Z") := by decide +kernel
theorem xz_2 : lw_tbl[482]? = some (Cond.laysStatic "jdk/internal/util/Preconditions" "SIOOBE_FORMATTER" "Ljava/util/function/BiFunction;") := by decide +kernel
theorem xz_3 : lw_tbl[76]? = some (Cond.initialized "java/lang/String") := by decide +kernel
theorem xz_4 : lw_tbl[78]? = some (Cond.initialized "jdk/internal/util/Preconditions") := by decide +kernel
def xS_p : List Nat := [438, 439, 440, 441, 442, 443, 444, 445, 446, 447, 448, 449, 450, 451, 452, 512, 513, 514, 515]
def xsi (k : Nat) : String × Nat := xS_i.getD k ("", 0)
theorem xs_all : (List.range xS_n).all (fun k => decide (lw_tbl[xS_p.getD k 0]? = some (Cond.stringRef (xsi k).1 (xsi k).2 (xS_t.getD k "")))) = true := by decide +kernel
def xtm (k : Nat) : Term := .string (xsi k).1 (xsi k).2
def xFl : List Cond := flatC (Jvm.Cond.and given_1 narrow_1)
theorem xf_1 : (List.range xS_n).all (fun i => decide (Cond.exactly (xtm i) "java/lang/String" ∈ xFl)) = true := by decide +kernel
theorem xf_2 : (List.range xS_n).all (fun i => decide (Cond.eq (.field (xtm i) "java/lang/String" "coder" "B") (.int 0) ∈ xFl)) = true := by decide +kernel
theorem xf_3 : (List.range xS_n).all (fun i => decide (Cond.arrayOf (.field (xtm i) "java/lang/String" "value" "[B") .byte ∈ xFl)) = true := by decide +kernel
theorem xf_4 : (List.range xS_n).all (fun i => decide (Cond.eq (.length (.field (xtm i) "java/lang/String" "value" "[B")) (.int (Int32.ofNat (xS_L.getD i 0))) ∈ xFl)) = true := by decide +kernel
theorem xf_5 : (List.range xS_n).all (fun i => (List.range (xS_L.getD i 0)).all (fun j => decide (Cond.eq (.elem (.field (xtm i) "java/lang/String" "value" "[B") (.int (Int32.ofNat j))) (.int ((xS_B.getD i []).getD j 0)) ∈ xFl))) = true := by decide +kernel
def xNp : List Nat := [0, 21, 27, 34, 42, 52, 64, 75, 89, 103, 120, 136, 153, 171, 188, 207, 231, 252, 275]
theorem xf_6 : (List.range xS_n).all (fun j => (List.range j).all (fun i => decide (xFl[xNp.getD j 0 + i]? = some (Cond.not (Cond.eq (xtm i) (xtm j)))))) = true := by decide +kernel
theorem xf_7 : (List.range xS_n).all (fun i => decide (xS_L.getD i 0 < 2 ^ 31)) = true := by decide +kernel
theorem xf_8 : Cond.eq (.static "java/lang/String" "COMPACT_STRINGS" "Z") (.int 1) ∈ xFl := by decide +kernel
theorem xf_9 : Cond.isRef (.static "jdk/internal/util/Preconditions" "SIOOBE_FORMATTER" "Ljava/util/function/BiFunction;") ∈ xFl := by decide +kernel
