/-! The abstract machine: cells by number; ints and references of the cells apart. A reference below 1000 is a cell that the run made, in the order of making; 1000 is the script. -/
abbrev xa_H : Type := List (Nat × Nat) × Nat × (Nat → Nat → Int32) × (Nat → Nat → Option Nat)
def xa_u {α : Type} (f : Nat → Nat → α) (a k : Nat) (v : α) : Nat → Nat → α := va_up f a (va_up (f a) k v)
/-- kind and length of a cell: 0 ints, 1 booleans, 2 .. 9 references, 10 + c an object of class c, 99 none -/
def xa_k (h : xa_H) (i : Nat) : Nat × Nat := if i < 1000 then h.1.getD i (99, 0) else (99, 0)
abbrev xa_in (j : Int32) (n : Nat) : Prop := ¬ (j < 0 ∨ n ≤ j.toNatClampNeg)
/-- the values that the machine handles -/
def xg : Value → Bool
  | .int _ => true
  | .ref _ => true
  | .null => true
  | _ => false
abbrev xa_O : Type := Option (Option Value × xa_H)
/-- a switch -/
def xa_sw {α : Type} : List (Int32 × Nat) → Int32 → Nat → (Nat → α) → α
  | [], _, d, k => k d
  | (i, t) :: r, x, d, k => if x = i then k t else xa_sw r x d k
def xa_push (h : xa_H) (kd n : Nat) : xa_H := (h.1 ++ [(kd, n)], h.2.1 + n, va_up h.2.2.1 h.1.length (fun _ => 0), va_up h.2.2.2 h.1.length (fun _ => none))
def xa_I (h : xa_H) (a k : Nat) (v : Int32) : xa_H := (h.1, h.2.1, xa_u h.2.2.1 a k v, h.2.2.2)
def xa_R (h : xa_H) (a k : Nat) (v : Option Nat) : xa_H := (h.1, h.2.1, h.2.2.1, xa_u h.2.2.2 a k v)
set_option maxHeartbeats 4000000 in
/-- one instruction: X the script; how it goes on, returns, calls -/
def xs {α : Type} (X : Nat × (Nat → Int32)) (m pc : Nat) (L st : List Value) (h : xa_H) (k : Nat → List Value → List Value → xa_H → α) (kr : Option Value → α) (kc : Nat → Nat → α) (bad : α) : α :=
  match cdt m pc with
  | (i, a, b, _, v) =>
    match i with
    | .iconst _ => k (pc + 1) L (.int v :: st) h
    | .bipush _ => k (pc + 2) L (.int v :: st) h
    | .sipush _ => k (pc + 3) L (.int v :: st) h
    | .aconst_null => k (pc + 1) L (.null :: st) h
    | .iload_n _ => (match L[a]? with | some (.int x) => k (pc + 1) L (.int x :: st) h | _ => bad)
    | .iload _ => (match L[a]? with | some (.int x) => k (pc + 2) L (.int x :: st) h | _ => bad)
    | .aload_n _ => (match L[a]? with | some (.ref x) => k (pc + 1) L (.ref x :: st) h | some .null => k (pc + 1) L (.null :: st) h | _ => bad)
    | .aload _ => (match L[a]? with | some (.ref x) => k (pc + 2) L (.ref x :: st) h | some .null => k (pc + 2) L (.null :: st) h | _ => bad)
    | .istore_n _ => (match st with | .int x :: r => k (pc + 1) (L.set a (.int x)) r h | _ => bad)
    | .istore _ => (match st with | .int x :: r => k (pc + 2) (L.set a (.int x)) r h | _ => bad)
    | .astore_n _ => (match st with | .ref x :: r => k (pc + 1) (L.set a (.ref x)) r h | .null :: r => k (pc + 1) (L.set a .null) r h | _ => bad)
    | .astore _ => (match st with | .ref x :: r => k (pc + 2) (L.set a (.ref x)) r h | .null :: r => k (pc + 2) (L.set a .null) r h | _ => bad)
    | .iinc _ _ => (match L[a]? with | some (.int x) => k (pc + 3) (L.set a (.int (x + v))) st h | _ => bad)
    | .iadd => (match st with | .int y :: .int x :: r => k (pc + 1) L (.int (x + y) :: r) h | _ => bad)
    | .isub => (match st with | .int y :: .int x :: r => k (pc + 1) L (.int (x - y) :: r) h | _ => bad)
    | .imul => (match st with | .int y :: .int x :: r => k (pc + 1) L (.int (x * y) :: r) h | _ => bad)
    | .idiv => (match st with | .int y :: .int x :: r => if y = 0 then bad else k (pc + 1) L (.int (x / y) :: r) h | _ => bad)
    | .irem => (match st with | .int y :: .int x :: r => if y = 0 then bad else k (pc + 1) L (.int (x - x / y * y) :: r) h | _ => bad)
    | .ineg => (match st with | .int x :: r => k (pc + 1) L (.int (-x) :: r) h | _ => bad)
    | .iand => (match st with | .int y :: .int x :: r => k (pc + 1) L (.int (x &&& y) :: r) h | _ => bad)
    | .ior => (match st with | .int y :: .int x :: r => k (pc + 1) L (.int (x ||| y) :: r) h | _ => bad)
    | .ixor => (match st with | .int y :: .int x :: r => k (pc + 1) L (.int (x ^^^ y) :: r) h | _ => bad)
    | .ishl => (match st with | .int y :: .int x :: r => k (pc + 1) L (.int (x <<< (y &&& 31)) :: r) h | _ => bad)
    | .ishr => (match st with | .int y :: .int x :: r => k (pc + 1) L (.int (x >>> (y &&& 31)) :: r) h | _ => bad)
    | .iushr => (match st with | .int y :: .int x :: r => k (pc + 1) L (.int ((x.toUInt32 >>> (y.toUInt32 &&& Int32.toUInt32 31)).toInt32) :: r) h | _ => bad)
    | .dup => (match st with | v :: r => if v.category = 1 then k (pc + 1) L (v :: v :: r) h else bad | _ => bad)
    | .dup_x1 => (match st with | v :: w :: r => if v.category = 1 ∧ w.category = 1 then k (pc + 1) L (v :: w :: v :: r) h else bad | _ => bad)
    | .dup2 => (match st with | v :: w :: r => if v.category = 1 ∧ w.category = 1 then k (pc + 1) L (v :: w :: v :: w :: r) h else bad | _ => bad)
    | .pop => (match st with | v :: r => if v.category = 1 then k (pc + 1) L r h else bad | _ => bad)
    | .goto _ => k a L st h
    | .ifCond .eq _ => (match st with | .int x :: r => if x = 0 then k a L r h else k (pc + 3) L r h | _ => bad)
    | .ifCond .ne _ => (match st with | .int x :: r => if x = 0 then k (pc + 3) L r h else k a L r h | _ => bad)
    | .ifCond .lt _ => (match st with | .int x :: r => if x < 0 then k a L r h else k (pc + 3) L r h | _ => bad)
    | .ifCond .ge _ => (match st with | .int x :: r => if 0 ≤ x then k a L r h else k (pc + 3) L r h | _ => bad)
    | .ifCond .gt _ => (match st with | .int x :: r => if 0 < x then k a L r h else k (pc + 3) L r h | _ => bad)
    | .ifCond .le _ => (match st with | .int x :: r => if x ≤ 0 then k a L r h else k (pc + 3) L r h | _ => bad)
    | .if_icmp .eq _ => (match st with | .int y :: .int x :: r => if x = y then k a L r h else k (pc + 3) L r h | _ => bad)
    | .if_icmp .ne _ => (match st with | .int y :: .int x :: r => if x = y then k (pc + 3) L r h else k a L r h | _ => bad)
    | .if_icmp .lt _ => (match st with | .int y :: .int x :: r => if x < y then k a L r h else k (pc + 3) L r h | _ => bad)
    | .if_icmp .ge _ => (match st with | .int y :: .int x :: r => if y ≤ x then k a L r h else k (pc + 3) L r h | _ => bad)
    | .if_icmp .gt _ => (match st with | .int y :: .int x :: r => if y < x then k a L r h else k (pc + 3) L r h | _ => bad)
    | .if_icmp .le _ => (match st with | .int y :: .int x :: r => if x ≤ y then k a L r h else k (pc + 3) L r h | _ => bad)
    | .ifnull _ => (match st with | .null :: r => k a L r h | .ref _ :: r => k (pc + 3) L r h | _ => bad)
    | .ifnonnull _ => (match st with | .null :: r => k (pc + 3) L r h | .ref _ :: r => k a L r h | _ => bad)
    | .tableswitch _ _ _ _ => (match st with | .int x :: r => xa_sw (xs_w m pc) x a (fun t => k t L r h) | _ => bad)
    | .lookupswitch _ _ => (match st with | .int x :: r => xa_sw (xs_w m pc) x a (fun t => k t L r h) | _ => bad)
    | .ldc _ => k (pc + 2) L (.ref (2000 + a) :: st) h
    | .getstatic _ => if b = 0 then k (pc + 3) L (.int v :: st) h else if X.2 1000000000 = 0 then k (pc + 3) L (.null :: st) h else k (pc + 3) L (.ref 4000 :: st) h
    | .i2c => (match st with | .int x :: r => k (pc + 1) L (.int ((x.toUInt32 % 65536).toInt32) :: r) h | _ => bad)
    | .getfield _ => (match st with | .ref i :: r => if a = 200 then (if 2000 ≤ i ∧ i < 2000 + xS_n then k (pc + 3) L ((if b = 0 then .ref (i + 1000) else .int 0) :: r) h else bad) else if (xa_k h i).1 = 10 + a then k (pc + 3) L ((if xf_k a b = 2 then va_rf (h.2.2.2 i b) else .int (h.2.2.1 i b)) :: r) h else bad | _ => bad)
    | .putfield _ => (match st with
        | .int x :: .ref i :: r => if (xa_k h i).1 = 10 + a ∧ (xf_k a b = 0 ∨ (xf_k a b = 1 ∧ (x = 0 ∨ x = 1))) then k (pc + 3) L r (xa_I h i b x) else bad
        | .ref j :: .ref i :: r => if (xa_k h i).1 = 10 + a ∧ xf_k a b = 2 then k (pc + 3) L r (xa_R h i b (some j)) else bad
        | _ => bad)
    | .iaload => (match st with
        | .int j :: .ref i :: r => if i = 1000 then (if xa_in j X.1 then k (pc + 1) L (.int (X.2 j.toNatClampNeg) :: r) h else bad) else if (xa_k h i).1 = 0 ∧ xa_in j (xa_k h i).2 then k (pc + 1) L (.int (h.2.2.1 i j.toNatClampNeg) :: r) h else bad
        | _ => bad)
    | .baload => (match st with
        | .int j :: .ref i :: r => if 3000 ≤ i ∧ i < 3000 + xS_n then (if xa_in j (xS_L.getD (i - 3000) 0) then k (pc + 1) L (.int ((xS_B.getD (i - 3000) []).getD j.toNatClampNeg 0) :: r) h else bad) else if (xa_k h i).1 = 1 ∧ xa_in j (xa_k h i).2 then k (pc + 1) L (.int (h.2.2.1 i j.toNatClampNeg) :: r) h else bad
        | _ => bad)
    | .aaload => (match st with
        | .int j :: .ref i :: r => if (2 ≤ (xa_k h i).1 ∧ (xa_k h i).1 < xo_n) ∧ xa_in j (xa_k h i).2 then k (pc + 1) L (va_rf (h.2.2.2 i j.toNatClampNeg) :: r) h else bad
        | _ => bad)
    | .iastore => (match st with
        | .int x :: .int j :: .ref i :: r => if (xa_k h i).1 = 0 ∧ xa_in j (xa_k h i).2 then k (pc + 1) L r (xa_I h i j.toNatClampNeg x) else bad
        | _ => bad)
    | .bastore => (match st with
        | .int x :: .int j :: .ref i :: r => if (xa_k h i).1 = 1 ∧ xa_in j (xa_k h i).2 ∧ (x = 0 ∨ x = 1) then k (pc + 1) L r (xa_I h i j.toNatClampNeg x) else bad
        | _ => bad)
    | .aastore => (match st with
        | .ref v :: .int j :: .ref i :: r => if (2 ≤ (xa_k h i).1 ∧ (xa_k h i).1 < xo_n) ∧ xa_in j (xa_k h i).2 ∧ (xa_k h v).1 = 10 + xo_c (xa_k h i).1 then k (pc + 1) L r (xa_R h i j.toNatClampNeg (some v)) else bad
        | _ => bad)
    | .arraylength => (match st with
        | .ref i :: r => if i = 1000 then k (pc + 1) L (.int (Int32.ofNat X.1) :: r) h else if 3000 ≤ i ∧ i < 3000 + xS_n then k (pc + 1) L (.int (Int32.ofNat (xS_L.getD (i - 3000) 0)) :: r) h else if (xa_k h i).1 < 2 then k (pc + 1) L (.int (Int32.ofNat (xa_k h i).2) :: r) h else bad
        | _ => bad)
    | .new _ => if h.1.length < 1000 then k (pc + 3) L (.ref h.1.length :: st) (xa_push h (10 + a) b) else bad
    | .newarray _ => (match st with
        | .int x :: r => if h.1.length < 1000 ∧ ¬ x < 0 ∧ x.toNatClampNeg ≤ 1000 then k (pc + 2) L (.ref h.1.length :: r) (xa_push h a x.toNatClampNeg) else bad
        | _ => bad)
    | .anewarray _ => (match st with
        | .int x :: r => if h.1.length < 1000 ∧ ¬ x < 0 ∧ x.toNatClampNeg ≤ 1000 then k (pc + 3) L (.ref h.1.length :: r) (xa_push h a x.toNatClampNeg) else bad
        | _ => bad)
    | .invokestatic _ => kc a b
    | .invokespecial _ => (match st[b - 1]? with | some (.ref _) => kc a b | _ => bad)
    | .invokevirtual _ => (match st[b - 1]? with | some (.ref i) => if (xm_o a = 200 ∧ 2000 ≤ i ∧ i < 2000 + xS_n) ∨ (xm_o a ≠ 200 ∧ (xa_k h i).1 = 10 + xm_o a) then kc a b else bad | _ => bad)
    | .ireturn => (match st with | [.int x] => if xm_z m = 0 ∨ (xm_z m = 1 ∧ (x = 0 ∨ x = 1)) ∨ (xm_z m = 2 ∧ x.toInt8.toInt32 = x) ∨ (xm_z m = 3 ∧ x.toUInt32.toUInt16.toUInt32.toInt32 = x) then kr (some (.int x)) else bad | _ => bad)
    | .areturn => (match st with | [.ref x] => kr (some (.ref x)) | [.null] => kr (some .null) | _ => bad)
    | .return_ => (match st with | [] => kr none | _ => bad)
    | _ => bad
/-- depth, method, pc, locals, stack, cells, fuel (the fuel comes last: where two runs are compared, they differ there first) -/
def ex (X : Nat × (Nat → Int32)) : Nat → Nat → Nat → List Value → List Value → xa_H → Nat → xa_O
  | _, _, _, _, _, _, 0 => none
  | d, m, pc, L, st, h, n + 1 => xs X m pc L st h (fun pc' L' st' h' => ex X d m pc' L' st' h' n) (fun r => some (r, h))
    (fun a b => match d with
      | 0 => none
      | e + 1 => if ((st.drop b).map Value.category).sum ≤ 8 ∧ b ≤ st.length ∧ (st.take b).all xg = true then
          (if a = 0 then ex X (e + 1) m (pc + 3) L (st.drop b) h n else match ex X e a 0 ((st.take b).reverse ++ List.replicate (xm_l a - b) (.retAddr 0)) [] h n with
            | some (r, h') => ex X (e + 1) m (pc + 3) L (r.toList ++ st.drop b) h' n
            | none => none)
        else none) none
