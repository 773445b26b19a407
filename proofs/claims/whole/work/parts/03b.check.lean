/-! What the tables must say, checked by program -/
def xl : Instr → Nat
  | .ldc _ | .bipush _ | .iload _ | .aload _ | .istore _ | .astore _ | .newarray _ => 2
  | .sipush _ | .iinc _ _ | .goto _ | .ifCond _ _ | .if_icmp _ _ | .ifnull _ | .ifnonnull _ | .getstatic _ | .getfield _ | .putfield _ | .new _ | .anewarray _ | .invokestatic _ | .invokevirtual _ | .invokespecial _ => 3
  | _ => 1
def xc_q (a : Nat) : vw_C := xc_l.getD a ("", fun _ => ("", "", "", false), 0)
/-- a word of the tables -/
def xkw (c : Nat) (w : Cond) : Bool := decide (lw_tbl[c]? = some w) && goodWord w
/-- a field's link -/
def xkf (mi idx a b c : Nat) : Bool := decide (a < xc_l.length) && decide (b < (xc_q a).2.2) && xkw c (Cond.fieldLink (xm_y mi).cls idx ((xc_q a).2.1 b).1 ((xc_q a).2.1 b).2.1 ((xc_q a).2.1 b).2.2.1)
/-- a call's link -/
def xkl (mi idx a c : Nat) : Bool := decide (a + 1 < xt_n) && (if c < 10000 then xkw c (Cond.methodLink (xm_y mi).cls idx (xm_y a)) else (match xn_m[c - 10000]? with
  | some q => decide (q.1 = (xm_y mi).cls) && decide (q.2.1 = idx) && decide (q.2.2.1 = xm_y a)
  | none => false))
def xk_B (mi pc : Nat) : Bool := match cdt mi pc with
  | (i, a, b, c, v) => match i with
    | .athrow => true
    | .iconst n => decide (decode (xm_c mi) pc = .ok (i, 1)) && decide (Int32.ofInt n = v)
    | .bipush n => decide (decode (xm_c mi) pc = .ok (i, 2)) && decide ((Int8.ofInt n).toInt32 = v)
    | .sipush n => decide (decode (xm_c mi) pc = .ok (i, 3)) && decide ((Int16.ofInt n).toInt32 = v)
    | .iload_n k => decide (decode (xm_c mi) pc = .ok (i, 1)) && decide (k.val = a)
    | .iload k => decide (decode (xm_c mi) pc = .ok (i, 2)) && decide (k = a)
    | .aload_n k => decide (decode (xm_c mi) pc = .ok (i, 1)) && decide (k.val = a)
    | .aload k => decide (decode (xm_c mi) pc = .ok (i, 2)) && decide (k = a)
    | .istore_n k => decide (decode (xm_c mi) pc = .ok (i, 1)) && decide (k.val = a) && decide (a < xm_l mi)
    | .istore k => decide (decode (xm_c mi) pc = .ok (i, 2)) && decide (k = a) && decide (a < xm_l mi)
    | .astore_n k => decide (decode (xm_c mi) pc = .ok (i, 1)) && decide (k.val = a) && decide (a < xm_l mi)
    | .astore k => decide (decode (xm_c mi) pc = .ok (i, 2)) && decide (k = a) && decide (a < xm_l mi)
    | .iinc k n => decide (decode (xm_c mi) pc = .ok (i, 3)) && decide (k = a) && decide (a < xm_l mi) && decide (Int32.ofInt n = v)
    | .goto off => decide (decode (xm_c mi) pc = .ok (i, 3)) && decide ((pc : Int) + off = (a : Int))
    | .ifCond _ off => decide (decode (xm_c mi) pc = .ok (i, 3)) && decide ((pc : Int) + off = (a : Int))
    | .if_icmp _ off => decide (decode (xm_c mi) pc = .ok (i, 3)) && decide ((pc : Int) + off = (a : Int))
    | .ifnull off => decide (decode (xm_c mi) pc = .ok (i, 3)) && decide ((pc : Int) + off = (a : Int))
    | .ifnonnull off => decide (decode (xm_c mi) pc = .ok (i, 3)) && decide ((pc : Int) + off = (a : Int))
    | .tableswitch df lo hi offs => decide (decode (xm_c mi) pc = .ok (i, b)) && decide ((pc : Int) + df = (a : Int)) &&
        (xs_w mi pc).all (fun q => decide (¬ q.1.toInt < lo) && decide (¬ hi < q.1.toInt) && (match offs[(q.1.toInt - lo).toNat]? with | some o => decide ((pc : Int) + o = (q.2 : Int)) | none => false)) &&
        (List.range (hi - lo + 1).toNat).all (fun j => (xs_w mi pc).any (fun q => decide (q.1.toInt = lo + (j : Int))) || decide (offs[j]? = some df))
    | .lookupswitch df ps => decide (decode (xm_c mi) pc = .ok (i, b)) && decide ((pc : Int) + df = (a : Int)) && (ps.toList.zip (ps.toList.drop 1)).all (fun (x, y) => decide (x.1 < y.1)) &&
        decide (ps.toList.map (fun q => (q.1, (pc : Int) + q.2)) = (xs_w mi pc).map (fun q => (q.1.toInt, (q.2 : Int))))
    | .ldc idx => decide (decode (xm_c mi) pc = .ok (i, 2)) && decide (a < xS_n) && decide (xS_i[a]? = some ((xm_y mi).cls, idx))
    | .getstatic idx => decide (decode (xm_c mi) pc = .ok (i, 3)) && (if b = 0 then xkw c (Cond.fieldLink (xm_y mi).cls idx "java/lang/String" "COMPACT_STRINGS" "Z") && decide (v = 1) else xkw c (Cond.fieldLink (xm_y mi).cls idx "jdk/internal/util/Preconditions" "SIOOBE_FORMATTER" "Ljava/util/function/BiFunction;"))
    | .getfield idx => decide (decode (xm_c mi) pc = .ok (i, 3)) && (if a = 200 then (if b = 0 then xkw c (Cond.fieldLink (xm_y mi).cls idx "java/lang/String" "value" "[B") else xkw c (Cond.fieldLink (xm_y mi).cls idx "java/lang/String" "coder" "B")) else xkf mi idx a b c)
    | .putfield idx => decide (decode (xm_c mi) pc = .ok (i, 3)) && xkf mi idx a b c && (decide (((xc_q a).2.1 b).2.2.2 = false) || (decide ((xm_y mi).name = "<init>") && decide (((xc_q a).2.1 b).1 = (xm_y mi).cls)))
    | .new idx => decide (decode (xm_c mi) pc = .ok (i, 3)) && decide (a < xc_l.length) && decide (b = (xc_q a).2.2) && xkw (c) (Cond.classLink (xm_y mi).cls idx (xc_q a).1)
    | .newarray at_ => decide (decode (xm_c mi) pc = .ok (i, 2)) && decide (a < 2) && decide (newarray.typeOf at_ = xo_t a) && xkw (c) (Cond.arrayClass (xo_t a))
    | .anewarray idx => decide (decode (xm_c mi) pc = .ok (i, 3)) && decide (2 ≤ a) && decide (a < xo_n) && xkw (c) (Cond.classLink (xm_y mi).cls idx (xc_q (xo_c a)).1)
    | .invokestatic idx => decide (decode (xm_c mi) pc = .ok (i, 3)) && xkl mi idx a c && decide (xm_k a = 0) && decide (b = xm_p a)
    | .invokespecial idx => decide (decode (xm_c mi) pc = .ok (i, 3)) && xkl mi idx a c && decide (xm_k a = 2) && decide (b = xm_p a) && (decide (a ≠ 0) || decide (b = 1))
    | .invokevirtual idx => decide (decode (xm_c mi) pc = .ok (i, 3)) && xkl mi idx a c && decide (xm_k a = 1) && decide (b = xm_p a)
    | .areturn => decide (decode (xm_c mi) pc = .ok (i, 1)) && (match xm_r mi with | some (.object _) => true | some (.array _) => true | _ => false)
    | .ireturn => decide (decode (xm_c mi) pc = .ok (i, 1)) && (match xm_z mi with | 0 => decide (xm_r mi = some .int) | 1 => decide (xm_r mi = some .boolean) | 2 => decide (xm_r mi = some .byte) | 3 => decide (xm_r mi = some .char) | _ => false)
    | .return_ => decide (decode (xm_c mi) pc = .ok (i, 1)) && decide (xm_r mi = none)
    | _ => decide (decode (xm_c mi) pc = .ok (i, xl i))
/-- a class: types, words -/
def xcB (a : Nat) : Bool := (List.range (xc_q a).2.2).all (fun k => decide (parseFieldDescriptor ((xc_q a).2.1 k).2.2.1 = some (xc_t a k)) && (match xc_t a k with
    | .int => decide (xf_k a k = 0)
    | .boolean => decide (xf_k a k = 1)
    | .object _ => decide (xf_k a k = 2)
    | .array _ => decide (xf_k a k = 2)
    | _ => false) && (List.range (xc_q a).2.2).all (fun j => decide (j = k) || decide (((xc_q a).2.1 j).2.1 ≠ ((xc_q a).2.1 k).2.1))) &&
  xkw (xc_w a) (Cond.instantiable (xc_q a).1 (xc_q a).2.2) && xkw (xc_v a) (Cond.initialized (xc_q a).1) && (List.range (xc_q a).2.2).all (fun k => xkw (xc_p a k) (u_lay (xc_q a).1 (xc_q a).2.1 k)) && decide (a < 80)
/-- a method: kind 0 static, 1 virtual, 2 a constructor; xm_p its arguments with the receiver -/
def xmB (a : Nat) : Bool := plainFor (xm_y a) && decide ((xm_y a).cls ≠ "java/lang/invoke/MethodHandle") && decide ((xm_y a).cls ≠ "java/lang/invoke/VarHandle") && decide (xm_l a ≤ 40) && decide (xm_p a ≤ xm_l a) &&
  decide ((parseMethodDescriptor (xm_y a).desc).map (fun d => d.parameters.length) = some (if xm_k a = 0 then xm_p a else xm_p a - 1)) && xkw (xm_w a) (Cond.initialized (xm_y a).cls) &&
  (if xm_k a = 0 then xkw (xm_v a) (Cond.static (xm_y a)) else xkw (xm_v a) (Cond.instanceMethod (xm_y a)) && decide (1 ≤ xm_p a)) &&
  (if xm_k a = 1 then xkw (xm_s a) (Cond.selects (xm_y a).cls (xm_y a) (xm_y a)) && (if xm_o a = 200 then decide ((xm_y a).cls = "java/lang/String") else decide (xm_o a < xc_l.length) && decide ((xc_q (xm_o a)).1 = (xm_y a).cls)) else true) &&
  (if xm_k a = 2 then decide ((xm_y a).name = "<init>") && decide (xm_r a = none) else true)
/-- the arrays of references -/
def xoB : Bool := decide (xo_n ≤ 10) && decide (2 ≤ xo_n) && decide (xo_t 0 = .int) && decide (xo_t 1 = .boolean) && (List.range xo_n).all (fun k => decide (k < 2) || (decide (xo_t k = .object (xc_q (xo_c k)).1) && decide (xo_c k < xc_l.length) && decide ((xc_q (xo_c k)).1 ∈ xo_s)))
