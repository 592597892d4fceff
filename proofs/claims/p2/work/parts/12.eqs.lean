/-! the steps, one by one -/
theorem m_s_iconst {X : Nat → List Int32} {call : Nat → List Value → m_H → Option m_R} {len : Nat} {a : Int} {b pc : Nat} {lv : m_L} {st : List Value} {h : m_H} (n : Int) : m_stp X call (.iconst n, len, a, b) pc lv st h = (m_nx (pc + len) lv (.int (Int32.ofInt n) :: st) h) := rfl
theorem m_s_bipush {X : Nat → List Int32} {call : Nat → List Value → m_H → Option m_R} {len : Nat} {a : Int} {b pc : Nat} {lv : m_L} {st : List Value} {h : m_H} (n : Int) : m_stp X call (.bipush n, len, a, b) pc lv st h = (m_nx (pc + len) lv (.int (Int8.ofInt n).toInt32 :: st) h) := rfl
theorem m_s_sipush {X : Nat → List Int32} {call : Nat → List Value → m_H → Option m_R} {len : Nat} {a : Int} {b pc : Nat} {lv : m_L} {st : List Value} {h : m_H} (n : Int) : m_stp X call (.sipush n, len, a, b) pc lv st h = (m_nx (pc + len) lv (.int (Int16.ofInt n).toInt32 :: st) h) := rfl
theorem m_s_ldc {X : Nat → List Int32} {call : Nat → List Value → m_H → Option m_R} {len : Nat} {a : Int} {b pc : Nat} {lv : m_L} {st : List Value} {h : m_H} (q : Nat) : m_stp X call (.ldc q, len, a, b) pc lv st h = (m_nx (pc + len) lv (.int (Int32.ofInt a) :: st) h) := rfl
theorem m_s_ldc_w {X : Nat → List Int32} {call : Nat → List Value → m_H → Option m_R} {len : Nat} {a : Int} {b pc : Nat} {lv : m_L} {st : List Value} {h : m_H} (q : Nat) : m_stp X call (.ldc_w q, len, a, b) pc lv st h = (m_nx (pc + len) lv (.int (Int32.ofInt a) :: st) h) := rfl
theorem m_s_ldc2_w {X : Nat → List Int32} {call : Nat → List Value → m_H → Option m_R} {len : Nat} {a : Int} {b pc : Nat} {lv : m_L} {st : List Value} {h : m_H} (q : Nat) : m_stp X call (.ldc2_w q, len, a, b) pc lv st h = (m_nx (pc + len) lv (.long (Int64.ofInt a) :: st) h) := rfl
theorem m_s_aconst_null {X : Nat → List Int32} {call : Nat → List Value → m_H → Option m_R} {len : Nat} {a : Int} {b pc : Nat} {lv : m_L} {st : List Value} {h : m_H} : m_stp X call (.aconst_null, len, a, b) pc lv st h = (m_nx (pc + len) lv (.null :: st) h) := rfl
theorem m_s_iload_n {X : Nat → List Int32} {call : Nat → List Value → m_H → Option m_R} {len : Nat} {a : Int} {b pc : Nat} {lv : m_L} {st : List Value} {h : m_H} (k : Fin 4) : m_stp X call (.iload_n k, len, a, b) pc lv st h = ((match m_lg lv k.val with
    | some (.int x) => m_nx (pc + len) lv (.int x :: st) h
    | _ => none)) := rfl
theorem m_s_iload {X : Nat → List Int32} {call : Nat → List Value → m_H → Option m_R} {len : Nat} {a : Int} {b pc : Nat} {lv : m_L} {st : List Value} {h : m_H} (k : Nat) : m_stp X call (.iload k, len, a, b) pc lv st h = ((match m_lg lv k with
    | some (.int x) => m_nx (pc + len) lv (.int x :: st) h
    | _ => none)) := rfl
theorem m_s_lload_n {X : Nat → List Int32} {call : Nat → List Value → m_H → Option m_R} {len : Nat} {a : Int} {b pc : Nat} {lv : m_L} {st : List Value} {h : m_H} (k : Fin 4) : m_stp X call (.lload_n k, len, a, b) pc lv st h = ((match m_lg lv k.val with
    | some (.long x) => m_nx (pc + len) lv (.long x :: st) h
    | _ => none)) := rfl
theorem m_s_lload {X : Nat → List Int32} {call : Nat → List Value → m_H → Option m_R} {len : Nat} {a : Int} {b pc : Nat} {lv : m_L} {st : List Value} {h : m_H} (k : Nat) : m_stp X call (.lload k, len, a, b) pc lv st h = ((match m_lg lv k with
    | some (.long x) => m_nx (pc + len) lv (.long x :: st) h
    | _ => none)) := rfl
theorem m_s_aload_n {X : Nat → List Int32} {call : Nat → List Value → m_H → Option m_R} {len : Nat} {a : Int} {b pc : Nat} {lv : m_L} {st : List Value} {h : m_H} (k : Fin 4) : m_stp X call (.aload_n k, len, a, b) pc lv st h = ((match m_lg lv k.val with
    | some (.ref x) => m_nx (pc + len) lv (.ref x :: st) h
    | some .null => m_nx (pc + len) lv (.null :: st) h
    | _ => none)) := rfl
theorem m_s_aload {X : Nat → List Int32} {call : Nat → List Value → m_H → Option m_R} {len : Nat} {a : Int} {b pc : Nat} {lv : m_L} {st : List Value} {h : m_H} (k : Nat) : m_stp X call (.aload k, len, a, b) pc lv st h = ((match m_lg lv k with
    | some (.ref x) => m_nx (pc + len) lv (.ref x :: st) h
    | some .null => m_nx (pc + len) lv (.null :: st) h
    | _ => none)) := rfl
theorem m_s_istore_n {X : Nat → List Int32} {call : Nat → List Value → m_H → Option m_R} {len : Nat} {a : Int} {b pc : Nat} {lv : m_L} {st : List Value} {h : m_H} (k : Fin 4) : m_stp X call (.istore_n k, len, a, b) pc lv st h = ((match st with
    | .int x :: r => m_nx (pc + len) (m_st lv k.val (.int x)) r h
    | _ => none)) := rfl
theorem m_s_istore {X : Nat → List Int32} {call : Nat → List Value → m_H → Option m_R} {len : Nat} {a : Int} {b pc : Nat} {lv : m_L} {st : List Value} {h : m_H} (k : Nat) : m_stp X call (.istore k, len, a, b) pc lv st h = ((match st with
    | .int x :: r => m_nx (pc + len) (m_st lv k (.int x)) r h
    | _ => none)) := rfl
theorem m_s_astore_n {X : Nat → List Int32} {call : Nat → List Value → m_H → Option m_R} {len : Nat} {a : Int} {b pc : Nat} {lv : m_L} {st : List Value} {h : m_H} (k : Fin 4) : m_stp X call (.astore_n k, len, a, b) pc lv st h = ((match st with
    | .ref x :: r => m_nx (pc + len) (m_st lv k.val (.ref x)) r h
    | .null :: r => m_nx (pc + len) (m_st lv k.val .null) r h
    | _ => none)) := rfl
theorem m_s_astore {X : Nat → List Int32} {call : Nat → List Value → m_H → Option m_R} {len : Nat} {a : Int} {b pc : Nat} {lv : m_L} {st : List Value} {h : m_H} (k : Nat) : m_stp X call (.astore k, len, a, b) pc lv st h = ((match st with
    | .ref x :: r => m_nx (pc + len) (m_st lv k (.ref x)) r h
    | .null :: r => m_nx (pc + len) (m_st lv k .null) r h
    | _ => none)) := rfl
theorem m_s_iinc {X : Nat → List Int32} {call : Nat → List Value → m_H → Option m_R} {len : Nat} {a : Int} {b pc : Nat} {lv : m_L} {st : List Value} {h : m_H} (i : Nat) (n : Int) : m_stp X call (.iinc i n, len, a, b) pc lv st h = ((match m_lg lv i with
    | some (.int x) => m_nx (pc + len) (m_st lv i (.int (x + Int32.ofInt n))) st h
    | _ => none)) := rfl
theorem m_s_iadd {X : Nat → List Int32} {call : Nat → List Value → m_H → Option m_R} {len : Nat} {a : Int} {b pc : Nat} {lv : m_L} {st : List Value} {h : m_H} : m_stp X call (.iadd, len, a, b) pc lv st h = ((match st with
    | .int y :: .int x :: r => m_nx (pc + len) lv (.int (x + y) :: r) h
    | _ => none)) := rfl
theorem m_s_isub {X : Nat → List Int32} {call : Nat → List Value → m_H → Option m_R} {len : Nat} {a : Int} {b pc : Nat} {lv : m_L} {st : List Value} {h : m_H} : m_stp X call (.isub, len, a, b) pc lv st h = ((match st with
    | .int y :: .int x :: r => m_nx (pc + len) lv (.int (x - y) :: r) h
    | _ => none)) := rfl
theorem m_s_imul {X : Nat → List Int32} {call : Nat → List Value → m_H → Option m_R} {len : Nat} {a : Int} {b pc : Nat} {lv : m_L} {st : List Value} {h : m_H} : m_stp X call (.imul, len, a, b) pc lv st h = ((match st with
    | .int y :: .int x :: r => m_nx (pc + len) lv (.int (x * y) :: r) h
    | _ => none)) := rfl
theorem m_s_iand {X : Nat → List Int32} {call : Nat → List Value → m_H → Option m_R} {len : Nat} {a : Int} {b pc : Nat} {lv : m_L} {st : List Value} {h : m_H} : m_stp X call (.iand, len, a, b) pc lv st h = ((match st with
    | .int y :: .int x :: r => m_nx (pc + len) lv (.int (x &&& y) :: r) h
    | _ => none)) := rfl
theorem m_s_ior {X : Nat → List Int32} {call : Nat → List Value → m_H → Option m_R} {len : Nat} {a : Int} {b pc : Nat} {lv : m_L} {st : List Value} {h : m_H} : m_stp X call (.ior, len, a, b) pc lv st h = ((match st with
    | .int y :: .int x :: r => m_nx (pc + len) lv (.int (x ||| y) :: r) h
    | _ => none)) := rfl
theorem m_s_ixor {X : Nat → List Int32} {call : Nat → List Value → m_H → Option m_R} {len : Nat} {a : Int} {b pc : Nat} {lv : m_L} {st : List Value} {h : m_H} : m_stp X call (.ixor, len, a, b) pc lv st h = ((match st with
    | .int y :: .int x :: r => m_nx (pc + len) lv (.int (x ^^^ y) :: r) h
    | _ => none)) := rfl
theorem m_s_idiv {X : Nat → List Int32} {call : Nat → List Value → m_H → Option m_R} {len : Nat} {a : Int} {b pc : Nat} {lv : m_L} {st : List Value} {h : m_H} : m_stp X call (.idiv, len, a, b) pc lv st h = ((match st with
    | .int y :: .int x :: r => if y = 0 then none else m_nx (pc + len) lv (.int (x / y) :: r) h
    | _ => none)) := rfl
theorem m_s_irem {X : Nat → List Int32} {call : Nat → List Value → m_H → Option m_R} {len : Nat} {a : Int} {b pc : Nat} {lv : m_L} {st : List Value} {h : m_H} : m_stp X call (.irem, len, a, b) pc lv st h = ((match st with
    | .int y :: .int x :: r => if y = 0 then none else m_nx (pc + len) lv (.int (x - x / y * y) :: r) h
    | _ => none)) := rfl
theorem m_s_ishl {X : Nat → List Int32} {call : Nat → List Value → m_H → Option m_R} {len : Nat} {a : Int} {b pc : Nat} {lv : m_L} {st : List Value} {h : m_H} : m_stp X call (.ishl, len, a, b) pc lv st h = ((match st with
    | .int y :: .int x :: r => m_nx (pc + len) lv (.int (x <<< (y &&& 31)) :: r) h
    | _ => none)) := rfl
theorem m_s_ishr {X : Nat → List Int32} {call : Nat → List Value → m_H → Option m_R} {len : Nat} {a : Int} {b pc : Nat} {lv : m_L} {st : List Value} {h : m_H} : m_stp X call (.ishr, len, a, b) pc lv st h = ((match st with
    | .int y :: .int x :: r => m_nx (pc + len) lv (.int (x >>> (y &&& 31)) :: r) h
    | _ => none)) := rfl
theorem m_s_iushr {X : Nat → List Int32} {call : Nat → List Value → m_H → Option m_R} {len : Nat} {a : Int} {b pc : Nat} {lv : m_L} {st : List Value} {h : m_H} : m_stp X call (.iushr, len, a, b) pc lv st h = ((match st with
    | .int y :: .int x :: r => m_nx (pc + len) lv (.int ((x.toUInt32 >>> (y.toUInt32 &&& Int32.toUInt32 31)).toInt32) :: r) h
    | _ => none)) := rfl
theorem m_s_land {X : Nat → List Int32} {call : Nat → List Value → m_H → Option m_R} {len : Nat} {a : Int} {b pc : Nat} {lv : m_L} {st : List Value} {h : m_H} : m_stp X call (.land, len, a, b) pc lv st h = ((match st with
    | .long y :: .long x :: r => m_nx (pc + len) lv (.long (x &&& y) :: r) h
    | _ => none)) := rfl
theorem m_s_lor {X : Nat → List Int32} {call : Nat → List Value → m_H → Option m_R} {len : Nat} {a : Int} {b pc : Nat} {lv : m_L} {st : List Value} {h : m_H} : m_stp X call (.lor, len, a, b) pc lv st h = ((match st with
    | .long y :: .long x :: r => m_nx (pc + len) lv (.long (x ||| y) :: r) h
    | _ => none)) := rfl
theorem m_s_lshl {X : Nat → List Int32} {call : Nat → List Value → m_H → Option m_R} {len : Nat} {a : Int} {b pc : Nat} {lv : m_L} {st : List Value} {h : m_H} : m_stp X call (.lshl, len, a, b) pc lv st h = ((match st with
    | .int y :: .long x :: r => m_nx (pc + len) lv (.long (x <<< (y.toInt64 &&& 63)) :: r) h
    | _ => none)) := rfl
theorem m_s_lshr {X : Nat → List Int32} {call : Nat → List Value → m_H → Option m_R} {len : Nat} {a : Int} {b pc : Nat} {lv : m_L} {st : List Value} {h : m_H} : m_stp X call (.lshr, len, a, b) pc lv st h = ((match st with
    | .int y :: .long x :: r => m_nx (pc + len) lv (.long (x >>> (y.toInt64 &&& 63)) :: r) h
    | _ => none)) := rfl
theorem m_s_lushr {X : Nat → List Int32} {call : Nat → List Value → m_H → Option m_R} {len : Nat} {a : Int} {b pc : Nat} {lv : m_L} {st : List Value} {h : m_H} : m_stp X call (.lushr, len, a, b) pc lv st h = ((match st with
    | .int y :: .long x :: r => m_nx (pc + len) lv (.long ((x.toUInt64 >>> (y.toInt64.toUInt64 &&& Int64.toUInt64 63)).toInt64) :: r) h
    | _ => none)) := rfl
theorem m_s_ineg {X : Nat → List Int32} {call : Nat → List Value → m_H → Option m_R} {len : Nat} {a : Int} {b pc : Nat} {lv : m_L} {st : List Value} {h : m_H} : m_stp X call (.ineg, len, a, b) pc lv st h = ((match st with
    | .int x :: r => m_nx (pc + len) lv (.int (-x) :: r) h
    | _ => none)) := rfl
theorem m_s_i2l {X : Nat → List Int32} {call : Nat → List Value → m_H → Option m_R} {len : Nat} {a : Int} {b pc : Nat} {lv : m_L} {st : List Value} {h : m_H} : m_stp X call (.i2l, len, a, b) pc lv st h = ((match st with
    | .int x :: r => m_nx (pc + len) lv (.long (x.toInt64) :: r) h
    | _ => none)) := rfl
theorem m_s_l2i {X : Nat → List Int32} {call : Nat → List Value → m_H → Option m_R} {len : Nat} {a : Int} {b pc : Nat} {lv : m_L} {st : List Value} {h : m_H} : m_stp X call (.l2i, len, a, b) pc lv st h = ((match st with
    | .long x :: r => m_nx (pc + len) lv (.int (x.toInt32) :: r) h
    | _ => none)) := rfl
theorem m_s_dup {X : Nat → List Int32} {call : Nat → List Value → m_H → Option m_R} {len : Nat} {a : Int} {b pc : Nat} {lv : m_L} {st : List Value} {h : m_H} : m_stp X call (.dup, len, a, b) pc lv st h = ((match st with
    | .int x :: r => m_nx (pc + len) lv (.int x :: .int x :: r) h
    | .ref x :: r => m_nx (pc + len) lv (.ref x :: .ref x :: r) h
    | _ => none)) := rfl
theorem m_s_dup2 {X : Nat → List Int32} {call : Nat → List Value → m_H → Option m_R} {len : Nat} {a : Int} {b pc : Nat} {lv : m_L} {st : List Value} {h : m_H} : m_stp X call (.dup2, len, a, b) pc lv st h = ((match st with
    | .int x :: .ref y :: r => m_nx (pc + len) lv (.int x :: .ref y :: .int x :: .ref y :: r) h
    | _ => none)) := rfl
theorem m_s_pop {X : Nat → List Int32} {call : Nat → List Value → m_H → Option m_R} {len : Nat} {a : Int} {b pc : Nat} {lv : m_L} {st : List Value} {h : m_H} : m_stp X call (.pop, len, a, b) pc lv st h = ((match st with
    | .int _ :: r => m_nx (pc + len) lv r h
    | _ => none)) := rfl
theorem m_s_ifCond_eq {X : Nat → List Int32} {call : Nat → List Value → m_H → Option m_R} {len : Nat} {a : Int} {b pc : Nat} {lv : m_L} {st : List Value} {h : m_H} (q : Int) : m_stp X call (.ifCond .eq q, len, a, b) pc lv st h = ((match st with
    | .int x :: r => if x = 0 then m_nx a.toNat lv r h else m_nx (pc + len) lv r h
    | _ => none)) := rfl
theorem m_s_ifCond_ne {X : Nat → List Int32} {call : Nat → List Value → m_H → Option m_R} {len : Nat} {a : Int} {b pc : Nat} {lv : m_L} {st : List Value} {h : m_H} (q : Int) : m_stp X call (.ifCond .ne q, len, a, b) pc lv st h = ((match st with
    | .int x :: r => if x = 0 then m_nx (pc + len) lv r h else m_nx a.toNat lv r h
    | _ => none)) := rfl
theorem m_s_ifCond_lt {X : Nat → List Int32} {call : Nat → List Value → m_H → Option m_R} {len : Nat} {a : Int} {b pc : Nat} {lv : m_L} {st : List Value} {h : m_H} (q : Int) : m_stp X call (.ifCond .lt q, len, a, b) pc lv st h = ((match st with
    | .int x :: r => if x < 0 then m_nx a.toNat lv r h else m_nx (pc + len) lv r h
    | _ => none)) := rfl
theorem m_s_ifCond_ge {X : Nat → List Int32} {call : Nat → List Value → m_H → Option m_R} {len : Nat} {a : Int} {b pc : Nat} {lv : m_L} {st : List Value} {h : m_H} (q : Int) : m_stp X call (.ifCond .ge q, len, a, b) pc lv st h = ((match st with
    | .int x :: r => if 0 ≤ x then m_nx a.toNat lv r h else m_nx (pc + len) lv r h
    | _ => none)) := rfl
theorem m_s_ifCond_gt {X : Nat → List Int32} {call : Nat → List Value → m_H → Option m_R} {len : Nat} {a : Int} {b pc : Nat} {lv : m_L} {st : List Value} {h : m_H} (q : Int) : m_stp X call (.ifCond .gt q, len, a, b) pc lv st h = ((match st with
    | .int x :: r => if 0 < x then m_nx a.toNat lv r h else m_nx (pc + len) lv r h
    | _ => none)) := rfl
theorem m_s_ifCond_le {X : Nat → List Int32} {call : Nat → List Value → m_H → Option m_R} {len : Nat} {a : Int} {b pc : Nat} {lv : m_L} {st : List Value} {h : m_H} (q : Int) : m_stp X call (.ifCond .le q, len, a, b) pc lv st h = ((match st with
    | .int x :: r => if x ≤ 0 then m_nx a.toNat lv r h else m_nx (pc + len) lv r h
    | _ => none)) := rfl
theorem m_s_if_icmp_eq {X : Nat → List Int32} {call : Nat → List Value → m_H → Option m_R} {len : Nat} {a : Int} {b pc : Nat} {lv : m_L} {st : List Value} {h : m_H} (q : Int) : m_stp X call (.if_icmp .eq q, len, a, b) pc lv st h = ((match st with
    | .int y :: .int x :: r => if x = y then m_nx a.toNat lv r h else m_nx (pc + len) lv r h
    | _ => none)) := rfl
theorem m_s_if_icmp_ne {X : Nat → List Int32} {call : Nat → List Value → m_H → Option m_R} {len : Nat} {a : Int} {b pc : Nat} {lv : m_L} {st : List Value} {h : m_H} (q : Int) : m_stp X call (.if_icmp .ne q, len, a, b) pc lv st h = ((match st with
    | .int y :: .int x :: r => if x = y then m_nx (pc + len) lv r h else m_nx a.toNat lv r h
    | _ => none)) := rfl
theorem m_s_if_icmp_lt {X : Nat → List Int32} {call : Nat → List Value → m_H → Option m_R} {len : Nat} {a : Int} {b pc : Nat} {lv : m_L} {st : List Value} {h : m_H} (q : Int) : m_stp X call (.if_icmp .lt q, len, a, b) pc lv st h = ((match st with
    | .int y :: .int x :: r => if x < y then m_nx a.toNat lv r h else m_nx (pc + len) lv r h
    | _ => none)) := rfl
theorem m_s_if_icmp_ge {X : Nat → List Int32} {call : Nat → List Value → m_H → Option m_R} {len : Nat} {a : Int} {b pc : Nat} {lv : m_L} {st : List Value} {h : m_H} (q : Int) : m_stp X call (.if_icmp .ge q, len, a, b) pc lv st h = ((match st with
    | .int y :: .int x :: r => if y ≤ x then m_nx a.toNat lv r h else m_nx (pc + len) lv r h
    | _ => none)) := rfl
theorem m_s_if_icmp_gt {X : Nat → List Int32} {call : Nat → List Value → m_H → Option m_R} {len : Nat} {a : Int} {b pc : Nat} {lv : m_L} {st : List Value} {h : m_H} (q : Int) : m_stp X call (.if_icmp .gt q, len, a, b) pc lv st h = ((match st with
    | .int y :: .int x :: r => if y < x then m_nx a.toNat lv r h else m_nx (pc + len) lv r h
    | _ => none)) := rfl
theorem m_s_if_icmp_le {X : Nat → List Int32} {call : Nat → List Value → m_H → Option m_R} {len : Nat} {a : Int} {b pc : Nat} {lv : m_L} {st : List Value} {h : m_H} (q : Int) : m_stp X call (.if_icmp .le q, len, a, b) pc lv st h = ((match st with
    | .int y :: .int x :: r => if x ≤ y then m_nx a.toNat lv r h else m_nx (pc + len) lv r h
    | _ => none)) := rfl
theorem m_s_ifnull {X : Nat → List Int32} {call : Nat → List Value → m_H → Option m_R} {len : Nat} {a : Int} {b pc : Nat} {lv : m_L} {st : List Value} {h : m_H} (q : Int) : m_stp X call (.ifnull q, len, a, b) pc lv st h = ((match st with
    | .null :: r => m_nx a.toNat lv r h
    | .ref _ :: r => m_nx (pc + len) lv r h
    | _ => none)) := rfl
theorem m_s_ifnonnull {X : Nat → List Int32} {call : Nat → List Value → m_H → Option m_R} {len : Nat} {a : Int} {b pc : Nat} {lv : m_L} {st : List Value} {h : m_H} (q : Int) : m_stp X call (.ifnonnull q, len, a, b) pc lv st h = ((match st with
    | .null :: r => m_nx (pc + len) lv r h
    | .ref _ :: r => m_nx a.toNat lv r h
    | _ => none)) := rfl
theorem m_s_goto {X : Nat → List Int32} {call : Nat → List Value → m_H → Option m_R} {len : Nat} {a : Int} {b pc : Nat} {lv : m_L} {st : List Value} {h : m_H} (q : Int) : m_stp X call (.goto q, len, a, b) pc lv st h = (m_nx a.toNat lv st h) := rfl
theorem m_s_tableswitch {X : Nat → List Int32} {call : Nat → List Value → m_H → Option m_R} {len : Nat} {a : Int} {b pc : Nat} {lv : m_L} {st : List Value} {h : m_H} (d : Int) (lo : Int) (hi : Int) (offs : Array Int) : m_stp X call (.tableswitch d lo hi offs, len, a, b) pc lv st h = ((match st with
    | .int x :: r => if x.toInt < lo ∨ hi < x.toInt then (match m_go pc d with
      | some t => m_nx t lv r h
      | none => none) else (match m_nth offs.toList (x.toInt - lo).toNat with
      | some off => (match m_go pc off with
        | some t => m_nx t lv r h
        | none => none)
      | none => none)
    | _ => none)) := rfl
theorem m_s_lookupswitch {X : Nat → List Int32} {call : Nat → List Value → m_H → Option m_R} {len : Nat} {a : Int} {b pc : Nat} {lv : m_L} {st : List Value} {h : m_H} (d : Int) (ps : Array (Int × Int)) : m_stp X call (.lookupswitch d ps, len, a, b) pc lv st h = ((match st with
    | .int x :: r => (match m_go pc (Op.lookupswitch.offset ps.toList d x.toInt) with
      | some t => m_nx t lv r h
      | none => none)
    | _ => none)) := rfl
theorem m_s_getfield {X : Nat → List Int32} {call : Nat → List Value → m_H → Option m_R} {len : Nat} {a : Int} {b pc : Nat} {lv : m_L} {st : List Value} {h : m_H} (q : Nat) : m_stp X call (.getfield q, len, a, b) pc lv st h = ((match st with
    | .ref k :: r => (match m_ob h k with
      | some (t, vs) => if t = b then (match m_nth vs (a.toNat % 100) with
        | some (.int x) => m_nx (pc + len) lv (.int x :: r) h
        | some (.ref x) => m_nx (pc + len) lv (.ref x :: r) h
        | some .null => m_nx (pc + len) lv (.null :: r) h
        | _ => none) else none
      | none => none)
    | _ => none)) := rfl
theorem m_s_putfield {X : Nat → List Int32} {call : Nat → List Value → m_H → Option m_R} {len : Nat} {a : Int} {b pc : Nat} {lv : m_L} {st : List Value} {h : m_H} (q : Nat) : m_stp X call (.putfield q, len, a, b) pc lv st h = ((match st with
    | v :: .ref k :: r => (match m_ob h k with
      | some (t, vs) => if t = b ∧ a.toNat % 100 < vs.length ∧ m_fit (a.toNat / 100) v = true then m_nx (pc + len) lv r (h.set k (t, vs.set (a.toNat % 100) v)) else none
      | none => none)
    | _ => none)) := rfl
theorem m_s_getstatic {X : Nat → List Int32} {call : Nat → List Value → m_H → Option m_R} {len : Nat} {a : Int} {b pc : Nat} {lv : m_L} {st : List Value} {h : m_H} (q : Nat) : m_stp X call (.getstatic q, len, a, b) pc lv st h = (m_nx (pc + len) lv (.ref (1000000 + b) :: st) h) := rfl
theorem m_s_new {X : Nat → List Int32} {call : Nat → List Value → m_H → Option m_R} {len : Nat} {a : Int} {b pc : Nat} {lv : m_L} {st : List Value} {h : m_H} (q : Nat) : m_stp X call (.new q, len, a, b) pc lv st h = ((match m_add h b (m_dfl b) with
    | some h' => m_nx (pc + len) lv (.ref h.length :: st) h'
    | none => none)) := rfl
theorem m_s_newarray {X : Nat → List Int32} {call : Nat → List Value → m_H → Option m_R} {len : Nat} {a : Int} {b pc : Nat} {lv : m_L} {st : List Value} {h : m_H} (q : ArrayType) : m_stp X call (.newarray q, len, a, b) pc lv st h = ((match st with
    | .int n :: r => (match m_ix n with
      | some w => if w ≤ 100000 then (match m_add h b (List.replicate w (.int 0)) with
        | some h' => m_nx (pc + len) lv (.ref h.length :: r) h'
        | none => none) else none
      | none => none)
    | _ => none)) := rfl
theorem m_s_anewarray {X : Nat → List Int32} {call : Nat → List Value → m_H → Option m_R} {len : Nat} {a : Int} {b pc : Nat} {lv : m_L} {st : List Value} {h : m_H} (q : Nat) : m_stp X call (.anewarray q, len, a, b) pc lv st h = ((match st with
    | .int n :: r => (match m_ix n with
      | some w => if w ≤ 100000 then (match m_add h b (List.replicate w .null) with
        | some h' => m_nx (pc + len) lv (.ref h.length :: r) h'
        | none => none) else none
      | none => none)
    | _ => none)) := rfl
theorem m_s_arraylength {X : Nat → List Int32} {call : Nat → List Value → m_H → Option m_R} {len : Nat} {a : Int} {b pc : Nat} {lv : m_L} {st : List Value} {h : m_H} : m_stp X call (.arraylength, len, a, b) pc lv st h = ((match st with
    | .ref k :: r => (match m_ln X h k with
      | some n => m_nx (pc + len) lv (.int n :: r) h
      | none => none)
    | _ => none)) := rfl
theorem m_s_iaload {X : Nat → List Int32} {call : Nat → List Value → m_H → Option m_R} {len : Nat} {a : Int} {b pc : Nat} {lv : m_L} {st : List Value} {h : m_H} : m_stp X call (.iaload, len, a, b) pc lv st h = ((match st with
    | .int i :: .ref k :: r => (match m_el X h 20 k i with
      | some (.int x) => m_nx (pc + len) lv (.int x :: r) h
      | _ => none)
    | _ => none)) := rfl
theorem m_s_baload {X : Nat → List Int32} {call : Nat → List Value → m_H → Option m_R} {len : Nat} {a : Int} {b pc : Nat} {lv : m_L} {st : List Value} {h : m_H} : m_stp X call (.baload, len, a, b) pc lv st h = ((match st with
    | .int i :: .ref k :: r => (match m_el X h 21 k i with
      | some (.int x) => m_nx (pc + len) lv (.int x :: r) h
      | _ => none)
    | _ => none)) := rfl
theorem m_s_aaload {X : Nat → List Int32} {call : Nat → List Value → m_H → Option m_R} {len : Nat} {a : Int} {b pc : Nat} {lv : m_L} {st : List Value} {h : m_H} : m_stp X call (.aaload, len, a, b) pc lv st h = ((match st with
    | .int i :: .ref k :: r => (match m_ob h k, m_ix i with
      | some (t, vs), some j => if 22 ≤ t ∧ t ≤ 26 then (match m_nth vs j with
        | some (.ref x) => m_nx (pc + len) lv (.ref x :: r) h
        | some .null => m_nx (pc + len) lv (.null :: r) h
        | _ => none) else none
      | _, _ => none)
    | _ => none)) := rfl
theorem m_s_iastore {X : Nat → List Int32} {call : Nat → List Value → m_H → Option m_R} {len : Nat} {a : Int} {b pc : Nat} {lv : m_L} {st : List Value} {h : m_H} : m_stp X call (.iastore, len, a, b) pc lv st h = ((match st with
    | .int x :: .int i :: .ref k :: r => (match m_se h 20 k i (.int x) with
      | some h' => m_nx (pc + len) lv r h'
      | none => none)
    | _ => none)) := rfl
theorem m_s_bastore {X : Nat → List Int32} {call : Nat → List Value → m_H → Option m_R} {len : Nat} {a : Int} {b pc : Nat} {lv : m_L} {st : List Value} {h : m_H} : m_stp X call (.bastore, len, a, b) pc lv st h = ((match st with
    | .int x :: .int i :: .ref k :: r => if x = 0 ∨ x = 1 then (match m_se h 21 k i (.int x) with
      | some h' => m_nx (pc + len) lv r h'
      | none => none) else none
    | _ => none)) := rfl
theorem m_s_aastore {X : Nat → List Int32} {call : Nat → List Value → m_H → Option m_R} {len : Nat} {a : Int} {b pc : Nat} {lv : m_L} {st : List Value} {h : m_H} : m_stp X call (.aastore, len, a, b) pc lv st h = ((match st with
    | v :: .int i :: .ref k :: r => (match m_ob h k, m_ix i with
      | some (t, vs), some j => if 22 ≤ t ∧ t ≤ 26 ∧ j < vs.length ∧ m_asg h t v = true then m_nx (pc + len) lv r (h.set k (t, vs.set j v)) else none
      | _, _ => none)
    | _ => none)) := rfl
theorem m_s_invokevirtual {X : Nat → List Int32} {call : Nat → List Value → m_H → Option m_R} {len : Nat} {a : Int} {b pc : Nat} {lv : m_L} {st : List Value} {h : m_H} (q : Nat) : m_stp X call (.invokevirtual q, len, a, b) pc lv st h = ((match st.drop b with
    | .ref k :: r => (match m_ob h k with
      | some (t, _) => if t = m_oc a.toNat ∧ r.length ≤ 4 ∧ b ≤ st.length then (match call a.toNat (.ref k :: (st.take b).reverse) h with
        | some (v, h') => m_nx (pc + len) lv (v.toList ++ r) h'
        | none => none) else none
      | none => none)
    | _ => none)) := rfl
theorem m_s_invokestatic {X : Nat → List Int32} {call : Nat → List Value → m_H → Option m_R} {len : Nat} {a : Int} {b pc : Nat} {lv : m_L} {st : List Value} {h : m_H} (q : Nat) : m_stp X call (.invokestatic q, len, a, b) pc lv st h = (if a.toNat = 9999 then (match st with
    | .int n :: .int dp :: .ref q :: .int sp :: .ref k :: r => (match m_acp h k sp q dp n with
      | some h' => if r.length ≤ 4 then m_nx (pc + len) lv r h' else none
      | none => none)
    | _ => none) else if (st.drop b).length ≤ 4 ∧ b ≤ st.length then (match call a.toNat (st.take b).reverse h with
      | some (v, h') => m_nx (pc + len) lv (v.toList ++ st.drop b) h'
      | none => none) else none) := rfl
theorem m_s_invokespecial {X : Nat → List Int32} {call : Nat → List Value → m_H → Option m_R} {len : Nat} {a : Int} {b pc : Nat} {lv : m_L} {st : List Value} {h : m_H} (q : Nat) : m_stp X call (.invokespecial q, len, a, b) pc lv st h = (if a.toNat = 9998 then (match st with
    | .ref _ :: r => if r.length ≤ 4 then m_nx (pc + len) lv r h else none
    | _ => none) else (match st.drop b with
    | .ref k :: r => if r.length ≤ 4 ∧ b ≤ st.length ∧ k < 1000000 then (match call a.toNat (.ref k :: (st.take b).reverse) h with
        | some (v, h') => m_nx (pc + len) lv (v.toList ++ r) h'
        | none => none) else none
    | _ => none)) := rfl
theorem m_s_ireturn {X : Nat → List Int32} {call : Nat → List Value → m_H → Option m_R} {len : Nat} {a : Int} {b pc : Nat} {lv : m_L} {st : List Value} {h : m_H} : m_stp X call (.ireturn, len, a, b) pc lv st h = ((match st with
    | [.int x] => if b = 0 ∨ x = 0 ∨ x = 1 then some (.inr (some (.int x), h)) else none
    | _ => none)) := rfl
theorem m_s_areturn {X : Nat → List Int32} {call : Nat → List Value → m_H → Option m_R} {len : Nat} {a : Int} {b pc : Nat} {lv : m_L} {st : List Value} {h : m_H} : m_stp X call (.areturn, len, a, b) pc lv st h = ((match st with
    | [.ref x] => some (.inr (some (.ref x), h))
    | [.null] => some (.inr (some .null, h))
    | _ => none)) := rfl
theorem m_s_return_ {X : Nat → List Int32} {call : Nat → List Value → m_H → Option m_R} {len : Nat} {a : Int} {b pc : Nat} {lv : m_L} {st : List Value} {h : m_H} : m_stp X call (.return_, len, a, b) pc lv st h = ((match st with
    | [] => some (.inr (none, h))
    | _ => none)) := rfl
