section
/-! the steps, one by one -/
theorem m_s_iconst {X : Nat → List Int32} {call : Nat → List Value → m_H → Option m_R} {len : Nat} {a : Int} {b pc : Nat} {lv : m_L} {st : List Value} {h : m_H} (n : Int) : m_stp X call (.iconst n, len, a, b) pc lv st h = (m_nx (pc + len) lv (.int (Int32.ofInt n) :: st) h) := rfl
theorem m_s_bipush {X : Nat → List Int32} {call : Nat → List Value → m_H → Option m_R} {len : Nat} {a : Int} {b pc : Nat} {lv : m_L} {st : List Value} {h : m_H} (n : Int) : m_stp X call (.bipush n, len, a, b) pc lv st h = (m_nx (pc + len) lv (.int (Int8.ofInt n).toInt32 :: st) h) := rfl
theorem m_s_sipush {X : Nat → List Int32} {call : Nat → List Value → m_H → Option m_R} {len : Nat} {a : Int} {b pc : Nat} {lv : m_L} {st : List Value} {h : m_H} (n : Int) : m_stp X call (.sipush n, len, a, b) pc lv st h = (m_nx (pc + len) lv (.int (Int16.ofInt n).toInt32 :: st) h) := rfl
theorem m_s_ldc {X : Nat → List Int32} {call : Nat → List Value → m_H → Option m_R} {len : Nat} {a : Int} {b pc : Nat} {lv : m_L} {st : List Value} {h : m_H} (q : Nat) : m_stp X call (.ldc q, len, a, b) pc lv st h = (m_nx (pc + len) lv (.int (Int32.ofInt a) :: st) h) := rfl
theorem m_s_ldc_w {X : Nat → List Int32} {call : Nat → List Value → m_H → Option m_R} {len : Nat} {a : Int} {b pc : Nat} {lv : m_L} {st : List Value} {h : m_H} (q : Nat) : m_stp X call (.ldc_w q, len, a, b) pc lv st h = (m_nx (pc + len) lv (.int (Int32.ofInt a) :: st) h) := rfl
theorem m_s_ldc2_w {X : Nat → List Int32} {call : Nat → List Value → m_H → Option m_R} {len : Nat} {a : Int} {b pc : Nat} {lv : m_L} {st : List Value} {h : m_H} (q : Nat) : m_stp X call (.ldc2_w q, len, a, b) pc lv st h = (m_nx (pc + len) lv (.long (Int64.ofInt a) :: st) h) := rfl
theorem m_s_aconst_null {X : Nat → List Int32} {call : Nat → List Value → m_H → Option m_R} {len : Nat} {a : Int} {b pc : Nat} {lv : m_L} {st : List Value} {h : m_H} : m_stp X call (.aconst_null, len, a, b) pc lv st h = (m_nx (pc + len) lv (.null :: st) h) := rfl
theorem m_s_iload_n {X : Nat → List Int32} {call : Nat → List Value → m_H → Option m_R} {len : Nat} {a : Int} {b pc : Nat} {lv : m_L} {st : List Value} {h : m_H} (k : Fin 4) : m_stp X call (.iload_n k, len, a, b) pc lv st h = ((match m_lg lv k.val with
    | some (.int x) => m_nx (pc + len) lv (.int x :: st) h
    | _ => none)) := rfl
theorem m_s_iload {X : Nat → List Int32} {call : Nat → List Value → m_H → Option m_R} {len : Nat} {a : Int} {b pc : Nat} {lv : m_L} {st : List Value} {h : m_H} (k : Nat) : m_stp X call (.iload k, len, a, b) pc lv st h = ((match m_lg lv k with
    | some (.int x) => m_nx (pc + len) lv (.int x :: st) h
    | _ => none)) := rfl
theorem m_s_lload_n {X : Nat → List Int32} {call : Nat → List Value → m_H → Option m_R} {len : Nat} {a : Int} {b pc : Nat} {lv : m_L} {st : List Value} {h : m_H} (k : Fin 4) : m_stp X call (.lload_n k, len, a, b) pc lv st h = ((match m_lg lv k.val with
    | some (.long x) => m_nx (pc + len) lv (.long x :: st) h
    | _ => none)) := rfl
theorem m_s_lload {X : Nat → List Int32} {call : Nat → List Value → m_H → Option m_R} {len : Nat} {a : Int} {b pc : Nat} {lv : m_L} {st : List Value} {h : m_H} (k : Nat) : m_stp X call (.lload k, len, a, b) pc lv st h = ((match m_lg lv k with
    | some (.long x) => m_nx (pc + len) lv (.long x :: st) h
    | _ => none)) := rfl
theorem m_s_aload_n {X : Nat → List Int32} {call : Nat → List Value → m_H → Option m_R} {len : Nat} {a : Int} {b pc : Nat} {lv : m_L} {st : List Value} {h : m_H} (k : Fin 4) : m_stp X call (.aload_n k, len, a, b) pc lv st h = ((match m_lg lv k.val with
    | some (.ref x) => m_nx (pc + len) lv (.ref x :: st) h
    | some .null => m_nx (pc + len) lv (.null :: st) h
    | _ => none)) := rfl
theorem m_s_aload {X : Nat → List Int32} {call : Nat → List Value → m_H → Option m_R} {len : Nat} {a : Int} {b pc : Nat} {lv : m_L} {st : List Value} {h : m_H} (k : Nat) : m_stp X call (.aload k, len, a, b) pc lv st h = ((match m_lg lv k with
    | some (.ref x) => m_nx (pc + len) lv (.ref x :: st) h
    | some .null => m_nx (pc + len) lv (.null :: st) h
    | _ => none)) := rfl
theorem m_s_istore_n {X : Nat → List Int32} {call : Nat → List Value → m_H → Option m_R} {len : Nat} {a : Int} {b pc : Nat} {lv : m_L} {st : List Value} {h : m_H} (k : Fin 4) : m_stp X call (.istore_n k, len, a, b) pc lv st h = ((match st with
    | .int x :: r => m_nx (pc + len) (m_st lv k.val (.int x)) r h
    | _ => none)) := rfl
theorem m_s_istore {X : Nat → List Int32} {call : Nat → List Value → m_H → Option m_R} {len : Nat} {a : Int} {b pc : Nat} {lv : m_L} {st : List Value} {h : m_H} (k : Nat) : m_stp X call (.istore k, len, a, b) pc lv st h = ((match st with
    | .int x :: r => m_nx (pc + len) (m_st lv k (.int x)) r h
    | _ => none)) := rfl
theorem m_s_astore_n {X : Nat → List Int32} {call : Nat → List Value → m_H → Option m_R} {len : Nat} {a : Int} {b pc : Nat} {lv : m_L} {st : List Value} {h : m_H} (k : Fin 4) : m_stp X call (.astore_n k, len, a, b) pc lv st h = ((match st with
    | .ref x :: r => m_nx (pc + len) (m_st lv k.val (.ref x)) r h
    | .null :: r => m_nx (pc + len) (m_st lv k.val .null) r h
    | _ => none)) := rfl
theorem m_s_astore {X : Nat → List Int32} {call : Nat → List Value → m_H → Option m_R} {len : Nat} {a : Int} {b pc : Nat} {lv : m_L} {st : List Value} {h : m_H} (k : Nat) : m_stp X call (.astore k, len, a, b) pc lv st h = ((match st with
    | .ref x :: r => m_nx (pc + len) (m_st lv k (.ref x)) r h
    | .null :: r => m_nx (pc + len) (m_st lv k .null) r h
    | _ => none)) := rfl
theorem m_s_iinc {X : Nat → List Int32} {call : Nat → List Value → m_H → Option m_R} {len : Nat} {a : Int} {b pc : Nat} {lv : m_L} {st : List Value} {h : m_H} (i : Nat) (n : Int) : m_stp X call (.iinc i n, len, a, b) pc lv st h = ((match m_lg lv i with
    | some (.int x) => m_nx (pc + len) (m_st lv i (.int (x + Int32.ofInt n))) st h
    | _ => none)) := rfl
theorem m_s_iadd {X : Nat → List Int32} {call : Nat → List Value → m_H → Option m_R} {len : Nat} {a : Int} {b pc : Nat} {lv : m_L} {st : List Value} {h : m_H} : m_stp X call (.iadd, len, a, b) pc lv st h = ((match st with
    | .int y :: .int x :: r => m_nx (pc + len) lv (.int (x + y) :: r) h
    | _ => none)) := rfl
theorem m_s_isub {X : Nat → List Int32} {call : Nat → List Value → m_H → Option m_R} {len : Nat} {a : Int} {b pc : Nat} {lv : m_L} {st : List Value} {h : m_H} : m_stp X call (.isub, len, a, b) pc lv st h = ((match st with
    | .int y :: .int x :: r => m_nx (pc + len) lv (.int (x - y) :: r) h
    | _ => none)) := rfl
theorem m_s_imul {X : Nat → List Int32} {call : Nat → List Value → m_H → Option m_R} {len : Nat} {a : Int} {b pc : Nat} {lv : m_L} {st : List Value} {h : m_H} : m_stp X call (.imul, len, a, b) pc lv st h = ((match st with
    | .int y :: .int x :: r => m_nx (pc + len) lv (.int (x * y) :: r) h
    | _ => none)) := rfl
theorem m_s_iand {X : Nat → List Int32} {call : Nat → List Value → m_H → Option m_R} {len : Nat} {a : Int} {b pc : Nat} {lv : m_L} {st : List Value} {h : m_H} : m_stp X call (.iand, len, a, b) pc lv st h = ((match st with
    | .int y :: .int x :: r => m_nx (pc + len) lv (.int (x &&& y) :: r) h
    | _ => none)) := rfl
theorem m_s_ior {X : Nat → List Int32} {call : Nat → List Value → m_H → Option m_R} {len : Nat} {a : Int} {b pc : Nat} {lv : m_L} {st : List Value} {h : m_H} : m_stp X call (.ior, len, a, b) pc lv st h = ((match st with
    | .int y :: .int x :: r => m_nx (pc + len) lv (.int (x ||| y) :: r) h
    | _ => none)) := rfl
theorem m_s_ixor {X : Nat → List Int32} {call : Nat → List Value → m_H → Option m_R} {len : Nat} {a : Int} {b pc : Nat} {lv : m_L} {st : List Value} {h : m_H} : m_stp X call (.ixor, len, a, b) pc lv st h = ((match st with
    | .int y :: .int x :: r => m_nx (pc + len) lv (.int (x ^^^ y) :: r) h
    | _ => none)) := rfl
theorem m_s_idiv {X : Nat → List Int32} {call : Nat → List Value → m_H → Option m_R} {len : Nat} {a : Int} {b pc : Nat} {lv : m_L} {st : List Value} {h : m_H} : m_stp X call (.idiv, len, a, b) pc lv st h = ((match st with
    | .int y :: .int x :: r => if y = 0 then none else m_nx (pc + len) lv (.int (x / y) :: r) h
    | _ => none)) := rfl
theorem m_s_irem {X : Nat → List Int32} {call : Nat → List Value → m_H → Option m_R} {len : Nat} {a : Int} {b pc : Nat} {lv : m_L} {st : List Value} {h : m_H} : m_stp X call (.irem, len, a, b) pc lv st h = ((match st with
    | .int y :: .int x :: r => if y = 0 then none else m_nx (pc + len) lv (.int (x - x / y * y) :: r) h
    | _ => none)) := rfl
theorem m_s_ishl {X : Nat → List Int32} {call : Nat → List Value → m_H → Option m_R} {len : Nat} {a : Int} {b pc : Nat} {lv : m_L} {st : List Value} {h : m_H} : m_stp X call (.ishl, len, a, b) pc lv st h = ((match st with
    | .int y :: .int x :: r => m_nx (pc + len) lv (.int (x <<< (y &&& 31)) :: r) h
    | _ => none)) := rfl
theorem m_s_ishr {X : Nat → List Int32} {call : Nat → List Value → m_H → Option m_R} {len : Nat} {a : Int} {b pc : Nat} {lv : m_L} {st : List Value} {h : m_H} : m_stp X call (.ishr, len, a, b) pc lv st h = ((match st with
    | .int y :: .int x :: r => m_nx (pc + len) lv (.int (x >>> (y &&& 31)) :: r) h
    | _ => none)) := rfl
theorem m_s_iushr {X : Nat → List Int32} {call : Nat → List Value → m_H → Option m_R} {len : Nat} {a : Int} {b pc : Nat} {lv : m_L} {st : List Value} {h : m_H} : m_stp X call (.iushr, len, a, b) pc lv st h = ((match st with
    | .int y :: .int x :: r => m_nx (pc + len) lv (.int ((x.toUInt32 >>> (y.toUInt32 &&& Int32.toUInt32 31)).toInt32) :: r) h
    | _ => none)) := rfl
theorem m_s_land {X : Nat → List Int32} {call : Nat → List Value → m_H → Option m_R} {len : Nat} {a : Int} {b pc : Nat} {lv : m_L} {st : List Value} {h : m_H} : m_stp X call (.land, len, a, b) pc lv st h = ((match st with
    | .long y :: .long x :: r => m_nx (pc + len) lv (.long (x &&& y) :: r) h
    | _ => none)) := rfl
theorem m_s_lor {X : Nat → List Int32} {call : Nat → List Value → m_H → Option m_R} {len : Nat} {a : Int} {b pc : Nat} {lv : m_L} {st : List Value} {h : m_H} : m_stp X call (.lor, len, a, b) pc lv st h = ((match st with
    | .long y :: .long x :: r => m_nx (pc + len) lv (.long (x ||| y) :: r) h
    | _ => none)) := rfl
theorem m_s_lshl {X : Nat → List Int32} {call : Nat → List Value → m_H → Option m_R} {len : Nat} {a : Int} {b pc : Nat} {lv : m_L} {st : List Value} {h : m_H} : m_stp X call (.lshl, len, a, b) pc lv st h = ((match st with
    | .int y :: .long x :: r => m_nx (pc + len) lv (.long (x <<< (y.toInt64 &&& 63)) :: r) h
    | _ => none)) := rfl
theorem m_s_lshr {X : Nat → List Int32} {call : Nat → List Value → m_H → Option m_R} {len : Nat} {a : Int} {b pc : Nat} {lv : m_L} {st : List Value} {h : m_H} : m_stp X call (.lshr, len, a, b) pc lv st h = ((match st with
    | .int y :: .long x :: r => m_nx (pc + len) lv (.long (x >>> (y.toInt64 &&& 63)) :: r) h
    | _ => none)) := rfl
theorem m_s_lushr {X : Nat → List Int32} {call : Nat → List Value → m_H → Option m_R} {len : Nat} {a : Int} {b pc : Nat} {lv : m_L} {st : List Value} {h : m_H} : m_stp X call (.lushr, len, a, b) pc lv st h = ((match st with
    | .int y :: .long x :: r => m_nx (pc + len) lv (.long ((x.toUInt64 >>> (y.toInt64.toUInt64 &&& Int64.toUInt64 63)).toInt64) :: r) h
    | _ => none)) := rfl
theorem m_s_ineg {X : Nat → List Int32} {call : Nat → List Value → m_H → Option m_R} {len : Nat} {a : Int} {b pc : Nat} {lv : m_L} {st : List Value} {h : m_H} : m_stp X call (.ineg, len, a, b) pc lv st h = ((match st with
    | .int x :: r => m_nx (pc + len) lv (.int (-x) :: r) h
    | _ => none)) := rfl
theorem m_s_i2l {X : Nat → List Int32} {call : Nat → List Value → m_H → Option m_R} {len : Nat} {a : Int} {b pc : Nat} {lv : m_L} {st : List Value} {h : m_H} : m_stp X call (.i2l, len, a, b) pc lv st h = ((match st with
    | .int x :: r => m_nx (pc + len) lv (.long (x.toInt64) :: r) h
    | _ => none)) := rfl
theorem m_s_l2i {X : Nat → List Int32} {call : Nat → List Value → m_H → Option m_R} {len : Nat} {a : Int} {b pc : Nat} {lv : m_L} {st : List Value} {h : m_H} : m_stp X call (.l2i, len, a, b) pc lv st h = ((match st with
    | .long x :: r => m_nx (pc + len) lv (.int (x.toInt32) :: r) h
    | _ => none)) := rfl
theorem m_s_dup {X : Nat → List Int32} {call : Nat → List Value → m_H → Option m_R} {len : Nat} {a : Int} {b pc : Nat} {lv : m_L} {st : List Value} {h : m_H} : m_stp X call (.dup, len, a, b) pc lv st h = ((match st with
    | .int x :: r => m_nx (pc + len) lv (.int x :: .int x :: r) h
    | .ref x :: r => m_nx (pc + len) lv (.ref x :: .ref x :: r) h
    | _ => none)) := rfl
theorem m_s_dup2 {X : Nat → List Int32} {call : Nat → List Value → m_H → Option m_R} {len : Nat} {a : Int} {b pc : Nat} {lv : m_L} {st : List Value} {h : m_H} : m_stp X call (.dup2, len, a, b) pc lv st h = ((match st with
    | .int x :: .ref y :: r => m_nx (pc + len) lv (.int x :: .ref y :: .int x :: .ref y :: r) h
    | _ => none)) := rfl
theorem m_s_pop {X : Nat → List Int32} {call : Nat → List Value → m_H → Option m_R} {len : Nat} {a : Int} {b pc : Nat} {lv : m_L} {st : List Value} {h : m_H} : m_stp X call (.pop, len, a, b) pc lv st h = ((match st with
    | .int _ :: r => m_nx (pc + len) lv r h
    | _ => none)) := rfl
theorem m_s_ifCond_eq {X : Nat → List Int32} {call : Nat → List Value → m_H → Option m_R} {len : Nat} {a : Int} {b pc : Nat} {lv : m_L} {st : List Value} {h : m_H} (q : Int) : m_stp X call (.ifCond .eq q, len, a, b) pc lv st h = ((match st with
    | .int x :: r => if x = 0 then m_nx a.toNat lv r h else m_nx (pc + len) lv r h
    | _ => none)) := rfl
theorem m_s_ifCond_ne {X : Nat → List Int32} {call : Nat → List Value → m_H → Option m_R} {len : Nat} {a : Int} {b pc : Nat} {lv : m_L} {st : List Value} {h : m_H} (q : Int) : m_stp X call (.ifCond .ne q, len, a, b) pc lv st h = ((match st with
    | .int x :: r => if x = 0 then m_nx (pc + len) lv r h else m_nx a.toNat lv r h
    | _ => none)) := rfl
theorem m_s_ifCond_lt {X : Nat → List Int32} {call : Nat → List Value → m_H → Option m_R} {len : Nat} {a : Int} {b pc : Nat} {lv : m_L} {st : List Value} {h : m_H} (q : Int) : m_stp X call (.ifCond .lt q, len, a, b) pc lv st h = ((match st with
    | .int x :: r => if x < 0 then m_nx a.toNat lv r h else m_nx (pc + len) lv r h
    | _ => none)) := rfl
theorem m_s_ifCond_ge {X : Nat → List Int32} {call : Nat → List Value → m_H → Option m_R} {len : Nat} {a : Int} {b pc : Nat} {lv : m_L} {st : List Value} {h : m_H} (q : Int) : m_stp X call (.ifCond .ge q, len, a, b) pc lv st h = ((match st with
    | .int x :: r => if 0 ≤ x then m_nx a.toNat lv r h else m_nx (pc + len) lv r h
    | _ => none)) := rfl
theorem m_s_ifCond_gt {X : Nat → List Int32} {call : Nat → List Value → m_H → Option m_R} {len : Nat} {a : Int} {b pc : Nat} {lv : m_L} {st : List Value} {h : m_H} (q : Int) : m_stp X call (.ifCond .gt q, len, a, b) pc lv st h = ((match st with
    | .int x :: r => if 0 < x then m_nx a.toNat lv r h else m_nx (pc + len) lv r h
    | _ => none)) := rfl
theorem m_s_ifCond_le {X : Nat → List Int32} {call : Nat → List Value → m_H → Option m_R} {len : Nat} {a : Int} {b pc : Nat} {lv : m_L} {st : List Value} {h : m_H} (q : Int) : m_stp X call (.ifCond .le q, len, a, b) pc lv st h = ((match st with
    | .int x :: r => if x ≤ 0 then m_nx a.toNat lv r h else m_nx (pc + len) lv r h
    | _ => none)) := rfl
theorem m_s_if_icmp_eq {X : Nat → List Int32} {call : Nat → List Value → m_H → Option m_R} {len : Nat} {a : Int} {b pc : Nat} {lv : m_L} {st : List Value} {h : m_H} (q : Int) : m_stp X call (.if_icmp .eq q, len, a, b) pc lv st h = ((match st with
    | .int y :: .int x :: r => if x = y then m_nx a.toNat lv r h else m_nx (pc + len) lv r h
    | _ => none)) := rfl
theorem m_s_if_icmp_ne {X : Nat → List Int32} {call : Nat → List Value → m_H → Option m_R} {len : Nat} {a : Int} {b pc : Nat} {lv : m_L} {st : List Value} {h : m_H} (q : Int) : m_stp X call (.if_icmp .ne q, len, a, b) pc lv st h = ((match st with
    | .int y :: .int x :: r => if x = y then m_nx (pc + len) lv r h else m_nx a.toNat lv r h
    | _ => none)) := rfl
theorem m_s_if_icmp_lt {X : Nat → List Int32} {call : Nat → List Value → m_H → Option m_R} {len : Nat} {a : Int} {b pc : Nat} {lv : m_L} {st : List Value} {h : m_H} (q : Int) : m_stp X call (.if_icmp .lt q, len, a, b) pc lv st h = ((match st with
    | .int y :: .int x :: r => if x < y then m_nx a.toNat lv r h else m_nx (pc + len) lv r h
    | _ => none)) := rfl
theorem m_s_if_icmp_ge {X : Nat → List Int32} {call : Nat → List Value → m_H → Option m_R} {len : Nat} {a : Int} {b pc : Nat} {lv : m_L} {st : List Value} {h : m_H} (q : Int) : m_stp X call (.if_icmp .ge q, len, a, b) pc lv st h = ((match st with
    | .int y :: .int x :: r => if y ≤ x then m_nx a.toNat lv r h else m_nx (pc + len) lv r h
    | _ => none)) := rfl
theorem m_s_if_icmp_gt {X : Nat → List Int32} {call : Nat → List Value → m_H → Option m_R} {len : Nat} {a : Int} {b pc : Nat} {lv : m_L} {st : List Value} {h : m_H} (q : Int) : m_stp X call (.if_icmp .gt q, len, a, b) pc lv st h = ((match st with
    | .int y :: .int x :: r => if y < x then m_nx a.toNat lv r h else m_nx (pc + len) lv r h
    | _ => none)) := rfl
theorem m_s_if_icmp_le {X : Nat → List Int32} {call : Nat → List Value → m_H → Option m_R} {len : Nat} {a : Int} {b pc : Nat} {lv : m_L} {st : List Value} {h : m_H} (q : Int) : m_stp X call (.if_icmp .le q, len, a, b) pc lv st h = ((match st with
    | .int y :: .int x :: r => if x ≤ y then m_nx a.toNat lv r h else m_nx (pc + len) lv r h
    | _ => none)) := rfl
theorem m_s_ifnull {X : Nat → List Int32} {call : Nat → List Value → m_H → Option m_R} {len : Nat} {a : Int} {b pc : Nat} {lv : m_L} {st : List Value} {h : m_H} (q : Int) : m_stp X call (.ifnull q, len, a, b) pc lv st h = ((match st with
    | .null :: r => m_nx a.toNat lv r h
    | .ref _ :: r => m_nx (pc + len) lv r h
    | _ => none)) := rfl
theorem m_s_ifnonnull {X : Nat → List Int32} {call : Nat → List Value → m_H → Option m_R} {len : Nat} {a : Int} {b pc : Nat} {lv : m_L} {st : List Value} {h : m_H} (q : Int) : m_stp X call (.ifnonnull q, len, a, b) pc lv st h = ((match st with
    | .null :: r => m_nx (pc + len) lv r h
    | .ref _ :: r => m_nx a.toNat lv r h
    | _ => none)) := rfl
theorem m_s_goto {X : Nat → List Int32} {call : Nat → List Value → m_H → Option m_R} {len : Nat} {a : Int} {b pc : Nat} {lv : m_L} {st : List Value} {h : m_H} (q : Int) : m_stp X call (.goto q, len, a, b) pc lv st h = (m_nx a.toNat lv st h) := rfl
theorem m_s_tableswitch {X : Nat → List Int32} {call : Nat → List Value → m_H → Option m_R} {len : Nat} {a : Int} {b pc : Nat} {lv : m_L} {st : List Value} {h : m_H} (d : Int) (lo : Int) (hi : Int) (offs : Array Int) : m_stp X call (.tableswitch d lo hi offs, len, a, b) pc lv st h = ((match st with
    | .int x :: r => if x.toInt < lo ∨ hi < x.toInt then (match m_go pc d with
      | some t => m_nx t lv r h
      | none => none) else (match m_nth offs.toList (x.toInt - lo).toNat with
      | some off => (match m_go pc off with
        | some t => m_nx t lv r h
        | none => none)
      | none => none)
    | _ => none)) := rfl
theorem m_s_lookupswitch {X : Nat → List Int32} {call : Nat → List Value → m_H → Option m_R} {len : Nat} {a : Int} {b pc : Nat} {lv : m_L} {st : List Value} {h : m_H} (d : Int) (ps : Array (Int × Int)) : m_stp X call (.lookupswitch d ps, len, a, b) pc lv st h = ((match st with
    | .int x :: r => (match m_go pc (Op.lookupswitch.offset ps.toList d x.toInt) with
      | some t => m_nx t lv r h
      | none => none)
    | _ => none)) := rfl
theorem m_s_getfield {X : Nat → List Int32} {call : Nat → List Value → m_H → Option m_R} {len : Nat} {a : Int} {b pc : Nat} {lv : m_L} {st : List Value} {h : m_H} (q : Nat) : m_stp X call (.getfield q, len, a, b) pc lv st h = ((match st with
    | .ref k :: r => (match m_ob h k with
      | some (t, vs) => if t = b then (match m_nth vs (a.toNat % 100) with
        | some (.int x) => m_nx (pc + len) lv (.int x :: r) h
        | some (.ref x) => m_nx (pc + len) lv (.ref x :: r) h
        | some .null => m_nx (pc + len) lv (.null :: r) h
        | _ => none) else none
      | none => none)
    | _ => none)) := rfl
theorem m_s_putfield {X : Nat → List Int32} {call : Nat → List Value → m_H → Option m_R} {len : Nat} {a : Int} {b pc : Nat} {lv : m_L} {st : List Value} {h : m_H} (q : Nat) : m_stp X call (.putfield q, len, a, b) pc lv st h = ((match st with
    | v :: .ref k :: r => (match m_ob h k with
      | some (t, vs) => if t = b ∧ a.toNat % 100 < vs.length ∧ m_fit (a.toNat / 100) v = true then m_nx (pc + len) lv r (h.set k (t, vs.set (a.toNat % 100) v)) else none
      | none => none)
    | _ => none)) := rfl
theorem m_s_getstatic {X : Nat → List Int32} {call : Nat → List Value → m_H → Option m_R} {len : Nat} {a : Int} {b pc : Nat} {lv : m_L} {st : List Value} {h : m_H} (q : Nat) : m_stp X call (.getstatic q, len, a, b) pc lv st h = (m_nx (pc + len) lv (.ref (1000000 + b) :: st) h) := rfl
theorem m_s_new {X : Nat → List Int32} {call : Nat → List Value → m_H → Option m_R} {len : Nat} {a : Int} {b pc : Nat} {lv : m_L} {st : List Value} {h : m_H} (q : Nat) : m_stp X call (.new q, len, a, b) pc lv st h = ((match m_add h b (m_dfl b) with
    | some h' => m_nx (pc + len) lv (.ref h.length :: st) h'
    | none => none)) := rfl
theorem m_s_newarray {X : Nat → List Int32} {call : Nat → List Value → m_H → Option m_R} {len : Nat} {a : Int} {b pc : Nat} {lv : m_L} {st : List Value} {h : m_H} (q : ArrayType) : m_stp X call (.newarray q, len, a, b) pc lv st h = ((match st with
    | .int n :: r => (match m_ix n with
      | some w => if w ≤ 100000 then (match m_add h b (List.replicate w (.int 0)) with
        | some h' => m_nx (pc + len) lv (.ref h.length :: r) h'
        | none => none) else none
      | none => none)
    | _ => none)) := rfl
theorem m_s_anewarray {X : Nat → List Int32} {call : Nat → List Value → m_H → Option m_R} {len : Nat} {a : Int} {b pc : Nat} {lv : m_L} {st : List Value} {h : m_H} (q : Nat) : m_stp X call (.anewarray q, len, a, b) pc lv st h = ((match st with
    | .int n :: r => (match m_ix n with
      | some w => if w ≤ 100000 then (match m_add h b (List.replicate w .null) with
        | some h' => m_nx (pc + len) lv (.ref h.length :: r) h'
        | none => none) else none
      | none => none)
    | _ => none)) := rfl
theorem m_s_arraylength {X : Nat → List Int32} {call : Nat → List Value → m_H → Option m_R} {len : Nat} {a : Int} {b pc : Nat} {lv : m_L} {st : List Value} {h : m_H} : m_stp X call (.arraylength, len, a, b) pc lv st h = ((match st with
    | .ref k :: r => (match m_ln X h k with
      | some n => m_nx (pc + len) lv (.int n :: r) h
      | none => none)
    | _ => none)) := rfl
theorem m_s_iaload {X : Nat → List Int32} {call : Nat → List Value → m_H → Option m_R} {len : Nat} {a : Int} {b pc : Nat} {lv : m_L} {st : List Value} {h : m_H} : m_stp X call (.iaload, len, a, b) pc lv st h = ((match st with
    | .int i :: .ref k :: r => (match m_el X h 20 k i with
      | some (.int x) => m_nx (pc + len) lv (.int x :: r) h
      | _ => none)
    | _ => none)) := rfl
theorem m_s_baload {X : Nat → List Int32} {call : Nat → List Value → m_H → Option m_R} {len : Nat} {a : Int} {b pc : Nat} {lv : m_L} {st : List Value} {h : m_H} : m_stp X call (.baload, len, a, b) pc lv st h = ((match st with
    | .int i :: .ref k :: r => (match m_el X h 21 k i with
      | some (.int x) => m_nx (pc + len) lv (.int x :: r) h
      | _ => none)
    | _ => none)) := rfl
theorem m_s_aaload {X : Nat → List Int32} {call : Nat → List Value → m_H → Option m_R} {len : Nat} {a : Int} {b pc : Nat} {lv : m_L} {st : List Value} {h : m_H} : m_stp X call (.aaload, len, a, b) pc lv st h = ((match st with
    | .int i :: .ref k :: r => (match m_ob h k, m_ix i with
      | some (t, vs), some j => if 22 ≤ t ∧ t ≤ 26 then (match m_nth vs j with
        | some (.ref x) => m_nx (pc + len) lv (.ref x :: r) h
        | some .null => m_nx (pc + len) lv (.null :: r) h
        | _ => none) else none
      | _, _ => none)
    | _ => none)) := rfl
theorem m_s_iastore {X : Nat → List Int32} {call : Nat → List Value → m_H → Option m_R} {len : Nat} {a : Int} {b pc : Nat} {lv : m_L} {st : List Value} {h : m_H} : m_stp X call (.iastore, len, a, b) pc lv st h = ((match st with
    | .int x :: .int i :: .ref k :: r => (match m_se h 20 k i (.int x) with
      | some h' => m_nx (pc + len) lv r h'
      | none => none)
    | _ => none)) := rfl
theorem m_s_bastore {X : Nat → List Int32} {call : Nat → List Value → m_H → Option m_R} {len : Nat} {a : Int} {b pc : Nat} {lv : m_L} {st : List Value} {h : m_H} : m_stp X call (.bastore, len, a, b) pc lv st h = ((match st with
    | .int x :: .int i :: .ref k :: r => if x = 0 ∨ x = 1 then (match m_se h 21 k i (.int x) with
      | some h' => m_nx (pc + len) lv r h'
      | none => none) else none
    | _ => none)) := rfl
theorem m_s_aastore {X : Nat → List Int32} {call : Nat → List Value → m_H → Option m_R} {len : Nat} {a : Int} {b pc : Nat} {lv : m_L} {st : List Value} {h : m_H} : m_stp X call (.aastore, len, a, b) pc lv st h = ((match st with
    | v :: .int i :: .ref k :: r => (match m_ob h k, m_ix i with
      | some (t, vs), some j => if 22 ≤ t ∧ t ≤ 26 ∧ j < vs.length ∧ m_asg h t v = true then m_nx (pc + len) lv r (h.set k (t, vs.set j v)) else none
      | _, _ => none)
    | _ => none)) := rfl
theorem m_s_invokevirtual {X : Nat → List Int32} {call : Nat → List Value → m_H → Option m_R} {len : Nat} {a : Int} {b pc : Nat} {lv : m_L} {st : List Value} {h : m_H} (q : Nat) : m_stp X call (.invokevirtual q, len, a, b) pc lv st h = ((match st.drop b with
    | .ref k :: r => (match m_ob h k with
      | some (t, _) => if t = m_oc a.toNat ∧ r.length ≤ 4 ∧ b ≤ st.length then (match call a.toNat (.ref k :: (st.take b).reverse) h with
        | some (v, h') => m_nx (pc + len) lv (v.toList ++ r) h'
        | none => none) else none
      | none => none)
    | _ => none)) := rfl
theorem m_s_invokestatic {X : Nat → List Int32} {call : Nat → List Value → m_H → Option m_R} {len : Nat} {a : Int} {b pc : Nat} {lv : m_L} {st : List Value} {h : m_H} (q : Nat) : m_stp X call (.invokestatic q, len, a, b) pc lv st h = (if a.toNat = 9999 then (match st with
    | .int n :: .int dp :: .ref q :: .int sp :: .ref k :: r => (match m_acp h k sp q dp n with
      | some h' => if r.length ≤ 4 then m_nx (pc + len) lv r h' else none
      | none => none)
    | _ => none) else if (st.drop b).length ≤ 4 ∧ b ≤ st.length then (match call a.toNat (st.take b).reverse h with
      | some (v, h') => m_nx (pc + len) lv (v.toList ++ st.drop b) h'
      | none => none) else none) := rfl
theorem m_s_invokespecial {X : Nat → List Int32} {call : Nat → List Value → m_H → Option m_R} {len : Nat} {a : Int} {b pc : Nat} {lv : m_L} {st : List Value} {h : m_H} (q : Nat) : m_stp X call (.invokespecial q, len, a, b) pc lv st h = (if a.toNat = 9998 then (match st with
    | .ref _ :: r => if r.length ≤ 4 then m_nx (pc + len) lv r h else none
    | _ => none) else (match st.drop b with
    | .ref k :: r => if r.length ≤ 4 ∧ b ≤ st.length ∧ k < 1000000 then (match call a.toNat (.ref k :: (st.take b).reverse) h with
        | some (v, h') => m_nx (pc + len) lv (v.toList ++ r) h'
        | none => none) else none
    | _ => none)) := rfl
theorem m_s_ireturn {X : Nat → List Int32} {call : Nat → List Value → m_H → Option m_R} {len : Nat} {a : Int} {b pc : Nat} {lv : m_L} {st : List Value} {h : m_H} : m_stp X call (.ireturn, len, a, b) pc lv st h = ((match st with
    | [.int x] => if b = 0 ∨ x = 0 ∨ x = 1 then some (.inr (some (.int x), h)) else none
    | _ => none)) := rfl
theorem m_s_areturn {X : Nat → List Int32} {call : Nat → List Value → m_H → Option m_R} {len : Nat} {a : Int} {b pc : Nat} {lv : m_L} {st : List Value} {h : m_H} : m_stp X call (.areturn, len, a, b) pc lv st h = ((match st with
    | [.ref x] => some (.inr (some (.ref x), h))
    | [.null] => some (.inr (some .null, h))
    | _ => none)) := rfl
theorem m_s_return_ {X : Nat → List Int32} {call : Nat → List Value → m_H → Option m_R} {len : Nat} {a : Int} {b pc : Nat} {lv : m_L} {st : List Value} {h : m_H} : m_stp X call (.return_, len, a, b) pc lv st h = ((match st with
    | [] => some (.inr (none, h))
    | _ => none)) := rfl
end
section
/-! the plain heap and the machine's -/
abbrev m_AE : Type := Nat × (Nat → Nat)
def m_rl (E : m_AE) (k : Nat) : Nat := if k < 1000000 then E.1 + k else E.2 (k - 1000000)
def m_rv (E : m_AE) : Value → Value
  | .ref k => .ref (m_rl E k)
  | v => v
def m_rq (E : m_AE) (q : Nat × Value) : Nat × Value := (q.1, m_rv E q.2)
def m_i1 : Value → Int32
  | .int x => x
  | _ => 0
def m_or (E : m_AE) : Value → Option Nat
  | .ref k => some (m_rl E k)
  | _ => none
def m_cell (E : m_AE) (ty : Nat → ClassId) (c : Nat × List Value) : va_E :=
  if c.1 < 20 then .inr (c.1, c.2.map (m_rv E))
  else if c.1 < 22 then .inl (ty (c.1 - 20), c.2.length, .inl (fun j => m_i1 (c.2.getD j (.int 0))))
  else .inl (ty (c.1 - 20), c.2.length, .inr (.inr (.inr (.inr (fun j => m_or E (c.2.getD j .null))))))
def m_tys (ty : Nat → ClassId) : List (ClassId × FieldType) := [(ty 0, .int), (ty 1, .boolean), (ty 2, .object "WayBoxes$Text"), (ty 3, .object "WayBoxes$Box"), (ty 4, .object "WayBoxes$Packet"), (ty 5, .object "WayBoxes$Memory"), (ty 6, .object "WayBoxes$Watch")]
def m_ws (E : m_AE) (ty : Nat → ClassId) (h : m_H) : va_W := h.mapIdx (fun k c => (E.1 + k, m_cell E ty c))
def m_A (E : m_AE) : Nat → Prop := fun q => E.1 ≤ q
def m_sz (h : m_H) : Nat := (h.map (fun c => c.2.length)).sum
theorem m_ws_get (E : m_AE) (ty : Nat → ClassId) (h : m_H) (k : Nat) : (m_ws E ty h)[k]? = (h[k]?).map (fun c => (E.1 + k, m_cell E ty c)) := by
  simp [m_ws, List.getElem?_mapIdx]
theorem m_ws_at {E : m_AE} {ty : Nat → ClassId} {h : m_H} {k : Nat} {c : Nat × List Value} (hk : m_nth h k = some c) : (m_ws E ty h)[k]? = some (E.1 + k, m_cell E ty c) := by
  rw [m_ws_get, ← m_nth_eq, hk]
  rfl
theorem m_ws_len (E : m_AE) (ty : Nat → ClassId) (h : m_H) : (m_ws E ty h).length = h.length := by simp [m_ws]
theorem m_ws_set (E : m_AE) (ty : Nat → ClassId) (h : m_H) (k : Nat) (c : Nat × List Value) : m_ws E ty (h.set k c) = (m_ws E ty h).set k (E.1 + k, m_cell E ty c) := by
  apply List.ext_getElem?
  intro j
  rw [m_ws_get, List.getElem?_set, List.getElem?_set, m_ws_get, m_ws_len]
  by_cases hk : k = j
  · subst hk
    by_cases hl : k < h.length <;> simp [hl]
  · simp [hk]
theorem m_ws_add (E : m_AE) (ty : Nat → ClassId) (h : m_H) (c : Nat × List Value) : m_ws E ty (h ++ [c]) = m_ws E ty h ++ [(E.1 + h.length, m_cell E ty c)] := by
  apply List.ext_getElem?
  intro j
  rw [m_ws_get, List.getElem?_append, List.getElem?_append, m_ws_get, m_ws_len]
  by_cases hl : j < h.length
  · simp [hl]
  · by_cases h2 : j = h.length
    · subst h2
      simp
    · have h3 : 1 ≤ j - h.length := by omega
      rw [if_neg hl, if_neg hl, List.getElem?_eq_none (by simpa using h3), List.getElem?_eq_none (by simpa using h3)]
      rfl
theorem m_ws_D (E : m_AE) (ty : Nat → ClassId) (h : m_H) : va_D (m_A E) (m_ws E ty h) := by
  refine ⟨fun i j p q hi hj hpq => ?_, fun k q hk => ?_⟩
  · rw [m_ws_get] at hi hj
    obtain ⟨c, -, rfl⟩ := Option.map_eq_some_iff.mp hi
    obtain ⟨c', -, rfl⟩ := Option.map_eq_some_iff.mp hj
    have : E.1 + i = E.1 + j := hpq
    omega
  · rw [m_ws_get] at hk
    obtain ⟨c, -, rfl⟩ := Option.map_eq_some_iff.mp hk
    exact Nat.le_add_right _ _
theorem m_ob_nth {h : m_H} {k : Nat} {c : Nat × List Value} (hk : m_ob h k = some c) : k < 1000000 ∧ m_nth h k = some c := by
  unfold m_ob at hk
  split at hk
  · rename_i h1
    exact ⟨h1, hk⟩
  · cases hk
theorem m_rl_in (E : m_AE) {k : Nat} (h : k < 1000000) : m_rl E k = E.1 + k := if_pos h
theorem m_rv_cat (E : m_AE) (v : Value) : (m_rv E v).category = v.category := by cases v <;> rfl
theorem m_lat {E : m_AE} {ls : Array Slot} {n : Nat} {lv : m_L} {i : Nat} {v : Value} (hl : lv_has ls n (lv.map (m_rq E))) (h : m_lg lv i = some v) : ls[i]? = some (.val (m_rv E v)) :=
  hl.2.2 (i, m_rv E v) (List.mem_map.mpr ⟨(i, v), m_lg_mem h, rfl⟩)
theorem m_lmem {E : m_AE} {lv : m_L} {i : Nat} {v : Value} (h : m_lg lv i = some v) : ∃ k : Nat, (lv.map (m_rq E))[k]? = some (i, m_rv E v) :=
  List.getElem?_of_mem (List.mem_map.mpr ⟨(i, v), m_lg_mem h, rfl⟩)
theorem m_st_map (E : m_AE) (lv : m_L) (i : Nat) (v : Value) : (i, m_rv E v) :: (lv.map (m_rq E)).filter (fun q => !(q.1 == i) && !(q.1 + 1 == i && q.2.category == 2)) = (m_st lv i v).map (m_rq E) := by
  rw [List.filter_map]
  simp only [m_st, List.map_cons]
  have e : ((fun q : Nat × Value => !(q.1 == i) && !(q.1 + 1 == i && q.2.category == 2)) ∘ m_rq E) = fun q : Nat × Value => !(q.1 == i) && !(q.1 + 1 == i && q.2.category == 2) := by
    funext q
    simp [m_rq, m_rv_cat, Function.comp]
  rw [e]
  rfl
theorem m_sz_set {h : m_H} {k t t' : Nat} {us vs : List Value} (hk : m_nth h k = some (t, us)) (hl : vs.length = us.length) : m_sz (h.set k (t', vs)) = m_sz h := by
  induction h generalizing k with
  | nil => rfl
  | cons a r ih =>
    cases k with
    | zero =>
      cases hk
      simp [m_sz, hl]
    | succ k =>
      have := ih (k := k) hk
      simp only [m_sz, List.set_cons_succ, List.map_cons, List.sum_cons] at this ⊢
      rw [this]
theorem m_sz_add (h : m_H) (t : Nat) (vs : List Value) : m_sz (h ++ [(t, vs)]) = m_sz h + vs.length := by simp [m_sz]
theorem m_nth_lt {α : Type} {l : List α} {k : Nat} {a : α} (h : m_nth l k = some a) : k < l.length := by
  rw [m_nth_eq] at h
  exact (List.getElem?_eq_some_iff.mp h).1
/-- what the tables say of the classes, wherever the machine is -/
def m_Kn (D : va_G) (ty : Nat → ClassId) (U : State) : Prop := va_K D vwCl (m_tys ty) U ∧ (∀ w ∈ m_nw, va_Nw w U) ∧ ∀ C ∈ m_ao, va_AO C U
/-- the script and the constant rows -/
def m_Ex (E : m_AE) (X : Nat → List Int32) (U : State) (H : Heap) : Prop := (∀ j, j < 3 → va_T .int (E.2 j) (X j).length (fun k => .int ((X j).getD k 0)) (m_A E) U H) ∧ ∀ j, j = 1 ∨ j = 2 → va_Z m_host (m_sn j) "[I" (.ref (E.2 j)) (m_A E) U H
/-- the machine's heap holds the plain one -/
def m_B (E : m_AE) (D : va_G) (ty : Nat → ClassId) (X : Nat → List Int32) (h : m_H) (U : State) : Prop := U.heap.size = E.1 + h.length ∧ va_P D vwCl (m_ws E ty h) U.heap ∧ m_Kn D ty U ∧ m_Ex E X U U.heap
theorem m_nw_shape {w : Cond} (hw : w ∈ m_nw) : (∃ a i b n d h, w = .fieldLinkNest a i b n d h) ∨ ∃ a i x h, w = .methodLinkNest a i x h := by
  simp only [m_nw, List.mem_append, List.mem_map] at hw
  rcases hw with ((⟨e, -, rfl⟩ | ⟨e, -, rfl⟩) | ⟨e, -, rfl⟩) | ⟨e, -, rfl⟩
  · exact Or.inl ⟨_, _, _, _, _, _, rfl⟩
  · exact Or.inl ⟨_, _, _, _, _, _, rfl⟩
  · exact Or.inr ⟨_, _, _, _, rfl⟩
  · exact Or.inr ⟨_, _, _, _, rfl⟩
theorem m_nw_tab {w : Cond} (hw : w ∈ m_nw) : w.onTables = true := by
  rcases m_nw_shape hw with ⟨a, i, b, n, d, h, rfl⟩ | ⟨a, i, x, h, rfl⟩ <;> rfl
theorem m_Kn.warm {D : va_G} {ty : Nat → ClassId} {s U : State} (h : m_Kn D ty s) (hW : s.WarmedH U.vm) : m_Kn D ty U := by
  refine ⟨va_K.moved hW.alike h.1, fun w hw => ?_, fun C hC => va_AO.moved hW.alike (h.2.2 C hC)⟩
  have h1 := h.2.1 w hw
  rcases m_nw_shape hw with ⟨a, i, b, n, d, h, rfl⟩ | ⟨a, i, x, h, rfl⟩
  · exact va_Nw.warmF hW h1
  · exact va_Nw.warmM hW h1
theorem m_Kn.same {D : va_G} {ty : Nat → ClassId} {u U : State} (h : m_Kn D ty u) (hv : u.vm = U.vm) : m_Kn D ty U := by
  have ha : u.vm.Alike U.vm := by rw [hv]; exact Vm.Alike.refl _
  exact ⟨va_K.moved ha h.1, fun w hw => va_Nw.same (m_nw_tab hw) hv (h.2.1 w hw), fun C hC => va_AO.moved ha (h.2.2 C hC)⟩
theorem m_Ex.kept {E : m_AE} {X : Nat → List Int32} {u U : State} {H H1 : Heap} (h : m_Ex E X u H) (ha : u.vm.Alike U.vm) (hq : ∀ a : Nat, a < H.size → ¬ m_A E a → H1[a]? = H[a]?) : m_Ex E X U H1 :=
  ⟨fun j hj => ((h.1 j hj).moved ha).kept hq, fun j hj => ((h.2 j hj).moved ha).kept hq⟩
end
section
/-! ONE STEP of the small machine is steps of the machine -/
/-- what is fixed while a method runs: i its number, d how deep calls may go, n0, z0 how much there was at its start -/
def m_Fix (E : m_AE) (D : va_G) (ty : Nat → ClassId) (X : Nat → List Int32) (i d n0 : Nat) (p : Program) (R : Room) (s : State) (m : MethodId) (args : Array Value) (meth : Method) (c : Code) : Prop :=
  (p.tables.exec = Jvm.exec ∧ c.code = m_b i ∧ c.maxLocals = m_nl i ∧ s.vm.findClass (m_cn (m_oc i)) = some m.cls ∧ ∀ w ∈ lw_good, w.before args s = true) ∧ m_Kn D ty s ∧ m_Ex E X s s.heap ∧ s.heap.size = E.1 + n0 ∧ i < 182 ∧ ((m_y i).name = "<init>" → meth.name = "<init>") ∧ d + 1 ≤ R.frames ∧ 100 * (d + 1) ≤ R.locals
/-- at a place of the small machine the machine comes to Q, whatever heap holds the plain one -/
def m_At (E : m_AE) (D : va_G) (ty : Nat → ClassId) (i n0 z0 : Nat) (p : Program) (l : Launch) (e : Env) (R : Room) (s : State) (m : MethodId) (args : Array Value) (below : List Frame) (meth : Method) (c : Code) (Q : State → Prop) (C : m_C) : Prop :=
  ∀ (H : Heap) (locs : List Loc) (ls : Array Slot), va_P D vwCl (m_ws E ty C.2.2.2) H → va_S (m_A E) s.heap H locs → lv_has ls (m_nl i) (C.2.1.map (m_rq E)) → W p l e R s m args below meth c H locs (C.2.2.2.length - n0) (m_sz C.2.2.2 - z0) Q (F0 m C.1 ls (C.2.2.1.map (m_rv E)))
theorem m_ok_sp {i pc : Nat} {en : m_E} (h : m_ok i pc en = true) : decode (m_b i) pc = .ok (en.1, en.2.1) ∧ m_okI i pc en = true := by
  simp only [m_ok, Bool.and_eq_true, decide_eq_true_eq] at h
  exact h
theorem m_go_sp {pc t : Nat} {off : Int} (h : m_go pc off = some t) : (pc : Int) + off = (t : Int) := by
  unfold m_go at h
  split at h
  · cases h
    omega
  · cases h
theorem m_pk_in {o k : Nat} {v : Int} (h : (o, k, v) ∈ m_pk) : Cond.constant (m_cn o) k (Int32.ofInt v) ∈ lw_good := by
  have h1 := List.all_eq_true.mp m_pk_ok _ h
  dsimp only at h1
  exact m_has_in h1
theorem m_pl_in {o k : Nat} {v : Int} (h : (o, k, v) ∈ m_pl) : Cond.constantLong (m_cn o) k (Int64.ofInt v) ∈ lw_good := by
  have h1 := List.all_eq_true.mp m_pl_ok _ h
  dsimp only at h1
  exact m_has_in h1
theorem m_pf_in {o k f g : Nat} (h : (o, k, f, g) ∈ m_pf) : Cond.fieldLink (m_cn o) k (m_fd f g).1 (m_fd f g).2.1 (m_fd f g).2.2.1 ∈ lw_good ∧ f < 11 ∧ g < (m_cl f).2.2 := by
  obtain ⟨j, hj⟩ := m_zip m_pf_ln m_pf_ok h
  simp only [Bool.and_eq_true, decide_eq_true_eq] at hj
  exact ⟨m_hi_in hj.1, hj.2.1, hj.2.2⟩
theorem m_pfN_in {o k f g : Nat} (h : (o, k, f, g) ∈ m_pfN) : Cond.fieldLinkNest (m_cn o) k (m_fd f g).1 (m_fd f g).2.1 (m_fd f g).2.2.1 m_host ∈ m_nw ∧ f < 11 ∧ g < (m_cl f).2.2 := by
  have hj := List.all_eq_true.mp m_pfN_ok _ h
  simp only [Bool.and_eq_true, decide_eq_true_eq] at hj
  refine ⟨?_, hj⟩
  unfold m_nw
  exact List.mem_append_left _ (List.mem_append_left _ (List.mem_append_left _ (List.mem_map.mpr ⟨_, h, rfl⟩)))
theorem m_cell_o (E : m_AE) (ty : Nat → ClassId) {t : Nat} (h : t < 20) (vs : List Value) : m_cell E ty (t, vs) = .inr (t, vs.map (m_rv E)) := if_pos h
section STEP
variable {p : Program} {l : Launch} {e : Env} {R : Room} {s : State} {m : MethodId} {args : Array Value} {below : List Frame} {meth : Method} {c : Code} {Q : State → Prop}
variable {E : m_AE} {D : va_G} {ty : Nat → ClassId} {X : Nat → List Int32} {i d n0 z0 : Nat} {call : Nat → List Value → m_H → Option m_R} {len : Nat} {a : Int} {b pc : Nat} {lv : m_L} {st : List Value} {h : m_H} {C' : m_C}
theorem k_iconst (F : m_Fix E D ty X i d n0 p R s m args meth c) {q : Int} (hok : m_ok i pc (.iconst q, len, a, b) = true) (hs : m_stp X call (.iconst q, len, a, b) pc lv st h = some (.inl C'))
    (k : m_At E D ty i n0 z0 p l e R s m args below meth c Q C') : m_At E D ty i n0 z0 p l e R s m args below meth c Q (pc, lv, st, h) := by
  intro H locs ls hP hS hl
  obtain ⟨⟨hx, hb, hml, hown, hts⟩, hKn, hEx, hsz, hi, hini, hR⟩ := F
  obtain ⟨hdg, hI⟩ := m_ok_sp hok
  have e1 : len = 1 := of_decide_eq_true hI
  subst e1
  rw [m_s_iconst] at hs
  cases hs
  exact lv_iconst hx hb hdg rfl (k _ _ _ hP hS hl)
theorem k_bipush (F : m_Fix E D ty X i d n0 p R s m args meth c) {q : Int} (hok : m_ok i pc (.bipush q, len, a, b) = true) (hs : m_stp X call (.bipush q, len, a, b) pc lv st h = some (.inl C'))
    (k : m_At E D ty i n0 z0 p l e R s m args below meth c Q C') : m_At E D ty i n0 z0 p l e R s m args below meth c Q (pc, lv, st, h) := by
  intro H locs ls hP hS hl
  obtain ⟨⟨hx, hb, hml, hown, hts⟩, hKn, hEx, hsz, hi, hini, hR⟩ := F
  obtain ⟨hdg, hI⟩ := m_ok_sp hok
  have e1 : len = 2 := of_decide_eq_true hI
  subst e1
  rw [m_s_bipush] at hs
  cases hs
  exact lv_bipush hx hb hdg rfl (k _ _ _ hP hS hl)
theorem k_sipush (F : m_Fix E D ty X i d n0 p R s m args meth c) {q : Int} (hok : m_ok i pc (.sipush q, len, a, b) = true) (hs : m_stp X call (.sipush q, len, a, b) pc lv st h = some (.inl C'))
    (k : m_At E D ty i n0 z0 p l e R s m args below meth c Q C') : m_At E D ty i n0 z0 p l e R s m args below meth c Q (pc, lv, st, h) := by
  intro H locs ls hP hS hl
  obtain ⟨⟨hx, hb, hml, hown, hts⟩, hKn, hEx, hsz, hi, hini, hR⟩ := F
  obtain ⟨hdg, hI⟩ := m_ok_sp hok
  have e1 : len = 3 := of_decide_eq_true hI
  subst e1
  rw [m_s_sipush] at hs
  cases hs
  exact lv_sipush hx hb hdg rfl (k _ _ _ hP hS hl)
theorem k_ldc (F : m_Fix E D ty X i d n0 p R s m args meth c) {q : Nat} (hok : m_ok i pc (.ldc q, len, a, b) = true) (hs : m_stp X call (.ldc q, len, a, b) pc lv st h = some (.inl C'))
    (k : m_At E D ty i n0 z0 p l e R s m args below meth c Q C') : m_At E D ty i n0 z0 p l e R s m args below meth c Q (pc, lv, st, h) := by
  intro H locs ls hP hS hl
  obtain ⟨⟨hx, hb, hml, hown, hts⟩, hKn, hEx, hsz, hi, hini, hR⟩ := F
  obtain ⟨hdg, hI⟩ := m_ok_sp hok
  obtain ⟨e1, e2⟩ : len = 2 ∧ (m_oc i, q, a) ∈ m_pk := of_decide_eq_true hI
  subst e1
  rw [m_s_ldc] at hs
  cases hs
  exact lv_ldc hx hb hown (hts _ (m_pk_in e2)) hdg (k _ _ _ hP hS hl)
theorem k_ldc_w (F : m_Fix E D ty X i d n0 p R s m args meth c) {q : Nat} (hok : m_ok i pc (.ldc_w q, len, a, b) = true) (hs : m_stp X call (.ldc_w q, len, a, b) pc lv st h = some (.inl C'))
    (k : m_At E D ty i n0 z0 p l e R s m args below meth c Q C') : m_At E D ty i n0 z0 p l e R s m args below meth c Q (pc, lv, st, h) := by
  intro H locs ls hP hS hl
  obtain ⟨⟨hx, hb, hml, hown, hts⟩, hKn, hEx, hsz, hi, hini, hR⟩ := F
  obtain ⟨hdg, hI⟩ := m_ok_sp hok
  obtain ⟨e1, e2⟩ : len = 3 ∧ (m_oc i, q, a) ∈ m_pk := of_decide_eq_true hI
  subst e1
  rw [m_s_ldc_w] at hs
  cases hs
  exact lv_ldcw hx hb hown (hts _ (m_pk_in e2)) hdg (k _ _ _ hP hS hl)
theorem k_ldc2_w (F : m_Fix E D ty X i d n0 p R s m args meth c) {q : Nat} (hok : m_ok i pc (.ldc2_w q, len, a, b) = true) (hs : m_stp X call (.ldc2_w q, len, a, b) pc lv st h = some (.inl C'))
    (k : m_At E D ty i n0 z0 p l e R s m args below meth c Q C') : m_At E D ty i n0 z0 p l e R s m args below meth c Q (pc, lv, st, h) := by
  intro H locs ls hP hS hl
  obtain ⟨⟨hx, hb, hml, hown, hts⟩, hKn, hEx, hsz, hi, hini, hR⟩ := F
  obtain ⟨hdg, hI⟩ := m_ok_sp hok
  obtain ⟨e1, e2⟩ : len = 3 ∧ (m_oc i, q, a) ∈ m_pl := of_decide_eq_true hI
  subst e1
  rw [m_s_ldc2_w] at hs
  cases hs
  exact lv_ldc2 hx hb hown (hts _ (m_pl_in e2)) hdg (k _ _ _ hP hS hl)
theorem k_aconst_null (F : m_Fix E D ty X i d n0 p R s m args meth c) (hok : m_ok i pc (.aconst_null, len, a, b) = true) (hs : m_stp X call (.aconst_null, len, a, b) pc lv st h = some (.inl C'))
    (k : m_At E D ty i n0 z0 p l e R s m args below meth c Q C') : m_At E D ty i n0 z0 p l e R s m args below meth c Q (pc, lv, st, h) := by
  intro H locs ls hP hS hl
  obtain ⟨⟨hx, hb, hml, hown, hts⟩, hKn, hEx, hsz, hi, hini, hR⟩ := F
  obtain ⟨hdg, hI⟩ := m_ok_sp hok
  have e1 : len = 1 := of_decide_eq_true hI
  subst e1
  rw [m_s_aconst_null] at hs
  cases hs
  exact lv_null hx hb hdg (k _ _ _ hP hS hl)
theorem k_iload_n (F : m_Fix E D ty X i d n0 p R s m args meth c) {q : Fin 4} (hok : m_ok i pc (.iload_n q, len, a, b) = true) (hs : m_stp X call (.iload_n q, len, a, b) pc lv st h = some (.inl C'))
    (k : m_At E D ty i n0 z0 p l e R s m args below meth c Q C') : m_At E D ty i n0 z0 p l e R s m args below meth c Q (pc, lv, st, h) := by
  intro H locs ls hP hS hl
  obtain ⟨⟨hx, hb, hml, hown, hts⟩, hKn, hEx, hsz, hi, hini, hR⟩ := F
  obtain ⟨hdg, hI⟩ := m_ok_sp hok
  have e1 : len = 1 := of_decide_eq_true hI
  subst e1
  rw [m_s_iload_n] at hs
  split at hs
  · rename_i hg
    cases hs
    exact lv_iload_n hx hb hdg rfl (m_lat hl hg) (k _ _ _ hP hS hl)
  · cases hs
theorem k_iload (F : m_Fix E D ty X i d n0 p R s m args meth c) {q : Nat} (hok : m_ok i pc (.iload q, len, a, b) = true) (hs : m_stp X call (.iload q, len, a, b) pc lv st h = some (.inl C'))
    (k : m_At E D ty i n0 z0 p l e R s m args below meth c Q C') : m_At E D ty i n0 z0 p l e R s m args below meth c Q (pc, lv, st, h) := by
  intro H locs ls hP hS hl
  obtain ⟨⟨hx, hb, hml, hown, hts⟩, hKn, hEx, hsz, hi, hini, hR⟩ := F
  obtain ⟨hdg, hI⟩ := m_ok_sp hok
  have e1 : len = 2 := of_decide_eq_true hI
  subst e1
  rw [m_s_iload] at hs
  split at hs
  · rename_i hg
    cases hs
    exact lv_iload hx hb hdg (m_lat hl hg) (k _ _ _ hP hS hl)
  · cases hs
theorem k_lload_n (F : m_Fix E D ty X i d n0 p R s m args meth c) {q : Fin 4} (hok : m_ok i pc (.lload_n q, len, a, b) = true) (hs : m_stp X call (.lload_n q, len, a, b) pc lv st h = some (.inl C'))
    (k : m_At E D ty i n0 z0 p l e R s m args below meth c Q C') : m_At E D ty i n0 z0 p l e R s m args below meth c Q (pc, lv, st, h) := by
  intro H locs ls hP hS hl
  obtain ⟨⟨hx, hb, hml, hown, hts⟩, hKn, hEx, hsz, hi, hini, hR⟩ := F
  obtain ⟨hdg, hI⟩ := m_ok_sp hok
  have e1 : len = 1 := of_decide_eq_true hI
  subst e1
  rw [m_s_lload_n] at hs
  split at hs
  · rename_i hg
    cases hs
    exact lv_lload_n hx hb hdg rfl (m_lat hl hg) (k _ _ _ hP hS hl)
  · cases hs
theorem k_lload (F : m_Fix E D ty X i d n0 p R s m args meth c) {q : Nat} (hok : m_ok i pc (.lload q, len, a, b) = true) (hs : m_stp X call (.lload q, len, a, b) pc lv st h = some (.inl C'))
    (k : m_At E D ty i n0 z0 p l e R s m args below meth c Q C') : m_At E D ty i n0 z0 p l e R s m args below meth c Q (pc, lv, st, h) := by
  intro H locs ls hP hS hl
  obtain ⟨⟨hx, hb, hml, hown, hts⟩, hKn, hEx, hsz, hi, hini, hR⟩ := F
  obtain ⟨hdg, hI⟩ := m_ok_sp hok
  have e1 : len = 2 := of_decide_eq_true hI
  subst e1
  rw [m_s_lload] at hs
  split at hs
  · rename_i hg
    cases hs
    exact lv_lload hx hb hdg (m_lat hl hg) (k _ _ _ hP hS hl)
  · cases hs
theorem k_aload_n (F : m_Fix E D ty X i d n0 p R s m args meth c) {q : Fin 4} (hok : m_ok i pc (.aload_n q, len, a, b) = true) (hs : m_stp X call (.aload_n q, len, a, b) pc lv st h = some (.inl C'))
    (k : m_At E D ty i n0 z0 p l e R s m args below meth c Q C') : m_At E D ty i n0 z0 p l e R s m args below meth c Q (pc, lv, st, h) := by
  intro H locs ls hP hS hl
  obtain ⟨⟨hx, hb, hml, hown, hts⟩, hKn, hEx, hsz, hi, hini, hR⟩ := F
  obtain ⟨hdg, hI⟩ := m_ok_sp hok
  have e1 : len = 1 := of_decide_eq_true hI
  subst e1
  rw [m_s_aload_n] at hs
  split at hs
  · rename_i hg
    cases hs
    exact lv_aload_n hx hb hdg rfl (m_lat hl hg) (k _ _ _ hP hS hl)
  · rename_i hg
    cases hs
    exact lv_aload_nN hx hb hdg rfl (m_lat hl hg) (k _ _ _ hP hS hl)
  · cases hs
theorem k_aload (F : m_Fix E D ty X i d n0 p R s m args meth c) {q : Nat} (hok : m_ok i pc (.aload q, len, a, b) = true) (hs : m_stp X call (.aload q, len, a, b) pc lv st h = some (.inl C'))
    (k : m_At E D ty i n0 z0 p l e R s m args below meth c Q C') : m_At E D ty i n0 z0 p l e R s m args below meth c Q (pc, lv, st, h) := by
  intro H locs ls hP hS hl
  obtain ⟨⟨hx, hb, hml, hown, hts⟩, hKn, hEx, hsz, hi, hini, hR⟩ := F
  obtain ⟨hdg, hI⟩ := m_ok_sp hok
  have e1 : len = 2 := of_decide_eq_true hI
  subst e1
  rw [m_s_aload] at hs
  split at hs
  · rename_i hg
    cases hs
    exact lv_aload hx hb hdg (m_lat hl hg) (k _ _ _ hP hS hl)
  · rename_i hg
    cases hs
    exact lv_aloadN hx hb hdg (m_lat hl hg) (k _ _ _ hP hS hl)
  · cases hs
theorem k_istore_n (F : m_Fix E D ty X i d n0 p R s m args meth c) {q : Fin 4} (hok : m_ok i pc (.istore_n q, len, a, b) = true) (hs : m_stp X call (.istore_n q, len, a, b) pc lv st h = some (.inl C'))
    (k : m_At E D ty i n0 z0 p l e R s m args below meth c Q C') : m_At E D ty i n0 z0 p l e R s m args below meth c Q (pc, lv, st, h) := by
  intro H locs ls hP hS hl
  obtain ⟨⟨hx, hb, hml, hown, hts⟩, hKn, hEx, hsz, hi, hini, hR⟩ := F
  obtain ⟨hdg, hI⟩ := m_ok_sp hok
  obtain ⟨e1, e2⟩ : len = 1 ∧ q.val < m_nl i := of_decide_eq_true hI
  subst e1
  rw [m_s_istore_n] at hs
  split at hs
  · cases hs
    exact lv_istore_n hx hb hdg rfl hl e2 (m_st_map E lv q.val (.int _)) (fun ls' hl' => k _ _ _ hP hS hl')
  · cases hs
theorem k_istore (F : m_Fix E D ty X i d n0 p R s m args meth c) {q : Nat} (hok : m_ok i pc (.istore q, len, a, b) = true) (hs : m_stp X call (.istore q, len, a, b) pc lv st h = some (.inl C'))
    (k : m_At E D ty i n0 z0 p l e R s m args below meth c Q C') : m_At E D ty i n0 z0 p l e R s m args below meth c Q (pc, lv, st, h) := by
  intro H locs ls hP hS hl
  obtain ⟨⟨hx, hb, hml, hown, hts⟩, hKn, hEx, hsz, hi, hini, hR⟩ := F
  obtain ⟨hdg, hI⟩ := m_ok_sp hok
  obtain ⟨e1, e2⟩ : len = 2 ∧ q < m_nl i := of_decide_eq_true hI
  subst e1
  rw [m_s_istore] at hs
  split at hs
  · cases hs
    exact lv_istore hx hb hdg hl e2 (m_st_map E lv q (.int _)) (fun ls' hl' => k _ _ _ hP hS hl')
  · cases hs
theorem k_astore_n (F : m_Fix E D ty X i d n0 p R s m args meth c) {q : Fin 4} (hok : m_ok i pc (.astore_n q, len, a, b) = true) (hs : m_stp X call (.astore_n q, len, a, b) pc lv st h = some (.inl C'))
    (k : m_At E D ty i n0 z0 p l e R s m args below meth c Q C') : m_At E D ty i n0 z0 p l e R s m args below meth c Q (pc, lv, st, h) := by
  intro H locs ls hP hS hl
  obtain ⟨⟨hx, hb, hml, hown, hts⟩, hKn, hEx, hsz, hi, hini, hR⟩ := F
  obtain ⟨hdg, hI⟩ := m_ok_sp hok
  obtain ⟨e1, e2⟩ : len = 1 ∧ q.val < m_nl i := of_decide_eq_true hI
  subst e1
  rw [m_s_astore_n] at hs
  split at hs
  · cases hs
    exact lv_astore_n hx hb hdg rfl hl e2 (m_st_map E lv q.val (.ref _)) (fun ls' hl' => k _ _ _ hP hS hl')
  · cases hs
    exact lv_astore_nN hx hb hdg rfl hl e2 (m_st_map E lv q.val .null) (fun ls' hl' => k _ _ _ hP hS hl')
  · cases hs
theorem k_astore (F : m_Fix E D ty X i d n0 p R s m args meth c) {q : Nat} (hok : m_ok i pc (.astore q, len, a, b) = true) (hs : m_stp X call (.astore q, len, a, b) pc lv st h = some (.inl C'))
    (k : m_At E D ty i n0 z0 p l e R s m args below meth c Q C') : m_At E D ty i n0 z0 p l e R s m args below meth c Q (pc, lv, st, h) := by
  intro H locs ls hP hS hl
  obtain ⟨⟨hx, hb, hml, hown, hts⟩, hKn, hEx, hsz, hi, hini, hR⟩ := F
  obtain ⟨hdg, hI⟩ := m_ok_sp hok
  obtain ⟨e1, e2⟩ : len = 2 ∧ q < m_nl i := of_decide_eq_true hI
  subst e1
  rw [m_s_astore] at hs
  split at hs
  · cases hs
    exact lv_astore hx hb hdg hl e2 (m_st_map E lv q (.ref _)) (fun ls' hl' => k _ _ _ hP hS hl')
  · cases hs
    exact lv_astoreN hx hb hdg hl e2 (m_st_map E lv q .null) (fun ls' hl' => k _ _ _ hP hS hl')
  · cases hs
theorem k_iinc (F : m_Fix E D ty X i d n0 p R s m args meth c) {q : Nat} {q2 : Int} (hok : m_ok i pc (.iinc q q2, len, a, b) = true) (hs : m_stp X call (.iinc q q2, len, a, b) pc lv st h = some (.inl C'))
    (k : m_At E D ty i n0 z0 p l e R s m args below meth c Q C') : m_At E D ty i n0 z0 p l e R s m args below meth c Q (pc, lv, st, h) := by
  intro H locs ls hP hS hl
  obtain ⟨⟨hx, hb, hml, hown, hts⟩, hKn, hEx, hsz, hi, hini, hR⟩ := F
  obtain ⟨hdg, hI⟩ := m_ok_sp hok
  obtain ⟨e1, e2⟩ : len = 3 ∧ q < m_nl i := of_decide_eq_true hI
  subst e1
  rw [m_s_iinc] at hs
  split at hs
  · rename_i hg
    cases hs
    obtain ⟨k1, hk1⟩ := m_lmem (E := E) hg
    exact lv_iinc hx hb hdg hl hk1 rfl e2 (m_st_map E lv q (.int _)) (fun ls' hl' => k _ _ _ hP hS hl')
  · cases hs
theorem k_iadd (F : m_Fix E D ty X i d n0 p R s m args meth c) (hok : m_ok i pc (.iadd, len, a, b) = true) (hs : m_stp X call (.iadd, len, a, b) pc lv st h = some (.inl C'))
    (k : m_At E D ty i n0 z0 p l e R s m args below meth c Q C') : m_At E D ty i n0 z0 p l e R s m args below meth c Q (pc, lv, st, h) := by
  intro H locs ls hP hS hl
  obtain ⟨⟨hx, hb, hml, hown, hts⟩, hKn, hEx, hsz, hi, hini, hR⟩ := F
  obtain ⟨hdg, hI⟩ := m_ok_sp hok
  have e1 : len = 1 := of_decide_eq_true hI
  subst e1
  rw [m_s_iadd] at hs
  split at hs
  · cases hs
    exact lv_iadd hx hb hdg (k _ _ _ hP hS hl)
  · cases hs
theorem k_isub (F : m_Fix E D ty X i d n0 p R s m args meth c) (hok : m_ok i pc (.isub, len, a, b) = true) (hs : m_stp X call (.isub, len, a, b) pc lv st h = some (.inl C'))
    (k : m_At E D ty i n0 z0 p l e R s m args below meth c Q C') : m_At E D ty i n0 z0 p l e R s m args below meth c Q (pc, lv, st, h) := by
  intro H locs ls hP hS hl
  obtain ⟨⟨hx, hb, hml, hown, hts⟩, hKn, hEx, hsz, hi, hini, hR⟩ := F
  obtain ⟨hdg, hI⟩ := m_ok_sp hok
  have e1 : len = 1 := of_decide_eq_true hI
  subst e1
  rw [m_s_isub] at hs
  split at hs
  · cases hs
    exact lv_isub hx hb hdg (k _ _ _ hP hS hl)
  · cases hs
theorem k_imul (F : m_Fix E D ty X i d n0 p R s m args meth c) (hok : m_ok i pc (.imul, len, a, b) = true) (hs : m_stp X call (.imul, len, a, b) pc lv st h = some (.inl C'))
    (k : m_At E D ty i n0 z0 p l e R s m args below meth c Q C') : m_At E D ty i n0 z0 p l e R s m args below meth c Q (pc, lv, st, h) := by
  intro H locs ls hP hS hl
  obtain ⟨⟨hx, hb, hml, hown, hts⟩, hKn, hEx, hsz, hi, hini, hR⟩ := F
  obtain ⟨hdg, hI⟩ := m_ok_sp hok
  have e1 : len = 1 := of_decide_eq_true hI
  subst e1
  rw [m_s_imul] at hs
  split at hs
  · cases hs
    exact lv_imul hx hb hdg (k _ _ _ hP hS hl)
  · cases hs
theorem k_iand (F : m_Fix E D ty X i d n0 p R s m args meth c) (hok : m_ok i pc (.iand, len, a, b) = true) (hs : m_stp X call (.iand, len, a, b) pc lv st h = some (.inl C'))
    (k : m_At E D ty i n0 z0 p l e R s m args below meth c Q C') : m_At E D ty i n0 z0 p l e R s m args below meth c Q (pc, lv, st, h) := by
  intro H locs ls hP hS hl
  obtain ⟨⟨hx, hb, hml, hown, hts⟩, hKn, hEx, hsz, hi, hini, hR⟩ := F
  obtain ⟨hdg, hI⟩ := m_ok_sp hok
  have e1 : len = 1 := of_decide_eq_true hI
  subst e1
  rw [m_s_iand] at hs
  split at hs
  · cases hs
    exact lv_iand hx hb hdg (k _ _ _ hP hS hl)
  · cases hs
theorem k_ior (F : m_Fix E D ty X i d n0 p R s m args meth c) (hok : m_ok i pc (.ior, len, a, b) = true) (hs : m_stp X call (.ior, len, a, b) pc lv st h = some (.inl C'))
    (k : m_At E D ty i n0 z0 p l e R s m args below meth c Q C') : m_At E D ty i n0 z0 p l e R s m args below meth c Q (pc, lv, st, h) := by
  intro H locs ls hP hS hl
  obtain ⟨⟨hx, hb, hml, hown, hts⟩, hKn, hEx, hsz, hi, hini, hR⟩ := F
  obtain ⟨hdg, hI⟩ := m_ok_sp hok
  have e1 : len = 1 := of_decide_eq_true hI
  subst e1
  rw [m_s_ior] at hs
  split at hs
  · cases hs
    exact lv_ior hx hb hdg (k _ _ _ hP hS hl)
  · cases hs
theorem k_ixor (F : m_Fix E D ty X i d n0 p R s m args meth c) (hok : m_ok i pc (.ixor, len, a, b) = true) (hs : m_stp X call (.ixor, len, a, b) pc lv st h = some (.inl C'))
    (k : m_At E D ty i n0 z0 p l e R s m args below meth c Q C') : m_At E D ty i n0 z0 p l e R s m args below meth c Q (pc, lv, st, h) := by
  intro H locs ls hP hS hl
  obtain ⟨⟨hx, hb, hml, hown, hts⟩, hKn, hEx, hsz, hi, hini, hR⟩ := F
  obtain ⟨hdg, hI⟩ := m_ok_sp hok
  have e1 : len = 1 := of_decide_eq_true hI
  subst e1
  rw [m_s_ixor] at hs
  split at hs
  · cases hs
    exact lv_ixor hx hb hdg (k _ _ _ hP hS hl)
  · cases hs
theorem k_ishl (F : m_Fix E D ty X i d n0 p R s m args meth c) (hok : m_ok i pc (.ishl, len, a, b) = true) (hs : m_stp X call (.ishl, len, a, b) pc lv st h = some (.inl C'))
    (k : m_At E D ty i n0 z0 p l e R s m args below meth c Q C') : m_At E D ty i n0 z0 p l e R s m args below meth c Q (pc, lv, st, h) := by
  intro H locs ls hP hS hl
  obtain ⟨⟨hx, hb, hml, hown, hts⟩, hKn, hEx, hsz, hi, hini, hR⟩ := F
  obtain ⟨hdg, hI⟩ := m_ok_sp hok
  have e1 : len = 1 := of_decide_eq_true hI
  subst e1
  rw [m_s_ishl] at hs
  split at hs
  · cases hs
    exact lv_ishl hx hb hdg (k _ _ _ hP hS hl)
  · cases hs
theorem k_ishr (F : m_Fix E D ty X i d n0 p R s m args meth c) (hok : m_ok i pc (.ishr, len, a, b) = true) (hs : m_stp X call (.ishr, len, a, b) pc lv st h = some (.inl C'))
    (k : m_At E D ty i n0 z0 p l e R s m args below meth c Q C') : m_At E D ty i n0 z0 p l e R s m args below meth c Q (pc, lv, st, h) := by
  intro H locs ls hP hS hl
  obtain ⟨⟨hx, hb, hml, hown, hts⟩, hKn, hEx, hsz, hi, hini, hR⟩ := F
  obtain ⟨hdg, hI⟩ := m_ok_sp hok
  have e1 : len = 1 := of_decide_eq_true hI
  subst e1
  rw [m_s_ishr] at hs
  split at hs
  · cases hs
    exact lv_ishr hx hb hdg (k _ _ _ hP hS hl)
  · cases hs
theorem k_land (F : m_Fix E D ty X i d n0 p R s m args meth c) (hok : m_ok i pc (.land, len, a, b) = true) (hs : m_stp X call (.land, len, a, b) pc lv st h = some (.inl C'))
    (k : m_At E D ty i n0 z0 p l e R s m args below meth c Q C') : m_At E D ty i n0 z0 p l e R s m args below meth c Q (pc, lv, st, h) := by
  intro H locs ls hP hS hl
  obtain ⟨⟨hx, hb, hml, hown, hts⟩, hKn, hEx, hsz, hi, hini, hR⟩ := F
  obtain ⟨hdg, hI⟩ := m_ok_sp hok
  have e1 : len = 1 := of_decide_eq_true hI
  subst e1
  rw [m_s_land] at hs
  split at hs
  · cases hs
    exact lv_land hx hb hdg (k _ _ _ hP hS hl)
  · cases hs
theorem k_lor (F : m_Fix E D ty X i d n0 p R s m args meth c) (hok : m_ok i pc (.lor, len, a, b) = true) (hs : m_stp X call (.lor, len, a, b) pc lv st h = some (.inl C'))
    (k : m_At E D ty i n0 z0 p l e R s m args below meth c Q C') : m_At E D ty i n0 z0 p l e R s m args below meth c Q (pc, lv, st, h) := by
  intro H locs ls hP hS hl
  obtain ⟨⟨hx, hb, hml, hown, hts⟩, hKn, hEx, hsz, hi, hini, hR⟩ := F
  obtain ⟨hdg, hI⟩ := m_ok_sp hok
  have e1 : len = 1 := of_decide_eq_true hI
  subst e1
  rw [m_s_lor] at hs
  split at hs
  · cases hs
    exact lv_lor hx hb hdg (k _ _ _ hP hS hl)
  · cases hs
theorem k_ineg (F : m_Fix E D ty X i d n0 p R s m args meth c) (hok : m_ok i pc (.ineg, len, a, b) = true) (hs : m_stp X call (.ineg, len, a, b) pc lv st h = some (.inl C'))
    (k : m_At E D ty i n0 z0 p l e R s m args below meth c Q C') : m_At E D ty i n0 z0 p l e R s m args below meth c Q (pc, lv, st, h) := by
  intro H locs ls hP hS hl
  obtain ⟨⟨hx, hb, hml, hown, hts⟩, hKn, hEx, hsz, hi, hini, hR⟩ := F
  obtain ⟨hdg, hI⟩ := m_ok_sp hok
  have e1 : len = 1 := of_decide_eq_true hI
  subst e1
  rw [m_s_ineg] at hs
  split at hs
  · cases hs
    exact lv_ineg hx hb hdg (k _ _ _ hP hS hl)
  · cases hs
theorem k_iushr (F : m_Fix E D ty X i d n0 p R s m args meth c) (hok : m_ok i pc (.iushr, len, a, b) = true) (hs : m_stp X call (.iushr, len, a, b) pc lv st h = some (.inl C'))
    (k : m_At E D ty i n0 z0 p l e R s m args below meth c Q C') : m_At E D ty i n0 z0 p l e R s m args below meth c Q (pc, lv, st, h) := by
  intro H locs ls hP hS hl
  obtain ⟨⟨hx, hb, hml, hown, hts⟩, hKn, hEx, hsz, hi, hini, hR⟩ := F
  obtain ⟨hdg, hI⟩ := m_ok_sp hok
  have e1 : len = 1 := of_decide_eq_true hI
  subst e1
  rw [m_s_iushr] at hs
  split at hs
  · cases hs
    exact lv_iushr hx hb hdg rfl (k _ _ _ hP hS hl)
  · cases hs
theorem k_lshl (F : m_Fix E D ty X i d n0 p R s m args meth c) (hok : m_ok i pc (.lshl, len, a, b) = true) (hs : m_stp X call (.lshl, len, a, b) pc lv st h = some (.inl C'))
    (k : m_At E D ty i n0 z0 p l e R s m args below meth c Q C') : m_At E D ty i n0 z0 p l e R s m args below meth c Q (pc, lv, st, h) := by
  intro H locs ls hP hS hl
  obtain ⟨⟨hx, hb, hml, hown, hts⟩, hKn, hEx, hsz, hi, hini, hR⟩ := F
  obtain ⟨hdg, hI⟩ := m_ok_sp hok
  have e1 : len = 1 := of_decide_eq_true hI
  subst e1
  rw [m_s_lshl] at hs
  split at hs
  · cases hs
    exact lv_lshl hx hb hdg rfl (k _ _ _ hP hS hl)
  · cases hs
theorem k_lshr (F : m_Fix E D ty X i d n0 p R s m args meth c) (hok : m_ok i pc (.lshr, len, a, b) = true) (hs : m_stp X call (.lshr, len, a, b) pc lv st h = some (.inl C'))
    (k : m_At E D ty i n0 z0 p l e R s m args below meth c Q C') : m_At E D ty i n0 z0 p l e R s m args below meth c Q (pc, lv, st, h) := by
  intro H locs ls hP hS hl
  obtain ⟨⟨hx, hb, hml, hown, hts⟩, hKn, hEx, hsz, hi, hini, hR⟩ := F
  obtain ⟨hdg, hI⟩ := m_ok_sp hok
  have e1 : len = 1 := of_decide_eq_true hI
  subst e1
  rw [m_s_lshr] at hs
  split at hs
  · cases hs
    exact lv_lshr hx hb hdg rfl (k _ _ _ hP hS hl)
  · cases hs
theorem k_lushr (F : m_Fix E D ty X i d n0 p R s m args meth c) (hok : m_ok i pc (.lushr, len, a, b) = true) (hs : m_stp X call (.lushr, len, a, b) pc lv st h = some (.inl C'))
    (k : m_At E D ty i n0 z0 p l e R s m args below meth c Q C') : m_At E D ty i n0 z0 p l e R s m args below meth c Q (pc, lv, st, h) := by
  intro H locs ls hP hS hl
  obtain ⟨⟨hx, hb, hml, hown, hts⟩, hKn, hEx, hsz, hi, hini, hR⟩ := F
  obtain ⟨hdg, hI⟩ := m_ok_sp hok
  have e1 : len = 1 := of_decide_eq_true hI
  subst e1
  rw [m_s_lushr] at hs
  split at hs
  · cases hs
    exact lv_lushr hx hb hdg rfl (k _ _ _ hP hS hl)
  · cases hs
theorem k_i2l (F : m_Fix E D ty X i d n0 p R s m args meth c) (hok : m_ok i pc (.i2l, len, a, b) = true) (hs : m_stp X call (.i2l, len, a, b) pc lv st h = some (.inl C'))
    (k : m_At E D ty i n0 z0 p l e R s m args below meth c Q C') : m_At E D ty i n0 z0 p l e R s m args below meth c Q (pc, lv, st, h) := by
  intro H locs ls hP hS hl
  obtain ⟨⟨hx, hb, hml, hown, hts⟩, hKn, hEx, hsz, hi, hini, hR⟩ := F
  obtain ⟨hdg, hI⟩ := m_ok_sp hok
  have e1 : len = 1 := of_decide_eq_true hI
  subst e1
  rw [m_s_i2l] at hs
  split at hs
  · cases hs
    exact lv_i2l hx hb hdg rfl (k _ _ _ hP hS hl)
  · cases hs
theorem k_l2i (F : m_Fix E D ty X i d n0 p R s m args meth c) (hok : m_ok i pc (.l2i, len, a, b) = true) (hs : m_stp X call (.l2i, len, a, b) pc lv st h = some (.inl C'))
    (k : m_At E D ty i n0 z0 p l e R s m args below meth c Q C') : m_At E D ty i n0 z0 p l e R s m args below meth c Q (pc, lv, st, h) := by
  intro H locs ls hP hS hl
  obtain ⟨⟨hx, hb, hml, hown, hts⟩, hKn, hEx, hsz, hi, hini, hR⟩ := F
  obtain ⟨hdg, hI⟩ := m_ok_sp hok
  have e1 : len = 1 := of_decide_eq_true hI
  subst e1
  rw [m_s_l2i] at hs
  split at hs
  · cases hs
    exact lv_l2i hx hb hdg rfl (k _ _ _ hP hS hl)
  · cases hs
theorem k_idiv (F : m_Fix E D ty X i d n0 p R s m args meth c) (hok : m_ok i pc (.idiv, len, a, b) = true) (hs : m_stp X call (.idiv, len, a, b) pc lv st h = some (.inl C'))
    (k : m_At E D ty i n0 z0 p l e R s m args below meth c Q C') : m_At E D ty i n0 z0 p l e R s m args below meth c Q (pc, lv, st, h) := by
  intro H locs ls hP hS hl
  obtain ⟨⟨hx, hb, hml, hown, hts⟩, hKn, hEx, hsz, hi, hini, hR⟩ := F
  obtain ⟨hdg, hI⟩ := m_ok_sp hok
  have e1 : len = 1 := of_decide_eq_true hI
  subst e1
  rw [m_s_idiv] at hs
  split at hs
  · split at hs
    · cases hs
    · rename_i h1
      cases hs
      exact lv_idiv hx hb hdg h1 (k _ _ _ hP hS hl)
  · cases hs
theorem k_irem (F : m_Fix E D ty X i d n0 p R s m args meth c) (hok : m_ok i pc (.irem, len, a, b) = true) (hs : m_stp X call (.irem, len, a, b) pc lv st h = some (.inl C'))
    (k : m_At E D ty i n0 z0 p l e R s m args below meth c Q C') : m_At E D ty i n0 z0 p l e R s m args below meth c Q (pc, lv, st, h) := by
  intro H locs ls hP hS hl
  obtain ⟨⟨hx, hb, hml, hown, hts⟩, hKn, hEx, hsz, hi, hini, hR⟩ := F
  obtain ⟨hdg, hI⟩ := m_ok_sp hok
  have e1 : len = 1 := of_decide_eq_true hI
  subst e1
  rw [m_s_irem] at hs
  split at hs
  · split at hs
    · cases hs
    · rename_i h1
      cases hs
      exact lv_irem hx hb hdg h1 (k _ _ _ hP hS hl)
  · cases hs
theorem k_dup (F : m_Fix E D ty X i d n0 p R s m args meth c) (hok : m_ok i pc (.dup, len, a, b) = true) (hs : m_stp X call (.dup, len, a, b) pc lv st h = some (.inl C'))
    (k : m_At E D ty i n0 z0 p l e R s m args below meth c Q C') : m_At E D ty i n0 z0 p l e R s m args below meth c Q (pc, lv, st, h) := by
  intro H locs ls hP hS hl
  obtain ⟨⟨hx, hb, hml, hown, hts⟩, hKn, hEx, hsz, hi, hini, hR⟩ := F
  obtain ⟨hdg, hI⟩ := m_ok_sp hok
  have e1 : len = 1 := of_decide_eq_true hI
  subst e1
  rw [m_s_dup] at hs
  split at hs
  · cases hs
    exact lv_dup hx hb hdg rfl (k _ _ _ hP hS hl)
  · cases hs
    exact lv_dup hx hb hdg rfl (k _ _ _ hP hS hl)
  · cases hs
theorem k_dup2 (F : m_Fix E D ty X i d n0 p R s m args meth c) (hok : m_ok i pc (.dup2, len, a, b) = true) (hs : m_stp X call (.dup2, len, a, b) pc lv st h = some (.inl C'))
    (k : m_At E D ty i n0 z0 p l e R s m args below meth c Q C') : m_At E D ty i n0 z0 p l e R s m args below meth c Q (pc, lv, st, h) := by
  intro H locs ls hP hS hl
  obtain ⟨⟨hx, hb, hml, hown, hts⟩, hKn, hEx, hsz, hi, hini, hR⟩ := F
  obtain ⟨hdg, hI⟩ := m_ok_sp hok
  have e1 : len = 1 := of_decide_eq_true hI
  subst e1
  rw [m_s_dup2] at hs
  split at hs
  · cases hs
    exact lv_dup2_11 hx hb hdg rfl rfl (k _ _ _ hP hS hl)
  · cases hs
theorem k_pop (F : m_Fix E D ty X i d n0 p R s m args meth c) (hok : m_ok i pc (.pop, len, a, b) = true) (hs : m_stp X call (.pop, len, a, b) pc lv st h = some (.inl C'))
    (k : m_At E D ty i n0 z0 p l e R s m args below meth c Q C') : m_At E D ty i n0 z0 p l e R s m args below meth c Q (pc, lv, st, h) := by
  intro H locs ls hP hS hl
  obtain ⟨⟨hx, hb, hml, hown, hts⟩, hKn, hEx, hsz, hi, hini, hR⟩ := F
  obtain ⟨hdg, hI⟩ := m_ok_sp hok
  have e1 : len = 1 := of_decide_eq_true hI
  subst e1
  rw [m_s_pop] at hs
  split at hs
  · cases hs
    exact lv_pop hx hb hdg rfl (k _ _ _ hP hS hl)
  · cases hs
theorem k_ifCond_eq (F : m_Fix E D ty X i d n0 p R s m args meth c) {q : Int} (hok : m_ok i pc (.ifCond .eq q, len, a, b) = true) (hs : m_stp X call (.ifCond .eq q, len, a, b) pc lv st h = some (.inl C'))
    (k : m_At E D ty i n0 z0 p l e R s m args below meth c Q C') : m_At E D ty i n0 z0 p l e R s m args below meth c Q (pc, lv, st, h) := by
  intro H locs ls hP hS hl
  obtain ⟨⟨hx, hb, hml, hown, hts⟩, hKn, hEx, hsz, hi, hini, hR⟩ := F
  obtain ⟨hdg, hI⟩ := m_ok_sp hok
  obtain ⟨e1, e2⟩ : len = 3 ∧ (pc : Int) + q = ((a.toNat : Nat) : Int) := of_decide_eq_true hI
  subst e1
  rw [m_s_ifCond_eq] at hs
  split at hs
  · refine lv_if_eq hx hb hdg e2 (fun h1 => ?_) (fun h1 => ?_)
    · rw [if_pos h1] at hs
      cases hs
      exact k _ _ _ hP hS hl
    · rw [if_neg h1] at hs
      cases hs
      exact k _ _ _ hP hS hl
  · cases hs
theorem k_if_icmp_eq (F : m_Fix E D ty X i d n0 p R s m args meth c) {q : Int} (hok : m_ok i pc (.if_icmp .eq q, len, a, b) = true) (hs : m_stp X call (.if_icmp .eq q, len, a, b) pc lv st h = some (.inl C'))
    (k : m_At E D ty i n0 z0 p l e R s m args below meth c Q C') : m_At E D ty i n0 z0 p l e R s m args below meth c Q (pc, lv, st, h) := by
  intro H locs ls hP hS hl
  obtain ⟨⟨hx, hb, hml, hown, hts⟩, hKn, hEx, hsz, hi, hini, hR⟩ := F
  obtain ⟨hdg, hI⟩ := m_ok_sp hok
  obtain ⟨e1, e2⟩ : len = 3 ∧ (pc : Int) + q = ((a.toNat : Nat) : Int) := of_decide_eq_true hI
  subst e1
  rw [m_s_if_icmp_eq] at hs
  split at hs
  · refine lv_icmp_eq hx hb hdg e2 (fun h1 => ?_) (fun h1 => ?_)
    · rw [if_pos h1] at hs
      cases hs
      exact k _ _ _ hP hS hl
    · rw [if_neg h1] at hs
      cases hs
      exact k _ _ _ hP hS hl
  · cases hs
theorem k_ifCond_ne (F : m_Fix E D ty X i d n0 p R s m args meth c) {q : Int} (hok : m_ok i pc (.ifCond .ne q, len, a, b) = true) (hs : m_stp X call (.ifCond .ne q, len, a, b) pc lv st h = some (.inl C'))
    (k : m_At E D ty i n0 z0 p l e R s m args below meth c Q C') : m_At E D ty i n0 z0 p l e R s m args below meth c Q (pc, lv, st, h) := by
  intro H locs ls hP hS hl
  obtain ⟨⟨hx, hb, hml, hown, hts⟩, hKn, hEx, hsz, hi, hini, hR⟩ := F
  obtain ⟨hdg, hI⟩ := m_ok_sp hok
  obtain ⟨e1, e2⟩ : len = 3 ∧ (pc : Int) + q = ((a.toNat : Nat) : Int) := of_decide_eq_true hI
  subst e1
  rw [m_s_ifCond_ne] at hs
  split at hs
  · refine lv_if_ne hx hb hdg e2 (fun h1 => ?_) (fun h1 => ?_)
    · rw [if_neg h1] at hs
      cases hs
      exact k _ _ _ hP hS hl
    · rw [if_pos h1] at hs
      cases hs
      exact k _ _ _ hP hS hl
  · cases hs
theorem k_if_icmp_ne (F : m_Fix E D ty X i d n0 p R s m args meth c) {q : Int} (hok : m_ok i pc (.if_icmp .ne q, len, a, b) = true) (hs : m_stp X call (.if_icmp .ne q, len, a, b) pc lv st h = some (.inl C'))
    (k : m_At E D ty i n0 z0 p l e R s m args below meth c Q C') : m_At E D ty i n0 z0 p l e R s m args below meth c Q (pc, lv, st, h) := by
  intro H locs ls hP hS hl
  obtain ⟨⟨hx, hb, hml, hown, hts⟩, hKn, hEx, hsz, hi, hini, hR⟩ := F
  obtain ⟨hdg, hI⟩ := m_ok_sp hok
  obtain ⟨e1, e2⟩ : len = 3 ∧ (pc : Int) + q = ((a.toNat : Nat) : Int) := of_decide_eq_true hI
  subst e1
  rw [m_s_if_icmp_ne] at hs
  split at hs
  · refine lv_icmp_ne hx hb hdg e2 (fun h1 => ?_) (fun h1 => ?_)
    · rw [if_neg h1] at hs
      cases hs
      exact k _ _ _ hP hS hl
    · rw [if_pos h1] at hs
      cases hs
      exact k _ _ _ hP hS hl
  · cases hs
theorem k_ifCond_lt (F : m_Fix E D ty X i d n0 p R s m args meth c) {q : Int} (hok : m_ok i pc (.ifCond .lt q, len, a, b) = true) (hs : m_stp X call (.ifCond .lt q, len, a, b) pc lv st h = some (.inl C'))
    (k : m_At E D ty i n0 z0 p l e R s m args below meth c Q C') : m_At E D ty i n0 z0 p l e R s m args below meth c Q (pc, lv, st, h) := by
  intro H locs ls hP hS hl
  obtain ⟨⟨hx, hb, hml, hown, hts⟩, hKn, hEx, hsz, hi, hini, hR⟩ := F
  obtain ⟨hdg, hI⟩ := m_ok_sp hok
  obtain ⟨e1, e2⟩ : len = 3 ∧ (pc : Int) + q = ((a.toNat : Nat) : Int) := of_decide_eq_true hI
  subst e1
  rw [m_s_ifCond_lt] at hs
  split at hs
  · refine lv_if_lt hx hb hdg e2 (fun h1 => ?_) (fun h1 => ?_)
    · rw [if_pos h1] at hs
      cases hs
      exact k _ _ _ hP hS hl
    · rw [if_neg h1] at hs
      cases hs
      exact k _ _ _ hP hS hl
  · cases hs
theorem k_if_icmp_lt (F : m_Fix E D ty X i d n0 p R s m args meth c) {q : Int} (hok : m_ok i pc (.if_icmp .lt q, len, a, b) = true) (hs : m_stp X call (.if_icmp .lt q, len, a, b) pc lv st h = some (.inl C'))
    (k : m_At E D ty i n0 z0 p l e R s m args below meth c Q C') : m_At E D ty i n0 z0 p l e R s m args below meth c Q (pc, lv, st, h) := by
  intro H locs ls hP hS hl
  obtain ⟨⟨hx, hb, hml, hown, hts⟩, hKn, hEx, hsz, hi, hini, hR⟩ := F
  obtain ⟨hdg, hI⟩ := m_ok_sp hok
  obtain ⟨e1, e2⟩ : len = 3 ∧ (pc : Int) + q = ((a.toNat : Nat) : Int) := of_decide_eq_true hI
  subst e1
  rw [m_s_if_icmp_lt] at hs
  split at hs
  · refine lv_icmp_lt hx hb hdg e2 (fun h1 => ?_) (fun h1 => ?_)
    · rw [if_pos h1] at hs
      cases hs
      exact k _ _ _ hP hS hl
    · rw [if_neg h1] at hs
      cases hs
      exact k _ _ _ hP hS hl
  · cases hs
theorem k_ifCond_ge (F : m_Fix E D ty X i d n0 p R s m args meth c) {q : Int} (hok : m_ok i pc (.ifCond .ge q, len, a, b) = true) (hs : m_stp X call (.ifCond .ge q, len, a, b) pc lv st h = some (.inl C'))
    (k : m_At E D ty i n0 z0 p l e R s m args below meth c Q C') : m_At E D ty i n0 z0 p l e R s m args below meth c Q (pc, lv, st, h) := by
  intro H locs ls hP hS hl
  obtain ⟨⟨hx, hb, hml, hown, hts⟩, hKn, hEx, hsz, hi, hini, hR⟩ := F
  obtain ⟨hdg, hI⟩ := m_ok_sp hok
  obtain ⟨e1, e2⟩ : len = 3 ∧ (pc : Int) + q = ((a.toNat : Nat) : Int) := of_decide_eq_true hI
  subst e1
  rw [m_s_ifCond_ge] at hs
  split at hs
  · refine lv_if_ge hx hb hdg e2 (fun h1 => ?_) (fun h1 => ?_)
    · rw [if_pos h1] at hs
      cases hs
      exact k _ _ _ hP hS hl
    · rw [if_neg h1] at hs
      cases hs
      exact k _ _ _ hP hS hl
  · cases hs
theorem k_if_icmp_ge (F : m_Fix E D ty X i d n0 p R s m args meth c) {q : Int} (hok : m_ok i pc (.if_icmp .ge q, len, a, b) = true) (hs : m_stp X call (.if_icmp .ge q, len, a, b) pc lv st h = some (.inl C'))
    (k : m_At E D ty i n0 z0 p l e R s m args below meth c Q C') : m_At E D ty i n0 z0 p l e R s m args below meth c Q (pc, lv, st, h) := by
  intro H locs ls hP hS hl
  obtain ⟨⟨hx, hb, hml, hown, hts⟩, hKn, hEx, hsz, hi, hini, hR⟩ := F
  obtain ⟨hdg, hI⟩ := m_ok_sp hok
  obtain ⟨e1, e2⟩ : len = 3 ∧ (pc : Int) + q = ((a.toNat : Nat) : Int) := of_decide_eq_true hI
  subst e1
  rw [m_s_if_icmp_ge] at hs
  split at hs
  · refine lv_icmp_ge hx hb hdg e2 (fun h1 => ?_) (fun h1 => ?_)
    · rw [if_pos h1] at hs
      cases hs
      exact k _ _ _ hP hS hl
    · rw [if_neg h1] at hs
      cases hs
      exact k _ _ _ hP hS hl
  · cases hs
theorem k_ifCond_gt (F : m_Fix E D ty X i d n0 p R s m args meth c) {q : Int} (hok : m_ok i pc (.ifCond .gt q, len, a, b) = true) (hs : m_stp X call (.ifCond .gt q, len, a, b) pc lv st h = some (.inl C'))
    (k : m_At E D ty i n0 z0 p l e R s m args below meth c Q C') : m_At E D ty i n0 z0 p l e R s m args below meth c Q (pc, lv, st, h) := by
  intro H locs ls hP hS hl
  obtain ⟨⟨hx, hb, hml, hown, hts⟩, hKn, hEx, hsz, hi, hini, hR⟩ := F
  obtain ⟨hdg, hI⟩ := m_ok_sp hok
  obtain ⟨e1, e2⟩ : len = 3 ∧ (pc : Int) + q = ((a.toNat : Nat) : Int) := of_decide_eq_true hI
  subst e1
  rw [m_s_ifCond_gt] at hs
  split at hs
  · refine lv_if_gt hx hb hdg e2 (fun h1 => ?_) (fun h1 => ?_)
    · rw [if_pos h1] at hs
      cases hs
      exact k _ _ _ hP hS hl
    · rw [if_neg h1] at hs
      cases hs
      exact k _ _ _ hP hS hl
  · cases hs
theorem k_if_icmp_gt (F : m_Fix E D ty X i d n0 p R s m args meth c) {q : Int} (hok : m_ok i pc (.if_icmp .gt q, len, a, b) = true) (hs : m_stp X call (.if_icmp .gt q, len, a, b) pc lv st h = some (.inl C'))
    (k : m_At E D ty i n0 z0 p l e R s m args below meth c Q C') : m_At E D ty i n0 z0 p l e R s m args below meth c Q (pc, lv, st, h) := by
  intro H locs ls hP hS hl
  obtain ⟨⟨hx, hb, hml, hown, hts⟩, hKn, hEx, hsz, hi, hini, hR⟩ := F
  obtain ⟨hdg, hI⟩ := m_ok_sp hok
  obtain ⟨e1, e2⟩ : len = 3 ∧ (pc : Int) + q = ((a.toNat : Nat) : Int) := of_decide_eq_true hI
  subst e1
  rw [m_s_if_icmp_gt] at hs
  split at hs
  · refine lv_icmp_gt hx hb hdg e2 (fun h1 => ?_) (fun h1 => ?_)
    · rw [if_pos h1] at hs
      cases hs
      exact k _ _ _ hP hS hl
    · rw [if_neg h1] at hs
      cases hs
      exact k _ _ _ hP hS hl
  · cases hs
theorem k_ifCond_le (F : m_Fix E D ty X i d n0 p R s m args meth c) {q : Int} (hok : m_ok i pc (.ifCond .le q, len, a, b) = true) (hs : m_stp X call (.ifCond .le q, len, a, b) pc lv st h = some (.inl C'))
    (k : m_At E D ty i n0 z0 p l e R s m args below meth c Q C') : m_At E D ty i n0 z0 p l e R s m args below meth c Q (pc, lv, st, h) := by
  intro H locs ls hP hS hl
  obtain ⟨⟨hx, hb, hml, hown, hts⟩, hKn, hEx, hsz, hi, hini, hR⟩ := F
  obtain ⟨hdg, hI⟩ := m_ok_sp hok
  obtain ⟨e1, e2⟩ : len = 3 ∧ (pc : Int) + q = ((a.toNat : Nat) : Int) := of_decide_eq_true hI
  subst e1
  rw [m_s_ifCond_le] at hs
  split at hs
  · refine lv_if_le hx hb hdg e2 (fun h1 => ?_) (fun h1 => ?_)
    · rw [if_pos h1] at hs
      cases hs
      exact k _ _ _ hP hS hl
    · rw [if_neg h1] at hs
      cases hs
      exact k _ _ _ hP hS hl
  · cases hs
theorem k_if_icmp_le (F : m_Fix E D ty X i d n0 p R s m args meth c) {q : Int} (hok : m_ok i pc (.if_icmp .le q, len, a, b) = true) (hs : m_stp X call (.if_icmp .le q, len, a, b) pc lv st h = some (.inl C'))
    (k : m_At E D ty i n0 z0 p l e R s m args below meth c Q C') : m_At E D ty i n0 z0 p l e R s m args below meth c Q (pc, lv, st, h) := by
  intro H locs ls hP hS hl
  obtain ⟨⟨hx, hb, hml, hown, hts⟩, hKn, hEx, hsz, hi, hini, hR⟩ := F
  obtain ⟨hdg, hI⟩ := m_ok_sp hok
  obtain ⟨e1, e2⟩ : len = 3 ∧ (pc : Int) + q = ((a.toNat : Nat) : Int) := of_decide_eq_true hI
  subst e1
  rw [m_s_if_icmp_le] at hs
  split at hs
  · refine lv_icmp_le hx hb hdg e2 (fun h1 => ?_) (fun h1 => ?_)
    · rw [if_pos h1] at hs
      cases hs
      exact k _ _ _ hP hS hl
    · rw [if_neg h1] at hs
      cases hs
      exact k _ _ _ hP hS hl
  · cases hs
theorem k_ifnull (F : m_Fix E D ty X i d n0 p R s m args meth c) {q : Int} (hok : m_ok i pc (.ifnull q, len, a, b) = true) (hs : m_stp X call (.ifnull q, len, a, b) pc lv st h = some (.inl C'))
    (k : m_At E D ty i n0 z0 p l e R s m args below meth c Q C') : m_At E D ty i n0 z0 p l e R s m args below meth c Q (pc, lv, st, h) := by
  intro H locs ls hP hS hl
  obtain ⟨⟨hx, hb, hml, hown, hts⟩, hKn, hEx, hsz, hi, hini, hR⟩ := F
  obtain ⟨hdg, hI⟩ := m_ok_sp hok
  obtain ⟨e1, e2⟩ : len = 3 ∧ (pc : Int) + q = ((a.toNat : Nat) : Int) := of_decide_eq_true hI
  subst e1
  rw [m_s_ifnull] at hs
  split at hs
  · cases hs
    exact lv_ifnullN hx hb hdg e2 (k _ _ _ hP hS hl)
  · cases hs
    exact lv_ifnull hx hb hdg (k _ _ _ hP hS hl)
  · cases hs
theorem k_ifnonnull (F : m_Fix E D ty X i d n0 p R s m args meth c) {q : Int} (hok : m_ok i pc (.ifnonnull q, len, a, b) = true) (hs : m_stp X call (.ifnonnull q, len, a, b) pc lv st h = some (.inl C'))
    (k : m_At E D ty i n0 z0 p l e R s m args below meth c Q C') : m_At E D ty i n0 z0 p l e R s m args below meth c Q (pc, lv, st, h) := by
  intro H locs ls hP hS hl
  obtain ⟨⟨hx, hb, hml, hown, hts⟩, hKn, hEx, hsz, hi, hini, hR⟩ := F
  obtain ⟨hdg, hI⟩ := m_ok_sp hok
  obtain ⟨e1, e2⟩ : len = 3 ∧ (pc : Int) + q = ((a.toNat : Nat) : Int) := of_decide_eq_true hI
  subst e1
  rw [m_s_ifnonnull] at hs
  split at hs
  · cases hs
    exact lv_ifnonnullN hx hb hdg (k _ _ _ hP hS hl)
  · cases hs
    exact lv_ifnonnull hx hb hdg e2 (k _ _ _ hP hS hl)
  · cases hs
theorem k_goto (F : m_Fix E D ty X i d n0 p R s m args meth c) {q : Int} (hok : m_ok i pc (.goto q, len, a, b) = true) (hs : m_stp X call (.goto q, len, a, b) pc lv st h = some (.inl C'))
    (k : m_At E D ty i n0 z0 p l e R s m args below meth c Q C') : m_At E D ty i n0 z0 p l e R s m args below meth c Q (pc, lv, st, h) := by
  intro H locs ls hP hS hl
  obtain ⟨⟨hx, hb, hml, hown, hts⟩, hKn, hEx, hsz, hi, hini, hR⟩ := F
  obtain ⟨hdg, hI⟩ := m_ok_sp hok
  obtain ⟨e1, e2⟩ : len = 3 ∧ (pc : Int) + q = ((a.toNat : Nat) : Int) := of_decide_eq_true hI
  subst e1
  rw [m_s_goto] at hs
  cases hs
  exact lv_goto hx hb hdg e2 (k _ _ _ hP hS hl)
theorem k_tableswitch (F : m_Fix E D ty X i d n0 p R s m args meth c) {q lo hi2 : Int} {offs : Array Int} (hok : m_ok i pc (.tableswitch q lo hi2 offs, len, a, b) = true) (hs : m_stp X call (.tableswitch q lo hi2 offs, len, a, b) pc lv st h = some (.inl C'))
    (k : m_At E D ty i n0 z0 p l e R s m args below meth c Q C') : m_At E D ty i n0 z0 p l e R s m args below meth c Q (pc, lv, st, h) := by
  intro H locs ls hP hS hl
  obtain ⟨⟨hx, hb, hml, hown, hts⟩, hKn, hEx, hsz, hi, hini, hR⟩ := F
  obtain ⟨hdg, hI⟩ := m_ok_sp hok
  rw [m_s_tableswitch] at hs
  split at hs
  · split at hs
    · rename_i h1
      split at hs
      · rename_i hg
        cases hs
        exact lv_tableOut hx hb hdg h1 (m_go_sp hg) (k _ _ _ hP hS hl)
      · cases hs
    · rename_i h1
      split at hs
      · rename_i ho
        split at hs
        · rename_i hg
          cases hs
          rw [m_nth_eq, Array.getElem?_toList] at ho
          exact lv_tableIn hx hb hdg (fun z => h1 (Or.inl z)) (fun z => h1 (Or.inr z)) ho (m_go_sp hg) (k _ _ _ hP hS hl)
        · cases hs
      · cases hs
  · cases hs
theorem k_lookupswitch (F : m_Fix E D ty X i d n0 p R s m args meth c) {q : Int} {ps : Array (Int × Int)} (hok : m_ok i pc (.lookupswitch q ps, len, a, b) = true) (hs : m_stp X call (.lookupswitch q ps, len, a, b) pc lv st h = some (.inl C'))
    (k : m_At E D ty i n0 z0 p l e R s m args below meth c Q C') : m_At E D ty i n0 z0 p l e R s m args below meth c Q (pc, lv, st, h) := by
  intro H locs ls hP hS hl
  obtain ⟨⟨hx, hb, hml, hown, hts⟩, hKn, hEx, hsz, hi, hini, hR⟩ := F
  obtain ⟨hdg, hI⟩ := m_ok_sp hok
  rw [m_s_lookupswitch] at hs
  split at hs
  · split at hs
    · rename_i hg
      cases hs
      exact lv_lookup hx hb hdg hI rfl (m_go_sp hg) (k _ _ _ hP hS hl)
    · cases hs
  · cases hs
theorem k_getfield (F : m_Fix E D ty X i d n0 p R s m args meth c) {q : Nat} (hok : m_ok i pc (.getfield q, len, a, b) = true) (hs : m_stp X call (.getfield q, len, a, b) pc lv st h = some (.inl C'))
    (k : m_At E D ty i n0 z0 p l e R s m args below meth c Q C') : m_At E D ty i n0 z0 p l e R s m args below meth c Q (pc, lv, st, h) := by
  intro H locs ls hP hS hl
  obtain ⟨⟨hx, hb, hml, hown, hts⟩, hKn, hEx, hsz, hi, hini, hR⟩ := F
  obtain ⟨hdg, hI⟩ := m_ok_sp hok
  obtain ⟨e1, e2⟩ : len = 3 ∧ ((m_oc i, q, b, a.toNat % 100) ∈ m_pf ∨ (m_oc i, q, b, a.toNat % 100) ∈ m_pfN) := of_decide_eq_true hI
  subst e1
  have hbk : b < 11 ∧ a.toNat % 100 < (m_cl b).2.2 := by
    rcases e2 with e2 | e2
    · exact (m_pf_in e2).2
    · exact (m_pfN_in e2).2
  rw [m_s_getfield] at hs
  split at hs
  · rename_i x r
    split at hs
    · rename_i t vs ho
      obtain ⟨ho1, ho2⟩ := m_ob_nth ho
      split at hs
      · rename_i e3
        subst e3
        have key : ∀ v, m_nth vs (a.toNat % 100) = some v → m_At E D ty i n0 z0 p l e R s m args below meth c Q (pc + 3, lv, v :: r, h) → W p l e R s m args below meth c H locs (h.length - n0) (m_sz h - z0) Q (F0 m pc ls ((Value.ref x :: r).map (m_rv E))) := by
          intro v hv k
          show W _ _ _ _ _ _ _ _ _ _ _ _ _ _ _ (F0 m pc ls (.ref (m_rl E x) :: r.map (m_rv E)))
          rw [m_rl_in E ho1]
          have he : (m_ws E ty h)[x]? = some (E.1 + x, .inr (t, vs.map (m_rv E))) := by
            rw [m_ws_at ho2, m_cell_o E ty (by omega)]
          have hv2 : (vs.map (m_rv E))[a.toNat % 100]? = some (m_rv E v) := by
            rw [List.getElem?_map, ← m_nth_eq, hv]
            rfl
          rcases e2 with e2 | e2
          · exact va_get hx hb hts (m_in_ok hbk.1) hown hKn.1 hP x he (m_cl_at hbk.1) (a.toNat % 100) hbk.2 (hts _ (m_pf_in e2).1) (fun _ z => z) hv2 hdg (k _ _ _ hP hS hl)
          · exact va_getN hx hb hts (m_in_ok hbk.1) hown hKn.1 hP x he (m_cl_at hbk.1) (a.toNat % 100) hbk.2 (va_Nw.use rfl (hKn.2.1 _ (m_pfN_in e2).1)) (fun _ z => z) hv2 hdg (k _ _ _ hP hS hl)
        split at hs
        · rename_i y hv
          cases hs
          exact key _ hv k
        · rename_i y hv
          cases hs
          exact key _ hv k
        · rename_i hv
          cases hs
          exact key _ hv k
        · cases hs
      · cases hs
    · cases hs
  · cases hs
end STEP
end
section
/-! the steps that look at the heap or change it -/
theorem m_ix_sp {x : Int32} {j : Nat} (h : m_ix x = some j) : ¬ x < 0 ∧ x.toNatClampNeg = j := by
  unfold m_ix at h
  split at h
  · cases h
  · rename_i h1
    cases h
    exact ⟨h1, rfl⟩
theorem m_fit_ok (E : m_AE) {ft : FieldType} {v : Value} (h : m_fit (m_fc ft) v = true) : narrow ft (m_rv E v) = m_rv E v ∧ fits ft (m_rv E v) = true := by
  cases ft <;> cases v <;> simp [m_fit, m_fc] at h <;> simp [m_rv, narrow, fits]
  rcases h with rfl | rfl <;> decide
theorem m_fdef (c k : Nat) : m_fd c k = (m_cl c).2.1 k := rfl
theorem m_cell_i (E : m_AE) (ty : Nat → ClassId) (vs : List Value) : m_cell E ty (20, vs) = .inl (ty 0, vs.length, .inl (fun j => m_i1 (vs.getD j (.int 0)))) := rfl
theorem m_cell_z (E : m_AE) (ty : Nat → ClassId) (vs : List Value) : m_cell E ty (21, vs) = .inl (ty 1, vs.length, .inl (fun j => m_i1 (vs.getD j (.int 0)))) := rfl
theorem m_cell_q (E : m_AE) (ty : Nat → ClassId) {t : Nat} (h : 22 ≤ t) (vs : List Value) : m_cell E ty (t, vs) = .inl (ty (t - 20), vs.length, .inr (.inr (.inr (.inr (fun j => m_or E (vs.getD j .null)))))) := by
  unfold m_cell
  rw [if_neg (by show ¬ t < 20; omega), if_neg (by show ¬ t < 22; omega)]
def m_cn5 (t : Nat) : String := (m_cl (m_cmp t)).1
theorem m_tys_q (ty : Nat → ClassId) {t : Nat} (h : 22 ≤ t ∧ t ≤ 26) : (m_tys ty)[t - 20]? = some (ty (t - 20), .object (m_cn5 t)) ∧ m_cmp t < 11 ∧ m_cn5 t ∈ m_ao := by
  have : t = 22 ∨ t = 23 ∨ t = 24 ∨ t = 25 ∨ t = 26 := by omega
  rcases this with rfl | rfl | rfl | rfl | rfl <;> exact ⟨rfl, by decide, by decide +kernel⟩
theorem m_set_i {vs : List Value} {j : Nat} (hj : j < vs.length) (x : Int32) : upd (fun q => m_i1 (vs.getD q (.int 0))) j x = fun q => m_i1 ((vs.set j (.int x)).getD q (.int 0)) := by
  funext q
  unfold upd
  by_cases hq : q = j
  · subst hq
    simp [hj, m_i1]
  · simp [hq, List.getD_eq_getElem?_getD, List.getElem?_set, Ne.symm hq]
theorem m_set_q (E : m_AE) {vs : List Value} {j : Nat} (hj : j < vs.length) (v : Value) : va_up (fun q => m_or E (vs.getD q .null)) j (m_or E v) = fun q => m_or E ((vs.set j v).getD q .null) := by
  funext q
  unfold va_up
  by_cases hq : q = j
  · subst hq
    simp [hj]
  · simp [hq, List.getD_eq_getElem?_getD, List.getElem?_set, Ne.symm hq]
theorem m_rv_rf (E : m_AE) {v : Value} (h : (∃ x, v = .ref x) ∨ v = .null) : va_rf (m_or E v) = m_rv E v := by
  rcases h with ⟨x, rfl⟩ | rfl <;> rfl
theorem m_getD_nth {vs : List Value} {j : Nat} {v dv : Value} (h : m_nth vs j = some v) : vs.getD j dv = v := by
  rw [m_nth_eq] at h
  simp [List.getD_eq_getElem?_getD, h]
theorem m_ps_in {o k j : Nat} (h : (o, k, j) ∈ m_ps) : Cond.fieldLink (m_cn o) k m_host (m_sn j) "[I" ∈ lw_good ∧ (j = 1 ∨ j = 2) := by
  have h1 := List.all_eq_true.mp m_ps_ok _ h
  dsimp only at h1
  refine ⟨m_has_in h1, ?_⟩
  simp only [m_ps, List.mem_singleton, Prod.mk.injEq] at h
  omega
theorem m_psN_in {o k j : Nat} (h : (o, k, j) ∈ m_psN) : Cond.fieldLinkNest (m_cn o) k m_host (m_sn j) "[I" m_host ∈ m_nw ∧ (j = 1 ∨ j = 2) := by
  refine ⟨?_, ?_⟩
  · unfold m_nw
    exact List.mem_append_left _ (List.mem_append_left _ (List.mem_append_right _ (List.mem_map.mpr ⟨_, h, rfl⟩)))
  · simp only [m_psN, List.mem_cons, Prod.mk.injEq, List.not_mem_nil, or_false] at h
    omega
theorem m_pc_in {o k f : Nat} (h : (o, k, f) ∈ m_pc) : Cond.classLink (m_cn o) k (m_cl f).1 ∈ lw_good ∧ Cond.instantiable (m_cl f).1 (m_cl f).2.2 ∈ lw_good ∧ Cond.initialized (m_cl f).1 ∈ lw_good ∧ f < 11 := by
  obtain ⟨j, hj⟩ := m_zip m_pc_ln m_pc_ok h
  simp only [Bool.and_eq_true, decide_eq_true_eq] at hj
  exact ⟨m_hi_in hj.1, m_hi_in hj.2.1, m_hi_in hj.2.2.1, hj.2.2.2⟩
theorem m_dfl_len {f : Nat} (h : f < 11) : (m_dfl f).length = (m_cl f).2.2 := by
  have : f = 0 ∨ f = 1 ∨ f = 2 ∨ f = 3 ∨ f = 4 ∨ f = 5 ∨ f = 6 ∨ f = 7 ∨ f = 8 ∨ f = 9 ∨ f = 10 := by omega
  rcases this with rfl | rfl | rfl | rfl | rfl | rfl | rfl | rfl | rfl | rfl | rfl <;> rfl
theorem m_dfl_ok : (List.range 11).all (fun f => (List.range (m_cl f).2.2).all (fun j => decide (defaultValue (m_ty f j) = vp_V (m_dfl f) j) && (decide (m_rv (0, fun _ => 0) (vp_V (m_dfl f) j) = vp_V (m_dfl f) j)))) = true := by decide +kernel
theorem m_dfl_rv (E : m_AE) {f : Nat} (h : f < 11) : (m_dfl f).map (m_rv E) = m_dfl f := by
  have : f = 0 ∨ f = 1 ∨ f = 2 ∨ f = 3 ∨ f = 4 ∨ f = 5 ∨ f = 6 ∨ f = 7 ∨ f = 8 ∨ f = 9 ∨ f = 10 := by omega
  rcases this with rfl | rfl | rfl | rfl | rfl | rfl | rfl | rfl | rfl | rfl | rfl <;> rfl
theorem m_dfl_at {f j : Nat} (h : f < 11) (hj : j < (m_cl f).2.2) : defaultValue (m_ty f j) = vp_V (m_dfl f) j := by
  have h1 := List.all_eq_true.mp (List.all_eq_true.mp m_dfl_ok f (List.mem_range.mpr h)) j (List.mem_range.mpr hj)
  simp only [Bool.and_eq_true, decide_eq_true_eq] at h1
  exact h1.1
theorem m_A0 {E : m_AE} {n0 : Nat} {s : State} (hsz : s.heap.size = E.1 + n0) : ∀ q : Nat, s.heap.size ≤ q → m_A E q := fun q h => Nat.le_trans (Nat.le_add_right _ _) (hsz ▸ h)
section HEAP
variable {p : Program} {l : Launch} {e : Env} {R : Room} {s : State} {m : MethodId} {args : Array Value} {below : List Frame} {meth : Method} {c : Code} {Q : State → Prop}
variable {E : m_AE} {D : va_G} {ty : Nat → ClassId} {X : Nat → List Int32} {i d n0 z0 : Nat} {call : Nat → List Value → m_H → Option m_R} {len : Nat} {a : Int} {b pc : Nat} {lv : m_L} {st : List Value} {h : m_H} {C' : m_C}
/-- how large the heap is: as large as the plain one -/
theorem m_W_sz {H : Heap} {locs : List Loc} {cells slots : Nat} {g : JFrame} (k : H.size ≤ s.heap.size + cells → W p l e R s m args below meth c H locs cells slots Q g) : W p l e R s m args below meth c H locs cells slots Q g := fun T hT Y => k (by rw [← hT]; exact Y.heapSize) T hT Y
/-- a new cell is the next one -/
theorem m_new_q {H1 : Heap} {q : Nat} {x : va_E} (hP : va_P D vwCl (m_ws E ty h ++ [(q, x)]) H1) (hD : va_D (m_A E) (m_ws E ty h ++ [(q, x)])) (hH : H1.size ≤ E.1 + h.length + 1) : q = E.1 + h.length := by
  have hq : (m_ws E ty h ++ [(q, x)])[h.length]? = some (q, x) := by
    rw [List.getElem?_append_right (by rw [m_ws_len]; exact Nat.le_refl _), m_ws_len, Nat.sub_self]
    rfl
  have h1 : q < H1.size := (hP _ _ hq).lt
  have h2 : E.1 ≤ q := hD.2 _ _ hq
  by_cases h3 : q - E.1 < h.length
  · exfalso
    have h4 : (m_ws E ty h ++ [(q, x)])[q - E.1]? = some (E.1 + (q - E.1), m_cell E ty h[q - E.1]) := by
      rw [List.getElem?_append_left (by rw [m_ws_len]; exact h3), m_ws_get, List.getElem?_eq_getElem h3]
      rfl
    have h5 := hD.1 _ _ _ _ h4 hq (by show E.1 + (q - E.1) = q; omega)
    omega
  · omega
/-- behind an allocation -/
theorem m_alloc {H1 : Heap} {locs1 : List Loc} {ls : Array Slot} {q N : Nat} {t : Nat} {vs : List Value} {x : va_E} {r : List Value} {pc' : Nat} (hsz : s.heap.size = E.1 + n0) (hn : n0 ≤ h.length) (hz : z0 ≤ m_sz h)
    (hx : x = m_cell E ty (t, vs)) (hN : vs.length = N) (hlen : h.length < 1000000) (hP : va_P D vwCl (m_ws E ty h ++ [(q, x)]) H1) (hD : va_D (m_A E) (m_ws E ty h ++ [(q, x)])) (hS : va_S (m_A E) s.heap H1 locs1) (hl : lv_has ls (m_nl i) (lv.map (m_rq E)))
    (k : m_At E D ty i n0 z0 p l e R s m args below meth c Q (pc', lv, .ref h.length :: r, h ++ [(t, vs)])) : W p l e R s m args below meth c H1 locs1 (h.length - n0 + 1) (m_sz h - z0 + N) Q (F0 m pc' ls (.ref q :: r.map (m_rv E))) := by
  refine m_W_sz (fun hH => ?_)
  have hq := m_new_q hP hD (by omega)
  subst hx
  subst hq
  have kz := k H1 locs1 ls (by rw [m_ws_add]; exact hP) hS hl
  rw [m_sz_add, List.length_append, List.length_singleton] at kz
  have e1 : h.length + 1 - n0 = h.length - n0 + 1 := by omega
  have e2 : m_sz h + vs.length - z0 = m_sz h - z0 + N := by omega
  rw [e1, e2] at kz
  have e3 : m_rv E (.ref h.length) = .ref (E.1 + h.length) := congrArg Value.ref (m_rl_in E hlen)
  have e4 : (Value.ref h.length :: r).map (m_rv E) = .ref (E.1 + h.length) :: r.map (m_rv E) := by rw [List.map_cons, e3]
  rw [e4] at kz
  exact kz
theorem m_add_sp {t : Nat} {vs : List Value} {h' : m_H} (ha : m_add h t vs = some h') : h.length < 1000000 ∧ h' = h ++ [(t, vs)] := by
  unfold m_add at ha
  split at ha
  · rename_i h1
    cases ha
    exact ⟨h1, rfl⟩
  · cases ha
theorem k_putfield (F : m_Fix E D ty X i d n0 p R s m args meth c) {q : Nat} (hok : m_ok i pc (.putfield q, len, a, b) = true) (hs : m_stp X call (.putfield q, len, a, b) pc lv st h = some (.inl C'))
    (k : m_At E D ty i n0 z0 p l e R s m args below meth c Q C') : m_At E D ty i n0 z0 p l e R s m args below meth c Q (pc, lv, st, h) := by
  intro H locs ls hP hS hl
  dsimp only at hP hl ⊢
  obtain ⟨⟨hx, hb, hml, hown, hts⟩, hKn, hEx, hsz, hi, hini, hR⟩ := F
  obtain ⟨hdg, hI⟩ := m_ok_sp hok
  have hI : (decide (len = 3 ∧ (m_oc i, q, b, a.toNat % 100) ∈ m_pf ∧ m_fc (m_ty b (a.toNat % 100)) = a.toNat / 100) && (!(m_fd b (a.toNat % 100)).2.2.2 || decide ((m_y i).name = "<init>" ∧ (m_fd b (a.toNat % 100)).1 = m_cn (m_oc i)))) = true := hI
  rw [Bool.and_eq_true, decide_eq_true_eq] at hI
  obtain ⟨⟨e1, e2, e3⟩, e4⟩ := hI
  subst e1
  obtain ⟨g1, g2, g3⟩ := m_pf_in e2
  rw [m_s_putfield] at hs
  split at hs
  · rename_i v x r
    split at hs
    · rename_i t vs ho
      obtain ⟨ho1, ho2⟩ := m_ob_nth ho
      split at hs
      · rename_i e5
        obtain ⟨e5, e6, e7⟩ := e5
        subst e5
        cases hs
        show W _ _ _ _ _ _ _ _ _ _ _ _ _ _ _ (F0 m pc ls (m_rv E v :: .ref (m_rl E x) :: r.map (m_rv E)))
        rw [m_rl_in E ho1]
        have he : (m_ws E ty h)[x]? = some (E.1 + x, .inr (t, vs.map (m_rv E))) := by
          rw [m_ws_at ho2, m_cell_o E ty (by omega)]
        rw [← e3] at e7
        obtain ⟨f1, f2⟩ := m_fit_ok E e7
        have kk : ∀ (H1 : Heap) (locs1 : List Loc), va_P D vwCl ((m_ws E ty h).set x (E.1 + x, .inr (t, (vs.map (m_rv E)).set (a.toNat % 100) (m_rv E v)))) H1 → va_D (m_A E) ((m_ws E ty h).set x (E.1 + x, .inr (t, (vs.map (m_rv E)).set (a.toNat % 100) (m_rv E v)))) → va_S (m_A E) s.heap H1 locs1 → W p l e R s m args below meth c H1 locs1 (h.length - n0) (m_sz h - z0) Q (F0 m (pc + 3) ls (r.map (m_rv E))) := by
          intro H1 locs1 hP1 _ hS1
          have kz := k H1 locs1 ls (by show va_P D vwCl (m_ws E ty (h.set x (t, vs.set (a.toNat % 100) v))) H1; rw [m_ws_set, m_cell_o E ty (by omega), List.map_set]; exact hP1) hS1 hl
          rw [List.length_set, m_sz_set ho2 (by simp)] at kz
          exact kz
        by_cases hfin : (m_fd t (a.toNat % 100)).2.2.2 = true
        · rw [hfin] at e4
          simp only [Bool.not_true, Bool.false_or, decide_eq_true_eq] at e4
          exact va_putF hx hb hts (m_in_ok g2) (m_ty t) (m_ty_ok g2) (m_nm_ok g2) hown hKn.1 hP (m_ws_D E ty h) hS x he (m_cl_at g2) (a.toNat % 100) g3 (hts _ g1) (fun _ z => z) hfin (hini e4.1) e4.2 (m_ty_ok g2 _ g3) f1 f2 (by simpa using e6) hdg kk
        · exact va_put hx hb hts (m_in_ok g2) (m_ty t) (m_ty_ok g2) (m_nm_ok g2) hown hKn.1 hP (m_ws_D E ty h) hS x he (m_cl_at g2) (a.toNat % 100) g3 (hts _ g1) (fun _ z => z) (Bool.not_eq_true _ ▸ hfin) (m_ty_ok g2 _ g3) f1 f2 (by simpa using e6) hdg kk
      · cases hs
    · cases hs
  · cases hs
theorem k_getstatic (F : m_Fix E D ty X i d n0 p R s m args meth c) {q : Nat} (hok : m_ok i pc (.getstatic q, len, a, b) = true) (hs : m_stp X call (.getstatic q, len, a, b) pc lv st h = some (.inl C'))
    (k : m_At E D ty i n0 z0 p l e R s m args below meth c Q C') : m_At E D ty i n0 z0 p l e R s m args below meth c Q (pc, lv, st, h) := by
  intro H locs ls hP hS hl
  dsimp only at hP hl ⊢
  obtain ⟨⟨hx, hb, hml, hown, hts⟩, hKn, hEx, hsz, hi, hini, hR⟩ := F
  obtain ⟨hdg, hI⟩ := m_ok_sp hok
  obtain ⟨e1, e2⟩ : len = 3 ∧ ((m_oc i, q, b) ∈ m_ps ∨ (m_oc i, q, b) ∈ m_psN) := of_decide_eq_true hI
  subst e1
  rw [m_s_getstatic] at hs
  cases hs
  have hv : m_rv E (.ref (1000000 + b)) = .ref (E.2 b) := by
    show Value.ref (m_rl E (1000000 + b)) = _
    unfold m_rl
    rw [if_neg (by omega), Nat.add_sub_cancel_left]
  have k2 : W p l e R s m args below meth c H locs (h.length - n0) (m_sz h - z0) Q (F0 m (pc + 3) ls (.ref (E.2 b) :: st.map (m_rv E))) := by
    have kz := k _ _ _ hP hS hl
    rw [List.map_cons, hv] at kz
    exact kz
  rcases e2 with e2 | e2
  · exact va_gets hx hb (hEx.2 b (m_ps_in e2).2) hS hown (hts _ (m_ps_in e2).1) (fun _ z => z) hdg k2
  · exact va_getsN hx hb (hEx.2 b (m_psN_in e2).2) hS hown (va_Nw.use rfl (hKn.2.1 _ (m_psN_in e2).1)) (fun _ z => z) hdg k2
theorem k_new (F : m_Fix E D ty X i d n0 p R s m args meth c) {q : Nat} (hok : m_ok i pc (.new q, len, a, b) = true) (hs : m_stp X call (.new q, len, a, b) pc lv st h = some (.inl C')) (hn : n0 ≤ h.length) (hz : z0 ≤ m_sz h) (hc1 : C'.2.2.2.length - n0 ≤ R.cells) (hc2 : m_sz C'.2.2.2 - z0 ≤ R.slots)
    (k : m_At E D ty i n0 z0 p l e R s m args below meth c Q C') : m_At E D ty i n0 z0 p l e R s m args below meth c Q (pc, lv, st, h) := by
  intro H locs ls hP hS hl
  dsimp only at hP hl ⊢
  obtain ⟨⟨hx, hb, hml, hown, hts⟩, hKn, hEx, hsz, hi, hini, hR⟩ := F
  obtain ⟨hdg, hI⟩ := m_ok_sp hok
  obtain ⟨e1, e2⟩ : len = 3 ∧ (m_oc i, q, b) ∈ m_pc := of_decide_eq_true hI
  subst e1
  obtain ⟨g1, g2, g3, g4⟩ := m_pc_in e2
  rw [m_s_new] at hs
  split at hs
  · rename_i h' ha
    cases hs
    obtain ⟨a1, rfl⟩ := m_add_sp ha
    rw [List.length_append, List.length_singleton] at hc1
    rw [m_sz_add, m_dfl_len g4] at hc2
    refine va_new hx hb hts (m_in_ok g4) (m_ty b) (m_ty_ok g4) hown (hts _ g1) (hts _ g2) (hts _ g3) hKn.1 hP (m_ws_D E ty h) hS (m_A0 hsz) (m_cl_at g4) (fs := m_dfl b) (fun j hj => m_dfl_at g4 hj) (by omega) (by omega) hdg (fun x H1 hP1 hD1 hS1 => ?_)
    exact m_alloc hsz hn hz (by rw [m_cell_o E ty (by omega), m_dfl_rv E g4]) (m_dfl_len g4) a1 hP1 hD1 hS1 hl k
  · cases hs
theorem k_newarray (F : m_Fix E D ty X i d n0 p R s m args meth c) {q : ArrayType} (hok : m_ok i pc (.newarray q, len, a, b) = true) (hs : m_stp X call (.newarray q, len, a, b) pc lv st h = some (.inl C')) (hn : n0 ≤ h.length) (hz : z0 ≤ m_sz h) (hc1 : C'.2.2.2.length - n0 ≤ R.cells) (hc2 : m_sz C'.2.2.2 - z0 ≤ R.slots)
    (k : m_At E D ty i n0 z0 p l e R s m args below meth c Q C') : m_At E D ty i n0 z0 p l e R s m args below meth c Q (pc, lv, st, h) := by
  intro H locs ls hP hS hl
  dsimp only at hP hl ⊢
  obtain ⟨⟨hx, hb, hml, hown, hts⟩, hKn, hEx, hsz, hi, hini, hR⟩ := F
  obtain ⟨hdg, hI⟩ := m_ok_sp hok
  obtain ⟨e1, e2⟩ : len = 2 ∧ ((q = .int ∧ b = 20) ∨ (q = .boolean ∧ b = 21)) := of_decide_eq_true hI
  subst e1
  rw [m_s_newarray] at hs
  split at hs
  · rename_i x r
    split at hs
    · rename_i w hw
      obtain ⟨w1, w2⟩ := m_ix_sp hw
      split at hs
      · rename_i w3
        split at hs
        · rename_i h' ha
          cases hs
          obtain ⟨a1, rfl⟩ := m_add_sp ha
          rw [List.length_append, List.length_singleton] at hc1
          rw [m_sz_add, List.length_replicate] at hc2
          have hf : (fun j => m_i1 ((List.replicate w (Value.int 0)).getD j (.int 0))) = fun _ => (0 : Int32) := by
            funext j
            by_cases hj : j < w <;> simp [List.getD_eq_getElem?_getD, List.getElem?_replicate, hj, m_i1]
          rcases e2 with ⟨rfl, rfl⟩ | ⟨rfl, rfl⟩
          · refine va_newa (atype := .int) (a0 := (w, .inl (fun _ => 0))) hx hb (hts _ (m_has_in m_arr_ok.1)) rfl hKn.1 hP (m_ws_D E ty h) hS (m_A0 hsz) (fun cA => rfl) w1 w2 (by show w * 4 ≤ _; omega) (by omega) (by omega) hdg (fun y cA H1 hK1 hP1 hD1 hS1 => ?_)
            have hcA : cA = ty 0 := Option.some.inj (((hK1.2 7 (cA, .int) rfl).2.symm.trans (hKn.1.2 0 (ty 0, .int) rfl).2))
            subst hcA
            exact m_alloc (t := 20) hsz hn hz (by rw [m_cell_i, hf, List.length_replicate]) (List.length_replicate ..) a1 hP1 hD1 hS1 hl k
          · refine va_newa (atype := .boolean) (a0 := (w, .inl (fun _ => 0))) hx hb (hts _ (m_has_in m_arr_ok.2)) rfl hKn.1 hP (m_ws_D E ty h) hS (m_A0 hsz) (fun cA => rfl) w1 w2 (by show w * 1 ≤ _; omega) (by omega) (by omega) hdg (fun y cA H1 hK1 hP1 hD1 hS1 => ?_)
            have hcA : cA = ty 1 := Option.some.inj (((hK1.2 7 (cA, .boolean) rfl).2.symm.trans (hKn.1.2 1 (ty 1, .boolean) rfl).2))
            subst hcA
            exact m_alloc (t := 21) hsz hn hz (by rw [m_cell_z, hf, List.length_replicate]) (List.length_replicate ..) a1 hP1 hD1 hS1 hl k
        · cases hs
      · cases hs
    · cases hs
  · cases hs
theorem k_anewarray (F : m_Fix E D ty X i d n0 p R s m args meth c) {q : Nat} (hok : m_ok i pc (.anewarray q, len, a, b) = true) (hs : m_stp X call (.anewarray q, len, a, b) pc lv st h = some (.inl C')) (hn : n0 ≤ h.length) (hz : z0 ≤ m_sz h) (hc1 : C'.2.2.2.length - n0 ≤ R.cells) (hc2 : m_sz C'.2.2.2 - z0 ≤ R.slots)
    (k : m_At E D ty i n0 z0 p l e R s m args below meth c Q C') : m_At E D ty i n0 z0 p l e R s m args below meth c Q (pc, lv, st, h) := by
  intro H locs ls hP hS hl
  dsimp only at hP hl ⊢
  obtain ⟨⟨hx, hb, hml, hown, hts⟩, hKn, hEx, hsz, hi, hini, hR⟩ := F
  obtain ⟨hdg, hI⟩ := m_ok_sp hok
  obtain ⟨e1, e2, e3⟩ : len = 3 ∧ (m_oc i, q, m_cmp b) ∈ m_pc ∧ 22 ≤ b ∧ b ≤ 26 := of_decide_eq_true hI
  subst e1
  obtain ⟨g1, -, -, g4⟩ := m_pc_in e2
  obtain ⟨t1, t2, t3⟩ := m_tys_q ty e3
  rw [m_s_anewarray] at hs
  split at hs
  · rename_i x r
    split at hs
    · rename_i w hw
      obtain ⟨w1, w2⟩ := m_ix_sp hw
      split at hs
      · rename_i w3
        split at hs
        · rename_i h' ha
          cases hs
          obtain ⟨a1, rfl⟩ := m_add_sp ha
          rw [List.length_append, List.length_singleton] at hc1
          rw [m_sz_add, List.length_replicate] at hc2
          have hf : (fun j => m_or E ((List.replicate w Value.null).getD j .null)) = fun _ => none := by
            funext j
            by_cases hj : j < w <;> simp [List.getD_eq_getElem?_getD, List.getElem?_replicate, hj, m_or]
          refine va_newq hx hb hown (hts _ g1) (hKn.2.2 _ t3) hKn.1 hP (m_ws_D E ty h) hS (m_A0 hsz) w1 w2 (by omega) (by omega) (by omega) hdg (fun y cA H1 hK1 hP1 hD1 hS1 => ?_)
          obtain ⟨_, _, -, -, -, n1⟩ := (hK1.2 7 (cA, .object (m_cn5 b)) rfl).2
          obtain ⟨_, _, -, -, -, n2⟩ := (hKn.1.2 _ _ t1).2
          have hcA : cA = ty (b - 20) := Option.some.inj (n1.symm.trans n2)
          subst hcA
          exact m_alloc (t := b) hsz hn hz (by rw [m_cell_q E ty e3.1, hf, List.length_replicate]) (List.length_replicate ..) a1 hP1 hD1 hS1 hl k
        · cases hs
      · cases hs
    · cases hs
  · cases hs
end HEAP
end
section
/-! the steps over arrays -/
theorem m_el_sp {X : Nat → List Int32} {h : m_H} {tag x : Nat} {y : Int32} {v : Value} (hE : m_el X h tag x y = some v) : ∃ j, m_ix y = some j ∧ ((x < 1000000 ∧ ∃ vs, m_nth h x = some (tag, vs) ∧ m_nth vs j = some v) ∨ (¬ x < 1000000 ∧ tag = 20 ∧ x - 1000000 < 3 ∧ ∃ w, m_nth (X (x - 1000000)) j = some w ∧ v = .int w)) := by
  unfold m_el at hE
  split at hE
  · cases hE
  · rename_i j hj
    refine ⟨j, hj, ?_⟩
    split at hE
    · rename_i h1
      split at hE
      · rename_i t vs ho
        split at hE
        · rename_i e3
          subst e3
          exact Or.inl ⟨h1, vs, ho, hE⟩
        · cases hE
      · cases hE
    · rename_i h1
      split at hE
      · rename_i h2
        obtain ⟨w, hw, rfl⟩ := Option.map_eq_some_iff.mp hE
        exact Or.inr ⟨h1, h2.1, h2.2.1, w, hw, rfl⟩
      · cases hE
theorem m_in_nth {α : Type} {vs : List α} {y : Int32} {j : Nat} {v : α} (hj : m_ix y = some j) (hv : m_nth vs j = some v) : vp_in y vs.length := by
  obtain ⟨w1, w2⟩ := m_ix_sp hj
  rintro (q | q)
  · exact w1 q
  · have := m_nth_lt hv
    omega
theorem m_in_lt {y : Int32} {j n : Nat} (hj : m_ix y = some j) (hv : j < n) : vp_in y n := by
  obtain ⟨w1, w2⟩ := m_ix_sp hj
  rintro (q | q)
  · exact w1 q
  · omega
theorem m_se_sp {h h' : m_H} {tag x : Nat} {y : Int32} {v : Value} (hE : m_se h tag x y v = some h') : ∃ j vs, m_ix y = some j ∧ x < 1000000 ∧ m_nth h x = some (tag, vs) ∧ j < vs.length ∧ h' = h.set x (tag, vs.set j v) := by
  unfold m_se at hE
  split at hE
  · cases hE
  · rename_i j hj
    split at hE
    · rename_i t vs ho
      split at hE
      · rename_i e3
        obtain ⟨rfl, e4⟩ := e3
        cases hE
        obtain ⟨ho1, ho2⟩ := m_ob_nth ho
        exact ⟨j, vs, hj, ho1, ho2, e4, rfl⟩
      · cases hE
    · cases hE
theorem m_rl_ex (E : m_AE) {x : Nat} (h : ¬ x < 1000000) : m_rl E x = E.2 (x - 1000000) := if_neg h
section HEAP
variable {p : Program} {l : Launch} {e : Env} {R : Room} {s : State} {m : MethodId} {args : Array Value} {below : List Frame} {meth : Method} {c : Code} {Q : State → Prop}
variable {E : m_AE} {D : va_G} {ty : Nat → ClassId} {X : Nat → List Int32} {i d n0 z0 : Nat} {call : Nat → List Value → m_H → Option m_R} {len : Nat} {a : Int} {b pc : Nat} {lv : m_L} {st : List Value} {h : m_H} {C' : m_C}
theorem k_arraylength (F : m_Fix E D ty X i d n0 p R s m args meth c) (hok : m_ok i pc (.arraylength, len, a, b) = true) (hs : m_stp X call (.arraylength, len, a, b) pc lv st h = some (.inl C'))
    (k : m_At E D ty i n0 z0 p l e R s m args below meth c Q C') : m_At E D ty i n0 z0 p l e R s m args below meth c Q (pc, lv, st, h) := by
  intro H locs ls hP hS hl
  dsimp only at hP hl ⊢
  obtain ⟨⟨hx, hb, hml, hown, hts⟩, hKn, hEx, hsz, hi, hini, hR⟩ := F
  obtain ⟨hdg, hI⟩ := m_ok_sp hok
  have e1 : len = 1 := of_decide_eq_true hI
  subst e1
  rw [m_s_arraylength] at hs
  split at hs
  · rename_i x r
    split at hs
    · rename_i n hn
      cases hs
      show W _ _ _ _ _ _ _ _ _ _ _ _ _ _ _ (F0 m pc ls (.ref (m_rl E x) :: r.map (m_rv E)))
      unfold m_ln at hn
      split at hn
      · rename_i h1
        split at hn
        · rename_i t vs ho
          split at hn
          · rename_i e3
            cases hn
            rw [m_rl_in E h1]
            by_cases t1 : t = 20
            · subst t1
              have hw := m_ws_at (E := E) (ty := ty) ho
              rw [m_cell_i] at hw
              exact va_alen hx hb hKn.1 hP x 0 hw rfl rfl hdg (k _ _ _ hP hS hl)
            · by_cases t2 : t = 21
              · subst t2
                have hw := m_ws_at (E := E) (ty := ty) ho
                rw [m_cell_z] at hw
                exact va_alen hx hb hKn.1 hP x 1 hw rfl rfl hdg (k _ _ _ hP hS hl)
              · obtain ⟨q1, -, -⟩ := m_tys_q ty (t := t) (by omega)
                have hw := m_ws_at (E := E) (ty := ty) ho
                rw [m_cell_q E ty (by omega)] at hw
                exact va_alen hx hb hKn.1 hP x (t - 20) hw q1 rfl hdg (k _ _ _ hP hS hl)
          · cases hn
        · cases hn
      · rename_i h1
        split at hn
        · rename_i h2
          cases hn
          rw [m_rl_ex E h1]
          exact va_tlen hx hb (hEx.1 _ h2.1) hS rfl hdg (k _ _ _ hP hS hl)
        · cases hn
    · cases hs
  · cases hs
theorem k_iaload (F : m_Fix E D ty X i d n0 p R s m args meth c) (hok : m_ok i pc (.iaload, len, a, b) = true) (hs : m_stp X call (.iaload, len, a, b) pc lv st h = some (.inl C'))
    (k : m_At E D ty i n0 z0 p l e R s m args below meth c Q C') : m_At E D ty i n0 z0 p l e R s m args below meth c Q (pc, lv, st, h) := by
  intro H locs ls hP hS hl
  dsimp only at hP hl ⊢
  obtain ⟨⟨hx, hb, hml, hown, hts⟩, hKn, hEx, hsz, hi, hini, hR⟩ := F
  obtain ⟨hdg, hI⟩ := m_ok_sp hok
  have e1 : len = 1 := of_decide_eq_true hI
  subst e1
  rw [m_s_iaload] at hs
  split at hs
  · rename_i y x r
    split at hs
    · rename_i v hv
      cases hs
      show W _ _ _ _ _ _ _ _ _ _ _ _ _ _ _ (F0 m pc ls (.int y :: .ref (m_rl E x) :: r.map (m_rv E)))
      obtain ⟨j, hj, ⟨h1, vs, g1, g2⟩ | ⟨h1, -, h3, w, g1, g2⟩⟩ := m_el_sp hv
      · rw [m_rl_in E h1]
        refine va_iald hx hb hKn.1 hP x 0 (by rw [m_ws_at g1, m_cell_i]) rfl (m_in_nth hj g2) hdg ?_
        rw [(m_ix_sp hj).2, m_getD_nth g2]
        exact k _ _ _ hP hS hl
      · rw [m_rl_ex E h1]
        cases g2
        refine va_ti hx hb (hEx.1 _ h3) hS (m_in_nth hj g1) ?_ hdg (k _ _ _ hP hS hl)
        rw [m_nth_eq] at g1
        simp [(m_ix_sp hj).2, List.getD_eq_getElem?_getD, g1, m_rv]
    · cases hs
  · cases hs
theorem k_baload (F : m_Fix E D ty X i d n0 p R s m args meth c) (hok : m_ok i pc (.baload, len, a, b) = true) (hs : m_stp X call (.baload, len, a, b) pc lv st h = some (.inl C'))
    (k : m_At E D ty i n0 z0 p l e R s m args below meth c Q C') : m_At E D ty i n0 z0 p l e R s m args below meth c Q (pc, lv, st, h) := by
  intro H locs ls hP hS hl
  dsimp only at hP hl ⊢
  obtain ⟨⟨hx, hb, hml, hown, hts⟩, hKn, hEx, hsz, hi, hini, hR⟩ := F
  obtain ⟨hdg, hI⟩ := m_ok_sp hok
  have e1 : len = 1 := of_decide_eq_true hI
  subst e1
  rw [m_s_baload] at hs
  split at hs
  · rename_i y x r
    split at hs
    · rename_i v hv
      cases hs
      show W _ _ _ _ _ _ _ _ _ _ _ _ _ _ _ (F0 m pc ls (.int y :: .ref (m_rl E x) :: r.map (m_rv E)))
      obtain ⟨j, hj, ⟨h1, vs, g1, g2⟩ | ⟨h1, h2, -⟩⟩ := m_el_sp hv
      · rw [m_rl_in E h1]
        refine va_zald hx hb hKn.1 hP x 1 (by rw [m_ws_at g1, m_cell_z]) rfl (m_in_nth hj g2) hdg ?_
        rw [(m_ix_sp hj).2, m_getD_nth g2]
        exact k _ _ _ hP hS hl
      · exact absurd h2 (by decide)
    · cases hs
  · cases hs
theorem k_aaload (F : m_Fix E D ty X i d n0 p R s m args meth c) (hok : m_ok i pc (.aaload, len, a, b) = true) (hs : m_stp X call (.aaload, len, a, b) pc lv st h = some (.inl C'))
    (k : m_At E D ty i n0 z0 p l e R s m args below meth c Q C') : m_At E D ty i n0 z0 p l e R s m args below meth c Q (pc, lv, st, h) := by
  intro H locs ls hP hS hl
  dsimp only at hP hl ⊢
  obtain ⟨⟨hx, hb, hml, hown, hts⟩, hKn, hEx, hsz, hi, hini, hR⟩ := F
  obtain ⟨hdg, hI⟩ := m_ok_sp hok
  have e1 : len = 1 := of_decide_eq_true hI
  subst e1
  rw [m_s_aaload] at hs
  split at hs
  · rename_i y x r
    split at hs
    · rename_i t vs j ho hj
      obtain ⟨ho1, ho2⟩ := m_ob_nth ho
      split at hs
      · rename_i e3
        obtain ⟨q1, -, -⟩ := m_tys_q ty e3
        have key : ∀ v, ((∃ z, v = .ref z) ∨ v = .null) → m_nth vs j = some v → m_At E D ty i n0 z0 p l e R s m args below meth c Q (pc + 1, lv, v :: r, h) → W p l e R s m args below meth c H locs (h.length - n0) (m_sz h - z0) Q (F0 m pc ls ((Value.int y :: Value.ref x :: r).map (m_rv E))) := by
          intro v hv0 hv k
          show W _ _ _ _ _ _ _ _ _ _ _ _ _ _ _ (F0 m pc ls (.int y :: .ref (m_rl E x) :: r.map (m_rv E)))
          rw [m_rl_in E ho1]
          refine va_aldq hx hb hKn.1 hP x (t - 20) (by rw [m_ws_at ho2, m_cell_q E ty e3.1]) q1 (m_in_nth hj hv) hdg ?_
          rw [(m_ix_sp hj).2, m_getD_nth hv, m_rv_rf E hv0]
          exact k _ _ _ hP hS hl
        split at hs
        · rename_i z hv
          cases hs
          exact key _ (Or.inl ⟨_, rfl⟩) hv k
        · rename_i hv
          cases hs
          exact key _ (Or.inr rfl) hv k
        · cases hs
      · cases hs
    · cases hs
  · cases hs
theorem k_iastore (F : m_Fix E D ty X i d n0 p R s m args meth c) (hok : m_ok i pc (.iastore, len, a, b) = true) (hs : m_stp X call (.iastore, len, a, b) pc lv st h = some (.inl C'))
    (k : m_At E D ty i n0 z0 p l e R s m args below meth c Q C') : m_At E D ty i n0 z0 p l e R s m args below meth c Q (pc, lv, st, h) := by
  intro H locs ls hP hS hl
  dsimp only at hP hl ⊢
  obtain ⟨⟨hx, hb, hml, hown, hts⟩, hKn, hEx, hsz, hi, hini, hR⟩ := F
  obtain ⟨hdg, hI⟩ := m_ok_sp hok
  have e1 : len = 1 := of_decide_eq_true hI
  subst e1
  rw [m_s_iastore] at hs
  split at hs
  · rename_i v y x r
    split at hs
    · rename_i h' hE
      obtain ⟨j, vs, hj, h1, g1, g2, rfl⟩ := m_se_sp hE
      cases hs
      show W _ _ _ _ _ _ _ _ _ _ _ _ _ _ _ (F0 m pc ls (.int v :: .int y :: .ref (m_rl E x) :: r.map (m_rv E)))
      rw [m_rl_in E h1]
      refine va_iast hx hb hKn.1 hP (m_ws_D E ty h) hS x 0 (by rw [m_ws_at g1, m_cell_i]) rfl (m_in_lt hj g2) hdg (fun H1 locs1 hP1 _ hS1 => ?_)
      have kz := k H1 locs1 ls (by
        show va_P D vwCl (m_ws E ty (h.set x (20, vs.set j (.int v)))) H1
        rw [m_ws_set, m_cell_i, ← m_set_i g2, List.length_set]
        rw [(m_ix_sp hj).2] at hP1
        exact hP1) hS1 hl
      rw [List.length_set, m_sz_set g1 (by simp)] at kz
      exact kz
    · cases hs
  · cases hs
theorem m_narz {x : Int32} (h : x = 0 ∨ x = 1) : vp_nar .boolean x = x := by
  rcases h with rfl | rfl <;> rfl
theorem k_bastore (F : m_Fix E D ty X i d n0 p R s m args meth c) (hok : m_ok i pc (.bastore, len, a, b) = true) (hs : m_stp X call (.bastore, len, a, b) pc lv st h = some (.inl C'))
    (k : m_At E D ty i n0 z0 p l e R s m args below meth c Q C') : m_At E D ty i n0 z0 p l e R s m args below meth c Q (pc, lv, st, h) := by
  intro H locs ls hP hS hl
  dsimp only at hP hl ⊢
  obtain ⟨⟨hx, hb, hml, hown, hts⟩, hKn, hEx, hsz, hi, hini, hR⟩ := F
  obtain ⟨hdg, hI⟩ := m_ok_sp hok
  have e1 : len = 1 := of_decide_eq_true hI
  subst e1
  rw [m_s_bastore] at hs
  split at hs
  · rename_i v y x r
    split at hs
    rotate_left
    · cases hs
    rename_i hz
    split at hs
    · rename_i h' hE
      obtain ⟨j, vs, hj, h1, g1, g2, rfl⟩ := m_se_sp hE
      cases hs
      show W _ _ _ _ _ _ _ _ _ _ _ _ _ _ _ (F0 m pc ls (.int v :: .int y :: .ref (m_rl E x) :: r.map (m_rv E)))
      rw [m_rl_in E h1]
      refine va_zast hx hb hKn.1 hP (m_ws_D E ty h) hS x 1 (by rw [m_ws_at g1, m_cell_z]) rfl (m_in_lt hj g2) hdg (fun H1 locs1 hP1 _ hS1 => ?_)
      have kz := k H1 locs1 ls (by
        show va_P D vwCl (m_ws E ty (h.set x (21, vs.set j (.int v)))) H1
        rw [m_ws_set, m_cell_z, ← m_set_i g2, List.length_set]
        rw [(m_ix_sp hj).2, m_narz hz] at hP1
        exact hP1) hS1 hl
      rw [List.length_set, m_sz_set g1 (by simp)] at kz
      exact kz
    · cases hs
  · cases hs
theorem k_aastore (F : m_Fix E D ty X i d n0 p R s m args meth c) (hok : m_ok i pc (.aastore, len, a, b) = true) (hs : m_stp X call (.aastore, len, a, b) pc lv st h = some (.inl C'))
    (k : m_At E D ty i n0 z0 p l e R s m args below meth c Q C') : m_At E D ty i n0 z0 p l e R s m args below meth c Q (pc, lv, st, h) := by
  intro H locs ls hP hS hl
  dsimp only at hP hl ⊢
  obtain ⟨⟨hx, hb, hml, hown, hts⟩, hKn, hEx, hsz, hi, hini, hR⟩ := F
  obtain ⟨hdg, hI⟩ := m_ok_sp hok
  have e1 : len = 1 := of_decide_eq_true hI
  subst e1
  rw [m_s_aastore] at hs
  split at hs
  · rename_i v y x r
    split at hs
    · rename_i t vs j ho hj
      obtain ⟨ho1, ho2⟩ := m_ob_nth ho
      split at hs
      · rename_i e3
        obtain ⟨t1, t2, g2, e4⟩ := e3
        obtain ⟨q1, q2, -⟩ := m_tys_q ty ⟨t1, t2⟩
        cases hs
        have kk : ∀ (H1 : Heap) (locs1 : List Loc), va_P D vwCl ((m_ws E ty h).set x (E.1 + x, .inl (ty (t - 20), vs.length, .inr (.inr (.inr (.inr (va_up (fun j => m_or E (vs.getD j .null)) y.toNatClampNeg (m_or E v)))))))) H1 → va_S (m_A E) s.heap H1 locs1 → W p l e R s m args below meth c H1 locs1 (h.length - n0) (m_sz h - z0) Q (F0 m (pc + 1) ls (r.map (m_rv E))) := by
          intro H1 locs1 hP1 hS1
          have kz := k H1 locs1 ls (by
            show va_P D vwCl (m_ws E ty (h.set x (t, vs.set j v))) H1
            rw [m_ws_set, m_cell_q E ty t1, ← m_set_q E g2, List.length_set]
            rw [(m_ix_sp hj).2] at hP1
            exact hP1) hS1 hl
          rw [List.length_set, m_sz_set ho2 (by simp)] at kz
          exact kz
        have hws : (m_ws E ty h)[x]? = some (E.1 + x, .inl (ty (t - 20), vs.length, .inr (.inr (.inr (.inr (fun j => m_or E (vs.getD j .null))))))) := by rw [m_ws_at ho2, m_cell_q E ty t1]
        cases v with
        | null =>
          show W _ _ _ _ _ _ _ _ _ _ _ _ _ _ _ (F0 m pc ls (.null :: .int y :: .ref (m_rl E x) :: r.map (m_rv E)))
          rw [m_rl_in E ho1]
          exact va_astqN hx hb hKn.1 hP (m_ws_D E ty h) hS x (t - 20) hws q1 (m_in_lt hj g2) hdg (fun H1 locs1 hP1 _ hS1 => kk H1 locs1 hP1 hS1)
        | ref z =>
          show W _ _ _ _ _ _ _ _ _ _ _ _ _ _ _ (F0 m pc ls (.ref (m_rl E z) :: .int y :: .ref (m_rl E x) :: r.map (m_rv E)))
          unfold m_asg at e4
          dsimp only at e4
          split at e4
          · rename_i t' us hz
            obtain ⟨hz1, hz2⟩ := m_ob_nth hz
            have e5 : t' = m_cmp t := by simpa using e4
            have hm : m_or E (.ref z) = some (E.1 + z) := congrArg some (m_rl_in E hz1)
            rw [hm] at kk
            rw [m_rl_in E ho1, m_rl_in E hz1]
            exact va_astq hx hb hKn.1 hP (m_ws_D E ty h) hS x (t - 20) z t' (r := m_cl t') hws (by rw [e5]; exact q1) (by rw [m_ws_at hz2, m_cell_o E ty (by omega)]) (m_cl_at (by omega)) (m_in_lt hj g2) hdg (fun H1 locs1 hP1 _ hS1 => kk H1 locs1 hP1 hS1)
          · cases e4
        | int _ => cases e4
        | long _ => cases e4
        | float _ => cases e4
        | double _ => cases e4
        | retAddr _ => cases e4
      · cases hs
    · cases hs
  · cases hs
end HEAP
end
section
/-! calls -/
def m_coLL : List (List (Nat × Nat)) := [[(0, 127), (1, 484), (2, 798), (3, 539), (4, 628), (5, 601), (6, 133), (7, 489), (8, 672), (9, 561)], [(10, 573), (11, 569), (12, 632), (13, 660), (14, 664), (15, 512), (16, 237), (17, 349), (18, 464), (19, 404)], [(20, 416), (21, 420), (22, 424), (23, 432), (24, 448), (25, 452), (26, 456), (27, 436), (28, 412), (29, 428)], [(30, 408), (31, 257), (32, 697), (33, 701), (34, 705), (35, 708), (36, 723), (37, 712), (38, 716), (39, 752)], [(40, 756), (41, 91), (42, 793), (43, 472), (44, 498), (45, 624), (46, 597), (47, 609), (48, 354), (49, 397)], [(50, 440), (51, 460), (52, 551), (53, 444), (54, 543), (55, 547), (56, 565), (57, 577), (58, 554), (59, 103)], [(60, 804), (61, 764), (62, 768), (63, 776), (64, 268), (65, 727), (66, 732), (67, 736), (68, 740), (69, 83)], [(70, 341), (71, 345), (72, 468), (73, 476), (74, 480), (75, 494), (76, 582), (77, 589), (78, 593), (79, 605)], [(80, 616), (81, 638), (82, 642), (83, 652), (84, 656), (85, 668), (86, 679), (87, 683), (88, 687), (89, 744)], [(90, 748), (91, 760), (92, 780), (93, 784), (94, 789), (95, 809), (96, 813), (97, 501), (98, 504), (99, 619)], [(100, 507), (101, 690), (102, 693), (103, 557), (104, 818), (105, 959), (106, 1021), (107, 1040), (108, 1046), (109, 1028)], [(110, 1127), (111, 956), (112, 972), (113, 992), (114, 976), (115, 1004), (116, 1000), (117, 996), (118, 988), (119, 984)], [(120, 980), (121, 1013), (122, 1009), (123, 968), (124, 964), (125, 1017), (126, 1025), (127, 1070), (128, 1066), (129, 1078)], [(130, 1062), (131, 1074), (132, 1058), (133, 1050), (134, 1054), (135, 1043), (136, 1032), (137, 1036), (138, 1082), (139, 1087)], [(140, 1116), (141, 1095), (142, 1091), (143, 1103), (144, 1099), (145, 1112), (146, 1107), (147, 1120), (148, 1124), (149, 1131)], [(150, 1135), (151, 1139), (152, 1143), (153, 1147), (154, 1163), (155, 1167), (156, 1171), (157, 1159), (158, 1175), (159, 1155)], [(160, 1151), (161, 1183), (162, 1179), (163, 1191), (164, 1187), (165, 1203), (166, 1218), (167, 1207), (168, 1199), (169, 1215)], [(170, 1211), (171, 1226), (172, 1222), (173, 1195), (174, 1230), (175, 1234), (176, 1238), (177, 1242), (178, 1246), (179, 645)], [(180, 400)]]
theorem m_coLL_ok : ∀ l ∈ m_coLL, ∀ e ∈ l, m_nth lw_tbl e.2 = some (.code (m_y e.1) (m_b e.1) (m_nl e.1) (m_rt e.1)) := List.forall_mem_cons.mpr ⟨m_co_0, List.forall_mem_cons.mpr ⟨m_co_10, List.forall_mem_cons.mpr ⟨m_co_20, List.forall_mem_cons.mpr ⟨m_co_30, List.forall_mem_cons.mpr ⟨m_co_40, List.forall_mem_cons.mpr ⟨m_co_50, List.forall_mem_cons.mpr ⟨m_co_60, List.forall_mem_cons.mpr ⟨m_co_70, List.forall_mem_cons.mpr ⟨m_co_80, List.forall_mem_cons.mpr ⟨m_co_90, List.forall_mem_cons.mpr ⟨m_co_100, List.forall_mem_cons.mpr ⟨m_co_110, List.forall_mem_cons.mpr ⟨m_co_120, List.forall_mem_cons.mpr ⟨m_co_130, List.forall_mem_cons.mpr ⟨m_co_140, List.forall_mem_cons.mpr ⟨m_co_150, List.forall_mem_cons.mpr ⟨m_co_160, List.forall_mem_cons.mpr ⟨m_co_170, List.forall_mem_cons.mpr ⟨m_co_180, fun _ h => absurd h List.not_mem_nil⟩⟩⟩⟩⟩⟩⟩⟩⟩⟩⟩⟩⟩⟩⟩⟩⟩⟩⟩
def m_isM (j : Nat) : Prop := j < 182 ∧ ¬ j = 181
theorem m_coLL_all : (List.range 182).all (fun j => j == 181 || m_coLL.any (fun l => l.any (fun e => e.1 == j))) = true := by decide +kernel
theorem m_code_in {j : Nat} (h : m_isM j) : Cond.code (m_y j) (m_b j) (m_nl j) (m_rt j) ∈ lw_good := by
  have h1 := List.all_eq_true.mp m_coLL_all j (List.mem_range.mpr h.1)
  rw [Bool.or_eq_true] at h1
  rcases h1 with h1 | h1
  · exact absurd (by simpa using h1) h.2
  · obtain ⟨l, hl, h2⟩ := List.any_eq_true.mp h1
    obtain ⟨e, he, h3⟩ := List.any_eq_true.mp h2
    have h4 := m_coLL_ok l hl e he
    have h5 : e.1 = j := by simpa using h3
    rw [h5, m_nth_eq] at h4
    exact List.mem_filter.mpr ⟨List.mem_of_getElem? h4, rfl⟩
/-- the words of a method: its code, and all that the tables keep -/
def m_wsM (j : Nat) : List Cond := .code (m_y j) (m_b j) (m_nl j) (m_rt j) :: lw_good
theorem m_good {w : Cond} (h : w ∈ lw_good) : w ∈ lw_good ∧ ((w.onTables && w.keeps) = true ∨ ∃ t, w = .arrayClass t) := ⟨h, good_of_word (lw_good_ok h)⟩
theorem m_wsM_in {j : Nat} (h : m_isM j) : GoodIn lw_good (m_wsM j) := by
  intro w hw
  rcases List.mem_cons.mp hw with rfl | hw
  · exact m_good (m_code_in h)
  · exact m_good hw
theorem m_cn_ne (k : Nat) : m_cn k ≠ "java/lang/invoke/MethodHandle" ∧ m_cn k ≠ "java/lang/invoke/VarHandle" := by
  unfold m_cn
  rw [List.getD_eq_getElem?_getD]
  cases hk : m_cnL[k]? with
  | none => exact ⟨by decide, by decide⟩
  | some x =>
    have h1 : ∀ x ∈ m_cnL, x ≠ "java/lang/invoke/MethodHandle" ∧ x ≠ "java/lang/invoke/VarHandle" := by decide +kernel
    exact h1 x (List.mem_of_getElem? hk)
theorem m_calls_sp {j : Nat} (h : m_calls j = true) : Cond.initialized (m_y j).cls ∈ lw_good ∧ (m_y j).cls = m_cn (m_oc j) ∧ (parseMethodDescriptor (m_y j).desc).map (fun d => d.parameters.length) = some (m_na j) ∧ m_nl j ≤ 40 ∧ m_isM j := by
  simp only [m_calls, Bool.and_eq_true, decide_eq_true_eq] at h
  exact ⟨m_hi_in h.1.1, h.1.2.1, h.1.2.2.1, h.1.2.2.2.1, h.2⟩
theorem m_pmV_in {o k j : Nat} (h : (o, k, j) ∈ m_pmV) : Cond.methodLink (m_cn o) k (m_y j) ∈ lw_good ∧ m_callV j = true := by
  obtain ⟨z, hz⟩ := m_zip m_pmV_ln m_pmV_lk h
  have h2 := List.all_eq_true.mp m_pmV_q _ h
  exact ⟨m_hi_in hz, List.all_eq_true.mp m_qV_ok j (List.contains_iff_mem.mp h2)⟩
theorem m_pmS_in {o k j : Nat} (h : (o, k, j) ∈ m_pmS) : Cond.methodLink (m_cn o) k (m_y j) ∈ lw_good ∧ m_callS j = true := by
  obtain ⟨z, hz⟩ := m_zip m_pmS_ln m_pmS_lk h
  have h2 := List.all_eq_true.mp m_pmS_q _ (List.mem_append_left _ h)
  exact ⟨m_hi_in hz, List.all_eq_true.mp m_qS_ok j (List.contains_iff_mem.mp h2)⟩
theorem m_pmSN_in {o k j : Nat} (h : (o, k, j) ∈ m_pmSN) : Cond.methodLinkNest (m_cn o) k (m_y j) m_host ∈ m_nw ∧ m_callS j = true := by
  have h2 := List.all_eq_true.mp m_pmS_q _ (List.mem_append_right _ h)
  refine ⟨?_, List.all_eq_true.mp m_qS_ok j (List.contains_iff_mem.mp h2)⟩
  unfold m_nw
  exact List.mem_append_left _ (List.mem_append_right _ (List.mem_map.mpr ⟨_, h, rfl⟩))
theorem m_pmI_in {o k j : Nat} (h : (o, k, j) ∈ m_pmI) : Cond.methodLink (m_cn o) k (m_y j) ∈ lw_good ∧ m_inits j = true := by
  obtain ⟨z, hz⟩ := m_zip m_pmI_ln m_pmI_lk h
  have h2 := List.all_eq_true.mp m_pmI_q _ (List.mem_append_left _ h)
  exact ⟨m_hi_in hz, List.all_eq_true.mp m_qI_ok j (List.contains_iff_mem.mp h2)⟩
theorem m_pmIN_in {o k j : Nat} (h : (o, k, j) ∈ m_pmIN) : Cond.methodLinkNest (m_cn o) k (m_y j) m_host ∈ m_nw ∧ m_inits j = true := by
  have h2 := List.all_eq_true.mp m_pmI_q _ (List.mem_append_right _ h)
  refine ⟨?_, List.all_eq_true.mp m_qI_ok j (List.contains_iff_mem.mp h2)⟩
  unfold m_nw
  exact List.mem_append_right _ (List.mem_map.mpr ⟨_, h, rfl⟩)
def m_Pc (E : m_AE) (D : va_G) (ty : Nat → ClassId) (X : Nat → List Int32) (as : List Value) (h : m_H) : Array Value → State → Prop := fun a U => a = (as.map (m_rv E)).toArray ∧ m_B E D ty X h U
def m_Qc (E : m_AE) (D : va_G) (ty : Nat → ClassId) (X : Nat → List Int32) (v : Option Value) (h : m_H) : Array Value → State → Outcome → State → Prop := fun _ st o t => o = .returned (v.map (m_rv E)) ∧ m_B E D ty X h t ∧ va_F (m_A E) st t
/-- what the called methods do is what the small machine says -/
def m_Met (l : Launch) (E : m_AE) (D : va_G) (ty : Nat → ClassId) (X : Nat → List Int32) (call : Nat → List Value → m_H → Option m_R) (d : Nat) : Prop :=
  ∀ (j : Nat) (as : List Value) (h : m_H) (v : Option Value) (h' : m_H), m_isM j → call j as h = some (v, h') → (h.length ≤ h'.length ∧ m_sz h ≤ m_sz h') ∧ Met l (m_y j) (m_wsM j) { frames := d, cells := h'.length - h.length, slots := m_sz h' - m_sz h, locals := 100 * d } (m_Pc E D ty X as h) (m_Qc E D ty X v h') (h'.length - h.length) (m_sz h' - m_sz h) (m_A E)
theorem m_Pc_blind {E : m_AE} {D : va_G} {ty : Nat → ClassId} {X : Nat → List Int32} {as : List Value} {h : m_H} : FrameBlind (m_Pc E D ty X as h) := by
  rintro a U g mk ⟨h1, h2, h3, h4, h5⟩
  exact ⟨h1, h2, h3, h4.same (U := U.calling g mk a) rfl, h5.kept (U := U.calling g mk a) (Vm.Alike.refl U.vm) (fun _ _ _ => rfl)⟩
theorem m_cat_sum {E : m_AE} {r : List Value} (h : r.length ≤ 4) : ((r.map (m_rv E)).map fun v => v.category).sum ≤ 8 := by
  have h1 : ∀ r : List Value, ((r.map (m_rv E)).map fun v => v.category).sum ≤ 2 * r.length := by
    intro r
    induction r with
    | nil => exact Nat.le_refl _
    | cons v r ih =>
      have h2 : (m_rv E v).category ≤ 2 := by cases v <;> simp [m_rv, Value.category]
      simp only [List.map_cons, List.sum_cons, List.length_cons]
      omega
  have := h1 r
  omega
section CALL
variable {p : Program} {l : Launch} {e : Env} {R : Room} {s : State} {m : MethodId} {args : Array Value} {below : List Frame} {meth : Method} {c : Code} {Q : State → Prop}
variable {E : m_AE} {D : va_G} {ty : Nat → ClassId} {X : Nat → List Int32} {i d n0 z0 : Nat} {call : Nat → List Value → m_H → Option m_R} {len : Nat} {a : Int} {b pc : Nat} {lv : m_L} {st : List Value} {h : m_H} {C' : m_C}
variable {H : Heap} {locs : List Loc} {ls : Array Slot} {v : Option Value} {h' : m_H} {as : List Value} {r : List Value}
theorem m_size_ge {H : Heap} (hP : va_P D vwCl (m_ws E ty h) H) (hb : E.1 ≤ H.size) : E.1 + h.length ≤ H.size := by
  cases hn : h.length with
  | zero => exact hb
  | succ n =>
    have h1 : (m_ws E ty h)[n]? = some (E.1 + n, m_cell E ty h[n]) := by
      rw [m_ws_get, List.getElem?_eq_getElem (by omega)]
      rfl
    have := (hP _ _ h1).lt
    dsimp only at this
    omega
/-- the world at a call -/
theorem m_B_at {U : State} (hsz : s.heap.size = E.1 + n0) (hKn : m_Kn D ty s) (hEx : m_Ex E X s s.heap) (hP : va_P D vwCl (m_ws E ty h) H) (hS : va_S (m_A E) s.heap H locs) (hn : n0 ≤ h.length) (hH : H.size ≤ s.heap.size + (h.length - n0)) (hU : U.heap = H) (hW : s.WarmedH U.vm) : m_B E D ty X h U := by
  refine ⟨?_, by rw [hU]; exact hP, hKn.warm hW, hEx.kept hW.alike (fun q h1 h2 => by rw [hU]; exact hS.2.1 q h1 h2)⟩
  rw [hU]
  have h1 := m_size_ge hP (by have := hS.1; omega)
  omega
/-- behind a call -/
theorem m_back (hsz : s.heap.size = E.1 + n0) (hr : va_Run p l e R s m args below meth c H locs (h.length - n0) (m_sz h - z0) (h'.length - h.length) (m_sz h' - m_sz h) (F0 m pc ls (st.map (m_rv E))) (r.map (m_rv E)) (m_Qc E D ty X v h' (as.map (m_rv E)).toArray) (m_A E))
    (hS : va_S (m_A E) s.heap H locs) (hl : lv_has ls (m_nl i) (lv.map (m_rq E))) (hn : n0 ≤ h.length) (hz : z0 ≤ m_sz h) (hm : h.length ≤ h'.length ∧ m_sz h ≤ m_sz h')
    (k : m_At E D ty i n0 z0 p l e R s m args below meth c Q (pc + 3, lv, v.toList ++ r, h')) : W p l e R s m args below meth c H locs (h.length - n0) (m_sz h - z0) Q (F0 m pc ls (st.map (m_rv E))) := by
  intro T hT Y
  obtain ⟨w, st₀, t, T', L, h0, X', hL, e1, e2, ⟨hv, hB, hz1, hk⟩, stp⟩ := hr T hT Y
  have hw : w = v.map (m_rv E) := by cases hv; rfl
  subst hw
  rw [h0] at hz1 hk
  have kz := k T'.heap (locs ++ L) ls (by rw [e1]; exact hB.2.1)
    ⟨Nat.le_trans hS.1 (by rw [e1]; exact hz1), fun q g1 g2 => by rw [e1, hk q (Nat.lt_of_lt_of_le g1 hS.1) g2]; exact hS.2.1 q g1 g2, fun q hq => by
      rcases List.mem_append.mp hq with g | g
      · exact hS.2.2 q g
      · exact hL q g⟩ hl
  dsimp only at kz
  have e3 : h'.length - n0 = h.length - n0 + (h'.length - h.length) := by omega
  have e4 : m_sz h' - z0 = m_sz h - z0 + (m_sz h' - m_sz h) := by omega
  rw [e3, e4] at kz
  have e5 : (v.toList ++ r).map (m_rv E) = (v.map (m_rv E)).toList ++ r.map (m_rv E) := by
    rw [List.map_append]
    cases v <;> rfl
  rw [e5] at kz
  obtain ⟨t2, a1, b1⟩ := kz T' rfl X'
  exact ⟨t2, stp t2 a1, b1⟩
theorem m_cwB {j : Nat} (hts : ∀ w ∈ lw_good, w.before args s = true) (hc : m_calls j = true) {d' : Nat} (hR : d' + 1 ≤ R.frames ∧ 100 * (d' + 1) ≤ R.locals) {o q mc ms : Nat} (hk : Cond.methodLink (m_cn o) q (m_y j) ∈ lw_good) :
    CallB R s args (m_cn o) q (m_y j) (m_b j) (m_nl j) (m_rt j) (m_wsM j) { frames := d', cells := mc, slots := ms, locals := 100 * d' } mc ms (m_na j) := by
  obtain ⟨g1, g2, g3, g4, g5⟩ := m_calls_sp hc
  refine callB_of (m_na j) hts (m_wsM_in g5) rfl rfl rfl (hts _ g1) (hts _ hk) ⟨?_, ?_, g3⟩ ⟨hR.1, ?_⟩
  · rw [g2]; exact (m_cn_ne _).1
  · rw [g2]; exact (m_cn_ne _).2
  · show 8 + (m_nl j + 11) + 100 * d' ≤ R.locals
    omega
theorem m_cnB {j : Nat} (hts : ∀ w ∈ lw_good, w.before args s = true) (hc : m_calls j = true) {d' : Nat} (hR : d' + 1 ≤ R.frames ∧ 100 * (d' + 1) ≤ R.locals) {o q mc ms : Nat} (hk : va_Nw (.methodLinkNest (m_cn o) q (m_y j) m_host) s) :
    va_CN R s args (m_cn o) q (m_y j) m_host (m_b j) (m_nl j) (m_rt j) (m_wsM j) { frames := d', cells := mc, slots := ms, locals := 100 * d' } mc ms (m_na j) := by
  obtain ⟨g1, g2, g3, g4, g5⟩ := m_calls_sp hc
  refine va_cnB (m_na j) hts (m_wsM_in g5) rfl rfl rfl hk (hts _ g1) ⟨?_, ?_, g3⟩ ⟨hR.1, ?_⟩
  · rw [g2]; exact (m_cn_ne _).1
  · rw [g2]; exact (m_cn_ne _).2
  · show 8 + (m_nl j + 11) + 100 * d' ≤ R.locals
    omega
end CALL
end
section
/-! the steps that call -/
theorem m_cl_cn {t : Nat} (h : t < 11) : (m_cl t).1 = m_cn t := by
  have : t = 0 ∨ t = 1 ∨ t = 2 ∨ t = 3 ∨ t = 4 ∨ t = 5 ∨ t = 6 ∨ t = 7 ∨ t = 8 ∨ t = 9 ∨ t = 10 := by omega
  rcases this with rfl | rfl | rfl | rfl | rfl | rfl | rfl | rfl | rfl | rfl | rfl <;> rfl
theorem m_cpy_len {us vs : List Value} {x y w : Nat} (h1 : x + w ≤ us.length) (h2 : y + w ≤ vs.length) : (vs.take y ++ ((us.drop x).take w ++ vs.drop (y + w))).length = vs.length := by
  simp only [List.length_append, List.length_take, List.length_drop]
  omega
theorem m_cpy {us vs : List Value} {x y w : Nat} (h1 : x + w ≤ us.length) (h2 : y + w ≤ vs.length) : va_cpy (fun q => m_i1 (us.getD q (.int 0))) (fun q => m_i1 (vs.getD q (.int 0))) x y w = fun q => m_i1 ((vs.take y ++ ((us.drop x).take w ++ vs.drop (y + w))).getD q (.int 0)) := by
  funext q
  unfold va_cpy
  simp only [List.getD_eq_getElem?_getD, List.getElem?_append, List.length_take, List.length_drop, List.getElem?_take, List.getElem?_drop]
  by_cases g1 : y ≤ q ∧ q < y + w
  · rw [if_pos g1, if_neg (by omega), if_pos (by omega), if_pos (by omega)]
    congr 3
    omega
  · rw [if_neg g1]
    by_cases g2 : q < y
    · rw [if_pos (by omega), if_pos g2]
    · rw [if_neg (by omega), if_neg (by omega)]
      congr 3
      omega
theorem m_acp_sp {h h' : m_H} {x q : Nat} {sp dp n : Int32} (hE : m_acp h x sp q dp n = some h') : ∃ i j w us vs, m_ix sp = some i ∧ m_ix dp = some j ∧ m_ix n = some w ∧ x < 1000000 ∧ m_nth h x = some (20, us) ∧ q < 1000000 ∧ m_nth h q = some (20, vs) ∧ i + w ≤ us.length ∧ j + w ≤ vs.length ∧ h' = h.set q (20, vs.take j ++ ((us.drop i).take w ++ vs.drop (j + w))) := by
  unfold m_acp at hE
  split at hE
  · rename_i i j w hi hj hw
    split at hE
    · rename_i t us t' vs ho ho'
      split at hE
      · rename_i e3
        obtain ⟨rfl, rfl, e4, e5⟩ := e3
        cases hE
        exact ⟨i, j, w, us, vs, hi, hj, hw, (m_ob_nth ho).1, (m_ob_nth ho).2, (m_ob_nth ho').1, (m_ob_nth ho').2, e4, e5, rfl⟩
      · cases hE
    · cases hE
  · cases hE
theorem m_po_in {o k : Nat} (h : (o, k) ∈ m_po) : Cond.methodLink (m_cn o) k objectInit ∈ lw_good ∧ Cond.instanceMethod objectInit ∈ lw_good ∧ Cond.code objectInit ⟨#[0xb1]⟩ 1 none ∈ lw_good := by
  have h1 := List.all_eq_true.mp m_po_ok _ h
  simp only [Bool.and_eq_true] at h1
  exact ⟨m_has_in h1.1, m_has_in h1.2.1, m_has_in h1.2.2⟩
theorem m_pa_in {o k : Nat} (h : (o, k) ∈ m_pa) : Cond.methodLink (m_cn o) k arraycopyName ∈ lw_good ∧ Cond.native arraycopyName ∈ lw_good ∧ Cond.static arraycopyName ∈ lw_good ∧ Cond.initialized "java/lang/System" ∈ lw_good := by
  have h1 := List.all_eq_true.mp m_pa_ok _ h
  simp only [Bool.and_eq_true] at h1
  exact ⟨m_has_in h1.1, m_has_in h1.2.1, m_has_in h1.2.2.1, m_has_in h1.2.2.2⟩
theorem m_acp_room : nativeFrameWords "java/lang/System" "arraycopy" 5 + 11 ≤ 90 := by decide +kernel
section HEAP
variable {p : Program} {l : Launch} {e : Env} {R : Room} {s : State} {m : MethodId} {args : Array Value} {below : List Frame} {meth : Method} {c : Code} {Q : State → Prop}
variable {E : m_AE} {D : va_G} {ty : Nat → ClassId} {X : Nat → List Int32} {i d n0 z0 : Nat} {call : Nat → List Value → m_H → Option m_R} {len : Nat} {a : Int} {b pc : Nat} {lv : m_L} {st : List Value} {h : m_H} {C' : m_C}
theorem k_invokevirtual (F : m_Fix E D ty X i d n0 p R s m args meth c) {q : Nat} (hok : m_ok i pc (.invokevirtual q, len, a, b) = true) (hs : m_stp X call (.invokevirtual q, len, a, b) pc lv st h = some (.inl C')) (hn : n0 ≤ h.length) (hz : z0 ≤ m_sz h) (hc1 : C'.2.2.2.length - n0 ≤ R.cells) (hc2 : m_sz C'.2.2.2 - z0 ≤ R.slots) (hM : m_Met l E D ty X call d)
    (k : m_At E D ty i n0 z0 p l e R s m args below meth c Q C') : m_At E D ty i n0 z0 p l e R s m args below meth c Q (pc, lv, st, h) := by
  intro H locs ls hP hS hl
  dsimp only at hP hl ⊢
  obtain ⟨⟨hx, hb, hml, hown, hts⟩, hKn, hEx, hsz, hi, hini, hR⟩ := F
  obtain ⟨hdg, hI⟩ := m_ok_sp hok
  obtain ⟨e1, e2, e2b⟩ : len = 3 ∧ (m_oc i, q, a.toNat) ∈ m_pmV ∧ b = m_na a.toNat := of_decide_eq_true hI
  subst e1
  obtain ⟨g1, g2⟩ := m_pmV_in e2
  simp only [m_callV, Bool.and_eq_true, decide_eq_true_eq] at g2
  obtain ⟨g3, g4, g5, g6⟩ := g2
  rw [m_s_invokevirtual] at hs
  split at hs
  · rename_i x r heq
    split at hs
    · rename_i t vs ho
      obtain ⟨ho1, ho2⟩ := m_ob_nth ho
      split at hs
      · rename_i e3
        obtain ⟨e3, e4, e5⟩ := e3
        split at hs
        · rename_i v h' hcall
          cases hs
          obtain ⟨hm, hMet⟩ := hM _ _ _ _ _ (m_calls_sp g5).2.2.2.2 hcall
          dsimp only at hc1 hc2
          have hrl : m_rv E (.ref x) = .ref (m_rl E x) := rfl
          have hst2 : st.map (m_rv E) = (((st.take b).reverse).map (m_rv E)).reverse ++ .ref (m_rl E x) :: r.map (m_rv E) := by
            rw [← hrl, ← List.map_cons, ← heq, List.map_reverse, List.reverse_reverse, ← List.map_append, List.take_append_drop]
          have he : (m_ws E ty h)[x]? = some (E.1 + x, .inr (t, vs.map (m_rv E))) := by
            rw [m_ws_at ho2, m_cell_o E ty (by omega)]
          refine m_W_sz (fun hH => ?_)
          refine m_back (X := X) hsz (as := .ref x :: (st.take b).reverse) ?_ hS hl hn hz hm k
          have hlen : (((st.take b).reverse).map (m_rv E)).length = m_na a.toNat := by
            rw [List.length_map, List.length_reverse, List.length_take, ← e2b]
            omega
          have hpre : PreV s H (m_cn (m_oc a.toNat)) (m_rl E x) (m_Pc E D ty X (.ref x :: (st.take b).reverse) h) (((st.take b).reverse).map (m_rv E)) := by
            refine ⟨m_Pc_blind, ?_, fun U hU hW => ⟨by rw [List.map_cons, hrl], m_B_at hsz hKn hEx hP hS hn hH hU hW⟩⟩
            have := va_recv hKn.1 hP (m_cl_at (i := t) (by omega)) he
            dsimp only at this
            rw [m_cl_cn (by omega), e3] at this
            rw [m_rl_in E ho1]
            exact this
          have hrm : h.length - n0 + (h'.length - h.length) ≤ R.cells ∧ m_sz h - z0 + (m_sz h' - m_sz h) ≤ R.slots := ⟨by omega, by omega⟩
          exact va_runV ⟨hx, hb, hml, hown, hts⟩ hMet ⟨m_cwB hts g5 hR g1, hts _ (m_hi_in g3), hts _ (m_hi_in g4)⟩ hpre rfl hlen hl.1 hst2 (lv_room (m_cat_sum e4)) hdg hrm
        · cases hs
      · cases hs
    · cases hs
  · cases hs
theorem k_invokestatic (F : m_Fix E D ty X i d n0 p R s m args meth c) {q : Nat} (hok : m_ok i pc (.invokestatic q, len, a, b) = true) (hs : m_stp X call (.invokestatic q, len, a, b) pc lv st h = some (.inl C')) (hn : n0 ≤ h.length) (hz : z0 ≤ m_sz h) (hc1 : C'.2.2.2.length - n0 ≤ R.cells) (hc2 : m_sz C'.2.2.2 - z0 ≤ R.slots) (hM : m_Met l E D ty X call d)
    (k : m_At E D ty i n0 z0 p l e R s m args below meth c Q C') : m_At E D ty i n0 z0 p l e R s m args below meth c Q (pc, lv, st, h) := by
  intro H locs ls hP hS hl
  dsimp only at hP hl ⊢
  obtain ⟨⟨hx, hb, hml, hown, hts⟩, hKn, hEx, hsz, hi, hini, hR⟩ := F
  obtain ⟨hdg, hI⟩ := m_ok_sp hok
  rw [m_s_invokestatic] at hs
  by_cases h9 : a.toNat = 9999
  · rw [if_pos h9] at hs
    have hI : (if a.toNat = 9999 then decide (len = 3 ∧ (m_oc i, q) ∈ m_pa) else decide (len = 3 ∧ ((m_oc i, q, a.toNat) ∈ m_pmS ∨ (m_oc i, q, a.toNat) ∈ m_pmSN) ∧ b = m_na a.toNat)) = true := hI
    rw [if_pos h9, decide_eq_true_eq] at hI
    obtain ⟨e1, e2⟩ := hI
    subst e1
    obtain ⟨p1, p2, p3, p4⟩ := m_pa_in e2
    split at hs
    · rename_i n dp y sp x r
      split at hs
      · rename_i h' hE
        split at hs
        · rename_i hr4
          cases hs
          obtain ⟨i1, j1, w1, us, vs, f1, f2, f3, f4, f5, f6, f7, f8, f9, rfl⟩ := m_acp_sp hE
          obtain ⟨u1, u2⟩ := m_ix_sp f1
          obtain ⟨u3, u4⟩ := m_ix_sp f2
          obtain ⟨u5, u6⟩ := m_ix_sp f3
          show W _ _ _ _ _ _ _ _ _ _ _ _ _ _ _ (F0 m pc ls (.int n :: .int dp :: .ref (m_rl E y) :: .int sp :: .ref (m_rl E x) :: r.map (m_rv E)))
          rw [m_rl_in E f4, m_rl_in E f6]
          refine va_copyi hx hb (hml.trans hl.1.symm) hown (hts _ p1) (hts _ p2) (hts _ p3) (hts _ p4) hKn.1 hP (m_ws_D E ty h) hS x y 0 0 (by rw [m_ws_at f5, m_cell_i]) (by rw [m_ws_at f7, m_cell_i]) rfl rfl rfl u1 u3 u5 (by rw [u2, u6]; exact f8) (by rw [u4, u6]; exact f9) (fun _ _ => rfl) (by omega) ?_ hdg (fun H1 locs1 hP1 _ hS1 => ?_)
          · have h1 := m_cat_sum (E := E) hr4
            have h2 := m_acp_room
            omega
          · have kz := k H1 locs1 ls (by
              show va_P D vwCl (m_ws E ty (h.set y (20, vs.take j1 ++ ((us.drop i1).take w1 ++ vs.drop (j1 + w1))))) H1
              rw [m_ws_set, m_cell_i, ← m_cpy f8 f9, m_cpy_len f8 f9]
              rw [u2, u4, u6] at hP1
              exact hP1) hS1 hl
            dsimp only at kz
            rw [List.length_set, m_sz_set f7 (m_cpy_len f8 f9)] at kz
            exact kz
        · cases hs
      · cases hs
    · cases hs
  · rw [if_neg h9] at hs
    have hI : (if a.toNat = 9999 then decide (len = 3 ∧ (m_oc i, q) ∈ m_pa) else decide (len = 3 ∧ ((m_oc i, q, a.toNat) ∈ m_pmS ∨ (m_oc i, q, a.toNat) ∈ m_pmSN) ∧ b = m_na a.toNat)) = true := hI
    rw [if_neg h9, decide_eq_true_eq] at hI
    obtain ⟨e1, e2, e2b⟩ := hI
    subst e1
    have hcs : m_callS a.toNat = true := by
      rcases e2 with e2 | e2
      · exact (m_pmS_in e2).2
      · exact (m_pmSN_in e2).2
    simp only [m_callS, Bool.and_eq_true] at hcs
    obtain ⟨g3, g5⟩ := hcs
    split at hs
    · rename_i e3
      obtain ⟨e4, e5⟩ := e3
      split at hs
      · rename_i v h' hcall
        cases hs
        obtain ⟨hm, hMet⟩ := hM _ _ _ _ _ (m_calls_sp g5).2.2.2.2 hcall
        dsimp only at hc1 hc2
        have hst2 : st.map (m_rv E) = (((st.take b).reverse).map (m_rv E)).reverse ++ (st.drop b).map (m_rv E) := by
          rw [List.map_reverse, List.reverse_reverse, ← List.map_append, List.take_append_drop]
        have hlen : (((st.take b).reverse).map (m_rv E)).length = m_na a.toNat := by
          rw [List.length_map, List.length_reverse, List.length_take, ← e2b]
          omega
        refine m_W_sz (fun hH => ?_)
        refine m_back (X := X) hsz (as := (st.take b).reverse) ?_ hS hl hn hz hm k
        have hpre : PreS s H (m_Pc E D ty X (st.take b).reverse h) (((st.take b).reverse).map (m_rv E)) := ⟨m_Pc_blind, fun U hU hW => ⟨rfl, m_B_at hsz hKn hEx hP hS hn hH hU hW⟩⟩
        have hrm : h.length - n0 + (h'.length - h.length) ≤ R.cells ∧ m_sz h - z0 + (m_sz h' - m_sz h) ≤ R.slots := ⟨by omega, by omega⟩
        rcases e2 with e2 | e2
        · exact va_runS ⟨hx, hb, hml, hown, hts⟩ hMet ⟨m_cwB hts g5 hR (m_pmS_in e2).1, hts _ (m_hi_in g3)⟩ hpre rfl hlen hl.1 hst2 (lv_room (m_cat_sum e4)) hdg hrm
        · exact va_runSN ⟨hx, hb, hml, hown, hts⟩ hMet ⟨m_cnB hts g5 hR (hKn.2.1 _ (m_pmSN_in e2).1), hts _ (m_hi_in g3), trivial⟩ hpre rfl hlen hl.1 hst2 (lv_room (m_cat_sum e4)) hdg hrm
      · cases hs
    · cases hs
theorem k_invokespecial (F : m_Fix E D ty X i d n0 p R s m args meth c) {q : Nat} (hok : m_ok i pc (.invokespecial q, len, a, b) = true) (hs : m_stp X call (.invokespecial q, len, a, b) pc lv st h = some (.inl C')) (hn : n0 ≤ h.length) (hz : z0 ≤ m_sz h) (hc1 : C'.2.2.2.length - n0 ≤ R.cells) (hc2 : m_sz C'.2.2.2 - z0 ≤ R.slots) (hM : m_Met l E D ty X call d)
    (k : m_At E D ty i n0 z0 p l e R s m args below meth c Q C') : m_At E D ty i n0 z0 p l e R s m args below meth c Q (pc, lv, st, h) := by
  intro H locs ls hP hS hl
  dsimp only at hP hl ⊢
  obtain ⟨⟨hx, hb, hml, hown, hts⟩, hKn, hEx, hsz, hi, hini, hR⟩ := F
  obtain ⟨hdg, hI⟩ := m_ok_sp hok
  rw [m_s_invokespecial] at hs
  by_cases h9 : a.toNat = 9998
  · rw [if_pos h9] at hs
    have hI : (if a.toNat = 9998 then decide (len = 3 ∧ (m_oc i, q) ∈ m_po) else decide (len = 3 ∧ ((m_oc i, q, a.toNat) ∈ m_pmI ∨ (m_oc i, q, a.toNat) ∈ m_pmIN) ∧ b = m_na a.toNat)) = true := hI
    rw [if_pos h9, decide_eq_true_eq] at hI
    obtain ⟨e1, e2⟩ := hI
    subst e1
    obtain ⟨p1, p2, p3⟩ := m_po_in e2
    split at hs
    · rename_i x r
      split at hs
      · rename_i hr4
        cases hs
        refine W.objInit hx hb hown (hts _ p1) (hts _ p2) (hts _ p3) (g := F0 m pc ls ((Value.ref x :: r).map (m_rv E))) rfl (hl.1.trans hml.symm) rfl hdg (by omega) ?_ (k _ _ _ hP hS hl)
        have h1 := m_cat_sum (E := E) hr4
        show 2 * 0 + _ + 12 ≤ R.locals
        omega
      · cases hs
    · cases hs
  · rw [if_neg h9] at hs
    have hI : (if a.toNat = 9998 then decide (len = 3 ∧ (m_oc i, q) ∈ m_po) else decide (len = 3 ∧ ((m_oc i, q, a.toNat) ∈ m_pmI ∨ (m_oc i, q, a.toNat) ∈ m_pmIN) ∧ b = m_na a.toNat)) = true := hI
    rw [if_neg h9, decide_eq_true_eq] at hI
    obtain ⟨e1, e2, e2b⟩ := hI
    subst e1
    have hcs : m_inits a.toNat = true := by
      rcases e2 with e2 | e2
      · exact (m_pmI_in e2).2
      · exact (m_pmIN_in e2).2
    simp only [m_inits, Bool.and_eq_true, decide_eq_true_eq] at hcs
    obtain ⟨g3, g4, g5, g6⟩ := hcs
    split at hs
    · rename_i x r heq
      split at hs
      · rename_i e3
        obtain ⟨e4, e5, e6⟩ := e3
        split at hs
        · rename_i v h' hcall
          cases hs
          obtain ⟨hm, hMet⟩ := hM _ _ _ _ _ (m_calls_sp g5).2.2.2.2 hcall
          dsimp only at hc1 hc2
          have hrl : m_rv E (.ref x) = .ref (m_rl E x) := rfl
          have hst2 : st.map (m_rv E) = (((st.take b).reverse).map (m_rv E)).reverse ++ .ref (m_rl E x) :: r.map (m_rv E) := by
            rw [← hrl, ← List.map_cons, ← heq, List.map_reverse, List.reverse_reverse, ← List.map_append, List.take_append_drop]
          have hlen : (((st.take b).reverse).map (m_rv E)).length = m_na a.toNat := by
            rw [List.length_map, List.length_reverse, List.length_take, ← e2b]
            omega
          refine m_W_sz (fun hH => ?_)
          refine m_back (X := X) hsz (as := .ref x :: (st.take b).reverse) ?_ hS hl hn hz hm k
          have hpre : PreS s H (m_Pc E D ty X (.ref x :: (st.take b).reverse) h) (.ref (m_rl E x) :: ((st.take b).reverse).map (m_rv E)) := ⟨m_Pc_blind, fun U hU hW => ⟨by rw [List.map_cons, hrl], m_B_at hsz hKn hEx hP hS hn hH hU hW⟩⟩
          have hrm : h.length - n0 + (h'.length - h.length) ≤ R.cells ∧ m_sz h - z0 + (m_sz h' - m_sz h) ≤ R.slots := ⟨by omega, by omega⟩
          rcases e2 with e2 | e2
          · have hcw := m_cwB (mc := h'.length - h.length) (ms := m_sz h' - m_sz h) hts g5 hR (m_pmI_in e2).1
            rw [g6] at hcw
            exact va_runI ⟨hx, hb, hml, hown, hts⟩ hMet ⟨hcw, g4, hts _ (m_hi_in g3)⟩ hpre rfl hlen hl.1 hst2 (lv_room (m_cat_sum e4)) hdg hrm
          · have hcw := m_cnB (mc := h'.length - h.length) (ms := m_sz h' - m_sz h) hts g5 hR (hKn.2.1 _ (m_pmIN_in e2).1)
            rw [g6] at hcw
            exact va_runIN ⟨hx, hb, hml, hown, hts⟩ hMet ⟨hcw, g4, hts _ (m_hi_in g3)⟩ hpre rfl hlen hl.1 hst2 (lv_room (m_cat_sum e4)) hdg hrm
        · cases hs
      · cases hs
    · cases hs
end HEAP
end
