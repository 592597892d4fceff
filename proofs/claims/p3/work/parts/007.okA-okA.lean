/-! each instruction of the tables is what the bytes say, and its numbers are what the pools say -/
def m_len : Instr → Nat
  | .bipush _ => 2
  | .sipush _ => 3
  | .iload _ => 2
  | .lload _ => 2
  | .aload _ => 2
  | _ => 1
def m_fc : FieldType → Nat
  | .int => 0
  | .boolean => 1
  | .object _ => 2
  | .array _ => 2
  | _ => 9
def m_okI (i pc : Nat) (en : m_E) : Bool := match en with
  | (ins, len, a, b) => match ins with
  | .tableswitch _ _ _ _ => true
  | .lookupswitch _ ps => (ps.toList.zip (ps.toList.drop 1)).all (fun (a, next) => a.1 < next.1)
  | .istore_n k => decide (len = 1 ∧ k.val < m_nl i)
  | .istore k => decide (len = 2 ∧ k < m_nl i)
  | .astore_n k => decide (len = 1 ∧ k.val < m_nl i)
  | .astore k => decide (len = 2 ∧ k < m_nl i)
  | .iinc k _ => decide (len = 3 ∧ k < m_nl i)
  | .ifCond _ off => decide (len = 3 ∧ (pc : Int) + off = ((a.toNat : Nat) : Int))
  | .if_icmp _ off => decide (len = 3 ∧ (pc : Int) + off = ((a.toNat : Nat) : Int))
  | .ifnull off => decide (len = 3 ∧ (pc : Int) + off = ((a.toNat : Nat) : Int))
  | .ifnonnull off => decide (len = 3 ∧ (pc : Int) + off = ((a.toNat : Nat) : Int))
  | .goto off => decide (len = 3 ∧ (pc : Int) + off = ((a.toNat : Nat) : Int))
  | .ldc k => decide (len = 2 ∧ (m_oc i, k, a) ∈ m_pk)
  | .ldc_w k => decide (len = 3 ∧ (m_oc i, k, a) ∈ m_pk)
  | .ldc2_w k => decide (len = 3 ∧ (m_oc i, k, a) ∈ m_pl)
  | .getfield k => decide (len = 3 ∧ ((m_oc i, k, b, a.toNat % 100) ∈ m_pf ∨ (m_oc i, k, b, a.toNat % 100) ∈ m_pfN))
  | .putfield k => decide (len = 3 ∧ (m_oc i, k, b, a.toNat % 100) ∈ m_pf ∧ m_fc (m_ty b (a.toNat % 100)) = a.toNat / 100) && (!(m_fd b (a.toNat % 100)).2.2.2 || decide ((m_y i).name = "<init>" ∧ (m_fd b (a.toNat % 100)).1 = m_cn (m_oc i)))
  | .getstatic k => decide (len = 3 ∧ ((m_oc i, k, b) ∈ m_ps ∨ (m_oc i, k, b) ∈ m_psN))
  | .new k => decide (len = 3 ∧ (m_oc i, k, b) ∈ m_pc)
  | .newarray t => decide (len = 2 ∧ ((t = .int ∧ b = 20) ∨ (t = .boolean ∧ b = 21)))
  | .anewarray k => decide (len = 3 ∧ (m_oc i, k, m_cmp b) ∈ m_pc ∧ 22 ≤ b ∧ b ≤ 26)
  | .invokevirtual k => decide (len = 3 ∧ (m_oc i, k, a.toNat) ∈ m_pmV ∧ b = m_na a.toNat)
  | .invokestatic k => if a.toNat = 9999 then decide (len = 3 ∧ (m_oc i, k) ∈ m_pa) else decide (len = 3 ∧ ((m_oc i, k, a.toNat) ∈ m_pmS ∨ (m_oc i, k, a.toNat) ∈ m_pmSN) ∧ b = m_na a.toNat)
  | .invokespecial k => if a.toNat = 9998 then decide (len = 3 ∧ (m_oc i, k) ∈ m_po) else decide (len = 3 ∧ ((m_oc i, k, a.toNat) ∈ m_pmI ∨ (m_oc i, k, a.toNat) ∈ m_pmIN) ∧ b = m_na a.toNat)
  | .ireturn => decide (len = 1 ∧ ((m_rt i = some .int ∧ b = 0) ∨ (m_rt i = some .boolean ∧ b = 1)))
  | .areturn => (match m_rt i with
    | some (.object _) => decide (len = 1)
    | _ => false)
  | .return_ => decide (len = 1 ∧ m_rt i = none)
  | .aconst_null | .iconst _ | .bipush _ | .sipush _ | .iload_n _ | .iload _ | .lload_n _ | .lload _ | .aload_n _ | .aload _ | .iadd | .isub | .imul | .idiv | .irem | .ineg | .iand | .ior | .ixor | .ishl | .ishr | .iushr | .i2l | .l2i | .land | .lor | .lshl | .lshr | .lushr | .dup | .dup2 | .pop | .arraylength | .iaload | .iastore | .baload | .bastore | .aaload | .aastore => decide (len = m_len ins)
  | _ => false
def m_ok (i pc : Nat) (en : m_E) : Bool := decide (decode (m_b i) pc = .ok (en.1, en.2.1)) && m_okI i pc en
def m_okE (i : Nat) (q : Option m_E × Nat) : Bool := match q.1 with
  | some en => m_ok i q.2 en
  | none => true
def m_okM (i : Nat) : Bool := (m_code i).zipIdx.all (m_okE i)
set_option maxRecDepth 100000 in
theorem m_okM_0 : ([0, 1, 2, 3, 4, 5, 6, 7, 8, 9, 10, 11, 12] : List Nat).all m_okM = true := by decide +kernel
set_option maxRecDepth 100000 in
theorem m_okM_1 : ([13, 14, 15, 16, 17, 18, 19, 20] : List Nat).all m_okM = true := by decide +kernel
set_option maxRecDepth 100000 in
theorem m_okM_2 : ([21, 22, 23, 24, 25] : List Nat).all m_okM = true := by decide +kernel
set_option maxRecDepth 100000 in
theorem m_okM_3 : ([26, 27, 28, 29, 30] : List Nat).all m_okM = true := by decide +kernel
set_option maxRecDepth 100000 in
theorem m_okM_4 : ([31, 32, 33, 34, 35, 36] : List Nat).all m_okM = true := by decide +kernel
set_option maxRecDepth 100000 in
theorem m_okM_5 : ([37, 38, 39, 40, 41] : List Nat).all m_okM = true := by decide +kernel
set_option maxRecDepth 100000 in
theorem m_okM_6 : ([42, 43, 44, 45, 46, 47] : List Nat).all m_okM = true := by decide +kernel
set_option maxRecDepth 100000 in
theorem m_okM_7 : ([48, 49, 50, 51, 52, 53, 54, 55] : List Nat).all m_okM = true := by decide +kernel
set_option maxRecDepth 100000 in
theorem m_okM_8 : ([56, 57, 58, 59, 60, 61, 62] : List Nat).all m_okM = true := by decide +kernel
set_option maxRecDepth 100000 in
theorem m_okM_9 : ([63, 64, 65, 66] : List Nat).all m_okM = true := by decide +kernel
set_option maxRecDepth 100000 in
theorem m_okM_10 : ([67, 68, 69, 70, 71, 72] : List Nat).all m_okM = true := by decide +kernel
set_option maxRecDepth 100000 in
theorem m_okM_11 : ([73, 74, 75, 76, 77, 78] : List Nat).all m_okM = true := by decide +kernel
set_option maxRecDepth 100000 in
theorem m_okM_12 : ([79, 80, 81, 82, 83] : List Nat).all m_okM = true := by decide +kernel
set_option maxRecDepth 100000 in
theorem m_okM_13 : ([84, 85, 86, 87, 88] : List Nat).all m_okM = true := by decide +kernel
set_option maxRecDepth 100000 in
theorem m_okM_14 : ([89, 90, 91, 92] : List Nat).all m_okM = true := by decide +kernel
set_option maxRecDepth 100000 in
theorem m_okM_15 : ([93, 94, 95, 96, 97, 98, 99, 100, 101, 102, 103, 104] : List Nat).all m_okM = true := by decide +kernel
set_option maxRecDepth 100000 in
theorem m_okM_16 : ([105, 106, 107, 108, 109, 110, 111, 112, 113, 114, 115] : List Nat).all m_okM = true := by decide +kernel
set_option maxRecDepth 100000 in
theorem m_okM_17 : ([116, 117, 118] : List Nat).all m_okM = true := by decide +kernel
set_option maxRecDepth 100000 in
theorem m_okM_18 : ([119, 120, 121, 122, 124] : List Nat).all m_okM = true := by decide +kernel
set_option maxRecDepth 100000 in
theorem m_okM_19 : ([125, 126, 127, 128, 129, 130] : List Nat).all m_okM = true := by decide +kernel
set_option maxRecDepth 100000 in
theorem m_okM_20 : ([131, 133, 134, 135, 136] : List Nat).all m_okM = true := by decide +kernel
set_option maxRecDepth 100000 in
theorem m_okM_21 : ([137, 138, 139, 140, 141, 142] : List Nat).all m_okM = true := by decide +kernel
set_option maxRecDepth 100000 in
theorem m_okM_22 : ([143, 144, 145, 146] : List Nat).all m_okM = true := by decide +kernel
set_option maxRecDepth 100000 in
theorem m_okM_23 : ([147, 148, 149, 150, 151] : List Nat).all m_okM = true := by decide +kernel
set_option maxRecDepth 100000 in
theorem m_okM_24 : ([152, 153, 154, 155, 156] : List Nat).all m_okM = true := by decide +kernel
set_option maxRecDepth 100000 in
theorem m_okM_25 : ([158, 159, 160, 161, 162] : List Nat).all m_okM = true := by decide +kernel
set_option maxRecDepth 100000 in
theorem m_okM_26 : ([163, 164, 165, 166] : List Nat).all m_okM = true := by decide +kernel
set_option maxRecDepth 100000 in
theorem m_okM_27 : ([167, 168, 169, 170, 171, 172, 173, 174, 175] : List Nat).all m_okM = true := by decide +kernel
set_option maxRecDepth 100000 in
theorem m_okM_28 : ([176, 177, 178, 179, 180] : List Nat).all m_okM = true := by decide +kernel
set_option maxRecDepth 100000 in
theorem m_okM_29 : ([123] : List Nat).all m_okM = true := by decide +kernel
set_option maxRecDepth 100000 in
theorem m_okM_30 : ([132] : List Nat).all m_okM = true := by decide +kernel
set_option maxRecDepth 100000 in
theorem m_okM_31 : ([157] : List Nat).all m_okM = true := by decide +kernel
