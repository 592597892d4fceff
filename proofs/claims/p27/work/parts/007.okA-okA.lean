/-! each instruction of the tables is what the bytes say, and its numbers are what the pools say -/
def m_len : Instr → Nat
  | .bipush _ => 2
  | .sipush _ => 3
  | .iload _ => 2
  | .lload _ => 2
  | .aload _ => 2
  | _ => 1
def m_fc : FieldType → Nat
  | .int => 0
  | .boolean => 1
  | .object _ => 2
  | .array _ => 2
  | _ => 9
def m_okI (i pc : Nat) (en : m_E) : Bool := match en with
  | (ins, len, a, b) => match ins with
  | .tableswitch _ _ _ _ => true
  | .lookupswitch _ ps => (ps.toList.zip (ps.toList.drop 1)).all (fun (a, next) => a.1 < next.1)
  | .istore_n k => decide (len = 1 ∧ k.val < m_nl i)
  | .istore k => decide (len = 2 ∧ k < m_nl i)
  | .astore_n k => decide (len = 1 ∧ k.val < m_nl i)
  | .astore k => decide (len = 2 ∧ k < m_nl i)
  | .iinc k _ => decide (len = 3 ∧ k < m_nl i)
  | .ifCond _ off => decide (len = 3 ∧ (pc : Int) + off = ((a.toNat : Nat) : Int))
  | .if_icmp _ off => decide (len = 3 ∧ (pc : Int) + off = ((a.toNat : Nat) : Int))
  | .ifnull off => decide (len = 3 ∧ (pc : Int) + off = ((a.toNat : Nat) : Int))
  | .ifnonnull off => decide (len = 3 ∧ (pc : Int) + off = ((a.toNat : Nat) : Int))
  | .goto off => decide (len = 3 ∧ (pc : Int) + off = ((a.toNat : Nat) : Int))
  | .ldc k => decide (len = 2 ∧ (m_oc i, k, a) ∈ m_pk)
  | .ldc_w k => decide (len = 3 ∧ (m_oc i, k, a) ∈ m_pk)
  | .ldc2_w k => decide (len = 3 ∧ (m_oc i, k, a) ∈ m_pl)
  | .getfield k => decide (len = 3 ∧ ((m_oc i, k, b, a.toNat % 100) ∈ m_pf ∨ (m_oc i, k, b, a.toNat % 100) ∈ m_pfN))
  | .putfield k => decide (len = 3 ∧ (m_oc i, k, b, a.toNat % 100) ∈ m_pf ∧ m_fc (m_ty b (a.toNat % 100)) = a.toNat / 100) && (!(m_fd b (a.toNat % 100)).2.2.2 || decide ((m_y i).name = "<init>" ∧ (m_fd b (a.toNat % 100)).1 = m_cn (m_oc i)))
  | .getstatic k => decide (len = 3 ∧ ((m_oc i, k, b) ∈ m_ps ∨ (m_oc i, k, b) ∈ m_psN))
  | .new k => decide (len = 3 ∧ (m_oc i, k, b) ∈ m_pc)
  | .newarray t => decide (len = 2 ∧ ((t = .int ∧ b = 20) ∨ (t = .boolean ∧ b = 21)))
  | .anewarray k => decide (len = 3 ∧ (m_oc i, k, m_cmp b) ∈ m_pc ∧ 22 ≤ b ∧ b ≤ 26)
  | .invokevirtual k => decide (len = 3 ∧ (m_oc i, k, a.toNat) ∈ m_pmV ∧ b = m_na a.toNat)
  | .invokestatic k => if a.toNat = 9999 then decide (len = 3 ∧ (m_oc i, k) ∈ m_pa) else decide (len = 3 ∧ ((m_oc i, k, a.toNat) ∈ m_pmS ∨ (m_oc i, k, a.toNat) ∈ m_pmSN) ∧ b = m_na a.toNat)
  | .invokespecial k => if a.toNat = 9998 then decide (len = 3 ∧ (m_oc i, k) ∈ m_po) else decide (len = 3 ∧ ((m_oc i, k, a.toNat) ∈ m_pmI ∨ (m_oc i, k, a.toNat) ∈ m_pmIN) ∧ b = m_na a.toNat)
  | .ireturn => decide (len = 1 ∧ ((m_rt i = some .int ∧ b = 0) ∨ (m_rt i = some .boolean ∧ b = 1)))
  | .areturn => (match m_rt i with
    | some (.object _) => decide (len = 1)
    | _ => false)
  | .return_ => decide (len = 1 ∧ m_rt i = none)
  | .aconst_null | .iconst _ | .bipush _ | .sipush _ | .iload_n _ | .iload _ | .lload_n _ | .lload _ | .aload_n _ | .aload _ | .iadd | .isub | .imul | .idiv | .irem | .ineg | .iand | .ior | .ixor | .ishl | .ishr | .iushr | .i2l | .l2i | .land | .lor | .lshl | .lshr | .lushr | .dup | .dup2 | .pop | .arraylength | .iaload | .iastore | .baload | .bastore | .aaload | .aastore => decide (len = m_len ins)
  | _ => false
def m_ok (i pc : Nat) (en : m_E) : Bool := decide (decode (m_b i) pc = .ok (en.1, en.2.1)) && m_okI i pc en
def m_okE (i : Nat) (q : Option m_E × Nat) : Bool := match q.1 with
  | some en => m_ok i q.2 en
  | none => true
def m_okM (i : Nat) : Bool := (m_code i).zipIdx.all (m_okE i)

/-! decode, byte by byte: the bytes are gone through once -/
theorem fd_u1 {code : ByteArray} {p : Nat} {b : UInt8} {r : List UInt8} (hl : code.data.toList.drop p = b :: r) : (Jvm.ClassFile.Reader.u1 : Jvm.ClassFile.Decoder Nat) code p = .ok (b.toNat, p + 1) := by
  have hlt : p < code.data.toList.length := by
    have h := congrArg List.length hl
    rw [List.length_drop, List.length_cons] at h
    omega
  have hlt2 : p < code.size := by
    rw [Array.length_toList] at hlt
    exact hlt
  have hb : code.data.toList[p] = b := by
    have h := List.drop_eq_getElem_cons hlt
    rw [hl] at h
    exact (List.cons.inj h).1.symm
  show ((dite (p < code.size) (fun h => (do set (p + 1); Pure.pure (code[p]'h).toNat : Jvm.ClassFile.Decoder Nat)) (fun _ => throw (Jvm.ClassFile.HasTruncated.truncated p))) : Jvm.ClassFile.Decoder Nat) code p = _
  rw [dif_pos hlt2]
  show Except.ok ((code[p]'hlt2).toNat, p + 1) = _
  rw [show code[p]'hlt2 = b from hb]
theorem fd_b {α β : Type} (x : Jvm.ClassFile.Decoder α) (F : α → Jvm.ClassFile.Decoder β) (code : ByteArray) (p : Nat) : (x >>= F : Jvm.ClassFile.Decoder β) code p = (x code p) >>= fun y => F y.1 code y.2 := rfl
theorem fd_bu {α : Type} {code : ByteArray} {p : Nat} {b : UInt8} {r : List UInt8} (hl : code.data.toList.drop p = b :: r) (F : Nat → Jvm.ClassFile.Decoder α) : ((Jvm.ClassFile.Reader.u1 : Jvm.ClassFile.Decoder Nat) >>= F : Jvm.ClassFile.Decoder α) code p = F b.toNat code (p + 1) := by
  rw [fd_b, fd_u1 hl]
  rfl
theorem fd_tl {code : ByteArray} {p : Nat} {b : UInt8} {r : List UInt8} (hl : code.data.toList.drop p = b :: r) : code.data.toList.drop (p + 1) = r := by
  rw [← List.drop_drop, hl]
  rfl
theorem fd_u2 {code : ByteArray} {p : Nat} {b b1 : UInt8} {r : List UInt8} (hl : code.data.toList.drop p = b :: b1 :: r) : (Jvm.ClassFile.Reader.u2 : Jvm.ClassFile.Decoder Nat) code p = .ok (b.toNat * 256 + b1.toNat, p + 2) := by
  show ((Jvm.ClassFile.Reader.u1 : Jvm.ClassFile.Decoder Nat) >>= fun hi => ((Jvm.ClassFile.Reader.u1 : Jvm.ClassFile.Decoder Nat) >>= fun lo => (Pure.pure (hi * 256 + lo) : Jvm.ClassFile.Decoder Nat))) code p = _
  rw [fd_bu hl, fd_bu (fd_tl hl)]
  rfl
theorem fd_s1 {code : ByteArray} {p : Nat} {b : UInt8} {r : List UInt8} (hl : code.data.toList.drop p = b :: r) : (Jvm.ClassFile.Reader.s1 : Jvm.ClassFile.Decoder Int) code p = .ok (Jvm.ClassFile.Reader.signed 8 b.toNat, p + 1) := by
  have e : (Jvm.ClassFile.Reader.s1 : Jvm.ClassFile.Decoder Int) code p = ((Jvm.ClassFile.Reader.u1 : Jvm.ClassFile.Decoder Nat) code p) >>= fun y => .ok (Jvm.ClassFile.Reader.signed 8 y.1, y.2) := rfl
  rw [e, fd_u1 hl]
  rfl
theorem fd_s2 {code : ByteArray} {p : Nat} {b b1 : UInt8} {r : List UInt8} (hl : code.data.toList.drop p = b :: b1 :: r) : (Jvm.ClassFile.Reader.s2 : Jvm.ClassFile.Decoder Int) code p = .ok (Jvm.ClassFile.Reader.signed 16 (b.toNat * 256 + b1.toNat), p + 2) := by
  have e : (Jvm.ClassFile.Reader.s2 : Jvm.ClassFile.Decoder Int) code p = ((Jvm.ClassFile.Reader.u2 : Jvm.ClassFile.Decoder Nat) code p) >>= fun y => .ok (Jvm.ClassFile.Reader.signed 16 y.1, y.2) := rfl
  rw [e, fd_u2 hl]
  rfl
theorem fd_dec {code : ByteArray} {pc : Nat} {i : Instr} {n : Nat} (h : (Jvm.ClassFile.Decoder.instr pc) code pc = .ok (i, n)) : decode code pc = .ok (i, n - pc) := by
  have e : decode code pc = ((Jvm.ClassFile.Decoder.instr pc) code pc) >>= fun y => .ok (y.1, y.2 - pc) := rfl
  rw [e, h]
  rfl
def fd_G0 (F : Nat → Jvm.ClassFile.Decoder Jvm.ClassFile.Instr) : Prop := (F 50 = Pure.pure Jvm.ClassFile.Instr.aaload) ∧ (F 83 = Pure.pure Jvm.ClassFile.Instr.aastore) ∧ (F 1 = Pure.pure Jvm.ClassFile.Instr.aconst_null) ∧ (F 176 = Pure.pure Jvm.ClassFile.Instr.areturn) ∧ (F 190 = Pure.pure Jvm.ClassFile.Instr.arraylength) ∧ (F 51 = Pure.pure Jvm.ClassFile.Instr.baload) ∧ (F 84 = Pure.pure Jvm.ClassFile.Instr.bastore) ∧ (F 89 = Pure.pure Jvm.ClassFile.Instr.dup) ∧ (F 92 = Pure.pure Jvm.ClassFile.Instr.dup2) ∧ (F 133 = Pure.pure Jvm.ClassFile.Instr.i2l) ∧ (F 96 = Pure.pure Jvm.ClassFile.Instr.iadd) ∧ (F 46 = Pure.pure Jvm.ClassFile.Instr.iaload) ∧ (F 126 = Pure.pure Jvm.ClassFile.Instr.iand) ∧ (F 79 = Pure.pure Jvm.ClassFile.Instr.iastore) ∧ (F 108 = Pure.pure Jvm.ClassFile.Instr.idiv) ∧ (F 104 = Pure.pure Jvm.ClassFile.Instr.imul) ∧ (F 116 = Pure.pure Jvm.ClassFile.Instr.ineg) ∧ (F 128 = Pure.pure Jvm.ClassFile.Instr.ior) ∧ (F 112 = Pure.pure Jvm.ClassFile.Instr.irem) ∧ (F 172 = Pure.pure Jvm.ClassFile.Instr.ireturn)
def fd_G1 (F : Nat → Jvm.ClassFile.Decoder Jvm.ClassFile.Instr) : Prop := (F 120 = Pure.pure Jvm.ClassFile.Instr.ishl) ∧ (F 122 = Pure.pure Jvm.ClassFile.Instr.ishr) ∧ (F 100 = Pure.pure Jvm.ClassFile.Instr.isub) ∧ (F 124 = Pure.pure Jvm.ClassFile.Instr.iushr) ∧ (F 130 = Pure.pure Jvm.ClassFile.Instr.ixor) ∧ (F 136 = Pure.pure Jvm.ClassFile.Instr.l2i) ∧ (F 127 = Pure.pure Jvm.ClassFile.Instr.land) ∧ (F 129 = Pure.pure Jvm.ClassFile.Instr.lor) ∧ (F 121 = Pure.pure Jvm.ClassFile.Instr.lshl) ∧ (F 123 = Pure.pure Jvm.ClassFile.Instr.lshr) ∧ (F 125 = Pure.pure Jvm.ClassFile.Instr.lushr) ∧ (F 87 = Pure.pure Jvm.ClassFile.Instr.pop) ∧ (F 177 = Pure.pure Jvm.ClassFile.Instr.return_) ∧ (F 42 = Pure.pure (Jvm.ClassFile.Instr.aload_n 0)) ∧ (F 43 = Pure.pure (Jvm.ClassFile.Instr.aload_n 1)) ∧ (F 44 = Pure.pure (Jvm.ClassFile.Instr.aload_n 2)) ∧ (F 45 = Pure.pure (Jvm.ClassFile.Instr.aload_n 3)) ∧ (F 26 = Pure.pure (Jvm.ClassFile.Instr.iload_n 0)) ∧ (F 27 = Pure.pure (Jvm.ClassFile.Instr.iload_n 1)) ∧ (F 28 = Pure.pure (Jvm.ClassFile.Instr.iload_n 2))
def fd_G2 (F : Nat → Jvm.ClassFile.Decoder Jvm.ClassFile.Instr) : Prop := (F 29 = Pure.pure (Jvm.ClassFile.Instr.iload_n 3)) ∧ (F 30 = Pure.pure (Jvm.ClassFile.Instr.lload_n 0)) ∧ (F 31 = Pure.pure (Jvm.ClassFile.Instr.lload_n 1)) ∧ (F 32 = Pure.pure (Jvm.ClassFile.Instr.lload_n 2)) ∧ (F 33 = Pure.pure (Jvm.ClassFile.Instr.lload_n 3)) ∧ (F 59 = Pure.pure (Jvm.ClassFile.Instr.istore_n 0)) ∧ (F 60 = Pure.pure (Jvm.ClassFile.Instr.istore_n 1)) ∧ (F 61 = Pure.pure (Jvm.ClassFile.Instr.istore_n 2)) ∧ (F 62 = Pure.pure (Jvm.ClassFile.Instr.istore_n 3)) ∧ (F 63 = Pure.pure (Jvm.ClassFile.Instr.lstore_n 0)) ∧ (F 64 = Pure.pure (Jvm.ClassFile.Instr.lstore_n 1)) ∧ (F 65 = Pure.pure (Jvm.ClassFile.Instr.lstore_n 2)) ∧ (F 66 = Pure.pure (Jvm.ClassFile.Instr.lstore_n 3)) ∧ (F 75 = Pure.pure (Jvm.ClassFile.Instr.astore_n 0)) ∧ (F 76 = Pure.pure (Jvm.ClassFile.Instr.astore_n 1)) ∧ (F 77 = Pure.pure (Jvm.ClassFile.Instr.astore_n 2)) ∧ (F 78 = Pure.pure (Jvm.ClassFile.Instr.astore_n 3)) ∧ (F 2 = Pure.pure (Jvm.ClassFile.Instr.iconst (-1))) ∧ (F 3 = Pure.pure (Jvm.ClassFile.Instr.iconst 0)) ∧ (F 4 = Pure.pure (Jvm.ClassFile.Instr.iconst 1))
def fd_G3 (F : Nat → Jvm.ClassFile.Decoder Jvm.ClassFile.Instr) : Prop := (F 5 = Pure.pure (Jvm.ClassFile.Instr.iconst 2)) ∧ (F 6 = Pure.pure (Jvm.ClassFile.Instr.iconst 3)) ∧ (F 7 = Pure.pure (Jvm.ClassFile.Instr.iconst 4)) ∧ (F 8 = Pure.pure (Jvm.ClassFile.Instr.iconst 5)) ∧ (F 21 = (Jvm.ClassFile.Reader.u1 >>= fun k => Pure.pure (Jvm.ClassFile.Instr.iload k))) ∧ (F 22 = (Jvm.ClassFile.Reader.u1 >>= fun k => Pure.pure (Jvm.ClassFile.Instr.lload k))) ∧ (F 25 = (Jvm.ClassFile.Reader.u1 >>= fun k => Pure.pure (Jvm.ClassFile.Instr.aload k))) ∧ (F 54 = (Jvm.ClassFile.Reader.u1 >>= fun k => Pure.pure (Jvm.ClassFile.Instr.istore k))) ∧ (F 58 = (Jvm.ClassFile.Reader.u1 >>= fun k => Pure.pure (Jvm.ClassFile.Instr.astore k))) ∧ (F 18 = (Jvm.ClassFile.Reader.u1 >>= fun k => Pure.pure (Jvm.ClassFile.Instr.ldc k))) ∧ (F 19 = (Jvm.ClassFile.Reader.u2 >>= fun k => Pure.pure (Jvm.ClassFile.Instr.ldc_w k))) ∧ (F 20 = (Jvm.ClassFile.Reader.u2 >>= fun k => Pure.pure (Jvm.ClassFile.Instr.ldc2_w k))) ∧ (F 178 = (Jvm.ClassFile.Reader.u2 >>= fun k => Pure.pure (Jvm.ClassFile.Instr.getstatic k))) ∧ (F 180 = (Jvm.ClassFile.Reader.u2 >>= fun k => Pure.pure (Jvm.ClassFile.Instr.getfield k))) ∧ (F 181 = (Jvm.ClassFile.Reader.u2 >>= fun k => Pure.pure (Jvm.ClassFile.Instr.putfield k))) ∧ (F 182 = (Jvm.ClassFile.Reader.u2 >>= fun k => Pure.pure (Jvm.ClassFile.Instr.invokevirtual k))) ∧ (F 183 = (Jvm.ClassFile.Reader.u2 >>= fun k => Pure.pure (Jvm.ClassFile.Instr.invokespecial k))) ∧ (F 184 = (Jvm.ClassFile.Reader.u2 >>= fun k => Pure.pure (Jvm.ClassFile.Instr.invokestatic k))) ∧ (F 187 = (Jvm.ClassFile.Reader.u2 >>= fun k => Pure.pure (Jvm.ClassFile.Instr.new k))) ∧ (F 189 = (Jvm.ClassFile.Reader.u2 >>= fun k => Pure.pure (Jvm.ClassFile.Instr.anewarray k)))
def fd_G4 (F : Nat → Jvm.ClassFile.Decoder Jvm.ClassFile.Instr) : Prop := (F 167 = (Jvm.ClassFile.Reader.s2 >>= fun k => Pure.pure (Jvm.ClassFile.Instr.goto k))) ∧ (F 198 = (Jvm.ClassFile.Reader.s2 >>= fun k => Pure.pure (Jvm.ClassFile.Instr.ifnull k))) ∧ (F 199 = (Jvm.ClassFile.Reader.s2 >>= fun k => Pure.pure (Jvm.ClassFile.Instr.ifnonnull k))) ∧ (F 17 = (Jvm.ClassFile.Reader.s2 >>= fun k => Pure.pure (Jvm.ClassFile.Instr.sipush k))) ∧ (F 153 = (Jvm.ClassFile.Reader.s2 >>= fun k => Pure.pure (Jvm.ClassFile.Instr.ifCond .eq k))) ∧ (F 154 = (Jvm.ClassFile.Reader.s2 >>= fun k => Pure.pure (Jvm.ClassFile.Instr.ifCond .ne k))) ∧ (F 155 = (Jvm.ClassFile.Reader.s2 >>= fun k => Pure.pure (Jvm.ClassFile.Instr.ifCond .lt k))) ∧ (F 156 = (Jvm.ClassFile.Reader.s2 >>= fun k => Pure.pure (Jvm.ClassFile.Instr.ifCond .ge k))) ∧ (F 157 = (Jvm.ClassFile.Reader.s2 >>= fun k => Pure.pure (Jvm.ClassFile.Instr.ifCond .gt k))) ∧ (F 158 = (Jvm.ClassFile.Reader.s2 >>= fun k => Pure.pure (Jvm.ClassFile.Instr.ifCond .le k))) ∧ (F 159 = (Jvm.ClassFile.Reader.s2 >>= fun k => Pure.pure (Jvm.ClassFile.Instr.if_icmp .eq k))) ∧ (F 160 = (Jvm.ClassFile.Reader.s2 >>= fun k => Pure.pure (Jvm.ClassFile.Instr.if_icmp .ne k))) ∧ (F 161 = (Jvm.ClassFile.Reader.s2 >>= fun k => Pure.pure (Jvm.ClassFile.Instr.if_icmp .lt k))) ∧ (F 162 = (Jvm.ClassFile.Reader.s2 >>= fun k => Pure.pure (Jvm.ClassFile.Instr.if_icmp .ge k))) ∧ (F 163 = (Jvm.ClassFile.Reader.s2 >>= fun k => Pure.pure (Jvm.ClassFile.Instr.if_icmp .gt k))) ∧ (F 164 = (Jvm.ClassFile.Reader.s2 >>= fun k => Pure.pure (Jvm.ClassFile.Instr.if_icmp .le k))) ∧ (F 16 = (Jvm.ClassFile.Reader.s1 >>= fun k => Pure.pure (Jvm.ClassFile.Instr.bipush k))) ∧ (F 132 = (Jvm.ClassFile.Reader.u1 >>= fun k => Jvm.ClassFile.Reader.s1 >>= fun n => Pure.pure (Jvm.ClassFile.Instr.iinc k n)))
set_option maxRecDepth 100000 in
theorem fd_F (pc : Nat) : ∃ F : Nat → Jvm.ClassFile.Decoder Jvm.ClassFile.Instr, Jvm.ClassFile.Decoder.instr pc = ((Jvm.ClassFile.Reader.u1 : Jvm.ClassFile.Decoder Nat) >>= F) ∧ fd_G0 F ∧ fd_G1 F ∧ fd_G2 F ∧ fd_G3 F ∧ fd_G4 F := by
  refine ⟨_, rfl, ?_, ?_, ?_, ?_, ?_⟩
  · refine ⟨?_, ?_, ?_, ?_, ?_, ?_, ?_, ?_, ?_, ?_, ?_, ?_, ?_, ?_, ?_, ?_, ?_, ?_, ?_, ?_⟩ <;> rfl
  · refine ⟨?_, ?_, ?_, ?_, ?_, ?_, ?_, ?_, ?_, ?_, ?_, ?_, ?_, ?_, ?_, ?_, ?_, ?_, ?_, ?_⟩ <;> rfl
  · refine ⟨?_, ?_, ?_, ?_, ?_, ?_, ?_, ?_, ?_, ?_, ?_, ?_, ?_, ?_, ?_, ?_, ?_, ?_, ?_, ?_⟩ <;> rfl
  · refine ⟨?_, ?_, ?_, ?_, ?_, ?_, ?_, ?_, ?_, ?_, ?_, ?_, ?_, ?_, ?_, ?_, ?_, ?_, ?_, ?_⟩ <;> rfl
  · refine ⟨?_, ?_, ?_, ?_, ?_, ?_, ?_, ?_, ?_, ?_, ?_, ?_, ?_, ?_, ?_, ?_, ?_, ?_⟩ <;> rfl
/-- what bytes an instruction has: its kind, its first byte, its number -/
def m_fo : Instr → Nat × Nat × Int
  | .aaload => (0, 50, 0)
  | .aastore => (0, 83, 0)
  | .aconst_null => (0, 1, 0)
  | .areturn => (0, 176, 0)
  | .arraylength => (0, 190, 0)
  | .baload => (0, 51, 0)
  | .bastore => (0, 84, 0)
  | .dup => (0, 89, 0)
  | .dup2 => (0, 92, 0)
  | .i2l => (0, 133, 0)
  | .iadd => (0, 96, 0)
  | .iaload => (0, 46, 0)
  | .iand => (0, 126, 0)
  | .iastore => (0, 79, 0)
  | .idiv => (0, 108, 0)
  | .imul => (0, 104, 0)
  | .ineg => (0, 116, 0)
  | .ior => (0, 128, 0)
  | .irem => (0, 112, 0)
  | .ireturn => (0, 172, 0)
  | .ishl => (0, 120, 0)
  | .ishr => (0, 122, 0)
  | .isub => (0, 100, 0)
  | .iushr => (0, 124, 0)
  | .ixor => (0, 130, 0)
  | .l2i => (0, 136, 0)
  | .land => (0, 127, 0)
  | .lor => (0, 129, 0)
  | .lshl => (0, 121, 0)
  | .lshr => (0, 123, 0)
  | .lushr => (0, 125, 0)
  | .pop => (0, 87, 0)
  | .return_ => (0, 177, 0)
  | .aload_n k => (0, 42 + k.val, 0)
  | .iload_n k => (0, 26 + k.val, 0)
  | .lload_n k => (0, 30 + k.val, 0)
  | .istore_n k => (0, 59 + k.val, 0)
  | .lstore_n k => (0, 63 + k.val, 0)
  | .astore_n k => (0, 75 + k.val, 0)
  | .iconst n => if -1 ≤ n ∧ n ≤ 5 then (0, (n + 3).toNat, 0) else (9, 0, 0)
  | .iload k => (1, 21, (k : Int))
  | .lload k => (1, 22, (k : Int))
  | .aload k => (1, 25, (k : Int))
  | .istore k => (1, 54, (k : Int))
  | .astore k => (1, 58, (k : Int))
  | .ldc k => (1, 18, (k : Int))
  | .ldc_w k => (2, 19, (k : Int))
  | .ldc2_w k => (2, 20, (k : Int))
  | .getstatic k => (2, 178, (k : Int))
  | .getfield k => (2, 180, (k : Int))
  | .putfield k => (2, 181, (k : Int))
  | .invokevirtual k => (2, 182, (k : Int))
  | .invokespecial k => (2, 183, (k : Int))
  | .invokestatic k => (2, 184, (k : Int))
  | .new k => (2, 187, (k : Int))
  | .anewarray k => (2, 189, (k : Int))
  | .goto k => (3, 167, k)
  | .ifnull k => (3, 198, k)
  | .ifnonnull k => (3, 199, k)
  | .sipush k => (3, 17, k)
  | .ifCond .eq k => (3, 153, k)
  | .ifCond .ne k => (3, 154, k)
  | .ifCond .lt k => (3, 155, k)
  | .ifCond .ge k => (3, 156, k)
  | .ifCond .gt k => (3, 157, k)
  | .ifCond .le k => (3, 158, k)
  | .if_icmp .eq k => (3, 159, k)
  | .if_icmp .ne k => (3, 160, k)
  | .if_icmp .lt k => (3, 161, k)
  | .if_icmp .ge k => (3, 162, k)
  | .if_icmp .gt k => (3, 163, k)
  | .if_icmp .le k => (3, 164, k)
  | .bipush k => (4, 16, k)
  | _ => (9, 0, 0)
def m_k0 (len c : Nat) (l : List UInt8) : Bool := match l with
  | b :: _ => Nat.beq b.toNat c && Nat.beq len 1
  | _ => false
def m_k1 (len c : Nat) (x : Int) (l : List UInt8) : Bool := match l with
  | b :: b1 :: _ => Nat.beq b.toNat c && (Nat.beq len 2 && decide ((b1.toNat : Int) = x))
  | _ => false
def m_k2 (len c : Nat) (x : Int) (l : List UInt8) : Bool := match l with
  | b :: b1 :: b2 :: _ => Nat.beq b.toNat c && (Nat.beq len 3 && decide (((b1.toNat * 256 + b2.toNat : Nat) : Int) = x))
  | _ => false
def m_k3 (len c : Nat) (x : Int) (l : List UInt8) : Bool := match l with
  | b :: b1 :: b2 :: _ => Nat.beq b.toNat c && (Nat.beq len 3 && decide (Jvm.ClassFile.Reader.signed 16 (b1.toNat * 256 + b2.toNat) = x))
  | _ => false
def m_k4 (len c : Nat) (x : Int) (l : List UInt8) : Bool := match l with
  | b :: b1 :: _ => Nat.beq b.toNat c && (Nat.beq len 2 && decide (Jvm.ClassFile.Reader.signed 8 b1.toNat = x))
  | _ => false
def m_fk (code : ByteArray) (pc : Nat) (ins : Instr) (len : Nat) (l : List UInt8) : Bool := match m_fo ins with
  | (0, c, _) => m_k0 len c l
  | (1, c, x) => m_k1 len c x l
  | (2, c, x) => m_k2 len c x l
  | (3, c, x) => m_k3 len c x l
  | (4, c, x) => m_k4 len c x l
  | _ => decide (decode code pc = .ok (ins, len))
section
variable {code : ByteArray} {pc len c : Nat} {ins : Instr} {l : List UInt8} {F : Nat → Jvm.ClassFile.Decoder Jvm.ClassFile.Instr}
theorem fk0 (hF : Jvm.ClassFile.Decoder.instr pc = ((Jvm.ClassFile.Reader.u1 : Jvm.ClassFile.Decoder Nat) >>= F)) (hl : code.data.toList.drop pc = l) (h : m_k0 len c l = true) (hc : F c = Pure.pure ins) : decode code pc = .ok (ins, len) := by
  match l, hl, h with
  | b :: r, hl, h =>
    have h : (Nat.beq b.toNat c && Nat.beq len 1) = true := h
    rw [Bool.and_eq_true] at h
    have e1 := Nat.eq_of_beq_eq_true h.1
    have e2 := Nat.eq_of_beq_eq_true h.2
    have h3 : (Jvm.ClassFile.Decoder.instr pc) code pc = .ok (ins, pc + 1) := by
      rw [hF, fd_bu hl, e1, hc]
      rfl
    rw [fd_dec h3, e2, Nat.add_sub_cancel_left]
theorem fk1 {x : Int} {g : Nat → Jvm.ClassFile.Instr} {k : Nat} (hF : Jvm.ClassFile.Decoder.instr pc = ((Jvm.ClassFile.Reader.u1 : Jvm.ClassFile.Decoder Nat) >>= F)) (hl : code.data.toList.drop pc = l) (h : m_k1 len c x l = true) (hc : F c = (Jvm.ClassFile.Reader.u1 >>= fun k => Pure.pure (g k))) (hx : x = (k : Int)) : decode code pc = .ok (g k, len) := by
  match l, hl, h with
  | b :: b1 :: r, hl, h =>
    have h : (Nat.beq b.toNat c && (Nat.beq len 2 && decide ((b1.toNat : Int) = x))) = true := h
    rw [Bool.and_eq_true, Bool.and_eq_true] at h
    have e1 := Nat.eq_of_beq_eq_true h.1
    have e2 := Nat.eq_of_beq_eq_true h.2.1
    have e3 : b1.toNat = k := by
      have := of_decide_eq_true h.2.2
      omega
    have h3 : (Jvm.ClassFile.Decoder.instr pc) code pc = .ok (g k, pc + 1 + 1) := by
      rw [hF, fd_bu hl, e1, hc, fd_bu (fd_tl hl), e3]
      rfl
    rw [fd_dec h3, e2, Nat.add_assoc, Nat.add_sub_cancel_left]
theorem fk2 {x : Int} {g : Nat → Jvm.ClassFile.Instr} {k : Nat} (hF : Jvm.ClassFile.Decoder.instr pc = ((Jvm.ClassFile.Reader.u1 : Jvm.ClassFile.Decoder Nat) >>= F)) (hl : code.data.toList.drop pc = l) (h : m_k2 len c x l = true) (hc : F c = (Jvm.ClassFile.Reader.u2 >>= fun k => Pure.pure (g k))) (hx : x = (k : Int)) : decode code pc = .ok (g k, len) := by
  match l, hl, h with
  | b :: b1 :: b2 :: r, hl, h =>
    have h : (Nat.beq b.toNat c && (Nat.beq len 3 && decide (((b1.toNat * 256 + b2.toNat : Nat) : Int) = x))) = true := h
    rw [Bool.and_eq_true, Bool.and_eq_true] at h
    have e1 := Nat.eq_of_beq_eq_true h.1
    have e2 := Nat.eq_of_beq_eq_true h.2.1
    have e3 : b1.toNat * 256 + b2.toNat = k := by
      have := of_decide_eq_true h.2.2
      omega
    have h3 : (Jvm.ClassFile.Decoder.instr pc) code pc = .ok (g k, pc + 1 + 2) := by
      rw [hF, fd_bu hl, e1, hc, fd_b, fd_u2 (fd_tl hl), e3]
      rfl
    rw [fd_dec h3, e2, Nat.add_assoc, Nat.add_sub_cancel_left]
theorem fk3 {x : Int} {g : Int → Jvm.ClassFile.Instr} (hF : Jvm.ClassFile.Decoder.instr pc = ((Jvm.ClassFile.Reader.u1 : Jvm.ClassFile.Decoder Nat) >>= F)) (hl : code.data.toList.drop pc = l) (h : m_k3 len c x l = true) (hc : F c = (Jvm.ClassFile.Reader.s2 >>= fun k => Pure.pure (g k))) : decode code pc = .ok (g x, len) := by
  match l, hl, h with
  | b :: b1 :: b2 :: r, hl, h =>
    have h : (Nat.beq b.toNat c && (Nat.beq len 3 && decide (Jvm.ClassFile.Reader.signed 16 (b1.toNat * 256 + b2.toNat) = x))) = true := h
    rw [Bool.and_eq_true, Bool.and_eq_true] at h
    have e1 := Nat.eq_of_beq_eq_true h.1
    have e2 := Nat.eq_of_beq_eq_true h.2.1
    have e3 := of_decide_eq_true h.2.2
    have h3 : (Jvm.ClassFile.Decoder.instr pc) code pc = .ok (g x, pc + 1 + 2) := by
      rw [hF, fd_bu hl, e1, hc, fd_b, fd_s2 (fd_tl hl), e3]
      rfl
    rw [fd_dec h3, e2, Nat.add_assoc, Nat.add_sub_cancel_left]
theorem fk4 {x : Int} {g : Int → Jvm.ClassFile.Instr} (hF : Jvm.ClassFile.Decoder.instr pc = ((Jvm.ClassFile.Reader.u1 : Jvm.ClassFile.Decoder Nat) >>= F)) (hl : code.data.toList.drop pc = l) (h : m_k4 len c x l = true) (hc : F c = (Jvm.ClassFile.Reader.s1 >>= fun k => Pure.pure (g k))) : decode code pc = .ok (g x, len) := by
  match l, hl, h with
  | b :: b1 :: r, hl, h =>
    have h : (Nat.beq b.toNat c && (Nat.beq len 2 && decide (Jvm.ClassFile.Reader.signed 8 b1.toNat = x))) = true := h
    rw [Bool.and_eq_true, Bool.and_eq_true] at h
    have e1 := Nat.eq_of_beq_eq_true h.1
    have e2 := Nat.eq_of_beq_eq_true h.2.1
    have e3 := of_decide_eq_true h.2.2
    have h3 : (Jvm.ClassFile.Decoder.instr pc) code pc = .ok (g x, pc + 1 + 1) := by
      rw [hF, fd_bu hl, e1, hc, fd_b, fd_s1 (fd_tl hl), e3]
      rfl
    rw [fd_dec h3, e2, Nat.add_assoc, Nat.add_sub_cancel_left]
theorem fin4 : ∀ k : Fin 4, k = 0 ∨ k = 1 ∨ k = 2 ∨ k = 3 := by decide
theorem m_fk_ok (hl : code.data.toList.drop pc = l) (h : m_fk code pc ins len l = true) : decode code pc = .ok (ins, len) := by
  obtain ⟨F, hF, hG0, hG1, hG2, hG3, hG4⟩ := fd_F pc
  obtain ⟨f_50, f_83, f_1, f_176, f_190, f_51, f_84, f_89, f_92, f_133, f_96, f_46, f_126, f_79, f_108, f_104, f_116, f_128, f_112, f_172⟩ := hG0
  obtain ⟨f_120, f_122, f_100, f_124, f_130, f_136, f_127, f_129, f_121, f_123, f_125, f_87, f_177, f_42, f_43, f_44, f_45, f_26, f_27, f_28⟩ := hG1
  obtain ⟨f_29, f_30, f_31, f_32, f_33, f_59, f_60, f_61, f_62, f_63, f_64, f_65, f_66, f_75, f_76, f_77, f_78, f_2, f_3, f_4⟩ := hG2
  obtain ⟨f_5, f_6, f_7, f_8, f_21, f_22, f_25, f_54, f_58, f_18, f_19, f_20, f_178, f_180, f_181, f_182, f_183, f_184, f_187, f_189⟩ := hG3
  obtain ⟨f_167, f_198, f_199, f_17, f_153, f_154, f_155, f_156, f_157, f_158, f_159, f_160, f_161, f_162, f_163, f_164, f_16, f_132⟩ := hG4
  cases ins
  case aaload => exact fk0 (c := 50) hF hl h f_50
  case aastore => exact fk0 (c := 83) hF hl h f_83
  case aconst_null => exact fk0 (c := 1) hF hl h f_1
  case areturn => exact fk0 (c := 176) hF hl h f_176
  case arraylength => exact fk0 (c := 190) hF hl h f_190
  case baload => exact fk0 (c := 51) hF hl h f_51
  case bastore => exact fk0 (c := 84) hF hl h f_84
  case dup => exact fk0 (c := 89) hF hl h f_89
  case dup2 => exact fk0 (c := 92) hF hl h f_92
  case i2l => exact fk0 (c := 133) hF hl h f_133
  case iadd => exact fk0 (c := 96) hF hl h f_96
  case iaload => exact fk0 (c := 46) hF hl h f_46
  case iand => exact fk0 (c := 126) hF hl h f_126
  case iastore => exact fk0 (c := 79) hF hl h f_79
  case idiv => exact fk0 (c := 108) hF hl h f_108
  case imul => exact fk0 (c := 104) hF hl h f_104
  case ineg => exact fk0 (c := 116) hF hl h f_116
  case ior => exact fk0 (c := 128) hF hl h f_128
  case irem => exact fk0 (c := 112) hF hl h f_112
  case ireturn => exact fk0 (c := 172) hF hl h f_172
  case ishl => exact fk0 (c := 120) hF hl h f_120
  case ishr => exact fk0 (c := 122) hF hl h f_122
  case isub => exact fk0 (c := 100) hF hl h f_100
  case iushr => exact fk0 (c := 124) hF hl h f_124
  case ixor => exact fk0 (c := 130) hF hl h f_130
  case l2i => exact fk0 (c := 136) hF hl h f_136
  case land => exact fk0 (c := 127) hF hl h f_127
  case lor => exact fk0 (c := 129) hF hl h f_129
  case lshl => exact fk0 (c := 121) hF hl h f_121
  case lshr => exact fk0 (c := 123) hF hl h f_123
  case lushr => exact fk0 (c := 125) hF hl h f_125
  case pop => exact fk0 (c := 87) hF hl h f_87
  case return_ => exact fk0 (c := 177) hF hl h f_177
  case aload_n k =>
    rcases fin4 k with rfl | rfl | rfl | rfl
    · exact fk0 (c := 42) hF hl h f_42
    · exact fk0 (c := 43) hF hl h f_43
    · exact fk0 (c := 44) hF hl h f_44
    · exact fk0 (c := 45) hF hl h f_45
  case iload_n k =>
    rcases fin4 k with rfl | rfl | rfl | rfl
    · exact fk0 (c := 26) hF hl h f_26
    · exact fk0 (c := 27) hF hl h f_27
    · exact fk0 (c := 28) hF hl h f_28
    · exact fk0 (c := 29) hF hl h f_29
  case lload_n k =>
    rcases fin4 k with rfl | rfl | rfl | rfl
    · exact fk0 (c := 30) hF hl h f_30
    · exact fk0 (c := 31) hF hl h f_31
    · exact fk0 (c := 32) hF hl h f_32
    · exact fk0 (c := 33) hF hl h f_33
  case istore_n k =>
    rcases fin4 k with rfl | rfl | rfl | rfl
    · exact fk0 (c := 59) hF hl h f_59
    · exact fk0 (c := 60) hF hl h f_60
    · exact fk0 (c := 61) hF hl h f_61
    · exact fk0 (c := 62) hF hl h f_62
  case lstore_n k =>
    rcases fin4 k with rfl | rfl | rfl | rfl
    · exact fk0 (c := 63) hF hl h f_63
    · exact fk0 (c := 64) hF hl h f_64
    · exact fk0 (c := 65) hF hl h f_65
    · exact fk0 (c := 66) hF hl h f_66
  case astore_n k =>
    rcases fin4 k with rfl | rfl | rfl | rfl
    · exact fk0 (c := 75) hF hl h f_75
    · exact fk0 (c := 76) hF hl h f_76
    · exact fk0 (c := 77) hF hl h f_77
    · exact fk0 (c := 78) hF hl h f_78
  case iconst n =>
    by_cases hn : -1 ≤ n ∧ n ≤ 5
    · rcases (show n = -1 ∨ n = 0 ∨ n = 1 ∨ n = 2 ∨ n = 3 ∨ n = 4 ∨ n = 5 by omega) with rfl | rfl | rfl | rfl | rfl | rfl | rfl
      · exact fk0 (c := 2) hF hl h f_2
      · exact fk0 (c := 3) hF hl h f_3
      · exact fk0 (c := 4) hF hl h f_4
      · exact fk0 (c := 5) hF hl h f_5
      · exact fk0 (c := 6) hF hl h f_6
      · exact fk0 (c := 7) hF hl h f_7
      · exact fk0 (c := 8) hF hl h f_8
    · have e : m_fo (.iconst n) = (9, 0, 0) := if_neg hn
      unfold m_fk at h
      rw [e] at h
      exact of_decide_eq_true h
  case iload k => exact fk1 (c := 21) (x := (k : Int)) (k := k) hF hl h f_21 rfl
  case lload k => exact fk1 (c := 22) (x := (k : Int)) (k := k) hF hl h f_22 rfl
  case aload k => exact fk1 (c := 25) (x := (k : Int)) (k := k) hF hl h f_25 rfl
  case istore k => exact fk1 (c := 54) (x := (k : Int)) (k := k) hF hl h f_54 rfl
  case astore k => exact fk1 (c := 58) (x := (k : Int)) (k := k) hF hl h f_58 rfl
  case ldc k => exact fk1 (c := 18) (x := (k : Int)) (k := k) hF hl h f_18 rfl
  case ldc_w k => exact fk2 (c := 19) (x := (k : Int)) (k := k) hF hl h f_19 rfl
  case ldc2_w k => exact fk2 (c := 20) (x := (k : Int)) (k := k) hF hl h f_20 rfl
  case getstatic k => exact fk2 (c := 178) (x := (k : Int)) (k := k) hF hl h f_178 rfl
  case getfield k => exact fk2 (c := 180) (x := (k : Int)) (k := k) hF hl h f_180 rfl
  case putfield k => exact fk2 (c := 181) (x := (k : Int)) (k := k) hF hl h f_181 rfl
  case invokevirtual k => exact fk2 (c := 182) (x := (k : Int)) (k := k) hF hl h f_182 rfl
  case invokespecial k => exact fk2 (c := 183) (x := (k : Int)) (k := k) hF hl h f_183 rfl
  case invokestatic k => exact fk2 (c := 184) (x := (k : Int)) (k := k) hF hl h f_184 rfl
  case new k => exact fk2 (c := 187) (x := (k : Int)) (k := k) hF hl h f_187 rfl
  case anewarray k => exact fk2 (c := 189) (x := (k : Int)) (k := k) hF hl h f_189 rfl
  case goto k => exact fk3 (c := 167) (x := k) hF hl h f_167
  case ifnull k => exact fk3 (c := 198) (x := k) hF hl h f_198
  case ifnonnull k => exact fk3 (c := 199) (x := k) hF hl h f_199
  case sipush k => exact fk3 (c := 17) (x := k) hF hl h f_17
  case ifCond q k =>
    cases q
    · exact fk3 (c := 153) (x := k) hF hl h f_153
    · exact fk3 (c := 154) (x := k) hF hl h f_154
    · exact fk3 (c := 155) (x := k) hF hl h f_155
    · exact fk3 (c := 156) (x := k) hF hl h f_156
    · exact fk3 (c := 157) (x := k) hF hl h f_157
    · exact fk3 (c := 158) (x := k) hF hl h f_158
  case if_icmp q k =>
    cases q
    · exact fk3 (c := 159) (x := k) hF hl h f_159
    · exact fk3 (c := 160) (x := k) hF hl h f_160
    · exact fk3 (c := 161) (x := k) hF hl h f_161
    · exact fk3 (c := 162) (x := k) hF hl h f_162
    · exact fk3 (c := 163) (x := k) hF hl h f_163
    · exact fk3 (c := 164) (x := k) hF hl h f_164
  case bipush k => exact fk4 (c := 16) (x := k) hF hl h f_16
  all_goals exact of_decide_eq_true h
end
def m_fkL (i : Nat) : List (Option m_E) → List UInt8 → Nat → Bool
  | [], _, _ => true
  | e :: es, bs, pc => (match e with
    | some en => m_fk (m_b i) pc en.1 en.2.1 bs && m_okI i pc en
    | none => true) && m_fkL i es bs.tail (pc + 1)
theorem m_fkL_ok {i : Nat} : ∀ (es : List (Option m_E)) (bs : List UInt8) (pc : Nat), (m_b i).data.toList.drop pc = bs → m_fkL i es bs pc = true → ∀ (k : Nat) (en : m_E), m_nth es k = some (some en) → m_ok i (pc + k) en = true
  | [], _, _, _, _, k, en, h => by cases h
  | e :: es, bs, pc, hb, h, 0, en, hk => by
    have he : e = some en := Option.some.inj hk
    subst he
    have h1 : ((m_fk (m_b i) pc en.1 en.2.1 bs && m_okI i pc en) && m_fkL i es bs.tail (pc + 1)) = true := h
    rw [Bool.and_eq_true, Bool.and_eq_true] at h1
    show (decide (decode (m_b i) pc = .ok (en.1, en.2.1)) && m_okI i pc en) = true
    rw [Bool.and_eq_true]
    exact ⟨decide_eq_true (m_fk_ok hb h1.1.1), h1.1.2⟩
  | e :: es, bs, pc, hb, h, k + 1, en, hk => by
    have h1 : (_ && m_fkL i es bs.tail (pc + 1)) = true := h
    rw [Bool.and_eq_true] at h1
    have := m_fkL_ok es bs.tail (pc + 1) (by rw [← List.drop_drop, hb, List.drop_one]) h1.2 k en hk
    rw [show pc + (k + 1) = pc + 1 + k by omega]
    exact this
def m_fkM (i : Nat) : Bool := m_fkL i (m_code i) (m_b i).data.toList 0
