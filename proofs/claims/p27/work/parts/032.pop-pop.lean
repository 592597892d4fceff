/-! how many bits: the library's way and the reference's -/
theorem z_and (a b : Nat) : nI a &&& nI b = nI (a &&& b) := by
  apply Int32.toBitVec_inj.mp
  show BitVec.ofNat 32 a &&& BitVec.ofNat 32 b = BitVec.ofNat 32 (a &&& b)
  rw [BitVec.ofNat_and]
def z_g1 (v : Nat) : Nat := v - (v / 2 &&& 1431655765)
def z_g2 (a : Nat) : Nat := (a &&& 858993459) + (a / 4 &&& 858993459)
def z_g3 (b : Nat) : Nat := (b + b / 16) &&& 252645135
def z_g4 (c : Nat) : Nat := c + c / 256
def z_g5 (d : Nat) : Nat := (d + d / 65536) &&& 63
def z_f1 (v : Nat) : Nat := z_g5 (z_g4 (z_g3 (z_g2 (z_g1 v))))
def z_f2 (v : Nat) : Nat := 0 + v / 2 ^ 0 % 2 + v / 2 ^ 1 % 2 + v / 2 ^ 2 % 2 + v / 2 ^ 3 % 2 + v / 2 ^ 4 % 2 + v / 2 ^ 5 % 2 + v / 2 ^ 6 % 2 + v / 2 ^ 7 % 2 + v / 2 ^ 8 % 2 + v / 2 ^ 9 % 2 + v / 2 ^ 10 % 2 + v / 2 ^ 11 % 2 + v / 2 ^ 12 % 2 + v / 2 ^ 13 % 2 + v / 2 ^ 14 % 2 + v / 2 ^ 15 % 2
set_option maxRecDepth 100000 in
theorem z_tab_0 : (List.range 4096).all (fun i => Nat.beq (z_f1 (0 + i)) (z_f2 (0 + i))) = true := by decide +kernel
set_option maxRecDepth 100000 in
theorem z_tab_1 : (List.range 4096).all (fun i => Nat.beq (z_f1 (4096 + i)) (z_f2 (4096 + i))) = true := by decide +kernel
set_option maxRecDepth 100000 in
theorem z_tab_2 : (List.range 4096).all (fun i => Nat.beq (z_f1 (8192 + i)) (z_f2 (8192 + i))) = true := by decide +kernel
set_option maxRecDepth 100000 in
theorem z_tab_3 : (List.range 4096).all (fun i => Nat.beq (z_f1 (12288 + i)) (z_f2 (12288 + i))) = true := by decide +kernel
set_option maxRecDepth 100000 in
theorem z_tab_4 : (List.range 4096).all (fun i => Nat.beq (z_f1 (16384 + i)) (z_f2 (16384 + i))) = true := by decide +kernel
set_option maxRecDepth 100000 in
theorem z_tab_5 : (List.range 4096).all (fun i => Nat.beq (z_f1 (20480 + i)) (z_f2 (20480 + i))) = true := by decide +kernel
set_option maxRecDepth 100000 in
theorem z_tab_6 : (List.range 4096).all (fun i => Nat.beq (z_f1 (24576 + i)) (z_f2 (24576 + i))) = true := by decide +kernel
set_option maxRecDepth 100000 in
theorem z_tab_7 : (List.range 4096).all (fun i => Nat.beq (z_f1 (28672 + i)) (z_f2 (28672 + i))) = true := by decide +kernel
set_option maxRecDepth 100000 in
theorem z_tab_8 : (List.range 4096).all (fun i => Nat.beq (z_f1 (32768 + i)) (z_f2 (32768 + i))) = true := by decide +kernel
set_option maxRecDepth 100000 in
theorem z_tab_9 : (List.range 4096).all (fun i => Nat.beq (z_f1 (36864 + i)) (z_f2 (36864 + i))) = true := by decide +kernel
set_option maxRecDepth 100000 in
theorem z_tab_10 : (List.range 4096).all (fun i => Nat.beq (z_f1 (40960 + i)) (z_f2 (40960 + i))) = true := by decide +kernel
set_option maxRecDepth 100000 in
theorem z_tab_11 : (List.range 4096).all (fun i => Nat.beq (z_f1 (45056 + i)) (z_f2 (45056 + i))) = true := by decide +kernel
set_option maxRecDepth 100000 in
theorem z_tab_12 : (List.range 4096).all (fun i => Nat.beq (z_f1 (49152 + i)) (z_f2 (49152 + i))) = true := by decide +kernel
set_option maxRecDepth 100000 in
theorem z_tab_13 : (List.range 4096).all (fun i => Nat.beq (z_f1 (53248 + i)) (z_f2 (53248 + i))) = true := by decide +kernel
set_option maxRecDepth 100000 in
theorem z_tab_14 : (List.range 4096).all (fun i => Nat.beq (z_f1 (57344 + i)) (z_f2 (57344 + i))) = true := by decide +kernel
set_option maxRecDepth 100000 in
theorem z_tab_15 : (List.range 4096).all (fun i => Nat.beq (z_f1 (61440 + i)) (z_f2 (61440 + i))) = true := by decide +kernel
theorem z_tab {v : Nat} (h : v < 65536) : z_f1 v = z_f2 v := by
  have key : ∀ b, (List.range 4096).all (fun i => Nat.beq (z_f1 (b + i)) (z_f2 (b + i))) = true → b ≤ v → v < b + 4096 → z_f1 v = z_f2 v := by
    intro b hb h1 h2
    have h3 := List.all_eq_true.mp hb (v - b) (List.mem_range.mpr (by omega))
    rw [show b + (v - b) = v by omega] at h3
    exact Nat.eq_of_beq_eq_true h3
  by_cases c0 : v < 4096
  · exact key 0 z_tab_0 (by omega) (by omega)
  by_cases c1 : v < 8192
  · exact key 4096 z_tab_1 (by omega) (by omega)
  by_cases c2 : v < 12288
  · exact key 8192 z_tab_2 (by omega) (by omega)
  by_cases c3 : v < 16384
  · exact key 12288 z_tab_3 (by omega) (by omega)
  by_cases c4 : v < 20480
  · exact key 16384 z_tab_4 (by omega) (by omega)
  by_cases c5 : v < 24576
  · exact key 20480 z_tab_5 (by omega) (by omega)
  by_cases c6 : v < 28672
  · exact key 24576 z_tab_6 (by omega) (by omega)
  by_cases c7 : v < 32768
  · exact key 28672 z_tab_7 (by omega) (by omega)
  by_cases c8 : v < 36864
  · exact key 32768 z_tab_8 (by omega) (by omega)
  by_cases c9 : v < 40960
  · exact key 36864 z_tab_9 (by omega) (by omega)
  by_cases c10 : v < 45056
  · exact key 40960 z_tab_10 (by omega) (by omega)
  by_cases c11 : v < 49152
  · exact key 45056 z_tab_11 (by omega) (by omega)
  by_cases c12 : v < 53248
  · exact key 49152 z_tab_12 (by omega) (by omega)
  by_cases c13 : v < 57344
  · exact key 53248 z_tab_13 (by omega) (by omega)
  by_cases c14 : v < 61440
  · exact key 57344 z_tab_14 (by omega) (by omega)
  exact key 61440 z_tab_15 (by omega) (by omega)
theorem z_c1 : (Int32.ofInt 1431655765) = nI 1431655765 := rfl
theorem z_c2 : (Int32.ofInt 858993459) = nI 858993459 := rfl
theorem z_c3 : (Int32.ofInt 252645135) = nI 252645135 := rfl
theorem z_c4 : (Int32.ofInt 63) = nI 63 := rfl
set_option maxRecDepth 100000 in
set_option maxHeartbeats 4000000 in
theorem z_pop1 (v : Nat) (hv : v < 65536) : z_bc (nI v) = nI (z_f1 v) := by
  unfold z_bc z_f1
  have b1 : v / 2 &&& 1431655765 ≤ v := Nat.le_trans Nat.and_le_left (Nat.div_le_self _ _)
  have g1 : z_g1 v < 65536 := by unfold z_g1; omega
  have g2 : z_g2 (z_g1 v) < 262144 := by
    have q1 : (z_g1 v &&& 858993459) ≤ z_g1 v := Nat.and_le_left
    have q2 : (z_g1 v / 4 &&& 858993459) ≤ z_g1 v / 4 := Nat.and_le_left
    have q3 : z_g2 (z_g1 v) = (z_g1 v &&& 858993459) + (z_g1 v / 4 &&& 858993459) := rfl
    omega
  have g3 : z_g3 (z_g2 (z_g1 v)) < 524288 := by
    have q1 : z_g3 (z_g2 (z_g1 v)) ≤ z_g2 (z_g1 v) + z_g2 (z_g1 v) / 16 := Nat.and_le_left
    omega
  have g4 : z_g4 (z_g3 (z_g2 (z_g1 v))) < 1048576 := by
    have q3 : z_g4 (z_g3 (z_g2 (z_g1 v))) = z_g3 (z_g2 (z_g1 v)) + z_g3 (z_g2 (z_g1 v)) / 256 := rfl
    omega
  have s1 : ((nI v).toUInt32 >>> ((Int32.ofInt 1).toUInt32 &&& Int32.toUInt32 31)).toInt32 = nI (v / 2) := pk_ushrN (by omega) 1 1 (by decide)
  rw [s1, z_c1, z_and, pk_sub b1]
  rw [show v - (v / 2 &&& 1431655765) = z_g1 v from rfl]
  generalize z_g1 v = A at g1 g2 g3 g4 ⊢
  have s2 : ((nI A).toUInt32 >>> ((Int32.ofInt 2).toUInt32 &&& Int32.toUInt32 31)).toInt32 = nI (A / 4) := pk_ushrN (by omega) 2 2 (by decide)
  rw [s2, z_c2, z_and, z_and, nI_add]
  rw [show (A &&& 858993459) + (A / 4 &&& 858993459) = z_g2 A from rfl]
  generalize z_g2 A = B at g2 g3 g4 ⊢
  have s3 : ((nI B).toUInt32 >>> ((Int32.ofInt 4).toUInt32 &&& Int32.toUInt32 31)).toInt32 = nI (B / 16) := pk_ushrN (by omega) 4 4 (by decide)
  rw [s3, z_c3, nI_add, z_and]
  rw [show (B + B / 16) &&& 252645135 = z_g3 B from rfl]
  generalize z_g3 B = C at g3 g4 ⊢
  have s4 : ((nI C).toUInt32 >>> ((Int32.ofInt 8).toUInt32 &&& Int32.toUInt32 31)).toInt32 = nI (C / 256) := pk_ushrN (by omega) 8 8 (by decide)
  rw [s4, nI_add]
  rw [show C + C / 256 = z_g4 C from rfl]
  generalize z_g4 C = F at g4 ⊢
  have s5 : ((nI F).toUInt32 >>> ((Int32.ofInt 16).toUInt32 &&& Int32.toUInt32 31)).toInt32 = nI (F / 65536) := pk_ushrN (by omega) 16 16 (by decide)
  rw [s5, z_c4, nI_add, z_and]
  rfl
def z_bs (v : Nat) : Nat → Nat
  | 0 => 0
  | k + 1 => z_bs v k + v / 2 ^ k % 2
theorem z_bs_eq (v : Nat) : ∀ k, ((z_bs v k : Nat) : Int) = v_bs v k
  | 0 => rfl
  | k + 1 => by
    show ((z_bs v k + v / 2 ^ k % 2 : Nat) : Int) = v_bs v k + (v : Int) / 2 ^ k % 2
    rw [← z_bs_eq v k, Int.natCast_add, Int.natCast_emod, Int.natCast_ediv, Int.natCast_pow]
    rfl
theorem z_f2_eq (v : Nat) : ((z_f2 v : Nat) : Int) = v_bs v 16 := z_bs_eq v 16
theorem z_bc_eq {y : Int} (h : 0 ≤ y ∧ y ≤ 65535) : z_bc (Int32.ofInt y) = Int32.ofInt (v_bs y 16) := by
  obtain ⟨v, rfl⟩ : ∃ v : Nat, y = v := ⟨y.toNat, (Int.toNat_of_nonneg h.1).symm⟩
  have hv : v < 65536 := by omega
  rw [v_N, z_pop1 v hv, z_tab hv, ← z_f2_eq v, v_N]
