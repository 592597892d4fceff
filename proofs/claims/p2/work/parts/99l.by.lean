/-! feed: the bytes of a long, both sides -/
theorem z_bb (x : BitVec 64) (n : Nat) (hn : n ≤ 56) : ((x >>> n).signExtend 32 &&& 255#32) = ((x.sshiftRight n) &&& 255#64).signExtend 32 := by
  apply BitVec.eq_of_getLsbD_eq_iff.mpr
  intro i hi
  rw [BitVec.signExtend_eq_setWidth_of_le _ (by decide), BitVec.signExtend_eq_setWidth_of_le _ (by decide)]
  simp only [BitVec.getLsbD_and, BitVec.getLsbD_setWidth, BitVec.getLsbD_ushiftRight, BitVec.getLsbD_sshiftRight]
  by_cases h8 : i < 8
  · rw [if_pos (by omega), decide_eq_true hi, decide_eq_false (by omega : ¬ 64 ≤ i)]
    have e : ∀ i : Nat, i < 8 → (255#32).getLsbD i = true ∧ (255#64).getLsbD i = true := by decide
    rw [(e i h8).1, (e i h8).2]
    simp
  · have e : ∀ i : Nat, i < 32 → ¬ i < 8 → (255#32).getLsbD i = false ∧ (255#64).getLsbD i = false := by decide
    rw [(e i hi h8).1, (e i hi h8).2]
    simp
theorem z_be (w : Int64) : ∀ k : Nat, k < 8 → ((w.toUInt64 >>> ((Int32.ofInt ((8 * k : Nat) : Int)).toInt64.toUInt64 &&& Int64.toUInt64 63)).toInt64).toInt32 &&& Int32.ofInt 255 = ((w >>> ((Int32.ofInt ((8 * k : Nat) : Int)).toInt64 &&& 63)) &&& Int64.ofInt 255).toInt32
  | 0, _ => Int32.toBitVec.inj (z_bb w.toBitVec 0 (by decide))
  | 1, _ => Int32.toBitVec.inj (z_bb w.toBitVec 8 (by decide))
  | 2, _ => Int32.toBitVec.inj (z_bb w.toBitVec 16 (by decide))
  | 3, _ => Int32.toBitVec.inj (z_bb w.toBitVec 24 (by decide))
  | 4, _ => Int32.toBitVec.inj (z_bb w.toBitVec 32 (by decide))
  | 5, _ => Int32.toBitVec.inj (z_bb w.toBitVec 40 (by decide))
  | 6, _ => Int32.toBitVec.inj (z_bb w.toBitVec 48 (by decide))
  | 7, _ => Int32.toBitVec.inj (z_bb w.toBitVec 56 (by decide))
  | n + 8, h => absurd h (by omega)
theorem z_br (x : Int64) : 0 ≤ ((x &&& Int64.ofInt 255).toInt32).toInt ∧ ((x &&& Int64.ofInt 255).toInt32).toInt ≤ 255 := by
  have e : ((x &&& Int64.ofInt 255).toInt32).toBitVec = x.toBitVec.setWidth 32 &&& 255#32 := by
    apply BitVec.eq_of_getLsbD_eq_iff.mpr
    intro i hi
    show ((x.toBitVec &&& 255#64).signExtend 32).getLsbD i = _
    rw [BitVec.signExtend_eq_setWidth_of_le _ (by decide)]
    simp only [BitVec.getLsbD_and, BitVec.getLsbD_setWidth, decide_eq_true hi, Bool.true_and]
    congr 1
  have h2 : ((x.toBitVec.setWidth 32 &&& 255#32).toNat) ≤ 255 := by
    rw [BitVec.toNat_and]
    exact Nat.and_le_right
  show 0 ≤ (((x &&& Int64.ofInt 255).toInt32).toBitVec).toInt ∧ (((x &&& Int64.ofInt 255).toInt32).toBitVec).toInt ≤ 255
  rw [e, BitVec.toInt_eq_toNat_cond, if_pos (by omega)]
  omega
/-- byte k of a long, counted from its end -/
def z_by (x : Int64) (k : Nat) : Int := (((x >>> ((Int32.ofInt (8 * (k : Int))).toInt64 &&& 63)) &&& Int64.ofInt 255).toInt32).toInt
theorem z_by_r (x : Int64) (k : Nat) : 0 ≤ z_by x k ∧ z_by x k ≤ 255 := z_br _
theorem z_byC (x : Int64) {k : Nat} (h : k < 8) : ((x.toUInt64 >>> ((Int32.ofInt (8 * (k : Int))).toInt64.toUInt64 &&& Int64.toUInt64 63)).toInt64).toInt32 &&& Int32.ofInt 255 = Int32.ofInt (z_by x k) := by
  have e := z_be x k h
  rw [show ((8 * k : Nat) : Int) = 8 * (k : Int) by omega] at e
  rw [e]
  unfold z_by
  rw [Int32.ofInt_toInt]
/-- so many bytes written from place q on -/
def z_fd (x : Int64) : Nat → Nat → (Nat → Int) → Nat → Int
  | 0, _, f => f
  | r + 1, q, f => z_fd x r (q + 1) (v_uf f q (z_by x r))
theorem v_fd1 (V : v_V) (a b : Nat) (hab : a ≠ b) (q : Nat) (x y s : Int) (g : Nat → Int) : v_up (v_ur (v_up (v_up V b q x) a 1 y) b g) a 1 s = v_up (v_ur V b g) a 1 s := by
  funext k j
  unfold v_up v_ur v_uf
  by_cases h1 : k = a
  · subst h1
    by_cases h2 : j = 1
    · simp [h2]
    · simp [h2, hab]
  · by_cases h2 : k = b
    · simp [h2, Ne.symm hab]
    · simp [h1, h2]
theorem v_up_same {V : v_V} {a i : Nat} {x : Int} (h : V a i = x) : v_up V a i x = V := by
  subst h
  unfold v_up
  rw [v_uf_self, v_ur_self]
