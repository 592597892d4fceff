/-! numbers' bits, by division -/
theorem v_N (n : Nat) : Int32.ofInt (n : Int) = nI n := by
  apply Int32.toBitVec_inj.mp
  show BitVec.ofInt 32 (n : Int) = BitVec.ofNat 32 n
  exact BitVec.ofInt_natCast 32 n
theorem v_Nz {x : Int} (h : 0 ≤ x) : Int32.ofInt x = nI x.toNat := by
  rw [← v_N, Int.toNat_of_nonneg h]
theorem v_and {x y : Int} (hx : 0 ≤ x) (hy : 0 ≤ y) : Int32.ofInt x &&& Int32.ofInt y = Int32.ofInt ((x.toNat &&& y.toNat : Nat) : Int) := by
  rw [v_Nz hx, v_Nz hy, v_N]
  apply Int32.toBitVec_inj.mp
  show BitVec.ofNat 32 _ &&& BitVec.ofNat 32 _ = BitVec.ofNat 32 _
  rw [BitVec.ofNat_and]
theorem v_or {x y : Int} (hx : 0 ≤ x) (hy : 0 ≤ y) : Int32.ofInt x ||| Int32.ofInt y = Int32.ofInt ((x.toNat ||| y.toNat : Nat) : Int) := by
  rw [v_Nz hx, v_Nz hy, v_N]
  apply Int32.toBitVec_inj.mp
  show BitVec.ofNat 32 _ ||| BitVec.ofNat 32 _ = BitVec.ofNat 32 _
  rw [BitVec.ofNat_or]
theorem v_xor {x y : Int} (hx : 0 ≤ x) (hy : 0 ≤ y) : Int32.ofInt x ^^^ Int32.ofInt y = Int32.ofInt ((x.toNat ^^^ y.toNat : Nat) : Int) := by
  rw [v_Nz hx, v_Nz hy, v_N]
  apply Int32.toBitVec_inj.mp
  show BitVec.ofNat 32 _ ^^^ BitVec.ofNat 32 _ = BitVec.ofNat 32 _
  rw [BitVec.ofNat_xor]
theorem v_sh31 {k : Nat} (h : k < 32) : nI k &&& 31 = nI k := by
  rw [pk_andN (by omega) 5 (by decide), Nat.mod_eq_of_lt (by omega)]
theorem v_smod : ∀ k : Nat, k < 32 → ((nI k).toBitVec.smod 32).toNat = k := by decide
theorem v_shr {x k : Int} (hx : 0 ≤ x ∧ x < 2147483648) (hk : 0 ≤ k ∧ k < 32) : Int32.ofInt x >>> (Int32.ofInt k &&& 31) = Int32.ofInt (x / 2 ^ k.toNat) := by
  rw [v_Nz hx.1, v_Nz hk.1, v_sh31 (by omega), pk_shrN (by omega) _ k.toNat (v_smod _ (by omega)), ← v_N, Int.natCast_ediv, Int.toNat_of_nonneg hx.1]
  rfl
theorem v_ushr {x k : Int} (hx : 0 ≤ x ∧ x < 2147483648) (hk : 0 ≤ k ∧ k < 32) : ((Int32.ofInt x).toUInt32 >>> ((Int32.ofInt k).toUInt32 &&& Int32.toUInt32 31)).toInt32 = Int32.ofInt (x / 2 ^ k.toNat) := by
  have h : ∀ k : Nat, k < 32 → (((nI k).toUInt32 &&& Int32.toUInt32 31).toBitVec % 32).toNat = k := by decide
  rw [v_Nz hx.1, v_Nz hk.1, pk_ushrN (by omega) _ k.toNat (h _ (by omega)), ← v_N, Int.natCast_ediv, Int.toNat_of_nonneg hx.1]
  rfl
theorem v_and1 {x : Int} (hx : 0 ≤ x) : Int32.ofInt x &&& Int32.ofInt 1 = Int32.ofInt (x % 2) := by
  rw [v_and hx (by decide)]
  congr 1
  show ((x.toNat &&& 1 : Nat) : Int) = _
  rw [Nat.and_one_is_mod]
  omega
theorem v_shl1 {k : Int} (hk : 0 ≤ k ∧ k < 31) : Int32.ofInt 1 <<< (Int32.ofInt k &&& 31) = Int32.ofInt (2 ^ k.toNat) := by
  rw [v_Nz hk.1, v_sh31 (by omega), show Int32.ofInt 1 = nI 1 from rfl, pk_shlN _ k.toNat (v_smod _ (by omega)) (by
    have : 2 ^ k.toNat ≤ 2 ^ 30 := Nat.pow_le_pow_right (by decide) (by omega)
    omega), ← v_N]
  congr 1
  rw [Nat.one_mul, Int.natCast_pow]
  rfl
theorem v_div {x d : Int} (hx : 0 ≤ x ∧ x < 2147483648) (hd : 0 < d ∧ d < 2147483648) : Int32.ofInt x / Int32.ofInt d = Int32.ofInt (x / d) := by
  rw [v_Nz hx.1, v_Nz (show 0 ≤ d by omega), pk_div (by omega) (by omega) (by omega), ← v_N, Int.natCast_ediv, Int.toNat_of_nonneg hx.1, Int.toNat_of_nonneg (by omega)]
theorem v_rem {x d : Int} (hx : 0 ≤ x ∧ x < 2147483648) (hd : 0 < d ∧ d < 2147483648) : Int32.ofInt x - Int32.ofInt x / Int32.ofInt d * Int32.ofInt d = Int32.ofInt (x % d) := by
  rw [v_Nz hx.1, v_Nz (show 0 ≤ d by omega), pk_rem (by omega) (by omega) (by omega), ← v_N, Int.natCast_emod, Int.toNat_of_nonneg hx.1, Int.toNat_of_nonneg (by omega)]
theorem v_p2 (k : Nat) : 0 < (2 : Int) ^ k := Int.pow_pos (by decide)
theorem v_bit01 (x : Int) (k : Nat) : 0 ≤ x / 2 ^ k % 2 ∧ x / 2 ^ k % 2 ≤ 1 := by omega
/-- a bit of two: x &&& 2 ^ k -/
theorem v_and2 {x : Int} {k : Nat} (hx : 0 ≤ x ∧ x < 2147483648) (hk : k < 31) : Int32.ofInt x &&& Int32.ofInt (2 ^ k) = Int32.ofInt (2 ^ k * (x / 2 ^ k % 2)) := by
  rw [v_and hx.1 (Int.le_of_lt (v_p2 k))]
  congr 1
  have e1 : ((2 : Int) ^ k).toNat = 2 ^ k := by
    rw [show (2 : Int) ^ k = ((2 ^ k : Nat) : Int) by rw [Int.natCast_pow]; rfl, Int.toNat_natCast]
  rw [e1]
  obtain ⟨n, rfl⟩ : ∃ n : Nat, x = n := ⟨x.toNat, (Int.toNat_of_nonneg hx.1).symm⟩
  rw [Int.toNat_natCast]
  have e2 : n &&& 2 ^ k = 2 ^ k * (n / 2 ^ k % 2) := by
    apply Nat.eq_of_testBit_eq
    intro i
    rw [Nat.testBit_and, Nat.testBit_two_pow, Nat.testBit_two_pow_mul]
    by_cases h : k = i
    · subst h
      simp [Nat.testBit_eq_decide_div_mod_eq]
    · have : (n / 2 ^ k % 2).testBit (i - k) = false ∨ ¬ i ≥ k := by
        by_cases h3 : i ≥ k
        · left
          rw [Nat.testBit_eq_decide_div_mod_eq]
          have : n / 2 ^ k % 2 / 2 ^ (i - k) = 0 := Nat.div_eq_of_lt (by
            have : 2 ^ 1 ≤ 2 ^ (i - k) := Nat.pow_le_pow_right (by decide) (by omega)
            omega)
          rw [this]
          rfl
        · exact Or.inr h3
      rcases this with h4 | h4
      · simp [h, h4]
      · simp [h, h4]
  rw [e2]
  simp
/-- how many of the lowest k bits -/
def v_bs (x : Int) : Nat → Int
  | 0 => 0
  | k + 1 => v_bs x k + x / 2 ^ k % 2
theorem v_bs_le (x : Int) : ∀ k, 0 ≤ v_bs x k ∧ v_bs x k ≤ k
  | 0 => by simp [v_bs]
  | k + 1 => by
    have := v_bs_le x k
    have := v_bit01 x k
    simp only [v_bs]
    omega
