section
/-! hold, image, undo of class and reference -/
def v_oI (a b : Int) : Int := ((a.toNat ||| b.toNat : Nat) : Int)
theorem v_oI_lt {a b : Int} (ha : 0 ≤ a ∧ a ≤ 65535) (hb : 0 ≤ b ∧ b ≤ 65535) : 0 ≤ v_oI a b ∧ v_oI a b ≤ 65535 := by
  have h : a.toNat ||| b.toNat < 2 ^ 16 := Nat.or_lt_two_pow (by omega) (by omega)
  unfold v_oI
  omega
theorem v_orI {a b : Int} (ha : 0 ≤ a ∧ a ≤ 65535) (hb : 0 ≤ b ∧ b ≤ 65535) : Int32.ofInt a ||| Int32.ofInt b = Int32.ofInt (v_oI a b) := v_or ha.1 hb.1
section
variable {X : Nat → List Int32} {u w : Nat} {S : m_H} {V : v_V} {K : v_K}
def z_bc (y : Int32) : Int32 := (((((((y - (((y.toUInt32 >>> ((Int32.ofInt 1).toUInt32 &&& Int32.toUInt32 31)).toInt32) &&& (Int32.ofInt 1431655765))) &&& (Int32.ofInt 858993459)) + ((((y - (((y.toUInt32 >>> ((Int32.ofInt 1).toUInt32 &&& Int32.toUInt32 31)).toInt32) &&& (Int32.ofInt 1431655765))).toUInt32 >>> ((Int32.ofInt 2).toUInt32 &&& Int32.toUInt32 31)).toInt32) &&& (Int32.ofInt 858993459))) + (((((y - (((y.toUInt32 >>> ((Int32.ofInt 1).toUInt32 &&& Int32.toUInt32 31)).toInt32) &&& (Int32.ofInt 1431655765))) &&& (Int32.ofInt 858993459)) + ((((y - (((y.toUInt32 >>> ((Int32.ofInt 1).toUInt32 &&& Int32.toUInt32 31)).toInt32) &&& (Int32.ofInt 1431655765))).toUInt32 >>> ((Int32.ofInt 2).toUInt32 &&& Int32.toUInt32 31)).toInt32) &&& (Int32.ofInt 858993459))).toUInt32 >>> ((Int32.ofInt 4).toUInt32 &&& Int32.toUInt32 31)).toInt32)) &&& (Int32.ofInt 252645135)) + (((((((y - (((y.toUInt32 >>> ((Int32.ofInt 1).toUInt32 &&& Int32.toUInt32 31)).toInt32) &&& (Int32.ofInt 1431655765))) &&& (Int32.ofInt 858993459)) + ((((y - (((y.toUInt32 >>> ((Int32.ofInt 1).toUInt32 &&& Int32.toUInt32 31)).toInt32) &&& (Int32.ofInt 1431655765))).toUInt32 >>> ((Int32.ofInt 2).toUInt32 &&& Int32.toUInt32 31)).toInt32) &&& (Int32.ofInt 858993459))) + (((((y - (((y.toUInt32 >>> ((Int32.ofInt 1).toUInt32 &&& Int32.toUInt32 31)).toInt32) &&& (Int32.ofInt 1431655765))) &&& (Int32.ofInt 858993459)) + ((((y - (((y.toUInt32 >>> ((Int32.ofInt 1).toUInt32 &&& Int32.toUInt32 31)).toInt32) &&& (Int32.ofInt 1431655765))).toUInt32 >>> ((Int32.ofInt 2).toUInt32 &&& Int32.toUInt32 31)).toInt32) &&& (Int32.ofInt 858993459))).toUInt32 >>> ((Int32.ofInt 4).toUInt32 &&& Int32.toUInt32 31)).toInt32)) &&& (Int32.ofInt 252645135)).toUInt32 >>> ((Int32.ofInt 8).toUInt32 &&& Int32.toUInt32 31)).toInt32)) + ((((((((y - (((y.toUInt32 >>> ((Int32.ofInt 1).toUInt32 &&& Int32.toUInt32 31)).toInt32) &&& (Int32.ofInt 1431655765))) &&& (Int32.ofInt 858993459)) + ((((y - (((y.toUInt32 >>> ((Int32.ofInt 1).toUInt32 &&& Int32.toUInt32 31)).toInt32) &&& (Int32.ofInt 1431655765))).toUInt32 >>> ((Int32.ofInt 2).toUInt32 &&& Int32.toUInt32 31)).toInt32) &&& (Int32.ofInt 858993459))) + (((((y - (((y.toUInt32 >>> ((Int32.ofInt 1).toUInt32 &&& Int32.toUInt32 31)).toInt32) &&& (Int32.ofInt 1431655765))) &&& (Int32.ofInt 858993459)) + ((((y - (((y.toUInt32 >>> ((Int32.ofInt 1).toUInt32 &&& Int32.toUInt32 31)).toInt32) &&& (Int32.ofInt 1431655765))).toUInt32 >>> ((Int32.ofInt 2).toUInt32 &&& Int32.toUInt32 31)).toInt32) &&& (Int32.ofInt 858993459))).toUInt32 >>> ((Int32.ofInt 4).toUInt32 &&& Int32.toUInt32 31)).toInt32)) &&& (Int32.ofInt 252645135)) + (((((((y - (((y.toUInt32 >>> ((Int32.ofInt 1).toUInt32 &&& Int32.toUInt32 31)).toInt32) &&& (Int32.ofInt 1431655765))) &&& (Int32.ofInt 858993459)) + ((((y - (((y.toUInt32 >>> ((Int32.ofInt 1).toUInt32 &&& Int32.toUInt32 31)).toInt32) &&& (Int32.ofInt 1431655765))).toUInt32 >>> ((Int32.ofInt 2).toUInt32 &&& Int32.toUInt32 31)).toInt32) &&& (Int32.ofInt 858993459))) + (((((y - (((y.toUInt32 >>> ((Int32.ofInt 1).toUInt32 &&& Int32.toUInt32 31)).toInt32) &&& (Int32.ofInt 1431655765))) &&& (Int32.ofInt 858993459)) + ((((y - (((y.toUInt32 >>> ((Int32.ofInt 1).toUInt32 &&& Int32.toUInt32 31)).toInt32) &&& (Int32.ofInt 1431655765))).toUInt32 >>> ((Int32.ofInt 2).toUInt32 &&& Int32.toUInt32 31)).toInt32) &&& (Int32.ofInt 858993459))).toUInt32 >>> ((Int32.ofInt 4).toUInt32 &&& Int32.toUInt32 31)).toInt32)) &&& (Int32.ofInt 252645135)).toUInt32 >>> ((Int32.ofInt 8).toUInt32 &&& Int32.toUInt32 31)).toInt32)).toUInt32 >>> ((Int32.ofInt 16).toUInt32 &&& Int32.toUInt32 31)).toInt32)) &&& (Int32.ofInt 63)
set_option maxRecDepth 100000 in
set_option maxHeartbeats 4000000 in
theorem cc_bitCount {y : Int32} (k : K u w (some (.int (z_bc y))) S V) : y_R X 1 179 u w [.int y] S V K := by
  refine y_ent (lv' := [(0, .int y)]) (Nat.le_of_ble_eq_true rfl) rfl ?_
  refine y_ld (x := .int y) rfl rfl (fun d => rfl) ?_
  refine y_ld (x := .int y) rfl rfl (fun d => rfl) ?_
  refine y_ic rfl rfl ?_
  refine y_in rfl rfl (fun d => rfl) ?_
  refine y_ld (x := iv 1431655765) rfl rfl (fun d => rfl) ?_
  refine y_in rfl rfl (fun d => rfl) ?_
  refine y_in rfl rfl (fun d => rfl) ?_
  refine y_st (lv' := [(0, .int (y - (((y.toUInt32 >>> ((Int32.ofInt 1).toUInt32 &&& Int32.toUInt32 31)).toInt32) &&& (Int32.ofInt 1431655765))))]) rfl rfl (fun d => rfl) ?_
  refine y_ld (x := .int (y - (((y.toUInt32 >>> ((Int32.ofInt 1).toUInt32 &&& Int32.toUInt32 31)).toInt32) &&& (Int32.ofInt 1431655765)))) rfl rfl (fun d => rfl) ?_
  refine y_ld (x := iv 858993459) rfl rfl (fun d => rfl) ?_
  refine y_in rfl rfl (fun d => rfl) ?_
  refine y_ld (x := .int (y - (((y.toUInt32 >>> ((Int32.ofInt 1).toUInt32 &&& Int32.toUInt32 31)).toInt32) &&& (Int32.ofInt 1431655765)))) rfl rfl (fun d => rfl) ?_
  refine y_ic rfl rfl ?_
  refine y_in rfl rfl (fun d => rfl) ?_
  refine y_ld (x := iv 858993459) rfl rfl (fun d => rfl) ?_
  refine y_in rfl rfl (fun d => rfl) ?_
  refine y_in rfl rfl (fun d => rfl) ?_
  refine y_st (lv' := [(0, .int (((y - (((y.toUInt32 >>> ((Int32.ofInt 1).toUInt32 &&& Int32.toUInt32 31)).toInt32) &&& (Int32.ofInt 1431655765))) &&& (Int32.ofInt 858993459)) + ((((y - (((y.toUInt32 >>> ((Int32.ofInt 1).toUInt32 &&& Int32.toUInt32 31)).toInt32) &&& (Int32.ofInt 1431655765))).toUInt32 >>> ((Int32.ofInt 2).toUInt32 &&& Int32.toUInt32 31)).toInt32) &&& (Int32.ofInt 858993459))))]) rfl rfl (fun d => rfl) ?_
  refine y_ld (x := .int (((y - (((y.toUInt32 >>> ((Int32.ofInt 1).toUInt32 &&& Int32.toUInt32 31)).toInt32) &&& (Int32.ofInt 1431655765))) &&& (Int32.ofInt 858993459)) + ((((y - (((y.toUInt32 >>> ((Int32.ofInt 1).toUInt32 &&& Int32.toUInt32 31)).toInt32) &&& (Int32.ofInt 1431655765))).toUInt32 >>> ((Int32.ofInt 2).toUInt32 &&& Int32.toUInt32 31)).toInt32) &&& (Int32.ofInt 858993459)))) rfl rfl (fun d => rfl) ?_
  refine y_ld (x := .int (((y - (((y.toUInt32 >>> ((Int32.ofInt 1).toUInt32 &&& Int32.toUInt32 31)).toInt32) &&& (Int32.ofInt 1431655765))) &&& (Int32.ofInt 858993459)) + ((((y - (((y.toUInt32 >>> ((Int32.ofInt 1).toUInt32 &&& Int32.toUInt32 31)).toInt32) &&& (Int32.ofInt 1431655765))).toUInt32 >>> ((Int32.ofInt 2).toUInt32 &&& Int32.toUInt32 31)).toInt32) &&& (Int32.ofInt 858993459)))) rfl rfl (fun d => rfl) ?_
  refine y_ic rfl rfl ?_
  refine y_in rfl rfl (fun d => rfl) ?_
  refine y_in rfl rfl (fun d => rfl) ?_
  refine y_ld (x := iv 252645135) rfl rfl (fun d => rfl) ?_
  refine y_in rfl rfl (fun d => rfl) ?_
  refine y_st (lv' := [(0, .int (((((y - (((y.toUInt32 >>> ((Int32.ofInt 1).toUInt32 &&& Int32.toUInt32 31)).toInt32) &&& (Int32.ofInt 1431655765))) &&& (Int32.ofInt 858993459)) + ((((y - (((y.toUInt32 >>> ((Int32.ofInt 1).toUInt32 &&& Int32.toUInt32 31)).toInt32) &&& (Int32.ofInt 1431655765))).toUInt32 >>> ((Int32.ofInt 2).toUInt32 &&& Int32.toUInt32 31)).toInt32) &&& (Int32.ofInt 858993459))) + (((((y - (((y.toUInt32 >>> ((Int32.ofInt 1).toUInt32 &&& Int32.toUInt32 31)).toInt32) &&& (Int32.ofInt 1431655765))) &&& (Int32.ofInt 858993459)) + ((((y - (((y.toUInt32 >>> ((Int32.ofInt 1).toUInt32 &&& Int32.toUInt32 31)).toInt32) &&& (Int32.ofInt 1431655765))).toUInt32 >>> ((Int32.ofInt 2).toUInt32 &&& Int32.toUInt32 31)).toInt32) &&& (Int32.ofInt 858993459))).toUInt32 >>> ((Int32.ofInt 4).toUInt32 &&& Int32.toUInt32 31)).toInt32)) &&& (Int32.ofInt 252645135)))]) rfl rfl (fun d => rfl) ?_
  refine y_ld (x := .int (((((y - (((y.toUInt32 >>> ((Int32.ofInt 1).toUInt32 &&& Int32.toUInt32 31)).toInt32) &&& (Int32.ofInt 1431655765))) &&& (Int32.ofInt 858993459)) + ((((y - (((y.toUInt32 >>> ((Int32.ofInt 1).toUInt32 &&& Int32.toUInt32 31)).toInt32) &&& (Int32.ofInt 1431655765))).toUInt32 >>> ((Int32.ofInt 2).toUInt32 &&& Int32.toUInt32 31)).toInt32) &&& (Int32.ofInt 858993459))) + (((((y - (((y.toUInt32 >>> ((Int32.ofInt 1).toUInt32 &&& Int32.toUInt32 31)).toInt32) &&& (Int32.ofInt 1431655765))) &&& (Int32.ofInt 858993459)) + ((((y - (((y.toUInt32 >>> ((Int32.ofInt 1).toUInt32 &&& Int32.toUInt32 31)).toInt32) &&& (Int32.ofInt 1431655765))).toUInt32 >>> ((Int32.ofInt 2).toUInt32 &&& Int32.toUInt32 31)).toInt32) &&& (Int32.ofInt 858993459))).toUInt32 >>> ((Int32.ofInt 4).toUInt32 &&& Int32.toUInt32 31)).toInt32)) &&& (Int32.ofInt 252645135))) rfl rfl (fun d => rfl) ?_
  refine y_ld (x := .int (((((y - (((y.toUInt32 >>> ((Int32.ofInt 1).toUInt32 &&& Int32.toUInt32 31)).toInt32) &&& (Int32.ofInt 1431655765))) &&& (Int32.ofInt 858993459)) + ((((y - (((y.toUInt32 >>> ((Int32.ofInt 1).toUInt32 &&& Int32.toUInt32 31)).toInt32) &&& (Int32.ofInt 1431655765))).toUInt32 >>> ((Int32.ofInt 2).toUInt32 &&& Int32.toUInt32 31)).toInt32) &&& (Int32.ofInt 858993459))) + (((((y - (((y.toUInt32 >>> ((Int32.ofInt 1).toUInt32 &&& Int32.toUInt32 31)).toInt32) &&& (Int32.ofInt 1431655765))) &&& (Int32.ofInt 858993459)) + ((((y - (((y.toUInt32 >>> ((Int32.ofInt 1).toUInt32 &&& Int32.toUInt32 31)).toInt32) &&& (Int32.ofInt 1431655765))).toUInt32 >>> ((Int32.ofInt 2).toUInt32 &&& Int32.toUInt32 31)).toInt32) &&& (Int32.ofInt 858993459))).toUInt32 >>> ((Int32.ofInt 4).toUInt32 &&& Int32.toUInt32 31)).toInt32)) &&& (Int32.ofInt 252645135))) rfl rfl (fun d => rfl) ?_
  refine y_bi rfl rfl (by decide) ?_
  refine y_in rfl rfl (fun d => rfl) ?_
  refine y_in rfl rfl (fun d => rfl) ?_
  refine y_st (lv' := [(0, .int ((((((y - (((y.toUInt32 >>> ((Int32.ofInt 1).toUInt32 &&& Int32.toUInt32 31)).toInt32) &&& (Int32.ofInt 1431655765))) &&& (Int32.ofInt 858993459)) + ((((y - (((y.toUInt32 >>> ((Int32.ofInt 1).toUInt32 &&& Int32.toUInt32 31)).toInt32) &&& (Int32.ofInt 1431655765))).toUInt32 >>> ((Int32.ofInt 2).toUInt32 &&& Int32.toUInt32 31)).toInt32) &&& (Int32.ofInt 858993459))) + (((((y - (((y.toUInt32 >>> ((Int32.ofInt 1).toUInt32 &&& Int32.toUInt32 31)).toInt32) &&& (Int32.ofInt 1431655765))) &&& (Int32.ofInt 858993459)) + ((((y - (((y.toUInt32 >>> ((Int32.ofInt 1).toUInt32 &&& Int32.toUInt32 31)).toInt32) &&& (Int32.ofInt 1431655765))).toUInt32 >>> ((Int32.ofInt 2).toUInt32 &&& Int32.toUInt32 31)).toInt32) &&& (Int32.ofInt 858993459))).toUInt32 >>> ((Int32.ofInt 4).toUInt32 &&& Int32.toUInt32 31)).toInt32)) &&& (Int32.ofInt 252645135)) + (((((((y - (((y.toUInt32 >>> ((Int32.ofInt 1).toUInt32 &&& Int32.toUInt32 31)).toInt32) &&& (Int32.ofInt 1431655765))) &&& (Int32.ofInt 858993459)) + ((((y - (((y.toUInt32 >>> ((Int32.ofInt 1).toUInt32 &&& Int32.toUInt32 31)).toInt32) &&& (Int32.ofInt 1431655765))).toUInt32 >>> ((Int32.ofInt 2).toUInt32 &&& Int32.toUInt32 31)).toInt32) &&& (Int32.ofInt 858993459))) + (((((y - (((y.toUInt32 >>> ((Int32.ofInt 1).toUInt32 &&& Int32.toUInt32 31)).toInt32) &&& (Int32.ofInt 1431655765))) &&& (Int32.ofInt 858993459)) + ((((y - (((y.toUInt32 >>> ((Int32.ofInt 1).toUInt32 &&& Int32.toUInt32 31)).toInt32) &&& (Int32.ofInt 1431655765))).toUInt32 >>> ((Int32.ofInt 2).toUInt32 &&& Int32.toUInt32 31)).toInt32) &&& (Int32.ofInt 858993459))).toUInt32 >>> ((Int32.ofInt 4).toUInt32 &&& Int32.toUInt32 31)).toInt32)) &&& (Int32.ofInt 252645135)).toUInt32 >>> ((Int32.ofInt 8).toUInt32 &&& Int32.toUInt32 31)).toInt32)))]) rfl rfl (fun d => rfl) ?_
  refine y_ld (x := .int ((((((y - (((y.toUInt32 >>> ((Int32.ofInt 1).toUInt32 &&& Int32.toUInt32 31)).toInt32) &&& (Int32.ofInt 1431655765))) &&& (Int32.ofInt 858993459)) + ((((y - (((y.toUInt32 >>> ((Int32.ofInt 1).toUInt32 &&& Int32.toUInt32 31)).toInt32) &&& (Int32.ofInt 1431655765))).toUInt32 >>> ((Int32.ofInt 2).toUInt32 &&& Int32.toUInt32 31)).toInt32) &&& (Int32.ofInt 858993459))) + (((((y - (((y.toUInt32 >>> ((Int32.ofInt 1).toUInt32 &&& Int32.toUInt32 31)).toInt32) &&& (Int32.ofInt 1431655765))) &&& (Int32.ofInt 858993459)) + ((((y - (((y.toUInt32 >>> ((Int32.ofInt 1).toUInt32 &&& Int32.toUInt32 31)).toInt32) &&& (Int32.ofInt 1431655765))).toUInt32 >>> ((Int32.ofInt 2).toUInt32 &&& Int32.toUInt32 31)).toInt32) &&& (Int32.ofInt 858993459))).toUInt32 >>> ((Int32.ofInt 4).toUInt32 &&& Int32.toUInt32 31)).toInt32)) &&& (Int32.ofInt 252645135)) + (((((((y - (((y.toUInt32 >>> ((Int32.ofInt 1).toUInt32 &&& Int32.toUInt32 31)).toInt32) &&& (Int32.ofInt 1431655765))) &&& (Int32.ofInt 858993459)) + ((((y - (((y.toUInt32 >>> ((Int32.ofInt 1).toUInt32 &&& Int32.toUInt32 31)).toInt32) &&& (Int32.ofInt 1431655765))).toUInt32 >>> ((Int32.ofInt 2).toUInt32 &&& Int32.toUInt32 31)).toInt32) &&& (Int32.ofInt 858993459))) + (((((y - (((y.toUInt32 >>> ((Int32.ofInt 1).toUInt32 &&& Int32.toUInt32 31)).toInt32) &&& (Int32.ofInt 1431655765))) &&& (Int32.ofInt 858993459)) + ((((y - (((y.toUInt32 >>> ((Int32.ofInt 1).toUInt32 &&& Int32.toUInt32 31)).toInt32) &&& (Int32.ofInt 1431655765))).toUInt32 >>> ((Int32.ofInt 2).toUInt32 &&& Int32.toUInt32 31)).toInt32) &&& (Int32.ofInt 858993459))).toUInt32 >>> ((Int32.ofInt 4).toUInt32 &&& Int32.toUInt32 31)).toInt32)) &&& (Int32.ofInt 252645135)).toUInt32 >>> ((Int32.ofInt 8).toUInt32 &&& Int32.toUInt32 31)).toInt32))) rfl rfl (fun d => rfl) ?_
  refine y_ld (x := .int ((((((y - (((y.toUInt32 >>> ((Int32.ofInt 1).toUInt32 &&& Int32.toUInt32 31)).toInt32) &&& (Int32.ofInt 1431655765))) &&& (Int32.ofInt 858993459)) + ((((y - (((y.toUInt32 >>> ((Int32.ofInt 1).toUInt32 &&& Int32.toUInt32 31)).toInt32) &&& (Int32.ofInt 1431655765))).toUInt32 >>> ((Int32.ofInt 2).toUInt32 &&& Int32.toUInt32 31)).toInt32) &&& (Int32.ofInt 858993459))) + (((((y - (((y.toUInt32 >>> ((Int32.ofInt 1).toUInt32 &&& Int32.toUInt32 31)).toInt32) &&& (Int32.ofInt 1431655765))) &&& (Int32.ofInt 858993459)) + ((((y - (((y.toUInt32 >>> ((Int32.ofInt 1).toUInt32 &&& Int32.toUInt32 31)).toInt32) &&& (Int32.ofInt 1431655765))).toUInt32 >>> ((Int32.ofInt 2).toUInt32 &&& Int32.toUInt32 31)).toInt32) &&& (Int32.ofInt 858993459))).toUInt32 >>> ((Int32.ofInt 4).toUInt32 &&& Int32.toUInt32 31)).toInt32)) &&& (Int32.ofInt 252645135)) + (((((((y - (((y.toUInt32 >>> ((Int32.ofInt 1).toUInt32 &&& Int32.toUInt32 31)).toInt32) &&& (Int32.ofInt 1431655765))) &&& (Int32.ofInt 858993459)) + ((((y - (((y.toUInt32 >>> ((Int32.ofInt 1).toUInt32 &&& Int32.toUInt32 31)).toInt32) &&& (Int32.ofInt 1431655765))).toUInt32 >>> ((Int32.ofInt 2).toUInt32 &&& Int32.toUInt32 31)).toInt32) &&& (Int32.ofInt 858993459))) + (((((y - (((y.toUInt32 >>> ((Int32.ofInt 1).toUInt32 &&& Int32.toUInt32 31)).toInt32) &&& (Int32.ofInt 1431655765))) &&& (Int32.ofInt 858993459)) + ((((y - (((y.toUInt32 >>> ((Int32.ofInt 1).toUInt32 &&& Int32.toUInt32 31)).toInt32) &&& (Int32.ofInt 1431655765))).toUInt32 >>> ((Int32.ofInt 2).toUInt32 &&& Int32.toUInt32 31)).toInt32) &&& (Int32.ofInt 858993459))).toUInt32 >>> ((Int32.ofInt 4).toUInt32 &&& Int32.toUInt32 31)).toInt32)) &&& (Int32.ofInt 252645135)).toUInt32 >>> ((Int32.ofInt 8).toUInt32 &&& Int32.toUInt32 31)).toInt32))) rfl rfl (fun d => rfl) ?_
  refine y_bi rfl rfl (by decide) ?_
  refine y_in rfl rfl (fun d => rfl) ?_
  refine y_in rfl rfl (fun d => rfl) ?_
  refine y_st (lv' := [(0, .int (((((((y - (((y.toUInt32 >>> ((Int32.ofInt 1).toUInt32 &&& Int32.toUInt32 31)).toInt32) &&& (Int32.ofInt 1431655765))) &&& (Int32.ofInt 858993459)) + ((((y - (((y.toUInt32 >>> ((Int32.ofInt 1).toUInt32 &&& Int32.toUInt32 31)).toInt32) &&& (Int32.ofInt 1431655765))).toUInt32 >>> ((Int32.ofInt 2).toUInt32 &&& Int32.toUInt32 31)).toInt32) &&& (Int32.ofInt 858993459))) + (((((y - (((y.toUInt32 >>> ((Int32.ofInt 1).toUInt32 &&& Int32.toUInt32 31)).toInt32) &&& (Int32.ofInt 1431655765))) &&& (Int32.ofInt 858993459)) + ((((y - (((y.toUInt32 >>> ((Int32.ofInt 1).toUInt32 &&& Int32.toUInt32 31)).toInt32) &&& (Int32.ofInt 1431655765))).toUInt32 >>> ((Int32.ofInt 2).toUInt32 &&& Int32.toUInt32 31)).toInt32) &&& (Int32.ofInt 858993459))).toUInt32 >>> ((Int32.ofInt 4).toUInt32 &&& Int32.toUInt32 31)).toInt32)) &&& (Int32.ofInt 252645135)) + (((((((y - (((y.toUInt32 >>> ((Int32.ofInt 1).toUInt32 &&& Int32.toUInt32 31)).toInt32) &&& (Int32.ofInt 1431655765))) &&& (Int32.ofInt 858993459)) + ((((y - (((y.toUInt32 >>> ((Int32.ofInt 1).toUInt32 &&& Int32.toUInt32 31)).toInt32) &&& (Int32.ofInt 1431655765))).toUInt32 >>> ((Int32.ofInt 2).toUInt32 &&& Int32.toUInt32 31)).toInt32) &&& (Int32.ofInt 858993459))) + (((((y - (((y.toUInt32 >>> ((Int32.ofInt 1).toUInt32 &&& Int32.toUInt32 31)).toInt32) &&& (Int32.ofInt 1431655765))) &&& (Int32.ofInt 858993459)) + ((((y - (((y.toUInt32 >>> ((Int32.ofInt 1).toUInt32 &&& Int32.toUInt32 31)).toInt32) &&& (Int32.ofInt 1431655765))).toUInt32 >>> ((Int32.ofInt 2).toUInt32 &&& Int32.toUInt32 31)).toInt32) &&& (Int32.ofInt 858993459))).toUInt32 >>> ((Int32.ofInt 4).toUInt32 &&& Int32.toUInt32 31)).toInt32)) &&& (Int32.ofInt 252645135)).toUInt32 >>> ((Int32.ofInt 8).toUInt32 &&& Int32.toUInt32 31)).toInt32)) + ((((((((y - (((y.toUInt32 >>> ((Int32.ofInt 1).toUInt32 &&& Int32.toUInt32 31)).toInt32) &&& (Int32.ofInt 1431655765))) &&& (Int32.ofInt 858993459)) + ((((y - (((y.toUInt32 >>> ((Int32.ofInt 1).toUInt32 &&& Int32.toUInt32 31)).toInt32) &&& (Int32.ofInt 1431655765))).toUInt32 >>> ((Int32.ofInt 2).toUInt32 &&& Int32.toUInt32 31)).toInt32) &&& (Int32.ofInt 858993459))) + (((((y - (((y.toUInt32 >>> ((Int32.ofInt 1).toUInt32 &&& Int32.toUInt32 31)).toInt32) &&& (Int32.ofInt 1431655765))) &&& (Int32.ofInt 858993459)) + ((((y - (((y.toUInt32 >>> ((Int32.ofInt 1).toUInt32 &&& Int32.toUInt32 31)).toInt32) &&& (Int32.ofInt 1431655765))).toUInt32 >>> ((Int32.ofInt 2).toUInt32 &&& Int32.toUInt32 31)).toInt32) &&& (Int32.ofInt 858993459))).toUInt32 >>> ((Int32.ofInt 4).toUInt32 &&& Int32.toUInt32 31)).toInt32)) &&& (Int32.ofInt 252645135)) + (((((((y - (((y.toUInt32 >>> ((Int32.ofInt 1).toUInt32 &&& Int32.toUInt32 31)).toInt32) &&& (Int32.ofInt 1431655765))) &&& (Int32.ofInt 858993459)) + ((((y - (((y.toUInt32 >>> ((Int32.ofInt 1).toUInt32 &&& Int32.toUInt32 31)).toInt32) &&& (Int32.ofInt 1431655765))).toUInt32 >>> ((Int32.ofInt 2).toUInt32 &&& Int32.toUInt32 31)).toInt32) &&& (Int32.ofInt 858993459))) + (((((y - (((y.toUInt32 >>> ((Int32.ofInt 1).toUInt32 &&& Int32.toUInt32 31)).toInt32) &&& (Int32.ofInt 1431655765))) &&& (Int32.ofInt 858993459)) + ((((y - (((y.toUInt32 >>> ((Int32.ofInt 1).toUInt32 &&& Int32.toUInt32 31)).toInt32) &&& (Int32.ofInt 1431655765))).toUInt32 >>> ((Int32.ofInt 2).toUInt32 &&& Int32.toUInt32 31)).toInt32) &&& (Int32.ofInt 858993459))).toUInt32 >>> ((Int32.ofInt 4).toUInt32 &&& Int32.toUInt32 31)).toInt32)) &&& (Int32.ofInt 252645135)).toUInt32 >>> ((Int32.ofInt 8).toUInt32 &&& Int32.toUInt32 31)).toInt32)).toUInt32 >>> ((Int32.ofInt 16).toUInt32 &&& Int32.toUInt32 31)).toInt32)))]) rfl rfl (fun d => rfl) ?_
  refine y_ld (x := .int (((((((y - (((y.toUInt32 >>> ((Int32.ofInt 1).toUInt32 &&& Int32.toUInt32 31)).toInt32) &&& (Int32.ofInt 1431655765))) &&& (Int32.ofInt 858993459)) + ((((y - (((y.toUInt32 >>> ((Int32.ofInt 1).toUInt32 &&& Int32.toUInt32 31)).toInt32) &&& (Int32.ofInt 1431655765))).toUInt32 >>> ((Int32.ofInt 2).toUInt32 &&& Int32.toUInt32 31)).toInt32) &&& (Int32.ofInt 858993459))) + (((((y - (((y.toUInt32 >>> ((Int32.ofInt 1).toUInt32 &&& Int32.toUInt32 31)).toInt32) &&& (Int32.ofInt 1431655765))) &&& (Int32.ofInt 858993459)) + ((((y - (((y.toUInt32 >>> ((Int32.ofInt 1).toUInt32 &&& Int32.toUInt32 31)).toInt32) &&& (Int32.ofInt 1431655765))).toUInt32 >>> ((Int32.ofInt 2).toUInt32 &&& Int32.toUInt32 31)).toInt32) &&& (Int32.ofInt 858993459))).toUInt32 >>> ((Int32.ofInt 4).toUInt32 &&& Int32.toUInt32 31)).toInt32)) &&& (Int32.ofInt 252645135)) + (((((((y - (((y.toUInt32 >>> ((Int32.ofInt 1).toUInt32 &&& Int32.toUInt32 31)).toInt32) &&& (Int32.ofInt 1431655765))) &&& (Int32.ofInt 858993459)) + ((((y - (((y.toUInt32 >>> ((Int32.ofInt 1).toUInt32 &&& Int32.toUInt32 31)).toInt32) &&& (Int32.ofInt 1431655765))).toUInt32 >>> ((Int32.ofInt 2).toUInt32 &&& Int32.toUInt32 31)).toInt32) &&& (Int32.ofInt 858993459))) + (((((y - (((y.toUInt32 >>> ((Int32.ofInt 1).toUInt32 &&& Int32.toUInt32 31)).toInt32) &&& (Int32.ofInt 1431655765))) &&& (Int32.ofInt 858993459)) + ((((y - (((y.toUInt32 >>> ((Int32.ofInt 1).toUInt32 &&& Int32.toUInt32 31)).toInt32) &&& (Int32.ofInt 1431655765))).toUInt32 >>> ((Int32.ofInt 2).toUInt32 &&& Int32.toUInt32 31)).toInt32) &&& (Int32.ofInt 858993459))).toUInt32 >>> ((Int32.ofInt 4).toUInt32 &&& Int32.toUInt32 31)).toInt32)) &&& (Int32.ofInt 252645135)).toUInt32 >>> ((Int32.ofInt 8).toUInt32 &&& Int32.toUInt32 31)).toInt32)) + ((((((((y - (((y.toUInt32 >>> ((Int32.ofInt 1).toUInt32 &&& Int32.toUInt32 31)).toInt32) &&& (Int32.ofInt 1431655765))) &&& (Int32.ofInt 858993459)) + ((((y - (((y.toUInt32 >>> ((Int32.ofInt 1).toUInt32 &&& Int32.toUInt32 31)).toInt32) &&& (Int32.ofInt 1431655765))).toUInt32 >>> ((Int32.ofInt 2).toUInt32 &&& Int32.toUInt32 31)).toInt32) &&& (Int32.ofInt 858993459))) + (((((y - (((y.toUInt32 >>> ((Int32.ofInt 1).toUInt32 &&& Int32.toUInt32 31)).toInt32) &&& (Int32.ofInt 1431655765))) &&& (Int32.ofInt 858993459)) + ((((y - (((y.toUInt32 >>> ((Int32.ofInt 1).toUInt32 &&& Int32.toUInt32 31)).toInt32) &&& (Int32.ofInt 1431655765))).toUInt32 >>> ((Int32.ofInt 2).toUInt32 &&& Int32.toUInt32 31)).toInt32) &&& (Int32.ofInt 858993459))).toUInt32 >>> ((Int32.ofInt 4).toUInt32 &&& Int32.toUInt32 31)).toInt32)) &&& (Int32.ofInt 252645135)) + (((((((y - (((y.toUInt32 >>> ((Int32.ofInt 1).toUInt32 &&& Int32.toUInt32 31)).toInt32) &&& (Int32.ofInt 1431655765))) &&& (Int32.ofInt 858993459)) + ((((y - (((y.toUInt32 >>> ((Int32.ofInt 1).toUInt32 &&& Int32.toUInt32 31)).toInt32) &&& (Int32.ofInt 1431655765))).toUInt32 >>> ((Int32.ofInt 2).toUInt32 &&& Int32.toUInt32 31)).toInt32) &&& (Int32.ofInt 858993459))) + (((((y - (((y.toUInt32 >>> ((Int32.ofInt 1).toUInt32 &&& Int32.toUInt32 31)).toInt32) &&& (Int32.ofInt 1431655765))) &&& (Int32.ofInt 858993459)) + ((((y - (((y.toUInt32 >>> ((Int32.ofInt 1).toUInt32 &&& Int32.toUInt32 31)).toInt32) &&& (Int32.ofInt 1431655765))).toUInt32 >>> ((Int32.ofInt 2).toUInt32 &&& Int32.toUInt32 31)).toInt32) &&& (Int32.ofInt 858993459))).toUInt32 >>> ((Int32.ofInt 4).toUInt32 &&& Int32.toUInt32 31)).toInt32)) &&& (Int32.ofInt 252645135)).toUInt32 >>> ((Int32.ofInt 8).toUInt32 &&& Int32.toUInt32 31)).toInt32)).toUInt32 >>> ((Int32.ofInt 16).toUInt32 &&& Int32.toUInt32 31)).toInt32))) rfl rfl (fun d => rfl) ?_
  refine y_bi rfl rfl (by decide) ?_
  refine y_in rfl rfl (fun d => rfl) ?_
  refine y_ret rfl (fun d => rfl) ?_
  exact k
set_option maxRecDepth 100000 in
set_option maxHeartbeats 4000000 in
theorem cc_hold (hC : ClF S) {x : Int} (h : (-2147483648 ≤ x ∧ x < 2147483648)) (hH : 0 ≤ V 1 10 ∧ V 1 10 ≤ 65535) (k : K u w (some (if 0 ≤ x ∧ x ≤ 65535 then .int (z_bc (Int32.ofInt (v_oI (V 1 10) x))) else iv (-2))) S (if 0 ≤ x ∧ x ≤ 65535 then v_up V 1 10 (v_oI (V 1 10) x) else V)) : y_R X 2 82 u w [.ref 0, iv x] S V K := by
  refine y_ent (lv' := [(0, .ref 0), (1, iv x)]) (Nat.le_of_ble_eq_true rfl) rfl ?_
  refine y_ld (x := iv x) rfl rfl (fun d => rfl) ?_
  refine y_cS (as := [iv x]) rfl (by decide) rfl rfl rfl rfl ⟨(Nat.le_of_ble_eq_true rfl), (Nat.le_of_ble_eq_true rfl)⟩ (by decide) (cc_areTalks (by omega) ?_)
  refine y_nv ?_
  refine y_bne rfl rfl rfl (fun g1 => ?_) (fun g1 => ?_)
  · refine y_ld (x := .ref 0) rfl rfl (fun d => rfl) ?_
    refine y_gR (i := 0) rfl rfl rfl (hC 0 _ _ rfl) rfl ?_
    refine y_in rfl rfl (fun d => rfl) ?_
    refine y_gI (i := 10) (e := (V 1 10)) rfl rfl rfl (hC 1 _ _ rfl) rfl rfl ?_
    refine y_ld (x := iv x) rfl rfl (fun d => rfl) ?_
    refine y_op (z := (v_oI (V 1 10) x)) rfl rfl (fun d => rfl) (v_orI (by omega) (by omega)) ?_
    refine y_pI (i := 10) rfl rfl rfl (hC 1 _ _ rfl) rfl rfl ?_
    refine y_ld (x := .ref 0) rfl rfl (fun d => rfl) ?_
    refine y_gR (i := 0) rfl rfl rfl (hC 0 _ _ rfl) rfl ?_
    refine y_gI (i := 10) (e := (v_oI (V 1 10) x)) rfl rfl rfl (hC 1 _ _ rfl) rfl rfl ?_
    refine y_cS (as := [iv (v_oI (V 1 10) x)]) rfl (by decide) rfl rfl rfl rfl ⟨(Nat.le_of_ble_eq_true rfl), (Nat.le_of_ble_eq_true rfl)⟩ (by decide) (cc_bitCount ?_)
    refine y_nv ?_
    refine y_ret rfl (fun d => rfl) ?_
    rwa [if_pos g1, if_pos g1] at k
  · refine y_bi rfl rfl (by decide) ?_
    refine y_rI rfl (Or.inl rfl) ?_
    rwa [if_neg g1, if_neg g1] at k
set_option maxRecDepth 100000 in
set_option maxHeartbeats 4000000 in
theorem ct_hold (hM : MdS S) {x : Int} (h : (-2147483648 ≤ x ∧ x < 2147483648)) (hH : 0 ≤ V 171 4 ∧ V 171 4 ≤ 65535) (k : K u w (some (if 0 ≤ x ∧ x ≤ 65535 then iv (v_bs (v_oI (V 171 4) x) 16) else iv (-2))) S (if 0 ≤ x ∧ x ≤ 65535 then v_up V 171 4 (v_oI (V 171 4) x) else V)) : y_R X 2 148 u w [.ref 170, iv x] S V K := by
  refine y_ent (lv' := [(0, .ref 170), (1, iv x)]) (Nat.le_of_ble_eq_true rfl) rfl ?_
  refine y_ld (x := iv x) rfl rfl (fun d => rfl) ?_
  refine y_ic rfl rfl ?_
  refine y_ld (x := iv 65535) rfl rfl (fun d => rfl) ?_
  refine y_cS (as := [iv x, iv 0, iv 65535]) rfl (by decide) rfl rfl rfl rfl ⟨(Nat.le_of_ble_eq_true rfl), (Nat.le_of_ble_eq_true rfl)⟩ (by decide) (ct_in (by omega) ?_)
  refine y_nv ?_
  refine y_bne rfl rfl rfl (fun g1 => ?_) (fun g1 => ?_)
  · refine y_ld (x := .ref 170) rfl rfl (fun d => rfl) ?_
    refine y_gR (i := 1) rfl rfl rfl (md170 hM) rfl ?_
    refine y_ic rfl rfl ?_
    refine y_in rfl rfl (fun d => rfl) ?_
    refine y_ild (x := (V 171 4)) (q := 4) rfl rfl (md171 hM) (by decide) (by decide) rfl rfl ?_
    refine y_ld (x := iv x) rfl rfl (fun d => rfl) ?_
    refine y_op (z := (v_oI (V 171 4) x)) rfl rfl (fun d => rfl) (v_orI (by omega) (by omega)) ?_
    refine y_ist (q := 4) rfl rfl (md171 hM) (by decide) (by decide) rfl ?_
    refine y_ld (x := .ref 170) rfl rfl (fun d => rfl) ?_
    refine y_gR (i := 1) rfl rfl rfl (md170 hM) rfl ?_
    refine y_ic rfl rfl ?_
    refine y_ild (x := (v_oI (V 171 4) x)) (q := 4) rfl rfl (md171 hM) (by decide) (by decide) rfl rfl ?_
    have hq := v_oI_lt hH g1
    refine y_cS (as := [iv (v_oI (V 171 4) x)]) rfl (by decide) rfl rfl rfl rfl ⟨(Nat.le_of_ble_eq_true rfl), (Nat.le_of_ble_eq_true rfl)⟩ (by decide) (ct_count1 (by omega) ?_)
    refine y_nv ?_
    refine y_rI rfl (Or.inl rfl) ?_
    rwa [if_pos g1, if_pos g1] at k
  · refine y_bi rfl rfl (by decide) ?_
    refine y_rI rfl (Or.inl rfl) ?_
    rwa [if_neg g1, if_neg g1] at k
theorem v_cp_up (V : v_V) {a b : Nat} (h : a ≠ b) (k : Nat) : v_up (v_ur V b (v_cp (V a) (V b) 0 0 k)) b k (V a k) = v_ur V b (v_cp (V a) (V b) 0 0 (k + 1)) := by
  rw [v_up_ur, v_ur_ur, v_ur_eq]
  congr 1
  funext j
  unfold v_uf v_cp
  by_cases h1 : j = k
  · subst h1
    rw [if_pos rfl, if_pos (by omega)]
    rfl
  · rw [if_neg h1]
    by_cases h2 : j < k
    · rw [if_pos (by omega), if_pos (by omega)]
    · rw [if_neg (by omega), if_neg (by omega)]
set_option maxRecDepth 100000 in
set_option maxHeartbeats 4000000 in
theorem lp_image (hM : MdS S) {F : Nat} : ∀ (m : Nat) (k : Nat), 1800 - k < m → (k ≤ 1800) → (y_E X 0 176 F u w 27 [(0, .ref 170), (1, iv ((1800 : Nat) : Int))] [] S (v_ur V 172 (v_cp (V 171) (V 172) 0 0 1800)) K) → y_E X 0 176 (20 * m + F) u w 2 [(0, .ref 170), (1, iv (k : Int))] [] S (v_ur V 172 (v_cp (V 171) (V 172) 0 0 k)) K := by
  intro m
  induction m with
  | zero => intros; omega
  | succ m ih =>
    intro k hm hI hx
    refine y_mono (F' := (20 * m + F) + 20) ?_ (by omega)
    refine y_ld (x := iv (k : Int)) rfl rfl (fun d => rfl) ?_
    refine y_si rfl rfl (by decide) ?_
    refine y_jge rfl rfl rfl (by omega) (fun g1 => ?_) (fun g1 => ?_)
    · obtain rfl : k = 1800 := by omega
      exact y_mono hx (by omega)
    · refine y_ld (x := .ref 170) rfl rfl (fun d => rfl) ?_
      refine y_gR (i := 2) rfl rfl rfl (md170 hM) rfl ?_
      refine y_ld (x := iv (k : Int)) rfl rfl (fun d => rfl) ?_
      refine y_ld (x := .ref 170) rfl rfl (fun d => rfl) ?_
      refine y_gR (i := 1) rfl rfl rfl (md170 hM) rfl ?_
      refine y_ld (x := iv (k : Int)) rfl rfl (fun d => rfl) ?_
      refine y_ild (x := (V 171 k)) (q := k) rfl rfl (md171 hM) (by omega) (by decide) (by omega) rfl ?_
      refine y_ist (q := k) rfl rfl (md172 hM) (by omega) (by decide) (by omega) ?_
      refine y_inc (z := ((k + 1 : Nat) : Int)) (lv' := [(1, iv ((k + 1 : Nat) : Int)), (0, .ref 170)]) rfl rfl rfl (by omega) rfl ?_
      refine y_go rfl rfl ?_
      refine y_lv (l' := [(0, .ref 170), (1, iv ((k + 1 : Nat) : Int))]) rfl ⟨rfl, rfl, trivial⟩ ?_
      refine y_V (V' := v_ur V 172 (v_cp (V 171) (V 172) 0 0 (k + 1))) ?_ ?_
      · exact v_cp_up V (by decide) k
      exact y_mono (ih (k + 1) (by omega) (by omega) hx) (by omega)
set_option maxRecDepth 100000 in
set_option maxHeartbeats 4000000 in
theorem ct_image (hM : MdS S) (k : K u w (some (iv (V 171 1))) S (v_up (v_ur V 172 (V 171)) 170 3 1)) : y_R X 1 176 u w [.ref 170] S V K := by
  refine y_ent (lv' := [(0, .ref 170)]) (Nat.le_of_ble_eq_true rfl) rfl ?_
  refine y_ic rfl rfl ?_
  refine y_st (lv' := [(1, iv 0), (0, .ref 170)]) rfl rfl (fun d => rfl) ?_
  refine y_lv (l' := [(0, .ref 170), (1, iv 0)]) rfl ⟨rfl, rfl, trivial⟩ ?_
  refine y_V (V' := v_ur V 172 (v_cp (V 171) (V 172) 0 0 0)) ?_ ?_
  · rw [show v_cp (V 171) (V 172) 0 0 0 = V 172 from funext (fun j => if_neg (by omega)), v_ur_self]
  refine y_mono (lp_image hM 1801 0 (by omega) (by omega) ?_) (Nat.le_of_ble_eq_true rfl : 20 * 1801 + 900000 ≤ _)
  refine y_row (g := V 171) (md172 hM) (fun i x hx => if_pos (by have := v_repI hx; omega)) ?_
  refine y_ld (x := .ref 170) rfl rfl (fun d => rfl) ?_
  refine y_ic rfl rfl ?_
  refine y_pZ (i := 3) rfl rfl rfl (md170 hM) rfl rfl (by decide) ?_
  refine y_ld (x := .ref 170) rfl rfl (fun d => rfl) ?_
  refine y_gR (i := 1) rfl rfl rfl (md170 hM) rfl ?_
  refine y_ic rfl rfl ?_
  refine y_ild (x := (V 171 1)) (q := 1) rfl rfl (md171 hM) (by decide) (by decide) rfl rfl ?_
  refine y_rI rfl (Or.inl rfl) ?_
  exact k
set_option maxRecDepth 100000 in
set_option maxHeartbeats 4000000 in
theorem cc_image (hC : ClF S) {ta tb wa wb la lb : List Value} (hta : ce S 3 22 ta) (htb : ce S 60 22 tb) (hwa : ce S 6 24 wa) (hwb : ce S 63 24 wb) (hla : ce S 7 24 la) (hlb : ce S 64 24 lb) (hlta : ta.length = 8) (hltb : tb.length = 8) (hlwa : wa.length = 20) (hlwb : wb.length = 20) (hlla : la.length = 5) (hllb : lb.length = 5) (hvT : ∀ v ∈ ta, v_asg S 22 v) (hvW : ∀ v ∈ wa, v_asg S 24 v) (hvL : ∀ v ∈ la, v_asg S 24 v) (k : ∀ V', CpV 58 1 V V' → K u w (some (iv (V' 1 5))) (((S.set 60 (22, ta)).set 63 (24, wa)).set 64 (24, la)) (v_up V' 0 2 1)) : y_R X 4 94 u w [.ref 0] S V K := by
  refine y_ent (lv' := [(0, .ref 0)]) (Nat.le_of_ble_eq_true rfl) rfl ?_
  refine y_ld (x := .ref 0) rfl rfl (fun d => rfl) ?_
  refine y_gR (i := 1) rfl rfl rfl (hC 0 _ _ rfl) rfl ?_
  refine y_ld (x := .ref 0) rfl rfl (fun d => rfl) ?_
  refine y_gR (i := 0) rfl rfl rfl (hC 0 _ _ rfl) rfl ?_
  refine y_cV (as := [.ref 58, .ref 1]) rfl rfl rfl rfl rfl (hC 58 _ _ rfl) ⟨rfl, (Nat.le_of_ble_eq_true rfl), (Nat.le_of_ble_eq_true rfl)⟩ (by decide) (cc_sbec58 hC hta htb hwa hwb hla hlb hlta hltb hlwa hlwb hlla hllb hvT hvW hvL (fun V1 hV1 => ?_))
  have hCn : ClF (((S.set 60 (22, ta)).set 63 (24, wa)).set 64 (24, la)) := cl_set (cl_set (cl_set hC (by decide)) (by decide)) (by decide)
  refine y_n0 ?_
  refine y_ld (x := .ref 0) rfl rfl (fun d => rfl) ?_
  refine y_ic rfl rfl ?_
  refine y_pZ (i := 2) rfl rfl rfl (hCn 0 _ _ rfl) rfl rfl (by decide) ?_
  refine y_ld (x := .ref 0) rfl rfl (fun d => rfl) ?_
  refine y_gR (i := 0) rfl rfl rfl (hCn 0 _ _ rfl) rfl ?_
  refine y_gI (i := 5) (e := (V1 1 5)) rfl rfl rfl (hCn 1 _ _ rfl) rfl rfl ?_
  refine y_rI rfl (Or.inl rfl) ?_
  exact k V1 hV1
end
end
section
/-! THE READING OF A TEXT, as a function: the byte at a place, a TERM, a TEST, E (modes 0 F, 1 T, 2 behind an F of T, 3 E, 4 behind a T of E), SUM, ACTS, LINES; codes of terms: numbers, 100 k, 101 h, 102 n, 104 .. 115 the CELLS; signs: 120 .. 122 tests, 123 not, 124 and, 125 or; 126 .. 128 p d b -/
abbrev p_Tk : Type := Int × Int × Int
abbrev p_Ac : Type := Int × List Int
abbrev p_Li : Type := Int × Bool × List p_Tk × List p_Ac
def hr (τ : Nat → Int) (z p : Nat) : Int := if p < z then τ p else -1
def pT (τ : Nat → Int) (z p : Nat) : Int × Nat :=
  if hr τ z p = 107 then (100, p + 1) else if hr τ z p = 104 then (101, p + 1) else if hr τ z p = 110 then (102, p + 1)
  else if hr τ z p = 116 ∨ hr τ z p = 115 ∨ hr τ z p = 103 then
    (if 48 ≤ hr τ z (p + 1) ∧ hr τ z (p + 1) ≤ 51 then ((if hr τ z p = 116 then 104 else if hr τ z p = 115 then 108 else 112) + (hr τ z (p + 1) - 48), p + 2) else (-1, p + 1))
  else if hr τ z p = 48 then (0, p + 1)
  else if 49 ≤ hr τ z p ∧ hr τ z p ≤ 57 then
    (if 48 ≤ hr τ z (p + 1) ∧ hr τ z (p + 1) ≤ 57 then ((hr τ z p - 48) * 10 + (hr τ z (p + 1) - 48), p + 2) else (hr τ z p - 48, p + 1))
  else (-1, p)
def pS (τ : Nat → Int) (z p : Nat) : Option p_Tk × Nat :=
  if (pT τ z p).1 < 0 then (none, (pT τ z p).2)
  else if 60 ≤ hr τ z (pT τ z p).2 ∧ hr τ z (pT τ z p).2 ≤ 62 then
    (if (pT τ z ((pT τ z p).2 + 1)).1 < 0 then (none, (pT τ z ((pT τ z p).2 + 1)).2)
     else (some (hr τ z (pT τ z p).2 + 60, (pT τ z p).1, (pT τ z ((pT τ z p).2 + 1)).1), (pT τ z ((pT τ z p).2 + 1)).2))
  else (none, (pT τ z p).2)
def pX (τ : Nat → Int) (z : Nat) : Nat → Nat → Nat → Nat → List p_Tk → Option (List p_Tk) × Nat
  | 0, _, _, p, _ => (none, p)
  | n + 1, 0, o, p, acc =>
    if hr τ z p = 33 then
      (if o = 5 then (none, p) else match pX τ z n 0 (o + 1) (p + 1) acc with
        | (some l, q) => (some (l ++ [(123, 0, 0)]), q)
        | (none, q) => (none, q))
    else if hr τ z p = 40 then
      (if o = 5 then (none, p) else match pX τ z n 3 (o + 1) (p + 1) acc with
        | (some l, q) => if hr τ z q = 41 then (some l, q + 1) else (none, q)
        | (none, q) => (none, q))
    else match pS τ z p with
      | (some t, q) => (some (acc ++ [t]), q)
      | (none, q) => (none, q)
  | n + 1, 1, o, p, acc => match pX τ z n 0 o p acc with
      | (some l, q) => pX τ z n 2 o q l
      | (none, q) => (none, q)
  | n + 1, 2, o, p, acc =>
    if hr τ z p = 38 then match pX τ z n 0 o (p + 1) acc with
      | (some l, q) => pX τ z n 2 o q (l ++ [(124, 0, 0)])
      | (none, q) => (none, q)
    else (some acc, p)
  | n + 1, 3, o, p, acc => match pX τ z n 1 o p acc with
      | (some l, q) => pX τ z n 4 o q l
      | (none, q) => (none, q)
  | n + 1, _, o, p, acc =>
    if hr τ z p = 124 then match pX τ z n 1 o (p + 1) acc with
      | (some l, q) => pX τ z n 4 o q (l ++ [(125, 0, 0)])
      | (none, q) => (none, q)
    else (some acc, p)
/-- a SUM's terms (one that is taken off: 256 more); behind the 4th it stops, whatever stands there -/
def pM (τ : Nat → Int) (z : Nat) : Nat → Int → Nat → List Int → Option (List Int) × Nat
  | 0, _, p, acc => (some acc, p)
  | k + 1, s, p, acc =>
    if (pT τ z p).1 < 0 then (none, (pT τ z p).2)
    else if k ≠ 0 ∧ (hr τ z (pT τ z p).2 = 43 ∨ hr τ z (pT τ z p).2 = 45) then pM τ z k (if hr τ z (pT τ z p).2 = 45 then 256 else 0) ((pT τ z p).2 + 1) (acc ++ [(pT τ z p).1 + s])
    else (some (acc ++ [(pT τ z p).1 + s]), (pT τ z p).2)
def pA (τ : Nat → Int) (z p : Nat) : Option p_Ac × Nat :=
  if hr τ z p = 112 then (some (126, []), p + 1) else if hr τ z p = 100 then (some (127, []), p + 1) else if hr τ z p = 98 then (some (128, []), p + 1)
  else if hr τ z p = 116 ∨ hr τ z p = 115 ∨ hr τ z p = 103 then
    (if (pT τ z p).1 < 0 then (none, (pT τ z p).2)
     else if hr τ z (pT τ z p).2 = 61 then match pM τ z 4 0 ((pT τ z p).2 + 1) [] with
       | (some l, q) => (some ((pT τ z p).1, l), q)
       | (none, q) => (none, q)
     else (none, (pT τ z p).2))
  else (none, p)
def pAs (τ : Nat → Int) (z : Nat) : Nat → Nat → List p_Ac → Option (List p_Ac) × Nat
  | 0, p, acc => (some acc, p)
  | k + 1, p, acc => match pA τ z p with
    | (some a, q) => if k ≠ 0 ∧ hr τ z q = 44 then pAs τ z k (q + 1) (acc ++ [a]) else (some (acc ++ [a]), q)
    | (none, q) => (none, q)
/-- E, if there is one: at a bracket -/
def pE (τ : Nat → Int) (z p : Nat) : Option (Bool × List p_Tk) × Nat :=
  if hr τ z p = 40 then match pX τ z 1000 3 1 (p + 1) [] with
    | (some l, q) => if hr τ z q = 41 then (some (true, l), q + 1) else (none, q)
    | (none, q) => (none, q)
  else (some (false, []), p)
def pL (τ : Nat → Int) (z p : Nat) : Option p_Li × Nat :=
  if hr τ z p = 42 ∨ (48 ≤ hr τ z p ∧ hr τ z p ≤ 51) then match pE τ z (p + 1) with
    | (some e, q) => if hr τ z q = 58 then (match pAs τ z 5 (q + 1) [] with
      | (some l, q') => (some (if hr τ z p = 42 then 4 else hr τ z p - 48, e.1, e.2, l), q')
      | (none, q') => (none, q')) else (none, q)
    | (none, q) => (none, q)
  else (none, p)
def pLs (τ : Nat → Int) (z : Nat) : Nat → Nat → List p_Li → Option (List p_Li) × Nat
  | 0, p, acc => (some acc, p)
  | k + 1, p, acc => match pL τ z p with
    | (some a, q) => if k ≠ 0 ∧ hr τ z q = 59 then pLs τ z k (q + 1) (acc ++ [a]) else (some (acc ++ [a]), q)
    | (none, q) => (none, q)
/-- a TEXT, or the FAULT -/
def pTx (τ : Nat → Int) (z : Nat) : Option (List p_Li) × Nat := match pLs τ z 8 0 [] with
  | (some l, q) => if q = z then (some l, q) else (none, q)
  | (none, q) => (none, q)
/-! how far it goes -/
theorem hr_le {τ : Nat → Int} {z p : Nat} (h : hr τ z p ≠ -1) : p < z := by
  unfold hr at h
  by_cases h2 : p < z
  · exact h2
  · rw [if_neg h2] at h
    exact absurd rfl h
theorem pT_le (τ : Nat → Int) (z p : Nat) (hp : p ≤ z) : p ≤ (pT τ z p).2 ∧ (pT τ z p).2 ≤ z ∧ ((0 ≤ (pT τ z p).1) → p < (pT τ z p).2) := by
  have h0 : hr τ z p ≠ -1 → p < z := hr_le
  have h1 : hr τ z (p + 1) ≠ -1 → p + 1 < z := hr_le
  unfold pT
  split
  · exact ⟨by simp, by have := h0 (by omega); simp; omega, by simp⟩
  split
  · exact ⟨by simp, by have := h0 (by omega); simp; omega, by simp⟩
  split
  · exact ⟨by simp, by have := h0 (by omega); simp; omega, by simp⟩
  split
  · rename_i hc
    have h2 : p < z := h0 (by omega)
    split
    · have := h1 (by omega)
      exact ⟨by simp, by simp; omega, by simp⟩
    · exact ⟨by simp, by simp; omega, by simp⟩
  split
  · have := h0 (by omega)
    exact ⟨by simp, by simp; omega, by simp⟩
  split
  · have := h0 (by omega)
    split
    · have := h1 (by omega)
      exact ⟨by simp, by simp; omega, by simp⟩
    · exact ⟨by simp, by simp; omega, by simp⟩
  · exact ⟨by simp, by simp; omega, by simp⟩
/-- what a term's code may be -/
def tcd (t : Int) : Prop := (0 ≤ t ∧ t ≤ 102) ∨ (104 ≤ t ∧ t ≤ 115)
theorem pT_cd (τ : Nat → Int) (z p : Nat) (h : 0 ≤ (pT τ z p).1) : tcd (pT τ z p).1 := by
  unfold tcd
  revert h
  unfold pT
  split
  · simp
  split
  · simp
  split
  · simp
  split
  · split
    · intro _
      simp only
      split
      · omega
      · split <;> omega
    · simp
  split
  · simp
  split
  · split <;> (intro _; simp only; omega)
  · simp
theorem pT_cell {τ : Nat → Int} {z p : Nat} (hc : hr τ z p = 116 ∨ hr τ z p = 115 ∨ hr τ z p = 103) (h : 0 ≤ (pT τ z p).1) : 104 ≤ (pT τ z p).1 ∧ (pT τ z p).1 ≤ 115 := by
  revert h
  unfold pT
  rw [if_neg (by omega), if_neg (by omega), if_neg (by omega), if_pos hc]
  split
  · intro _
    simp only
    split
    · omega
    · split <;> omega
  · simp
theorem pT_c1 {τ : Nat → Int} {z p : Nat} (hc : hr τ z p = 116 ∨ hr τ z p = 115 ∨ hr τ z p = 103) (hd : 48 ≤ hr τ z (p + 1) ∧ hr τ z (p + 1) ≤ 51) : pT τ z p = ((if hr τ z p = 116 then 104 else if hr τ z p = 115 then 108 else 112) + (hr τ z (p + 1) - 48), p + 2) := by
  unfold pT
  rw [if_neg (by omega), if_neg (by omega), if_neg (by omega), if_pos hc, if_pos hd]
theorem pT_c0 {τ : Nat → Int} {z p : Nat} (hc : hr τ z p = 116 ∨ hr τ z p = 115 ∨ hr τ z p = 103) (hd : ¬ (48 ≤ hr τ z (p + 1) ∧ hr τ z (p + 1) ≤ 51)) : pT τ z p = (-1, p + 1) := by
  unfold pT
  rw [if_neg (by omega), if_neg (by omega), if_neg (by omega), if_pos hc, if_neg hd]
theorem pT_k {τ : Nat → Int} {z p : Nat} (hc : hr τ z p = 107) : pT τ z p = (100, p + 1) := by
  unfold pT
  rw [if_pos hc]
theorem pT_h {τ : Nat → Int} {z p : Nat} (hc : hr τ z p = 104) : pT τ z p = (101, p + 1) := by
  unfold pT
  rw [if_neg (by omega), if_pos hc]
theorem pT_n {τ : Nat → Int} {z p : Nat} (hc : hr τ z p = 110) : pT τ z p = (102, p + 1) := by
  unfold pT
  rw [if_neg (by omega), if_neg (by omega), if_pos hc]
theorem pT_0 {τ : Nat → Int} {z p : Nat} (hc : hr τ z p = 48) : pT τ z p = (0, p + 1) := by
  unfold pT
  rw [if_neg (by omega), if_neg (by omega), if_neg (by omega), if_neg (by omega), if_pos hc]
theorem pT_2 {τ : Nat → Int} {z p : Nat} (hc : 49 ≤ hr τ z p ∧ hr τ z p ≤ 57) (hd : 48 ≤ hr τ z (p + 1) ∧ hr τ z (p + 1) ≤ 57) : pT τ z p = ((hr τ z p - 48) * 10 + (hr τ z (p + 1) - 48), p + 2) := by
  unfold pT
  rw [if_neg (by omega), if_neg (by omega), if_neg (by omega), if_neg (by omega), if_neg (by omega), if_pos hc, if_pos hd]
theorem pT_1 {τ : Nat → Int} {z p : Nat} (hc : 49 ≤ hr τ z p ∧ hr τ z p ≤ 57) (hd : ¬ (48 ≤ hr τ z (p + 1) ∧ hr τ z (p + 1) ≤ 57)) : pT τ z p = (hr τ z p - 48, p + 1) := by
  unfold pT
  rw [if_neg (by omega), if_neg (by omega), if_neg (by omega), if_neg (by omega), if_neg (by omega), if_pos hc, if_neg hd]
theorem pT_x {τ : Nat → Int} {z p : Nat} (h : ¬ hr τ z p = 107 ∧ ¬ hr τ z p = 104 ∧ ¬ hr τ z p = 110 ∧ ¬ hr τ z p = 116 ∧ ¬ hr τ z p = 115 ∧ ¬ hr τ z p = 103 ∧ ¬ (48 ≤ hr τ z p ∧ hr τ z p ≤ 57)) : pT τ z p = (-1, p) := by
  unfold pT
  rw [if_neg (by omega), if_neg (by omega), if_neg (by omega), if_neg (by omega), if_neg (by omega), if_neg (by omega)]
section PX
variable {τ : Nat → Int} {z n o p : Nat} {acc : List p_Tk}
theorem pX_F : pX τ z (n + 1) 0 o p acc = (if hr τ z p = 33 then
      (if o = 5 then (none, p) else match pX τ z n 0 (o + 1) (p + 1) acc with
        | (some l, q) => (some (l ++ [(123, 0, 0)]), q)
        | (none, q) => (none, q))
    else if hr τ z p = 40 then
      (if o = 5 then (none, p) else match pX τ z n 3 (o + 1) (p + 1) acc with
        | (some l, q) => if hr τ z q = 41 then (some l, q + 1) else (none, q)
        | (none, q) => (none, q))
    else match pS τ z p with
      | (some t, q) => (some (acc ++ [t]), q)
      | (none, q) => (none, q)) := rfl
theorem pX_T : pX τ z (n + 1) 1 o p acc = (match pX τ z n 0 o p acc with
      | (some l, q) => pX τ z n 2 o q l
      | (none, q) => (none, q)) := rfl
theorem pX_Tl : pX τ z (n + 1) 2 o p acc = (if hr τ z p = 38 then match pX τ z n 0 o (p + 1) acc with
      | (some l, q) => pX τ z n 2 o q (l ++ [(124, 0, 0)])
      | (none, q) => (none, q)
    else (some acc, p)) := rfl
theorem pX_E : pX τ z (n + 1) 3 o p acc = (match pX τ z n 1 o p acc with
      | (some l, q) => pX τ z n 4 o q l
      | (none, q) => (none, q)) := rfl
theorem pX_El : pX τ z (n + 1) 4 o p acc = (if hr τ z p = 124 then match pX τ z n 1 o (p + 1) acc with
      | (some l, q) => pX τ z n 4 o q (l ++ [(125, 0, 0)])
      | (none, q) => (none, q)
    else (some acc, p)) := rfl
end PX
end
section
/-! THE REFERENCE'S READING: what it has read so far of TEXT a -/
def mcd (t : Int) : Int := if t < 104 then t else if t < 108 then t + 6 else if t < 112 then t + 12 else t + 18
def mk (ln : Int) (g : Nat → Int) (t : Int) (b : Bool) : Nat → Int := if 108 ≤ t then v_uf g (t - 108).toNat (if 1 < g (t - 108).toNat then g (t - 108).toNat else if b then 2 + ln else 1) else g
def encT : List p_Tk → List Int
  | [] => []
  | (c, a, b) :: r => (if c ≤ 122 then 100000 + 4 * (200 * mcd a + mcd b) + (c - 120) else 122 - c) :: encT r
theorem encT_app (l r : List p_Tk) : encT (l ++ r) = encT l ++ encT r := by
  induction l with
  | nil => rfl
  | cons x l ih =>
    obtain ⟨c, a, b⟩ := x
    simp [encT, ih]
theorem encT_len (l : List p_Tk) : (encT l).length = l.length := by
  induction l with
  | nil => rfl
  | cons x l ih =>
    obtain ⟨c, a, b⟩ := x
    simp [encT, ih]
def mkT (ln : Int) (g : Nat → Int) : List p_Tk → Nat → Int
  | [] => g
  | (c, a, b) :: r => mkT ln (if c ≤ 122 then mk ln (mk ln g a true) b true else g) r
theorem mkT_app (ln : Int) (l r : List p_Tk) (g : Nat → Int) : mkT ln g (l ++ r) = mkT ln (mkT ln g l) r := by
  induction l generalizing g with
  | nil => rfl
  | cons x l ih =>
    obtain ⟨c, a, b⟩ := x
    exact ih _
/-- the tape of z bytes is τ -/
def Tp (τ : Nat → Int) (a z : Nat) : Prop := a < 8 ∧ z ≤ 160 ∧ ∀ i, i < z → 0 ≤ τ i ∧ τ i ≤ 255
def MP (V : v_V) (a z : Nat) (τ : Nat → Int) (p : Nat) (wr o ln : Int) (st : List Int) (g : Nat → Int) : Prop :=
  V 170 9 = a ∧ V 170 10 = p ∧ V 170 11 = z ∧ V 170 12 = wr ∧ V 170 13 = o ∧ V 170 14 = ln ∧ (∀ i, i < z → V 171 (10 + i) = τ i) ∧ V 174 a = st.length ∧ (∀ i x, m_nth st i = some x → V 173 (200 * a + i) = x) ∧ (∀ c, c < 8 → V 177 (8 * a + c) = g c)
/-- what stays as it was -/
def MF (a : Nat) (V V' : v_V) : Prop :=
  (∀ k, k ≠ 170 → k ≠ 173 → k ≠ 174 → k ≠ 176 → k ≠ 177 → V' k = V k) ∧ (∀ i, i ≠ 10 → i ≠ 12 → i ≠ 13 → i ≠ 14 → V' 170 i = V 170 i) ∧
  (∀ i, i < 200 * a ∨ 200 * a + 200 ≤ i → V' 173 i = V 173 i) ∧ (∀ i, i ≠ a → V' 174 i = V 174 i) ∧ (∀ i, i < 8 * a ∨ 8 * a + 8 ≤ i → V' 176 i = V 176 i ∧ V' 177 i = V 177 i)
/-- nor are the counts of ACTS touched -/
def MG (V V' : v_V) : Prop := V' 176 = V 176
theorem MF_rf (a : Nat) (V : v_V) : MF a V V := ⟨fun _ _ _ _ _ _ => rfl, fun _ _ _ _ _ => rfl, fun _ _ => rfl, fun _ _ => rfl, fun _ _ => ⟨rfl, rfl⟩⟩
theorem MF_tr {a : Nat} {V V' V'' : v_V} (h : MF a V V') (h2 : MF a V' V'') : MF a V V'' :=
  ⟨fun k q1 q2 q3 q4 q5 => (h2.1 k q1 q2 q3 q4 q5).trans (h.1 k q1 q2 q3 q4 q5), fun i q1 q2 q3 q4 => (h2.2.1 i q1 q2 q3 q4).trans (h.2.1 i q1 q2 q3 q4), fun i q => (h2.2.2.1 i q).trans (h.2.2.1 i q), fun i q => (h2.2.2.2.1 i q).trans (h.2.2.2.1 i q), fun i q => ⟨(h2.2.2.2.2 i q).1.trans (h.2.2.2.2 i q).1, (h2.2.2.2.2 i q).2.trans (h.2.2.2.2 i q).2⟩⟩
theorem MF_u0 {a i : Nat} {V V' : v_V} {x : Int} (hi : i = 10 ∨ i = 12 ∨ i = 13 ∨ i = 14) (h : MF a V V') : MF a V (v_up V' 170 i x) := by
  refine ⟨fun k q1 q2 q3 q4 q5 => ?_, fun q q1 q2 q3 q4 => ?_, fun q hq => ?_, fun q hq => ?_, fun q hq => ?_⟩
  · rw [v_up_ne q1]
    exact h.1 k q1 q2 q3 q4 q5
  · rw [v_up_ni (by omega)]
    exact h.2.1 q q1 q2 q3 q4
  · rw [v_up_ne (by decide)]
    exact h.2.2.1 q hq
  · rw [v_up_ne (by decide)]
    exact h.2.2.2.1 q hq
  · rw [v_up_ne (by decide), v_up_ne (by decide)]
    exact h.2.2.2.2 q hq
theorem MF_u3 {a i : Nat} {V V' : v_V} {x : Int} (hi : 200 * a ≤ i ∧ i < 200 * a + 200) (h : MF a V V') : MF a V (v_up V' 173 i x) := by
  refine ⟨fun k q1 q2 q3 q4 q5 => ?_, fun q q1 q2 q3 q4 => ?_, fun q hq => ?_, fun q hq => ?_, fun q hq => ?_⟩
  · rw [v_up_ne q2]
    exact h.1 k q1 q2 q3 q4 q5
  · rw [v_up_ne (by decide)]
    exact h.2.1 q q1 q2 q3 q4
  · rw [v_up_ni (by omega)]
    exact h.2.2.1 q hq
  · rw [v_up_ne (by decide)]
    exact h.2.2.2.1 q hq
  · rw [v_up_ne (by decide), v_up_ne (by decide)]
    exact h.2.2.2.2 q hq
theorem MF_u4 {a : Nat} {V V' : v_V} {x : Int} (h : MF a V V') : MF a V (v_up V' 174 a x) := by
  refine ⟨fun k q1 q2 q3 q4 q5 => ?_, fun q q1 q2 q3 q4 => ?_, fun q hq => ?_, fun q hq => ?_, fun q hq => ?_⟩
  · rw [v_up_ne q3]
    exact h.1 k q1 q2 q3 q4 q5
  · rw [v_up_ne (by decide)]
    exact h.2.1 q q1 q2 q3 q4
  · rw [v_up_ne (by decide)]
    exact h.2.2.1 q hq
  · rw [v_up_ni hq]
    exact h.2.2.2.1 q hq
  · rw [v_up_ne (by decide), v_up_ne (by decide)]
    exact h.2.2.2.2 q hq
theorem MF_u7 {a i : Nat} {V V' : v_V} {x : Int} (hi : 8 * a ≤ i ∧ i < 8 * a + 8) (h : MF a V V') : MF a V (v_up V' 177 i x) := by
  refine ⟨fun k q1 q2 q3 q4 q5 => ?_, fun q q1 q2 q3 q4 => ?_, fun q hq => ?_, fun q hq => ?_, fun q hq => ?_⟩
  · rw [v_up_ne q5]
    exact h.1 k q1 q2 q3 q4 q5
  · rw [v_up_ne (by decide)]
    exact h.2.1 q q1 q2 q3 q4
  · rw [v_up_ne (by decide)]
    exact h.2.2.1 q hq
  · rw [v_up_ne (by decide)]
    exact h.2.2.2.1 q hq
  · rw [v_up_ne (by decide), v_up_ni (by omega)]
    exact h.2.2.2.2 q hq
theorem MF_u6 {a i : Nat} {V V' : v_V} {x : Int} (hi : 8 * a ≤ i ∧ i < 8 * a + 8) (h : MF a V V') : MF a V (v_up V' 176 i x) := by
  refine ⟨fun k q1 q2 q3 q4 q5 => ?_, fun q q1 q2 q3 q4 => ?_, fun q hq => ?_, fun q hq => ?_, fun q hq => ?_⟩
  · rw [v_up_ne q4]
    exact h.1 k q1 q2 q3 q4 q5
  · rw [v_up_ne (by decide)]
    exact h.2.1 q q1 q2 q3 q4
  · rw [v_up_ne (by decide)]
    exact h.2.2.1 q hq
  · rw [v_up_ne (by decide)]
    exact h.2.2.2.1 q hq
  · rw [v_up_ni (by omega), v_up_ne (by decide)]
    exact h.2.2.2.2 q hq
/-- the place, the word that it went wrong, how many are open, the line: told anew -/
theorem MP_f {V : v_V} {a z : Nat} {τ : Nat → Int} {p : Nat} {wr o ln : Int} {st : List Int} {g : Nat → Int} (h : MP V a z τ p wr o ln st g) {V' : v_V} {p' : Nat} {wr' o' ln' : Int}
    (h0 : V' 170 9 = V 170 9 ∧ V' 170 11 = V 170 11 ∧ V' 171 = V 171 ∧ V' 173 = V 173 ∧ V' 174 = V 174 ∧ V' 177 = V 177) (h1 : V' 170 10 = p') (h2 : V' 170 12 = wr') (h3 : V' 170 13 = o') (h4 : V' 170 14 = ln') : MP V' a z τ p' wr' o' ln' st g := by
  obtain ⟨a1, a2, a3, a4, a5, a6, a7, a8, a9, a10⟩ := h
  obtain ⟨b1, b2, b3, b4, b5, b6⟩ := h0
  refine ⟨b1.trans a1, h1, b2.trans a3, h2, h3, h4, ?_, ?_, ?_, ?_⟩
  · rw [b3]; exact a7
  · rw [b5]; exact a8
  · rw [b4]; exact a9
  · rw [b6]; exact a10
theorem MP_em {V : v_V} {a z : Nat} {τ : Nat → Int} {p : Nat} {wr o ln x : Int} {st : List Int} {g : Nat → Int} (h : MP V a z τ p wr o ln st g) : MP (v_up (v_up V 173 (200 * a + st.length) x) 174 a (st.length + 1)) a z τ p wr o ln (st ++ [x]) g := by
  obtain ⟨a1, a2, a3, a4, a5, a6, a7, a8, a9, a10⟩ := h
  refine ⟨a1, a2, a3, a4, a5, a6, a7, ?_, ?_, a10⟩
  · rw [v_up_eq, List.length_append]
    rfl
  · intro i y hi
    rw [v_up_ne (by decide)]
    rw [m_nth_app] at hi
    by_cases h2 : i = st.length
    · rw [if_pos h2] at hi
      cases hi
      rw [h2, v_up_eq]
    · rw [if_neg h2] at hi
      rw [v_up_ni (by omega)]
      exact a9 i y hi
theorem MP_mk {V : v_V} {a z : Nat} {τ : Nat → Int} {p : Nat} {wr o ln x : Int} {st : List Int} {g : Nat → Int} {c : Nat} (h : MP V a z τ p wr o ln st g) (hc : c < 8) : MP (v_up V 177 (8 * a + c) x) a z τ p wr o ln st (v_uf g c x) := by
  obtain ⟨a1, a2, a3, a4, a5, a6, a7, a8, a9, a10⟩ := h
  refine ⟨a1, a2, a3, a4, a5, a6, a7, a8, a9, ?_⟩
  intro q hq
  by_cases h2 : q = c
  · rw [h2, v_up_eq, v_uf_eq]
  · rw [v_up_ni (by omega), v_uf_ne h2]
    exact a10 q hq
theorem hr_rg {τ : Nat → Int} {a z : Nat} (h : Tp τ a z) (p : Nat) : -1 ≤ hr τ z p ∧ hr τ z p ≤ 255 := by
  unfold hr
  split
  · rename_i h2
    have := h.2.2 p h2
    omega
  · omega
theorem mcd_rg {t : Int} (h : tcd t) : 0 ≤ mcd t ∧ mcd t ≤ 133 ∧ (108 ≤ t ↔ 120 ≤ mcd t) ∧ (112 ≤ t ↔ 130 ≤ mcd t) ∧ (104 ≤ t ↔ 110 ≤ mcd t) := by
  unfold mcd tcd at *
  by_cases h1 : t < 104
  · rw [if_pos h1]; omega
  rw [if_neg h1]
  by_cases h2 : t < 108
  · rw [if_pos h2]; omega
  rw [if_neg h2]
  by_cases h3 : t < 112
  · rw [if_pos h3]; omega
  rw [if_neg h3]; omega
theorem mcd_hi {t : Int} (h : tcd t) : (120 ≤ mcd t → mcd t < 130 → mcd t = t + 12) ∧ (130 ≤ mcd t → mcd t = t + 18) := by
  unfold mcd tcd at *
  by_cases h1 : t < 104
  · rw [if_pos h1]; omega
  rw [if_neg h1]
  by_cases h2 : t < 108
  · rw [if_pos h2]; omega
  rw [if_neg h2]
  by_cases h3 : t < 112
  · rw [if_pos h3]; omega
  rw [if_neg h3]; omega
theorem mcd_inj {s t : Int} (hs : tcd s) (ht : tcd t) (h : mcd s = mcd t) : s = t := by
  unfold mcd tcd at *
  (repeat' split at h) <;> omega
end
section
section
variable {X : Nat → List Int32} {u w : Nat} {S : m_H} {V : v_V} {K : v_K}
set_option maxRecDepth 100000 in
set_option maxHeartbeats 4000000 in
theorem ct_here (hM : MdS S) {a z p : Nat} {τ : Nat → Int} {wr o ln : Int} {st : List Int} {g : Nat → Int} (h : MP V a z τ p wr o ln st g) (hp : p ≤ z ∧ z ≤ 160) (k : K u w (some (iv (hr τ z p))) S V) : y_R X 1 112 u w [.ref 170] S V K := by
  refine y_ent (lv' := [(0, .ref 170)]) (Nat.le_of_ble_eq_true rfl) rfl ?_
  refine y_ld (x := .ref 170) rfl rfl (fun d => rfl) ?_
  refine y_gI (i := 10) (e := (p : Int)) rfl rfl rfl (md170 hM) rfl h.2.1 ?_
  refine y_ld (x := .ref 170) rfl rfl (fun d => rfl) ?_
  refine y_gI (i := 11) (e := (z : Int)) rfl rfl rfl (md170 hM) rfl h.2.2.1 ?_
  refine y_jge rfl rfl rfl (by omega) (fun g1 => ?_) (fun g1 => ?_)
  · refine y_ic rfl rfl ?_
    refine y_rI rfl (Or.inl rfl) ?_
    rwa [show hr τ z p = -1 from if_neg (by omega)] at k
  · refine y_ld (x := .ref 170) rfl rfl (fun d => rfl) ?_
    refine y_gR (i := 1) rfl rfl rfl (md170 hM) rfl ?_
    refine y_bi rfl rfl (by decide) ?_
    refine y_ld (x := .ref 170) rfl rfl (fun d => rfl) ?_
    refine y_gI (i := 10) (e := (p : Int)) rfl rfl rfl (md170 hM) rfl h.2.1 ?_
    refine y_add (z := (10 + (p : Int))) rfl rfl rfl ?_
    refine y_ild (x := (τ p)) (q := (10 + p)) rfl rfl (md171 hM) (by omega) (by decide) (by omega) (h.2.2.2.2.2.2.1 p (by omega)) ?_
    refine y_go rfl rfl ?_
    refine y_rI rfl (Or.inl rfl) ?_
    rwa [show hr τ z p = τ p from if_pos (by omega)] at k
set_option maxRecDepth 100000 in
set_option maxHeartbeats 4000000 in
theorem ct_emits (hM : MdS S) {a z p : Nat} {τ : Nat → Int} {o ln : Int} {st : List Int} {g : Nat → Int} {x : Int} (h : MP V a z τ p 0 o ln st g) (ha : a < 8) (hl : st.length < 200) (k : ∀ V', MP V' a z τ p 0 o ln (st ++ [x]) g → MF a V V' → V' 176 = V 176 → K u w none S V') : y_R X 1 114 u w [.ref 170, iv x] S V K := by
  refine y_ent (lv' := [(0, .ref 170), (1, iv x)]) (Nat.le_of_ble_eq_true rfl) rfl ?_
  refine y_ld (x := .ref 170) rfl rfl (fun d => rfl) ?_
  refine y_gI (i := 12) (e := 0) rfl rfl rfl (md170 hM) rfl h.2.2.2.1 ?_
  refine y_zne rfl rfl rfl (by decide) (fun g1 => absurd g1 (by decide)) (fun g1 => ?_)
  refine y_ld (x := .ref 170) rfl rfl (fun d => rfl) ?_
  refine y_gR (i := 4) rfl rfl rfl (md170 hM) rfl ?_
  refine y_si rfl rfl (by decide) ?_
  refine y_ld (x := .ref 170) rfl rfl (fun d => rfl) ?_
  refine y_gI (i := 9) (e := (a : Int)) rfl rfl rfl (md170 hM) rfl h.1 ?_
  refine y_mul (z := (200 * (a : Int))) rfl rfl rfl ?_
  refine y_ld (x := .ref 170) rfl rfl (fun d => rfl) ?_
  refine y_gR (i := 5) rfl rfl rfl (md170 hM) rfl ?_
  refine y_ld (x := .ref 170) rfl rfl (fun d => rfl) ?_
  refine y_gI (i := 9) (e := (a : Int)) rfl rfl rfl (md170 hM) rfl h.1 ?_
  refine y_ild (x := (st.length : Int)) (q := a) rfl rfl (md174 hM) (by omega) (by decide) (by omega) h.2.2.2.2.2.2.2.1 ?_
  refine y_add (z := ((200 * (a : Int)) + (st.length : Int))) rfl rfl rfl ?_
  refine y_ld (x := iv x) rfl rfl (fun d => rfl) ?_
  refine y_ist (q := (200 * a + st.length)) rfl rfl (md173 hM) (by omega) (by decide) (by omega) ?_
  refine y_ld (x := .ref 170) rfl rfl (fun d => rfl) ?_
  refine y_gR (i := 5) rfl rfl rfl (md170 hM) rfl ?_
  refine y_ld (x := .ref 170) rfl rfl (fun d => rfl) ?_
  refine y_gI (i := 9) (e := (a : Int)) rfl rfl rfl (md170 hM) rfl h.1 ?_
  refine y_in rfl rfl (fun d => rfl) ?_
  refine y_ild (x := (st.length : Int)) (q := a) rfl rfl (md174 hM) (by omega) (by decide) (by omega) h.2.2.2.2.2.2.2.1 ?_
  refine y_ic rfl rfl ?_
  refine y_add (z := ((st.length : Int) + 1)) rfl rfl rfl ?_
  refine y_ist (q := a) rfl rfl (md174 hM) (by omega) (by decide) (by omega) ?_
  refine y_ret rfl (fun d => rfl) ?_
  exact k _ (MP_em h) (MF_u4 (MF_u3 (by omega) (MF_rf a V))) rfl
set_option maxRecDepth 100000 in
set_option maxHeartbeats 4000000 in
theorem ct_emits1 (hM : MdS S) {a z p : Nat} {τ : Nat → Int} {o ln : Int} {st : List Int} {g : Nat → Int} {x : Int} (h : MP V a z τ p 1 o ln st g) (k : K u w none S V) : y_R X 1 114 u w [.ref 170, iv x] S V K := by
  refine y_ent (lv' := [(0, .ref 170), (1, iv x)]) (Nat.le_of_ble_eq_true rfl) rfl ?_
  refine y_ld (x := .ref 170) rfl rfl (fun d => rfl) ?_
  refine y_gI (i := 12) (e := 1) rfl rfl rfl (md170 hM) rfl h.2.2.2.1 ?_
  refine y_zne rfl rfl rfl (by decide) (fun g1 => ?_) (fun g1 => absurd g1 (by decide))
  refine y_ret rfl (fun d => rfl) ?_
  exact k
set_option maxRecDepth 100000 in
set_option maxHeartbeats 4000000 in
theorem ct_marks (hM : MdS S) {a z p : Nat} {τ : Nat → Int} {o ln : Int} {st : List Int} {g : Nat → Int} {t : Int} {b : Bool} (ht : tcd t) (h : MP V a z τ p 0 o ln st g) (ha : a < 8) (hln : 0 ≤ ln ∧ ln ≤ 8) (hgr : ∀ c, c < 8 → 0 ≤ g c ∧ g c ≤ 10) (k : ∀ V', MP V' a z τ p 0 o ln st (mk ln g t b) → MF a V V' → V' 176 = V 176 → K u w none S V') : y_R X 1 115 u w [.ref 170, iv (mcd t), iv (v_b (b = true))] S V K := by
  refine y_ent (lv' := [(0, .ref 170), (1, iv (mcd t)), (2, iv (v_b (b = true)))]) (Nat.le_of_ble_eq_true rfl) rfl ?_
  refine y_ld (x := .ref 170) rfl rfl (fun d => rfl) ?_
  refine y_gI (i := 12) (e := 0) rfl rfl rfl (md170 hM) rfl h.2.2.2.1 ?_
  refine y_zne rfl rfl rfl (by decide) (fun g1 => absurd g1 (by decide)) (fun g1 => ?_)
  have hq := mcd_rg ht
  have hr2 := mcd_hi ht
  refine y_ld (x := iv (mcd t)) rfl rfl (fun d => rfl) ?_
  refine y_bi rfl rfl (by decide) ?_
  refine y_jlt rfl rfl rfl (by omega) (fun g2 => ?_) (fun g2 => ?_)
  · refine y_ret rfl (fun d => rfl) ?_
    have e : mk ln g t b = g := if_neg (by have := mcd_rg ht; omega)
    rw [e] at k
    exact k V h (MF_rf a V) rfl
  · refine y_bi rfl rfl (by decide) ?_
    refine y_ld (x := .ref 170) rfl rfl (fun d => rfl) ?_
    refine y_gI (i := 9) (e := (a : Int)) rfl rfl rfl (md170 hM) rfl h.1 ?_
    refine y_mul (z := (8 * (a : Int))) rfl rfl rfl ?_
    refine y_ld (x := iv (mcd t)) rfl rfl (fun d => rfl) ?_
    refine y_si rfl rfl (by decide) ?_
    refine y_jlt rfl rfl rfl (by omega) (fun g3 => ?_) (fun g3 => ?_)
    · refine y_ld (x := iv (mcd t)) rfl rfl (fun d => rfl) ?_
      refine y_bi rfl rfl (by decide) ?_
      refine y_sub (z := ((mcd t) - 120)) rfl rfl rfl ?_
      refine y_add (z := ((8 * (a : Int)) + ((mcd t) - 120))) rfl rfl rfl ?_
      refine y_st (lv' := [(3, iv ((8 * (a : Int)) + ((mcd t) - 120))), (0, .ref 170), (1, iv (mcd t)), (2, iv (v_b (b = true)))]) rfl rfl (fun d => rfl) ?_
      refine y_ld (x := .ref 170) rfl rfl (fun d => rfl) ?_
      refine y_gR (i := 8) rfl rfl rfl (md170 hM) rfl ?_
      refine y_ld (x := iv ((8 * (a : Int)) + ((mcd t) - 120))) rfl rfl (fun d => rfl) ?_
      refine y_ld (x := .ref 170) rfl rfl (fun d => rfl) ?_
      refine y_gR (i := 8) rfl rfl rfl (md170 hM) rfl ?_
      refine y_ld (x := iv ((8 * (a : Int)) + ((mcd t) - 120))) rfl rfl (fun d => rfl) ?_
      have hg := hgr (t - 108).toNat (by omega)
      refine y_ild (x := (g (t - 108).toNat)) (q := (8 * a + (t - 108).toNat)) rfl rfl (md177 hM) (by omega) (by decide) (by omega) (h.2.2.2.2.2.2.2.2.2 _ (by omega)) ?_
      refine y_ic rfl rfl ?_
      refine y_jle rfl rfl rfl (by omega) (fun g4 => ?_) (fun g4 => ?_)
      · refine y_ld (x := iv (v_b (b = true))) rfl rfl (fun d => rfl) ?_
        refine y_beq rfl rfl rfl (fun g5 => ?_) (fun g5 => ?_)
        · refine y_ic rfl rfl ?_
          refine y_ist (q := (8 * a + (t - 108).toNat)) rfl rfl (md177 hM) (by omega) (by decide) (by omega) ?_
          refine y_ret rfl (fun d => rfl) ?_
          have e : mk ln g t b = v_uf g (t - 108).toNat 1 := by
            unfold mk
            rw [if_pos (by omega)]
            rw [if_neg (by omega)]
            cases b
            · rfl
            · exact absurd rfl g5
          rw [e] at k
          exact k _ (MP_mk h (by omega)) (MF_u7 (by omega) (MF_rf a V)) rfl
        · refine y_ic rfl rfl ?_
          refine y_ld (x := .ref 170) rfl rfl (fun d => rfl) ?_
          refine y_gI (i := 14) (e := ln) rfl rfl rfl (md170 hM) rfl h.2.2.2.2.2.1 ?_
          refine y_add (z := (2 + ln)) rfl rfl rfl ?_
          refine y_go rfl rfl ?_
          refine y_ist (q := (8 * a + (t - 108).toNat)) rfl rfl (md177 hM) (by omega) (by decide) (by omega) ?_
          refine y_ret rfl (fun d => rfl) ?_
          have e : mk ln g t b = v_uf g (t - 108).toNat (2 + ln) := by
            unfold mk
            rw [if_pos (by omega)]
            rw [if_neg (by omega)]
            cases b
            · cases g5
            · rfl
          rw [e] at k
          exact k _ (MP_mk h (by omega)) (MF_u7 (by omega) (MF_rf a V)) rfl
      · refine y_ld (x := .ref 170) rfl rfl (fun d => rfl) ?_
        refine y_gR (i := 8) rfl rfl rfl (md170 hM) rfl ?_
        refine y_ld (x := iv ((8 * (a : Int)) + ((mcd t) - 120))) rfl rfl (fun d => rfl) ?_
        refine y_ild (x := (g (t - 108).toNat)) (q := (8 * a + (t - 108).toNat)) rfl rfl (md177 hM) (by omega) (by decide) (by omega) (h.2.2.2.2.2.2.2.2.2 _ (by omega)) ?_
        refine y_go rfl rfl ?_
        refine y_ist (q := (8 * a + (t - 108).toNat)) rfl rfl (md177 hM) (by omega) (by decide) (by omega) ?_
        refine y_ret rfl (fun d => rfl) ?_
        have e : mk ln g t b = v_uf g (t - 108).toNat (g (t - 108).toNat) := by
          unfold mk
          rw [if_pos (by omega)]
          rw [if_pos (by omega)]
        rw [e] at k
        exact k _ (MP_mk h (by omega)) (MF_u7 (by omega) (MF_rf a V)) rfl
    · refine y_ic rfl rfl ?_
      refine y_ld (x := iv (mcd t)) rfl rfl (fun d => rfl) ?_
      refine y_add (z := (4 + (mcd t))) rfl rfl rfl ?_
      refine y_si rfl rfl (by decide) ?_
      refine y_sub (z := ((4 + (mcd t)) - 130)) rfl rfl rfl ?_
      refine y_go rfl rfl ?_
      refine y_add (z := ((8 * (a : Int)) + ((4 + (mcd t)) - 130))) rfl rfl rfl ?_
      refine y_st (lv' := [(3, iv ((8 * (a : Int)) + ((4 + (mcd t)) - 130))), (0, .ref 170), (1, iv (mcd t)), (2, iv (v_b (b = true)))]) rfl rfl (fun d => rfl) ?_
      refine y_ld (x := .ref 170) rfl rfl (fun d => rfl) ?_
      refine y_gR (i := 8) rfl rfl rfl (md170 hM) rfl ?_
      refine y_ld (x := iv ((8 * (a : Int)) + ((4 + (mcd t)) - 130))) rfl rfl (fun d => rfl) ?_
      refine y_ld (x := .ref 170) rfl rfl (fun d => rfl) ?_
      refine y_gR (i := 8) rfl rfl rfl (md170 hM) rfl ?_
      refine y_ld (x := iv ((8 * (a : Int)) + ((4 + (mcd t)) - 130))) rfl rfl (fun d => rfl) ?_
      have hg := hgr (t - 108).toNat (by omega)
      refine y_ild (x := (g (t - 108).toNat)) (q := (8 * a + (t - 108).toNat)) rfl rfl (md177 hM) (by omega) (by decide) (by omega) (h.2.2.2.2.2.2.2.2.2 _ (by omega)) ?_
      refine y_ic rfl rfl ?_
      refine y_jle rfl rfl rfl (by omega) (fun g6 => ?_) (fun g6 => ?_)
      · refine y_ld (x := iv (v_b (b = true))) rfl rfl (fun d => rfl) ?_
        refine y_beq rfl rfl rfl (fun g7 => ?_) (fun g7 => ?_)
        · refine y_ic rfl rfl ?_
          refine y_ist (q := (8 * a + (t - 108).toNat)) rfl rfl (md177 hM) (by omega) (by decide) (by omega) ?_
          refine y_ret rfl (fun d => rfl) ?_
          have e : mk ln g t b = v_uf g (t - 108).toNat 1 := by
            unfold mk
            rw [if_pos (by omega)]
            rw [if_neg (by omega)]
            cases b
            · rfl
            · exact absurd rfl g7
          rw [e] at k
          exact k _ (MP_mk h (by omega)) (MF_u7 (by omega) (MF_rf a V)) rfl
        · refine y_ic rfl rfl ?_
          refine y_ld (x := .ref 170) rfl rfl (fun d => rfl) ?_
          refine y_gI (i := 14) (e := ln) rfl rfl rfl (md170 hM) rfl h.2.2.2.2.2.1 ?_
          refine y_add (z := (2 + ln)) rfl rfl rfl ?_
          refine y_go rfl rfl ?_
          refine y_ist (q := (8 * a + (t - 108).toNat)) rfl rfl (md177 hM) (by omega) (by decide) (by omega) ?_
          refine y_ret rfl (fun d => rfl) ?_
          have e : mk ln g t b = v_uf g (t - 108).toNat (2 + ln) := by
            unfold mk
            rw [if_pos (by omega)]
            rw [if_neg (by omega)]
            cases b
            · cases g7
            · rfl
          rw [e] at k
          exact k _ (MP_mk h (by omega)) (MF_u7 (by omega) (MF_rf a V)) rfl
      · refine y_ld (x := .ref 170) rfl rfl (fun d => rfl) ?_
        refine y_gR (i := 8) rfl rfl rfl (md170 hM) rfl ?_
        refine y_ld (x := iv ((8 * (a : Int)) + ((4 + (mcd t)) - 130))) rfl rfl (fun d => rfl) ?_
        refine y_ild (x := (g (t - 108).toNat)) (q := (8 * a + (t - 108).toNat)) rfl rfl (md177 hM) (by omega) (by decide) (by omega) (h.2.2.2.2.2.2.2.2.2 _ (by omega)) ?_
        refine y_go rfl rfl ?_
        refine y_ist (q := (8 * a + (t - 108).toNat)) rfl rfl (md177 hM) (by omega) (by decide) (by omega) ?_
        refine y_ret rfl (fun d => rfl) ?_
        have e : mk ln g t b = v_uf g (t - 108).toNat (g (t - 108).toNat) := by
          unfold mk
          rw [if_pos (by omega)]
          rw [if_pos (by omega)]
        rw [e] at k
        exact k _ (MP_mk h (by omega)) (MF_u7 (by omega) (MF_rf a V)) rfl
set_option maxRecDepth 100000 in
set_option maxHeartbeats 4000000 in
theorem ct_marks1 (hM : MdS S) {a z p : Nat} {τ : Nat → Int} {o ln : Int} {st : List Int} {g : Nat → Int} {x : Int} {y : Int} (h : MP V a z τ p 1 o ln st g) (k : K u w none S V) : y_R X 1 115 u w [.ref 170, iv x, iv y] S V K := by
  refine y_ent (lv' := [(0, .ref 170), (1, iv x), (2, iv y)]) (Nat.le_of_ble_eq_true rfl) rfl ?_
  refine y_ld (x := .ref 170) rfl rfl (fun d => rfl) ?_
  refine y_gI (i := 12) (e := 1) rfl rfl rfl (md170 hM) rfl h.2.2.2.1 ?_
  refine y_zne rfl rfl rfl (by decide) (fun g1 => ?_) (fun g1 => absurd g1 (by decide))
  refine y_ret rfl (fun d => rfl) ?_
  exact k
end
end
section
section
variable {X : Nat → List Int32} {u w : Nat} {S : m_H} {V : v_V} {K : v_K}
set_option maxRecDepth 100000 in
set_option maxHeartbeats 4000000 in
theorem ct_must (hM : MdS S) {a z p : Nat} {τ : Nat → Int} {o ln : Int} {st : List Int} {g : Nat → Int} {c : Int} (hT : Tp τ a z) (hc : (-2147483648 ≤ c ∧ c < 2147483648)) (h : MP V a z τ p 0 o ln st g) (hp : p ≤ z ∧ z ≤ 160) (k : ∀ V', MP V' a z τ (if hr τ z p = c then p + 1 else p) (if hr τ z p = c then 0 else 1) o ln st g → MF a V V' → V' 176 = V 176 → K u w none S V') : y_R X 2 113 u w [.ref 170, iv c] S V K := by
  refine y_ent (lv' := [(0, .ref 170), (1, iv c)]) (Nat.le_of_ble_eq_true rfl) rfl ?_
  refine y_ld (x := .ref 170) rfl rfl (fun d => rfl) ?_
  refine y_ld (x := .ref 170) rfl rfl (fun d => rfl) ?_
  refine y_gI (i := 12) (e := 0) rfl rfl rfl (md170 hM) rfl h.2.2.2.1 ?_
  refine y_zne rfl rfl rfl (by decide) (fun g1 => absurd g1 (by decide)) (fun g1 => ?_)
  refine y_ld (x := .ref 170) rfl rfl (fun d => rfl) ?_
  refine y_cV (as := [.ref 170]) rfl rfl rfl rfl rfl (md170 hM) ⟨rfl, (Nat.le_of_ble_eq_true rfl), (Nat.le_of_ble_eq_true rfl)⟩ (by decide) (ct_here hM h (by omega) ?_)
  have hq9 := hr_rg hT (p)
  refine y_nv ?_
  refine y_ld (x := iv c) rfl rfl (fun d => rfl) ?_
  refine y_jeq rfl rfl rfl (by omega) (fun g2 => ?_) (fun g2 => ?_)
  · refine y_ic rfl rfl ?_
    refine y_pZ (i := 12) rfl rfl rfl (md170 hM) rfl rfl (by decide) ?_
    refine y_ld (x := .ref 170) rfl rfl (fun d => rfl) ?_
    refine y_in rfl rfl (fun d => rfl) ?_
    refine y_gI (i := 10) (e := (p : Int)) rfl rfl rfl (md170 hM) rfl h.2.1 ?_
    refine y_ld (x := .ref 170) rfl rfl (fun d => rfl) ?_
    refine y_gI (i := 12) (e := 0) rfl rfl rfl (md170 hM) rfl rfl ?_
    refine y_zeq rfl rfl rfl (by decide) (fun g3 => ?_) (fun g3 => absurd g3 (by decide))
    refine y_ic rfl rfl ?_
    refine y_add (z := ((p : Int) + 1)) rfl rfl rfl ?_
    refine y_pI (i := 10) rfl rfl rfl (md170 hM) rfl rfl ?_
    refine y_ret rfl (fun d => rfl) ?_
    have e1 : (if hr τ z p = c then p + 1 else p) = p + 1 := if_pos (by omega)
    have e2 : (if hr τ z p = c then (0 : Int) else 1) = 0 := if_pos (by omega)
    rw [e1, e2] at k
    exact k _ (MP_f (p' := p + 1) (wr' := 0) (o' := o) (ln' := ln) h ⟨rfl, rfl, rfl, rfl, rfl, rfl⟩ rfl rfl h.2.2.2.2.1 h.2.2.2.2.2.1) (MF_u0 (by decide) (MF_u0 (by decide) (MF_rf a V))) rfl
  · refine y_ic rfl rfl ?_
    refine y_go rfl rfl ?_
    refine y_pZ (i := 12) rfl rfl rfl (md170 hM) rfl rfl (by decide) ?_
    refine y_ld (x := .ref 170) rfl rfl (fun d => rfl) ?_
    refine y_in rfl rfl (fun d => rfl) ?_
    refine y_gI (i := 10) (e := (p : Int)) rfl rfl rfl (md170 hM) rfl h.2.1 ?_
    refine y_ld (x := .ref 170) rfl rfl (fun d => rfl) ?_
    refine y_gI (i := 12) (e := 1) rfl rfl rfl (md170 hM) rfl rfl ?_
    refine y_zeq rfl rfl rfl (by decide) (fun g4 => absurd g4 (by decide)) (fun g4 => ?_)
    refine y_ic rfl rfl ?_
    refine y_go rfl rfl ?_
    refine y_add (z := ((p : Int) + 0)) rfl rfl rfl ?_
    refine y_pI (i := 10) rfl rfl rfl (md170 hM) rfl rfl ?_
    refine y_ret rfl (fun d => rfl) ?_
    have e1 : (if hr τ z p = c then p + 1 else p) = p := if_neg (by omega)
    have e2 : (if hr τ z p = c then (0 : Int) else 1) = 1 := if_neg (by omega)
    rw [e1, e2] at k
    exact k _ (MP_f (p' := p) (wr' := 1) (o' := o) (ln' := ln) h ⟨rfl, rfl, rfl, rfl, rfl, rfl⟩ rfl rfl h.2.2.2.2.1 h.2.2.2.2.2.1) (MF_u0 (by decide) (MF_u0 (by decide) (MF_rf a V))) rfl
set_option maxRecDepth 100000 in
set_option maxHeartbeats 4000000 in
theorem ct_must1 (hM : MdS S) {a z p : Nat} {τ : Nat → Int} {o ln : Int} {st : List Int} {g : Nat → Int} {c : Int} (h : MP V a z τ p 1 o ln st g) (k : ∀ V', MP V' a z τ p 1 o ln st g → MF a V V' → V' 176 = V 176 → K u w none S V') : y_R X 2 113 u w [.ref 170, iv c] S V K := by
  refine y_ent (lv' := [(0, .ref 170), (1, iv c)]) (Nat.le_of_ble_eq_true rfl) rfl ?_
  refine y_ld (x := .ref 170) rfl rfl (fun d => rfl) ?_
  refine y_ld (x := .ref 170) rfl rfl (fun d => rfl) ?_
  refine y_gI (i := 12) (e := 1) rfl rfl rfl (md170 hM) rfl h.2.2.2.1 ?_
  refine y_zne rfl rfl rfl (by decide) (fun g1 => ?_) (fun g1 => absurd g1 (by decide))
  refine y_ic rfl rfl ?_
  refine y_go rfl rfl ?_
  refine y_pZ (i := 12) rfl rfl rfl (md170 hM) rfl rfl (by decide) ?_
  refine y_ld (x := .ref 170) rfl rfl (fun d => rfl) ?_
  refine y_in rfl rfl (fun d => rfl) ?_
  refine y_gI (i := 10) (e := (p : Int)) rfl rfl rfl (md170 hM) rfl h.2.1 ?_
  refine y_ld (x := .ref 170) rfl rfl (fun d => rfl) ?_
  refine y_gI (i := 12) (e := 1) rfl rfl rfl (md170 hM) rfl rfl ?_
  refine y_zeq rfl rfl rfl (by decide) (fun g2 => absurd g2 (by decide)) (fun g2 => ?_)
  refine y_ic rfl rfl ?_
  refine y_go rfl rfl ?_
  refine y_add (z := ((p : Int) + 0)) rfl rfl rfl ?_
  refine y_pI (i := 10) rfl rfl rfl (md170 hM) rfl rfl ?_
  refine y_ret rfl (fun d => rfl) ?_
  exact k _ (MP_f (p' := p) (wr' := 1) (o' := o) (ln' := ln) h ⟨rfl, rfl, rfl, rfl, rfl, rfl⟩ rfl rfl h.2.2.2.2.1 h.2.2.2.2.2.1) (MF_u0 (by decide) (MF_u0 (by decide) (MF_rf a V))) rfl
set_option maxRecDepth 100000 in
set_option maxHeartbeats 4000000 in
theorem ct_cellHere (hM : MdS S) {a z p : Nat} {τ : Nat → Int} {o ln : Int} {st : List Int} {g : Nat → Int} (hT : Tp τ a z) (hc : hr τ z p = 116 ∨ hr τ z p = 115 ∨ hr τ z p = 103) (h : MP V a z τ p 0 o ln st g) (hp : p ≤ z ∧ z ≤ 160) (hp2 : p < z) (k1 : ∀ V', 0 ≤ (pT τ z p).1 → MP V' a z τ (pT τ z p).2 0 o ln st g → MF a V V' → V' 176 = V 176 → K u w (some (iv (mcd (pT τ z p).1))) S V') (k2 : ∀ V' x, (pT τ z p).1 < 0 → MP V' a z τ (pT τ z p).2 1 o ln st g → MF a V V' → V' 176 = V 176 → (0 ≤ x ∧ x ≤ 200) → K u w (some (iv x)) S V') : y_R X 2 116 u w [.ref 170] S V K := by
  refine y_ent (lv' := [(0, .ref 170)]) (Nat.le_of_ble_eq_true rfl) rfl ?_
  refine y_ld (x := .ref 170) rfl rfl (fun d => rfl) ?_
  refine y_cV (as := [.ref 170]) rfl rfl rfl rfl rfl (md170 hM) ⟨rfl, (Nat.le_of_ble_eq_true rfl), (Nat.le_of_ble_eq_true rfl)⟩ (by decide) (ct_here hM h (by omega) ?_)
  have hq1 := hr_rg hT (p)
  refine y_nv ?_
  refine y_st (lv' := [(1, iv (hr τ z p)), (0, .ref 170)]) rfl rfl (fun d => rfl) ?_
  refine y_ld (x := .ref 170) rfl rfl (fun d => rfl) ?_
  refine y_in rfl rfl (fun d => rfl) ?_
  refine y_gI (i := 10) (e := (p : Int)) rfl rfl rfl (md170 hM) rfl h.2.1 ?_
  refine y_ic rfl rfl ?_
  refine y_add (z := ((p : Int) + 1)) rfl rfl rfl ?_
  refine y_pI (i := 10) rfl rfl rfl (md170 hM) rfl rfl ?_
  refine y_ld (x := .ref 170) rfl rfl (fun d => rfl) ?_
  refine y_ld (x := .ref 170) rfl rfl (fun d => rfl) ?_
  refine y_cV (as := [.ref 170]) rfl rfl rfl rfl rfl (md170 hM) ⟨rfl, (Nat.le_of_ble_eq_true rfl), (Nat.le_of_ble_eq_true rfl)⟩ (by decide) (ct_here hM (MP_f (p' := p + 1) (wr' := 0) (o' := o) (ln' := ln) h ⟨rfl, rfl, rfl, rfl, rfl, rfl⟩ rfl h.2.2.2.1 h.2.2.2.2.1 h.2.2.2.2.2.1) (by omega) ?_)
  have hq17 := hr_rg hT (p + 1)
  refine y_nv ?_
  refine y_bi rfl rfl (by decide) ?_
  refine y_bi rfl rfl (by decide) ?_
  refine y_cS (as := [iv (hr τ z (p + 1)), iv 48, iv 51]) rfl (by decide) rfl rfl rfl rfl ⟨(Nat.le_of_ble_eq_true rfl), (Nat.le_of_ble_eq_true rfl)⟩ (by decide) (ct_in (by omega) ?_)
  refine y_nv ?_
  refine y_bne rfl rfl rfl (fun g1 => ?_) (fun g1 => ?_)
  · refine y_ic rfl rfl ?_
    refine y_pZ (i := 12) rfl rfl rfl (md170 hM) rfl rfl (by decide) ?_
    refine y_ld (x := .ref 170) rfl rfl (fun d => rfl) ?_
    refine y_gI (i := 12) (e := 0) rfl rfl rfl (md170 hM) rfl rfl ?_
    refine y_zeq rfl rfl rfl (by decide) (fun g2 => ?_) (fun g2 => absurd g2 (by decide))
    refine y_ld (x := .ref 170) rfl rfl (fun d => rfl) ?_
    refine y_cV (as := [.ref 170]) rfl rfl rfl rfl rfl (md170 hM) ⟨rfl, (Nat.le_of_ble_eq_true rfl), (Nat.le_of_ble_eq_true rfl)⟩ (by decide) (ct_here hM (MP_f (p' := p + 1) (wr' := 0) (o' := o) (ln' := ln) h ⟨rfl, rfl, rfl, rfl, rfl, rfl⟩ rfl rfl h.2.2.2.2.1 h.2.2.2.2.2.1) (by omega) ?_)
    have hq50 := hr_rg hT (p + 1)
    refine y_nv ?_
    refine y_bi rfl rfl (by decide) ?_
    refine y_sub (z := ((hr τ z (p + 1)) - 48)) rfl rfl rfl ?_
    refine y_st (lv' := [(2, iv ((hr τ z (p + 1)) - 48)), (1, iv (hr τ z p)), (0, .ref 170)]) rfl rfl (fun d => rfl) ?_
    refine y_ld (x := .ref 170) rfl rfl (fun d => rfl) ?_
    refine y_in rfl rfl (fun d => rfl) ?_
    refine y_gI (i := 10) (e := ((p : Int) + 1)) rfl rfl rfl (md170 hM) rfl rfl ?_
    refine y_ld (x := .ref 170) rfl rfl (fun d => rfl) ?_
    refine y_gI (i := 12) (e := 0) rfl rfl rfl (md170 hM) rfl rfl ?_
    refine y_zeq rfl rfl rfl (by decide) (fun g3 => ?_) (fun g3 => absurd g3 (by decide))
    refine y_ic rfl rfl ?_
    refine y_add (z := (((p : Int) + 1) + 1)) rfl rfl rfl ?_
    refine y_pI (i := 10) rfl rfl rfl (md170 hM) rfl rfl ?_
    refine y_ld (x := iv (hr τ z p)) rfl rfl (fun d => rfl) ?_
    refine y_bi rfl rfl (by decide) ?_
    refine y_jne rfl rfl rfl (by omega) (fun g4 => ?_) (fun g4 => ?_)
    · refine y_ld (x := iv (hr τ z p)) rfl rfl (fun d => rfl) ?_
      refine y_bi rfl rfl (by decide) ?_
      refine y_jne rfl rfl rfl (by omega) (fun g5 => ?_) (fun g5 => ?_)
      · refine y_si rfl rfl (by decide) ?_
        refine y_ld (x := iv ((hr τ z (p + 1)) - 48)) rfl rfl (fun d => rfl) ?_
        refine y_add (z := (130 + ((hr τ z (p + 1)) - 48))) rfl rfl rfl ?_
        refine y_rI rfl (Or.inl rfl) ?_
        have e := pT_c1 hc (by omega)
        rw [e] at k1
        have e2 : mcd ((if hr τ z p = 116 then 104 else if hr τ z p = 115 then 108 else 112) + (hr τ z (p + 1) - 48)) = 130 + ((hr τ z (p + 1)) - 48) := by
          first
          | (rw [if_pos (by omega)]; unfold mcd; rw [if_neg (by omega), if_pos (by omega)]; omega)
          | (rw [if_neg (by omega), if_pos (by omega)]; unfold mcd; rw [if_neg (by omega), if_neg (by omega), if_pos (by omega)]; omega)
          | (rw [if_neg (by omega), if_neg (by omega)]; unfold mcd; rw [if_neg (by omega), if_neg (by omega), if_neg (by omega)]; omega)
        rw [← e2]
        exact k1 _ (by simp only; split <;> (try split) <;> omega) (MP_f (p' := p + 2) (wr' := 0) (o' := o) (ln' := ln) h ⟨rfl, rfl, rfl, rfl, rfl, rfl⟩ rfl rfl h.2.2.2.2.1 h.2.2.2.2.2.1) (MF_u0 (by decide) (MF_u0 (by decide) (MF_u0 (by decide) (MF_rf a V)))) rfl
      · refine y_bi rfl rfl (by decide) ?_
        refine y_go rfl rfl ?_
        refine y_ld (x := iv ((hr τ z (p + 1)) - 48)) rfl rfl (fun d => rfl) ?_
        refine y_add (z := (120 + ((hr τ z (p + 1)) - 48))) rfl rfl rfl ?_
        refine y_rI rfl (Or.inl rfl) ?_
        have e := pT_c1 hc (by omega)
        rw [e] at k1
        have e2 : mcd ((if hr τ z p = 116 then 104 else if hr τ z p = 115 then 108 else 112) + (hr τ z (p + 1) - 48)) = 120 + ((hr τ z (p + 1)) - 48) := by
          first
          | (rw [if_pos (by omega)]; unfold mcd; rw [if_neg (by omega), if_pos (by omega)]; omega)
          | (rw [if_neg (by omega), if_pos (by omega)]; unfold mcd; rw [if_neg (by omega), if_neg (by omega), if_pos (by omega)]; omega)
          | (rw [if_neg (by omega), if_neg (by omega)]; unfold mcd; rw [if_neg (by omega), if_neg (by omega), if_neg (by omega)]; omega)
        rw [← e2]
        exact k1 _ (by simp only; split <;> (try split) <;> omega) (MP_f (p' := p + 2) (wr' := 0) (o' := o) (ln' := ln) h ⟨rfl, rfl, rfl, rfl, rfl, rfl⟩ rfl rfl h.2.2.2.2.1 h.2.2.2.2.2.1) (MF_u0 (by decide) (MF_u0 (by decide) (MF_u0 (by decide) (MF_rf a V)))) rfl
    · refine y_bi rfl rfl (by decide) ?_
      refine y_go rfl rfl ?_
      refine y_ld (x := iv ((hr τ z (p + 1)) - 48)) rfl rfl (fun d => rfl) ?_
      refine y_add (z := (110 + ((hr τ z (p + 1)) - 48))) rfl rfl rfl ?_
      refine y_rI rfl (Or.inl rfl) ?_
      have e := pT_c1 hc (by omega)
      rw [e] at k1
      have e2 : mcd ((if hr τ z p = 116 then 104 else if hr τ z p = 115 then 108 else 112) + (hr τ z (p + 1) - 48)) = 110 + ((hr τ z (p + 1)) - 48) := by
        first
        | (rw [if_pos (by omega)]; unfold mcd; rw [if_neg (by omega), if_pos (by omega)]; omega)
        | (rw [if_neg (by omega), if_pos (by omega)]; unfold mcd; rw [if_neg (by omega), if_neg (by omega), if_pos (by omega)]; omega)
        | (rw [if_neg (by omega), if_neg (by omega)]; unfold mcd; rw [if_neg (by omega), if_neg (by omega), if_neg (by omega)]; omega)
      rw [← e2]
      exact k1 _ (by simp only; split <;> (try split) <;> omega) (MP_f (p' := p + 2) (wr' := 0) (o' := o) (ln' := ln) h ⟨rfl, rfl, rfl, rfl, rfl, rfl⟩ rfl rfl h.2.2.2.2.1 h.2.2.2.2.2.1) (MF_u0 (by decide) (MF_u0 (by decide) (MF_u0 (by decide) (MF_rf a V)))) rfl
  · refine y_ic rfl rfl ?_
    refine y_go rfl rfl ?_
    refine y_pZ (i := 12) rfl rfl rfl (md170 hM) rfl rfl (by decide) ?_
    refine y_ld (x := .ref 170) rfl rfl (fun d => rfl) ?_
    refine y_gI (i := 12) (e := 1) rfl rfl rfl (md170 hM) rfl rfl ?_
    refine y_zeq rfl rfl rfl (by decide) (fun g6 => absurd g6 (by decide)) (fun g6 => ?_)
    refine y_ic rfl rfl ?_
    refine y_go rfl rfl ?_
    refine y_st (lv' := [(2, iv 0), (1, iv (hr τ z p)), (0, .ref 170)]) rfl rfl (fun d => rfl) ?_
    refine y_ld (x := .ref 170) rfl rfl (fun d => rfl) ?_
    refine y_in rfl rfl (fun d => rfl) ?_
    refine y_gI (i := 10) (e := ((p : Int) + 1)) rfl rfl rfl (md170 hM) rfl rfl ?_
    refine y_ld (x := .ref 170) rfl rfl (fun d => rfl) ?_
    refine y_gI (i := 12) (e := 1) rfl rfl rfl (md170 hM) rfl rfl ?_
    refine y_zeq rfl rfl rfl (by decide) (fun g7 => absurd g7 (by decide)) (fun g7 => ?_)
    refine y_ic rfl rfl ?_
    refine y_go rfl rfl ?_
    refine y_add (z := (((p : Int) + 1) + 0)) rfl rfl rfl ?_
    refine y_pI (i := 10) rfl rfl rfl (md170 hM) rfl rfl ?_
    refine y_ld (x := iv (hr τ z p)) rfl rfl (fun d => rfl) ?_
    refine y_bi rfl rfl (by decide) ?_
    refine y_jne rfl rfl rfl (by omega) (fun g8 => ?_) (fun g8 => ?_)
    · refine y_ld (x := iv (hr τ z p)) rfl rfl (fun d => rfl) ?_
      refine y_bi rfl rfl (by decide) ?_
      refine y_jne rfl rfl rfl (by omega) (fun g9 => ?_) (fun g9 => ?_)
      · refine y_si rfl rfl (by decide) ?_
        refine y_ld (x := iv 0) rfl rfl (fun d => rfl) ?_
        refine y_add (z := 130) rfl rfl rfl ?_
        refine y_rI rfl (Or.inl rfl) ?_
        have e := pT_c0 hc (by omega)
        rw [e] at k2
        exact k2 _ _ (show (-1 : Int) < 0 by decide) (MP_f (p' := p + 1) (wr' := 1) (o' := o) (ln' := ln) h ⟨rfl, rfl, rfl, rfl, rfl, rfl⟩ rfl rfl h.2.2.2.2.1 h.2.2.2.2.2.1) (MF_u0 (by decide) (MF_u0 (by decide) (MF_u0 (by decide) (MF_rf a V)))) rfl (by omega)
      · refine y_bi rfl rfl (by decide) ?_
        refine y_go rfl rfl ?_
        refine y_ld (x := iv 0) rfl rfl (fun d => rfl) ?_
        refine y_add (z := 120) rfl rfl rfl ?_
        refine y_rI rfl (Or.inl rfl) ?_
        have e := pT_c0 hc (by omega)
        rw [e] at k2
        exact k2 _ _ (show (-1 : Int) < 0 by decide) (MP_f (p' := p + 1) (wr' := 1) (o' := o) (ln' := ln) h ⟨rfl, rfl, rfl, rfl, rfl, rfl⟩ rfl rfl h.2.2.2.2.1 h.2.2.2.2.2.1) (MF_u0 (by decide) (MF_u0 (by decide) (MF_u0 (by decide) (MF_rf a V)))) rfl (by omega)
    · refine y_bi rfl rfl (by decide) ?_
      refine y_go rfl rfl ?_
      refine y_ld (x := iv 0) rfl rfl (fun d => rfl) ?_
      refine y_add (z := 110) rfl rfl rfl ?_
      refine y_rI rfl (Or.inl rfl) ?_
      have e := pT_c0 hc (by omega)
      rw [e] at k2
      exact k2 _ _ (show (-1 : Int) < 0 by decide) (MP_f (p' := p + 1) (wr' := 1) (o' := o) (ln' := ln) h ⟨rfl, rfl, rfl, rfl, rfl, rfl⟩ rfl rfl h.2.2.2.2.1 h.2.2.2.2.2.1) (MF_u0 (by decide) (MF_u0 (by decide) (MF_u0 (by decide) (MF_rf a V)))) rfl (by omega)
set_option maxRecDepth 100000 in
set_option maxHeartbeats 4000000 in
theorem ct_term (hM : MdS S) {a z p : Nat} {τ : Nat → Int} {o ln : Int} {st : List Int} {g : Nat → Int} (hT : Tp τ a z) (h : MP V a z τ p 0 o ln st g) (hp : p ≤ z ∧ z ≤ 160) (k1 : ∀ V', 0 ≤ (pT τ z p).1 → MP V' a z τ (pT τ z p).2 0 o ln st g → MF a V V' → V' 176 = V 176 → K u w (some (iv (mcd (pT τ z p).1))) S V') (k2 : ∀ V' x, (pT τ z p).1 < 0 → MP V' a z τ (pT τ z p).2 1 o ln st g → MF a V V' → V' 176 = V 176 → (0 ≤ x ∧ x ≤ 200) → K u w (some (iv x)) S V') : y_R X 3 117 u w [.ref 170] S V K := by
  refine y_ent (lv' := [(0, .ref 170)]) (Nat.le_of_ble_eq_true rfl) rfl ?_
  have z0 : hr τ z p ≠ -1 → p < z := hr_le
  have z1 : hr τ z (p + 1) ≠ -1 → p + 1 < z := hr_le
  refine y_ld (x := .ref 170) rfl rfl (fun d => rfl) ?_
  refine y_gI (i := 12) (e := 0) rfl rfl rfl (md170 hM) rfl h.2.2.2.1 ?_
  refine y_zeq rfl rfl rfl (by decide) (fun g1 => ?_) (fun g1 => absurd g1 (by decide))
  refine y_ld (x := .ref 170) rfl rfl (fun d => rfl) ?_
  refine y_cV (as := [.ref 170]) rfl rfl rfl rfl rfl (md170 hM) ⟨rfl, (Nat.le_of_ble_eq_true rfl), (Nat.le_of_ble_eq_true rfl)⟩ (by decide) (ct_here hM h (by omega) ?_)
  have hq10 := hr_rg hT (p)
  refine y_nv ?_
  refine y_st (lv' := [(1, iv (hr τ z p)), (0, .ref 170)]) rfl rfl (fun d => rfl) ?_
  refine y_ld (x := iv (hr τ z p)) rfl rfl (fun d => rfl) ?_
  refine y_bi rfl rfl (by decide) ?_
  refine y_jeq rfl rfl rfl (by omega) (fun g2 => ?_) (fun g2 => ?_)
  · refine y_ld (x := .ref 170) rfl rfl (fun d => rfl) ?_
    refine y_cV (as := [.ref 170]) rfl rfl rfl rfl rfl (md170 hM) ⟨rfl, (Nat.le_of_ble_eq_true rfl), (Nat.le_of_ble_eq_true rfl)⟩ (by decide) (ct_cellHere hM hT (by omega) h (by omega) (hr_le (τ := τ) (z := z) (p := p) (by omega)) (fun V1 q1 q2 q3 q4 => ?_) (fun V1 x q1 q2 q3 q4 q5 => ?_))
    · refine y_nv ?_
      refine y_rI rfl (Or.inl rfl) ?_
      exact k1 V1 q1 q2 q3 q4
    · refine y_nv ?_
      refine y_rI rfl (Or.inl rfl) ?_
      exact k2 V1 x q1 q2 q3 q4 q5
  · refine y_ld (x := iv (hr τ z p)) rfl rfl (fun d => rfl) ?_
    refine y_bi rfl rfl (by decide) ?_
    refine y_jeq rfl rfl rfl (by omega) (fun g3 => ?_) (fun g3 => ?_)
    · refine y_ld (x := .ref 170) rfl rfl (fun d => rfl) ?_
      refine y_cV (as := [.ref 170]) rfl rfl rfl rfl rfl (md170 hM) ⟨rfl, (Nat.le_of_ble_eq_true rfl), (Nat.le_of_ble_eq_true rfl)⟩ (by decide) (ct_cellHere hM hT (by omega) h (by omega) (hr_le (τ := τ) (z := z) (p := p) (by omega)) (fun V1 q1 q2 q3 q4 => ?_) (fun V1 x q1 q2 q3 q4 q5 => ?_))
      · refine y_nv ?_
        refine y_rI rfl (Or.inl rfl) ?_
        exact k1 V1 q1 q2 q3 q4
      · refine y_nv ?_
        refine y_rI rfl (Or.inl rfl) ?_
        exact k2 V1 x q1 q2 q3 q4 q5
    · refine y_ld (x := iv (hr τ z p)) rfl rfl (fun d => rfl) ?_
      refine y_bi rfl rfl (by decide) ?_
      refine y_jne rfl rfl rfl (by omega) (fun g4 => ?_) (fun g4 => ?_)
      · refine y_ld (x := iv (hr τ z p)) rfl rfl (fun d => rfl) ?_
        refine y_bi rfl rfl (by decide) ?_
        refine y_jeq rfl rfl rfl (by omega) (fun g5 => ?_) (fun g5 => ?_)
        · refine y_ld (x := .ref 170) rfl rfl (fun d => rfl) ?_
          refine y_in rfl rfl (fun d => rfl) ?_
          refine y_gI (i := 10) (e := (p : Int)) rfl rfl rfl (md170 hM) rfl h.2.1 ?_
          refine y_ic rfl rfl ?_
          refine y_add (z := ((p : Int) + 1)) rfl rfl rfl ?_
          refine y_pI (i := 10) rfl rfl rfl (md170 hM) rfl rfl ?_
          refine y_ld (x := iv (hr τ z p)) rfl rfl (fun d => rfl) ?_
          refine y_bi rfl rfl (by decide) ?_
          refine y_jne rfl rfl rfl (by omega) (fun g6 => ?_) (fun g6 => ?_)
          · refine y_ld (x := iv (hr τ z p)) rfl rfl (fun d => rfl) ?_
            refine y_bi rfl rfl (by decide) ?_
            refine y_jne rfl rfl rfl (by omega) (fun g7 => ?_) (fun g7 => ?_)
            · refine y_bi rfl rfl (by decide) ?_
              refine y_rI rfl (Or.inl rfl) ?_
              rw [pT_n (by omega)] at k1
              exact k1 _ (show (0 : Int) ≤ 102 by decide) (MP_f (p' := p + 1) (wr' := 0) (o' := o) (ln' := ln) h ⟨rfl, rfl, rfl, rfl, rfl, rfl⟩ rfl h.2.2.2.1 h.2.2.2.2.1 h.2.2.2.2.2.1) (MF_u0 (by decide) (MF_rf a V)) rfl
            · refine y_bi rfl rfl (by decide) ?_
              refine y_go rfl rfl ?_
              refine y_rI rfl (Or.inl rfl) ?_
              rw [pT_h (by omega)] at k1
              exact k1 _ (show (0 : Int) ≤ 101 by decide) (MP_f (p' := p + 1) (wr' := 0) (o' := o) (ln' := ln) h ⟨rfl, rfl, rfl, rfl, rfl, rfl⟩ rfl h.2.2.2.1 h.2.2.2.2.1 h.2.2.2.2.2.1) (MF_u0 (by decide) (MF_rf a V)) rfl
          · refine y_bi rfl rfl (by decide) ?_
            refine y_go rfl rfl ?_
            refine y_rI rfl (Or.inl rfl) ?_
            rw [pT_k (by omega)] at k1
            exact k1 _ (show (0 : Int) ≤ 100 by decide) (MP_f (p' := p + 1) (wr' := 0) (o' := o) (ln' := ln) h ⟨rfl, rfl, rfl, rfl, rfl, rfl⟩ rfl h.2.2.2.1 h.2.2.2.2.1 h.2.2.2.2.2.1) (MF_u0 (by decide) (MF_rf a V)) rfl
        · refine y_ld (x := iv (hr τ z p)) rfl rfl (fun d => rfl) ?_
          refine y_bi rfl rfl (by decide) ?_
          refine y_jeq rfl rfl rfl (by omega) (fun g8 => ?_) (fun g8 => ?_)
          · refine y_ld (x := .ref 170) rfl rfl (fun d => rfl) ?_
            refine y_in rfl rfl (fun d => rfl) ?_
            refine y_gI (i := 10) (e := (p : Int)) rfl rfl rfl (md170 hM) rfl h.2.1 ?_
            refine y_ic rfl rfl ?_
            refine y_add (z := ((p : Int) + 1)) rfl rfl rfl ?_
            refine y_pI (i := 10) rfl rfl rfl (md170 hM) rfl rfl ?_
            refine y_ld (x := iv (hr τ z p)) rfl rfl (fun d => rfl) ?_
            refine y_bi rfl rfl (by decide) ?_
            refine y_jne rfl rfl rfl (by omega) (fun g9 => ?_) (fun g9 => ?_)
            · refine y_ld (x := iv (hr τ z p)) rfl rfl (fun d => rfl) ?_
              refine y_bi rfl rfl (by decide) ?_
              refine y_jne rfl rfl rfl (by omega) (fun g10 => ?_) (fun g10 => ?_)
              · refine y_bi rfl rfl (by decide) ?_
                refine y_rI rfl (Or.inl rfl) ?_
                rw [pT_n (by omega)] at k1
                exact k1 _ (show (0 : Int) ≤ 102 by decide) (MP_f (p' := p + 1) (wr' := 0) (o' := o) (ln' := ln) h ⟨rfl, rfl, rfl, rfl, rfl, rfl⟩ rfl h.2.2.2.1 h.2.2.2.2.1 h.2.2.2.2.2.1) (MF_u0 (by decide) (MF_rf a V)) rfl
              · refine y_bi rfl rfl (by decide) ?_
                refine y_go rfl rfl ?_
                refine y_rI rfl (Or.inl rfl) ?_
                rw [pT_h (by omega)] at k1
                exact k1 _ (show (0 : Int) ≤ 101 by decide) (MP_f (p' := p + 1) (wr' := 0) (o' := o) (ln' := ln) h ⟨rfl, rfl, rfl, rfl, rfl, rfl⟩ rfl h.2.2.2.1 h.2.2.2.2.1 h.2.2.2.2.2.1) (MF_u0 (by decide) (MF_rf a V)) rfl
            · refine y_bi rfl rfl (by decide) ?_
              refine y_go rfl rfl ?_
              refine y_rI rfl (Or.inl rfl) ?_
              rw [pT_k (by omega)] at k1
              exact k1 _ (show (0 : Int) ≤ 100 by decide) (MP_f (p' := p + 1) (wr' := 0) (o' := o) (ln' := ln) h ⟨rfl, rfl, rfl, rfl, rfl, rfl⟩ rfl h.2.2.2.1 h.2.2.2.2.1 h.2.2.2.2.2.1) (MF_u0 (by decide) (MF_rf a V)) rfl
          · refine y_ld (x := iv (hr τ z p)) rfl rfl (fun d => rfl) ?_
            refine y_bi rfl rfl (by decide) ?_
            refine y_jne rfl rfl rfl (by omega) (fun g11 => ?_) (fun g11 => ?_)
            · refine y_ld (x := .ref 170) rfl rfl (fun d => rfl) ?_
              refine y_ld (x := iv (hr τ z p)) rfl rfl (fun d => rfl) ?_
              refine y_bi rfl rfl (by decide) ?_
              refine y_bi rfl rfl (by decide) ?_
              refine y_cS (as := [iv (hr τ z p), iv 48, iv 57]) rfl (by decide) rfl rfl rfl rfl ⟨(Nat.le_of_ble_eq_true rfl), (Nat.le_of_ble_eq_true rfl)⟩ (by decide) (ct_in (by omega) ?_)
              refine y_nv ?_
              refine y_bne rfl rfl rfl (fun g12 => ?_) (fun g12 => ?_)
              · refine y_ic rfl rfl ?_
                refine y_pZ (i := 12) rfl rfl rfl (md170 hM) rfl rfl (by decide) ?_
                refine y_ic rfl rfl ?_
                refine y_st (lv' := [(2, iv 0), (1, iv (hr τ z p)), (0, .ref 170)]) rfl rfl (fun d => rfl) ?_
                refine y_ic rfl rfl ?_
                refine y_st (lv' := [(3, iv 0), (2, iv 0), (1, iv (hr τ z p)), (0, .ref 170)]) rfl rfl (fun d => rfl) ?_
                refine y_ld (x := iv 0) rfl rfl (fun d => rfl) ?_
                refine y_ic rfl rfl ?_
                refine y_jge rfl rfl rfl (by decide) (fun g13 => absurd g13 (by decide)) (fun g13 => ?_)
                refine y_ld (x := .ref 170) rfl rfl (fun d => rfl) ?_
                refine y_gI (i := 12) (e := 0) rfl rfl rfl (md170 hM) rfl rfl ?_
                refine y_zne rfl rfl rfl (by decide) (fun g14 => absurd g14 (by decide)) (fun g14 => ?_)
                refine y_ld (x := .ref 170) rfl rfl (fun d => rfl) ?_
                refine y_cV (as := [.ref 170]) rfl rfl rfl rfl rfl (md170 hM) ⟨rfl, (Nat.le_of_ble_eq_true rfl), (Nat.le_of_ble_eq_true rfl)⟩ (by decide) (ct_here hM (MP_f (p' := p) (wr' := 0) (o' := o) (ln' := ln) h ⟨rfl, rfl, rfl, rfl, rfl, rfl⟩ h.2.1 rfl h.2.2.2.2.1 h.2.2.2.2.2.1) (by omega) ?_)
                have hq127 := hr_rg hT (p)
                refine y_nv ?_
                refine y_bi rfl rfl (by decide) ?_
                refine y_bi rfl rfl (by decide) ?_
                refine y_cS (as := [iv (hr τ z p), iv 48, iv 57]) rfl (by decide) rfl rfl rfl rfl ⟨(Nat.le_of_ble_eq_true rfl), (Nat.le_of_ble_eq_true rfl)⟩ (by decide) (ct_in (by omega) ?_)
                refine y_nv ?_
                refine y_beq rfl rfl rfl (fun g15 => ?_) (fun g15 => ?_)
                · refine y_ld (x := iv 0) rfl rfl (fun d => rfl) ?_
                  refine y_rI rfl (Or.inl rfl) ?_
                  exfalso
                  omega
                · refine y_ld (x := iv 0) rfl rfl (fun d => rfl) ?_
                  refine y_zeq rfl rfl rfl (by decide) (fun g16 => ?_) (fun g16 => absurd g16 (by decide))
                  refine y_bi rfl rfl (by decide) ?_
                  refine y_ld (x := iv 0) rfl rfl (fun d => rfl) ?_
                  refine y_mul (z := 0) rfl rfl rfl ?_
                  refine y_ld (x := .ref 170) rfl rfl (fun d => rfl) ?_
                  refine y_cV (as := [.ref 170]) rfl rfl rfl rfl rfl (md170 hM) ⟨rfl, (Nat.le_of_ble_eq_true rfl), (Nat.le_of_ble_eq_true rfl)⟩ (by decide) (ct_here hM (MP_f (p' := p) (wr' := 0) (o' := o) (ln' := ln) h ⟨rfl, rfl, rfl, rfl, rfl, rfl⟩ h.2.1 rfl h.2.2.2.2.1 h.2.2.2.2.2.1) (by omega) ?_)
                  have hq153 := hr_rg hT (p)
                  refine y_nv ?_
                  refine y_add (z := (0 + (hr τ z p))) rfl rfl rfl ?_
                  refine y_bi rfl rfl (by decide) ?_
                  refine y_sub (z := ((0 + (hr τ z p)) - 48)) rfl rfl rfl ?_
                  refine y_st (lv' := [(2, iv ((0 + (hr τ z p)) - 48)), (3, iv 0), (1, iv (hr τ z p)), (0, .ref 170)]) rfl rfl (fun d => rfl) ?_
                  refine y_ld (x := .ref 170) rfl rfl (fun d => rfl) ?_
                  refine y_in rfl rfl (fun d => rfl) ?_
                  refine y_gI (i := 10) (e := (p : Int)) rfl rfl rfl (md170 hM) rfl h.2.1 ?_
                  refine y_ic rfl rfl ?_
                  refine y_add (z := ((p : Int) + 1)) rfl rfl rfl ?_
                  refine y_pI (i := 10) rfl rfl rfl (md170 hM) rfl rfl ?_
                  refine y_inc (z := 1) (lv' := [(3, iv 1), (2, iv ((0 + (hr τ z p)) - 48)), (1, iv (hr τ z p)), (0, .ref 170)]) rfl rfl rfl rfl rfl ?_
                  refine y_go rfl rfl ?_
                  refine y_ld (x := iv 1) rfl rfl (fun d => rfl) ?_
                  refine y_ic rfl rfl ?_
                  refine y_jge rfl rfl rfl (by decide) (fun g17 => absurd g17 (by decide)) (fun g17 => ?_)
                  refine y_ld (x := .ref 170) rfl rfl (fun d => rfl) ?_
                  refine y_gI (i := 12) (e := 0) rfl rfl rfl (md170 hM) rfl rfl ?_
                  refine y_zne rfl rfl rfl (by decide) (fun g18 => absurd g18 (by decide)) (fun g18 => ?_)
                  refine y_ld (x := .ref 170) rfl rfl (fun d => rfl) ?_
                  refine y_cV (as := [.ref 170]) rfl rfl rfl rfl rfl (md170 hM) ⟨rfl, (Nat.le_of_ble_eq_true rfl), (Nat.le_of_ble_eq_true rfl)⟩ (by decide) (ct_here hM (MP_f (p' := p + 1) (wr' := 0) (o' := o) (ln' := ln) h ⟨rfl, rfl, rfl, rfl, rfl, rfl⟩ rfl rfl h.2.2.2.2.1 h.2.2.2.2.2.1) (by omega) ?_)
                  have hq127 := hr_rg hT (p + 1)
                  refine y_nv ?_
                  refine y_bi rfl rfl (by decide) ?_
                  refine y_bi rfl rfl (by decide) ?_
                  refine y_cS (as := [iv (hr τ z (p + 1)), iv 48, iv 57]) rfl (by decide) rfl rfl rfl rfl ⟨(Nat.le_of_ble_eq_true rfl), (Nat.le_of_ble_eq_true rfl)⟩ (by decide) (ct_in (by omega) ?_)
                  refine y_nv ?_
                  refine y_beq rfl rfl rfl (fun g19 => ?_) (fun g19 => ?_)
                  · refine y_ld (x := iv ((0 + (hr τ z p)) - 48)) rfl rfl (fun d => rfl) ?_
                    refine y_rI rfl (Or.inl rfl) ?_
                    by_cases h0 : hr τ z p = 48
                    · rw [pT_0 (by omega)] at k1
                      have e3 : (0 + (hr τ z p)) - 48 = mcd 0 := by
                        unfold mcd
                        rw [if_pos (by omega)]
                        omega
                      rw [e3]
                      exact k1 _ (by simp only; omega) (MP_f (p' := p + 1) (wr' := 0) (o' := o) (ln' := ln) h ⟨rfl, rfl, rfl, rfl, rfl, rfl⟩ rfl rfl h.2.2.2.2.1 h.2.2.2.2.2.1) (MF_u0 (by decide) (MF_u0 (by decide) (MF_rf a V))) rfl
                    · rw [pT_1 (by omega) (by omega)] at k1
                      have e3 : (0 + (hr τ z p)) - 48 = mcd (hr τ z p - 48) := by
                        unfold mcd
                        rw [if_pos (by omega)]
                        omega
                      rw [e3]
                      exact k1 _ (by simp only; omega) (MP_f (p' := p + 1) (wr' := 0) (o' := o) (ln' := ln) h ⟨rfl, rfl, rfl, rfl, rfl, rfl⟩ rfl rfl h.2.2.2.2.1 h.2.2.2.2.2.1) (MF_u0 (by decide) (MF_u0 (by decide) (MF_rf a V))) rfl
                  · refine y_ld (x := iv 1) rfl rfl (fun d => rfl) ?_
                    refine y_zeq rfl rfl rfl (by decide) (fun g20 => absurd g20 (by decide)) (fun g20 => ?_)
                    refine y_ld (x := iv ((0 + (hr τ z p)) - 48)) rfl rfl (fun d => rfl) ?_
                    refine y_zle rfl rfl rfl (by omega) (fun g21 => ?_) (fun g21 => ?_)
                    · refine y_ld (x := iv ((0 + (hr τ z p)) - 48)) rfl rfl (fun d => rfl) ?_
                      refine y_rI rfl (Or.inl rfl) ?_
                      by_cases h0 : hr τ z p = 48
                      · rw [pT_0 (by omega)] at k1
                        have e3 : (0 + (hr τ z p)) - 48 = mcd 0 := by
                          unfold mcd
                          rw [if_pos (by omega)]
                          omega
                        rw [e3]
                        exact k1 _ (by simp only; omega) (MP_f (p' := p + 1) (wr' := 0) (o' := o) (ln' := ln) h ⟨rfl, rfl, rfl, rfl, rfl, rfl⟩ rfl rfl h.2.2.2.2.1 h.2.2.2.2.2.1) (MF_u0 (by decide) (MF_u0 (by decide) (MF_rf a V))) rfl
                      · rw [pT_1 (by omega) (by omega)] at k1
                        have e3 : (0 + (hr τ z p)) - 48 = mcd (hr τ z p - 48) := by
                          unfold mcd
                          rw [if_pos (by omega)]
                          omega
                        rw [e3]
                        exact k1 _ (by simp only; omega) (MP_f (p' := p + 1) (wr' := 0) (o' := o) (ln' := ln) h ⟨rfl, rfl, rfl, rfl, rfl, rfl⟩ rfl rfl h.2.2.2.2.1 h.2.2.2.2.2.1) (MF_u0 (by decide) (MF_u0 (by decide) (MF_rf a V))) rfl
                    · refine y_bi rfl rfl (by decide) ?_
                      refine y_ld (x := iv ((0 + (hr τ z p)) - 48)) rfl rfl (fun d => rfl) ?_
                      refine y_mul (z := (10 * ((0 + (hr τ z p)) - 48))) rfl rfl rfl ?_
                      refine y_ld (x := .ref 170) rfl rfl (fun d => rfl) ?_
                      refine y_cV (as := [.ref 170]) rfl rfl rfl rfl rfl (md170 hM) ⟨rfl, (Nat.le_of_ble_eq_true rfl), (Nat.le_of_ble_eq_true rfl)⟩ (by decide) (ct_here hM (MP_f (p' := p + 1) (wr' := 0) (o' := o) (ln' := ln) h ⟨rfl, rfl, rfl, rfl, rfl, rfl⟩ rfl rfl h.2.2.2.2.1 h.2.2.2.2.2.1) (by omega) ?_)
                      have hq153 := hr_rg hT (p + 1)
                      refine y_nv ?_
                      refine y_add (z := ((10 * ((0 + (hr τ z p)) - 48)) + (hr τ z (p + 1)))) rfl rfl rfl ?_
                      refine y_bi rfl rfl (by decide) ?_
                      refine y_sub (z := (((10 * ((0 + (hr τ z p)) - 48)) + (hr τ z (p + 1))) - 48)) rfl rfl rfl ?_
                      refine y_st (lv' := [(2, iv (((10 * ((0 + (hr τ z p)) - 48)) + (hr τ z (p + 1))) - 48)), (3, iv 1), (1, iv (hr τ z p)), (0, .ref 170)]) rfl rfl (fun d => rfl) ?_
                      refine y_ld (x := .ref 170) rfl rfl (fun d => rfl) ?_
                      refine y_in rfl rfl (fun d => rfl) ?_
                      refine y_gI (i := 10) (e := ((p : Int) + 1)) rfl rfl rfl (md170 hM) rfl rfl ?_
                      refine y_ic rfl rfl ?_
                      refine y_add (z := (((p : Int) + 1) + 1)) rfl rfl rfl ?_
                      refine y_pI (i := 10) rfl rfl rfl (md170 hM) rfl rfl ?_
                      refine y_inc (z := 2) (lv' := [(3, iv 2), (2, iv (((10 * ((0 + (hr τ z p)) - 48)) + (hr τ z (p + 1))) - 48)), (1, iv (hr τ z p)), (0, .ref 170)]) rfl rfl rfl rfl rfl ?_
                      refine y_go rfl rfl ?_
                      refine y_ld (x := iv 2) rfl rfl (fun d => rfl) ?_
                      refine y_ic rfl rfl ?_
                      refine y_jge rfl rfl rfl (by decide) (fun g22 => ?_) (fun g22 => absurd g22 (by decide))
                      refine y_ld (x := iv (((10 * ((0 + (hr τ z p)) - 48)) + (hr τ z (p + 1))) - 48)) rfl rfl (fun d => rfl) ?_
                      refine y_rI rfl (Or.inl rfl) ?_
                      rw [pT_2 (by omega) (by omega)] at k1
                      have e3 : ((10 * ((0 + (hr τ z p)) - 48)) + (hr τ z (p + 1))) - 48 = mcd ((hr τ z p - 48) * 10 + (hr τ z (p + 1) - 48)) := by
                        unfold mcd
                        rw [if_pos (by omega)]
                        omega
                      rw [e3]
                      exact k1 _ (by simp only; omega) (MP_f (p' := p + 2) (wr' := 0) (o' := o) (ln' := ln) h ⟨rfl, rfl, rfl, rfl, rfl, rfl⟩ rfl rfl h.2.2.2.2.1 h.2.2.2.2.2.1) (MF_u0 (by decide) (MF_u0 (by decide) (MF_u0 (by decide) (MF_rf a V)))) rfl
              · refine y_ic rfl rfl ?_
                refine y_go rfl rfl ?_
                refine y_pZ (i := 12) rfl rfl rfl (md170 hM) rfl rfl (by decide) ?_
                refine y_ic rfl rfl ?_
                refine y_st (lv' := [(2, iv 0), (1, iv (hr τ z p)), (0, .ref 170)]) rfl rfl (fun d => rfl) ?_
                refine y_ic rfl rfl ?_
                refine y_st (lv' := [(3, iv 0), (2, iv 0), (1, iv (hr τ z p)), (0, .ref 170)]) rfl rfl (fun d => rfl) ?_
                refine y_ld (x := iv 0) rfl rfl (fun d => rfl) ?_
                refine y_ic rfl rfl ?_
                refine y_jge rfl rfl rfl (by decide) (fun g23 => absurd g23 (by decide)) (fun g23 => ?_)
                refine y_ld (x := .ref 170) rfl rfl (fun d => rfl) ?_
                refine y_gI (i := 12) (e := 1) rfl rfl rfl (md170 hM) rfl rfl ?_
                refine y_zne rfl rfl rfl (by decide) (fun g24 => ?_) (fun g24 => absurd g24 (by decide))
                refine y_ld (x := iv 0) rfl rfl (fun d => rfl) ?_
                refine y_rI rfl (Or.inl rfl) ?_
                rw [pT_x (by omega)] at k2
                exact k2 _ _ (show (-1 : Int) < 0 by decide) (MP_f (p' := p) (wr' := 1) (o' := o) (ln' := ln) h ⟨rfl, rfl, rfl, rfl, rfl, rfl⟩ h.2.1 rfl h.2.2.2.2.1 h.2.2.2.2.2.1) (MF_u0 (by decide) (MF_rf a V)) rfl (by decide)
            · refine y_ld (x := .ref 170) rfl rfl (fun d => rfl) ?_
              refine y_in rfl rfl (fun d => rfl) ?_
              refine y_gI (i := 10) (e := (p : Int)) rfl rfl rfl (md170 hM) rfl h.2.1 ?_
              refine y_ic rfl rfl ?_
              refine y_add (z := ((p : Int) + 1)) rfl rfl rfl ?_
              refine y_pI (i := 10) rfl rfl rfl (md170 hM) rfl rfl ?_
              refine y_ld (x := iv (hr τ z p)) rfl rfl (fun d => rfl) ?_
              refine y_bi rfl rfl (by decide) ?_
              refine y_jne rfl rfl rfl (by omega) (fun g25 => ?_) (fun g25 => ?_)
              · refine y_ld (x := iv (hr τ z p)) rfl rfl (fun d => rfl) ?_
                refine y_bi rfl rfl (by decide) ?_
                refine y_jne rfl rfl rfl (by omega) (fun g26 => ?_) (fun g26 => ?_)
                · refine y_bi rfl rfl (by decide) ?_
                  refine y_rI rfl (Or.inl rfl) ?_
                  rw [pT_n (by omega)] at k1
                  exact k1 _ (show (0 : Int) ≤ 102 by decide) (MP_f (p' := p + 1) (wr' := 0) (o' := o) (ln' := ln) h ⟨rfl, rfl, rfl, rfl, rfl, rfl⟩ rfl h.2.2.2.1 h.2.2.2.2.1 h.2.2.2.2.2.1) (MF_u0 (by decide) (MF_rf a V)) rfl
                · refine y_bi rfl rfl (by decide) ?_
                  refine y_go rfl rfl ?_
                  refine y_rI rfl (Or.inl rfl) ?_
                  rw [pT_h (by omega)] at k1
                  exact k1 _ (show (0 : Int) ≤ 101 by decide) (MP_f (p' := p + 1) (wr' := 0) (o' := o) (ln' := ln) h ⟨rfl, rfl, rfl, rfl, rfl, rfl⟩ rfl h.2.2.2.1 h.2.2.2.2.1 h.2.2.2.2.2.1) (MF_u0 (by decide) (MF_rf a V)) rfl
              · refine y_bi rfl rfl (by decide) ?_
                refine y_go rfl rfl ?_
                refine y_rI rfl (Or.inl rfl) ?_
                rw [pT_k (by omega)] at k1
                exact k1 _ (show (0 : Int) ≤ 100 by decide) (MP_f (p' := p + 1) (wr' := 0) (o' := o) (ln' := ln) h ⟨rfl, rfl, rfl, rfl, rfl, rfl⟩ rfl h.2.2.2.1 h.2.2.2.2.1 h.2.2.2.2.2.1) (MF_u0 (by decide) (MF_rf a V)) rfl
      · refine y_ld (x := .ref 170) rfl rfl (fun d => rfl) ?_
        refine y_cV (as := [.ref 170]) rfl rfl rfl rfl rfl (md170 hM) ⟨rfl, (Nat.le_of_ble_eq_true rfl), (Nat.le_of_ble_eq_true rfl)⟩ (by decide) (ct_cellHere hM hT (by omega) h (by omega) (hr_le (τ := τ) (z := z) (p := p) (by omega)) (fun V1 q1 q2 q3 q4 => ?_) (fun V1 x q1 q2 q3 q4 q5 => ?_))
        · refine y_nv ?_
          refine y_rI rfl (Or.inl rfl) ?_
          exact k1 V1 q1 q2 q3 q4
        · refine y_nv ?_
          refine y_rI rfl (Or.inl rfl) ?_
          exact k2 V1 x q1 q2 q3 q4 q5
set_option maxRecDepth 100000 in
set_option maxHeartbeats 4000000 in
theorem ct_term1 (hM : MdS S) {a z p : Nat} {τ : Nat → Int} {o ln : Int} {st : List Int} {g : Nat → Int} (h : MP V a z τ p 1 o ln st g) (k : K u w (some (iv 0)) S V) : y_R X 3 117 u w [.ref 170] S V K := by
  refine y_ent (lv' := [(0, .ref 170)]) (Nat.le_of_ble_eq_true rfl) rfl ?_
  refine y_ld (x := .ref 170) rfl rfl (fun d => rfl) ?_
  refine y_gI (i := 12) (e := 1) rfl rfl rfl (md170 hM) rfl h.2.2.2.1 ?_
  refine y_zeq rfl rfl rfl (by decide) (fun g1 => absurd g1 (by decide)) (fun g1 => ?_)
  refine y_ic rfl rfl ?_
  refine y_rI rfl (Or.inl rfl) ?_
  exact k
end
end
section
/-! E in the reference: how far, how many steps; the contracts of factor, every, some -/
theorem pS_ok {τ : Nat → Int} {z p q : Nat} {r : Option p_Tk} (hp : p ≤ z) (h : pS τ z p = (r, q)) : p ≤ q ∧ q ≤ z ∧ (∀ t, r = some t → p + 3 ≤ q ∧ 120 ≤ t.1 ∧ t.1 ≤ 122 ∧ tcd t.2.1 ∧ tcd t.2.2) := by
  have h1 := pT_le τ z p hp
  have h0 : hr τ z (pT τ z p).2 ≠ -1 → (pT τ z p).2 < z := hr_le
  have c1 := pT_cd τ z p
  unfold pS at h
  split at h
  · cases h
    exact ⟨h1.1, h1.2.1, fun t e => by cases e⟩
  · split at h
    · have h2 := pT_le τ z ((pT τ z p).2 + 1) (by have := h0 (by omega); omega)
      have c2 := pT_cd τ z ((pT τ z p).2 + 1)
      split at h
      · cases h
        exact ⟨by omega, by omega, fun t e => by cases e⟩
      · cases h
        refine ⟨by omega, by omega, fun t e => ?_⟩
        cases e
        have := h1.2.2 (by omega)
        have := h2.2.2 (by omega)
        exact ⟨by omega, by simp only; omega, by simp only; omega, c1 (by omega), c2 (by omega)⟩
    · cases h
      exact ⟨h1.1, h1.2.1, fun t e => by cases e⟩
theorem pX_ok {τ : Nat → Int} {z : Nat} : ∀ (n md o p : Nat) (acc : List p_Tk) (r : Option (List p_Tk)) (q : Nat), md ≤ 4 → p ≤ z → pX τ z n md o p acc = (r, q) → p ≤ q ∧ q ≤ z ∧ ∀ l, r = some l → l.length + p ≤ acc.length + q ∧ (md ≠ 2 → md ≤ 3 → p < q)
  | 0, md, o, p, acc, r, q, hm, hp, h => by
    unfold pX at h
    cases h
    exact ⟨Nat.le_refl _, hp, fun l e => by cases e⟩
  | n + 1, 0, o, p, acc, r, q, hm, hp, h => by
    have h0 : hr τ z p ≠ -1 → p < z := hr_le
    rw [pX_F] at h
    split at h
    · split at h
      · cases h
        exact ⟨Nat.le_refl _, hp, fun l e => by cases e⟩
      · have hlt := h0 (by omega)
        split at h
        · rename_i l1 q1 e1
          have k := pX_ok n 0 (o + 1) (p + 1) acc _ _ (by decide) (by omega) e1
          cases h
          refine ⟨by omega, k.2.1, fun l e => ?_⟩
          cases e
          have := (k.2.2 l1 rfl).1
          exact ⟨by simp; omega, fun _ _ => by omega⟩
        · rename_i q1 e1
          have k := pX_ok n 0 (o + 1) (p + 1) acc _ _ (by decide) (by omega) e1
          cases h
          exact ⟨by omega, k.2.1, fun l e => by cases e⟩
    · split at h
      · split at h
        · cases h
          exact ⟨Nat.le_refl _, hp, fun l e => by cases e⟩
        · have hlt := h0 (by omega)
          split at h
          · rename_i l1 q1 e1
            have k := pX_ok n 3 (o + 1) (p + 1) acc _ _ (by decide) (by omega) e1
            have h3 : hr τ z q1 ≠ -1 → q1 < z := hr_le
            split at h
            · cases h
              have := h3 (by omega)
              refine ⟨by omega, by omega, fun l e => ?_⟩
              cases e
              have := (k.2.2 l1 rfl).1
              exact ⟨by omega, fun _ _ => by omega⟩
            · cases h
              exact ⟨by omega, k.2.1, fun l e => by cases e⟩
          · rename_i q1 e1
            have k := pX_ok n 3 (o + 1) (p + 1) acc _ _ (by decide) (by omega) e1
            cases h
            exact ⟨by omega, k.2.1, fun l e => by cases e⟩
      · split at h
        · rename_i t q1 e1
          have k := pS_ok hp e1
          cases h
          have k3 := (k.2.2 t rfl).1
          refine ⟨k.1, k.2.1, fun l e => ?_⟩
          cases e
          exact ⟨by simp; omega, fun _ _ => by omega⟩
        · rename_i q1 e1
          have k := pS_ok hp e1
          cases h
          exact ⟨k.1, k.2.1, fun l e => by cases e⟩
  | n + 1, 1, o, p, acc, r, q, hm, hp, h => by
    rw [pX_T] at h
    split at h
    · rename_i l1 q1 e1
      have k := pX_ok n 0 o p acc _ _ (by decide) hp e1
      have k2 := pX_ok n 2 o q1 l1 _ _ (by decide) k.2.1 h
      have k3 := k.2.2 l1 rfl
      refine ⟨by omega, k2.2.1, fun l e => ?_⟩
      have k4 := k2.2.2 l e
      have := k3.2 (by decide) (by decide)
      exact ⟨by omega, fun _ _ => by omega⟩
    · rename_i q1 e1
      have k := pX_ok n 0 o p acc _ _ (by decide) hp e1
      cases h
      exact ⟨k.1, k.2.1, fun l e => by cases e⟩
  | n + 1, 2, o, p, acc, r, q, hm, hp, h => by
    have h0 : hr τ z p ≠ -1 → p < z := hr_le
    rw [pX_Tl] at h
    split at h
    · have hlt := h0 (by omega)
      split at h
      · rename_i l1 q1 e1
        have k := pX_ok n 0 o (p + 1) acc _ _ (by decide) (by omega) e1
        have k2 := pX_ok n 2 o q1 _ _ _ (by decide) k.2.1 h
        have k3 := k.2.2 l1 rfl
        refine ⟨by omega, k2.2.1, fun l e => ?_⟩
        have k4 := k2.2.2 l e
        have k5 := k4.1
        rw [List.length_append] at k5
        simp only [List.length_cons, List.length_nil] at k5
        exact ⟨by omega, fun q => absurd rfl q⟩
      · rename_i q1 e1
        have k := pX_ok n 0 o (p + 1) acc _ _ (by decide) (by omega) e1
        cases h
        exact ⟨by omega, k.2.1, fun l e => by cases e⟩
    · cases h
      exact ⟨Nat.le_refl _, hp, fun l e => by cases e; exact ⟨Nat.le_refl _, fun q => absurd rfl q⟩⟩
  | n + 1, 3, o, p, acc, r, q, hm, hp, h => by
    rw [pX_E] at h
    split at h
    · rename_i l1 q1 e1
      have k := pX_ok n 1 o p acc _ _ (by decide) hp e1
      have k2 := pX_ok n 4 o q1 l1 _ _ (by decide) k.2.1 h
      have k3 := k.2.2 l1 rfl
      refine ⟨by omega, k2.2.1, fun l e => ?_⟩
      have k4 := k2.2.2 l e
      have := k3.2 (by decide) (by decide)
      exact ⟨by omega, fun _ _ => by omega⟩
    · rename_i q1 e1
      have k := pX_ok n 1 o p acc _ _ (by decide) hp e1
      cases h
      exact ⟨k.1, k.2.1, fun l e => by cases e⟩
  | n + 1, 4, o, p, acc, r, q, hm, hp, h => by
    have h0 : hr τ z p ≠ -1 → p < z := hr_le
    rw [pX_El] at h
    split at h
    · have hlt := h0 (by omega)
      split at h
      · rename_i l1 q1 e1
        have k := pX_ok n 1 o (p + 1) acc _ _ (by decide) (by omega) e1
        have k2 := pX_ok n 4 o q1 _ _ _ (by decide) k.2.1 h
        have k3 := k.2.2 l1 rfl
        refine ⟨by omega, k2.2.1, fun l e => ?_⟩
        have k5 := (k2.2.2 l e).1
        rw [List.length_append] at k5
        simp only [List.length_cons, List.length_nil] at k5
        exact ⟨by omega, fun _ h => absurd h (by omega)⟩
      · rename_i q1 e1
        have k := pX_ok n 1 o (p + 1) acc _ _ (by decide) (by omega) e1
        cases h
        exact ⟨by omega, k.2.1, fun l e => by cases e⟩
    · cases h
      exact ⟨Nat.le_refl _, hp, fun l e => by cases e; exact ⟨Nat.le_refl _, fun _ h => absurd h (by omega)⟩⟩
  | n + 1, md + 5, o, p, acc, r, q, hm, hp, h => absurd hm (by omega)
theorem mk_bd {ln : Int} {g : Nat → Int} (hln : 0 ≤ ln ∧ ln ≤ 8) (hg : ∀ c, c < 8 → 0 ≤ g c ∧ g c ≤ 10) (t : Int) (b : Bool) (ht : t ≤ 115) : ∀ c, c < 8 → 0 ≤ mk ln g t b c ∧ mk ln g t b c ≤ 10 := by
  intro c hc
  unfold mk
  split
  · unfold v_uf
    split
    · have := hg (t - 108).toNat (by omega)
      split
      · omega
      · split <;> omega
    · exact hg c hc
  · exact hg c hc
/-- tokens whose terms are such -/
def tkO (l : List p_Tk) : Prop := ∀ t ∈ l, t.1 ≤ 122 → 120 ≤ t.1 ∧ tcd t.2.1 ∧ tcd t.2.2
theorem mkT_bd {ln : Int} (hln : 0 ≤ ln ∧ ln ≤ 8) : ∀ (l : List p_Tk) (g : Nat → Int), tkO l → (∀ c, c < 8 → 0 ≤ g c ∧ g c ≤ 10) → ∀ c, c < 8 → 0 ≤ mkT ln g l c ∧ mkT ln g l c ≤ 10
  | [], g, _, hg => hg
  | (c, a, b) :: r, g, ht, hg => by
    unfold mkT
    refine mkT_bd hln r _ (fun t h => ht t (List.mem_cons_of_mem _ h)) ?_
    split
    · rename_i h
      have := ht (c, a, b) List.mem_cons_self h
      have h1 : a ≤ 115 := by have := this.2.1; unfold tcd at this; simp only at this; omega
      have h2 : b ≤ 115 := by have := this.2.2; unfold tcd at this; simp only at this; omega
      exact mk_bd hln (mk_bd hln hg a true h1) b true h2
    · exact hg
theorem pX_tk {τ : Nat → Int} {z : Nat} : ∀ (n md o p : Nat) (acc l : List p_Tk) (q : Nat), md ≤ 4 → p ≤ z → tkO acc → pX τ z n md o p acc = (some l, q) → tkO l
  | 0, md, o, p, acc, l, q, hm, hp, ha, h => by
    unfold pX at h
    cases h
  | n + 1, 0, o, p, acc, l, q, hm, hp, ha, h => by
    have h0 : hr τ z p ≠ -1 → p < z := hr_le
    rw [pX_F] at h
    split at h
    · split at h
      · cases h
      · have hlt := h0 (by omega)
        split at h
        · rename_i l1 q1 e1
          have k := pX_tk n 0 (o + 1) (p + 1) acc _ _ (by decide) (by omega) ha e1
          cases h
          intro t ht
          rcases List.mem_append.mp ht with h2 | h2
          · exact k t h2
          · intro h3
            rw [List.mem_singleton.mp h2] at h3
            exact absurd h3 (by decide)
        · cases h
    · split at h
      · split at h
        · cases h
        · have hlt := h0 (by omega)
          split at h
          · rename_i l1 q1 e1
            have k := pX_tk n 3 (o + 1) (p + 1) acc _ _ (by decide) (by omega) ha e1
            split at h
            · cases h
              exact k
            · cases h
          · cases h
      · split at h
        · rename_i t1 q1 e1
          have k := pS_ok hp e1
          cases h
          intro t ht
          rcases List.mem_append.mp ht with h2 | h2
          · exact ha t h2
          · intro h3
            rw [List.mem_singleton.mp h2]
            have k3 := k.2.2 t1 rfl
            exact ⟨k3.2.1, k3.2.2.2⟩
        · cases h
  | n + 1, 1, o, p, acc, l, q, hm, hp, ha, h => by
    rw [pX_T] at h
    split at h
    · rename_i l1 q1 e1
      have k := pX_tk n 0 o p acc _ _ (by decide) hp ha e1
      exact pX_tk n 2 o q1 l1 _ _ (by decide) (pX_ok n 0 o p acc _ _ (by decide) hp e1).2.1 k h
    · cases h
  | n + 1, 2, o, p, acc, l, q, hm, hp, ha, h => by
    have h0 : hr τ z p ≠ -1 → p < z := hr_le
    rw [pX_Tl] at h
    split at h
    · have hlt := h0 (by omega)
      split at h
      · rename_i l1 q1 e1
        have k := pX_tk n 0 o (p + 1) acc _ _ (by decide) (by omega) ha e1
        refine pX_tk n 2 o q1 _ _ _ (by decide) (pX_ok n 0 o (p + 1) acc _ _ (by decide) (by omega) e1).2.1 ?_ h
        intro t ht
        rcases List.mem_append.mp ht with h2 | h2
        · exact k t h2
        · intro h3
          rw [List.mem_singleton.mp h2] at h3
          exact absurd h3 (by decide)
      · cases h
    · cases h
      exact ha
  | n + 1, 3, o, p, acc, l, q, hm, hp, ha, h => by
    rw [pX_E] at h
    split at h
    · rename_i l1 q1 e1
      have k := pX_tk n 1 o p acc _ _ (by decide) hp ha e1
      exact pX_tk n 4 o q1 l1 _ _ (by decide) (pX_ok n 1 o p acc _ _ (by decide) hp e1).2.1 k h
    · cases h
  | n + 1, 4, o, p, acc, l, q, hm, hp, ha, h => by
    have h0 : hr τ z p ≠ -1 → p < z := hr_le
    rw [pX_El] at h
    split at h
    · have hlt := h0 (by omega)
      split at h
      · rename_i l1 q1 e1
        have k := pX_tk n 1 o (p + 1) acc _ _ (by decide) (by omega) ha e1
        refine pX_tk n 4 o q1 _ _ _ (by decide) (pX_ok n 1 o (p + 1) acc _ _ (by decide) (by omega) e1).2.1 ?_ h
        intro t ht
        rcases List.mem_append.mp ht with h2 | h2
        · exact k t h2
        · intro h3
          rw [List.mem_singleton.mp h2] at h3
          exact absurd h3 (by decide)
      · cases h
    · cases h
      exact ha
  | n + 1, md + 5, o, p, acc, l, q, hm, hp, ha, h => absurd hm (by omega)
/-- what a reading method of the reference does, by pX: mode, the method, its depth of calls, the fuel it wants -/
def qX (X : Nat → List Int32) (S : m_H) (a z : Nat) (τ : Nat → Int) (ln : Int) (st0 : List Int) (g0 : Nat → Int) (md j lev c n : Nat) : Prop :=
  ∀ (V : v_V) (K : v_K) (u w p o D : Nat) (acc : List p_Tk), o ≤ 5 → p ≤ z → 5 * (z - p) + c ≤ n → st0.length + acc.length ≤ p + 2 → 3 * (6 - o) + lev ≤ D → tkO acc →
    MP V a z τ p 0 o ln (st0 ++ encT acc) (mkT ln g0 acc) →
    (∀ l q V', pX τ z n md o p acc = (some l, q) → MP V' a z τ q 0 o ln (st0 ++ encT l) (mkT ln g0 l) → MF a V V' → V' 176 = V 176 → K u w none S V') →
    (∀ q V' st' g', pX τ z n md o p acc = (none, q) → MP V' a z τ q 1 o ln st' g' → MF a V V' → V' 176 = V 176 → K u w none S V') → y_R X D j u w [.ref 170] S V K
end
