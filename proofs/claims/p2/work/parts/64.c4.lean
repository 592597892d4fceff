/-! hold, image, undo of class and reference -/
def v_oI (a b : Int) : Int := ((a.toNat ||| b.toNat : Nat) : Int)
theorem v_oI_lt {a b : Int} (ha : 0 ≤ a ∧ a ≤ 65535) (hb : 0 ≤ b ∧ b ≤ 65535) : 0 ≤ v_oI a b ∧ v_oI a b ≤ 65535 := by
  have h : a.toNat ||| b.toNat < 2 ^ 16 := Nat.or_lt_two_pow (by omega) (by omega)
  unfold v_oI
  omega
theorem v_orI {a b : Int} (ha : 0 ≤ a ∧ a ≤ 65535) (hb : 0 ≤ b ∧ b ≤ 65535) : Int32.ofInt a ||| Int32.ofInt b = Int32.ofInt (v_oI a b) := v_or ha.1 hb.1
section
variable {X : Nat → List Int32} {u w : Nat} {S : m_H} {V : v_V} {K : v_K}
def z_bc (y : Int32) : Int32 := (((((((y - (((y.toUInt32 >>> ((Int32.ofInt 1).toUInt32 &&& Int32.toUInt32 31)).toInt32) &&& (Int32.ofInt 1431655765))) &&& (Int32.ofInt 858993459)) + ((((y - (((y.toUInt32 >>> ((Int32.ofInt 1).toUInt32 &&& Int32.toUInt32 31)).toInt32) &&& (Int32.ofInt 1431655765))).toUInt32 >>> ((Int32.ofInt 2).toUInt32 &&& Int32.toUInt32 31)).toInt32) &&& (Int32.ofInt 858993459))) + (((((y - (((y.toUInt32 >>> ((Int32.ofInt 1).toUInt32 &&& Int32.toUInt32 31)).toInt32) &&& (Int32.ofInt 1431655765))) &&& (Int32.ofInt 858993459)) + ((((y - (((y.toUInt32 >>> ((Int32.ofInt 1).toUInt32 &&& Int32.toUInt32 31)).toInt32) &&& (Int32.ofInt 1431655765))).toUInt32 >>> ((Int32.ofInt 2).toUInt32 &&& Int32.toUInt32 31)).toInt32) &&& (Int32.ofInt 858993459))).toUInt32 >>> ((Int32.ofInt 4).toUInt32 &&& Int32.toUInt32 31)).toInt32)) &&& (Int32.ofInt 252645135)) + (((((((y - (((y.toUInt32 >>> ((Int32.ofInt 1).toUInt32 &&& Int32.toUInt32 31)).toInt32) &&& (Int32.ofInt 1431655765))) &&& (Int32.ofInt 858993459)) + ((((y - (((y.toUInt32 >>> ((Int32.ofInt 1).toUInt32 &&& Int32.toUInt32 31)).toInt32) &&& (Int32.ofInt 1431655765))).toUInt32 >>> ((Int32.ofInt 2).toUInt32 &&& Int32.toUInt32 31)).toInt32) &&& (Int32.ofInt 858993459))) + (((((y - (((y.toUInt32 >>> ((Int32.ofInt 1).toUInt32 &&& Int32.toUInt32 31)).toInt32) &&& (Int32.ofInt 1431655765))) &&& (Int32.ofInt 858993459)) + ((((y - (((y.toUInt32 >>> ((Int32.ofInt 1).toUInt32 &&& Int32.toUInt32 31)).toInt32) &&& (Int32.ofInt 1431655765))).toUInt32 >>> ((Int32.ofInt 2).toUInt32 &&& Int32.toUInt32 31)).toInt32) &&& (Int32.ofInt 858993459))).toUInt32 >>> ((Int32.ofInt 4).toUInt32 &&& Int32.toUInt32 31)).toInt32)) &&& (Int32.ofInt 252645135)).toUInt32 >>> ((Int32.ofInt 8).toUInt32 &&& Int32.toUInt32 31)).toInt32)) + ((((((((y - (((y.toUInt32 >>> ((Int32.ofInt 1).toUInt32 &&& Int32.toUInt32 31)).toInt32) &&& (Int32.ofInt 1431655765))) &&& (Int32.ofInt 858993459)) + ((((y - (((y.toUInt32 >>> ((Int32.ofInt 1).toUInt32 &&& Int32.toUInt32 31)).toInt32) &&& (Int32.ofInt 1431655765))).toUInt32 >>> ((Int32.ofInt 2).toUInt32 &&& Int32.toUInt32 31)).toInt32) &&& (Int32.ofInt 858993459))) + (((((y - (((y.toUInt32 >>> ((Int32.ofInt 1).toUInt32 &&& Int32.toUInt32 31)).toInt32) &&& (Int32.ofInt 1431655765))) &&& (Int32.ofInt 858993459)) + ((((y - (((y.toUInt32 >>> ((Int32.ofInt 1).toUInt32 &&& Int32.toUInt32 31)).toInt32) &&& (Int32.ofInt 1431655765))).toUInt32 >>> ((Int32.ofInt 2).toUInt32 &&& Int32.toUInt32 31)).toInt32) &&& (Int32.ofInt 858993459))).toUInt32 >>> ((Int32.ofInt 4).toUInt32 &&& Int32.toUInt32 31)).toInt32)) &&& (Int32.ofInt 252645135)) + (((((((y - (((y.toUInt32 >>> ((Int32.ofInt 1).toUInt32 &&& Int32.toUInt32 31)).toInt32) &&& (Int32.ofInt 1431655765))) &&& (Int32.ofInt 858993459)) + ((((y - (((y.toUInt32 >>> ((Int32.ofInt 1).toUInt32 &&& Int32.toUInt32 31)).toInt32) &&& (Int32.ofInt 1431655765))).toUInt32 >>> ((Int32.ofInt 2).toUInt32 &&& Int32.toUInt32 31)).toInt32) &&& (Int32.ofInt 858993459))) + (((((y - (((y.toUInt32 >>> ((Int32.ofInt 1).toUInt32 &&& Int32.toUInt32 31)).toInt32) &&& (Int32.ofInt 1431655765))) &&& (Int32.ofInt 858993459)) + ((((y - (((y.toUInt32 >>> ((Int32.ofInt 1).toUInt32 &&& Int32.toUInt32 31)).toInt32) &&& (Int32.ofInt 1431655765))).toUInt32 >>> ((Int32.ofInt 2).toUInt32 &&& Int32.toUInt32 31)).toInt32) &&& (Int32.ofInt 858993459))).toUInt32 >>> ((Int32.ofInt 4).toUInt32 &&& Int32.toUInt32 31)).toInt32)) &&& (Int32.ofInt 252645135)).toUInt32 >>> ((Int32.ofInt 8).toUInt32 &&& Int32.toUInt32 31)).toInt32)).toUInt32 >>> ((Int32.ofInt 16).toUInt32 &&& Int32.toUInt32 31)).toInt32)) &&& (Int32.ofInt 63)
set_option maxRecDepth 100000 in
set_option maxHeartbeats 4000000 in
theorem cc_bitCount {y : Int32} (k : K u w (some (.int (z_bc y))) S V) : y_R X 1 179 u w [.int y] S V K := by
  refine y_ent (lv' := [(0, .int y)]) (Nat.le_of_ble_eq_true rfl) rfl ?_
  refine y_ld (x := .int y) rfl rfl (fun d => rfl) ?_
  refine y_ld (x := .int y) rfl rfl (fun d => rfl) ?_
  refine y_ic rfl rfl ?_
  refine y_in rfl rfl (fun d => rfl) ?_
  refine y_ld (x := iv 1431655765) rfl rfl (fun d => rfl) ?_
  refine y_in rfl rfl (fun d => rfl) ?_
  refine y_in rfl rfl (fun d => rfl) ?_
  refine y_st (lv' := [(0, .int (y - (((y.toUInt32 >>> ((Int32.ofInt 1).toUInt32 &&& Int32.toUInt32 31)).toInt32) &&& (Int32.ofInt 1431655765))))]) rfl rfl (fun d => rfl) ?_
  refine y_ld (x := .int (y - (((y.toUInt32 >>> ((Int32.ofInt 1).toUInt32 &&& Int32.toUInt32 31)).toInt32) &&& (Int32.ofInt 1431655765)))) rfl rfl (fun d => rfl) ?_
  refine y_ld (x := iv 858993459) rfl rfl (fun d => rfl) ?_
  refine y_in rfl rfl (fun d => rfl) ?_
  refine y_ld (x := .int (y - (((y.toUInt32 >>> ((Int32.ofInt 1).toUInt32 &&& Int32.toUInt32 31)).toInt32) &&& (Int32.ofInt 1431655765)))) rfl rfl (fun d => rfl) ?_
  refine y_ic rfl rfl ?_
  refine y_in rfl rfl (fun d => rfl) ?_
  refine y_ld (x := iv 858993459) rfl rfl (fun d => rfl) ?_
  refine y_in rfl rfl (fun d => rfl) ?_
  refine y_in rfl rfl (fun d => rfl) ?_
  refine y_st (lv' := [(0, .int (((y - (((y.toUInt32 >>> ((Int32.ofInt 1).toUInt32 &&& Int32.toUInt32 31)).toInt32) &&& (Int32.ofInt 1431655765))) &&& (Int32.ofInt 858993459)) + ((((y - (((y.toUInt32 >>> ((Int32.ofInt 1).toUInt32 &&& Int32.toUInt32 31)).toInt32) &&& (Int32.ofInt 1431655765))).toUInt32 >>> ((Int32.ofInt 2).toUInt32 &&& Int32.toUInt32 31)).toInt32) &&& (Int32.ofInt 858993459))))]) rfl rfl (fun d => rfl) ?_
  refine y_ld (x := .int (((y - (((y.toUInt32 >>> ((Int32.ofInt 1).toUInt32 &&& Int32.toUInt32 31)).toInt32) &&& (Int32.ofInt 1431655765))) &&& (Int32.ofInt 858993459)) + ((((y - (((y.toUInt32 >>> ((Int32.ofInt 1).toUInt32 &&& Int32.toUInt32 31)).toInt32) &&& (Int32.ofInt 1431655765))).toUInt32 >>> ((Int32.ofInt 2).toUInt32 &&& Int32.toUInt32 31)).toInt32) &&& (Int32.ofInt 858993459)))) rfl rfl (fun d => rfl) ?_
  refine y_ld (x := .int (((y - (((y.toUInt32 >>> ((Int32.ofInt 1).toUInt32 &&& Int32.toUInt32 31)).toInt32) &&& (Int32.ofInt 1431655765))) &&& (Int32.ofInt 858993459)) + ((((y - (((y.toUInt32 >>> ((Int32.ofInt 1).toUInt32 &&& Int32.toUInt32 31)).toInt32) &&& (Int32.ofInt 1431655765))).toUInt32 >>> ((Int32.ofInt 2).toUInt32 &&& Int32.toUInt32 31)).toInt32) &&& (Int32.ofInt 858993459)))) rfl rfl (fun d => rfl) ?_
  refine y_ic rfl rfl ?_
  refine y_in rfl rfl (fun d => rfl) ?_
  refine y_in rfl rfl (fun d => rfl) ?_
  refine y_ld (x := iv 252645135) rfl rfl (fun d => rfl) ?_
  refine y_in rfl rfl (fun d => rfl) ?_
  refine y_st (lv' := [(0, .int (((((y - (((y.toUInt32 >>> ((Int32.ofInt 1).toUInt32 &&& Int32.toUInt32 31)).toInt32) &&& (Int32.ofInt 1431655765))) &&& (Int32.ofInt 858993459)) + ((((y - (((y.toUInt32 >>> ((Int32.ofInt 1).toUInt32 &&& Int32.toUInt32 31)).toInt32) &&& (Int32.ofInt 1431655765))).toUInt32 >>> ((Int32.ofInt 2).toUInt32 &&& Int32.toUInt32 31)).toInt32) &&& (Int32.ofInt 858993459))) + (((((y - (((y.toUInt32 >>> ((Int32.ofInt 1).toUInt32 &&& Int32.toUInt32 31)).toInt32) &&& (Int32.ofInt 1431655765))) &&& (Int32.ofInt 858993459)) + ((((y - (((y.toUInt32 >>> ((Int32.ofInt 1).toUInt32 &&& Int32.toUInt32 31)).toInt32) &&& (Int32.ofInt 1431655765))).toUInt32 >>> ((Int32.ofInt 2).toUInt32 &&& Int32.toUInt32 31)).toInt32) &&& (Int32.ofInt 858993459))).toUInt32 >>> ((Int32.ofInt 4).toUInt32 &&& Int32.toUInt32 31)).toInt32)) &&& (Int32.ofInt 252645135)))]) rfl rfl (fun d => rfl) ?_
  refine y_ld (x := .int (((((y - (((y.toUInt32 >>> ((Int32.ofInt 1).toUInt32 &&& Int32.toUInt32 31)).toInt32) &&& (Int32.ofInt 1431655765))) &&& (Int32.ofInt 858993459)) + ((((y - (((y.toUInt32 >>> ((Int32.ofInt 1).toUInt32 &&& Int32.toUInt32 31)).toInt32) &&& (Int32.ofInt 1431655765))).toUInt32 >>> ((Int32.ofInt 2).toUInt32 &&& Int32.toUInt32 31)).toInt32) &&& (Int32.ofInt 858993459))) + (((((y - (((y.toUInt32 >>> ((Int32.ofInt 1).toUInt32 &&& Int32.toUInt32 31)).toInt32) &&& (Int32.ofInt 1431655765))) &&& (Int32.ofInt 858993459)) + ((((y - (((y.toUInt32 >>> ((Int32.ofInt 1).toUInt32 &&& Int32.toUInt32 31)).toInt32) &&& (Int32.ofInt 1431655765))).toUInt32 >>> ((Int32.ofInt 2).toUInt32 &&& Int32.toUInt32 31)).toInt32) &&& (Int32.ofInt 858993459))).toUInt32 >>> ((Int32.ofInt 4).toUInt32 &&& Int32.toUInt32 31)).toInt32)) &&& (Int32.ofInt 252645135))) rfl rfl (fun d => rfl) ?_
  refine y_ld (x := .int (((((y - (((y.toUInt32 >>> ((Int32.ofInt 1).toUInt32 &&& Int32.toUInt32 31)).toInt32) &&& (Int32.ofInt 1431655765))) &&& (Int32.ofInt 858993459)) + ((((y - (((y.toUInt32 >>> ((Int32.ofInt 1).toUInt32 &&& Int32.toUInt32 31)).toInt32) &&& (Int32.ofInt 1431655765))).toUInt32 >>> ((Int32.ofInt 2).toUInt32 &&& Int32.toUInt32 31)).toInt32) &&& (Int32.ofInt 858993459))) + (((((y - (((y.toUInt32 >>> ((Int32.ofInt 1).toUInt32 &&& Int32.toUInt32 31)).toInt32) &&& (Int32.ofInt 1431655765))) &&& (Int32.ofInt 858993459)) + ((((y - (((y.toUInt32 >>> ((Int32.ofInt 1).toUInt32 &&& Int32.toUInt32 31)).toInt32) &&& (Int32.ofInt 1431655765))).toUInt32 >>> ((Int32.ofInt 2).toUInt32 &&& Int32.toUInt32 31)).toInt32) &&& (Int32.ofInt 858993459))).toUInt32 >>> ((Int32.ofInt 4).toUInt32 &&& Int32.toUInt32 31)).toInt32)) &&& (Int32.ofInt 252645135))) rfl rfl (fun d => rfl) ?_
  refine y_bi rfl rfl (by decide) ?_
  refine y_in rfl rfl (fun d => rfl) ?_
  refine y_in rfl rfl (fun d => rfl) ?_
  refine y_st (lv' := [(0, .int ((((((y - (((y.toUInt32 >>> ((Int32.ofInt 1).toUInt32 &&& Int32.toUInt32 31)).toInt32) &&& (Int32.ofInt 1431655765))) &&& (Int32.ofInt 858993459)) + ((((y - (((y.toUInt32 >>> ((Int32.ofInt 1).toUInt32 &&& Int32.toUInt32 31)).toInt32) &&& (Int32.ofInt 1431655765))).toUInt32 >>> ((Int32.ofInt 2).toUInt32 &&& Int32.toUInt32 31)).toInt32) &&& (Int32.ofInt 858993459))) + (((((y - (((y.toUInt32 >>> ((Int32.ofInt 1).toUInt32 &&& Int32.toUInt32 31)).toInt32) &&& (Int32.ofInt 1431655765))) &&& (Int32.ofInt 858993459)) + ((((y - (((y.toUInt32 >>> ((Int32.ofInt 1).toUInt32 &&& Int32.toUInt32 31)).toInt32) &&& (Int32.ofInt 1431655765))).toUInt32 >>> ((Int32.ofInt 2).toUInt32 &&& Int32.toUInt32 31)).toInt32) &&& (Int32.ofInt 858993459))).toUInt32 >>> ((Int32.ofInt 4).toUInt32 &&& Int32.toUInt32 31)).toInt32)) &&& (Int32.ofInt 252645135)) + (((((((y - (((y.toUInt32 >>> ((Int32.ofInt 1).toUInt32 &&& Int32.toUInt32 31)).toInt32) &&& (Int32.ofInt 1431655765))) &&& (Int32.ofInt 858993459)) + ((((y - (((y.toUInt32 >>> ((Int32.ofInt 1).toUInt32 &&& Int32.toUInt32 31)).toInt32) &&& (Int32.ofInt 1431655765))).toUInt32 >>> ((Int32.ofInt 2).toUInt32 &&& Int32.toUInt32 31)).toInt32) &&& (Int32.ofInt 858993459))) + (((((y - (((y.toUInt32 >>> ((Int32.ofInt 1).toUInt32 &&& Int32.toUInt32 31)).toInt32) &&& (Int32.ofInt 1431655765))) &&& (Int32.ofInt 858993459)) + ((((y - (((y.toUInt32 >>> ((Int32.ofInt 1).toUInt32 &&& Int32.toUInt32 31)).toInt32) &&& (Int32.ofInt 1431655765))).toUInt32 >>> ((Int32.ofInt 2).toUInt32 &&& Int32.toUInt32 31)).toInt32) &&& (Int32.ofInt 858993459))).toUInt32 >>> ((Int32.ofInt 4).toUInt32 &&& Int32.toUInt32 31)).toInt32)) &&& (Int32.ofInt 252645135)).toUInt32 >>> ((Int32.ofInt 8).toUInt32 &&& Int32.toUInt32 31)).toInt32)))]) rfl rfl (fun d => rfl) ?_
  refine y_ld (x := .int ((((((y - (((y.toUInt32 >>> ((Int32.ofInt 1).toUInt32 &&& Int32.toUInt32 31)).toInt32) &&& (Int32.ofInt 1431655765))) &&& (Int32.ofInt 858993459)) + ((((y - (((y.toUInt32 >>> ((Int32.ofInt 1).toUInt32 &&& Int32.toUInt32 31)).toInt32) &&& (Int32.ofInt 1431655765))).toUInt32 >>> ((Int32.ofInt 2).toUInt32 &&& Int32.toUInt32 31)).toInt32) &&& (Int32.ofInt 858993459))) + (((((y - (((y.toUInt32 >>> ((Int32.ofInt 1).toUInt32 &&& Int32.toUInt32 31)).toInt32) &&& (Int32.ofInt 1431655765))) &&& (Int32.ofInt 858993459)) + ((((y - (((y.toUInt32 >>> ((Int32.ofInt 1).toUInt32 &&& Int32.toUInt32 31)).toInt32) &&& (Int32.ofInt 1431655765))).toUInt32 >>> ((Int32.ofInt 2).toUInt32 &&& Int32.toUInt32 31)).toInt32) &&& (Int32.ofInt 858993459))).toUInt32 >>> ((Int32.ofInt 4).toUInt32 &&& Int32.toUInt32 31)).toInt32)) &&& (Int32.ofInt 252645135)) + (((((((y - (((y.toUInt32 >>> ((Int32.ofInt 1).toUInt32 &&& Int32.toUInt32 31)).toInt32) &&& (Int32.ofInt 1431655765))) &&& (Int32.ofInt 858993459)) + ((((y - (((y.toUInt32 >>> ((Int32.ofInt 1).toUInt32 &&& Int32.toUInt32 31)).toInt32) &&& (Int32.ofInt 1431655765))).toUInt32 >>> ((Int32.ofInt 2).toUInt32 &&& Int32.toUInt32 31)).toInt32) &&& (Int32.ofInt 858993459))) + (((((y - (((y.toUInt32 >>> ((Int32.ofInt 1).toUInt32 &&& Int32.toUInt32 31)).toInt32) &&& (Int32.ofInt 1431655765))) &&& (Int32.ofInt 858993459)) + ((((y - (((y.toUInt32 >>> ((Int32.ofInt 1).toUInt32 &&& Int32.toUInt32 31)).toInt32) &&& (Int32.ofInt 1431655765))).toUInt32 >>> ((Int32.ofInt 2).toUInt32 &&& Int32.toUInt32 31)).toInt32) &&& (Int32.ofInt 858993459))).toUInt32 >>> ((Int32.ofInt 4).toUInt32 &&& Int32.toUInt32 31)).toInt32)) &&& (Int32.ofInt 252645135)).toUInt32 >>> ((Int32.ofInt 8).toUInt32 &&& Int32.toUInt32 31)).toInt32))) rfl rfl (fun d => rfl) ?_
  refine y_ld (x := .int ((((((y - (((y.toUInt32 >>> ((Int32.ofInt 1).toUInt32 &&& Int32.toUInt32 31)).toInt32) &&& (Int32.ofInt 1431655765))) &&& (Int32.ofInt 858993459)) + ((((y - (((y.toUInt32 >>> ((Int32.ofInt 1).toUInt32 &&& Int32.toUInt32 31)).toInt32) &&& (Int32.ofInt 1431655765))).toUInt32 >>> ((Int32.ofInt 2).toUInt32 &&& Int32.toUInt32 31)).toInt32) &&& (Int32.ofInt 858993459))) + (((((y - (((y.toUInt32 >>> ((Int32.ofInt 1).toUInt32 &&& Int32.toUInt32 31)).toInt32) &&& (Int32.ofInt 1431655765))) &&& (Int32.ofInt 858993459)) + ((((y - (((y.toUInt32 >>> ((Int32.ofInt 1).toUInt32 &&& Int32.toUInt32 31)).toInt32) &&& (Int32.ofInt 1431655765))).toUInt32 >>> ((Int32.ofInt 2).toUInt32 &&& Int32.toUInt32 31)).toInt32) &&& (Int32.ofInt 858993459))).toUInt32 >>> ((Int32.ofInt 4).toUInt32 &&& Int32.toUInt32 31)).toInt32)) &&& (Int32.ofInt 252645135)) + (((((((y - (((y.toUInt32 >>> ((Int32.ofInt 1).toUInt32 &&& Int32.toUInt32 31)).toInt32) &&& (Int32.ofInt 1431655765))) &&& (Int32.ofInt 858993459)) + ((((y - (((y.toUInt32 >>> ((Int32.ofInt 1).toUInt32 &&& Int32.toUInt32 31)).toInt32) &&& (Int32.ofInt 1431655765))).toUInt32 >>> ((Int32.ofInt 2).toUInt32 &&& Int32.toUInt32 31)).toInt32) &&& (Int32.ofInt 858993459))) + (((((y - (((y.toUInt32 >>> ((Int32.ofInt 1).toUInt32 &&& Int32.toUInt32 31)).toInt32) &&& (Int32.ofInt 1431655765))) &&& (Int32.ofInt 858993459)) + ((((y - (((y.toUInt32 >>> ((Int32.ofInt 1).toUInt32 &&& Int32.toUInt32 31)).toInt32) &&& (Int32.ofInt 1431655765))).toUInt32 >>> ((Int32.ofInt 2).toUInt32 &&& Int32.toUInt32 31)).toInt32) &&& (Int32.ofInt 858993459))).toUInt32 >>> ((Int32.ofInt 4).toUInt32 &&& Int32.toUInt32 31)).toInt32)) &&& (Int32.ofInt 252645135)).toUInt32 >>> ((Int32.ofInt 8).toUInt32 &&& Int32.toUInt32 31)).toInt32))) rfl rfl (fun d => rfl) ?_
  refine y_bi rfl rfl (by decide) ?_
  refine y_in rfl rfl (fun d => rfl) ?_
  refine y_in rfl rfl (fun d => rfl) ?_
  refine y_st (lv' := [(0, .int (((((((y - (((y.toUInt32 >>> ((Int32.ofInt 1).toUInt32 &&& Int32.toUInt32 31)).toInt32) &&& (Int32.ofInt 1431655765))) &&& (Int32.ofInt 858993459)) + ((((y - (((y.toUInt32 >>> ((Int32.ofInt 1).toUInt32 &&& Int32.toUInt32 31)).toInt32) &&& (Int32.ofInt 1431655765))).toUInt32 >>> ((Int32.ofInt 2).toUInt32 &&& Int32.toUInt32 31)).toInt32) &&& (Int32.ofInt 858993459))) + (((((y - (((y.toUInt32 >>> ((Int32.ofInt 1).toUInt32 &&& Int32.toUInt32 31)).toInt32) &&& (Int32.ofInt 1431655765))) &&& (Int32.ofInt 858993459)) + ((((y - (((y.toUInt32 >>> ((Int32.ofInt 1).toUInt32 &&& Int32.toUInt32 31)).toInt32) &&& (Int32.ofInt 1431655765))).toUInt32 >>> ((Int32.ofInt 2).toUInt32 &&& Int32.toUInt32 31)).toInt32) &&& (Int32.ofInt 858993459))).toUInt32 >>> ((Int32.ofInt 4).toUInt32 &&& Int32.toUInt32 31)).toInt32)) &&& (Int32.ofInt 252645135)) + (((((((y - (((y.toUInt32 >>> ((Int32.ofInt 1).toUInt32 &&& Int32.toUInt32 31)).toInt32) &&& (Int32.ofInt 1431655765))) &&& (Int32.ofInt 858993459)) + ((((y - (((y.toUInt32 >>> ((Int32.ofInt 1).toUInt32 &&& Int32.toUInt32 31)).toInt32) &&& (Int32.ofInt 1431655765))).toUInt32 >>> ((Int32.ofInt 2).toUInt32 &&& Int32.toUInt32 31)).toInt32) &&& (Int32.ofInt 858993459))) + (((((y - (((y.toUInt32 >>> ((Int32.ofInt 1).toUInt32 &&& Int32.toUInt32 31)).toInt32) &&& (Int32.ofInt 1431655765))) &&& (Int32.ofInt 858993459)) + ((((y - (((y.toUInt32 >>> ((Int32.ofInt 1).toUInt32 &&& Int32.toUInt32 31)).toInt32) &&& (Int32.ofInt 1431655765))).toUInt32 >>> ((Int32.ofInt 2).toUInt32 &&& Int32.toUInt32 31)).toInt32) &&& (Int32.ofInt 858993459))).toUInt32 >>> ((Int32.ofInt 4).toUInt32 &&& Int32.toUInt32 31)).toInt32)) &&& (Int32.ofInt 252645135)).toUInt32 >>> ((Int32.ofInt 8).toUInt32 &&& Int32.toUInt32 31)).toInt32)) + ((((((((y - (((y.toUInt32 >>> ((Int32.ofInt 1).toUInt32 &&& Int32.toUInt32 31)).toInt32) &&& (Int32.ofInt 1431655765))) &&& (Int32.ofInt 858993459)) + ((((y - (((y.toUInt32 >>> ((Int32.ofInt 1).toUInt32 &&& Int32.toUInt32 31)).toInt32) &&& (Int32.ofInt 1431655765))).toUInt32 >>> ((Int32.ofInt 2).toUInt32 &&& Int32.toUInt32 31)).toInt32) &&& (Int32.ofInt 858993459))) + (((((y - (((y.toUInt32 >>> ((Int32.ofInt 1).toUInt32 &&& Int32.toUInt32 31)).toInt32) &&& (Int32.ofInt 1431655765))) &&& (Int32.ofInt 858993459)) + ((((y - (((y.toUInt32 >>> ((Int32.ofInt 1).toUInt32 &&& Int32.toUInt32 31)).toInt32) &&& (Int32.ofInt 1431655765))).toUInt32 >>> ((Int32.ofInt 2).toUInt32 &&& Int32.toUInt32 31)).toInt32) &&& (Int32.ofInt 858993459))).toUInt32 >>> ((Int32.ofInt 4).toUInt32 &&& Int32.toUInt32 31)).toInt32)) &&& (Int32.ofInt 252645135)) + (((((((y - (((y.toUInt32 >>> ((Int32.ofInt 1).toUInt32 &&& Int32.toUInt32 31)).toInt32) &&& (Int32.ofInt 1431655765))) &&& (Int32.ofInt 858993459)) + ((((y - (((y.toUInt32 >>> ((Int32.ofInt 1).toUInt32 &&& Int32.toUInt32 31)).toInt32) &&& (Int32.ofInt 1431655765))).toUInt32 >>> ((Int32.ofInt 2).toUInt32 &&& Int32.toUInt32 31)).toInt32) &&& (Int32.ofInt 858993459))) + (((((y - (((y.toUInt32 >>> ((Int32.ofInt 1).toUInt32 &&& Int32.toUInt32 31)).toInt32) &&& (Int32.ofInt 1431655765))) &&& (Int32.ofInt 858993459)) + ((((y - (((y.toUInt32 >>> ((Int32.ofInt 1).toUInt32 &&& Int32.toUInt32 31)).toInt32) &&& (Int32.ofInt 1431655765))).toUInt32 >>> ((Int32.ofInt 2).toUInt32 &&& Int32.toUInt32 31)).toInt32) &&& (Int32.ofInt 858993459))).toUInt32 >>> ((Int32.ofInt 4).toUInt32 &&& Int32.toUInt32 31)).toInt32)) &&& (Int32.ofInt 252645135)).toUInt32 >>> ((Int32.ofInt 8).toUInt32 &&& Int32.toUInt32 31)).toInt32)).toUInt32 >>> ((Int32.ofInt 16).toUInt32 &&& Int32.toUInt32 31)).toInt32)))]) rfl rfl (fun d => rfl) ?_
  refine y_ld (x := .int (((((((y - (((y.toUInt32 >>> ((Int32.ofInt 1).toUInt32 &&& Int32.toUInt32 31)).toInt32) &&& (Int32.ofInt 1431655765))) &&& (Int32.ofInt 858993459)) + ((((y - (((y.toUInt32 >>> ((Int32.ofInt 1).toUInt32 &&& Int32.toUInt32 31)).toInt32) &&& (Int32.ofInt 1431655765))).toUInt32 >>> ((Int32.ofInt 2).toUInt32 &&& Int32.toUInt32 31)).toInt32) &&& (Int32.ofInt 858993459))) + (((((y - (((y.toUInt32 >>> ((Int32.ofInt 1).toUInt32 &&& Int32.toUInt32 31)).toInt32) &&& (Int32.ofInt 1431655765))) &&& (Int32.ofInt 858993459)) + ((((y - (((y.toUInt32 >>> ((Int32.ofInt 1).toUInt32 &&& Int32.toUInt32 31)).toInt32) &&& (Int32.ofInt 1431655765))).toUInt32 >>> ((Int32.ofInt 2).toUInt32 &&& Int32.toUInt32 31)).toInt32) &&& (Int32.ofInt 858993459))).toUInt32 >>> ((Int32.ofInt 4).toUInt32 &&& Int32.toUInt32 31)).toInt32)) &&& (Int32.ofInt 252645135)) + (((((((y - (((y.toUInt32 >>> ((Int32.ofInt 1).toUInt32 &&& Int32.toUInt32 31)).toInt32) &&& (Int32.ofInt 1431655765))) &&& (Int32.ofInt 858993459)) + ((((y - (((y.toUInt32 >>> ((Int32.ofInt 1).toUInt32 &&& Int32.toUInt32 31)).toInt32) &&& (Int32.ofInt 1431655765))).toUInt32 >>> ((Int32.ofInt 2).toUInt32 &&& Int32.toUInt32 31)).toInt32) &&& (Int32.ofInt 858993459))) + (((((y - (((y.toUInt32 >>> ((Int32.ofInt 1).toUInt32 &&& Int32.toUInt32 31)).toInt32) &&& (Int32.ofInt 1431655765))) &&& (Int32.ofInt 858993459)) + ((((y - (((y.toUInt32 >>> ((Int32.ofInt 1).toUInt32 &&& Int32.toUInt32 31)).toInt32) &&& (Int32.ofInt 1431655765))).toUInt32 >>> ((Int32.ofInt 2).toUInt32 &&& Int32.toUInt32 31)).toInt32) &&& (Int32.ofInt 858993459))).toUInt32 >>> ((Int32.ofInt 4).toUInt32 &&& Int32.toUInt32 31)).toInt32)) &&& (Int32.ofInt 252645135)).toUInt32 >>> ((Int32.ofInt 8).toUInt32 &&& Int32.toUInt32 31)).toInt32)) + ((((((((y - (((y.toUInt32 >>> ((Int32.ofInt 1).toUInt32 &&& Int32.toUInt32 31)).toInt32) &&& (Int32.ofInt 1431655765))) &&& (Int32.ofInt 858993459)) + ((((y - (((y.toUInt32 >>> ((Int32.ofInt 1).toUInt32 &&& Int32.toUInt32 31)).toInt32) &&& (Int32.ofInt 1431655765))).toUInt32 >>> ((Int32.ofInt 2).toUInt32 &&& Int32.toUInt32 31)).toInt32) &&& (Int32.ofInt 858993459))) + (((((y - (((y.toUInt32 >>> ((Int32.ofInt 1).toUInt32 &&& Int32.toUInt32 31)).toInt32) &&& (Int32.ofInt 1431655765))) &&& (Int32.ofInt 858993459)) + ((((y - (((y.toUInt32 >>> ((Int32.ofInt 1).toUInt32 &&& Int32.toUInt32 31)).toInt32) &&& (Int32.ofInt 1431655765))).toUInt32 >>> ((Int32.ofInt 2).toUInt32 &&& Int32.toUInt32 31)).toInt32) &&& (Int32.ofInt 858993459))).toUInt32 >>> ((Int32.ofInt 4).toUInt32 &&& Int32.toUInt32 31)).toInt32)) &&& (Int32.ofInt 252645135)) + (((((((y - (((y.toUInt32 >>> ((Int32.ofInt 1).toUInt32 &&& Int32.toUInt32 31)).toInt32) &&& (Int32.ofInt 1431655765))) &&& (Int32.ofInt 858993459)) + ((((y - (((y.toUInt32 >>> ((Int32.ofInt 1).toUInt32 &&& Int32.toUInt32 31)).toInt32) &&& (Int32.ofInt 1431655765))).toUInt32 >>> ((Int32.ofInt 2).toUInt32 &&& Int32.toUInt32 31)).toInt32) &&& (Int32.ofInt 858993459))) + (((((y - (((y.toUInt32 >>> ((Int32.ofInt 1).toUInt32 &&& Int32.toUInt32 31)).toInt32) &&& (Int32.ofInt 1431655765))) &&& (Int32.ofInt 858993459)) + ((((y - (((y.toUInt32 >>> ((Int32.ofInt 1).toUInt32 &&& Int32.toUInt32 31)).toInt32) &&& (Int32.ofInt 1431655765))).toUInt32 >>> ((Int32.ofInt 2).toUInt32 &&& Int32.toUInt32 31)).toInt32) &&& (Int32.ofInt 858993459))).toUInt32 >>> ((Int32.ofInt 4).toUInt32 &&& Int32.toUInt32 31)).toInt32)) &&& (Int32.ofInt 252645135)).toUInt32 >>> ((Int32.ofInt 8).toUInt32 &&& Int32.toUInt32 31)).toInt32)).toUInt32 >>> ((Int32.ofInt 16).toUInt32 &&& Int32.toUInt32 31)).toInt32))) rfl rfl (fun d => rfl) ?_
  refine y_bi rfl rfl (by decide) ?_
  refine y_in rfl rfl (fun d => rfl) ?_
  refine y_ret rfl (fun d => rfl) ?_
  exact k
set_option maxRecDepth 100000 in
set_option maxHeartbeats 4000000 in
theorem cc_hold (hC : ClF S) {x : Int} (h : (-2147483648 ≤ x ∧ x < 2147483648)) (hH : 0 ≤ V 1 10 ∧ V 1 10 ≤ 65535) (k : K u w (some (if 0 ≤ x ∧ x ≤ 65535 then .int (z_bc (Int32.ofInt (v_oI (V 1 10) x))) else iv (-2))) S (if 0 ≤ x ∧ x ≤ 65535 then v_up V 1 10 (v_oI (V 1 10) x) else V)) : y_R X 2 82 u w [.ref 0, iv x] S V K := by
  refine y_ent (lv' := [(0, .ref 0), (1, iv x)]) (Nat.le_of_ble_eq_true rfl) rfl ?_
  refine y_ld (x := iv x) rfl rfl (fun d => rfl) ?_
  refine y_cS (as := [iv x]) rfl (by decide) rfl rfl rfl rfl ⟨(Nat.le_of_ble_eq_true rfl), (Nat.le_of_ble_eq_true rfl)⟩ (by decide) (cc_areTalks (by omega) ?_)
  refine y_nv ?_
  refine y_bne rfl rfl rfl (fun g1 => ?_) (fun g1 => ?_)
  · refine y_ld (x := .ref 0) rfl rfl (fun d => rfl) ?_
    refine y_gR (i := 0) rfl rfl rfl (hC 0 _ _ rfl) rfl ?_
    refine y_in rfl rfl (fun d => rfl) ?_
    refine y_gI (i := 10) (e := (V 1 10)) rfl rfl rfl (hC 1 _ _ rfl) rfl rfl ?_
    refine y_ld (x := iv x) rfl rfl (fun d => rfl) ?_
    refine y_op (z := (v_oI (V 1 10) x)) rfl rfl (fun d => rfl) (v_orI (by omega) (by omega)) ?_
    refine y_pI (i := 10) rfl rfl rfl (hC 1 _ _ rfl) rfl rfl ?_
    refine y_ld (x := .ref 0) rfl rfl (fun d => rfl) ?_
    refine y_gR (i := 0) rfl rfl rfl (hC 0 _ _ rfl) rfl ?_
    refine y_gI (i := 10) (e := (v_oI (V 1 10) x)) rfl rfl rfl (hC 1 _ _ rfl) rfl rfl ?_
    refine y_cS (as := [iv (v_oI (V 1 10) x)]) rfl (by decide) rfl rfl rfl rfl ⟨(Nat.le_of_ble_eq_true rfl), (Nat.le_of_ble_eq_true rfl)⟩ (by decide) (cc_bitCount ?_)
    refine y_nv ?_
    refine y_ret rfl (fun d => rfl) ?_
    rwa [if_pos g1, if_pos g1] at k
  · refine y_bi rfl rfl (by decide) ?_
    refine y_rI rfl (Or.inl rfl) ?_
    rwa [if_neg g1, if_neg g1] at k
set_option maxRecDepth 100000 in
set_option maxHeartbeats 4000000 in
theorem ct_hold (hM : MdS S) {x : Int} (h : (-2147483648 ≤ x ∧ x < 2147483648)) (hH : 0 ≤ V 171 4 ∧ V 171 4 ≤ 65535) (k : K u w (some (if 0 ≤ x ∧ x ≤ 65535 then iv (v_bs (v_oI (V 171 4) x) 16) else iv (-2))) S (if 0 ≤ x ∧ x ≤ 65535 then v_up V 171 4 (v_oI (V 171 4) x) else V)) : y_R X 2 148 u w [.ref 170, iv x] S V K := by
  refine y_ent (lv' := [(0, .ref 170), (1, iv x)]) (Nat.le_of_ble_eq_true rfl) rfl ?_
  refine y_ld (x := iv x) rfl rfl (fun d => rfl) ?_
  refine y_ic rfl rfl ?_
  refine y_ld (x := iv 65535) rfl rfl (fun d => rfl) ?_
  refine y_cS (as := [iv x, iv 0, iv 65535]) rfl (by decide) rfl rfl rfl rfl ⟨(Nat.le_of_ble_eq_true rfl), (Nat.le_of_ble_eq_true rfl)⟩ (by decide) (ct_in (by omega) ?_)
  refine y_nv ?_
  refine y_bne rfl rfl rfl (fun g1 => ?_) (fun g1 => ?_)
  · refine y_ld (x := .ref 170) rfl rfl (fun d => rfl) ?_
    refine y_gR (i := 1) rfl rfl rfl (md170 hM) rfl ?_
    refine y_ic rfl rfl ?_
    refine y_in rfl rfl (fun d => rfl) ?_
    refine y_ild (x := (V 171 4)) (q := 4) rfl rfl (md171 hM) (by decide) (by decide) rfl rfl ?_
    refine y_ld (x := iv x) rfl rfl (fun d => rfl) ?_
    refine y_op (z := (v_oI (V 171 4) x)) rfl rfl (fun d => rfl) (v_orI (by omega) (by omega)) ?_
    refine y_ist (q := 4) rfl rfl (md171 hM) (by decide) (by decide) rfl ?_
    refine y_ld (x := .ref 170) rfl rfl (fun d => rfl) ?_
    refine y_gR (i := 1) rfl rfl rfl (md170 hM) rfl ?_
    refine y_ic rfl rfl ?_
    refine y_ild (x := (v_oI (V 171 4) x)) (q := 4) rfl rfl (md171 hM) (by decide) (by decide) rfl rfl ?_
    have hq := v_oI_lt hH g1
    refine y_cS (as := [iv (v_oI (V 171 4) x)]) rfl (by decide) rfl rfl rfl rfl ⟨(Nat.le_of_ble_eq_true rfl), (Nat.le_of_ble_eq_true rfl)⟩ (by decide) (ct_count1 (by omega) ?_)
    refine y_nv ?_
    refine y_rI rfl (Or.inl rfl) ?_
    rwa [if_pos g1, if_pos g1] at k
  · refine y_bi rfl rfl (by decide) ?_
    refine y_rI rfl (Or.inl rfl) ?_
    rwa [if_neg g1, if_neg g1] at k
theorem v_cp_up (V : v_V) {a b : Nat} (h : a ≠ b) (k : Nat) : v_up (v_ur V b (v_cp (V a) (V b) 0 0 k)) b k (V a k) = v_ur V b (v_cp (V a) (V b) 0 0 (k + 1)) := by
  rw [v_up_ur, v_ur_ur, v_ur_eq]
  congr 1
  funext j
  unfold v_uf v_cp
  by_cases h1 : j = k
  · subst h1
    rw [if_pos rfl, if_pos (by omega)]
    rfl
  · rw [if_neg h1]
    by_cases h2 : j < k
    · rw [if_pos (by omega), if_pos (by omega)]
    · rw [if_neg (by omega), if_neg (by omega)]
set_option maxRecDepth 100000 in
set_option maxHeartbeats 4000000 in
theorem lp_image (hM : MdS S) {F : Nat} : ∀ (m : Nat) (k : Nat), 1800 - k < m → (k ≤ 1800) → (y_E X 0 176 F u w 27 [(0, .ref 170), (1, iv ((1800 : Nat) : Int))] [] S (v_ur V 172 (v_cp (V 171) (V 172) 0 0 1800)) K) → y_E X 0 176 (20 * m + F) u w 2 [(0, .ref 170), (1, iv (k : Int))] [] S (v_ur V 172 (v_cp (V 171) (V 172) 0 0 k)) K := by
  intro m
  induction m with
  | zero => intros; omega
  | succ m ih =>
    intro k hm hI hx
    refine y_mono (F' := (20 * m + F) + 20) ?_ (by omega)
    refine y_ld (x := iv (k : Int)) rfl rfl (fun d => rfl) ?_
    refine y_si rfl rfl (by decide) ?_
    refine y_jge rfl rfl rfl (by omega) (fun g1 => ?_) (fun g1 => ?_)
    · obtain rfl : k = 1800 := by omega
      exact y_mono hx (by omega)
    · refine y_ld (x := .ref 170) rfl rfl (fun d => rfl) ?_
      refine y_gR (i := 2) rfl rfl rfl (md170 hM) rfl ?_
      refine y_ld (x := iv (k : Int)) rfl rfl (fun d => rfl) ?_
      refine y_ld (x := .ref 170) rfl rfl (fun d => rfl) ?_
      refine y_gR (i := 1) rfl rfl rfl (md170 hM) rfl ?_
      refine y_ld (x := iv (k : Int)) rfl rfl (fun d => rfl) ?_
      refine y_ild (x := (V 171 k)) (q := k) rfl rfl (md171 hM) (by omega) (by decide) (by omega) rfl ?_
      refine y_ist (q := k) rfl rfl (md172 hM) (by omega) (by decide) (by omega) ?_
      refine y_inc (z := ((k + 1 : Nat) : Int)) (lv' := [(1, iv ((k + 1 : Nat) : Int)), (0, .ref 170)]) rfl rfl rfl (by omega) rfl ?_
      refine y_go rfl rfl ?_
      refine y_lv (l' := [(0, .ref 170), (1, iv ((k + 1 : Nat) : Int))]) rfl ⟨rfl, rfl, trivial⟩ ?_
      refine y_V (V' := v_ur V 172 (v_cp (V 171) (V 172) 0 0 (k + 1))) ?_ ?_
      · exact v_cp_up V (by decide) k
      exact y_mono (ih (k + 1) (by omega) (by omega) hx) (by omega)
set_option maxRecDepth 100000 in
set_option maxHeartbeats 4000000 in
theorem ct_image (hM : MdS S) (k : K u w (some (iv (V 171 1))) S (v_up (v_ur V 172 (V 171)) 170 3 1)) : y_R X 1 176 u w [.ref 170] S V K := by
  refine y_ent (lv' := [(0, .ref 170)]) (Nat.le_of_ble_eq_true rfl) rfl ?_
  refine y_ic rfl rfl ?_
  refine y_st (lv' := [(1, iv 0), (0, .ref 170)]) rfl rfl (fun d => rfl) ?_
  refine y_lv (l' := [(0, .ref 170), (1, iv 0)]) rfl ⟨rfl, rfl, trivial⟩ ?_
  refine y_V (V' := v_ur V 172 (v_cp (V 171) (V 172) 0 0 0)) ?_ ?_
  · rw [show v_cp (V 171) (V 172) 0 0 0 = V 172 from funext (fun j => if_neg (by omega)), v_ur_self]
  refine y_mono (lp_image hM 1801 0 (by omega) (by omega) ?_) (Nat.le_of_ble_eq_true rfl : 20 * 1801 + 900000 ≤ _)
  refine y_row (g := V 171) (md172 hM) (fun i x hx => if_pos (by have := v_repI hx; omega)) ?_
  refine y_ld (x := .ref 170) rfl rfl (fun d => rfl) ?_
  refine y_ic rfl rfl ?_
  refine y_pZ (i := 3) rfl rfl rfl (md170 hM) rfl rfl (by decide) ?_
  refine y_ld (x := .ref 170) rfl rfl (fun d => rfl) ?_
  refine y_gR (i := 1) rfl rfl rfl (md170 hM) rfl ?_
  refine y_ic rfl rfl ?_
  refine y_ild (x := (V 171 1)) (q := 1) rfl rfl (md171 hM) (by decide) (by decide) rfl rfl ?_
  refine y_rI rfl (Or.inl rfl) ?_
  exact k
set_option maxRecDepth 100000 in
set_option maxHeartbeats 4000000 in
theorem cc_image (hC : ClF S) {ta tb wa wb la lb : List Value} (hta : ce S 3 22 ta) (htb : ce S 60 22 tb) (hwa : ce S 6 24 wa) (hwb : ce S 63 24 wb) (hla : ce S 7 24 la) (hlb : ce S 64 24 lb) (hlta : ta.length = 8) (hltb : tb.length = 8) (hlwa : wa.length = 20) (hlwb : wb.length = 20) (hlla : la.length = 5) (hllb : lb.length = 5) (hvT : ∀ v ∈ ta, v_asg S 22 v) (hvW : ∀ v ∈ wa, v_asg S 24 v) (hvL : ∀ v ∈ la, v_asg S 24 v) (k : ∀ V', CpV 58 1 V V' → K u w (some (iv (V' 1 5))) (((S.set 60 (22, ta)).set 63 (24, wa)).set 64 (24, la)) (v_up V' 0 2 1)) : y_R X 4 94 u w [.ref 0] S V K := by
  refine y_ent (lv' := [(0, .ref 0)]) (Nat.le_of_ble_eq_true rfl) rfl ?_
  refine y_ld (x := .ref 0) rfl rfl (fun d => rfl) ?_
  refine y_gR (i := 1) rfl rfl rfl (hC 0 _ _ rfl) rfl ?_
  refine y_ld (x := .ref 0) rfl rfl (fun d => rfl) ?_
  refine y_gR (i := 0) rfl rfl rfl (hC 0 _ _ rfl) rfl ?_
  refine y_cV (as := [.ref 58, .ref 1]) rfl rfl rfl rfl rfl (hC 58 _ _ rfl) ⟨rfl, (Nat.le_of_ble_eq_true rfl), (Nat.le_of_ble_eq_true rfl)⟩ (by decide) (cc_sbec58 hC hta htb hwa hwb hla hlb hlta hltb hlwa hlwb hlla hllb hvT hvW hvL (fun V1 hV1 => ?_))
  have hCn : ClF (((S.set 60 (22, ta)).set 63 (24, wa)).set 64 (24, la)) := cl_set (cl_set (cl_set hC (by decide)) (by decide)) (by decide)
  refine y_n0 ?_
  refine y_ld (x := .ref 0) rfl rfl (fun d => rfl) ?_
  refine y_ic rfl rfl ?_
  refine y_pZ (i := 2) rfl rfl rfl (hCn 0 _ _ rfl) rfl rfl (by decide) ?_
  refine y_ld (x := .ref 0) rfl rfl (fun d => rfl) ?_
  refine y_gR (i := 0) rfl rfl rfl (hCn 0 _ _ rfl) rfl ?_
  refine y_gI (i := 5) (e := (V1 1 5)) rfl rfl rfl (hCn 1 _ _ rfl) rfl rfl ?_
  refine y_rI rfl (Or.inl rfl) ?_
  exact k V1 hV1
end
