section
/-! as, the class -/
section
variable {X : Nat → List Int32} {u w : Nat} {S : m_H} {V : v_V} {K : v_K}
set_option maxRecDepth 100000 in
set_option maxHeartbeats 4000000 in
theorem cs_as (hC : ClF S) (hB : 0 ≤ V 1 5 ∧ V 1 5 ≤ 8) (hXa : X 2 = m_above) (h3X : X 3 = []) {x : Int} (hx : (-2147483648 ≤ x ∧ x < 2147483648)) {y : Int} (hy : (-2147483648 ≤ y ∧ y < 2147483648)) (hk : ∀ b : Nat, b < 8 → 0 ≤ V (10 + 6 * b) 1 ∧ V (10 + 6 * b) 1 ≤ 6) (k0 : ¬ (0 ≤ x ∧ x < V 1 5) → K u w (some (iv (-1))) S V) (k1 : 0 ≤ x ∧ x < V 1 5 → (y : Int) < 0 → K u w (some (iv (-1))) S V) (k2 : 0 ≤ x ∧ x < V 1 5 → ¬ ((y : Int) < 0) → (y : Int) < 7 → V (10 + 6 * x.toNat) 1 = 0 → ¬ ((0 : Int) ≥ 7) → (0 : Int) ≤ 0 → (0 : Int) ≠ y → K u w (some (iv (-6))) S V) (k3 : 0 ≤ x ∧ x < V 1 5 → ¬ ((y : Int) < 0) → (y : Int) < 7 → V (10 + 6 * x.toNat) 1 = 0 → ¬ ((0 : Int) ≥ 7) → (0 : Int) ≤ 0 → ¬ ((0 : Int) ≠ y) → K u w (some (iv (V (10 + 6 * x.toNat) 2))) S V) (k4 : 0 ≤ x ∧ x < V 1 5 → ¬ ((y : Int) < 0) → (y : Int) < 7 → V (10 + 6 * x.toNat) 1 = 1 → ¬ ((0 : Int) ≥ 7) → ¬ ((1 : Int) ≤ 0) → (1 : Int) = y → (1 : Int) ≠ y → K u w (some (iv (-6))) S V) (k5 : 0 ≤ x ∧ x < V 1 5 → ¬ ((y : Int) < 0) → (y : Int) < 7 → V (10 + 6 * x.toNat) 1 = 1 → ¬ ((0 : Int) ≥ 7) → ¬ ((1 : Int) ≤ 0) → (1 : Int) = y → ¬ ((1 : Int) ≠ y) → K u w (some (iv (V (10 + 6 * x.toNat) 2))) S V) (k6 : 0 ≤ x ∧ x < V 1 5 → ¬ ((y : Int) < 0) → (y : Int) < 7 → V (10 + 6 * x.toNat) 1 = 1 → ¬ ((0 : Int) ≥ 7) → ¬ ((1 : Int) ≤ 0) → ¬ ((1 : Int) = y) → ¬ ((1 : Int) ≥ 7) → (0 : Int) ≤ 0 → (0 : Int) ≠ y → K u w (some (iv (-6))) S V) (k7 : 0 ≤ x ∧ x < V 1 5 → ¬ ((y : Int) < 0) → (y : Int) < 7 → V (10 + 6 * x.toNat) 1 = 1 → ¬ ((0 : Int) ≥ 7) → ¬ ((1 : Int) ≤ 0) → ¬ ((1 : Int) = y) → ¬ ((1 : Int) ≥ 7) → (0 : Int) ≤ 0 → ¬ ((0 : Int) ≠ y) → K u w (some (iv (V (10 + 6 * x.toNat) 2))) S V) (k8 : 0 ≤ x ∧ x < V 1 5 → ¬ ((y : Int) < 0) → (y : Int) < 7 → V (10 + 6 * x.toNat) 1 = 2 → ¬ ((0 : Int) ≥ 7) → ¬ ((2 : Int) ≤ 0) → (2 : Int) = y → (2 : Int) ≠ y → K u w (some (iv (-6))) S V) (k9 : 0 ≤ x ∧ x < V 1 5 → ¬ ((y : Int) < 0) → (y : Int) < 7 → V (10 + 6 * x.toNat) 1 = 2 → ¬ ((0 : Int) ≥ 7) → ¬ ((2 : Int) ≤ 0) → (2 : Int) = y → ¬ ((2 : Int) ≠ y) → K u w (some (iv (V (10 + 6 * x.toNat) 2))) S V) (k10 : 0 ≤ x ∧ x < V 1 5 → ¬ ((y : Int) < 0) → (y : Int) < 7 → V (10 + 6 * x.toNat) 1 = 2 → ¬ ((0 : Int) ≥ 7) → ¬ ((2 : Int) ≤ 0) → ¬ ((2 : Int) = y) → ¬ ((1 : Int) ≥ 7) → (0 : Int) ≤ 0 → (0 : Int) ≠ y → K u w (some (iv (-6))) S V) (k11 : 0 ≤ x ∧ x < V 1 5 → ¬ ((y : Int) < 0) → (y : Int) < 7 → V (10 + 6 * x.toNat) 1 = 2 → ¬ ((0 : Int) ≥ 7) → ¬ ((2 : Int) ≤ 0) → ¬ ((2 : Int) = y) → ¬ ((1 : Int) ≥ 7) → (0 : Int) ≤ 0 → ¬ ((0 : Int) ≠ y) → K u w (some (iv (V (10 + 6 * x.toNat) 2))) S V) (k12 : 0 ≤ x ∧ x < V 1 5 → ¬ ((y : Int) < 0) → (y : Int) < 7 → V (10 + 6 * x.toNat) 1 = 3 → ¬ ((0 : Int) ≥ 7) → ¬ ((3 : Int) ≤ 0) → (3 : Int) = y → (3 : Int) ≠ y → K u w (some (iv (-6))) S V) (k13 : 0 ≤ x ∧ x < V 1 5 → ¬ ((y : Int) < 0) → (y : Int) < 7 → V (10 + 6 * x.toNat) 1 = 3 → ¬ ((0 : Int) ≥ 7) → ¬ ((3 : Int) ≤ 0) → (3 : Int) = y → ¬ ((3 : Int) ≠ y) → K u w (some (iv (V (10 + 6 * x.toNat) 2))) S V) (k14 : 0 ≤ x ∧ x < V 1 5 → ¬ ((y : Int) < 0) → (y : Int) < 7 → V (10 + 6 * x.toNat) 1 = 3 → ¬ ((0 : Int) ≥ 7) → ¬ ((3 : Int) ≤ 0) → ¬ ((3 : Int) = y) → ¬ ((1 : Int) ≥ 7) → (0 : Int) ≤ 0 → (0 : Int) ≠ y → K u w (some (iv (-6))) S V) (k15 : 0 ≤ x ∧ x < V 1 5 → ¬ ((y : Int) < 0) → (y : Int) < 7 → V (10 + 6 * x.toNat) 1 = 3 → ¬ ((0 : Int) ≥ 7) → ¬ ((3 : Int) ≤ 0) → ¬ ((3 : Int) = y) → ¬ ((1 : Int) ≥ 7) → (0 : Int) ≤ 0 → ¬ ((0 : Int) ≠ y) → K u w (some (iv (V (10 + 6 * x.toNat) 2))) S V) (k16 : 0 ≤ x ∧ x < V 1 5 → ¬ ((y : Int) < 0) → (y : Int) < 7 → V (10 + 6 * x.toNat) 1 = 4 → ¬ ((0 : Int) ≥ 7) → ¬ ((4 : Int) ≤ 0) → (4 : Int) = y → (4 : Int) ≠ y → K u w (some (iv (-6))) S V) (k17 : 0 ≤ x ∧ x < V 1 5 → ¬ ((y : Int) < 0) → (y : Int) < 7 → V (10 + 6 * x.toNat) 1 = 4 → ¬ ((0 : Int) ≥ 7) → ¬ ((4 : Int) ≤ 0) → (4 : Int) = y → ¬ ((4 : Int) ≠ y) → K u w (some (iv (V (10 + 6 * x.toNat) 2))) S V) (k18 : 0 ≤ x ∧ x < V 1 5 → ¬ ((y : Int) < 0) → (y : Int) < 7 → V (10 + 6 * x.toNat) 1 = 4 → ¬ ((0 : Int) ≥ 7) → ¬ ((4 : Int) ≤ 0) → ¬ ((4 : Int) = y) → ¬ ((1 : Int) ≥ 7) → ¬ ((1 : Int) ≤ 0) → (1 : Int) = y → (1 : Int) ≠ y → K u w (some (iv (-6))) S V) (k19 : 0 ≤ x ∧ x < V 1 5 → ¬ ((y : Int) < 0) → (y : Int) < 7 → V (10 + 6 * x.toNat) 1 = 4 → ¬ ((0 : Int) ≥ 7) → ¬ ((4 : Int) ≤ 0) → ¬ ((4 : Int) = y) → ¬ ((1 : Int) ≥ 7) → ¬ ((1 : Int) ≤ 0) → (1 : Int) = y → ¬ ((1 : Int) ≠ y) → K u w (some (iv (V (10 + 6 * x.toNat) 2))) S V) (k20 : 0 ≤ x ∧ x < V 1 5 → ¬ ((y : Int) < 0) → (y : Int) < 7 → V (10 + 6 * x.toNat) 1 = 4 → ¬ ((0 : Int) ≥ 7) → ¬ ((4 : Int) ≤ 0) → ¬ ((4 : Int) = y) → ¬ ((1 : Int) ≥ 7) → ¬ ((1 : Int) ≤ 0) → ¬ ((1 : Int) = y) → ¬ ((2 : Int) ≥ 7) → (0 : Int) ≤ 0 → (0 : Int) ≠ y → K u w (some (iv (-6))) S V) (k21 : 0 ≤ x ∧ x < V 1 5 → ¬ ((y : Int) < 0) → (y : Int) < 7 → V (10 + 6 * x.toNat) 1 = 4 → ¬ ((0 : Int) ≥ 7) → ¬ ((4 : Int) ≤ 0) → ¬ ((4 : Int) = y) → ¬ ((1 : Int) ≥ 7) → ¬ ((1 : Int) ≤ 0) → ¬ ((1 : Int) = y) → ¬ ((2 : Int) ≥ 7) → (0 : Int) ≤ 0 → ¬ ((0 : Int) ≠ y) → K u w (some (iv (V (10 + 6 * x.toNat) 2))) S V) (k22 : 0 ≤ x ∧ x < V 1 5 → ¬ ((y : Int) < 0) → (y : Int) < 7 → V (10 + 6 * x.toNat) 1 = 5 → ¬ ((0 : Int) ≥ 7) → ¬ ((5 : Int) ≤ 0) → (5 : Int) = y → (5 : Int) ≠ y → K u w (some (iv (-6))) S V) (k23 : 0 ≤ x ∧ x < V 1 5 → ¬ ((y : Int) < 0) → (y : Int) < 7 → V (10 + 6 * x.toNat) 1 = 5 → ¬ ((0 : Int) ≥ 7) → ¬ ((5 : Int) ≤ 0) → (5 : Int) = y → ¬ ((5 : Int) ≠ y) → K u w (some (iv (V (10 + 6 * x.toNat) 2))) S V) (k24 : 0 ≤ x ∧ x < V 1 5 → ¬ ((y : Int) < 0) → (y : Int) < 7 → V (10 + 6 * x.toNat) 1 = 5 → ¬ ((0 : Int) ≥ 7) → ¬ ((5 : Int) ≤ 0) → ¬ ((5 : Int) = y) → ¬ ((1 : Int) ≥ 7) → ¬ ((3 : Int) ≤ 0) → (3 : Int) = y → (3 : Int) ≠ y → K u w (some (iv (-6))) S V) (k25 : 0 ≤ x ∧ x < V 1 5 → ¬ ((y : Int) < 0) → (y : Int) < 7 → V (10 + 6 * x.toNat) 1 = 5 → ¬ ((0 : Int) ≥ 7) → ¬ ((5 : Int) ≤ 0) → ¬ ((5 : Int) = y) → ¬ ((1 : Int) ≥ 7) → ¬ ((3 : Int) ≤ 0) → (3 : Int) = y → ¬ ((3 : Int) ≠ y) → K u w (some (iv (V (10 + 6 * x.toNat) 2))) S V) (k26 : 0 ≤ x ∧ x < V 1 5 → ¬ ((y : Int) < 0) → (y : Int) < 7 → V (10 + 6 * x.toNat) 1 = 5 → ¬ ((0 : Int) ≥ 7) → ¬ ((5 : Int) ≤ 0) → ¬ ((5 : Int) = y) → ¬ ((1 : Int) ≥ 7) → ¬ ((3 : Int) ≤ 0) → ¬ ((3 : Int) = y) → ¬ ((2 : Int) ≥ 7) → (0 : Int) ≤ 0 → (0 : Int) ≠ y → K u w (some (iv (-6))) S V) (k27 : 0 ≤ x ∧ x < V 1 5 → ¬ ((y : Int) < 0) → (y : Int) < 7 → V (10 + 6 * x.toNat) 1 = 5 → ¬ ((0 : Int) ≥ 7) → ¬ ((5 : Int) ≤ 0) → ¬ ((5 : Int) = y) → ¬ ((1 : Int) ≥ 7) → ¬ ((3 : Int) ≤ 0) → ¬ ((3 : Int) = y) → ¬ ((2 : Int) ≥ 7) → (0 : Int) ≤ 0 → ¬ ((0 : Int) ≠ y) → K u w (some (iv (V (10 + 6 * x.toNat) 2))) S V) (k28 : 0 ≤ x ∧ x < V 1 5 → ¬ ((y : Int) < 0) → (y : Int) < 7 → V (10 + 6 * x.toNat) 1 = 6 → ¬ ((0 : Int) ≥ 7) → ¬ ((6 : Int) ≤ 0) → (6 : Int) = y → (6 : Int) ≠ y → K u w (some (iv (-6))) S V) (k29 : 0 ≤ x ∧ x < V 1 5 → ¬ ((y : Int) < 0) → (y : Int) < 7 → V (10 + 6 * x.toNat) 1 = 6 → ¬ ((0 : Int) ≥ 7) → ¬ ((6 : Int) ≤ 0) → (6 : Int) = y → ¬ ((6 : Int) ≠ y) → K u w (some (iv (V (10 + 6 * x.toNat) 2))) S V) (k30 : 0 ≤ x ∧ x < V 1 5 → ¬ ((y : Int) < 0) → (y : Int) < 7 → V (10 + 6 * x.toNat) 1 = 6 → ¬ ((0 : Int) ≥ 7) → ¬ ((6 : Int) ≤ 0) → ¬ ((6 : Int) = y) → ¬ ((1 : Int) ≥ 7) → (0 : Int) ≤ 0 → (0 : Int) ≠ y → K u w (some (iv (-6))) S V) (k31 : 0 ≤ x ∧ x < V 1 5 → ¬ ((y : Int) < 0) → (y : Int) < 7 → V (10 + 6 * x.toNat) 1 = 6 → ¬ ((0 : Int) ≥ 7) → ¬ ((6 : Int) ≤ 0) → ¬ ((6 : Int) = y) → ¬ ((1 : Int) ≥ 7) → (0 : Int) ≤ 0 → ¬ ((0 : Int) ≠ y) → K u w (some (iv (V (10 + 6 * x.toNat) 2))) S V) (k32 : 0 ≤ x ∧ x < V 1 5 → ¬ ((y : Int) < 0) → ¬ ((y : Int) < 7) → K u w (some (iv (-1))) S V) : y_R X 2 93 u w [.ref 0, iv x, iv y] S V K := by
  refine y_ent (lv' := [(0, .ref 0), (1, iv x), (2, iv y)]) (Nat.le_of_ble_eq_true rfl) rfl ?_
  refine y_ld (x := .ref 0) rfl rfl (fun d => rfl) ?_
  refine y_gR (i := 0) rfl rfl rfl (hC 0 _ _ rfl) rfl ?_
  refine y_ld (x := iv x) rfl rfl (fun d => rfl) ?_
  refine y_cV (as := [.ref 1, iv x]) rfl rfl rfl rfl rfl (hC 1 _ _ rfl) ⟨rfl, (Nat.le_of_ble_eq_true rfl), (Nat.le_of_ble_eq_true rfl)⟩ (by decide) (cb_boxAt (x := x) hC hB (by omega) (fun gb1 => ?_) (fun gb1 => ?_))
  · refine y_nv ?_
    refine y_st (lv' := [(3, .null), (0, .ref 0), (1, iv x), (2, iv y)]) rfl rfl (fun d => rfl) ?_
    refine y_ld (x := .null) rfl rfl (fun d => rfl) ?_
    refine y_in (pc' := 23) rfl rfl (fun d => rfl) ?_
    refine y_ic rfl rfl ?_
    refine y_rI rfl (Or.inl rfl) ?_
    exact k0 gb1
  · refine y_nv ?_
    refine y_st (lv' := [(3, .ref (10 + 6 * x.toNat)), (0, .ref 0), (1, iv x), (2, iv y)]) rfl rfl (fun d => rfl) ?_
    refine y_ld (x := .ref (10 + 6 * x.toNat)) rfl rfl (fun d => rfl) ?_
    refine y_in (pc' := 13) rfl rfl (fun d => rfl) ?_
    refine y_ld (x := iv y) rfl rfl (fun d => rfl) ?_
    refine y_zlt rfl rfl rfl (by omega) (fun g1 => ?_) (fun g1 => ?_)
    · refine y_ic rfl rfl ?_
      refine y_rI rfl (Or.inl rfl) ?_
      exact k1 gb1 (by omega)
    · refine y_ld (x := iv y) rfl rfl (fun d => rfl) ?_
      refine y_bi rfl rfl (by decide) ?_
      refine y_jlt rfl rfl rfl (by omega) (fun g2 => ?_) (fun g2 => ?_)
      · refine y_ld (x := .ref (10 + 6 * x.toNat)) rfl rfl (fun d => rfl) ?_
        refine y_gI (i := 1) (e := (V (10 + 6 * x.toNat) 1)) rfl rfl rfl (bx_ob hC (i := x.toNat) (by omega)) rfl rfl ?_
        refine y_st (lv' := [(4, iv (V (10 + 6 * x.toNat) 1)), (3, .ref (10 + 6 * x.toNat)), (0, .ref 0), (1, iv x), (2, iv y)]) rfl rfl (fun d => rfl) ?_
        have hkx := hk x.toNat (by omega)
        rcases (show V (10 + 6 * x.toNat) 1 = 0 ∨ V (10 + 6 * x.toNat) 1 = 1 ∨ V (10 + 6 * x.toNat) 1 = 2 ∨ V (10 + 6 * x.toNat) 1 = 3 ∨ V (10 + 6 * x.toNat) 1 = 4 ∨ V (10 + 6 * x.toNat) 1 = 5 ∨ V (10 + 6 * x.toNat) 1 = 6 by omega) with hq | hq | hq | hq | hq | hq | hq
        · refine y_lv (l' := [(3, .ref (10 + 6 * x.toNat)), (0, .ref 0), (1, iv x), (2, iv y), (4, iv 0)]) rfl ⟨rfl, rfl, rfl, rfl, congrArg (fun e => some (iv e)) hq, trivial⟩ ?_
          refine y_ic rfl rfl ?_
          refine y_st (lv' := [(5, iv 0), (3, .ref (10 + 6 * x.toNat)), (0, .ref 0), (1, iv x), (2, iv y), (4, iv 0)]) rfl rfl (fun d => rfl) ?_
          refine y_ld (x := iv 0) rfl rfl (fun d => rfl) ?_
          refine y_bi rfl rfl (by decide) ?_
          refine y_jge rfl rfl rfl (by decide) (fun g3 => absurd g3 (by decide)) (fun g3 => ?_)
          refine y_ld (x := iv 0) rfl rfl (fun d => rfl) ?_
          refine y_zle rfl rfl rfl (by decide) (fun g4 => ?_) (fun g4 => absurd g4 (by decide))
          refine y_ld (x := iv 0) rfl rfl (fun d => rfl) ?_
          refine y_ld (x := iv y) rfl rfl (fun d => rfl) ?_
          refine y_jne rfl rfl rfl (by omega) (fun g5 => ?_) (fun g5 => ?_)
          · refine y_bi rfl rfl (by decide) ?_
            refine y_rI rfl (Or.inl rfl) ?_
            exact k2 gb1 (by omega) (by omega) hq (by omega) (by omega) (by omega)
          · refine y_ld (x := .ref (10 + 6 * x.toNat)) rfl rfl (fun d => rfl) ?_
            refine y_gI (i := 2) (e := (V (10 + 6 * x.toNat) 2)) rfl rfl rfl (bx_ob hC (i := x.toNat) (by omega)) rfl rfl ?_
            refine y_go rfl rfl ?_
            refine y_rI rfl (Or.inl rfl) ?_
            exact k3 gb1 (by omega) (by omega) hq (by omega) (by omega) (by omega)
        · refine y_lv (l' := [(3, .ref (10 + 6 * x.toNat)), (0, .ref 0), (1, iv x), (2, iv y), (4, iv 1)]) rfl ⟨rfl, rfl, rfl, rfl, congrArg (fun e => some (iv e)) hq, trivial⟩ ?_
          refine y_ic rfl rfl ?_
          refine y_st (lv' := [(5, iv 0), (3, .ref (10 + 6 * x.toNat)), (0, .ref 0), (1, iv x), (2, iv y), (4, iv 1)]) rfl rfl (fun d => rfl) ?_
          refine y_ld (x := iv 0) rfl rfl (fun d => rfl) ?_
          refine y_bi rfl rfl (by decide) ?_
          refine y_jge rfl rfl rfl (by decide) (fun g6 => absurd g6 (by decide)) (fun g6 => ?_)
          refine y_ld (x := iv 1) rfl rfl (fun d => rfl) ?_
          refine y_zle rfl rfl rfl (by decide) (fun g7 => absurd g7 (by decide)) (fun g7 => ?_)
          refine y_ld (x := iv 1) rfl rfl (fun d => rfl) ?_
          refine y_ld (x := iv y) rfl rfl (fun d => rfl) ?_
          refine y_jeq rfl rfl rfl (by omega) (fun g8 => ?_) (fun g8 => ?_)
          · refine y_ld (x := iv 1) rfl rfl (fun d => rfl) ?_
            refine y_ld (x := iv y) rfl rfl (fun d => rfl) ?_
            refine y_jne rfl rfl rfl (by omega) (fun g9 => ?_) (fun g9 => ?_)
            · refine y_bi rfl rfl (by decide) ?_
              refine y_rI rfl (Or.inl rfl) ?_
              exact k4 gb1 (by omega) (by omega) hq (by omega) (by omega) (by omega) (by omega)
            · refine y_ld (x := .ref (10 + 6 * x.toNat)) rfl rfl (fun d => rfl) ?_
              refine y_gI (i := 2) (e := (V (10 + 6 * x.toNat) 2)) rfl rfl rfl (bx_ob hC (i := x.toNat) (by omega)) rfl rfl ?_
              refine y_go rfl rfl ?_
              refine y_rI rfl (Or.inl rfl) ?_
              exact k5 gb1 (by omega) (by omega) hq (by omega) (by omega) (by omega) (by omega)
          · refine y_in rfl rfl (fun d => rfl) ?_
            refine y_ld (x := iv 1) rfl rfl (fun d => rfl) ?_
            refine y_sti (n := 2) (i := 1) (f := 0) rfl rfl hXa h3X (by decide) rfl rfl ?_
            refine y_st (lv' := [(4, iv 0), (5, iv 0), (3, .ref (10 + 6 * x.toNat)), (0, .ref 0), (1, iv x), (2, iv y)]) rfl rfl (fun d => rfl) ?_
            refine y_inc (z := 1) (lv' := [(5, iv 1), (4, iv 0), (3, .ref (10 + 6 * x.toNat)), (0, .ref 0), (1, iv x), (2, iv y)]) rfl rfl rfl rfl rfl ?_
            refine y_go rfl rfl ?_
            refine y_ld (x := iv 1) rfl rfl (fun d => rfl) ?_
            refine y_bi rfl rfl (by decide) ?_
            refine y_jge rfl rfl rfl (by decide) (fun g10 => absurd g10 (by decide)) (fun g10 => ?_)
            refine y_ld (x := iv 0) rfl rfl (fun d => rfl) ?_
            refine y_zle rfl rfl rfl (by decide) (fun g11 => ?_) (fun g11 => absurd g11 (by decide))
            refine y_ld (x := iv 0) rfl rfl (fun d => rfl) ?_
            refine y_ld (x := iv y) rfl rfl (fun d => rfl) ?_
            refine y_jne rfl rfl rfl (by omega) (fun g12 => ?_) (fun g12 => ?_)
            · refine y_bi rfl rfl (by decide) ?_
              refine y_rI rfl (Or.inl rfl) ?_
              exact k6 gb1 (by omega) (by omega) hq (by omega) (by omega) (by omega) (by omega) (by omega) (by omega)
            · refine y_ld (x := .ref (10 + 6 * x.toNat)) rfl rfl (fun d => rfl) ?_
              refine y_gI (i := 2) (e := (V (10 + 6 * x.toNat) 2)) rfl rfl rfl (bx_ob hC (i := x.toNat) (by omega)) rfl rfl ?_
              refine y_go rfl rfl ?_
              refine y_rI rfl (Or.inl rfl) ?_
              exact k7 gb1 (by omega) (by omega) hq (by omega) (by omega) (by omega) (by omega) (by omega) (by omega)
        · refine y_lv (l' := [(3, .ref (10 + 6 * x.toNat)), (0, .ref 0), (1, iv x), (2, iv y), (4, iv 2)]) rfl ⟨rfl, rfl, rfl, rfl, congrArg (fun e => some (iv e)) hq, trivial⟩ ?_
          refine y_ic rfl rfl ?_
          refine y_st (lv' := [(5, iv 0), (3, .ref (10 + 6 * x.toNat)), (0, .ref 0), (1, iv x), (2, iv y), (4, iv 2)]) rfl rfl (fun d => rfl) ?_
          refine y_ld (x := iv 0) rfl rfl (fun d => rfl) ?_
          refine y_bi rfl rfl (by decide) ?_
          refine y_jge rfl rfl rfl (by decide) (fun g13 => absurd g13 (by decide)) (fun g13 => ?_)
          refine y_ld (x := iv 2) rfl rfl (fun d => rfl) ?_
          refine y_zle rfl rfl rfl (by decide) (fun g14 => absurd g14 (by decide)) (fun g14 => ?_)
          refine y_ld (x := iv 2) rfl rfl (fun d => rfl) ?_
          refine y_ld (x := iv y) rfl rfl (fun d => rfl) ?_
          refine y_jeq rfl rfl rfl (by omega) (fun g15 => ?_) (fun g15 => ?_)
          · refine y_ld (x := iv 2) rfl rfl (fun d => rfl) ?_
            refine y_ld (x := iv y) rfl rfl (fun d => rfl) ?_
            refine y_jne rfl rfl rfl (by omega) (fun g16 => ?_) (fun g16 => ?_)
            · refine y_bi rfl rfl (by decide) ?_
              refine y_rI rfl (Or.inl rfl) ?_
              exact k8 gb1 (by omega) (by omega) hq (by omega) (by omega) (by omega) (by omega)
            · refine y_ld (x := .ref (10 + 6 * x.toNat)) rfl rfl (fun d => rfl) ?_
              refine y_gI (i := 2) (e := (V (10 + 6 * x.toNat) 2)) rfl rfl rfl (bx_ob hC (i := x.toNat) (by omega)) rfl rfl ?_
              refine y_go rfl rfl ?_
              refine y_rI rfl (Or.inl rfl) ?_
              exact k9 gb1 (by omega) (by omega) hq (by omega) (by omega) (by omega) (by omega)
          · refine y_in rfl rfl (fun d => rfl) ?_
            refine y_ld (x := iv 2) rfl rfl (fun d => rfl) ?_
            refine y_sti (n := 2) (i := 2) (f := 0) rfl rfl hXa h3X (by decide) rfl rfl ?_
            refine y_st (lv' := [(4, iv 0), (5, iv 0), (3, .ref (10 + 6 * x.toNat)), (0, .ref 0), (1, iv x), (2, iv y)]) rfl rfl (fun d => rfl) ?_
            refine y_inc (z := 1) (lv' := [(5, iv 1), (4, iv 0), (3, .ref (10 + 6 * x.toNat)), (0, .ref 0), (1, iv x), (2, iv y)]) rfl rfl rfl rfl rfl ?_
            refine y_go rfl rfl ?_
            refine y_ld (x := iv 1) rfl rfl (fun d => rfl) ?_
            refine y_bi rfl rfl (by decide) ?_
            refine y_jge rfl rfl rfl (by decide) (fun g17 => absurd g17 (by decide)) (fun g17 => ?_)
            refine y_ld (x := iv 0) rfl rfl (fun d => rfl) ?_
            refine y_zle rfl rfl rfl (by decide) (fun g18 => ?_) (fun g18 => absurd g18 (by decide))
            refine y_ld (x := iv 0) rfl rfl (fun d => rfl) ?_
            refine y_ld (x := iv y) rfl rfl (fun d => rfl) ?_
            refine y_jne rfl rfl rfl (by omega) (fun g19 => ?_) (fun g19 => ?_)
            · refine y_bi rfl rfl (by decide) ?_
              refine y_rI rfl (Or.inl rfl) ?_
              exact k10 gb1 (by omega) (by omega) hq (by omega) (by omega) (by omega) (by omega) (by omega) (by omega)
            · refine y_ld (x := .ref (10 + 6 * x.toNat)) rfl rfl (fun d => rfl) ?_
              refine y_gI (i := 2) (e := (V (10 + 6 * x.toNat) 2)) rfl rfl rfl (bx_ob hC (i := x.toNat) (by omega)) rfl rfl ?_
              refine y_go rfl rfl ?_
              refine y_rI rfl (Or.inl rfl) ?_
              exact k11 gb1 (by omega) (by omega) hq (by omega) (by omega) (by omega) (by omega) (by omega) (by omega)
        · refine y_lv (l' := [(3, .ref (10 + 6 * x.toNat)), (0, .ref 0), (1, iv x), (2, iv y), (4, iv 3)]) rfl ⟨rfl, rfl, rfl, rfl, congrArg (fun e => some (iv e)) hq, trivial⟩ ?_
          refine y_ic rfl rfl ?_
          refine y_st (lv' := [(5, iv 0), (3, .ref (10 + 6 * x.toNat)), (0, .ref 0), (1, iv x), (2, iv y), (4, iv 3)]) rfl rfl (fun d => rfl) ?_
          refine y_ld (x := iv 0) rfl rfl (fun d => rfl) ?_
          refine y_bi rfl rfl (by decide) ?_
          refine y_jge rfl rfl rfl (by decide) (fun g20 => absurd g20 (by decide)) (fun g20 => ?_)
          refine y_ld (x := iv 3) rfl rfl (fun d => rfl) ?_
          refine y_zle rfl rfl rfl (by decide) (fun g21 => absurd g21 (by decide)) (fun g21 => ?_)
          refine y_ld (x := iv 3) rfl rfl (fun d => rfl) ?_
          refine y_ld (x := iv y) rfl rfl (fun d => rfl) ?_
          refine y_jeq rfl rfl rfl (by omega) (fun g22 => ?_) (fun g22 => ?_)
          · refine y_ld (x := iv 3) rfl rfl (fun d => rfl) ?_
            refine y_ld (x := iv y) rfl rfl (fun d => rfl) ?_
            refine y_jne rfl rfl rfl (by omega) (fun g23 => ?_) (fun g23 => ?_)
            · refine y_bi rfl rfl (by decide) ?_
              refine y_rI rfl (Or.inl rfl) ?_
              exact k12 gb1 (by omega) (by omega) hq (by omega) (by omega) (by omega) (by omega)
            · refine y_ld (x := .ref (10 + 6 * x.toNat)) rfl rfl (fun d => rfl) ?_
              refine y_gI (i := 2) (e := (V (10 + 6 * x.toNat) 2)) rfl rfl rfl (bx_ob hC (i := x.toNat) (by omega)) rfl rfl ?_
              refine y_go rfl rfl ?_
              refine y_rI rfl (Or.inl rfl) ?_
              exact k13 gb1 (by omega) (by omega) hq (by omega) (by omega) (by omega) (by omega)
          · refine y_in rfl rfl (fun d => rfl) ?_
            refine y_ld (x := iv 3) rfl rfl (fun d => rfl) ?_
            refine y_sti (n := 2) (i := 3) (f := 0) rfl rfl hXa h3X (by decide) rfl rfl ?_
            refine y_st (lv' := [(4, iv 0), (5, iv 0), (3, .ref (10 + 6 * x.toNat)), (0, .ref 0), (1, iv x), (2, iv y)]) rfl rfl (fun d => rfl) ?_
            refine y_inc (z := 1) (lv' := [(5, iv 1), (4, iv 0), (3, .ref (10 + 6 * x.toNat)), (0, .ref 0), (1, iv x), (2, iv y)]) rfl rfl rfl rfl rfl ?_
            refine y_go rfl rfl ?_
            refine y_ld (x := iv 1) rfl rfl (fun d => rfl) ?_
            refine y_bi rfl rfl (by decide) ?_
            refine y_jge rfl rfl rfl (by decide) (fun g24 => absurd g24 (by decide)) (fun g24 => ?_)
            refine y_ld (x := iv 0) rfl rfl (fun d => rfl) ?_
            refine y_zle rfl rfl rfl (by decide) (fun g25 => ?_) (fun g25 => absurd g25 (by decide))
            refine y_ld (x := iv 0) rfl rfl (fun d => rfl) ?_
            refine y_ld (x := iv y) rfl rfl (fun d => rfl) ?_
            refine y_jne rfl rfl rfl (by omega) (fun g26 => ?_) (fun g26 => ?_)
            · refine y_bi rfl rfl (by decide) ?_
              refine y_rI rfl (Or.inl rfl) ?_
              exact k14 gb1 (by omega) (by omega) hq (by omega) (by omega) (by omega) (by omega) (by omega) (by omega)
            · refine y_ld (x := .ref (10 + 6 * x.toNat)) rfl rfl (fun d => rfl) ?_
              refine y_gI (i := 2) (e := (V (10 + 6 * x.toNat) 2)) rfl rfl rfl (bx_ob hC (i := x.toNat) (by omega)) rfl rfl ?_
              refine y_go rfl rfl ?_
              refine y_rI rfl (Or.inl rfl) ?_
              exact k15 gb1 (by omega) (by omega) hq (by omega) (by omega) (by omega) (by omega) (by omega) (by omega)
        · refine y_lv (l' := [(3, .ref (10 + 6 * x.toNat)), (0, .ref 0), (1, iv x), (2, iv y), (4, iv 4)]) rfl ⟨rfl, rfl, rfl, rfl, congrArg (fun e => some (iv e)) hq, trivial⟩ ?_
          refine y_ic rfl rfl ?_
          refine y_st (lv' := [(5, iv 0), (3, .ref (10 + 6 * x.toNat)), (0, .ref 0), (1, iv x), (2, iv y), (4, iv 4)]) rfl rfl (fun d => rfl) ?_
          refine y_ld (x := iv 0) rfl rfl (fun d => rfl) ?_
          refine y_bi rfl rfl (by decide) ?_
          refine y_jge rfl rfl rfl (by decide) (fun g27 => absurd g27 (by decide)) (fun g27 => ?_)
          refine y_ld (x := iv 4) rfl rfl (fun d => rfl) ?_
          refine y_zle rfl rfl rfl (by decide) (fun g28 => absurd g28 (by decide)) (fun g28 => ?_)
          refine y_ld (x := iv 4) rfl rfl (fun d => rfl) ?_
          refine y_ld (x := iv y) rfl rfl (fun d => rfl) ?_
          refine y_jeq rfl rfl rfl (by omega) (fun g29 => ?_) (fun g29 => ?_)
          · refine y_ld (x := iv 4) rfl rfl (fun d => rfl) ?_
            refine y_ld (x := iv y) rfl rfl (fun d => rfl) ?_
            refine y_jne rfl rfl rfl (by omega) (fun g30 => ?_) (fun g30 => ?_)
            · refine y_bi rfl rfl (by decide) ?_
              refine y_rI rfl (Or.inl rfl) ?_
              exact k16 gb1 (by omega) (by omega) hq (by omega) (by omega) (by omega) (by omega)
            · refine y_ld (x := .ref (10 + 6 * x.toNat)) rfl rfl (fun d => rfl) ?_
              refine y_gI (i := 2) (e := (V (10 + 6 * x.toNat) 2)) rfl rfl rfl (bx_ob hC (i := x.toNat) (by omega)) rfl rfl ?_
              refine y_go rfl rfl ?_
              refine y_rI rfl (Or.inl rfl) ?_
              exact k17 gb1 (by omega) (by omega) hq (by omega) (by omega) (by omega) (by omega)
          · refine y_in rfl rfl (fun d => rfl) ?_
            refine y_ld (x := iv 4) rfl rfl (fun d => rfl) ?_
            refine y_sti (n := 2) (i := 4) (f := 1) rfl rfl hXa h3X (by decide) rfl rfl ?_
            refine y_st (lv' := [(4, iv 1), (5, iv 0), (3, .ref (10 + 6 * x.toNat)), (0, .ref 0), (1, iv x), (2, iv y)]) rfl rfl (fun d => rfl) ?_
            refine y_inc (z := 1) (lv' := [(5, iv 1), (4, iv 1), (3, .ref (10 + 6 * x.toNat)), (0, .ref 0), (1, iv x), (2, iv y)]) rfl rfl rfl rfl rfl ?_
            refine y_go rfl rfl ?_
            refine y_ld (x := iv 1) rfl rfl (fun d => rfl) ?_
            refine y_bi rfl rfl (by decide) ?_
            refine y_jge rfl rfl rfl (by decide) (fun g31 => absurd g31 (by decide)) (fun g31 => ?_)
            refine y_ld (x := iv 1) rfl rfl (fun d => rfl) ?_
            refine y_zle rfl rfl rfl (by decide) (fun g32 => absurd g32 (by decide)) (fun g32 => ?_)
            refine y_ld (x := iv 1) rfl rfl (fun d => rfl) ?_
            refine y_ld (x := iv y) rfl rfl (fun d => rfl) ?_
            refine y_jeq rfl rfl rfl (by omega) (fun g33 => ?_) (fun g33 => ?_)
            · refine y_ld (x := iv 1) rfl rfl (fun d => rfl) ?_
              refine y_ld (x := iv y) rfl rfl (fun d => rfl) ?_
              refine y_jne rfl rfl rfl (by omega) (fun g34 => ?_) (fun g34 => ?_)
              · refine y_bi rfl rfl (by decide) ?_
                refine y_rI rfl (Or.inl rfl) ?_
                exact k18 gb1 (by omega) (by omega) hq (by omega) (by omega) (by omega) (by omega) (by omega) (by omega) (by omega)
              · refine y_ld (x := .ref (10 + 6 * x.toNat)) rfl rfl (fun d => rfl) ?_
                refine y_gI (i := 2) (e := (V (10 + 6 * x.toNat) 2)) rfl rfl rfl (bx_ob hC (i := x.toNat) (by omega)) rfl rfl ?_
                refine y_go rfl rfl ?_
                refine y_rI rfl (Or.inl rfl) ?_
                exact k19 gb1 (by omega) (by omega) hq (by omega) (by omega) (by omega) (by omega) (by omega) (by omega) (by omega)
            · refine y_in rfl rfl (fun d => rfl) ?_
              refine y_ld (x := iv 1) rfl rfl (fun d => rfl) ?_
              refine y_sti (n := 2) (i := 1) (f := 0) rfl rfl hXa h3X (by decide) rfl rfl ?_
              refine y_st (lv' := [(4, iv 0), (5, iv 1), (3, .ref (10 + 6 * x.toNat)), (0, .ref 0), (1, iv x), (2, iv y)]) rfl rfl (fun d => rfl) ?_
              refine y_inc (z := 2) (lv' := [(5, iv 2), (4, iv 0), (3, .ref (10 + 6 * x.toNat)), (0, .ref 0), (1, iv x), (2, iv y)]) rfl rfl rfl rfl rfl ?_
              refine y_go rfl rfl ?_
              refine y_ld (x := iv 2) rfl rfl (fun d => rfl) ?_
              refine y_bi rfl rfl (by decide) ?_
              refine y_jge rfl rfl rfl (by decide) (fun g35 => absurd g35 (by decide)) (fun g35 => ?_)
              refine y_ld (x := iv 0) rfl rfl (fun d => rfl) ?_
              refine y_zle rfl rfl rfl (by decide) (fun g36 => ?_) (fun g36 => absurd g36 (by decide))
              refine y_ld (x := iv 0) rfl rfl (fun d => rfl) ?_
              refine y_ld (x := iv y) rfl rfl (fun d => rfl) ?_
              refine y_jne rfl rfl rfl (by omega) (fun g37 => ?_) (fun g37 => ?_)
              · refine y_bi rfl rfl (by decide) ?_
                refine y_rI rfl (Or.inl rfl) ?_
                exact k20 gb1 (by omega) (by omega) hq (by omega) (by omega) (by omega) (by omega) (by omega) (by omega) (by omega) (by omega) (by omega)
              · refine y_ld (x := .ref (10 + 6 * x.toNat)) rfl rfl (fun d => rfl) ?_
                refine y_gI (i := 2) (e := (V (10 + 6 * x.toNat) 2)) rfl rfl rfl (bx_ob hC (i := x.toNat) (by omega)) rfl rfl ?_
                refine y_go rfl rfl ?_
                refine y_rI rfl (Or.inl rfl) ?_
                exact k21 gb1 (by omega) (by omega) hq (by omega) (by omega) (by omega) (by omega) (by omega) (by omega) (by omega) (by omega) (by omega)
        · refine y_lv (l' := [(3, .ref (10 + 6 * x.toNat)), (0, .ref 0), (1, iv x), (2, iv y), (4, iv 5)]) rfl ⟨rfl, rfl, rfl, rfl, congrArg (fun e => some (iv e)) hq, trivial⟩ ?_
          refine y_ic rfl rfl ?_
          refine y_st (lv' := [(5, iv 0), (3, .ref (10 + 6 * x.toNat)), (0, .ref 0), (1, iv x), (2, iv y), (4, iv 5)]) rfl rfl (fun d => rfl) ?_
          refine y_ld (x := iv 0) rfl rfl (fun d => rfl) ?_
          refine y_bi rfl rfl (by decide) ?_
          refine y_jge rfl rfl rfl (by decide) (fun g38 => absurd g38 (by decide)) (fun g38 => ?_)
          refine y_ld (x := iv 5) rfl rfl (fun d => rfl) ?_
          refine y_zle rfl rfl rfl (by decide) (fun g39 => absurd g39 (by decide)) (fun g39 => ?_)
          refine y_ld (x := iv 5) rfl rfl (fun d => rfl) ?_
          refine y_ld (x := iv y) rfl rfl (fun d => rfl) ?_
          refine y_jeq rfl rfl rfl (by omega) (fun g40 => ?_) (fun g40 => ?_)
          · refine y_ld (x := iv 5) rfl rfl (fun d => rfl) ?_
            refine y_ld (x := iv y) rfl rfl (fun d => rfl) ?_
            refine y_jne rfl rfl rfl (by omega) (fun g41 => ?_) (fun g41 => ?_)
            · refine y_bi rfl rfl (by decide) ?_
              refine y_rI rfl (Or.inl rfl) ?_
              exact k22 gb1 (by omega) (by omega) hq (by omega) (by omega) (by omega) (by omega)
            · refine y_ld (x := .ref (10 + 6 * x.toNat)) rfl rfl (fun d => rfl) ?_
              refine y_gI (i := 2) (e := (V (10 + 6 * x.toNat) 2)) rfl rfl rfl (bx_ob hC (i := x.toNat) (by omega)) rfl rfl ?_
              refine y_go rfl rfl ?_
              refine y_rI rfl (Or.inl rfl) ?_
              exact k23 gb1 (by omega) (by omega) hq (by omega) (by omega) (by omega) (by omega)
          · refine y_in rfl rfl (fun d => rfl) ?_
            refine y_ld (x := iv 5) rfl rfl (fun d => rfl) ?_
            refine y_sti (n := 2) (i := 5) (f := 3) rfl rfl hXa h3X (by decide) rfl rfl ?_
            refine y_st (lv' := [(4, iv 3), (5, iv 0), (3, .ref (10 + 6 * x.toNat)), (0, .ref 0), (1, iv x), (2, iv y)]) rfl rfl (fun d => rfl) ?_
            refine y_inc (z := 1) (lv' := [(5, iv 1), (4, iv 3), (3, .ref (10 + 6 * x.toNat)), (0, .ref 0), (1, iv x), (2, iv y)]) rfl rfl rfl rfl rfl ?_
            refine y_go rfl rfl ?_
            refine y_ld (x := iv 1) rfl rfl (fun d => rfl) ?_
            refine y_bi rfl rfl (by decide) ?_
            refine y_jge rfl rfl rfl (by decide) (fun g42 => absurd g42 (by decide)) (fun g42 => ?_)
            refine y_ld (x := iv 3) rfl rfl (fun d => rfl) ?_
            refine y_zle rfl rfl rfl (by decide) (fun g43 => absurd g43 (by decide)) (fun g43 => ?_)
            refine y_ld (x := iv 3) rfl rfl (fun d => rfl) ?_
            refine y_ld (x := iv y) rfl rfl (fun d => rfl) ?_
            refine y_jeq rfl rfl rfl (by omega) (fun g44 => ?_) (fun g44 => ?_)
            · refine y_ld (x := iv 3) rfl rfl (fun d => rfl) ?_
              refine y_ld (x := iv y) rfl rfl (fun d => rfl) ?_
              refine y_jne rfl rfl rfl (by omega) (fun g45 => ?_) (fun g45 => ?_)
              · refine y_bi rfl rfl (by decide) ?_
                refine y_rI rfl (Or.inl rfl) ?_
                exact k24 gb1 (by omega) (by omega) hq (by omega) (by omega) (by omega) (by omega) (by omega) (by omega) (by omega)
              · refine y_ld (x := .ref (10 + 6 * x.toNat)) rfl rfl (fun d => rfl) ?_
                refine y_gI (i := 2) (e := (V (10 + 6 * x.toNat) 2)) rfl rfl rfl (bx_ob hC (i := x.toNat) (by omega)) rfl rfl ?_
                refine y_go rfl rfl ?_
                refine y_rI rfl (Or.inl rfl) ?_
                exact k25 gb1 (by omega) (by omega) hq (by omega) (by omega) (by omega) (by omega) (by omega) (by omega) (by omega)
            · refine y_in rfl rfl (fun d => rfl) ?_
              refine y_ld (x := iv 3) rfl rfl (fun d => rfl) ?_
              refine y_sti (n := 2) (i := 3) (f := 0) rfl rfl hXa h3X (by decide) rfl rfl ?_
              refine y_st (lv' := [(4, iv 0), (5, iv 1), (3, .ref (10 + 6 * x.toNat)), (0, .ref 0), (1, iv x), (2, iv y)]) rfl rfl (fun d => rfl) ?_
              refine y_inc (z := 2) (lv' := [(5, iv 2), (4, iv 0), (3, .ref (10 + 6 * x.toNat)), (0, .ref 0), (1, iv x), (2, iv y)]) rfl rfl rfl rfl rfl ?_
              refine y_go rfl rfl ?_
              refine y_ld (x := iv 2) rfl rfl (fun d => rfl) ?_
              refine y_bi rfl rfl (by decide) ?_
              refine y_jge rfl rfl rfl (by decide) (fun g46 => absurd g46 (by decide)) (fun g46 => ?_)
              refine y_ld (x := iv 0) rfl rfl (fun d => rfl) ?_
              refine y_zle rfl rfl rfl (by decide) (fun g47 => ?_) (fun g47 => absurd g47 (by decide))
              refine y_ld (x := iv 0) rfl rfl (fun d => rfl) ?_
              refine y_ld (x := iv y) rfl rfl (fun d => rfl) ?_
              refine y_jne rfl rfl rfl (by omega) (fun g48 => ?_) (fun g48 => ?_)
              · refine y_bi rfl rfl (by decide) ?_
                refine y_rI rfl (Or.inl rfl) ?_
                exact k26 gb1 (by omega) (by omega) hq (by omega) (by omega) (by omega) (by omega) (by omega) (by omega) (by omega) (by omega) (by omega)
              · refine y_ld (x := .ref (10 + 6 * x.toNat)) rfl rfl (fun d => rfl) ?_
                refine y_gI (i := 2) (e := (V (10 + 6 * x.toNat) 2)) rfl rfl rfl (bx_ob hC (i := x.toNat) (by omega)) rfl rfl ?_
                refine y_go rfl rfl ?_
                refine y_rI rfl (Or.inl rfl) ?_
                exact k27 gb1 (by omega) (by omega) hq (by omega) (by omega) (by omega) (by omega) (by omega) (by omega) (by omega) (by omega) (by omega)
        · refine y_lv (l' := [(3, .ref (10 + 6 * x.toNat)), (0, .ref 0), (1, iv x), (2, iv y), (4, iv 6)]) rfl ⟨rfl, rfl, rfl, rfl, congrArg (fun e => some (iv e)) hq, trivial⟩ ?_
          refine y_ic rfl rfl ?_
          refine y_st (lv' := [(5, iv 0), (3, .ref (10 + 6 * x.toNat)), (0, .ref 0), (1, iv x), (2, iv y), (4, iv 6)]) rfl rfl (fun d => rfl) ?_
          refine y_ld (x := iv 0) rfl rfl (fun d => rfl) ?_
          refine y_bi rfl rfl (by decide) ?_
          refine y_jge rfl rfl rfl (by decide) (fun g49 => absurd g49 (by decide)) (fun g49 => ?_)
          refine y_ld (x := iv 6) rfl rfl (fun d => rfl) ?_
          refine y_zle rfl rfl rfl (by decide) (fun g50 => absurd g50 (by decide)) (fun g50 => ?_)
          refine y_ld (x := iv 6) rfl rfl (fun d => rfl) ?_
          refine y_ld (x := iv y) rfl rfl (fun d => rfl) ?_
          refine y_jeq rfl rfl rfl (by omega) (fun g51 => ?_) (fun g51 => ?_)
          · refine y_ld (x := iv 6) rfl rfl (fun d => rfl) ?_
            refine y_ld (x := iv y) rfl rfl (fun d => rfl) ?_
            refine y_jne rfl rfl rfl (by omega) (fun g52 => ?_) (fun g52 => ?_)
            · refine y_bi rfl rfl (by decide) ?_
              refine y_rI rfl (Or.inl rfl) ?_
              exact k28 gb1 (by omega) (by omega) hq (by omega) (by omega) (by omega) (by omega)
            · refine y_ld (x := .ref (10 + 6 * x.toNat)) rfl rfl (fun d => rfl) ?_
              refine y_gI (i := 2) (e := (V (10 + 6 * x.toNat) 2)) rfl rfl rfl (bx_ob hC (i := x.toNat) (by omega)) rfl rfl ?_
              refine y_go rfl rfl ?_
              refine y_rI rfl (Or.inl rfl) ?_
              exact k29 gb1 (by omega) (by omega) hq (by omega) (by omega) (by omega) (by omega)
          · refine y_in rfl rfl (fun d => rfl) ?_
            refine y_ld (x := iv 6) rfl rfl (fun d => rfl) ?_
            refine y_sti (n := 2) (i := 6) (f := 0) rfl rfl hXa h3X (by decide) rfl rfl ?_
            refine y_st (lv' := [(4, iv 0), (5, iv 0), (3, .ref (10 + 6 * x.toNat)), (0, .ref 0), (1, iv x), (2, iv y)]) rfl rfl (fun d => rfl) ?_
            refine y_inc (z := 1) (lv' := [(5, iv 1), (4, iv 0), (3, .ref (10 + 6 * x.toNat)), (0, .ref 0), (1, iv x), (2, iv y)]) rfl rfl rfl rfl rfl ?_
            refine y_go rfl rfl ?_
            refine y_ld (x := iv 1) rfl rfl (fun d => rfl) ?_
            refine y_bi rfl rfl (by decide) ?_
            refine y_jge rfl rfl rfl (by decide) (fun g53 => absurd g53 (by decide)) (fun g53 => ?_)
            refine y_ld (x := iv 0) rfl rfl (fun d => rfl) ?_
            refine y_zle rfl rfl rfl (by decide) (fun g54 => ?_) (fun g54 => absurd g54 (by decide))
            refine y_ld (x := iv 0) rfl rfl (fun d => rfl) ?_
            refine y_ld (x := iv y) rfl rfl (fun d => rfl) ?_
            refine y_jne rfl rfl rfl (by omega) (fun g55 => ?_) (fun g55 => ?_)
            · refine y_bi rfl rfl (by decide) ?_
              refine y_rI rfl (Or.inl rfl) ?_
              exact k30 gb1 (by omega) (by omega) hq (by omega) (by omega) (by omega) (by omega) (by omega) (by omega)
            · refine y_ld (x := .ref (10 + 6 * x.toNat)) rfl rfl (fun d => rfl) ?_
              refine y_gI (i := 2) (e := (V (10 + 6 * x.toNat) 2)) rfl rfl rfl (bx_ob hC (i := x.toNat) (by omega)) rfl rfl ?_
              refine y_go rfl rfl ?_
              refine y_rI rfl (Or.inl rfl) ?_
              exact k31 gb1 (by omega) (by omega) hq (by omega) (by omega) (by omega) (by omega) (by omega) (by omega)
      · refine y_ic rfl rfl ?_
        refine y_rI rfl (Or.inl rfl) ?_
        exact k32 gb1 (by omega) (by omega)
end
end
section
/-! WHAT A TEXT DOES WITH A PACKET (t h k n), as a function of a MEMORY μ -/
def wr (e : Int) : Int := (Int32.ofInt e).toInt
theorem wr_rg (e : Int) : -2147483648 ≤ wr e ∧ wr e < 2147483648 := by
  have h1 := (Int32.ofInt e).le_toInt
  have h2 := (Int32.ofInt e).toInt_lt
  unfold wr
  omega
theorem wr_iv (e : Int) : iv e = iv (wr e) := (v_oi (Int32.ofInt e)).symm
def eV (μ : Nat → Int) (t h k n c : Int) : Int := if c < 100 then c else if c = 100 then k else if c = 101 then h else if c = 102 then n else μ (z_pl (c - 104) t h).toNat
def eT (μ : Nat → Int) (t h k n c a b : Int) : Bool := if c = 120 then decide (eV μ t h k n a < eV μ t h k n b) else if c = 121 then decide (eV μ t h k n a = eV μ t h k n b) else decide (eV μ t h k n b < eV μ t h k n a)
def eK1 (μ : Nat → Int) (t h k n : Int) : p_Tk → List Bool → List Bool
  | (c, a, b), s => if c ≤ 122 then eT μ t h k n c a b :: s else if c = 123 then (match s with
      | y :: r => (!y) :: r
      | [] => []) else (match s with
      | y :: x :: r => (if c = 124 then (x && y) else (x || y)) :: r
      | r => r)
def eK (μ : Nat → Int) (t h k n : Int) : List p_Tk → List Bool → List Bool
  | [], s => s
  | a :: r, s => eK μ t h k n r (eK1 μ t h k n a s)
def hd1 : List Bool → Bool
  | [] => true
  | b :: _ => b
def eH (μ : Nat → Int) (t h k n : Int) (l : List p_Tk) : Bool := hd1 (eK μ t h k n l [])
def eM (μ : Nat → Int) (t h k n : Int) (x : p_Li) : Bool := (decide (x.1 = 4) || decide (x.1 = k)) && eH μ t h k n x.2.2.1
def eS1 (μ : Nat → Int) (t h k n s x : Int) : Int := if x < 256 then s + eV μ t h k n x else s - eV μ t h k n (x - 256)
def eS (μ : Nat → Int) (t h k n : Int) : Int → List Int → Int
  | s, [] => s
  | s, x :: r => eS μ t h k n (eS1 μ t h k n s x) r
def eA (t h k n : Int) : List p_Ac → (Nat → Int) → Int × (Nat → Int)
  | [], μ => (1, μ)
  | (c, l) :: r, μ => if c = 126 then (1, μ) else if c = 127 then (0, μ) else if c = 128 then (2, z_fl μ (4 * t.toNat) 4 0)
    else eA t h k n r (v_uf μ (z_pl (c - 104) t h).toNat (wr (eS μ t h k n 0 l)))
/-- the first LINE that is for it, counted from i on -/
def eL (μ : Nat → Int) (t h k n : Int) : Nat → List p_Li → Int
  | _, [] => -5
  | i, x :: r => if eM μ t h k n x = true then (i : Int) else eL μ t h k n (i + 1) r
/-- how it ends, and the MEMORY then -/
def eW (t h k n : Int) : List p_Li → (Nat → Int) → Int × (Nat → Int)
  | [], μ => (1, μ)
  | x :: r, μ => if eM μ t h k n x = true then eA t h k n x.2.2.2 μ else eW t h k n r μ
theorem eLW (μ : Nat → Int) (t h k n : Int) : ∀ (l : List p_Li) (i : Nat), (eL μ t h k n i l = -5 ∧ eW t h k n l μ = (1, μ)) ∨ ∃ j x, eL μ t h k n i l = ((i + j : Nat) : Int) ∧ m_nth l j = some x ∧ eW t h k n l μ = eA t h k n x.2.2.2 μ
  | [], i => Or.inl ⟨rfl, rfl⟩
  | x :: r, i => by
    by_cases hx : eM μ t h k n x = true
    · exact Or.inr ⟨0, x, if_pos hx, rfl, if_pos hx⟩
    · have e1 : eL μ t h k n i (x :: r) = eL μ t h k n (i + 1) r := if_neg hx
      have e2 : eW t h k n (x :: r) μ = eW t h k n r μ := if_neg hx
      rw [e1, e2]
      rcases eLW μ t h k n r (i + 1) with ⟨a, b⟩ | ⟨j, y, a, b, c⟩
      · exact Or.inl ⟨a, b⟩
      · exact Or.inr ⟨j + 1, y, by rw [a]; congr 1; omega, b, c⟩
/-- a packet's numbers -/
def pkO (t h k n : Int) : Prop := (0 ≤ t ∧ t < 16) ∧ (0 ≤ h ∧ h < 4) ∧ (0 ≤ k ∧ k < 4) ∧ (0 ≤ n ∧ n ≤ 99)
/-- a MEMORY's numbers -/
def muO (μ : Nat → Int) : Prop := ∀ p : Nat, p < 84 → -2147483648 ≤ μ p ∧ μ p < 2147483648
theorem tcd_pl {c t h k n : Int} (hc : tcd c) (hp : pkO t h k n) (h2 : 102 < c) : 0 ≤ z_pl (c - 104) t h ∧ z_pl (c - 104) t h < 84 := by
  obtain ⟨p1, p2, -, -⟩ := hp
  unfold tcd at hc
  exact z_pl_lt (by omega) (fun _ => p1) (fun _ _ => p2)
theorem eV_congr {μ ν : Nat → Int} {t h k n c : Int} (hm : ∀ p : Nat, p < 84 → μ p = ν p) (hc : tcd c) (hp : pkO t h k n) : eV μ t h k n c = eV ν t h k n c := by
  unfold eV
  by_cases h1 : c < 100
  · rw [if_pos h1, if_pos h1]
  by_cases h2 : c = 100
  · rw [if_neg h1, if_neg h1, if_pos h2, if_pos h2]
  by_cases h3 : c = 101
  · rw [if_neg h1, if_neg h1, if_neg h2, if_neg h2, if_pos h3, if_pos h3]
  by_cases h4 : c = 102
  · rw [if_neg h1, if_neg h1, if_neg h2, if_neg h2, if_neg h3, if_neg h3, if_pos h4, if_pos h4]
  · rw [if_neg h1, if_neg h1, if_neg h2, if_neg h2, if_neg h3, if_neg h3, if_neg h4, if_neg h4]
    have := tcd_pl hc hp (by omega)
    exact hm _ (by omega)
theorem eV_rg {μ : Nat → Int} {t h k n c : Int} (hm : muO μ) (hc : tcd c) (hp : pkO t h k n) : -2147483648 ≤ eV μ t h k n c ∧ eV μ t h k n c < 2147483648 := by
  have hp' := hp
  obtain ⟨p1, p2, p3, p4⟩ := hp'
  unfold eV
  split
  · unfold tcd at hc
    omega
  split
  · omega
  split
  · omega
  split
  · omega
  · have := tcd_pl hc hp (by omega)
    exact hm _ (by omega)
theorem eK_congr {μ ν : Nat → Int} {t h k n : Int} (hm : ∀ p : Nat, p < 84 → μ p = ν p) (hp : pkO t h k n) : ∀ (l : List p_Tk) (s : List Bool), tkO l → eK μ t h k n l s = eK ν t h k n l s
  | [], s, _ => rfl
  | (c, a, b) :: r, s, ho => by
    have e1 : eK1 μ t h k n (c, a, b) s = eK1 ν t h k n (c, a, b) s := by
      show (if c ≤ 122 then eT μ t h k n c a b :: s else _) = (if c ≤ 122 then eT ν t h k n c a b :: s else _)
      by_cases h1 : c ≤ 122
      · rw [if_pos h1, if_pos h1]
        have h2 := ho _ List.mem_cons_self h1
        unfold eT
        rw [eV_congr hm h2.2.1 hp, eV_congr hm h2.2.2 hp]
      · rw [if_neg h1, if_neg h1]
    show eK μ t h k n r (eK1 μ t h k n (c, a, b) s) = eK ν t h k n r (eK1 ν t h k n (c, a, b) s)
    rw [e1]
    exact eK_congr hm hp r _ (fun x hx => ho x (List.mem_cons_of_mem _ hx))
theorem eM_congr {μ ν : Nat → Int} {t h k n : Int} (hm : ∀ p : Nat, p < 84 → μ p = ν p) (hp : pkO t h k n) {x : p_Li} (hx : liO x) : eM μ t h k n x = eM ν t h k n x := by
  unfold eM eH
  rw [eK_congr hm hp _ _ hx.1]
theorem eL_congr {μ ν : Nat → Int} {t h k n : Int} (hm : ∀ p : Nat, p < 84 → μ p = ν p) (hp : pkO t h k n) : ∀ (l : List p_Li) (i : Nat), lsO l → eL μ t h k n i l = eL ν t h k n i l
  | [], _, _ => rfl
  | x :: r, i, ho => by
    unfold eL
    rw [eM_congr hm hp (ho x List.mem_cons_self), eL_congr hm hp r (i + 1) (fun y hy => ho y (List.mem_cons_of_mem _ hy))]
theorem eS_congr {μ ν : Nat → Int} {t h k n : Int} (hm : ∀ p : Nat, p < 84 → μ p = ν p) (hp : pkO t h k n) : ∀ (l : List Int) (s : Int), smO l → eS μ t h k n s l = eS ν t h k n s l
  | [], s, _ => rfl
  | x :: r, s, ho => by
    have h1 := ho x List.mem_cons_self
    have e1 : eS1 μ t h k n s x = eS1 ν t h k n s x := by
      unfold raw at h1
      unfold eS1
      by_cases h2 : x < 256
      · rw [if_pos h2] at h1
        rw [if_pos h2, if_pos h2, eV_congr hm h1 hp]
      · rw [if_neg h2] at h1
        rw [if_neg h2, if_neg h2, eV_congr hm h1 hp]
    show eS μ t h k n (eS1 μ t h k n s x) r = eS ν t h k n (eS1 ν t h k n s x) r
    rw [e1]
    exact eS_congr hm hp r _ (fun y hy => ho y (List.mem_cons_of_mem _ hy))
theorem eA_congr {t h k n : Int} (hp : pkO t h k n) : ∀ (l : List p_Ac) (μ ν : Nat → Int), (∀ p : Nat, p < 84 → μ p = ν p) → acO l → (eA t h k n l μ).1 = (eA t h k n l ν).1 ∧ ∀ p : Nat, p < 84 → (eA t h k n l μ).2 p = (eA t h k n l ν).2 p
  | [], μ, ν, hm, _ => ⟨rfl, hm⟩
  | (c, l) :: r, μ, ν, hm, ho => by
    have hc := ho _ List.mem_cons_self
    unfold eA
    by_cases h1 : c = 126
    · rw [if_pos h1, if_pos h1]
      exact ⟨rfl, hm⟩
    rw [if_neg h1, if_neg h1]
    by_cases h2 : c = 127
    · rw [if_pos h2, if_pos h2]
      exact ⟨rfl, hm⟩
    rw [if_neg h2, if_neg h2]
    by_cases h3 : c = 128
    · rw [if_pos h3, if_pos h3]
      refine ⟨rfl, fun p hp => ?_⟩
      show z_fl μ _ 4 0 p = z_fl ν _ 4 0 p
      unfold z_fl
      split
      · rfl
      · exact hm p hp
    rw [if_neg h3, if_neg h3]
    simp only at hc
    have hc2 : smO l := by
      rcases hc with q | q
      · omega
      · exact q.2.2.1
    refine eA_congr hp r _ _ (fun p hp2 => ?_) (fun y hy => ho y (List.mem_cons_of_mem _ hy))
    rw [eS_congr hm hp l 0 hc2]
    unfold v_uf
    split
    · rfl
    · exact hm p hp2
theorem eA_rg {t h k n : Int} : ∀ (l : List p_Ac) (μ : Nat → Int), muO μ → muO (eA t h k n l μ).2 ∧ 0 ≤ (eA t h k n l μ).1 ∧ (eA t h k n l μ).1 ≤ 2
  | [], μ, hm => ⟨hm, by show (0 : Int) ≤ 1; decide, by show (1 : Int) ≤ 2; decide⟩
  | (c, l) :: r, μ, hm => by
    unfold eA
    split
    · exact ⟨hm, by show (0 : Int) ≤ 1; decide, by show (1 : Int) ≤ 2; decide⟩
    split
    · exact ⟨hm, by show (0 : Int) ≤ 0; decide, by show (0 : Int) ≤ 2; decide⟩
    split
    · refine ⟨fun p hp => ?_, by show (0 : Int) ≤ 2; decide, by show (2 : Int) ≤ 2; decide⟩
      show -2147483648 ≤ z_fl μ _ 4 0 p ∧ z_fl μ _ 4 0 p < 2147483648
      unfold z_fl
      split
      · omega
      · exact hm p hp
    · refine eA_rg r _ (fun p hp => ?_)
      unfold v_uf
      split
      · exact wr_rg _
      · exact hm p hp
theorem eW_rg {t h k n : Int} : ∀ (l : List p_Li) (μ : Nat → Int), muO μ → muO (eW t h k n l μ).2 ∧ 0 ≤ (eW t h k n l μ).1 ∧ (eW t h k n l μ).1 ≤ 2
  | [], μ, hm => ⟨hm, by show (0 : Int) ≤ 1; decide, by show (1 : Int) ≤ 2; decide⟩
  | x :: r, μ, hm => by
    unfold eW
    split
    · exact eA_rg _ _ hm
    · exact eW_rg r μ hm
theorem eW_congr {t h k n : Int} (hp : pkO t h k n) : ∀ (l : List p_Li) (μ ν : Nat → Int), (∀ p : Nat, p < 84 → μ p = ν p) → lsO l → (eW t h k n l μ).1 = (eW t h k n l ν).1 ∧ ∀ p : Nat, p < 84 → (eW t h k n l μ).2 p = (eW t h k n l ν).2 p
  | [], μ, ν, hm, _ => ⟨rfl, hm⟩
  | x :: r, μ, ν, hm, ho => by
    have hx := ho x List.mem_cons_self
    unfold eW
    rw [eM_congr hm hp hx]
    split
    · exact eA_congr hp _ _ _ hm hx.2.1
    · exact eW_congr hp r μ ν hm (fun y hy => ho y (List.mem_cons_of_mem _ hy))
theorem eL_rg (μ : Nat → Int) (t h k n : Int) : ∀ (l : List p_Li) (i : Nat), -5 ≤ eL μ t h k n i l ∧ eL μ t h k n i l < i + l.length
  | [], i => by
    show -5 ≤ (-5 : Int) ∧ (-5 : Int) < i + ([] : List p_Li).length
    omega
  | x :: r, i => by
    have ih := eL_rg μ t h k n r (i + 1)
    unfold eL
    simp only [List.length_cons]
    split <;> omega
/-! the stack of truths: how deep -/
def dpt (D : Nat) : List p_Tk → Nat → Nat → Prop
  | [], k, k' => k = k'
  | (c, _, _) :: r, k, k' => if c ≤ 122 then k < D ∧ dpt D r (k + 1) k' else if c = 123 then 1 ≤ k ∧ dpt D r k k' else (c = 124 ∨ c = 125) ∧ 2 ≤ k ∧ dpt D r (k - 1) k'
theorem dpt_app {D : Nat} : ∀ (l r : List p_Tk) (k j k' : Nat), dpt D l k j → dpt D r j k' → dpt D (l ++ r) k k'
  | [], r, k, j, k', h1, h2 => by
    have h1 : k = j := h1
    subst h1
    exact h2
  | (c, a, b) :: l, r, k, j, k', h1, h2 => by
    unfold dpt at h1
    show dpt D ((c, a, b) :: (l ++ r)) k k'
    unfold dpt
    split at h1
    · rename_i hc
      rw [if_pos hc]
      exact ⟨h1.1, dpt_app l r _ _ _ h1.2 h2⟩
    · rename_i hc
      rw [if_neg hc]
      split at h1
      · rename_i hc2
        rw [if_pos hc2]
        exact ⟨h1.1, dpt_app l r _ _ _ h1.2 h2⟩
      · rename_i hc2
        rw [if_neg hc2]
        exact ⟨h1.1, h1.2.1, dpt_app l r _ _ _ h1.2.2 h2⟩
theorem dpt_1 {D k : Nat} {t : p_Tk} (h : t.1 ≤ 122) (hk : k < D) : dpt D [t] k (k + 1) := by
  obtain ⟨c, a, b⟩ := t
  unfold dpt
  rw [if_pos h]
  exact ⟨hk, rfl⟩
theorem dpt_n {D k : Nat} (hk : 1 ≤ k) : dpt D [(123, 0, 0)] k k := ⟨hk, rfl⟩
theorem dpt_j {D k : Nat} {c : Int} (hc : c = 124 ∨ c = 125) (hk : 1 ≤ k) : dpt D [(c, 0, 0)] (k + 1) k := by
  unfold dpt
  rw [if_neg (by omega), if_neg (by omega)]
  exact ⟨hc, by omega, rfl⟩
/-- what a part of E puts behind the things so far: they go from depth k to j, never above D -/
def dpX (D o : Nat) : Nat → List p_Tk → Prop
  | 0, r => ∀ k, k + (2 * (5 - o) + 1) ≤ D → dpt D r k (k + 1)
  | 1, r => ∀ k, k + (2 * (5 - o) + 2) ≤ D → dpt D r k (k + 1)
  | 2, r => ∀ k, 1 ≤ k → k + (2 * (5 - o) + 1) ≤ D → dpt D r k k
  | 3, r => ∀ k, k + (2 * (5 - o) + 3) ≤ D → dpt D r k (k + 1)
  | _, r => ∀ k, 1 ≤ k → k + (2 * (5 - o) + 2) ≤ D → dpt D r k k
theorem pX_dp {D : Nat} {τ : Nat → Int} {z : Nat} : ∀ (n md o p : Nat) (acc l : List p_Tk) (q : Nat), md ≤ 4 → o ≤ 5 → p ≤ z → pX τ z n md o p acc = (some l, q) → ∃ r, l = acc ++ r ∧ dpX D o md r
  | 0, md, o, p, acc, l, q, hm, ho, hp, h => by
    unfold pX at h
    cases h
  | n + 1, 0, o, p, acc, l, q, hm, ho, hp, h => by
    have h0 : hr τ z p ≠ -1 → p < z := hr_le
    rw [pX_F] at h
    split at h
    · split at h
      · cases h
      · have hlt := h0 (by omega)
        split at h
        · rename_i l1 q1 e1
          obtain ⟨r, e2, k⟩ := pX_dp (D := D) n 0 (o + 1) (p + 1) acc _ _ (by decide) (by omega) (by omega) e1
          cases h
          refine ⟨r ++ [(123, 0, 0)], by rw [e2, List.append_assoc], fun d hd => ?_⟩
          exact dpt_app _ _ _ _ _ (k d (by omega)) (dpt_n (by omega))
        · cases h
    · split at h
      · split at h
        · cases h
        · have hlt := h0 (by omega)
          split at h
          · rename_i l1 q1 e1
            obtain ⟨r, e2, k⟩ := pX_dp (D := D) n 3 (o + 1) (p + 1) acc _ _ (by decide) (by omega) (by omega) e1
            split at h
            · cases h
              exact ⟨r, e2, fun d hd => k d (by omega)⟩
            · cases h
          · cases h
      · split at h
        · rename_i t1 q1 e1
          have k := pS_ok hp e1
          cases h
          refine ⟨[t1], rfl, fun d hd => ?_⟩
          exact dpt_1 (k.2.2 t1 rfl).2.2.1 (by omega)
        · cases h
  | n + 1, 1, o, p, acc, l, q, hm, ho, hp, h => by
    rw [pX_T] at h
    split at h
    · rename_i l1 q1 e1
      obtain ⟨r, e2, k⟩ := pX_dp (D := D) n 0 o p acc _ _ (by decide) ho hp e1
      obtain ⟨r2, e3, k2⟩ := pX_dp (D := D) n 2 o q1 l1 _ _ (by decide) ho (pX_ok n 0 o p acc _ _ (by decide) hp e1).2.1 h
      refine ⟨r ++ r2, by rw [e3, e2, List.append_assoc], fun d hd => ?_⟩
      exact dpt_app _ _ _ _ _ (k d (by omega)) (k2 (d + 1) (by omega) (by omega))
    · cases h
  | n + 1, 2, o, p, acc, l, q, hm, ho, hp, h => by
    have h0 : hr τ z p ≠ -1 → p < z := hr_le
    rw [pX_Tl] at h
    split at h
    · have hlt := h0 (by omega)
      split at h
      · rename_i l1 q1 e1
        obtain ⟨r, e2, k⟩ := pX_dp (D := D) n 0 o (p + 1) acc _ _ (by decide) ho (by omega) e1
        obtain ⟨r2, e3, k2⟩ := pX_dp (D := D) n 2 o q1 _ _ _ (by decide) ho (pX_ok n 0 o (p + 1) acc _ _ (by decide) (by omega) e1).2.1 h
        refine ⟨r ++ ([(124, 0, 0)] ++ r2), by rw [e3, e2]; simp only [List.append_assoc], fun d h1 hd => ?_⟩
        exact dpt_app _ _ _ _ _ (k d hd) (dpt_app _ _ _ _ _ (dpt_j (Or.inl rfl) h1) (k2 d h1 hd))
      · cases h
    · cases h
      exact ⟨[], (List.append_nil _).symm, fun d _ _ => rfl⟩
  | n + 1, 3, o, p, acc, l, q, hm, ho, hp, h => by
    rw [pX_E] at h
    split at h
    · rename_i l1 q1 e1
      obtain ⟨r, e2, k⟩ := pX_dp (D := D) n 1 o p acc _ _ (by decide) ho hp e1
      obtain ⟨r2, e3, k2⟩ := pX_dp (D := D) n 4 o q1 l1 _ _ (by decide) ho (pX_ok n 1 o p acc _ _ (by decide) hp e1).2.1 h
      refine ⟨r ++ r2, by rw [e3, e2, List.append_assoc], fun d hd => ?_⟩
      exact dpt_app _ _ _ _ _ (k d (by omega)) (k2 (d + 1) (by omega) (by omega))
    · cases h
  | n + 1, 4, o, p, acc, l, q, hm, ho, hp, h => by
    have h0 : hr τ z p ≠ -1 → p < z := hr_le
    rw [pX_El] at h
    split at h
    · have hlt := h0 (by omega)
      split at h
      · rename_i l1 q1 e1
        obtain ⟨r, e2, k⟩ := pX_dp (D := D) n 1 o (p + 1) acc _ _ (by decide) ho (by omega) e1
        obtain ⟨r2, e3, k2⟩ := pX_dp (D := D) n 4 o q1 _ _ _ (by decide) ho (pX_ok n 1 o (p + 1) acc _ _ (by decide) (by omega) e1).2.1 h
        refine ⟨r ++ ([(125, 0, 0)] ++ r2), by rw [e3, e2]; simp only [List.append_assoc], fun d h1 hd => ?_⟩
        exact dpt_app _ _ _ _ _ (k d (by omega)) (dpt_app _ _ _ _ _ (dpt_j (Or.inr rfl) h1) (k2 d h1 hd))
      · cases h
    · cases h
      exact ⟨[], (List.append_nil _).symm, fun d _ _ => rfl⟩
  | n + 1, md + 5, o, p, acc, l, q, hm, ho, hp, h => absurd hm (by omega)
/-- a LINE's E: none, or one whose truths come to one -/
def lnO (x : p_Li) : Prop := (x.2.1 = true ∧ dpt 14 x.2.2.1 0 1) ∨ (x.2.1 = false ∧ x.2.2.1 = [])
theorem pL_dp {τ : Nat → Int} {z p q : Nat} {x : p_Li} (hp : p ≤ z) (h : pL τ z p = (some x, q)) : lnO x := by
  have h0 : hr τ z p ≠ -1 → p < z := hr_le
  unfold pL at h
  split at h
  · have hlt := h0 (by omega)
    split at h
    · rename_i e q1 e1
      split at h
      · split at h
        · cases h
          unfold pE at e1
          have h2 : hr τ z (p + 1) ≠ -1 → p + 1 < z := hr_le
          split at e1
          · have hl2 := h2 (by omega)
            split at e1
            · rename_i l1 q2 e2
              split at e1
              · cases e1
                obtain ⟨r, e3, k⟩ := pX_dp (D := 14) 1000 3 1 (p + 1 + 1) [] l1 q2 (by decide) (by decide) (by omega) e2
                refine Or.inl ⟨rfl, ?_⟩
                show dpt 14 l1 0 1
                rw [e3, List.nil_append]
                exact k 0 (by decide)
              · cases e1
            · cases e1
          · cases e1
            exact Or.inr ⟨rfl, rfl⟩
        · cases h
      · cases h
    · cases h
  · cases h
theorem pLs_dp {τ : Nat → Int} {z : Nat} (hz : z ≤ 160) : ∀ (k p : Nat) (acc l : List p_Li) (q : Nat), p ≤ z → (∀ x ∈ acc, lnO x) → pLs τ z k p acc = (some l, q) → ∀ x ∈ l, lnO x
  | 0, p, acc, l, q, hp, ha, h => by
    unfold pLs at h
    cases h
    exact ha
  | k + 1, p, acc, l, q, hp, ha, h => by
    rw [pLs_s] at h
    split at h
    · rename_i a q1 e1
      have k1 := pL_ok hp hz e1
      have h0 : hr τ z q1 ≠ -1 → q1 < z := hr_le
      have h2 : ∀ x ∈ acc ++ [a], lnO x := by
        intro x hx
        rcases List.mem_append.mp hx with h3 | h3
        · exact ha x h3
        · rw [List.mem_singleton.mp h3]
          exact pL_dp hp e1
      split at h
      · have := h0 (by omega)
        exact pLs_dp hz k (q1 + 1) _ l q (by omega) h2 h
      · cases h
        exact h2
    · cases h
theorem pTx_dp {τ : Nat → Int} {z q : Nat} {l : List p_Li} (hz : z ≤ 160) (h : pTx τ z = (some l, q)) : ∀ x ∈ l, lnO x := by
  unfold pTx at h
  split at h
  · rename_i l1 q1 e1
    split at h
    · cases h
      exact pLs_dp hz 8 0 [] _ _ (by omega) (fun x hx => by cases hx) e1
    · cases h
  · cases h
/-! the truths as bits of a number -/
def bB : List Bool → Int
  | [] => 1
  | b :: s => 2 * bB s + (if b = true then 1 else 0)
theorem bB_pos : ∀ s : List Bool, 1 ≤ bB s ∧ bB s < 2 * 2 ^ s.length
  | [] => by decide
  | b :: s => by
    have ih := bB_pos s
    have e : (2 : Int) ^ (b :: s).length = 2 * 2 ^ s.length := by
      rw [List.length_cons, Int.pow_succ, Int.mul_comm]
    unfold bB
    rw [e]
    split <;> omega
theorem bB_bd {s : List Bool} (h : s.length ≤ 14) : 1 ≤ bB s ∧ bB s < 32768 := by
  have h1 := bB_pos s
  have h2 : ∀ i : Nat, i ≤ 14 → (2 : Int) ^ i ≤ 16384 := by
    intro i hi
    have h3 : ∀ i : Nat, i < 15 → (2 : Int) ^ i ≤ 16384 := by decide
    exact h3 i (by omega)
  have h3 := h2 _ h
  omega
theorem bB_hd (s : List Bool) : bB s % 2 = if hd1 s = true then 1 else 0 := by
  cases s with
  | nil => rfl
  | cons b s =>
    show (2 * bB s + (if b = true then 1 else 0)) % 2 = if b = true then 1 else 0
    split <;> omega
theorem n_xor1 (n : Nat) : n ^^^ 1 = n + 1 - 2 * (n % 2) := by
  have h1 : (n ^^^ 1) / 2 = n / 2 := by
    rw [Nat.xor_div_two]
    show n / 2 ^^^ 0 = n / 2
    rw [Nat.xor_zero]
  have h2 : ((n ^^^ 1) % 2 = 1) ↔ ¬ ((n % 2 = 1) ↔ (1 % 2 = 1)) := Nat.xor_mod_two_eq_one
  omega
theorem n_or1 (n : Nat) : n ||| 1 = n + 1 - n % 2 := by
  have h1 : (n ||| 1) / 2 = n / 2 := by
    rw [Nat.or_div_two]
    show n / 2 ||| 0 = n / 2
    rw [Nat.or_zero]
  have h2 : ((n ||| 1) % 2 = 1) ↔ (n % 2 = 1 ∨ 1 % 2 = 1) := Nat.or_mod_two_eq_one
  omega
theorem n_and2 {n : Nat} (h : n < 4294967296) : n &&& 4294967294 = n - n % 2 := by
  have h1 : (n &&& 4294967294) / 2 = n / 2 := by
    rw [Nat.and_div_two]
    show n / 2 &&& 2 ^ 31 - 1 = n / 2
    rw [Nat.and_two_pow_sub_one_eq_mod]
    omega
  have h2 : ((n &&& 4294967294) % 2 = 1) ↔ (n % 2 = 1 ∧ 4294967294 % 2 = 1) := Nat.and_mod_two_eq_one
  omega
theorem v_xor1 {x : Int} (hx : 0 ≤ x) : Int32.ofInt x ^^^ Int32.ofInt 1 = Int32.ofInt (x + 1 - 2 * (x % 2)) := by
  rw [v_xor hx (by decide)]
  congr 1
  show ((x.toNat ^^^ 1 : Nat) : Int) = _
  rw [n_xor1]
  omega
theorem v_or1 {x : Int} (hx : 0 ≤ x) : Int32.ofInt x ||| Int32.ofInt 1 = Int32.ofInt (x + 1 - x % 2) := by
  rw [v_or hx (by decide)]
  congr 1
  show ((x.toNat ||| 1 : Nat) : Int) = _
  rw [n_or1]
  omega
theorem v_or0 {x : Int} (hx : 0 ≤ x) : Int32.ofInt x ||| Int32.ofInt 0 = Int32.ofInt x := by
  rw [v_or hx (by decide)]
  congr 1
  show ((x.toNat ||| 0 : Nat) : Int) = _
  rw [Nat.or_zero]
  omega
theorem v_andm2 {x : Int} (hx : 0 ≤ x ∧ x < 2147483648) : Int32.ofInt x &&& Int32.ofInt (-2) = Int32.ofInt (x - x % 2) := by
  rw [show Int32.ofInt (-2) = Int32.ofInt 4294967294 by decide, v_and hx.1 (by decide)]
  congr 1
  show ((x.toNat &&& 4294967294 : Nat) : Int) = _
  rw [n_and2 (by omega)]
  omega
theorem v_shl2 {x : Int} (hx : 0 ≤ x ∧ x < 1073741824) : Int32.ofInt x <<< (Int32.ofInt 1 &&& 31) = Int32.ofInt (2 * x) := by
  rw [v_Nz hx.1, show Int32.ofInt 1 = nI 1 from rfl, v_sh31 (by decide), pk_shlN _ 1 (v_smod _ (by decide)) (by omega), ← v_N]
  congr 1
  omega
theorem v_shr2 {x : Int} (hx : 0 ≤ x ∧ x < 2147483648) : Int32.ofInt x >>> (Int32.ofInt 1 &&& 31) = Int32.ofInt (x / 2) := by
  rw [v_shr hx (by decide)]
  rfl
theorem bB_not (b : Bool) (s : List Bool) : Int32.ofInt (bB (b :: s)) ^^^ Int32.ofInt 1 = Int32.ofInt (bB ((!b) :: s)) := by
  have h := bB_pos s
  have h2 := bB_pos (b :: s)
  rw [v_xor1 (by omega)]
  congr 1
  cases b
  · show 2 * bB s + 0 + 1 - 2 * ((2 * bB s + 0) % 2) = 2 * bB s + 1
    omega
  · show 2 * bB s + 1 + 1 - 2 * ((2 * bB s + 1) % 2) = 2 * bB s + 0
    omega
theorem bB_a1 (b : Bool) (s : List Bool) : Int32.ofInt (bB (b :: s)) &&& Int32.ofInt 1 = Int32.ofInt (if b = true then 1 else 0) := by
  have h2 := bB_pos (b :: s)
  rw [v_and1 (by omega), bB_hd]
  rfl
theorem bB_sh {b : Bool} {s : List Bool} (h : s.length ≤ 13) : Int32.ofInt (bB (b :: s)) >>> (Int32.ofInt 1 &&& 31) = Int32.ofInt (bB s) := by
  have h1 := bB_bd (s := b :: s) (by simp only [List.length_cons]; omega)
  rw [v_shr2 (by omega)]
  congr 1
  show (2 * bB s + (if b = true then 1 else 0)) / 2 = bB s
  split <;> omega
theorem bB_m2 {b : Bool} {s : List Bool} (h : s.length ≤ 13) : Int32.ofInt (bB (b :: s)) &&& Int32.ofInt (-2) = Int32.ofInt (bB (false :: s)) := by
  have h1 := bB_bd (s := b :: s) (by simp only [List.length_cons]; omega)
  rw [v_andm2 (by omega)]
  congr 1
  show (2 * bB s + (if b = true then 1 else 0)) - (2 * bB s + (if b = true then 1 else 0)) % 2 = 2 * bB s + 0
  split <;> omega
theorem bB_o1 (b : Bool) (s : List Bool) : Int32.ofInt (bB (b :: s)) ||| Int32.ofInt 1 = Int32.ofInt (bB (true :: s)) := by
  have h2 := bB_pos (b :: s)
  rw [v_or1 (by omega)]
  congr 1
  show (2 * bB s + (if b = true then 1 else 0)) + 1 - (2 * bB s + (if b = true then 1 else 0)) % 2 = 2 * bB s + 1
  split <;> omega
theorem bB_sl {s : List Bool} (h : s.length ≤ 14) : Int32.ofInt (bB s) <<< (Int32.ofInt 1 &&& 31) = Int32.ofInt (bB (false :: s)) := by
  have h1 := bB_bd h
  rw [v_shl2 (by omega)]
  congr 1
  show 2 * bB s = 2 * bB s + 0
  omega
theorem bB_o0 (b : Bool) (s : List Bool) : Int32.ofInt (bB (b :: s)) ||| Int32.ofInt 0 = Int32.ofInt (bB (b :: s)) := by
  have h2 := bB_pos (b :: s)
  exact v_or0 (by omega)
section EK
variable {μ : Nat → Int} {t h k n c x y : Int} {r : List p_Tk} {s : List Bool}
theorem encTc_t (hc : c ≤ 122) : encTc ((c, x, y) :: r) = c :: x :: y :: encTc r := by
  show (if c ≤ 122 then [c, x, y] else [c]) ++ encTc r = _
  rw [if_pos hc]
  rfl
theorem encTc_o (hc : ¬ c ≤ 122) : encTc ((c, x, y) :: r) = c :: encTc r := by
  show (if c ≤ 122 then [c, x, y] else [c]) ++ encTc r = _
  rw [if_neg hc]
  rfl
theorem dpt_tt {D k k' : Nat} (hc : c ≤ 122) (hd : dpt D ((c, x, y) :: r) k k') : k < D ∧ dpt D r (k + 1) k' := by
  unfold dpt at hd
  rwa [if_pos hc] at hd
theorem dpt_nn {D k k' : Nat} (hd : dpt D ((123, x, y) :: r) k k') : 1 ≤ k ∧ dpt D r k k' := hd
theorem dpt_jj {D k k' : Nat} (hc : 123 < c) (hd : dpt D ((c, x, y) :: r) k k') : (c = 124 ∨ c = 125) ∧ 2 ≤ k ∧ dpt D r (k - 1) k' := by
  unfold dpt at hd
  rwa [if_neg (by omega), if_neg (by omega)] at hd
theorem eK_t (hc : c ≤ 122) : eK μ t h k n ((c, x, y) :: r) s = eK μ t h k n r (eT μ t h k n c x y :: s) := by
  show eK μ t h k n r (if c ≤ 122 then eT μ t h k n c x y :: s else _) = _
  rw [if_pos hc]
theorem eK_n {b : Bool} : eK μ t h k n ((123, x, y) :: r) (b :: s) = eK μ t h k n r ((!b) :: s) := rfl
theorem eK_a {b b' : Bool} : eK μ t h k n ((124, x, y) :: r) (b' :: b :: s) = eK μ t h k n r ((b && b') :: s) := rfl
theorem eK_o {b b' : Bool} : eK μ t h k n ((125, x, y) :: r) (b' :: b :: s) = eK μ t h k n r ((b || b') :: s) := rfl
theorem eT_0 : eT μ t h k n 120 x y = decide (eV μ t h k n x < eV μ t h k n y) := rfl
theorem eT_1 : eT μ t h k n 121 x y = decide (eV μ t h k n x = eV μ t h k n y) := rfl
theorem eT_2 : eT μ t h k n 122 x y = decide (eV μ t h k n y < eV μ t h k n x) := rfl
theorem encAc_e {l : List Int} {q : List p_Ac} (hc : 126 ≤ c) : encAc ((c, l) :: q) = c :: encAc q := by
  show (if 126 ≤ c then [c] else c :: (l.length : Int) :: l) ++ encAc q = _
  rw [if_pos hc]
  rfl
theorem encAc_c {l : List Int} {q : List p_Ac} (hc : ¬ 126 ≤ c) : encAc ((c, l) :: q) = c :: (l.length : Int) :: (l ++ encAc q) := by
  show (if 126 ≤ c then [c] else c :: (l.length : Int) :: l) ++ encAc q = _
  rw [if_neg hc]
  rfl
theorem eA_p {l : List Int} {q : List p_Ac} : eA t h k n ((126, l) :: q) μ = (1, μ) := rfl
theorem eA_d {l : List Int} {q : List p_Ac} : eA t h k n ((127, l) :: q) μ = (0, μ) := rfl
theorem eA_b {l : List Int} {q : List p_Ac} : eA t h k n ((128, l) :: q) μ = (2, z_fl μ (4 * t.toNat) 4 0) := rfl
theorem eA_c {l : List Int} {q : List p_Ac} (hc : c < 126) : eA t h k n ((c, l) :: q) μ = eA t h k n q (v_uf μ (z_pl (c - 104) t h).toNat (wr (eS μ t h k n 0 l))) := by
  show (if c = 126 then _ else if c = 127 then _ else if c = 128 then _ else _) = _
  rw [if_neg (by omega), if_neg (by omega), if_neg (by omega)]
theorem eL_t {i : Nat} {l : p_Li} {q : List p_Li} (hx : eM μ t h k n l = true) : eL μ t h k n i (l :: q) = (i : Int) := if_pos hx
theorem eL_f {i : Nat} {l : p_Li} {q : List p_Li} (hx : ¬ eM μ t h k n l = true) : eL μ t h k n i (l :: q) = eL μ t h k n (i + 1) q := if_neg hx
theorem eM_i {l : p_Li} : eM μ t h k n l = true ↔ (l.1 = 4 ∨ l.1 = k) ∧ eH μ t h k n l.2.2.1 = true := by
  unfold eM
  simp
end EK
end
section
/-! what a TEXT does with a packet: the class -/
/-- a row of numbers stands at a cell from a place on -/
def SG (V : v_V) (a : Nat) : Nat → List Int → Prop
  | _, [] => True
  | p, x :: r => V a p = x ∧ SG V a (p + 1) r
theorem SG_app {V : v_V} {a : Nat} : ∀ {l r : List Int} {p : Nat}, SG V a p (l ++ r) → SG V a p l ∧ SG V a (p + l.length) r
  | [], r, p, h => ⟨trivial, h⟩
  | x :: l, r, p, h => by
    have h2 := SG_app (l := l) (r := r) (p := p + 1) h.2
    exact ⟨⟨h.1, h2.1⟩, by rw [List.length_cons, show p + (l.length + 1) = p + 1 + l.length by omega]; exact h2.2⟩
theorem SG_of {V : v_V} {a : Nat} : ∀ {l : List Int} {p : Nat}, (∀ i x, m_nth l i = some x → V a (p + i) = x) → SG V a p l
  | [], _, _ => trivial
  | x :: l, p, h => ⟨h 0 x rfl, SG_of (fun i y hi => by rw [show p + 1 + i = p + (i + 1) by omega]; exact h (i + 1) y hi)⟩
theorem SG_c {V V' : v_V} {a : Nat} (h : V' a = V a) : ∀ {l : List Int} {p : Nat}, SG V a p l → SG V' a p l
  | [], _, _ => trivial
  | x :: l, p, h2 => ⟨by rw [h]; exact h2.1, SG_c h h2.2⟩
theorem encPc_cut : ∀ (l : List p_Li) (i : Nat) (x : p_Li), m_nth l i = some x → ∃ r, encPc l = encPc (l.take i) ++ (encTc x.2.2.1 ++ (encAc x.2.2.2 ++ r))
  | [], _, _, h => by cases h
  | y :: l, 0, x, h => by
    cases h
    exact ⟨encPc l, by simp [encPc]⟩
  | y :: l, i + 1, x, h => by
    obtain ⟨r, e⟩ := encPc_cut l i x h
    refine ⟨r, ?_⟩
    show (encTc y.2.2.1 ++ encAc y.2.2.2) ++ encPc l = ((encTc y.2.2.1 ++ encAc y.2.2.2) ++ encPc (l.take i)) ++ _
    rw [e]
    simp only [List.append_assoc]
/-- a LINE's signs where the class has them -/
theorem CT_line {V : v_V} {t : Nat} {l : List p_Li} (h : CT V t l) {i : Nat} {x : p_Li} (hi : m_nth l i = some x) : ∃ p : Nat, V (t + 1) i = x.1 ∧ V (t + 2) i = (p : Int) ∧ V (t + 3) i = ((p + (encTc x.2.2.1).length : Nat) : Int) ∧ V (t + 4) i = (x.2.2.2.length : Int) ∧ SG V (t + 5) p (encTc x.2.2.1) ∧ SG V (t + 5) (p + (encTc x.2.2.1).length) (encAc x.2.2.2) ∧ ((p + (encTc x.2.2.1).length + (encAc x.2.2.2).length : Nat) : Int) ≤ V t 6 := by
  obtain ⟨a1, a2, a3, a4, -, -⟩ := h
  obtain ⟨b1, b2, b3, b4⟩ := a4 i x hi
  obtain ⟨r, e⟩ := encPc_cut l i x hi
  have hs : SG V (t + 5) 0 (encPc l) := SG_of (fun j y hj => by rw [Nat.zero_add]; exact a3 j y hj)
  rw [e] at hs
  have h1 := (SG_app hs).2
  rw [Nat.zero_add] at h1
  have h2 := SG_app h1
  have h3 := SG_app h2.2
  refine ⟨(encPc (l.take i)).length, b1, b2, by rw [b3]; omega, b4, h2.1, h3.1, ?_⟩
  rw [a2, e]
  simp only [List.length_append]
  omega
/-- a packet of the class -/
def PkS (S : m_H) (V : v_V) (pk : Nat) (t h k n : Int) : Prop := ce S pk 2 [.int 0, .int 0, .int 0, .int 0] ∧ V pk 0 = t ∧ V pk 1 = h ∧ V pk 2 = k ∧ V pk 3 = n
theorem PkS_r {S : m_H} {V V' : v_V} {pk : Nat} {t h k n : Int} (hp : PkS S V pk t h k n) (e : V' pk = V pk) : PkS S V' pk t h k n := by
  obtain ⟨a, b, c, d, g⟩ := hp
  exact ⟨a, by rw [e]; exact b, by rw [e]; exact c, by rw [e]; exact d, by rw [e]; exact g⟩
theorem CT_r {V V' : v_V} {t : Nat} {l : List p_Li} (h : CT V t l) (e : ∀ i, i ≤ 6 → V' (t + i) = V (t + i)) : CT V' t l := by
  have e0 := e 0 (by decide)
  rw [Nat.add_zero] at e0
  obtain ⟨a1, a2, a3, a4, a5, a6⟩ := h
  refine ⟨by rw [e0]; exact a1, by rw [e0]; exact a2, ?_, ?_, ?_, by rw [e0]; exact a6⟩
  · intro i x hi
    rw [e 5 (by decide)]
    exact a3 i x hi
  · intro i x hi
    rw [e 1 (by decide), e 2 (by decide), e 3 (by decide), e 4 (by decide)]
    exact a4 i x hi
  · intro c hc
    rw [e 6 (by decide)]
    exact a5 c hc
section
variable {X : Nat → List Int32} {u w : Nat} {S : m_H} {V : v_V} {K : v_K}
set_option maxRecDepth 100000 in
set_option maxHeartbeats 4000000 in
theorem cc_signAt {t : Nat} (hX : TxS S t) {x e : Int} {q : Nat} (hq : x = (q : Int)) (h6 : (q : Int) < V t 6 ∧ V t 6 ≤ 160) (he : V (t + 5) q = e) (k : K u w (some (iv e)) S V) : y_R X 1 52 u w [.ref t, iv x] S V K := by
  refine y_ent (lv' := [(0, .ref t), (1, iv x)]) (Nat.le_of_ble_eq_true rfl) rfl ?_
  refine y_ld (x := iv x) rfl rfl (fun d => rfl) ?_
  refine y_zlt rfl rfl rfl (by omega) (fun g1 => ?_) (fun g1 => ?_)
  · refine y_ic rfl rfl ?_
    refine y_rI rfl (Or.inl rfl) ?_
    exact absurd hq (by omega)
  · refine y_ld (x := iv x) rfl rfl (fun d => rfl) ?_
    refine y_ld (x := .ref t) rfl rfl (fun d => rfl) ?_
    refine y_gI (i := 6) (e := (V t 6)) rfl rfl rfl hX.1 rfl rfl ?_
    refine y_jge rfl rfl rfl (by omega) (fun g2 => ?_) (fun g2 => ?_)
    · refine y_ic rfl rfl ?_
      refine y_rI rfl (Or.inl rfl) ?_
      exact absurd hq (by omega)
    · refine y_ld (x := .ref t) rfl rfl (fun d => rfl) ?_
      refine y_gR (i := 5) rfl rfl rfl hX.1 rfl ?_
      refine y_ld (x := iv x) rfl rfl (fun d => rfl) ?_
      refine y_ild (x := e) (q := q) rfl rfl hX.2.2.2.2.2.1 (by omega) (by decide) (by omega) he ?_
      refine y_go rfl rfl ?_
      refine y_rI rfl (Or.inl rfl) ?_
      exact k
set_option maxRecDepth 100000 in
set_option maxHeartbeats 4000000 in
theorem cc_value {me c pk : Nat} {μ : Nat → Int} {a h κ n x : Int} (hm : MeS S me c) (hμ : V c = μ) (hP : PkS S V pk a h κ n) (hpk : pkO a h κ n) (hx : tcd x) (k : K u w (some (iv (eV μ a h κ n x))) S V) : y_R X 2 58 u w [iv x, .ref pk, .ref me] S V K := by
  have hpo := hpk
  obtain ⟨p1, p2, p3, p4⟩ := hpo
  have hxr : 0 ≤ x ∧ x ≤ 115 := by unfold tcd at hx; omega
  refine y_ent (lv' := [(0, iv x), (1, .ref pk), (2, .ref me)]) (Nat.le_of_ble_eq_true rfl) rfl ?_
  refine y_ld (x := iv x) rfl rfl (fun d => rfl) ?_
  refine y_bi rfl rfl (by decide) ?_
  refine y_jge rfl rfl rfl (by omega) (fun g1 => ?_) (fun g1 => ?_)
  · refine y_ld (x := iv x) rfl rfl (fun d => rfl) ?_
    refine y_bi rfl rfl (by decide) ?_
    refine y_jne rfl rfl rfl (by omega) (fun g2 => ?_) (fun g2 => ?_)
    · refine y_ld (x := iv x) rfl rfl (fun d => rfl) ?_
      refine y_bi rfl rfl (by decide) ?_
      refine y_jne rfl rfl rfl (by omega) (fun g3 => ?_) (fun g3 => ?_)
      · refine y_ld (x := iv x) rfl rfl (fun d => rfl) ?_
        refine y_bi rfl rfl (by decide) ?_
        refine y_jne rfl rfl rfl (by omega) (fun g4 => ?_) (fun g4 => ?_)
        · refine y_ld (x := .ref me) rfl rfl (fun d => rfl) ?_
          refine y_ld (x := iv x) rfl rfl (fun d => rfl) ?_
          refine y_bi rfl rfl (by decide) ?_
          refine y_sub (z := (x - 104)) rfl rfl rfl ?_
          refine y_ld (x := .ref pk) rfl rfl (fun d => rfl) ?_
          refine y_gI (i := 0) (e := a) rfl rfl rfl hP.1 rfl hP.2.1 ?_
          refine y_ld (x := .ref pk) rfl rfl (fun d => rfl) ?_
          refine y_gI (i := 1) (e := h) rfl rfl rfl hP.1 rfl hP.2.2.1 ?_
          have hz := tcd_pl hx hpk (by omega)
          refine y_cS (as := [iv (x - 104), iv a, iv h]) rfl (by decide) rfl rfl rfl rfl ⟨(Nat.le_of_ble_eq_true rfl), (Nat.le_of_ble_eq_true rfl)⟩ (by decide) (cc_placeOf (by unfold tcd at hx; omega) (by omega) (by omega) ?_)
          refine y_nv ?_
          refine y_cV (as := [.ref me, iv (z_pl (x - 104) a h)]) rfl rfl rfl rfl rfl hm.1 ⟨rfl, (Nat.le_of_ble_eq_true rfl), (Nat.le_of_ble_eq_true rfl)⟩ (by decide) (cc_at2 (q := (z_pl (x - 104) a h).toNat) hm (by omega) (by omega) (congrFun hμ _) ?_)
          refine y_nv ?_
          refine y_rI rfl (Or.inl rfl) ?_
          have e : eV μ a h κ n x = μ (z_pl (x - 104) a h).toNat := by
            unfold eV
            rw [if_neg (by omega), if_neg (by omega), if_neg (by omega), if_neg (by omega)]
          rwa [e] at k
        · refine y_ld (x := .ref pk) rfl rfl (fun d => rfl) ?_
          refine y_gI (i := 3) (e := n) rfl rfl rfl hP.1 rfl hP.2.2.2.2 ?_
          refine y_rI rfl (Or.inl rfl) ?_
          have e : eV μ a h κ n x = n := by
            unfold eV
            rw [if_neg (by omega), if_neg (by omega), if_neg (by omega), if_pos (by omega)]
          rwa [e] at k
      · refine y_ld (x := .ref pk) rfl rfl (fun d => rfl) ?_
        refine y_gI (i := 1) (e := h) rfl rfl rfl hP.1 rfl hP.2.2.1 ?_
        refine y_rI rfl (Or.inl rfl) ?_
        have e : eV μ a h κ n x = h := by
          unfold eV
          rw [if_neg (by omega), if_neg (by omega), if_pos (by omega)]
        rwa [e] at k
    · refine y_ld (x := .ref pk) rfl rfl (fun d => rfl) ?_
      refine y_gI (i := 2) (e := κ) rfl rfl rfl hP.1 rfl hP.2.2.2.1 ?_
      refine y_rI rfl (Or.inl rfl) ?_
      have e : eV μ a h κ n x = κ := by
        unfold eV
        rw [if_neg (by omega), if_pos (by omega)]
      rwa [e] at k
  · refine y_ld (x := iv x) rfl rfl (fun d => rfl) ?_
    refine y_rI rfl (Or.inl rfl) ?_
    have e : eV μ a h κ n x = x := by
      unfold eV
      rw [if_pos (by omega)]
    rwa [e] at k
set_option maxRecDepth 100000 in
set_option maxHeartbeats 4000000 in
theorem lp_sumOf {t me c pk : Nat} {μ : Nat → Int} {a h κ n : Int} (hX : TxS S t) (hm : MeS S me c) (hμ : V c = μ) (hP : PkS S V pk a h κ n) (hpk : pkO a h κ n) (hμr : muO μ) {b d : Int} (h6 : V t 6 ≤ 160) {F : Nat} : ∀ (m : Nat) (p : Nat) (s : Int) (L : List Int), L.length < m → (b + d = (p : Int) + L.length ∧ 0 ≤ b ∧ 0 ≤ d ∧ d ≤ 4 ∧ b ≤ 160) → (SG V (t + 5) p L) → (smO L) → ((p : Int) + L.length ≤ V t 6) → (K u w (some (iv (eS μ a h κ n s L))) S V) → y_E X 2 57 (60 * m + F) u w 6 [(0, .ref t), (1, iv b), (2, iv d), (3, .ref pk), (4, .ref me), (5, iv s), (6, iv (p : Int))] [] S V K := by
  intro m
  induction m with
  | zero => intros; omega
  | succ m ih =>
    intro p s L hm1 hb hL ho h6b hx2
    refine y_mono (F' := (60 * m + F) + 60) ?_ (by omega)
    refine y_ld (x := iv (p : Int)) rfl rfl (fun d => rfl) ?_
    refine y_ld (x := iv b) rfl rfl (fun d => rfl) ?_
    refine y_ld (x := iv d) rfl rfl (fun d => rfl) ?_
    refine y_add (z := (b + d)) rfl rfl rfl ?_
    refine y_jge rfl rfl rfl (by omega) (fun g1 => ?_) (fun g1 => ?_)
    · refine y_ld (x := iv s) rfl rfl (fun d => rfl) ?_
      refine y_rI rfl (Or.inl rfl) ?_
      rcases L with _ | ⟨y, r⟩
      · exact hx2
      · exact absurd hb (by simp only [List.length_cons]; omega)
    · rcases L with _ | ⟨y, r⟩
      · exact absurd hb (by simp only [List.length_nil]; omega)
      have hL1 := hL.1
      have hy := ho y List.mem_cons_self
      have hl : ((y :: r).length : Int) = r.length + 1 := by simp
      have hyr : 0 ≤ y ∧ y ≤ 371 := by unfold raw tcd at hy; split at hy <;> omega
      refine y_ld (x := .ref t) rfl rfl (fun d => rfl) ?_
      refine y_ld (x := iv (p : Int)) rfl rfl (fun d => rfl) ?_
      refine y_cV (as := [.ref t, iv (p : Int)]) rfl rfl rfl rfl rfl hX.1 ⟨rfl, (Nat.le_of_ble_eq_true rfl), (Nat.le_of_ble_eq_true rfl)⟩ (by decide) (cc_signAt (q := p) hX rfl (by omega) hL1 ?_)
      refine y_nv ?_
      refine y_st (lv' := [(7, iv y), (0, .ref t), (1, iv b), (2, iv d), (3, .ref pk), (4, .ref me), (5, iv s), (6, iv (p : Int))]) rfl rfl (fun d => rfl) ?_
      refine y_ld (x := iv y) rfl rfl (fun d => rfl) ?_
      refine y_si rfl rfl (by decide) ?_
      refine y_jlt rfl rfl rfl (by omega) (fun g2 => ?_) (fun g2 => ?_)
      · refine y_ld (x := iv s) rfl rfl (fun d => rfl) ?_
        refine y_ld (x := iv y) rfl rfl (fun d => rfl) ?_
        refine y_ld (x := .ref pk) rfl rfl (fun d => rfl) ?_
        refine y_ld (x := .ref me) rfl rfl (fun d => rfl) ?_
        have hv := eV_rg (c := y) hμr (by have hy2 := hy; unfold raw at hy2; first | rwa [if_pos (by omega)] at hy2 | rwa [if_neg (by omega)] at hy2) hpk
        refine y_cS (as := [iv y, .ref pk, .ref me]) rfl (by decide) rfl rfl rfl rfl ⟨(Nat.le_of_ble_eq_true rfl), (Nat.le_of_ble_eq_true rfl)⟩ (by decide) (cc_value (μ := μ) hm hμ hP hpk (by have hy2 := hy; unfold raw at hy2; first | rwa [if_pos (by omega)] at hy2 | rwa [if_neg (by omega)] at hy2) ?_)
        refine y_nv ?_
        refine y_add (z := (s + (eV μ a h κ n y))) rfl rfl rfl ?_
        refine y_st (lv' := [(5, iv (s + (eV μ a h κ n y))), (7, iv y), (0, .ref t), (1, iv b), (2, iv d), (3, .ref pk), (4, .ref me), (6, iv (p : Int))]) rfl rfl (fun d => rfl) ?_
        refine y_inc (z := ((p + 1 : Nat) : Int)) (lv' := [(6, iv ((p + 1 : Nat) : Int)), (5, iv (s + (eV μ a h κ n y))), (7, iv y), (0, .ref t), (1, iv b), (2, iv d), (3, .ref pk), (4, .ref me)]) rfl rfl rfl (by omega) rfl ?_
        refine y_go rfl rfl ?_
        refine y_lv (l' := [(0, .ref t), (1, iv b), (2, iv d), (3, .ref pk), (4, .ref me), (5, iv (s + (eV μ a h κ n y))), (6, iv ((p + 1 : Nat) : Int))]) rfl ⟨rfl, rfl, rfl, rfl, rfl, rfl, rfl, trivial⟩ ?_
        rw [show s + (eV μ a h κ n y) = eS1 μ a h κ n s y from (if_pos (by omega)).symm]
        exact y_mono (ih (p + 1) _ r (by simp only [List.length_cons] at hm1; omega) (by omega) hL.2 (fun x hx => ho x (List.mem_cons_of_mem _ hx)) (by omega) hx2) (by omega)
      · refine y_ld (x := iv s) rfl rfl (fun d => rfl) ?_
        refine y_ld (x := iv y) rfl rfl (fun d => rfl) ?_
        refine y_si rfl rfl (by decide) ?_
        refine y_sub (z := (y - 256)) rfl rfl rfl ?_
        refine y_ld (x := .ref pk) rfl rfl (fun d => rfl) ?_
        refine y_ld (x := .ref me) rfl rfl (fun d => rfl) ?_
        have hv := eV_rg (c := y - 256) hμr (by have hy2 := hy; unfold raw at hy2; first | rwa [if_pos (by omega)] at hy2 | rwa [if_neg (by omega)] at hy2) hpk
        refine y_cS (as := [iv (y - 256), .ref pk, .ref me]) rfl (by decide) rfl rfl rfl rfl ⟨(Nat.le_of_ble_eq_true rfl), (Nat.le_of_ble_eq_true rfl)⟩ (by decide) (cc_value (μ := μ) hm hμ hP hpk (by have hy2 := hy; unfold raw at hy2; first | rwa [if_pos (by omega)] at hy2 | rwa [if_neg (by omega)] at hy2) ?_)
        refine y_nv ?_
        refine y_sub (z := (s - (eV μ a h κ n (y - 256)))) rfl rfl rfl ?_
        refine y_st (lv' := [(5, iv (s - (eV μ a h κ n (y - 256)))), (7, iv y), (0, .ref t), (1, iv b), (2, iv d), (3, .ref pk), (4, .ref me), (6, iv (p : Int))]) rfl rfl (fun d => rfl) ?_
        refine y_go rfl rfl ?_
        refine y_inc (z := ((p + 1 : Nat) : Int)) (lv' := [(6, iv ((p + 1 : Nat) : Int)), (5, iv (s - (eV μ a h κ n (y - 256)))), (7, iv y), (0, .ref t), (1, iv b), (2, iv d), (3, .ref pk), (4, .ref me)]) rfl rfl rfl (by omega) rfl ?_
        refine y_go rfl rfl ?_
        refine y_lv (l' := [(0, .ref t), (1, iv b), (2, iv d), (3, .ref pk), (4, .ref me), (5, iv (s - (eV μ a h κ n (y - 256)))), (6, iv ((p + 1 : Nat) : Int))]) rfl ⟨rfl, rfl, rfl, rfl, rfl, rfl, rfl, trivial⟩ ?_
        rw [show s - (eV μ a h κ n (y - 256)) = eS1 μ a h κ n s y from (if_neg (by omega)).symm]
        exact y_mono (ih (p + 1) _ r (by simp only [List.length_cons] at hm1; omega) (by omega) hL.2 (fun x hx => ho x (List.mem_cons_of_mem _ hx)) (by omega) hx2) (by omega)
set_option maxRecDepth 100000 in
set_option maxHeartbeats 4000000 in
theorem cc_sumOf {t me c pk : Nat} {μ : Nat → Int} {a h κ n : Int} (hX : TxS S t) (hm : MeS S me c) (hμ : V c = μ) (hP : PkS S V pk a h κ n) (hpk : pkO a h κ n) (hμr : muO μ) {b d : Int} (h6 : V t 6 ≤ 160) {q : Nat} {L : List Int} (hb : b = (q : Int) ∧ d = L.length ∧ L.length ≤ 4) (hL : SG V (t + 5) q L) (ho : smO L) (h6b : (q : Int) + L.length ≤ V t 6) (k : K u w (some (iv (eS μ a h κ n 0 L))) S V) : y_R X 3 57 u w [.ref t, iv b, iv d, .ref pk, .ref me] S V K := by
  refine y_ent (lv' := [(0, .ref t), (1, iv b), (2, iv d), (3, .ref pk), (4, .ref me)]) (Nat.le_of_ble_eq_true rfl) rfl ?_
  refine y_ic rfl rfl ?_
  refine y_st (lv' := [(5, iv 0), (0, .ref t), (1, iv b), (2, iv d), (3, .ref pk), (4, .ref me)]) rfl rfl (fun d => rfl) ?_
  refine y_ld (x := iv b) rfl rfl (fun d => rfl) ?_
  refine y_st (lv' := [(6, iv b), (5, iv 0), (0, .ref t), (1, iv b), (2, iv d), (3, .ref pk), (4, .ref me)]) rfl rfl (fun d => rfl) ?_
  refine y_lv (l' := [(0, .ref t), (1, iv b), (2, iv d), (3, .ref pk), (4, .ref me), (5, iv 0), (6, iv (q : Int))]) rfl ⟨rfl, rfl, rfl, rfl, rfl, rfl, congrArg (fun e => some (iv e)) hb.1, trivial⟩ ?_
  exact y_mono (lp_sumOf (F := 100) hX hm hμ hP hpk hμr h6 5 q 0 L (by omega) (by omega) hL ho h6b k) (by decide)
set_option maxRecDepth 100000 in
set_option maxHeartbeats 4000000 in
theorem lp_holds {t me c pk : Nat} {μ : Nat → Int} {a h κ n : Int} (hX : TxS S t) (hm : MeS S me c) (hμ : V c = μ) (hP : PkS S V pk a h κ n) (hpk : pkO a h κ n) (hμr : muO μ) (h6 : V t 6 ≤ 160) {i D : Nat} (hi : i < 8) {F : Nat} : ∀ (m : Nat) (p : Nat) (s : List Bool) (L : List p_Tk), L.length < m → (V (t + 3) i = ((p + (encTc L).length : Nat) : Int)) → (SG V (t + 5) p (encTc L)) → (tkO L) → (dpt 14 L s.length D) → (s.length ≤ 14) → (((p + (encTc L).length : Nat) : Int) ≤ V t 6) → (K u w (some (iv (v_b (hd1 (eK μ a h κ n L s) = true)))) S V) → y_E X 3 55 (100 * m + F) u w 11 [(0, .ref t), (1, iv (i : Int)), (2, .ref pk), (3, .ref me), (4, iv (bB s)), (5, iv (p : Int))] [] S V K := by
  intro m
  induction m with
  | zero => intros; omega
  | succ m ih =>
    intro p s L hm1 hE hL ho hd hs h6b hx2
    refine y_mono (F' := (100 * m + F) + 100) ?_ (by omega)
    refine y_ld (x := iv (p : Int)) rfl rfl (fun d => rfl) ?_
    refine y_ld (x := .ref t) rfl rfl (fun d => rfl) ?_
    refine y_gR (i := 3) rfl rfl rfl hX.1 rfl ?_
    refine y_ld (x := iv (i : Int)) rfl rfl (fun d => rfl) ?_
    refine y_ild (x := ((p + (encTc L).length : Nat) : Int)) (q := i) rfl rfl hX.2.2.2.1 (by omega) (by decide) (by omega) hE ?_
    refine y_jge rfl rfl rfl (by omega) (fun g1 => ?_) (fun g1 => ?_)
    · obtain rfl : L = [] := by
        rcases L with _ | ⟨⟨c1, x, y⟩, r⟩
        · rfl
        · exfalso
          have : 1 ≤ (encTc ((c1, x, y) :: r)).length := by
            by_cases hc : c1 ≤ 122
            · rw [encTc_t hc]; simp only [List.length_cons]; omega
            · rw [encTc_o hc]; simp only [List.length_cons]; omega
          omega
      refine y_ld (x := iv (bB s)) rfl rfl (fun d => rfl) ?_
      refine y_ic rfl rfl ?_
      refine y_op (z := (if hd1 s = true then 1 else 0)) rfl rfl (fun d => rfl) ((v_and1 (by have := bB_bd hs; omega)).trans (congrArg Int32.ofInt (bB_hd s))) ?_
      refine y_ic rfl rfl ?_
      refine y_jne rfl rfl rfl (by split <;> omega) (fun g2 => ?_) (fun g2 => ?_)
      · refine y_ic rfl rfl ?_
        refine y_rI rfl (by decide) ?_
        have e : v_b (hd1 (eK μ a h κ n [] s) = true) = 0 := by
          show v_b (hd1 s = true) = 0
          exact v_b0 (fun hq => by rw [if_pos hq] at g2; omega)
        rwa [e] at hx2
      · refine y_ic rfl rfl ?_
        refine y_go rfl rfl ?_
        refine y_rI rfl (by decide) ?_
        have e : v_b (hd1 (eK μ a h κ n [] s) = true) = 1 := by
          show v_b (hd1 s = true) = 1
          exact v_b1 (by by_cases hq : hd1 s = true; exact hq; rw [if_neg hq] at g2; omega)
        rwa [e] at hx2
    · rcases L with _ | ⟨⟨c1, x, y⟩, r⟩
      · exact absurd hE (by simp only [encTc, List.length_nil]; omega)
      have hl : (((c1, x, y) :: r).length) = r.length + 1 := rfl
      have hor : tkO r := fun q hq => ho q (List.mem_cons_of_mem _ hq)
      have hc6 : c1 = 120 ∨ c1 = 121 ∨ c1 = 122 ∨ c1 = 123 ∨ c1 = 124 ∨ c1 = 125 := by
        by_cases h122 : c1 ≤ 122
        · have := ho _ List.mem_cons_self h122
          simp only at this
          omega
        · by_cases h123 : c1 = 123
          · omega
          · have := (dpt_jj (by omega) hd).1
            omega
      rcases hc6 with rfl | rfl | rfl | rfl | rfl | rfl
      · have hw := ho _ List.mem_cons_self (by decide : (120 : Int) ≤ 122)
        have hwx : tcd x := hw.2.1
        have hwy : tcd y := hw.2.2
        rw [encTc_t (by decide)] at hE hL h6b
        simp only [List.length_cons] at hE h6b
        obtain ⟨hL1, hL2, hL3, hL4⟩ := hL
        obtain ⟨hd1, hd2⟩ := dpt_tt (by decide) hd
        have hvx := eV_rg hμr hwx hpk
        have hvy := eV_rg hμr hwy hpk
        rw [eK_t (by decide), eT_0] at hx2
        refine y_ld (x := .ref t) rfl rfl (fun d => rfl) ?_
        refine y_ld (x := iv (p : Int)) rfl rfl (fun d => rfl) ?_
        refine y_cV (as := [.ref t, iv (p : Int)]) rfl rfl rfl rfl rfl hX.1 ⟨rfl, (Nat.le_of_ble_eq_true rfl), (Nat.le_of_ble_eq_true rfl)⟩ (by decide) (cc_signAt (q := p) hX (by omega) (by omega) hL1 ?_)
        refine y_nv ?_
        refine y_st (lv' := [(6, iv 120), (0, .ref t), (1, iv (i : Int)), (2, .ref pk), (3, .ref me), (4, iv (bB s)), (5, iv (p : Int))]) rfl rfl (fun d => rfl) ?_
        refine y_inc (z := ((p + 1 : Nat) : Int)) (lv' := [(5, iv ((p + 1 : Nat) : Int)), (6, iv 120), (0, .ref t), (1, iv (i : Int)), (2, .ref pk), (3, .ref me), (4, iv (bB s))]) rfl rfl rfl (by omega) rfl ?_
        refine y_ld (x := iv 120) rfl rfl (fun d => rfl) ?_
        refine y_bi rfl rfl (by decide) ?_
        refine y_jne rfl rfl rfl (by decide) (fun g3 => ?_) (fun g3 => absurd g3 (by decide))
        refine y_ld (x := iv 120) rfl rfl (fun d => rfl) ?_
        refine y_bi rfl rfl (by decide) ?_
        refine y_jne rfl rfl rfl (by decide) (fun g4 => ?_) (fun g4 => absurd g4 (by decide))
        refine y_ld (x := iv 120) rfl rfl (fun d => rfl) ?_
        refine y_bi rfl rfl (by decide) ?_
        refine y_jne rfl rfl rfl (by decide) (fun g5 => ?_) (fun g5 => absurd g5 (by decide))
        refine y_ld (x := .ref t) rfl rfl (fun d => rfl) ?_
        refine y_ld (x := iv ((p + 1 : Nat) : Int)) rfl rfl (fun d => rfl) ?_
        refine y_cV (as := [.ref t, iv ((p + 1 : Nat) : Int)]) rfl rfl rfl rfl rfl hX.1 ⟨rfl, (Nat.le_of_ble_eq_true rfl), (Nat.le_of_ble_eq_true rfl)⟩ (by decide) (cc_signAt (q := p + 1) hX (by omega) (by omega) hL2 ?_)
        refine y_nv ?_
        refine y_ld (x := .ref pk) rfl rfl (fun d => rfl) ?_
        refine y_ld (x := .ref me) rfl rfl (fun d => rfl) ?_
        refine y_cS (as := [iv x, .ref pk, .ref me]) rfl (by decide) rfl rfl rfl rfl ⟨(Nat.le_of_ble_eq_true rfl), (Nat.le_of_ble_eq_true rfl)⟩ (by decide) (cc_value (μ := μ) hm hμ hP hpk hwx ?_)
        refine y_nv ?_
        refine y_st (lv' := [(7, iv (eV μ a h κ n x)), (5, iv ((p + 1 : Nat) : Int)), (6, iv 120), (0, .ref t), (1, iv (i : Int)), (2, .ref pk), (3, .ref me), (4, iv (bB s))]) rfl rfl (fun d => rfl) ?_
        refine y_ld (x := .ref t) rfl rfl (fun d => rfl) ?_
        refine y_ld (x := iv ((p + 1 : Nat) : Int)) rfl rfl (fun d => rfl) ?_
        refine y_ic rfl rfl ?_
        refine y_add (z := ((p + 1 + 1 : Nat) : Int)) rfl rfl (by omega) ?_
        refine y_cV (as := [.ref t, iv ((p + 1 + 1 : Nat) : Int)]) rfl rfl rfl rfl rfl hX.1 ⟨rfl, (Nat.le_of_ble_eq_true rfl), (Nat.le_of_ble_eq_true rfl)⟩ (by decide) (cc_signAt (q := p + 1 + 1) hX (by omega) (by omega) hL3 ?_)
        refine y_nv ?_
        refine y_ld (x := .ref pk) rfl rfl (fun d => rfl) ?_
        refine y_ld (x := .ref me) rfl rfl (fun d => rfl) ?_
        refine y_cS (as := [iv y, .ref pk, .ref me]) rfl (by decide) rfl rfl rfl rfl ⟨(Nat.le_of_ble_eq_true rfl), (Nat.le_of_ble_eq_true rfl)⟩ (by decide) (cc_value (μ := μ) hm hμ hP hpk hwy ?_)
        refine y_nv ?_
        refine y_st (lv' := [(8, iv (eV μ a h κ n y)), (7, iv (eV μ a h κ n x)), (5, iv ((p + 1 : Nat) : Int)), (6, iv 120), (0, .ref t), (1, iv (i : Int)), (2, .ref pk), (3, .ref me), (4, iv (bB s))]) rfl rfl (fun d => rfl) ?_
        refine y_ld (x := iv 120) rfl rfl (fun d => rfl) ?_
        refine y_bi rfl rfl (by decide) ?_
        refine y_jne rfl rfl rfl (by decide) (fun g6 => absurd g6 (by decide)) (fun g6 => ?_)
        refine y_ld (x := iv (eV μ a h κ n x)) rfl rfl (fun d => rfl) ?_
        refine y_ld (x := iv (eV μ a h κ n y)) rfl rfl (fun d => rfl) ?_
        refine y_jge rfl rfl rfl (by omega) (fun g7 => ?_) (fun g7 => ?_)
        · refine y_ic rfl rfl ?_
          refine y_go rfl rfl ?_
          refine y_st (lv' := [(9, iv 0), (8, iv (eV μ a h κ n y)), (7, iv (eV μ a h κ n x)), (5, iv ((p + 1 : Nat) : Int)), (6, iv 120), (0, .ref t), (1, iv (i : Int)), (2, .ref pk), (3, .ref me), (4, iv (bB s))]) rfl rfl (fun d => rfl) ?_
          refine y_ld (x := iv (bB s)) rfl rfl (fun d => rfl) ?_
          refine y_ic rfl rfl ?_
          refine y_op (z := (bB (false :: s))) rfl rfl (fun d => rfl) (bB_sl hs) ?_
          refine y_ld (x := iv 0) rfl rfl (fun d => rfl) ?_
          refine y_zeq rfl rfl rfl (by decide) (fun g8 => ?_) (fun g8 => absurd g8 (by decide))
          refine y_ic rfl rfl ?_
          refine y_op (z := (bB (false :: s))) rfl rfl (fun d => rfl) (bB_o0 false s) ?_
          refine y_st (lv' := [(4, iv (bB (false :: s))), (9, iv 0), (8, iv (eV μ a h κ n y)), (7, iv (eV μ a h κ n x)), (5, iv ((p + 1 : Nat) : Int)), (6, iv 120), (0, .ref t), (1, iv (i : Int)), (2, .ref pk), (3, .ref me)]) rfl rfl (fun d => rfl) ?_
          refine y_inc (z := ((p + 3 : Nat) : Int)) (lv' := [(5, iv ((p + 3 : Nat) : Int)), (4, iv (bB (false :: s))), (9, iv 0), (8, iv (eV μ a h κ n y)), (7, iv (eV μ a h κ n x)), (6, iv 120), (0, .ref t), (1, iv (i : Int)), (2, .ref pk), (3, .ref me)]) rfl rfl rfl (by omega) rfl ?_
          refine y_go rfl rfl ?_
          refine y_lv (l' := [(0, .ref t), (1, iv (i : Int)), (2, .ref pk), (3, .ref me), (4, iv (bB (false :: s))), (5, iv ((p + 3 : Nat) : Int))]) rfl ⟨rfl, rfl, rfl, rfl, rfl, rfl, trivial⟩ ?_
          rw [decide_eq_false (by omega)] at hx2
          exact y_mono (ih (p + 3) (false :: s) r (by simp only [List.length_cons] at hm1; omega) (by rw [hE]; omega) hL4 hor hd2 (by simp only [List.length_cons]; omega) (by omega) hx2) (by omega)
        · refine y_ic rfl rfl ?_
          refine y_go rfl rfl ?_
          refine y_st (lv' := [(9, iv 1), (8, iv (eV μ a h κ n y)), (7, iv (eV μ a h κ n x)), (5, iv ((p + 1 : Nat) : Int)), (6, iv 120), (0, .ref t), (1, iv (i : Int)), (2, .ref pk), (3, .ref me), (4, iv (bB s))]) rfl rfl (fun d => rfl) ?_
          refine y_ld (x := iv (bB s)) rfl rfl (fun d => rfl) ?_
          refine y_ic rfl rfl ?_
          refine y_op (z := (bB (false :: s))) rfl rfl (fun d => rfl) (bB_sl hs) ?_
          refine y_ld (x := iv 1) rfl rfl (fun d => rfl) ?_
          refine y_zeq rfl rfl rfl (by decide) (fun g9 => absurd g9 (by decide)) (fun g9 => ?_)
          refine y_ic rfl rfl ?_
          refine y_go rfl rfl ?_
          refine y_op (z := (bB (true :: s))) rfl rfl (fun d => rfl) (bB_o1 false s) ?_
          refine y_st (lv' := [(4, iv (bB (true :: s))), (9, iv 1), (8, iv (eV μ a h κ n y)), (7, iv (eV μ a h κ n x)), (5, iv ((p + 1 : Nat) : Int)), (6, iv 120), (0, .ref t), (1, iv (i : Int)), (2, .ref pk), (3, .ref me)]) rfl rfl (fun d => rfl) ?_
          refine y_inc (z := ((p + 3 : Nat) : Int)) (lv' := [(5, iv ((p + 3 : Nat) : Int)), (4, iv (bB (true :: s))), (9, iv 1), (8, iv (eV μ a h κ n y)), (7, iv (eV μ a h κ n x)), (6, iv 120), (0, .ref t), (1, iv (i : Int)), (2, .ref pk), (3, .ref me)]) rfl rfl rfl (by omega) rfl ?_
          refine y_go rfl rfl ?_
          refine y_lv (l' := [(0, .ref t), (1, iv (i : Int)), (2, .ref pk), (3, .ref me), (4, iv (bB (true :: s))), (5, iv ((p + 3 : Nat) : Int))]) rfl ⟨rfl, rfl, rfl, rfl, rfl, rfl, trivial⟩ ?_
          rw [decide_eq_true (by omega)] at hx2
          exact y_mono (ih (p + 3) (true :: s) r (by simp only [List.length_cons] at hm1; omega) (by rw [hE]; omega) hL4 hor hd2 (by simp only [List.length_cons]; omega) (by omega) hx2) (by omega)
      · have hw := ho _ List.mem_cons_self (by decide : (121 : Int) ≤ 122)
        have hwx : tcd x := hw.2.1
        have hwy : tcd y := hw.2.2
        rw [encTc_t (by decide)] at hE hL h6b
        simp only [List.length_cons] at hE h6b
        obtain ⟨hL1, hL2, hL3, hL4⟩ := hL
        obtain ⟨hd1, hd2⟩ := dpt_tt (by decide) hd
        have hvx := eV_rg hμr hwx hpk
        have hvy := eV_rg hμr hwy hpk
        rw [eK_t (by decide), eT_1] at hx2
        refine y_ld (x := .ref t) rfl rfl (fun d => rfl) ?_
        refine y_ld (x := iv (p : Int)) rfl rfl (fun d => rfl) ?_
        refine y_cV (as := [.ref t, iv (p : Int)]) rfl rfl rfl rfl rfl hX.1 ⟨rfl, (Nat.le_of_ble_eq_true rfl), (Nat.le_of_ble_eq_true rfl)⟩ (by decide) (cc_signAt (q := p) hX (by omega) (by omega) hL1 ?_)
        refine y_nv ?_
        refine y_st (lv' := [(6, iv 121), (0, .ref t), (1, iv (i : Int)), (2, .ref pk), (3, .ref me), (4, iv (bB s)), (5, iv (p : Int))]) rfl rfl (fun d => rfl) ?_
        refine y_inc (z := ((p + 1 : Nat) : Int)) (lv' := [(5, iv ((p + 1 : Nat) : Int)), (6, iv 121), (0, .ref t), (1, iv (i : Int)), (2, .ref pk), (3, .ref me), (4, iv (bB s))]) rfl rfl rfl (by omega) rfl ?_
        refine y_ld (x := iv 121) rfl rfl (fun d => rfl) ?_
        refine y_bi rfl rfl (by decide) ?_
        refine y_jne rfl rfl rfl (by decide) (fun g10 => ?_) (fun g10 => absurd g10 (by decide))
        refine y_ld (x := iv 121) rfl rfl (fun d => rfl) ?_
        refine y_bi rfl rfl (by decide) ?_
        refine y_jne rfl rfl rfl (by decide) (fun g11 => ?_) (fun g11 => absurd g11 (by decide))
        refine y_ld (x := iv 121) rfl rfl (fun d => rfl) ?_
        refine y_bi rfl rfl (by decide) ?_
        refine y_jne rfl rfl rfl (by decide) (fun g12 => ?_) (fun g12 => absurd g12 (by decide))
        refine y_ld (x := .ref t) rfl rfl (fun d => rfl) ?_
        refine y_ld (x := iv ((p + 1 : Nat) : Int)) rfl rfl (fun d => rfl) ?_
        refine y_cV (as := [.ref t, iv ((p + 1 : Nat) : Int)]) rfl rfl rfl rfl rfl hX.1 ⟨rfl, (Nat.le_of_ble_eq_true rfl), (Nat.le_of_ble_eq_true rfl)⟩ (by decide) (cc_signAt (q := p + 1) hX (by omega) (by omega) hL2 ?_)
        refine y_nv ?_
        refine y_ld (x := .ref pk) rfl rfl (fun d => rfl) ?_
        refine y_ld (x := .ref me) rfl rfl (fun d => rfl) ?_
        refine y_cS (as := [iv x, .ref pk, .ref me]) rfl (by decide) rfl rfl rfl rfl ⟨(Nat.le_of_ble_eq_true rfl), (Nat.le_of_ble_eq_true rfl)⟩ (by decide) (cc_value (μ := μ) hm hμ hP hpk hwx ?_)
        refine y_nv ?_
        refine y_st (lv' := [(7, iv (eV μ a h κ n x)), (5, iv ((p + 1 : Nat) : Int)), (6, iv 121), (0, .ref t), (1, iv (i : Int)), (2, .ref pk), (3, .ref me), (4, iv (bB s))]) rfl rfl (fun d => rfl) ?_
        refine y_ld (x := .ref t) rfl rfl (fun d => rfl) ?_
        refine y_ld (x := iv ((p + 1 : Nat) : Int)) rfl rfl (fun d => rfl) ?_
        refine y_ic rfl rfl ?_
        refine y_add (z := ((p + 1 + 1 : Nat) : Int)) rfl rfl (by omega) ?_
        refine y_cV (as := [.ref t, iv ((p + 1 + 1 : Nat) : Int)]) rfl rfl rfl rfl rfl hX.1 ⟨rfl, (Nat.le_of_ble_eq_true rfl), (Nat.le_of_ble_eq_true rfl)⟩ (by decide) (cc_signAt (q := p + 1 + 1) hX (by omega) (by omega) hL3 ?_)
        refine y_nv ?_
        refine y_ld (x := .ref pk) rfl rfl (fun d => rfl) ?_
        refine y_ld (x := .ref me) rfl rfl (fun d => rfl) ?_
        refine y_cS (as := [iv y, .ref pk, .ref me]) rfl (by decide) rfl rfl rfl rfl ⟨(Nat.le_of_ble_eq_true rfl), (Nat.le_of_ble_eq_true rfl)⟩ (by decide) (cc_value (μ := μ) hm hμ hP hpk hwy ?_)
        refine y_nv ?_
        refine y_st (lv' := [(8, iv (eV μ a h κ n y)), (7, iv (eV μ a h κ n x)), (5, iv ((p + 1 : Nat) : Int)), (6, iv 121), (0, .ref t), (1, iv (i : Int)), (2, .ref pk), (3, .ref me), (4, iv (bB s))]) rfl rfl (fun d => rfl) ?_
        refine y_ld (x := iv 121) rfl rfl (fun d => rfl) ?_
        refine y_bi rfl rfl (by decide) ?_
        refine y_jne rfl rfl rfl (by decide) (fun g13 => ?_) (fun g13 => absurd g13 (by decide))
        refine y_ld (x := iv 121) rfl rfl (fun d => rfl) ?_
        refine y_bi rfl rfl (by decide) ?_
        refine y_jne rfl rfl rfl (by decide) (fun g14 => absurd g14 (by decide)) (fun g14 => ?_)
        refine y_ld (x := iv (eV μ a h κ n x)) rfl rfl (fun d => rfl) ?_
        refine y_ld (x := iv (eV μ a h κ n y)) rfl rfl (fun d => rfl) ?_
        refine y_jne rfl rfl rfl (by omega) (fun g15 => ?_) (fun g15 => ?_)
        · refine y_ic rfl rfl ?_
          refine y_go rfl rfl ?_
          refine y_st (lv' := [(9, iv 0), (8, iv (eV μ a h κ n y)), (7, iv (eV μ a h κ n x)), (5, iv ((p + 1 : Nat) : Int)), (6, iv 121), (0, .ref t), (1, iv (i : Int)), (2, .ref pk), (3, .ref me), (4, iv (bB s))]) rfl rfl (fun d => rfl) ?_
          refine y_ld (x := iv (bB s)) rfl rfl (fun d => rfl) ?_
          refine y_ic rfl rfl ?_
          refine y_op (z := (bB (false :: s))) rfl rfl (fun d => rfl) (bB_sl hs) ?_
          refine y_ld (x := iv 0) rfl rfl (fun d => rfl) ?_
          refine y_zeq rfl rfl rfl (by decide) (fun g16 => ?_) (fun g16 => absurd g16 (by decide))
          refine y_ic rfl rfl ?_
          refine y_op (z := (bB (false :: s))) rfl rfl (fun d => rfl) (bB_o0 false s) ?_
          refine y_st (lv' := [(4, iv (bB (false :: s))), (9, iv 0), (8, iv (eV μ a h κ n y)), (7, iv (eV μ a h κ n x)), (5, iv ((p + 1 : Nat) : Int)), (6, iv 121), (0, .ref t), (1, iv (i : Int)), (2, .ref pk), (3, .ref me)]) rfl rfl (fun d => rfl) ?_
          refine y_inc (z := ((p + 3 : Nat) : Int)) (lv' := [(5, iv ((p + 3 : Nat) : Int)), (4, iv (bB (false :: s))), (9, iv 0), (8, iv (eV μ a h κ n y)), (7, iv (eV μ a h κ n x)), (6, iv 121), (0, .ref t), (1, iv (i : Int)), (2, .ref pk), (3, .ref me)]) rfl rfl rfl (by omega) rfl ?_
          refine y_go rfl rfl ?_
          refine y_lv (l' := [(0, .ref t), (1, iv (i : Int)), (2, .ref pk), (3, .ref me), (4, iv (bB (false :: s))), (5, iv ((p + 3 : Nat) : Int))]) rfl ⟨rfl, rfl, rfl, rfl, rfl, rfl, trivial⟩ ?_
          rw [decide_eq_false (by omega)] at hx2
          exact y_mono (ih (p + 3) (false :: s) r (by simp only [List.length_cons] at hm1; omega) (by rw [hE]; omega) hL4 hor hd2 (by simp only [List.length_cons]; omega) (by omega) hx2) (by omega)
        · refine y_ic rfl rfl ?_
          refine y_go rfl rfl ?_
          refine y_st (lv' := [(9, iv 1), (8, iv (eV μ a h κ n y)), (7, iv (eV μ a h κ n x)), (5, iv ((p + 1 : Nat) : Int)), (6, iv 121), (0, .ref t), (1, iv (i : Int)), (2, .ref pk), (3, .ref me), (4, iv (bB s))]) rfl rfl (fun d => rfl) ?_
          refine y_ld (x := iv (bB s)) rfl rfl (fun d => rfl) ?_
          refine y_ic rfl rfl ?_
          refine y_op (z := (bB (false :: s))) rfl rfl (fun d => rfl) (bB_sl hs) ?_
          refine y_ld (x := iv 1) rfl rfl (fun d => rfl) ?_
          refine y_zeq rfl rfl rfl (by decide) (fun g17 => absurd g17 (by decide)) (fun g17 => ?_)
          refine y_ic rfl rfl ?_
          refine y_go rfl rfl ?_
          refine y_op (z := (bB (true :: s))) rfl rfl (fun d => rfl) (bB_o1 false s) ?_
          refine y_st (lv' := [(4, iv (bB (true :: s))), (9, iv 1), (8, iv (eV μ a h κ n y)), (7, iv (eV μ a h κ n x)), (5, iv ((p + 1 : Nat) : Int)), (6, iv 121), (0, .ref t), (1, iv (i : Int)), (2, .ref pk), (3, .ref me)]) rfl rfl (fun d => rfl) ?_
          refine y_inc (z := ((p + 3 : Nat) : Int)) (lv' := [(5, iv ((p + 3 : Nat) : Int)), (4, iv (bB (true :: s))), (9, iv 1), (8, iv (eV μ a h κ n y)), (7, iv (eV μ a h κ n x)), (6, iv 121), (0, .ref t), (1, iv (i : Int)), (2, .ref pk), (3, .ref me)]) rfl rfl rfl (by omega) rfl ?_
          refine y_go rfl rfl ?_
          refine y_lv (l' := [(0, .ref t), (1, iv (i : Int)), (2, .ref pk), (3, .ref me), (4, iv (bB (true :: s))), (5, iv ((p + 3 : Nat) : Int))]) rfl ⟨rfl, rfl, rfl, rfl, rfl, rfl, trivial⟩ ?_
          rw [decide_eq_true (by omega)] at hx2
          exact y_mono (ih (p + 3) (true :: s) r (by simp only [List.length_cons] at hm1; omega) (by rw [hE]; omega) hL4 hor hd2 (by simp only [List.length_cons]; omega) (by omega) hx2) (by omega)
      · have hw := ho _ List.mem_cons_self (by decide : (122 : Int) ≤ 122)
        have hwx : tcd x := hw.2.1
        have hwy : tcd y := hw.2.2
        rw [encTc_t (by decide)] at hE hL h6b
        simp only [List.length_cons] at hE h6b
        obtain ⟨hL1, hL2, hL3, hL4⟩ := hL
        obtain ⟨hd1, hd2⟩ := dpt_tt (by decide) hd
        have hvx := eV_rg hμr hwx hpk
        have hvy := eV_rg hμr hwy hpk
        rw [eK_t (by decide), eT_2] at hx2
        refine y_ld (x := .ref t) rfl rfl (fun d => rfl) ?_
        refine y_ld (x := iv (p : Int)) rfl rfl (fun d => rfl) ?_
        refine y_cV (as := [.ref t, iv (p : Int)]) rfl rfl rfl rfl rfl hX.1 ⟨rfl, (Nat.le_of_ble_eq_true rfl), (Nat.le_of_ble_eq_true rfl)⟩ (by decide) (cc_signAt (q := p) hX (by omega) (by omega) hL1 ?_)
        refine y_nv ?_
        refine y_st (lv' := [(6, iv 122), (0, .ref t), (1, iv (i : Int)), (2, .ref pk), (3, .ref me), (4, iv (bB s)), (5, iv (p : Int))]) rfl rfl (fun d => rfl) ?_
        refine y_inc (z := ((p + 1 : Nat) : Int)) (lv' := [(5, iv ((p + 1 : Nat) : Int)), (6, iv 122), (0, .ref t), (1, iv (i : Int)), (2, .ref pk), (3, .ref me), (4, iv (bB s))]) rfl rfl rfl (by omega) rfl ?_
        refine y_ld (x := iv 122) rfl rfl (fun d => rfl) ?_
        refine y_bi rfl rfl (by decide) ?_
        refine y_jne rfl rfl rfl (by decide) (fun g18 => ?_) (fun g18 => absurd g18 (by decide))
        refine y_ld (x := iv 122) rfl rfl (fun d => rfl) ?_
        refine y_bi rfl rfl (by decide) ?_
        refine y_jne rfl rfl rfl (by decide) (fun g19 => ?_) (fun g19 => absurd g19 (by decide))
        refine y_ld (x := iv 122) rfl rfl (fun d => rfl) ?_
        refine y_bi rfl rfl (by decide) ?_
        refine y_jne rfl rfl rfl (by decide) (fun g20 => ?_) (fun g20 => absurd g20 (by decide))
        refine y_ld (x := .ref t) rfl rfl (fun d => rfl) ?_
        refine y_ld (x := iv ((p + 1 : Nat) : Int)) rfl rfl (fun d => rfl) ?_
        refine y_cV (as := [.ref t, iv ((p + 1 : Nat) : Int)]) rfl rfl rfl rfl rfl hX.1 ⟨rfl, (Nat.le_of_ble_eq_true rfl), (Nat.le_of_ble_eq_true rfl)⟩ (by decide) (cc_signAt (q := p + 1) hX (by omega) (by omega) hL2 ?_)
        refine y_nv ?_
        refine y_ld (x := .ref pk) rfl rfl (fun d => rfl) ?_
        refine y_ld (x := .ref me) rfl rfl (fun d => rfl) ?_
        refine y_cS (as := [iv x, .ref pk, .ref me]) rfl (by decide) rfl rfl rfl rfl ⟨(Nat.le_of_ble_eq_true rfl), (Nat.le_of_ble_eq_true rfl)⟩ (by decide) (cc_value (μ := μ) hm hμ hP hpk hwx ?_)
        refine y_nv ?_
        refine y_st (lv' := [(7, iv (eV μ a h κ n x)), (5, iv ((p + 1 : Nat) : Int)), (6, iv 122), (0, .ref t), (1, iv (i : Int)), (2, .ref pk), (3, .ref me), (4, iv (bB s))]) rfl rfl (fun d => rfl) ?_
        refine y_ld (x := .ref t) rfl rfl (fun d => rfl) ?_
        refine y_ld (x := iv ((p + 1 : Nat) : Int)) rfl rfl (fun d => rfl) ?_
        refine y_ic rfl rfl ?_
        refine y_add (z := ((p + 1 + 1 : Nat) : Int)) rfl rfl (by omega) ?_
        refine y_cV (as := [.ref t, iv ((p + 1 + 1 : Nat) : Int)]) rfl rfl rfl rfl rfl hX.1 ⟨rfl, (Nat.le_of_ble_eq_true rfl), (Nat.le_of_ble_eq_true rfl)⟩ (by decide) (cc_signAt (q := p + 1 + 1) hX (by omega) (by omega) hL3 ?_)
        refine y_nv ?_
        refine y_ld (x := .ref pk) rfl rfl (fun d => rfl) ?_
        refine y_ld (x := .ref me) rfl rfl (fun d => rfl) ?_
        refine y_cS (as := [iv y, .ref pk, .ref me]) rfl (by decide) rfl rfl rfl rfl ⟨(Nat.le_of_ble_eq_true rfl), (Nat.le_of_ble_eq_true rfl)⟩ (by decide) (cc_value (μ := μ) hm hμ hP hpk hwy ?_)
        refine y_nv ?_
        refine y_st (lv' := [(8, iv (eV μ a h κ n y)), (7, iv (eV μ a h κ n x)), (5, iv ((p + 1 : Nat) : Int)), (6, iv 122), (0, .ref t), (1, iv (i : Int)), (2, .ref pk), (3, .ref me), (4, iv (bB s))]) rfl rfl (fun d => rfl) ?_
        refine y_ld (x := iv 122) rfl rfl (fun d => rfl) ?_
        refine y_bi rfl rfl (by decide) ?_
        refine y_jne rfl rfl rfl (by decide) (fun g21 => ?_) (fun g21 => absurd g21 (by decide))
        refine y_ld (x := iv 122) rfl rfl (fun d => rfl) ?_
        refine y_bi rfl rfl (by decide) ?_
        refine y_jne rfl rfl rfl (by decide) (fun g22 => ?_) (fun g22 => absurd g22 (by decide))
        refine y_ld (x := iv (eV μ a h κ n x)) rfl rfl (fun d => rfl) ?_
        refine y_ld (x := iv (eV μ a h κ n y)) rfl rfl (fun d => rfl) ?_
        refine y_jle rfl rfl rfl (by omega) (fun g23 => ?_) (fun g23 => ?_)
        · refine y_ic rfl rfl ?_
          refine y_st (lv' := [(9, iv 0), (8, iv (eV μ a h κ n y)), (7, iv (eV μ a h κ n x)), (5, iv ((p + 1 : Nat) : Int)), (6, iv 122), (0, .ref t), (1, iv (i : Int)), (2, .ref pk), (3, .ref me), (4, iv (bB s))]) rfl rfl (fun d => rfl) ?_
          refine y_ld (x := iv (bB s)) rfl rfl (fun d => rfl) ?_
          refine y_ic rfl rfl ?_
          refine y_op (z := (bB (false :: s))) rfl rfl (fun d => rfl) (bB_sl hs) ?_
          refine y_ld (x := iv 0) rfl rfl (fun d => rfl) ?_
          refine y_zeq rfl rfl rfl (by decide) (fun g24 => ?_) (fun g24 => absurd g24 (by decide))
          refine y_ic rfl rfl ?_
          refine y_op (z := (bB (false :: s))) rfl rfl (fun d => rfl) (bB_o0 false s) ?_
          refine y_st (lv' := [(4, iv (bB (false :: s))), (9, iv 0), (8, iv (eV μ a h κ n y)), (7, iv (eV μ a h κ n x)), (5, iv ((p + 1 : Nat) : Int)), (6, iv 122), (0, .ref t), (1, iv (i : Int)), (2, .ref pk), (3, .ref me)]) rfl rfl (fun d => rfl) ?_
          refine y_inc (z := ((p + 3 : Nat) : Int)) (lv' := [(5, iv ((p + 3 : Nat) : Int)), (4, iv (bB (false :: s))), (9, iv 0), (8, iv (eV μ a h κ n y)), (7, iv (eV μ a h κ n x)), (6, iv 122), (0, .ref t), (1, iv (i : Int)), (2, .ref pk), (3, .ref me)]) rfl rfl rfl (by omega) rfl ?_
          refine y_go rfl rfl ?_
          refine y_lv (l' := [(0, .ref t), (1, iv (i : Int)), (2, .ref pk), (3, .ref me), (4, iv (bB (false :: s))), (5, iv ((p + 3 : Nat) : Int))]) rfl ⟨rfl, rfl, rfl, rfl, rfl, rfl, trivial⟩ ?_
          rw [decide_eq_false (by omega)] at hx2
          exact y_mono (ih (p + 3) (false :: s) r (by simp only [List.length_cons] at hm1; omega) (by rw [hE]; omega) hL4 hor hd2 (by simp only [List.length_cons]; omega) (by omega) hx2) (by omega)
        · refine y_ic rfl rfl ?_
          refine y_go rfl rfl ?_
          refine y_st (lv' := [(9, iv 1), (8, iv (eV μ a h κ n y)), (7, iv (eV μ a h κ n x)), (5, iv ((p + 1 : Nat) : Int)), (6, iv 122), (0, .ref t), (1, iv (i : Int)), (2, .ref pk), (3, .ref me), (4, iv (bB s))]) rfl rfl (fun d => rfl) ?_
          refine y_ld (x := iv (bB s)) rfl rfl (fun d => rfl) ?_
          refine y_ic rfl rfl ?_
          refine y_op (z := (bB (false :: s))) rfl rfl (fun d => rfl) (bB_sl hs) ?_
          refine y_ld (x := iv 1) rfl rfl (fun d => rfl) ?_
          refine y_zeq rfl rfl rfl (by decide) (fun g25 => absurd g25 (by decide)) (fun g25 => ?_)
          refine y_ic rfl rfl ?_
          refine y_go rfl rfl ?_
          refine y_op (z := (bB (true :: s))) rfl rfl (fun d => rfl) (bB_o1 false s) ?_
          refine y_st (lv' := [(4, iv (bB (true :: s))), (9, iv 1), (8, iv (eV μ a h κ n y)), (7, iv (eV μ a h κ n x)), (5, iv ((p + 1 : Nat) : Int)), (6, iv 122), (0, .ref t), (1, iv (i : Int)), (2, .ref pk), (3, .ref me)]) rfl rfl (fun d => rfl) ?_
          refine y_inc (z := ((p + 3 : Nat) : Int)) (lv' := [(5, iv ((p + 3 : Nat) : Int)), (4, iv (bB (true :: s))), (9, iv 1), (8, iv (eV μ a h κ n y)), (7, iv (eV μ a h κ n x)), (6, iv 122), (0, .ref t), (1, iv (i : Int)), (2, .ref pk), (3, .ref me)]) rfl rfl rfl (by omega) rfl ?_
          refine y_go rfl rfl ?_
          refine y_lv (l' := [(0, .ref t), (1, iv (i : Int)), (2, .ref pk), (3, .ref me), (4, iv (bB (true :: s))), (5, iv ((p + 3 : Nat) : Int))]) rfl ⟨rfl, rfl, rfl, rfl, rfl, rfl, trivial⟩ ?_
          rw [decide_eq_true (by omega)] at hx2
          exact y_mono (ih (p + 3) (true :: s) r (by simp only [List.length_cons] at hm1; omega) (by rw [hE]; omega) hL4 hor hd2 (by simp only [List.length_cons]; omega) (by omega) hx2) (by omega)
      · rw [encTc_o (by decide)] at hE hL h6b
        simp only [List.length_cons] at hE h6b
        obtain ⟨hL1, hL4⟩ := hL
        obtain ⟨hd1, hd2⟩ := dpt_nn hd
        rcases s with _ | ⟨b, s⟩
        · exact absurd hd1 (by decide)
        rw [eK_n] at hx2
        simp only [List.length_cons] at hs
        refine y_ld (x := .ref t) rfl rfl (fun d => rfl) ?_
        refine y_ld (x := iv (p : Int)) rfl rfl (fun d => rfl) ?_
        refine y_cV (as := [.ref t, iv (p : Int)]) rfl rfl rfl rfl rfl hX.1 ⟨rfl, (Nat.le_of_ble_eq_true rfl), (Nat.le_of_ble_eq_true rfl)⟩ (by decide) (cc_signAt (q := p) hX (by omega) (by omega) hL1 ?_)
        refine y_nv ?_
        refine y_st (lv' := [(6, iv 123), (0, .ref t), (1, iv (i : Int)), (2, .ref pk), (3, .ref me), (4, iv (bB (b :: s))), (5, iv (p : Int))]) rfl rfl (fun d => rfl) ?_
        refine y_inc (z := ((p + 1 : Nat) : Int)) (lv' := [(5, iv ((p + 1 : Nat) : Int)), (6, iv 123), (0, .ref t), (1, iv (i : Int)), (2, .ref pk), (3, .ref me), (4, iv (bB (b :: s)))]) rfl rfl rfl (by omega) rfl ?_
        refine y_ld (x := iv 123) rfl rfl (fun d => rfl) ?_
        refine y_bi rfl rfl (by decide) ?_
        refine y_jne rfl rfl rfl (by decide) (fun g26 => absurd g26 (by decide)) (fun g26 => ?_)
        refine y_ld (x := iv (bB (b :: s))) rfl rfl (fun d => rfl) ?_
        refine y_ic rfl rfl ?_
        refine y_op (z := (bB ((!b) :: s))) rfl rfl (fun d => rfl) (bB_not b s) ?_
        refine y_st (lv' := [(4, iv (bB ((!b) :: s))), (5, iv ((p + 1 : Nat) : Int)), (6, iv 123), (0, .ref t), (1, iv (i : Int)), (2, .ref pk), (3, .ref me)]) rfl rfl (fun d => rfl) ?_
        refine y_go rfl rfl ?_
        refine y_go rfl rfl ?_
        refine y_lv (l' := [(0, .ref t), (1, iv (i : Int)), (2, .ref pk), (3, .ref me), (4, iv (bB ((!b) :: s))), (5, iv ((p + 1 : Nat) : Int))]) rfl ⟨rfl, rfl, rfl, rfl, rfl, rfl, trivial⟩ ?_
        exact y_mono (ih (p + 1) ((!b) :: s) r (by simp only [List.length_cons] at hm1; omega) (by rw [hE]; omega) hL4 hor hd2 (by simp only [List.length_cons]; omega) (by omega) hx2) (by omega)
      · rw [encTc_o (by decide)] at hE hL h6b
        simp only [List.length_cons] at hE h6b
        obtain ⟨hL1, hL4⟩ := hL
        obtain ⟨-, hd1, hd2⟩ := dpt_jj (by decide) hd
        rcases s with _ | ⟨b2, _ | ⟨b1, s⟩⟩
        · exact absurd hd1 (by decide)
        · exact absurd hd1 (by simp)
        simp only [List.length_cons] at hs
        simp only [List.length_cons, Nat.add_sub_cancel] at hd2
        rw [eK_a] at hx2
        cases b2
        · rw [show (b1 && false) = false by cases b1 <;> rfl] at hx2
          refine y_ld (x := .ref t) rfl rfl (fun d => rfl) ?_
          refine y_ld (x := iv (p : Int)) rfl rfl (fun d => rfl) ?_
          refine y_cV (as := [.ref t, iv (p : Int)]) rfl rfl rfl rfl rfl hX.1 ⟨rfl, (Nat.le_of_ble_eq_true rfl), (Nat.le_of_ble_eq_true rfl)⟩ (by decide) (cc_signAt (q := p) hX (by omega) (by omega) hL1 ?_)
          refine y_nv ?_
          refine y_st (lv' := [(6, iv 124), (0, .ref t), (1, iv (i : Int)), (2, .ref pk), (3, .ref me), (4, iv (bB (false :: b1 :: s))), (5, iv (p : Int))]) rfl rfl (fun d => rfl) ?_
          refine y_inc (z := ((p + 1 : Nat) : Int)) (lv' := [(5, iv ((p + 1 : Nat) : Int)), (6, iv 124), (0, .ref t), (1, iv (i : Int)), (2, .ref pk), (3, .ref me), (4, iv (bB (false :: b1 :: s)))]) rfl rfl rfl (by omega) rfl ?_
          refine y_ld (x := iv 124) rfl rfl (fun d => rfl) ?_
          refine y_bi rfl rfl (by decide) ?_
          refine y_jne rfl rfl rfl (by decide) (fun g27 => ?_) (fun g27 => absurd g27 (by decide))
          refine y_ld (x := iv 124) rfl rfl (fun d => rfl) ?_
          refine y_bi rfl rfl (by decide) ?_
          refine y_jne rfl rfl rfl (by decide) (fun g28 => absurd g28 (by decide)) (fun g28 => ?_)
          refine y_ld (x := iv (bB (false :: b1 :: s))) rfl rfl (fun d => rfl) ?_
          refine y_ic rfl rfl ?_
          refine y_op (z := 0) rfl rfl (fun d => rfl) (bB_a1 false (b1 :: s)) ?_
          refine y_ic rfl rfl ?_
          refine y_jne rfl rfl rfl (by decide) (fun g29 => ?_) (fun g29 => absurd g29 (by decide))
          refine y_ld (x := iv (bB (false :: b1 :: s))) rfl rfl (fun d => rfl) ?_
          refine y_ic rfl rfl ?_
          refine y_op (z := (bB (b1 :: s))) rfl rfl (fun d => rfl) (bB_sh (by simp only [List.length_cons]; omega)) ?_
          refine y_bi rfl rfl (by decide) ?_
          refine y_op (z := (bB (false :: s))) rfl rfl (fun d => rfl) (bB_m2 (by omega)) ?_
          refine y_st (lv' := [(4, iv (bB (false :: s))), (5, iv ((p + 1 : Nat) : Int)), (6, iv 124), (0, .ref t), (1, iv (i : Int)), (2, .ref pk), (3, .ref me)]) rfl rfl (fun d => rfl) ?_
          refine y_go rfl rfl ?_
          refine y_go rfl rfl ?_
          refine y_lv (l' := [(0, .ref t), (1, iv (i : Int)), (2, .ref pk), (3, .ref me), (4, iv (bB (false :: s))), (5, iv ((p + 1 : Nat) : Int))]) rfl ⟨rfl, rfl, rfl, rfl, rfl, rfl, trivial⟩ ?_
          exact y_mono (ih (p + 1) (false :: s) r (by simp only [List.length_cons] at hm1; omega) (by rw [hE]; omega) hL4 hor hd2 (by simp only [List.length_cons]; omega) (by omega) hx2) (by omega)
        · rw [show (b1 && true) = b1 by cases b1 <;> rfl] at hx2
          refine y_ld (x := .ref t) rfl rfl (fun d => rfl) ?_
          refine y_ld (x := iv (p : Int)) rfl rfl (fun d => rfl) ?_
          refine y_cV (as := [.ref t, iv (p : Int)]) rfl rfl rfl rfl rfl hX.1 ⟨rfl, (Nat.le_of_ble_eq_true rfl), (Nat.le_of_ble_eq_true rfl)⟩ (by decide) (cc_signAt (q := p) hX (by omega) (by omega) hL1 ?_)
          refine y_nv ?_
          refine y_st (lv' := [(6, iv 124), (0, .ref t), (1, iv (i : Int)), (2, .ref pk), (3, .ref me), (4, iv (bB (true :: b1 :: s))), (5, iv (p : Int))]) rfl rfl (fun d => rfl) ?_
          refine y_inc (z := ((p + 1 : Nat) : Int)) (lv' := [(5, iv ((p + 1 : Nat) : Int)), (6, iv 124), (0, .ref t), (1, iv (i : Int)), (2, .ref pk), (3, .ref me), (4, iv (bB (true :: b1 :: s)))]) rfl rfl rfl (by omega) rfl ?_
          refine y_ld (x := iv 124) rfl rfl (fun d => rfl) ?_
          refine y_bi rfl rfl (by decide) ?_
          refine y_jne rfl rfl rfl (by decide) (fun g30 => ?_) (fun g30 => absurd g30 (by decide))
          refine y_ld (x := iv 124) rfl rfl (fun d => rfl) ?_
          refine y_bi rfl rfl (by decide) ?_
          refine y_jne rfl rfl rfl (by decide) (fun g31 => absurd g31 (by decide)) (fun g31 => ?_)
          refine y_ld (x := iv (bB (true :: b1 :: s))) rfl rfl (fun d => rfl) ?_
          refine y_ic rfl rfl ?_
          refine y_op (z := 1) rfl rfl (fun d => rfl) (bB_a1 true (b1 :: s)) ?_
          refine y_ic rfl rfl ?_
          refine y_jne rfl rfl rfl (by decide) (fun g32 => absurd g32 (by decide)) (fun g32 => ?_)
          refine y_ld (x := iv (bB (true :: b1 :: s))) rfl rfl (fun d => rfl) ?_
          refine y_ic rfl rfl ?_
          refine y_op (z := (bB (b1 :: s))) rfl rfl (fun d => rfl) (bB_sh (by simp only [List.length_cons]; omega)) ?_
          refine y_go rfl rfl ?_
          refine y_st (lv' := [(4, iv (bB (b1 :: s))), (5, iv ((p + 1 : Nat) : Int)), (6, iv 124), (0, .ref t), (1, iv (i : Int)), (2, .ref pk), (3, .ref me)]) rfl rfl (fun d => rfl) ?_
          refine y_go rfl rfl ?_
          refine y_go rfl rfl ?_
          refine y_lv (l' := [(0, .ref t), (1, iv (i : Int)), (2, .ref pk), (3, .ref me), (4, iv (bB (b1 :: s))), (5, iv ((p + 1 : Nat) : Int))]) rfl ⟨rfl, rfl, rfl, rfl, rfl, rfl, trivial⟩ ?_
          exact y_mono (ih (p + 1) (b1 :: s) r (by simp only [List.length_cons] at hm1; omega) (by rw [hE]; omega) hL4 hor hd2 (by simp only [List.length_cons]; omega) (by omega) hx2) (by omega)
      · rw [encTc_o (by decide)] at hE hL h6b
        simp only [List.length_cons] at hE h6b
        obtain ⟨hL1, hL4⟩ := hL
        obtain ⟨-, hd1, hd2⟩ := dpt_jj (by decide) hd
        rcases s with _ | ⟨b2, _ | ⟨b1, s⟩⟩
        · exact absurd hd1 (by decide)
        · exact absurd hd1 (by simp)
        simp only [List.length_cons] at hs
        simp only [List.length_cons, Nat.add_sub_cancel] at hd2
        rw [eK_o] at hx2
        cases b2
        · rw [show (b1 || false) = b1 by cases b1 <;> rfl] at hx2
          refine y_ld (x := .ref t) rfl rfl (fun d => rfl) ?_
          refine y_ld (x := iv (p : Int)) rfl rfl (fun d => rfl) ?_
          refine y_cV (as := [.ref t, iv (p : Int)]) rfl rfl rfl rfl rfl hX.1 ⟨rfl, (Nat.le_of_ble_eq_true rfl), (Nat.le_of_ble_eq_true rfl)⟩ (by decide) (cc_signAt (q := p) hX (by omega) (by omega) hL1 ?_)
          refine y_nv ?_
          refine y_st (lv' := [(6, iv 125), (0, .ref t), (1, iv (i : Int)), (2, .ref pk), (3, .ref me), (4, iv (bB (false :: b1 :: s))), (5, iv (p : Int))]) rfl rfl (fun d => rfl) ?_
          refine y_inc (z := ((p + 1 : Nat) : Int)) (lv' := [(5, iv ((p + 1 : Nat) : Int)), (6, iv 125), (0, .ref t), (1, iv (i : Int)), (2, .ref pk), (3, .ref me), (4, iv (bB (false :: b1 :: s)))]) rfl rfl rfl (by omega) rfl ?_
          refine y_ld (x := iv 125) rfl rfl (fun d => rfl) ?_
          refine y_bi rfl rfl (by decide) ?_
          refine y_jne rfl rfl rfl (by decide) (fun g33 => ?_) (fun g33 => absurd g33 (by decide))
          refine y_ld (x := iv 125) rfl rfl (fun d => rfl) ?_
          refine y_bi rfl rfl (by decide) ?_
          refine y_jne rfl rfl rfl (by decide) (fun g34 => ?_) (fun g34 => absurd g34 (by decide))
          refine y_ld (x := iv 125) rfl rfl (fun d => rfl) ?_
          refine y_bi rfl rfl (by decide) ?_
          refine y_jne rfl rfl rfl (by decide) (fun g35 => absurd g35 (by decide)) (fun g35 => ?_)
          refine y_ld (x := iv (bB (false :: b1 :: s))) rfl rfl (fun d => rfl) ?_
          refine y_ic rfl rfl ?_
          refine y_op (z := 0) rfl rfl (fun d => rfl) (bB_a1 false (b1 :: s)) ?_
          refine y_ic rfl rfl ?_
          refine y_jne rfl rfl rfl (by decide) (fun g36 => ?_) (fun g36 => absurd g36 (by decide))
          refine y_ld (x := iv (bB (false :: b1 :: s))) rfl rfl (fun d => rfl) ?_
          refine y_ic rfl rfl ?_
          refine y_op (z := (bB (b1 :: s))) rfl rfl (fun d => rfl) (bB_sh (by simp only [List.length_cons]; omega)) ?_
          refine y_st (lv' := [(4, iv (bB (b1 :: s))), (5, iv ((p + 1 : Nat) : Int)), (6, iv 125), (0, .ref t), (1, iv (i : Int)), (2, .ref pk), (3, .ref me)]) rfl rfl (fun d => rfl) ?_
          refine y_go rfl rfl ?_
          refine y_go rfl rfl ?_
          refine y_lv (l' := [(0, .ref t), (1, iv (i : Int)), (2, .ref pk), (3, .ref me), (4, iv (bB (b1 :: s))), (5, iv ((p + 1 : Nat) : Int))]) rfl ⟨rfl, rfl, rfl, rfl, rfl, rfl, trivial⟩ ?_
          exact y_mono (ih (p + 1) (b1 :: s) r (by simp only [List.length_cons] at hm1; omega) (by rw [hE]; omega) hL4 hor hd2 (by simp only [List.length_cons]; omega) (by omega) hx2) (by omega)
        · rw [show (b1 || true) = true by cases b1 <;> rfl] at hx2
          refine y_ld (x := .ref t) rfl rfl (fun d => rfl) ?_
          refine y_ld (x := iv (p : Int)) rfl rfl (fun d => rfl) ?_
          refine y_cV (as := [.ref t, iv (p : Int)]) rfl rfl rfl rfl rfl hX.1 ⟨rfl, (Nat.le_of_ble_eq_true rfl), (Nat.le_of_ble_eq_true rfl)⟩ (by decide) (cc_signAt (q := p) hX (by omega) (by omega) hL1 ?_)
          refine y_nv ?_
          refine y_st (lv' := [(6, iv 125), (0, .ref t), (1, iv (i : Int)), (2, .ref pk), (3, .ref me), (4, iv (bB (true :: b1 :: s))), (5, iv (p : Int))]) rfl rfl (fun d => rfl) ?_
          refine y_inc (z := ((p + 1 : Nat) : Int)) (lv' := [(5, iv ((p + 1 : Nat) : Int)), (6, iv 125), (0, .ref t), (1, iv (i : Int)), (2, .ref pk), (3, .ref me), (4, iv (bB (true :: b1 :: s)))]) rfl rfl rfl (by omega) rfl ?_
          refine y_ld (x := iv 125) rfl rfl (fun d => rfl) ?_
          refine y_bi rfl rfl (by decide) ?_
          refine y_jne rfl rfl rfl (by decide) (fun g37 => ?_) (fun g37 => absurd g37 (by decide))
          refine y_ld (x := iv 125) rfl rfl (fun d => rfl) ?_
          refine y_bi rfl rfl (by decide) ?_
          refine y_jne rfl rfl rfl (by decide) (fun g38 => ?_) (fun g38 => absurd g38 (by decide))
          refine y_ld (x := iv 125) rfl rfl (fun d => rfl) ?_
          refine y_bi rfl rfl (by decide) ?_
          refine y_jne rfl rfl rfl (by decide) (fun g39 => absurd g39 (by decide)) (fun g39 => ?_)
          refine y_ld (x := iv (bB (true :: b1 :: s))) rfl rfl (fun d => rfl) ?_
          refine y_ic rfl rfl ?_
          refine y_op (z := 1) rfl rfl (fun d => rfl) (bB_a1 true (b1 :: s)) ?_
          refine y_ic rfl rfl ?_
          refine y_jne rfl rfl rfl (by decide) (fun g40 => absurd g40 (by decide)) (fun g40 => ?_)
          refine y_ld (x := iv (bB (true :: b1 :: s))) rfl rfl (fun d => rfl) ?_
          refine y_ic rfl rfl ?_
          refine y_op (z := (bB (b1 :: s))) rfl rfl (fun d => rfl) (bB_sh (by simp only [List.length_cons]; omega)) ?_
          refine y_ic rfl rfl ?_
          refine y_op (z := (bB (true :: s))) rfl rfl (fun d => rfl) (bB_o1 b1 s) ?_
          refine y_go rfl rfl ?_
          refine y_st (lv' := [(4, iv (bB (true :: s))), (5, iv ((p + 1 : Nat) : Int)), (6, iv 125), (0, .ref t), (1, iv (i : Int)), (2, .ref pk), (3, .ref me)]) rfl rfl (fun d => rfl) ?_
          refine y_go rfl rfl ?_
          refine y_go rfl rfl ?_
          refine y_lv (l' := [(0, .ref t), (1, iv (i : Int)), (2, .ref pk), (3, .ref me), (4, iv (bB (true :: s))), (5, iv ((p + 1 : Nat) : Int))]) rfl ⟨rfl, rfl, rfl, rfl, rfl, rfl, trivial⟩ ?_
          exact y_mono (ih (p + 1) (true :: s) r (by simp only [List.length_cons] at hm1; omega) (by rw [hE]; omega) hL4 hor hd2 (by simp only [List.length_cons]; omega) (by omega) hx2) (by omega)
set_option maxRecDepth 100000 in
set_option maxHeartbeats 4000000 in
theorem cc_holds {t me c pk : Nat} {μ : Nat → Int} {a h κ n : Int} (hX : TxS S t) (hm : MeS S me c) (hμ : V c = μ) (hP : PkS S V pk a h κ n) (hpk : pkO a h κ n) (hμr : muO μ) (h6 : V t 6 ≤ 160) {i D p : Nat} {L : List p_Tk} (hi : i < 8) (hb : V (t + 2) i = (p : Int)) (hE : V (t + 3) i = ((p + (encTc L).length : Nat) : Int)) (hL : SG V (t + 5) p (encTc L)) (ho : tkO L) (hd : dpt 14 L 0 D) (hll : L.length < 200) (h6b : ((p + (encTc L).length : Nat) : Int) ≤ V t 6) (k : K u w (some (iv (v_b (eH μ a h κ n L = true)))) S V) : y_R X 4 55 u w [.ref t, iv (i : Int), .ref pk, .ref me] S V K := by
  refine y_ent (lv' := [(0, .ref t), (1, iv (i : Int)), (2, .ref pk), (3, .ref me)]) (Nat.le_of_ble_eq_true rfl) rfl ?_
  refine y_ic rfl rfl ?_
  refine y_st (lv' := [(4, iv 1), (0, .ref t), (1, iv (i : Int)), (2, .ref pk), (3, .ref me)]) rfl rfl (fun d => rfl) ?_
  refine y_ld (x := .ref t) rfl rfl (fun d => rfl) ?_
  refine y_gR (i := 2) rfl rfl rfl hX.1 rfl ?_
  refine y_ld (x := iv (i : Int)) rfl rfl (fun d => rfl) ?_
  refine y_ild (x := (p : Int)) (q := i) rfl rfl hX.2.2.1 (by omega) (by decide) (by omega) hb ?_
  refine y_st (lv' := [(5, iv (p : Int)), (4, iv 1), (0, .ref t), (1, iv (i : Int)), (2, .ref pk), (3, .ref me)]) rfl rfl (fun d => rfl) ?_
  refine y_lv (l' := [(0, .ref t), (1, iv (i : Int)), (2, .ref pk), (3, .ref me), (4, iv (bB [])), (5, iv (p : Int))]) rfl ⟨rfl, rfl, rfl, rfl, rfl, rfl, trivial⟩ ?_
  exact y_mono (lp_holds (F := 100) hX hm hμ hP hpk hμr h6 hi 200 p [] L hll hE hL ho hd (by decide) h6b k) (by decide)
end
end
section
/-! the LINE for a packet; its ACTS: the class -/
theorem encTc_ge : ∀ l : List p_Tk, l.length ≤ (encTc l).length
  | [] => Nat.le_refl _
  | (c, x, y) :: r => by
    have ih := encTc_ge r
    by_cases hc : c ≤ 122
    · rw [encTc_t hc]; simp only [List.length_cons]; omega
    · rw [encTc_o hc]; simp only [List.length_cons]; omega
theorem lnO_dp {x : p_Li} (h : lnO x) : ∃ D, dpt 14 x.2.2.1 0 D := by
  rcases h with ⟨-, h⟩ | ⟨-, h⟩
  · exact ⟨1, h⟩
  · exact ⟨0, by rw [h]; exact rfl⟩
theorem CT_6 {V : v_V} {t : Nat} {l : List p_Li} (h : CT V t l) (h6 : V t 6 ≤ 160) : (l.length : Int) = V t 0 := h.1.symm
theorem encAc_ge {c : Int} {l : List Int} {q : List p_Ac} : 1 + (encAc q).length ≤ (encAc ((c, l) :: q)).length := by
  by_cases hc : 126 ≤ c
  · rw [encAc_e hc]; simp only [List.length_cons]; omega
  · rw [encAc_c hc]; simp only [List.length_cons, List.length_append]; omega
section
variable {X : Nat → List Int32} {u w : Nat} {S : m_H} {V : v_V} {K : v_K}
set_option maxRecDepth 100000 in
set_option maxHeartbeats 4000000 in
theorem lp_lineFor {t me c pk : Nat} {μ : Nat → Int} {a h κ n : Int} {l : List p_Li} (hX : TxS S t) (hm : MeS S me c) (hμ : V c = μ) (hP : PkS S V pk a h κ n) (hpk : pkO a h κ n) (hμr : muO μ) (h6 : V t 6 ≤ 160) (hCT : CT V t l) (hlo : lsO l) (hld : ∀ x ∈ l, lnO x) (hl8 : l.length ≤ 8) {F : Nat} : ∀ (m : Nat) (i : Nat) (r : List p_Li), r.length < m → (i + r.length = l.length) → (∀ j, m_nth r j = m_nth l (i + j)) → (K u w (some (iv (eL μ a h κ n i r))) S V) → y_E X 4 54 (60 * m + F) u w 2 [(0, .ref t), (1, .ref pk), (2, .ref me), (3, iv (i : Int))] [] S V K := by
  intro m
  induction m with
  | zero => intros; omega
  | succ m ih =>
    intro i r hm1 hI hR hx2
    refine y_mono (F' := (60 * m + F) + 60) ?_ (by omega)
    refine y_ld (x := iv (i : Int)) rfl rfl (fun d => rfl) ?_
    refine y_ld (x := .ref t) rfl rfl (fun d => rfl) ?_
    refine y_gI (i := 0) (e := (l.length : Int)) rfl rfl rfl hX.1 rfl hCT.1 ?_
    refine y_jge rfl rfl rfl (by omega) (fun g1 => ?_) (fun g1 => ?_)
    · refine y_bi rfl rfl (by decide) ?_
      refine y_rI rfl (Or.inl rfl) ?_
      rcases r with _ | ⟨x, r⟩
      · exact hx2
      · exact absurd hI (by simp only [List.length_cons]; omega)
    · rcases r with _ | ⟨x, r⟩
      · exact absurd hI (by simp only [List.length_nil]; omega)
      have hll : ((x :: r).length) = r.length + 1 := rfl
      have hxi : m_nth l i = some x := (hR 0).symm
      have hxm : x ∈ l := by rw [m_nth_eq] at hxi; exact List.mem_of_getElem? hxi
      have hxo := hlo x hxm
      have hx04 : 0 ≤ x.1 ∧ x.1 ≤ 4 := ⟨hxo.2.2.1, hxo.2.2.2.1⟩
      obtain ⟨p, b1, b2, b3, b4, b5, b6, b7⟩ := CT_line hCT hxi
      obtain ⟨D, hD⟩ := lnO_dp (hld x hxm)
      have hg := encTc_ge x.2.2.1
      have hpo := hpk
      obtain ⟨p1, p2, p3, p4⟩ := hpo
      refine y_ld (x := .ref t) rfl rfl (fun d => rfl) ?_
      refine y_gR (i := 1) rfl rfl rfl hX.1 rfl ?_
      refine y_ld (x := iv (i : Int)) rfl rfl (fun d => rfl) ?_
      refine y_ild (x := x.1) (q := i) rfl rfl hX.2.1 (by omega) (by decide) (by omega) b1 ?_
      refine y_ic rfl rfl ?_
      refine y_jeq rfl rfl rfl (by omega) (fun g2 => ?_) (fun g2 => ?_)
      · refine y_ic rfl rfl ?_
        refine y_go rfl rfl ?_
        refine y_st (lv' := [(4, iv 1), (0, .ref t), (1, .ref pk), (2, .ref me), (3, iv (i : Int))]) rfl rfl (fun d => rfl) ?_
        refine y_ld (x := iv 1) rfl rfl (fun d => rfl) ?_
        refine y_zeq rfl rfl rfl (by decide) (fun g3 => absurd g3 (by decide)) (fun g3 => ?_)
        refine y_ld (x := .ref t) rfl rfl (fun d => rfl) ?_
        refine y_ld (x := iv (i : Int)) rfl rfl (fun d => rfl) ?_
        refine y_ld (x := .ref pk) rfl rfl (fun d => rfl) ?_
        refine y_ld (x := .ref me) rfl rfl (fun d => rfl) ?_
        refine y_cV (as := [.ref t, iv (i : Int), .ref pk, .ref me]) rfl rfl rfl rfl rfl hX.1 ⟨rfl, (Nat.le_of_ble_eq_true rfl), (Nat.le_of_ble_eq_true rfl)⟩ (by decide) (cc_holds hX hm hμ hP hpk hμr h6 (by omega) b2 b3 b5 hxo.1 hD (by omega) (by omega) ?_)
        refine y_nv ?_
        refine y_beq rfl rfl rfl (fun g4 => ?_) (fun g4 => ?_)
        · refine y_inc (z := ((i + 1 : Nat) : Int)) (lv' := [(3, iv ((i + 1 : Nat) : Int)), (4, iv 1), (0, .ref t), (1, .ref pk), (2, .ref me)]) rfl rfl rfl (by omega) rfl ?_
          refine y_go rfl rfl ?_
          refine y_lv (l' := [(0, .ref t), (1, .ref pk), (2, .ref me), (3, iv ((i + 1 : Nat) : Int))]) rfl ⟨rfl, rfl, rfl, rfl, trivial⟩ ?_
          rw [eL_f (fun hq => by rw [eM_i] at hq; first | exact absurd hq.2 (by assumption) | omega)] at hx2
          exact y_mono (ih (i + 1) r (by simp only [List.length_cons] at hm1; omega) (by omega) (fun j => by rw [show i + 1 + j = i + (j + 1) by omega]; exact hR (j + 1)) hx2) (by omega)
        · refine y_ld (x := iv (i : Int)) rfl rfl (fun d => rfl) ?_
          refine y_rI rfl (Or.inl rfl) ?_
          rw [eL_t (eM_i.mpr ⟨by omega, by assumption⟩)] at hx2
          exact hx2
      · refine y_ld (x := .ref t) rfl rfl (fun d => rfl) ?_
        refine y_gR (i := 1) rfl rfl rfl hX.1 rfl ?_
        refine y_ld (x := iv (i : Int)) rfl rfl (fun d => rfl) ?_
        refine y_ild (x := x.1) (q := i) rfl rfl hX.2.1 (by omega) (by decide) (by omega) b1 ?_
        refine y_ld (x := .ref pk) rfl rfl (fun d => rfl) ?_
        refine y_gI (i := 2) (e := κ) rfl rfl rfl hP.1 rfl hP.2.2.2.1 ?_
        refine y_jne rfl rfl rfl (by omega) (fun g5 => ?_) (fun g5 => ?_)
        · refine y_ic rfl rfl ?_
          refine y_st (lv' := [(4, iv 0), (0, .ref t), (1, .ref pk), (2, .ref me), (3, iv (i : Int))]) rfl rfl (fun d => rfl) ?_
          refine y_ld (x := iv 0) rfl rfl (fun d => rfl) ?_
          refine y_zeq rfl rfl rfl (by decide) (fun g6 => ?_) (fun g6 => absurd g6 (by decide))
          refine y_inc (z := ((i + 1 : Nat) : Int)) (lv' := [(3, iv ((i + 1 : Nat) : Int)), (4, iv 0), (0, .ref t), (1, .ref pk), (2, .ref me)]) rfl rfl rfl (by omega) rfl ?_
          refine y_go rfl rfl ?_
          refine y_lv (l' := [(0, .ref t), (1, .ref pk), (2, .ref me), (3, iv ((i + 1 : Nat) : Int))]) rfl ⟨rfl, rfl, rfl, rfl, trivial⟩ ?_
          rw [eL_f (fun hq => by rw [eM_i] at hq; first | exact absurd hq.2 (by assumption) | omega)] at hx2
          exact y_mono (ih (i + 1) r (by simp only [List.length_cons] at hm1; omega) (by omega) (fun j => by rw [show i + 1 + j = i + (j + 1) by omega]; exact hR (j + 1)) hx2) (by omega)
        · refine y_ic rfl rfl ?_
          refine y_go rfl rfl ?_
          refine y_st (lv' := [(4, iv 1), (0, .ref t), (1, .ref pk), (2, .ref me), (3, iv (i : Int))]) rfl rfl (fun d => rfl) ?_
          refine y_ld (x := iv 1) rfl rfl (fun d => rfl) ?_
          refine y_zeq rfl rfl rfl (by decide) (fun g7 => absurd g7 (by decide)) (fun g7 => ?_)
          refine y_ld (x := .ref t) rfl rfl (fun d => rfl) ?_
          refine y_ld (x := iv (i : Int)) rfl rfl (fun d => rfl) ?_
          refine y_ld (x := .ref pk) rfl rfl (fun d => rfl) ?_
          refine y_ld (x := .ref me) rfl rfl (fun d => rfl) ?_
          refine y_cV (as := [.ref t, iv (i : Int), .ref pk, .ref me]) rfl rfl rfl rfl rfl hX.1 ⟨rfl, (Nat.le_of_ble_eq_true rfl), (Nat.le_of_ble_eq_true rfl)⟩ (by decide) (cc_holds hX hm hμ hP hpk hμr h6 (by omega) b2 b3 b5 hxo.1 hD (by omega) (by omega) ?_)
          refine y_nv ?_
          refine y_beq rfl rfl rfl (fun g8 => ?_) (fun g8 => ?_)
          · refine y_inc (z := ((i + 1 : Nat) : Int)) (lv' := [(3, iv ((i + 1 : Nat) : Int)), (4, iv 1), (0, .ref t), (1, .ref pk), (2, .ref me)]) rfl rfl rfl (by omega) rfl ?_
            refine y_go rfl rfl ?_
            refine y_lv (l' := [(0, .ref t), (1, .ref pk), (2, .ref me), (3, iv ((i + 1 : Nat) : Int))]) rfl ⟨rfl, rfl, rfl, rfl, trivial⟩ ?_
            rw [eL_f (fun hq => by rw [eM_i] at hq; first | exact absurd hq.2 (by assumption) | omega)] at hx2
            exact y_mono (ih (i + 1) r (by simp only [List.length_cons] at hm1; omega) (by omega) (fun j => by rw [show i + 1 + j = i + (j + 1) by omega]; exact hR (j + 1)) hx2) (by omega)
          · refine y_ld (x := iv (i : Int)) rfl rfl (fun d => rfl) ?_
            refine y_rI rfl (Or.inl rfl) ?_
            rw [eL_t (eM_i.mpr ⟨by omega, by assumption⟩)] at hx2
            exact hx2
set_option maxRecDepth 100000 in
set_option maxHeartbeats 4000000 in
theorem cc_lineFor {t me c pk : Nat} {μ : Nat → Int} {a h κ n : Int} {l : List p_Li} (hX : TxS S t) (hm : MeS S me c) (hμ : V c = μ) (hP : PkS S V pk a h κ n) (hpk : pkO a h κ n) (hμr : muO μ) (h6 : V t 6 ≤ 160) (hCT : CT V t l) (hlo : lsO l) (hld : ∀ x ∈ l, lnO x) (hl8 : l.length ≤ 8) (k : K u w (some (iv (eL μ a h κ n 0 l))) S V) : y_R X 5 54 u w [.ref t, .ref pk, .ref me] S V K := by
  refine y_ent (lv' := [(0, .ref t), (1, .ref pk), (2, .ref me)]) (Nat.le_of_ble_eq_true rfl) rfl ?_
  refine y_ic rfl rfl ?_
  refine y_st (lv' := [(3, iv 0), (0, .ref t), (1, .ref pk), (2, .ref me)]) rfl rfl (fun d => rfl) ?_
  refine y_lv (l' := [(0, .ref t), (1, .ref pk), (2, .ref me), (3, iv ((0 : Nat) : Int))]) rfl ⟨rfl, rfl, rfl, rfl, trivial⟩ ?_
  exact y_mono (lp_lineFor (F := 100) hX hm hμ hP hpk hμr h6 hCT hlo hld hl8 9 0 l (by omega) (by omega) (fun j => by rw [Nat.zero_add]) k) (by decide)
set_option maxRecDepth 100000 in
set_option maxHeartbeats 4000000 in
theorem lp_does {t me c pk i : Nat} {a h κ n : Int} (hX : TxS S t) (hm : MeS S me c) (hpk : pkO a h κ n) (hcl : c < 193) (htl : 193 ≤ t) (hkl : 193 ≤ pk) (hi : i < 8) {F : Nat} : ∀ (m : Nat) (j p : Nat) (L : List p_Ac) (W : v_V), L.length < m → (W (t + 4) i = ((j + L.length : Nat) : Int) ∧ j + L.length ≤ 200) → (SG W (t + 5) p (encAc L)) → (acO L) → (PkS S W pk a h κ n) → (muO (W c)) → (((p + (encAc L).length : Nat) : Int) ≤ W t 6) → (W t 6 ≤ 160) → (K u w (some (iv (eA a h κ n L (W c)).1)) S (v_ur W c (eA a h κ n L (W c)).2)) → y_E X 4 56 (100 * m + F) u w 25 [(0, .ref t), (1, iv (i : Int)), (2, .ref pk), (3, .ref me), (4, iv (p : Int)), (5, iv (j : Int))] [] S W K := by
  intro m
  induction m with
  | zero => intros; omega
  | succ m ih =>
    intro j p L W hm1 hE hL ho hP hμr h6b h6 hx2
    refine y_mono (F' := (100 * m + F) + 100) ?_ (by omega)
    refine y_ld (x := iv (j : Int)) rfl rfl (fun d => rfl) ?_
    refine y_ld (x := .ref t) rfl rfl (fun d => rfl) ?_
    refine y_gR (i := 4) rfl rfl rfl hX.1 rfl ?_
    refine y_ld (x := iv (i : Int)) rfl rfl (fun d => rfl) ?_
    refine y_ild (x := ((j + L.length : Nat) : Int)) (q := i) rfl rfl hX.2.2.2.2.1 (by omega) (by decide) (by omega) hE.1 ?_
    refine y_jge rfl rfl rfl (by omega) (fun g1 => ?_) (fun g1 => ?_)
    · refine y_ic rfl rfl ?_
      refine y_rI rfl (Or.inl rfl) ?_
      rcases L with _ | ⟨⟨c1, y⟩, r⟩
      · have e : v_ur W c (eA a h κ n [] (W c)).2 = W := v_ur_self W c
        rw [e] at hx2
        exact hx2
      · exact absurd hE (by simp only [List.length_cons]; omega)
    · rcases L with _ | ⟨⟨c1, y⟩, r⟩
      · exact absurd hE (by simp only [List.length_nil]; omega)
      have hll : (((c1, y) :: r).length) = r.length + 1 := rfl
      have hor : acO r := fun q hq => ho q (List.mem_cons_of_mem _ hq)
      have hc1 := ho _ List.mem_cons_self
      simp only at hc1
      have hpo := hpk
      obtain ⟨p1, p2, p3, p4⟩ := hpo
      have hc4 : c1 = 126 ∨ c1 = 127 ∨ c1 = 128 ∨ (104 ≤ c1 ∧ c1 ≤ 115) := by rcases hc1 with q | q <;> omega
      rcases hc4 with rfl | rfl | rfl | hc4
      · rw [encAc_e (by decide)] at hL h6b
        simp only [List.length_cons] at h6b
        have hL1 := hL.1
        rw [eA_p] at hx2
        rw [v_ur_self] at hx2
        refine y_ld (x := .ref t) rfl rfl (fun d => rfl) ?_
        refine y_ld (x := iv (p : Int)) rfl rfl (fun d => rfl) ?_
        refine y_cV (as := [.ref t, iv (p : Int)]) rfl rfl rfl rfl rfl hX.1 ⟨rfl, (Nat.le_of_ble_eq_true rfl), (Nat.le_of_ble_eq_true rfl)⟩ (by decide) (cc_signAt (q := p) hX rfl (by omega) hL1 ?_)
        refine y_nv ?_
        refine y_st (lv' := [(6, iv 126), (0, .ref t), (1, iv (i : Int)), (2, .ref pk), (3, .ref me), (4, iv (p : Int)), (5, iv (j : Int))]) rfl rfl (fun d => rfl) ?_
        refine y_ld (x := iv 126) rfl rfl (fun d => rfl) ?_
        refine y_bi rfl rfl (by decide) ?_
        refine y_jne rfl rfl rfl (by decide) (fun g2 => absurd g2 (by decide)) (fun g2 => ?_)
        refine y_ic rfl rfl ?_
        refine y_rI rfl (Or.inl rfl) ?_
        exact hx2
      · rw [encAc_e (by decide)] at hL h6b
        simp only [List.length_cons] at h6b
        have hL1 := hL.1
        rw [eA_d] at hx2
        rw [v_ur_self] at hx2
        refine y_ld (x := .ref t) rfl rfl (fun d => rfl) ?_
        refine y_ld (x := iv (p : Int)) rfl rfl (fun d => rfl) ?_
        refine y_cV (as := [.ref t, iv (p : Int)]) rfl rfl rfl rfl rfl hX.1 ⟨rfl, (Nat.le_of_ble_eq_true rfl), (Nat.le_of_ble_eq_true rfl)⟩ (by decide) (cc_signAt (q := p) hX rfl (by omega) hL1 ?_)
        refine y_nv ?_
        refine y_st (lv' := [(6, iv 127), (0, .ref t), (1, iv (i : Int)), (2, .ref pk), (3, .ref me), (4, iv (p : Int)), (5, iv (j : Int))]) rfl rfl (fun d => rfl) ?_
        refine y_ld (x := iv 127) rfl rfl (fun d => rfl) ?_
        refine y_bi rfl rfl (by decide) ?_
        refine y_jne rfl rfl rfl (by decide) (fun g3 => ?_) (fun g3 => absurd g3 (by decide))
        refine y_ld (x := iv 127) rfl rfl (fun d => rfl) ?_
        refine y_bi rfl rfl (by decide) ?_
        refine y_jne rfl rfl rfl (by decide) (fun g4 => absurd g4 (by decide)) (fun g4 => ?_)
        refine y_ic rfl rfl ?_
        refine y_rI rfl (Or.inl rfl) ?_
        exact hx2
      · rw [encAc_e (by decide)] at hL h6b
        simp only [List.length_cons] at h6b
        have hL1 := hL.1
        rw [eA_b] at hx2
        refine y_ld (x := .ref t) rfl rfl (fun d => rfl) ?_
        refine y_ld (x := iv (p : Int)) rfl rfl (fun d => rfl) ?_
        refine y_cV (as := [.ref t, iv (p : Int)]) rfl rfl rfl rfl rfl hX.1 ⟨rfl, (Nat.le_of_ble_eq_true rfl), (Nat.le_of_ble_eq_true rfl)⟩ (by decide) (cc_signAt (q := p) hX rfl (by omega) hL1 ?_)
        refine y_nv ?_
        refine y_st (lv' := [(6, iv 128), (0, .ref t), (1, iv (i : Int)), (2, .ref pk), (3, .ref me), (4, iv (p : Int)), (5, iv (j : Int))]) rfl rfl (fun d => rfl) ?_
        refine y_ld (x := iv 128) rfl rfl (fun d => rfl) ?_
        refine y_bi rfl rfl (by decide) ?_
        refine y_jne rfl rfl rfl (by decide) (fun g5 => ?_) (fun g5 => absurd g5 (by decide))
        refine y_ld (x := iv 128) rfl rfl (fun d => rfl) ?_
        refine y_bi rfl rfl (by decide) ?_
        refine y_jne rfl rfl rfl (by decide) (fun g6 => ?_) (fun g6 => absurd g6 (by decide))
        refine y_ld (x := iv 128) rfl rfl (fun d => rfl) ?_
        refine y_si rfl rfl (by decide) ?_
        refine y_jne rfl rfl rfl (by decide) (fun g7 => absurd g7 (by decide)) (fun g7 => ?_)
        refine y_ld (x := .ref me) rfl rfl (fun d => rfl) ?_
        refine y_ld (x := .ref pk) rfl rfl (fun d => rfl) ?_
        refine y_gI (i := 0) (e := a) rfl rfl rfl hP.1 rfl hP.2.1 ?_
        refine y_iv (e' := ((a.toNat : Nat) : Int)) (by omega) ?_
        refine y_cV (as := [.ref me, iv ((a.toNat : Nat) : Int)]) rfl rfl rfl rfl rfl hm.1 ⟨rfl, (Nat.le_of_ble_eq_true rfl), (Nat.le_of_ble_eq_true rfl)⟩ (by decide) (cc_forget (t := a.toNat) hm (by omega) ?_)
        refine y_n0 ?_
        refine y_ic rfl rfl ?_
        refine y_rI rfl (Or.inl rfl) ?_
        exact hx2
      · have hc5 : smO y ∧ 1 ≤ y.length ∧ y.length ≤ 4 := by
          rcases hc1 with q | q
          · omega
          · exact q.2.2
        rw [encAc_c (by omega)] at hL h6b
        simp only [List.length_cons, List.length_append] at h6b
        obtain ⟨hL1, hL2, hL3⟩ := hL
        have hL4 := SG_app hL3
        rw [eA_c (by omega)] at hx2
        refine y_ld (x := .ref t) rfl rfl (fun d => rfl) ?_
        refine y_ld (x := iv (p : Int)) rfl rfl (fun d => rfl) ?_
        refine y_cV (as := [.ref t, iv (p : Int)]) rfl rfl rfl rfl rfl hX.1 ⟨rfl, (Nat.le_of_ble_eq_true rfl), (Nat.le_of_ble_eq_true rfl)⟩ (by decide) (cc_signAt (q := p) hX rfl (by omega) hL1 ?_)
        refine y_nv ?_
        refine y_st (lv' := [(6, iv c1), (0, .ref t), (1, iv (i : Int)), (2, .ref pk), (3, .ref me), (4, iv (p : Int)), (5, iv (j : Int))]) rfl rfl (fun d => rfl) ?_
        refine y_ld (x := iv c1) rfl rfl (fun d => rfl) ?_
        refine y_bi rfl rfl (by decide) ?_
        refine y_jne rfl rfl rfl (by omega) (fun g8 => ?_) (fun g8 => ?_)
        · refine y_ld (x := iv c1) rfl rfl (fun d => rfl) ?_
          refine y_bi rfl rfl (by decide) ?_
          refine y_jne rfl rfl rfl (by omega) (fun g9 => ?_) (fun g9 => ?_)
          · refine y_ld (x := iv c1) rfl rfl (fun d => rfl) ?_
            refine y_si rfl rfl (by decide) ?_
            refine y_jne rfl rfl rfl (by omega) (fun g10 => ?_) (fun g10 => ?_)
            · refine y_ld (x := .ref t) rfl rfl (fun d => rfl) ?_
              refine y_ld (x := iv (p : Int)) rfl rfl (fun d => rfl) ?_
              refine y_ic rfl rfl ?_
              refine y_add (z := ((p + 1 : Nat) : Int)) rfl rfl (by omega) ?_
              refine y_cV (as := [.ref t, iv ((p + 1 : Nat) : Int)]) rfl rfl rfl rfl rfl hX.1 ⟨rfl, (Nat.le_of_ble_eq_true rfl), (Nat.le_of_ble_eq_true rfl)⟩ (by decide) (cc_signAt (q := p + 1) hX (by omega) (by omega) hL2 ?_)
              refine y_nv ?_
              refine y_st (lv' := [(7, iv (y.length : Int)), (6, iv c1), (0, .ref t), (1, iv (i : Int)), (2, .ref pk), (3, .ref me), (4, iv (p : Int)), (5, iv (j : Int))]) rfl rfl (fun d => rfl) ?_
              refine y_ld (x := .ref t) rfl rfl (fun d => rfl) ?_
              refine y_ld (x := iv (p : Int)) rfl rfl (fun d => rfl) ?_
              refine y_ic rfl rfl ?_
              refine y_add (z := ((p + 1 + 1 : Nat) : Int)) rfl rfl (by omega) ?_
              refine y_ld (x := iv (y.length : Int)) rfl rfl (fun d => rfl) ?_
              refine y_ld (x := .ref pk) rfl rfl (fun d => rfl) ?_
              refine y_ld (x := .ref me) rfl rfl (fun d => rfl) ?_
              refine y_cV (as := [.ref t, iv ((p + 1 + 1 : Nat) : Int), iv (y.length : Int), .ref pk, .ref me]) rfl rfl rfl rfl rfl hX.1 ⟨rfl, (Nat.le_of_ble_eq_true rfl), (Nat.le_of_ble_eq_true rfl)⟩ (by decide) (cc_sumOf (μ := W c) (q := p + 1 + 1) (L := y) hX hm rfl hP hpk hμr (by omega) ⟨by omega, rfl, hc5.2.2⟩ hL4.1 hc5.1 (by omega) ?_)
              refine y_nv ?_
              refine y_st (lv' := [(8, iv (eS (W c) a h κ n 0 y)), (7, iv (y.length : Int)), (6, iv c1), (0, .ref t), (1, iv (i : Int)), (2, .ref pk), (3, .ref me), (4, iv (p : Int)), (5, iv (j : Int))]) rfl rfl (fun d => rfl) ?_
              refine y_ld (x := .ref me) rfl rfl (fun d => rfl) ?_
              refine y_ld (x := iv c1) rfl rfl (fun d => rfl) ?_
              refine y_bi rfl rfl (by decide) ?_
              refine y_sub (z := (c1 - 104)) rfl rfl rfl ?_
              refine y_ld (x := .ref pk) rfl rfl (fun d => rfl) ?_
              refine y_gI (i := 0) (e := a) rfl rfl rfl hP.1 rfl hP.2.1 ?_
              refine y_ld (x := .ref pk) rfl rfl (fun d => rfl) ?_
              refine y_gI (i := 1) (e := h) rfl rfl rfl hP.1 rfl hP.2.2.1 ?_
              have hz := tcd_pl (c := c1) (Or.inr hc4) hpk (by omega)
              refine y_cS (as := [iv (c1 - 104), iv a, iv h]) rfl (by decide) rfl rfl rfl rfl ⟨(Nat.le_of_ble_eq_true rfl), (Nat.le_of_ble_eq_true rfl)⟩ (by decide) (cc_placeOf (by omega) (by omega) (by omega) ?_)
              refine y_nv ?_
              refine y_ld (x := iv (eS (W c) a h κ n 0 y)) rfl rfl (fun d => rfl) ?_
              refine y_top (wr_iv (eS (W c) a h κ n 0 y)) ?_
              refine y_cV (as := [.ref me, iv (z_pl (c1 - 104) a h), iv (wr (eS (W c) a h κ n 0 y))]) rfl rfl rfl rfl rfl hm.1 ⟨rfl, (Nat.le_of_ble_eq_true rfl), (Nat.le_of_ble_eq_true rfl)⟩ (by decide) (cc_put (q := (z_pl (c1 - 104) a h).toNat) hm (by omega) (by omega) ?_)
              refine y_n0 ?_
              refine y_ld (x := iv (p : Int)) rfl rfl (fun d => rfl) ?_
              refine y_ic rfl rfl ?_
              refine y_ld (x := iv (y.length : Int)) rfl rfl (fun d => rfl) ?_
              refine y_add (z := (2 + (y.length : Int))) rfl rfl rfl ?_
              refine y_add (z := ((p + 1 + 1 + y.length : Nat) : Int)) rfl rfl (by omega) ?_
              refine y_st (lv' := [(4, iv ((p + 1 + 1 + y.length : Nat) : Int)), (8, iv (eS (W c) a h κ n 0 y)), (7, iv (y.length : Int)), (6, iv c1), (0, .ref t), (1, iv (i : Int)), (2, .ref pk), (3, .ref me), (5, iv (j : Int))]) rfl rfl (fun d => rfl) ?_
              refine y_inc (z := ((j + 1 : Nat) : Int)) (lv' := [(5, iv ((j + 1 : Nat) : Int)), (4, iv ((p + 1 + 1 + y.length : Nat) : Int)), (8, iv (eS (W c) a h κ n 0 y)), (7, iv (y.length : Int)), (6, iv c1), (0, .ref t), (1, iv (i : Int)), (2, .ref pk), (3, .ref me)]) rfl rfl rfl (by omega) rfl ?_
              refine y_go rfl rfl ?_
              refine y_lv (l' := [(0, .ref t), (1, iv (i : Int)), (2, .ref pk), (3, .ref me), (4, iv ((p + 1 + 1 + y.length : Nat) : Int)), (5, iv ((j + 1 : Nat) : Int))]) rfl ⟨rfl, rfl, rfl, rfl, rfl, rfl, trivial⟩ ?_
              have eu : ∀ f, v_ur (v_up W c ((z_pl (c1 - 104) a h).toNat) (wr (eS (W c) a h κ n 0 y))) c f = v_ur W c f := fun f => by rw [v_up_ur, v_ur_ur]
              have er : (v_up W c ((z_pl (c1 - 104) a h).toNat) (wr (eS (W c) a h κ n 0 y))) c = v_uf (W c) (z_pl (c1 - 104) a h).toNat (wr (eS (W c) a h κ n 0 y)) := v_up_row _ _ _ _
              have en : ∀ k, k ≠ c → (v_up W c ((z_pl (c1 - 104) a h).toNat) (wr (eS (W c) a h κ n 0 y))) k = W k := fun k hk => v_up_ne hk
              refine y_mono (ih (j + 1) (p + 1 + 1 + y.length) r (v_up W c ((z_pl (c1 - 104) a h).toNat) (wr (eS (W c) a h κ n 0 y))) (by simp only [List.length_cons] at hm1; omega) ?_ (SG_c (en _ (by omega)) hL4.2) hor (PkS_r hP (en _ (by omega))) ?_ ?_ ?_ ?_) (by omega)
              · rw [en _ (by omega), hE.1]; omega
              · rw [er]
                intro q hq
                unfold v_uf
                split
                · exact wr_rg _
                · exact hμr q hq
              · rw [en _ (by omega)]; omega
              · rw [en _ (by omega)]; exact h6
              · rw [eu, er]; exact hx2
            · refine y_ld (x := .ref me) rfl rfl (fun d => rfl) ?_
              refine y_ld (x := .ref pk) rfl rfl (fun d => rfl) ?_
              refine y_gI (i := 0) (e := a) rfl rfl rfl hP.1 rfl hP.2.1 ?_
              refine y_iv (e' := ((a.toNat : Nat) : Int)) (by omega) ?_
              refine y_cV (as := [.ref me, iv ((a.toNat : Nat) : Int)]) rfl rfl rfl rfl rfl hm.1 ⟨rfl, (Nat.le_of_ble_eq_true rfl), (Nat.le_of_ble_eq_true rfl)⟩ (by decide) (cc_forget (t := a.toNat) hm (by omega) ?_)
              refine y_n0 ?_
              refine y_ic rfl rfl ?_
              refine y_rI rfl (Or.inl rfl) ?_
              omega
          · refine y_ic rfl rfl ?_
            refine y_rI rfl (Or.inl rfl) ?_
            omega
        · refine y_ic rfl rfl ?_
          refine y_rI rfl (Or.inl rfl) ?_
          omega
set_option maxRecDepth 100000 in
set_option maxHeartbeats 4000000 in
theorem cc_does {t me c pk i : Nat} {a h κ n : Int} (hX : TxS S t) (hm : MeS S me c) (hpk : pkO a h κ n) (hcl : c < 193) (htl : 193 ≤ t) (hkl : 193 ≤ pk) (hi : i < 8) {p : Nat} {L : List p_Ac} (h0 : (i : Int) < V t 0 ∧ V t 0 ≤ 8) (hb : V (t + 3) i = (p : Int)) (hE : V (t + 4) i = (L.length : Int)) (hll : L.length < 200) (hL : SG V (t + 5) p (encAc L)) (ho : acO L) (hP : PkS S V pk a h κ n) (hμr : muO (V c)) (h6b : ((p + (encAc L).length : Nat) : Int) ≤ V t 6) (h6 : V t 6 ≤ 160) (k : K u w (some (iv (eA a h κ n L (V c)).1)) S (v_ur V c (eA a h κ n L (V c)).2)) : y_R X 5 56 u w [.ref t, iv (i : Int), .ref pk, .ref me] S V K := by
  refine y_ent (lv' := [(0, .ref t), (1, iv (i : Int)), (2, .ref pk), (3, .ref me)]) (Nat.le_of_ble_eq_true rfl) rfl ?_
  refine y_ld (x := iv (i : Int)) rfl rfl (fun d => rfl) ?_
  refine y_zlt rfl rfl rfl (by omega) (fun g1 => ?_) (fun g1 => ?_)
  · refine y_ic rfl rfl ?_
    refine y_rI rfl (Or.inl rfl) ?_
    exact absurd h0 (by omega)
  · refine y_ld (x := iv (i : Int)) rfl rfl (fun d => rfl) ?_
    refine y_ld (x := .ref t) rfl rfl (fun d => rfl) ?_
    refine y_gI (i := 0) (e := (V t 0)) rfl rfl rfl hX.1 rfl rfl ?_
    refine y_jlt rfl rfl rfl (by omega) (fun g2 => ?_) (fun g2 => ?_)
    · refine y_ld (x := .ref t) rfl rfl (fun d => rfl) ?_
      refine y_gR (i := 3) rfl rfl rfl hX.1 rfl ?_
      refine y_ld (x := iv (i : Int)) rfl rfl (fun d => rfl) ?_
      refine y_ild (x := (p : Int)) (q := i) rfl rfl hX.2.2.2.1 (by omega) (by decide) (by omega) hb ?_
      refine y_st (lv' := [(4, iv (p : Int)), (0, .ref t), (1, iv (i : Int)), (2, .ref pk), (3, .ref me)]) rfl rfl (fun d => rfl) ?_
      refine y_ic rfl rfl ?_
      refine y_st (lv' := [(5, iv 0), (4, iv (p : Int)), (0, .ref t), (1, iv (i : Int)), (2, .ref pk), (3, .ref me)]) rfl rfl (fun d => rfl) ?_
      refine y_lv (l' := [(0, .ref t), (1, iv (i : Int)), (2, .ref pk), (3, .ref me), (4, iv (p : Int)), (5, iv ((0 : Nat) : Int))]) rfl ⟨rfl, rfl, rfl, rfl, rfl, rfl, trivial⟩ ?_
      exact y_mono (lp_does (F := 100) hX hm hpk hcl htl hkl hi 200 0 p L V hll ⟨by rw [hE, Nat.zero_add], by omega⟩ hL ho hP hμr h6b h6 k) (by decide)
    · refine y_ic rfl rfl ?_
      refine y_rI rfl (Or.inl rfl) ?_
      exact absurd h0 (by omega)
set_option maxRecDepth 100000 in
set_option maxHeartbeats 4000000 in
theorem cc_does5 {t : Nat} (hX : TxS S t) {pk me : Nat} (k : K u w (some (iv 1)) S V) : y_R X 1 56 u w [.ref t, iv (-5), .ref pk, .ref me] S V K := by
  refine y_ent (lv' := [(0, .ref t), (1, iv (-5)), (2, .ref pk), (3, .ref me)]) (Nat.le_of_ble_eq_true rfl) rfl ?_
  refine y_ld (x := iv (-5)) rfl rfl (fun d => rfl) ?_
  refine y_zlt rfl rfl rfl (by decide) (fun g1 => ?_) (fun g1 => absurd g1 (by decide))
  refine y_ic rfl rfl ?_
  refine y_rI rfl (Or.inl rfl) ?_
  exact k
end
end
section
/-! a BOX works a packet itself: the class -/
section
variable {X : Nat → List Int32} {u w : Nat} {S : m_H} {V : v_V} {K : v_K}
set_option maxRecDepth 100000 in
set_option maxHeartbeats 4000000 in
theorem cc_steps (hC : ClF S) {b t pk : Nat} {a h κ n : Int} {l : List p_Li} (hb : b < 8) (hX : TxS S t) (htl : 193 ≤ t) (hkl : 193 ≤ pk) (hP : PkS S V pk a h κ n) (hpk : pkO a h κ n) (hμr : muO (V (10 + 6 * b + 3))) (h6 : V t 6 ≤ 160) (hCT : CT V t l) (hlo : lsO l) (hld : ∀ x ∈ l, lnO x) (hl8 : l.length ≤ 8) (k : K u w (some (iv (eW a h κ n l (V (10 + 6 * b + 3))).1)) S (v_ur (v_up V (10 + 6 * b) 3 (eL (V (10 + 6 * b + 3)) a h κ n 0 l)) (10 + 6 * b + 3) (eW a h κ n l (V (10 + 6 * b + 3))).2)) : y_R X 6 3 u w [.ref (10 + 6 * b), .ref pk, .ref t] S V K := by
  refine y_ent (lv' := [(0, .ref (10 + 6 * b)), (1, .ref pk), (2, .ref t)]) (Nat.le_of_ble_eq_true rfl) rfl ?_
  refine y_ld (x := .ref pk) rfl rfl (fun d => rfl) ?_
  refine y_in (pc' := 4) rfl rfl (fun d => rfl) ?_
  refine y_ld (x := .ref t) rfl rfl (fun d => rfl) ?_
  refine y_in (pc' := 10) rfl rfl (fun d => rfl) ?_
  refine y_ld (x := .ref (10 + 6 * b)) rfl rfl (fun d => rfl) ?_
  refine y_ld (x := .ref t) rfl rfl (fun d => rfl) ?_
  refine y_ld (x := .ref pk) rfl rfl (fun d => rfl) ?_
  refine y_ld (x := .ref (10 + 6 * b)) rfl rfl (fun d => rfl) ?_
  refine y_gR (i := 6) rfl rfl rfl (bx_ob hC (i := b) (by omega)) rfl ?_
  refine y_cV (as := [.ref t, .ref pk, .ref (10 + 6 * b + 2)]) rfl rfl rfl rfl rfl hX.1 ⟨rfl, (Nat.le_of_ble_eq_true rfl), (Nat.le_of_ble_eq_true rfl)⟩ (by decide) (cc_lineFor hX ⟨(bx_mem hC (i := b) (by omega)), (bx_mcl hC (i := b) (by omega))⟩ rfl hP hpk hμr h6 hCT hlo hld hl8 ?_)
  refine y_nv ?_
  rcases eLW (V (10 + 6 * b + 3)) a h κ n l 0 with ⟨e1, e2⟩ | ⟨j, x, e1, e2, e3⟩
  · rw [e1, e2] at k
    refine y_iv e1 ?_
    refine y_pI (i := 3) rfl rfl rfl (bx_ob hC (i := b) (by omega)) rfl rfl ?_
    refine y_ld (x := .ref t) rfl rfl (fun d => rfl) ?_
    refine y_ld (x := .ref (10 + 6 * b)) rfl rfl (fun d => rfl) ?_
    refine y_gI (i := 3) (e := (-5)) rfl rfl rfl (bx_ob hC (i := b) (by omega)) rfl (by rw [v_up_eq]) ?_
    refine y_ld (x := .ref pk) rfl rfl (fun d => rfl) ?_
    refine y_ld (x := .ref (10 + 6 * b)) rfl rfl (fun d => rfl) ?_
    refine y_gR (i := 6) rfl rfl rfl (bx_ob hC (i := b) (by omega)) rfl ?_
    refine y_cV (as := [.ref t, iv (-5), .ref pk, .ref (10 + 6 * b + 2)]) rfl rfl rfl rfl rfl hX.1 ⟨rfl, (Nat.le_of_ble_eq_true rfl), (Nat.le_of_ble_eq_true rfl)⟩ (by decide) (cc_does5 hX ?_)
    refine y_nv ?_
    refine y_rI rfl (Or.inl rfl) ?_
    have hwc : (v_up V (10 + 6 * b) 3 (-5)) (10 + 6 * b + 3) = V (10 + 6 * b + 3) := v_up_ne (by omega)
    rw [← hwc, v_ur_self] at k
    exact k
  · rw [e1, e3] at k
    refine y_iv e1 ?_
    rw [Nat.zero_add] at k
    refine y_iv (e' := (j : Int)) (by rw [Nat.zero_add]) ?_
    refine y_pI (i := 3) rfl rfl rfl (bx_ob hC (i := b) (by omega)) rfl rfl ?_
    refine y_ld (x := .ref t) rfl rfl (fun d => rfl) ?_
    refine y_ld (x := .ref (10 + 6 * b)) rfl rfl (fun d => rfl) ?_
    refine y_gI (i := 3) (e := (j : Int)) rfl rfl rfl (bx_ob hC (i := b) (by omega)) rfl (by rw [v_up_eq]) ?_
    refine y_ld (x := .ref pk) rfl rfl (fun d => rfl) ?_
    refine y_ld (x := .ref (10 + 6 * b)) rfl rfl (fun d => rfl) ?_
    refine y_gR (i := 6) rfl rfl rfl (bx_ob hC (i := b) (by omega)) rfl ?_
    have hxm : x ∈ l := by rw [m_nth_eq] at e2; exact List.mem_of_getElem? e2
    have hxo := hlo x hxm
    have hj8 : j < 8 := by have := m_nth_lt e2; omega
    have en : ∀ k, k ≠ 10 + 6 * b → (v_up V (10 + 6 * b) 3 (j : Int)) k = V k := fun k hk => v_up_ne hk
    have hCT2 : CT (v_up V (10 + 6 * b) 3 (j : Int)) t l := CT_r hCT (fun i hi => en _ (by omega))
    have hjl := m_nth_lt e2
    obtain ⟨p, b1, b2, b3, b4, b5, b6, b7⟩ := CT_line hCT2 e2
    have hw6 : (v_up V (10 + 6 * b) 3 (j : Int)) t 6 ≤ 160 := by rw [en _ (by omega)]; exact h6
    have hwc : (v_up V (10 + 6 * b) 3 (j : Int)) (10 + 6 * b + 3) = V (10 + 6 * b + 3) := en _ (by omega)
    refine y_cV (as := [.ref t, iv (j : Int), .ref pk, .ref (10 + 6 * b + 2)]) rfl rfl rfl rfl rfl hX.1 ⟨rfl, (Nat.le_of_ble_eq_true rfl), (Nat.le_of_ble_eq_true rfl)⟩ (by decide) (cc_does (p := p + (encTc x.2.2.1).length) (L := x.2.2.2) hX ⟨(bx_mem hC (i := b) (by omega)), (bx_mcl hC (i := b) (by omega))⟩ hpk (by omega) htl hkl hj8 ⟨by rw [hCT2.1]; omega, by rw [hCT2.1]; omega⟩ b3 b4 (by have := hxo.2.2.2.2; omega) b6 hxo.2.1 (PkS_r hP (en _ (by omega))) (by rw [hwc]; exact hμr) b7 hw6 ?_)
    refine y_nv ?_
    refine y_rI rfl (Or.inl rfl) ?_
    rw [← hwc] at k
    exact k
end
end
section
/-! what a TEXT does with a packet: the reference -/
/-- a MEMORY of the reference: the row A from B on -/
def zm (f : Nat → Int) (B : Nat) : Nat → Int := fun p => f (B + p)
def zi (f : Nat → Int) (B : Nat) (g : Nat → Int) : Nat → Int := fun j => if B ≤ j ∧ j < B + 84 then g (j - B) else f j
theorem zm_zi {f g : Nat → Int} {B p : Nat} (h : p < 84) : zm (zi f B g) B p = g p := by
  unfold zm zi
  rw [if_pos (by omega), show B + p - B = p by omega]
theorem zi_zm (f : Nat → Int) (B : Nat) : zi f B (zm f B) = f := by
  funext j
  unfold zi zm
  split
  · rw [show B + (j - B) = j by omega]
  · rfl
theorem zm_uf (f : Nat → Int) (B q : Nat) (v : Int) : zm (v_uf f (B + q) v) B = v_uf (zm f B) q v := by
  funext p
  unfold zm v_uf
  by_cases h : p = q
  · rw [if_pos (by omega), if_pos h]
  · rw [if_neg (by omega), if_neg h]
theorem zi_uf {f g : Nat → Int} {B q : Nat} {v : Int} (hq : q < 84) : zi (v_uf f (B + q) v) B g = zi f B g := by
  funext j
  unfold zi
  split
  · rfl
  · exact v_uf_ne (by omega)
theorem zi_out {f g : Nat → Int} {B j : Nat} (h : j < B ∨ B + 84 ≤ j) : zi f B g j = f j := if_neg (by omega)
def PkM (V : v_V) (a h κ n : Int) : Prop := V 170 17 = a ∧ V 170 18 = h ∧ V 170 19 = κ ∧ V 170 20 = n
/-- whose MEMORY is meant -/
def EvM (V : v_V) (A B : Nat) : Prop := V 170 22 = (B : Int) ∧ ((V 170 21 = 0 ∧ A = 171 ∧ B + 84 ≤ 1800) ∨ (V 170 21 = 1 ∧ A = 178 ∧ B + 84 ≤ 336))
theorem PkM_r {V V' : v_V} {a h κ n : Int} (hp : PkM V a h κ n) (e : ∀ i, 17 ≤ i → i ≤ 20 → V' 170 i = V 170 i) : PkM V' a h κ n :=
  ⟨(e 17 (by decide) (by decide)).trans hp.1, (e 18 (by decide) (by decide)).trans hp.2.1, (e 19 (by decide) (by decide)).trans hp.2.2.1, (e 20 (by decide) (by decide)).trans hp.2.2.2⟩
theorem EvM_r {V V' : v_V} {A B : Nat} (hp : EvM V A B) (e : ∀ i, 21 ≤ i → i ≤ 22 → V' 170 i = V 170 i) : EvM V' A B := by
  unfold EvM at *
  rw [e 22 (by decide) (by decide), e 21 (by decide) (by decide)]
  exact hp
theorem mcd_pl {c t h : Int} (h1 : 104 ≤ c ∧ c ≤ 115) : z_pl (c - 104) t h = if mcd c < 120 then 4 * t + mcd c - 110 else if mcd c < 130 then 64 + 4 * h + mcd c - 120 else 80 + mcd c - 130 := by
  by_cases h2 : c < 108
  · have e : mcd c = c + 6 := by unfold mcd; rw [if_neg (by omega), if_pos h2]
    rw [e]; unfold z_pl; rw [if_pos (by omega), if_pos (by omega)]; omega
  by_cases h3 : c < 112
  · have e : mcd c = c + 12 := by unfold mcd; rw [if_neg (by omega), if_neg h2, if_pos h3]
    rw [e]; unfold z_pl; rw [if_neg (by omega), if_pos (by omega), if_neg (by omega), if_pos (by omega)]; omega
  · have e : mcd c = c + 18 := by unfold mcd; rw [if_neg (by omega), if_neg h2, if_neg h3]
    rw [e]; unfold z_pl; rw [if_neg (by omega), if_neg (by omega), if_neg (by omega), if_neg (by omega)]; omega
theorem mcd_cell {c : Int} (h1 : 104 ≤ c ∧ c ≤ 115) : 110 ≤ mcd c ∧ mcd c ≤ 133 := by
  unfold mcd
  rw [if_neg (by omega)]
  split
  · omega
  · split <;> omega
theorem mcd_lo {c : Int} (h1 : c < 104) : mcd c = c := if_pos h1
section
variable {X : Nat → List Int32} {u w : Nat} {S : m_H} {V : v_V} {K : v_K}
set_option maxRecDepth 100000 in
set_option maxHeartbeats 4000000 in
theorem ct_place (hM : MdS S) {A B : Nat} {a h κ n : Int} (hE : EvM V A B) (hP : PkM V a h κ n) (hpk : pkO a h κ n) {x : Int} (hx : 104 ≤ x ∧ x ≤ 115) (k : K u w (some (iv ((B : Int) + z_pl (x - 104) a h))) S V) : y_R X 1 127 u w [.ref 170, iv (mcd x)] S V K := by
  have hpo := hpk
  obtain ⟨p1, p2, p3, p4⟩ := hpo
  have hB : B + 84 ≤ 1800 := by have := hE.2; omega
  have hmc := mcd_cell hx
  refine y_ent (lv' := [(0, .ref 170), (1, iv (mcd x))]) (Nat.le_of_ble_eq_true rfl) rfl ?_
  refine y_ld (x := .ref 170) rfl rfl (fun d => rfl) ?_
  refine y_gI (i := 22) (e := (B : Int)) rfl rfl rfl (md170 hM) rfl hE.1 ?_
  refine y_ld (x := iv (mcd x)) rfl rfl (fun d => rfl) ?_
  refine y_bi rfl rfl (by decide) ?_
  refine y_jge rfl rfl rfl (by omega) (fun g1 => ?_) (fun g1 => ?_)
  · refine y_ld (x := iv (mcd x)) rfl rfl (fun d => rfl) ?_
    refine y_si rfl rfl (by decide) ?_
    refine y_jge rfl rfl rfl (by omega) (fun g2 => ?_) (fun g2 => ?_)
    · refine y_bi rfl rfl (by decide) ?_
      refine y_ld (x := iv (mcd x)) rfl rfl (fun d => rfl) ?_
      refine y_add (z := (80 + (mcd x))) rfl rfl rfl ?_
      refine y_si rfl rfl (by decide) ?_
      refine y_sub (z := ((80 + (mcd x)) - 130)) rfl rfl rfl ?_
      refine y_add (z := ((B : Int) + ((80 + (mcd x)) - 130))) rfl rfl rfl ?_
      refine y_rI rfl (Or.inl rfl) ?_
      have e := mcd_pl (t := a) (h := h) hx
      rw [if_neg (by omega), if_neg (by omega)] at e
      have e2 : (B : Int) + ((80 + (mcd x)) - 130) = (B : Int) + z_pl (x - 104) a h := by omega
      rwa [e2]
    · refine y_bi rfl rfl (by decide) ?_
      refine y_ic rfl rfl ?_
      refine y_ld (x := .ref 170) rfl rfl (fun d => rfl) ?_
      refine y_gI (i := 18) (e := h) rfl rfl rfl (md170 hM) rfl hP.2.1 ?_
      refine y_mul (z := (4 * h)) rfl rfl rfl ?_
      refine y_add (z := (64 + (4 * h))) rfl rfl rfl ?_
      refine y_ld (x := iv (mcd x)) rfl rfl (fun d => rfl) ?_
      refine y_add (z := ((64 + (4 * h)) + (mcd x))) rfl rfl rfl ?_
      refine y_bi rfl rfl (by decide) ?_
      refine y_sub (z := (((64 + (4 * h)) + (mcd x)) - 120)) rfl rfl rfl ?_
      refine y_go rfl rfl ?_
      refine y_add (z := ((B : Int) + (((64 + (4 * h)) + (mcd x)) - 120))) rfl rfl rfl ?_
      refine y_rI rfl (Or.inl rfl) ?_
      have e := mcd_pl (t := a) (h := h) hx
      rw [if_neg (by omega), if_pos (by omega)] at e
      have e2 : (B : Int) + (((64 + (4 * h)) + (mcd x)) - 120) = (B : Int) + z_pl (x - 104) a h := by omega
      rwa [e2]
  · refine y_ic rfl rfl ?_
    refine y_ld (x := .ref 170) rfl rfl (fun d => rfl) ?_
    refine y_gI (i := 17) (e := a) rfl rfl rfl (md170 hM) rfl hP.1 ?_
    refine y_mul (z := (4 * a)) rfl rfl rfl ?_
    refine y_ld (x := iv (mcd x)) rfl rfl (fun d => rfl) ?_
    refine y_add (z := ((4 * a) + (mcd x))) rfl rfl rfl ?_
    refine y_bi rfl rfl (by decide) ?_
    refine y_sub (z := (((4 * a) + (mcd x)) - 110)) rfl rfl rfl ?_
    refine y_go rfl rfl ?_
    refine y_add (z := ((B : Int) + (((4 * a) + (mcd x)) - 110))) rfl rfl rfl ?_
    refine y_rI rfl (Or.inl rfl) ?_
    have e := mcd_pl (t := a) (h := h) hx
    rw [if_pos (by omega)] at e
    have e2 : (B : Int) + (((4 * a) + (mcd x)) - 110) = (B : Int) + z_pl (x - 104) a h := by omega
    rwa [e2]
set_option maxRecDepth 100000 in
set_option maxHeartbeats 4000000 in
theorem ct_value (hM : MdS S) {A B : Nat} {a h κ n : Int} (hE : EvM V A B) (hP : PkM V a h κ n) (hpk : pkO a h κ n) {x : Int} (hx : tcd x) (k : K u w (some (iv (eV (zm (V A) B) a h κ n x))) S V) : y_R X 2 128 u w [.ref 170, iv (mcd x)] S V K := by
  have hpo := hpk
  obtain ⟨p1, p2, p3, p4⟩ := hpo
  have hB : B + 84 ≤ 1800 := by have := hE.2; omega
  have hmc := mcd_rg hx
  refine y_ent (lv' := [(0, .ref 170), (1, iv (mcd x))]) (Nat.le_of_ble_eq_true rfl) rfl ?_
  refine y_ld (x := iv (mcd x)) rfl rfl (fun d => rfl) ?_
  refine y_bi rfl rfl (by decide) ?_
  refine y_jge rfl rfl rfl (by omega) (fun g1 => ?_) (fun g1 => ?_)
  · refine y_ld (x := iv (mcd x)) rfl rfl (fun d => rfl) ?_
    refine y_bi rfl rfl (by decide) ?_
    refine y_jge rfl rfl rfl (by omega) (fun g2 => ?_) (fun g2 => ?_)
    · have hx4 : 104 ≤ x ∧ x ≤ 115 := by have := (mcd_rg hx).2.2.2.2; unfold tcd at hx; omega
      have hz := tcd_pl hx hpk (by omega)
      have hE2 := hE.2
      rcases hE2 with ⟨hq, rfl, hN⟩ | ⟨hq, rfl, hN⟩
      · refine y_ld (x := .ref 170) rfl rfl (fun d => rfl) ?_
        refine y_gI (i := 21) (e := 0) rfl rfl rfl (md170 hM) rfl hq ?_
        refine y_zeq rfl rfl rfl (by decide) (fun g3 => ?_) (fun g3 => absurd g3 (by decide))
        refine y_ld (x := .ref 170) rfl rfl (fun d => rfl) ?_
        refine y_gR (i := 1) rfl rfl rfl (md170 hM) rfl ?_
        refine y_ld (x := .ref 170) rfl rfl (fun d => rfl) ?_
        refine y_ld (x := iv (mcd x)) rfl rfl (fun d => rfl) ?_
        refine y_cV (as := [.ref 170, iv (mcd x)]) rfl rfl rfl rfl rfl (md170 hM) ⟨rfl, (Nat.le_of_ble_eq_true rfl), (Nat.le_of_ble_eq_true rfl)⟩ (by decide) (ct_place hM hE hP hpk hx4 ?_)
        refine y_nv ?_
        refine y_ild (x := (V 171 (B + (z_pl (x - 104) a h).toNat))) (q := (B + (z_pl (x - 104) a h).toNat)) rfl rfl (md171 hM) (by omega) (by decide) (by omega) rfl ?_
        refine y_rI rfl (Or.inl rfl) ?_
        have e : eV (zm (V 171) B) a h κ n x = V 171 (B + (z_pl (x - 104) a h).toNat) := by
          unfold eV
          rw [if_neg (by omega), if_neg (by omega), if_neg (by omega), if_neg (by omega)]
          rfl
        rwa [e] at k
      · refine y_ld (x := .ref 170) rfl rfl (fun d => rfl) ?_
        refine y_gI (i := 21) (e := 1) rfl rfl rfl (md170 hM) rfl hq ?_
        refine y_zeq rfl rfl rfl (by decide) (fun g4 => absurd g4 (by decide)) (fun g4 => ?_)
        refine y_ld (x := .ref 170) rfl rfl (fun d => rfl) ?_
        refine y_gR (i := 15) rfl rfl rfl (md170 hM) rfl ?_
        refine y_ld (x := .ref 170) rfl rfl (fun d => rfl) ?_
        refine y_ld (x := iv (mcd x)) rfl rfl (fun d => rfl) ?_
        refine y_cV (as := [.ref 170, iv (mcd x)]) rfl rfl rfl rfl rfl (md170 hM) ⟨rfl, (Nat.le_of_ble_eq_true rfl), (Nat.le_of_ble_eq_true rfl)⟩ (by decide) (ct_place hM hE hP hpk hx4 ?_)
        refine y_nv ?_
        refine y_ild (x := (V 178 (B + (z_pl (x - 104) a h).toNat))) (q := (B + (z_pl (x - 104) a h).toNat)) rfl rfl (md178 hM) (by omega) (by decide) (by omega) rfl ?_
        refine y_go rfl rfl ?_
        refine y_rI rfl (Or.inl rfl) ?_
        have e : eV (zm (V 178) B) a h κ n x = V 178 (B + (z_pl (x - 104) a h).toNat) := by
          unfold eV
          rw [if_neg (by omega), if_neg (by omega), if_neg (by omega), if_neg (by omega)]
          rfl
        rwa [e] at k
    · refine y_ld (x := iv (mcd x)) rfl rfl (fun d => rfl) ?_
      refine y_bi rfl rfl (by decide) ?_
      refine y_jne rfl rfl rfl (by omega) (fun g5 => ?_) (fun g5 => ?_)
      · refine y_ld (x := iv (mcd x)) rfl rfl (fun d => rfl) ?_
        refine y_bi rfl rfl (by decide) ?_
        refine y_jne rfl rfl rfl (by omega) (fun g6 => ?_) (fun g6 => ?_)
        · refine y_ld (x := .ref 170) rfl rfl (fun d => rfl) ?_
          refine y_gI (i := 20) (e := n) rfl rfl rfl (md170 hM) rfl hP.2.2.2 ?_
          refine y_rI rfl (Or.inl rfl) ?_
          have hx1 : x < 104 := by have := (mcd_rg hx).2.2.2.2; omega
          have e : eV (zm (V A) B) a h κ n x = n := by
            rw [mcd_lo hx1] at *
            unfold tcd at hx
            unfold eV
            rw [if_neg (by omega), if_neg (by omega), if_neg (by omega), if_pos (by omega)]
          rwa [e] at k
        · refine y_ld (x := .ref 170) rfl rfl (fun d => rfl) ?_
          refine y_gI (i := 18) (e := h) rfl rfl rfl (md170 hM) rfl hP.2.1 ?_
          refine y_go rfl rfl ?_
          refine y_rI rfl (Or.inl rfl) ?_
          have hx1 : x < 104 := by have := (mcd_rg hx).2.2.2.2; omega
          have e : eV (zm (V A) B) a h κ n x = h := by
            rw [mcd_lo hx1] at *
            unfold tcd at hx
            unfold eV
            rw [if_neg (by omega), if_neg (by omega), if_pos (by omega)]
          rwa [e] at k
      · refine y_ld (x := .ref 170) rfl rfl (fun d => rfl) ?_
        refine y_gI (i := 19) (e := κ) rfl rfl rfl (md170 hM) rfl hP.2.2.1 ?_
        refine y_go rfl rfl ?_
        refine y_rI rfl (Or.inl rfl) ?_
        have hx1 : x < 104 := by have := (mcd_rg hx).2.2.2.2; omega
        have e : eV (zm (V A) B) a h κ n x = κ := by
          rw [mcd_lo hx1] at *
          unfold tcd at hx
          unfold eV
          rw [if_neg (by omega), if_pos (by omega)]
        rwa [e] at k
  · refine y_ld (x := iv (mcd x)) rfl rfl (fun d => rfl) ?_
    refine y_rI rfl (Or.inl rfl) ?_
    have hx1 : x < 104 := by have := (mcd_rg hx).2.2.2.2; omega
    have e : eV (zm (V A) B) a h κ n x = mcd x := by
      rw [mcd_lo hx1] at *
      unfold eV
      rw [if_pos (by omega)]
    rwa [e] at k
set_option maxRecDepth 100000 in
set_option maxHeartbeats 4000000 in
theorem ct_becomes (hM : MdS S) {A B : Nat} {a h κ n : Int} (hE : EvM V A B) (hP : PkM V a h κ n) (hpk : pkO a h κ n) {x v : Int} (hx4 : 104 ≤ x ∧ x ≤ 115) (k : K u w none S (v_up V A (B + (z_pl (x - 104) a h).toNat) v)) : y_R X 2 129 u w [.ref 170, iv (mcd x), iv v] S V K := by
  have hpo := hpk
  obtain ⟨p1, p2, p3, p4⟩ := hpo
  have hB : B + 84 ≤ 1800 := by have := hE.2; omega
  have hmc := mcd_cell hx4
  refine y_ent (lv' := [(0, .ref 170), (1, iv (mcd x)), (2, iv v)]) (Nat.le_of_ble_eq_true rfl) rfl ?_
  have hz := tcd_pl (Or.inr hx4) hpk (by omega)
  have hE2 := hE.2
  rcases hE2 with ⟨hq, rfl, hN⟩ | ⟨hq, rfl, hN⟩
  · refine y_ld (x := .ref 170) rfl rfl (fun d => rfl) ?_
    refine y_gI (i := 21) (e := 0) rfl rfl rfl (md170 hM) rfl hq ?_
    refine y_zeq rfl rfl rfl (by decide) (fun g1 => ?_) (fun g1 => absurd g1 (by decide))
    refine y_ld (x := .ref 170) rfl rfl (fun d => rfl) ?_
    refine y_gR (i := 1) rfl rfl rfl (md170 hM) rfl ?_
    refine y_ld (x := .ref 170) rfl rfl (fun d => rfl) ?_
    refine y_ld (x := iv (mcd x)) rfl rfl (fun d => rfl) ?_
    refine y_cV (as := [.ref 170, iv (mcd x)]) rfl rfl rfl rfl rfl (md170 hM) ⟨rfl, (Nat.le_of_ble_eq_true rfl), (Nat.le_of_ble_eq_true rfl)⟩ (by decide) (ct_place hM hE hP hpk hx4 ?_)
    refine y_nv ?_
    refine y_ld (x := iv v) rfl rfl (fun d => rfl) ?_
    refine y_ist (q := (B + (z_pl (x - 104) a h).toNat)) rfl rfl (md171 hM) (by omega) (by decide) (by omega) ?_
    refine y_ret rfl (fun d => rfl) ?_
    exact k
  · refine y_ld (x := .ref 170) rfl rfl (fun d => rfl) ?_
    refine y_gI (i := 21) (e := 1) rfl rfl rfl (md170 hM) rfl hq ?_
    refine y_zeq rfl rfl rfl (by decide) (fun g2 => absurd g2 (by decide)) (fun g2 => ?_)
    refine y_ld (x := .ref 170) rfl rfl (fun d => rfl) ?_
    refine y_gR (i := 15) rfl rfl rfl (md170 hM) rfl ?_
    refine y_ld (x := .ref 170) rfl rfl (fun d => rfl) ?_
    refine y_ld (x := iv (mcd x)) rfl rfl (fun d => rfl) ?_
    refine y_cV (as := [.ref 170, iv (mcd x)]) rfl rfl rfl rfl rfl (md170 hM) ⟨rfl, (Nat.le_of_ble_eq_true rfl), (Nat.le_of_ble_eq_true rfl)⟩ (by decide) (ct_place hM hE hP hpk hx4 ?_)
    refine y_nv ?_
    refine y_ld (x := iv v) rfl rfl (fun d => rfl) ?_
    refine y_ist (q := (B + (z_pl (x - 104) a h).toNat)) rfl rfl (md178 hM) (by omega) (by decide) (by omega) ?_
    refine y_go rfl rfl ?_
    refine y_ret rfl (fun d => rfl) ?_
    exact k
set_option maxRecDepth 100000 in
set_option maxHeartbeats 4000000 in
theorem ct_isSo (hM : MdS S) {A B : Nat} {a h κ n : Int} (hE : EvM V A B) (hP : PkM V a h κ n) (hpk : pkO a h κ n) (hμr : muO (zm (V A) B)) {c x y : Int} (hc : 120 ≤ c ∧ c ≤ 122) (hx : tcd x) (hy : tcd y) (k : K u w (some (iv (v_b (eT (zm (V A) B) a h κ n c x y = true)))) S V) : y_R X 3 130 u w [.ref 170, iv (100000 + 4 * (200 * mcd x + mcd y) + (c - 120))] S V K := by
  have hmx := mcd_rg hx
  have hmy := mcd_rg hy
  have hvx := eV_rg hμr hx hpk
  have hvy := eV_rg hμr hy hpk
  refine y_ent (lv' := [(0, .ref 170), (1, iv (100000 + 4 * (200 * mcd x + mcd y) + (c - 120)))]) (Nat.le_of_ble_eq_true rfl) rfl ?_
  rcases (show c = 120 ∨ c = 121 ∨ c = 122 by omega) with rfl | rfl | rfl
  · rw [eT_0] at k
    refine y_ld (x := iv (100000 + 4 * (200 * mcd x + mcd y) + (120 - 120))) rfl rfl (fun d => rfl) ?_
    refine y_ld (x := iv 100000) rfl rfl (fun d => rfl) ?_
    refine y_sub (z := ((100000 + 4 * (200 * mcd x + mcd y) + (120 - 120)) - 100000)) rfl rfl rfl ?_
    refine y_ic rfl rfl ?_
    refine y_op (z := (200 * mcd x + mcd y)) rfl rfl (fun d => rfl) ((v_div (by omega) (by decide)).trans (congrArg Int32.ofInt (by omega))) ?_
    refine y_st (lv' := [(2, iv (200 * mcd x + mcd y)), (0, .ref 170), (1, iv (100000 + 4 * (200 * mcd x + mcd y) + (120 - 120)))]) rfl rfl (fun d => rfl) ?_
    refine y_ld (x := .ref 170) rfl rfl (fun d => rfl) ?_
    refine y_ld (x := iv (200 * mcd x + mcd y)) rfl rfl (fun d => rfl) ?_
    refine y_si rfl rfl (by decide) ?_
    refine y_op (z := (mcd x)) rfl rfl (fun d => rfl) ((v_div (by omega) (by decide)).trans (congrArg Int32.ofInt (by omega))) ?_
    refine y_cV (as := [.ref 170, iv (mcd x)]) rfl rfl rfl rfl rfl (md170 hM) ⟨rfl, (Nat.le_of_ble_eq_true rfl), (Nat.le_of_ble_eq_true rfl)⟩ (by decide) (ct_value hM hE hP hpk hx ?_)
    refine y_nv ?_
    refine y_st (lv' := [(3, iv (eV (zm (V A) B) a h κ n x)), (2, iv (200 * mcd x + mcd y)), (0, .ref 170), (1, iv (100000 + 4 * (200 * mcd x + mcd y) + (120 - 120)))]) rfl rfl (fun d => rfl) ?_
    refine y_ld (x := .ref 170) rfl rfl (fun d => rfl) ?_
    refine y_ld (x := iv (200 * mcd x + mcd y)) rfl rfl (fun d => rfl) ?_
    refine y_si rfl rfl (by decide) ?_
    refine y_op (z := (mcd y)) rfl rfl (fun d => rfl) ((v_rem (by omega) (by decide)).trans (congrArg Int32.ofInt (by omega))) ?_
    refine y_cV (as := [.ref 170, iv (mcd y)]) rfl rfl rfl rfl rfl (md170 hM) ⟨rfl, (Nat.le_of_ble_eq_true rfl), (Nat.le_of_ble_eq_true rfl)⟩ (by decide) (ct_value hM hE hP hpk hy ?_)
    refine y_nv ?_
    refine y_st (lv' := [(4, iv (eV (zm (V A) B) a h κ n y)), (3, iv (eV (zm (V A) B) a h κ n x)), (2, iv (200 * mcd x + mcd y)), (0, .ref 170), (1, iv (100000 + 4 * (200 * mcd x + mcd y) + (120 - 120)))]) rfl rfl (fun d => rfl) ?_
    refine y_ld (x := iv (100000 + 4 * (200 * mcd x + mcd y) + (120 - 120))) rfl rfl (fun d => rfl) ?_
    refine y_ld (x := iv 100000) rfl rfl (fun d => rfl) ?_
    refine y_sub (z := ((100000 + 4 * (200 * mcd x + mcd y) + (120 - 120)) - 100000)) rfl rfl rfl ?_
    refine y_ic rfl rfl ?_
    refine y_op (z := 0) rfl rfl (fun d => rfl) ((v_rem (by omega) (by decide)).trans (congrArg Int32.ofInt (by omega))) ?_
    refine y_st (lv' := [(5, iv 0), (4, iv (eV (zm (V A) B) a h κ n y)), (3, iv (eV (zm (V A) B) a h κ n x)), (2, iv (200 * mcd x + mcd y)), (0, .ref 170), (1, iv (100000 + 4 * (200 * mcd x + mcd y) + (120 - 120)))]) rfl rfl (fun d => rfl) ?_
    refine y_ld (x := iv 0) rfl rfl (fun d => rfl) ?_
    refine y_zne rfl rfl rfl (by decide) (fun g1 => absurd g1 (by decide)) (fun g1 => ?_)
    refine y_ld (x := iv (eV (zm (V A) B) a h κ n x)) rfl rfl (fun d => rfl) ?_
    refine y_ld (x := iv (eV (zm (V A) B) a h κ n y)) rfl rfl (fun d => rfl) ?_
    refine y_jge rfl rfl rfl (by omega) (fun g2 => ?_) (fun g2 => ?_)
    · refine y_ic rfl rfl ?_
      refine y_go rfl rfl ?_
      refine y_rI rfl (by decide) ?_
      rw [show v_b (decide _ = true) = 0 from v_b0 (fun hq => absurd (of_decide_eq_true hq) (by omega))] at k
      exact k
    · refine y_ic rfl rfl ?_
      refine y_go rfl rfl ?_
      refine y_rI rfl (by decide) ?_
      rw [show v_b (decide _ = true) = 1 from v_b1 (decide_eq_true (by omega))] at k
      exact k
  · rw [eT_1] at k
    refine y_ld (x := iv (100000 + 4 * (200 * mcd x + mcd y) + (121 - 120))) rfl rfl (fun d => rfl) ?_
    refine y_ld (x := iv 100000) rfl rfl (fun d => rfl) ?_
    refine y_sub (z := ((100000 + 4 * (200 * mcd x + mcd y) + (121 - 120)) - 100000)) rfl rfl rfl ?_
    refine y_ic rfl rfl ?_
    refine y_op (z := (200 * mcd x + mcd y)) rfl rfl (fun d => rfl) ((v_div (by omega) (by decide)).trans (congrArg Int32.ofInt (by omega))) ?_
    refine y_st (lv' := [(2, iv (200 * mcd x + mcd y)), (0, .ref 170), (1, iv (100000 + 4 * (200 * mcd x + mcd y) + (121 - 120)))]) rfl rfl (fun d => rfl) ?_
    refine y_ld (x := .ref 170) rfl rfl (fun d => rfl) ?_
    refine y_ld (x := iv (200 * mcd x + mcd y)) rfl rfl (fun d => rfl) ?_
    refine y_si rfl rfl (by decide) ?_
    refine y_op (z := (mcd x)) rfl rfl (fun d => rfl) ((v_div (by omega) (by decide)).trans (congrArg Int32.ofInt (by omega))) ?_
    refine y_cV (as := [.ref 170, iv (mcd x)]) rfl rfl rfl rfl rfl (md170 hM) ⟨rfl, (Nat.le_of_ble_eq_true rfl), (Nat.le_of_ble_eq_true rfl)⟩ (by decide) (ct_value hM hE hP hpk hx ?_)
    refine y_nv ?_
    refine y_st (lv' := [(3, iv (eV (zm (V A) B) a h κ n x)), (2, iv (200 * mcd x + mcd y)), (0, .ref 170), (1, iv (100000 + 4 * (200 * mcd x + mcd y) + (121 - 120)))]) rfl rfl (fun d => rfl) ?_
    refine y_ld (x := .ref 170) rfl rfl (fun d => rfl) ?_
    refine y_ld (x := iv (200 * mcd x + mcd y)) rfl rfl (fun d => rfl) ?_
    refine y_si rfl rfl (by decide) ?_
    refine y_op (z := (mcd y)) rfl rfl (fun d => rfl) ((v_rem (by omega) (by decide)).trans (congrArg Int32.ofInt (by omega))) ?_
    refine y_cV (as := [.ref 170, iv (mcd y)]) rfl rfl rfl rfl rfl (md170 hM) ⟨rfl, (Nat.le_of_ble_eq_true rfl), (Nat.le_of_ble_eq_true rfl)⟩ (by decide) (ct_value hM hE hP hpk hy ?_)
    refine y_nv ?_
    refine y_st (lv' := [(4, iv (eV (zm (V A) B) a h κ n y)), (3, iv (eV (zm (V A) B) a h κ n x)), (2, iv (200 * mcd x + mcd y)), (0, .ref 170), (1, iv (100000 + 4 * (200 * mcd x + mcd y) + (121 - 120)))]) rfl rfl (fun d => rfl) ?_
    refine y_ld (x := iv (100000 + 4 * (200 * mcd x + mcd y) + (121 - 120))) rfl rfl (fun d => rfl) ?_
    refine y_ld (x := iv 100000) rfl rfl (fun d => rfl) ?_
    refine y_sub (z := ((100000 + 4 * (200 * mcd x + mcd y) + (121 - 120)) - 100000)) rfl rfl rfl ?_
    refine y_ic rfl rfl ?_
    refine y_op (z := 1) rfl rfl (fun d => rfl) ((v_rem (by omega) (by decide)).trans (congrArg Int32.ofInt (by omega))) ?_
    refine y_st (lv' := [(5, iv 1), (4, iv (eV (zm (V A) B) a h κ n y)), (3, iv (eV (zm (V A) B) a h κ n x)), (2, iv (200 * mcd x + mcd y)), (0, .ref 170), (1, iv (100000 + 4 * (200 * mcd x + mcd y) + (121 - 120)))]) rfl rfl (fun d => rfl) ?_
    refine y_ld (x := iv 1) rfl rfl (fun d => rfl) ?_
    refine y_zne rfl rfl rfl (by decide) (fun g3 => ?_) (fun g3 => absurd g3 (by decide))
    refine y_ld (x := iv 1) rfl rfl (fun d => rfl) ?_
    refine y_ic rfl rfl ?_
    refine y_jne rfl rfl rfl (by decide) (fun g4 => absurd g4 (by decide)) (fun g4 => ?_)
    refine y_ld (x := iv (eV (zm (V A) B) a h κ n x)) rfl rfl (fun d => rfl) ?_
    refine y_ld (x := iv (eV (zm (V A) B) a h κ n y)) rfl rfl (fun d => rfl) ?_
    refine y_jne rfl rfl rfl (by omega) (fun g5 => ?_) (fun g5 => ?_)
    · refine y_ic rfl rfl ?_
      refine y_go rfl rfl ?_
      refine y_rI rfl (by decide) ?_
      rw [show v_b (decide _ = true) = 0 from v_b0 (fun hq => absurd (of_decide_eq_true hq) (by omega))] at k
      exact k
    · refine y_ic rfl rfl ?_
      refine y_go rfl rfl ?_
      refine y_rI rfl (by decide) ?_
      rw [show v_b (decide _ = true) = 1 from v_b1 (decide_eq_true (by omega))] at k
      exact k
  · rw [eT_2] at k
    refine y_ld (x := iv (100000 + 4 * (200 * mcd x + mcd y) + (122 - 120))) rfl rfl (fun d => rfl) ?_
    refine y_ld (x := iv 100000) rfl rfl (fun d => rfl) ?_
    refine y_sub (z := ((100000 + 4 * (200 * mcd x + mcd y) + (122 - 120)) - 100000)) rfl rfl rfl ?_
    refine y_ic rfl rfl ?_
    refine y_op (z := (200 * mcd x + mcd y)) rfl rfl (fun d => rfl) ((v_div (by omega) (by decide)).trans (congrArg Int32.ofInt (by omega))) ?_
    refine y_st (lv' := [(2, iv (200 * mcd x + mcd y)), (0, .ref 170), (1, iv (100000 + 4 * (200 * mcd x + mcd y) + (122 - 120)))]) rfl rfl (fun d => rfl) ?_
    refine y_ld (x := .ref 170) rfl rfl (fun d => rfl) ?_
    refine y_ld (x := iv (200 * mcd x + mcd y)) rfl rfl (fun d => rfl) ?_
    refine y_si rfl rfl (by decide) ?_
    refine y_op (z := (mcd x)) rfl rfl (fun d => rfl) ((v_div (by omega) (by decide)).trans (congrArg Int32.ofInt (by omega))) ?_
    refine y_cV (as := [.ref 170, iv (mcd x)]) rfl rfl rfl rfl rfl (md170 hM) ⟨rfl, (Nat.le_of_ble_eq_true rfl), (Nat.le_of_ble_eq_true rfl)⟩ (by decide) (ct_value hM hE hP hpk hx ?_)
    refine y_nv ?_
    refine y_st (lv' := [(3, iv (eV (zm (V A) B) a h κ n x)), (2, iv (200 * mcd x + mcd y)), (0, .ref 170), (1, iv (100000 + 4 * (200 * mcd x + mcd y) + (122 - 120)))]) rfl rfl (fun d => rfl) ?_
    refine y_ld (x := .ref 170) rfl rfl (fun d => rfl) ?_
    refine y_ld (x := iv (200 * mcd x + mcd y)) rfl rfl (fun d => rfl) ?_
    refine y_si rfl rfl (by decide) ?_
    refine y_op (z := (mcd y)) rfl rfl (fun d => rfl) ((v_rem (by omega) (by decide)).trans (congrArg Int32.ofInt (by omega))) ?_
    refine y_cV (as := [.ref 170, iv (mcd y)]) rfl rfl rfl rfl rfl (md170 hM) ⟨rfl, (Nat.le_of_ble_eq_true rfl), (Nat.le_of_ble_eq_true rfl)⟩ (by decide) (ct_value hM hE hP hpk hy ?_)
    refine y_nv ?_
    refine y_st (lv' := [(4, iv (eV (zm (V A) B) a h κ n y)), (3, iv (eV (zm (V A) B) a h κ n x)), (2, iv (200 * mcd x + mcd y)), (0, .ref 170), (1, iv (100000 + 4 * (200 * mcd x + mcd y) + (122 - 120)))]) rfl rfl (fun d => rfl) ?_
    refine y_ld (x := iv (100000 + 4 * (200 * mcd x + mcd y) + (122 - 120))) rfl rfl (fun d => rfl) ?_
    refine y_ld (x := iv 100000) rfl rfl (fun d => rfl) ?_
    refine y_sub (z := ((100000 + 4 * (200 * mcd x + mcd y) + (122 - 120)) - 100000)) rfl rfl rfl ?_
    refine y_ic rfl rfl ?_
    refine y_op (z := 2) rfl rfl (fun d => rfl) ((v_rem (by omega) (by decide)).trans (congrArg Int32.ofInt (by omega))) ?_
    refine y_st (lv' := [(5, iv 2), (4, iv (eV (zm (V A) B) a h κ n y)), (3, iv (eV (zm (V A) B) a h κ n x)), (2, iv (200 * mcd x + mcd y)), (0, .ref 170), (1, iv (100000 + 4 * (200 * mcd x + mcd y) + (122 - 120)))]) rfl rfl (fun d => rfl) ?_
    refine y_ld (x := iv 2) rfl rfl (fun d => rfl) ?_
    refine y_zne rfl rfl rfl (by decide) (fun g6 => ?_) (fun g6 => absurd g6 (by decide))
    refine y_ld (x := iv 2) rfl rfl (fun d => rfl) ?_
    refine y_ic rfl rfl ?_
    refine y_jne rfl rfl rfl (by decide) (fun g7 => ?_) (fun g7 => absurd g7 (by decide))
    refine y_ld (x := iv (eV (zm (V A) B) a h κ n x)) rfl rfl (fun d => rfl) ?_
    refine y_ld (x := iv (eV (zm (V A) B) a h κ n y)) rfl rfl (fun d => rfl) ?_
    refine y_jle rfl rfl rfl (by omega) (fun g8 => ?_) (fun g8 => ?_)
    · refine y_ic rfl rfl ?_
      refine y_rI rfl (by decide) ?_
      rw [show v_b (decide _ = true) = 0 from v_b0 (fun hq => absurd (of_decide_eq_true hq) (by omega))] at k
      exact k
    · refine y_ic rfl rfl ?_
      refine y_go rfl rfl ?_
      refine y_rI rfl (by decide) ?_
      rw [show v_b (decide _ = true) = 1 from v_b1 (decide_eq_true (by omega))] at k
      exact k
end
end
section
/-! ACTS: the reference -/
/-- as eA, without what BROKEN makes 0 -/
def eAr (t h k n : Int) : List p_Ac → (Nat → Int) → Int × (Nat → Int)
  | [], μ => (1, μ)
  | (c, l) :: r, μ => if c = 126 then (1, μ) else if c = 127 then (0, μ) else if c = 128 then (2, μ)
    else eAr t h k n r (v_uf μ (z_pl (c - 104) t h).toNat (wr (eS μ t h k n 0 l)))
theorem eA_raw (t h k n : Int) : ∀ (l : List p_Ac) (μ : Nat → Int), (eA t h k n l μ).1 = (eAr t h k n l μ).1 ∧ (eA t h k n l μ).2 = if (eAr t h k n l μ).1 = 2 then z_fl (eAr t h k n l μ).2 (4 * t.toNat) 4 0 else (eAr t h k n l μ).2
  | [], μ => ⟨rfl, (if_neg (by decide : ¬ (1 : Int) = 2)).symm⟩
  | (c, l) :: r, μ => by
    unfold eA eAr
    by_cases h1 : c = 126
    · rw [if_pos h1, if_pos h1]
      exact ⟨rfl, (if_neg (by decide : ¬ (1 : Int) = 2)).symm⟩
    rw [if_neg h1, if_neg h1]
    by_cases h2 : c = 127
    · rw [if_pos h2, if_pos h2]
      exact ⟨rfl, (if_neg (by decide : ¬ (0 : Int) = 2)).symm⟩
    rw [if_neg h2, if_neg h2]
    by_cases h3 : c = 128
    · rw [if_pos h3, if_pos h3]
      exact ⟨rfl, (if_pos rfl).symm⟩
    rw [if_neg h3, if_neg h3]
    exact eA_raw t h k n r _
theorem eAr_rg (t h k n : Int) (l : List p_Ac) (μ : Nat → Int) : 0 ≤ (eAr t h k n l μ).1 ∧ (eAr t h k n l μ).1 ≤ 2 := by
  induction l generalizing μ with
  | nil => exact ⟨by show (0 : Int) ≤ 1; decide, by show (1 : Int) ≤ 2; decide⟩
  | cons x r ih =>
    obtain ⟨c, l⟩ := x
    unfold eAr
    split
    · exact ⟨by show (0 : Int) ≤ 1; decide, by show (1 : Int) ≤ 2; decide⟩
    split
    · exact ⟨by show (0 : Int) ≤ 0; decide, by show (0 : Int) ≤ 2; decide⟩
    split
    · exact ⟨by show (0 : Int) ≤ 2; decide, by show (2 : Int) ≤ 2; decide⟩
    · exact ih _
theorem eAr_mu {t h k n : Int} : ∀ (l : List p_Ac) (μ : Nat → Int), muO μ → muO (eAr t h k n l μ).2
  | [], μ, hm => hm
  | (c, l) :: r, μ, hm => by
    unfold eAr
    split
    · exact hm
    split
    · exact hm
    split
    · exact hm
    · refine eAr_mu r _ (fun p hp => ?_)
      unfold v_uf
      split
      · exact wr_rg _
      · exact hm p hp
/-- a CELL that waits for its SUM -/
def pce : Option Int → Int
  | none => -1
  | some c => mcd c
def pnd (t h k n : Int) (μ : Nat → Int) : Option Int → Int → List Int → Nat → Int
  | none, _, _ => μ
  | some c, s, T => v_uf μ (z_pl (c - 104) t h).toNat (wr (eS μ t h k n s T))
theorem zi_ufm {f : Nat → Int} {B q : Nat} {v : Int} (hq : q < 84) : zi f B (v_uf (zm f B) q v) = v_uf f (B + q) v := by
  rw [← zm_uf, ← zi_uf hq, zi_zm]
section ENC
variable {t h k n c : Int} {l : List Int} {r : List p_Ac} {μ : Nat → Int}
theorem encA_e (hc : 126 ≤ c) : encA ((c, l) :: r) = (5000 + (if c = 126 then 1 else if c = 127 then 0 else 2)) :: encA r := by
  show (if 126 ≤ c then _ else _) ++ encA r = _
  rw [if_pos hc]
  rfl
theorem encA_c (hc : ¬ 126 ≤ c) : encA ((c, l) :: r) = (2000 + mcd c) :: (l.map encM1 ++ encA r) := by
  show (if 126 ≤ c then _ else _) ++ encA r = _
  rw [if_neg hc]
  rfl
theorem eAr_p : eAr t h k n ((126, l) :: r) μ = (1, μ) := rfl
theorem eAr_d : eAr t h k n ((127, l) :: r) μ = (0, μ) := rfl
theorem eAr_b : eAr t h k n ((128, l) :: r) μ = (2, μ) := rfl
theorem eAr_c (hc : c < 126) : eAr t h k n ((c, l) :: r) μ = eAr t h k n r (v_uf μ (z_pl (c - 104) t h).toNat (wr (eS μ t h k n 0 l))) := by
  show (if c = 126 then _ else if c = 127 then _ else if c = 128 then _ else _) = _
  rw [if_neg (by omega), if_neg (by omega), if_neg (by omega)]
end ENC
section
variable {X : Nat → List Int32} {u w : Nat} {S : m_H} {V : v_V} {K : v_K}
set_option maxRecDepth 100000 in
set_option maxHeartbeats 4000000 in
theorem lp_mActs (hM : MdS S) {A B : Nat} {a h κ n : Int} (hpk : pkO a h κ n) (hA : A = 171 ∨ A = 178) {f e : Int} {F : Nat} : ∀ (m : Nat) (p : Nat) (P : Option Int) (s : Int) (T : List Int) (R : List p_Ac) (W : v_V), (T.map encM1 ++ encA R).length < m → (EvM W A B) → (PkM W a h κ n) → (muO (zm (W A) B)) → (SG W 173 p (T.map encM1 ++ encA R)) → ((p : Int) + (T.map encM1 ++ encA R).length = e ∧ e ≤ 1600) → (smO T) → (acO R) → (P = none → T = []) → (∀ c, P = some c → 104 ≤ c ∧ c ≤ 115) → (K u w (some (iv (eAr a h κ n R (pnd a h κ n (zm (W A) B) P s T)).1)) S (v_ur W A (zi (W A) B (eAr a h κ n R (pnd a h κ n (zm (W A) B) P s T)).2))) → y_E X 4 131 (60 * m + F) u w 8 [(0, .ref 170), (1, iv f), (2, iv e), (3, iv (pce P)), (4, iv s), (5, iv (p : Int))] [] S W K := by
  intro m
  induction m with
  | zero => intros; omega
  | succ m ih =>
    intro p P s T R W hm1 hE hP hμr hL hn hT ho hPc hPd hx2
    refine y_mono (F' := (60 * m + F) + 60) ?_ (by omega)
    refine y_ld (x := iv (p : Int)) rfl rfl (fun d => rfl) ?_
    refine y_ld (x := iv e) rfl rfl (fun d => rfl) ?_
    refine y_jge rfl rfl rfl (by omega) (fun g1 => ?_) (fun g1 => ?_)
    · obtain ⟨rfl, rfl⟩ : T = [] ∧ R = [] := by
        rcases T with _ | ⟨t, T⟩
        · rcases R with _ | ⟨⟨c1, y⟩, R⟩
          · exact ⟨rfl, rfl⟩
          · exfalso
            rw [List.map_nil, List.nil_append] at hn
            by_cases hc : 126 ≤ c1
            · rw [encA_e hc] at hn; simp only [List.length_cons] at hn; omega
            · rw [encA_c hc] at hn; simp only [List.length_cons] at hn; omega
        · exfalso
          rw [List.map_cons, List.cons_append] at hn; simp only [List.length_cons] at hn; omega
      rcases P with _ | c0
      · refine y_lv (l' := [(0, .ref 170), (1, iv f), (2, iv e), (3, iv (-1)), (4, iv s), (5, iv (p : Int))]) rfl ⟨rfl, rfl, rfl, rfl, rfl, rfl, trivial⟩ ?_
        refine y_ld (x := iv (-1)) rfl rfl (fun d => rfl) ?_
        refine y_ic rfl rfl ?_
        refine y_jeq rfl rfl rfl (by decide) (fun g2 => ?_) (fun g2 => absurd g2 (by decide))
        refine y_ic rfl rfl ?_
        refine y_rI rfl (Or.inl rfl) ?_
        rw [show ∀ μ, eAr a h κ n [] μ = (1, μ) from fun _ => rfl] at hx2
        rw [show pnd a h κ n (zm (W A) B) none s [] = zm (W A) B from rfl, zi_zm, v_ur_self] at hx2
        exact hx2
      · refine y_lv (l' := [(0, .ref 170), (1, iv f), (2, iv e), (3, iv (mcd c0)), (4, iv s), (5, iv (p : Int))]) rfl ⟨rfl, rfl, rfl, rfl, rfl, rfl, trivial⟩ ?_
        have hx4 := hPd c0 rfl
        have hm0 := mcd_cell hx4
        have hz0 := tcd_pl (Or.inr hx4) hpk (by omega)
        refine y_ld (x := iv (mcd c0)) rfl rfl (fun d => rfl) ?_
        refine y_ic rfl rfl ?_
        refine y_jeq rfl rfl rfl (by omega) (fun g3 => absurd g3 (by omega)) (fun g3 => ?_)
        refine y_ld (x := .ref 170) rfl rfl (fun d => rfl) ?_
        refine y_ld (x := iv (mcd c0)) rfl rfl (fun d => rfl) ?_
        refine y_ld (x := iv s) rfl rfl (fun d => rfl) ?_
        refine y_top (wr_iv s) ?_
        refine y_cV (as := [.ref 170, iv (mcd c0), iv (wr s)]) rfl rfl rfl rfl rfl (md170 hM) ⟨rfl, (Nat.le_of_ble_eq_true rfl), (Nat.le_of_ble_eq_true rfl)⟩ (by decide) (ct_becomes (x := c0) hM hE hP hpk hx4 ?_)
        refine y_n0 ?_
        refine y_ic rfl rfl ?_
        refine y_rI rfl (Or.inl rfl) ?_
        rw [show ∀ μ, eAr a h κ n [] μ = (1, μ) from fun _ => rfl] at hx2
        rw [show pnd a h κ n (zm (W A) B) (some c0) s [] = v_uf (zm (W A) B) (z_pl (c0 - 104) a h).toNat (wr s) from rfl, zi_ufm (by omega)] at hx2
        exact hx2
    · rcases P with _ | c0
      · obtain rfl := hPc rfl
        refine y_lv (l' := [(0, .ref 170), (1, iv f), (2, iv e), (3, iv (-1)), (4, iv s), (5, iv (p : Int))]) rfl ⟨rfl, rfl, rfl, rfl, rfl, rfl, trivial⟩ ?_
        rcases R with _ | ⟨⟨c1, y⟩, R⟩
        · exact absurd hn (by simp only [List.map_nil, List.nil_append, encA, List.length_nil]; omega)
        have hor : acO R := fun q hq => ho q (List.mem_cons_of_mem _ hq)
        have hc1 := ho _ List.mem_cons_self
        simp only at hc1
        have hc4 : c1 = 126 ∨ c1 = 127 ∨ c1 = 128 ∨ (104 ≤ c1 ∧ c1 ≤ 115) := by rcases hc1 with q | q <;> omega
        rw [List.map_nil, List.nil_append] at hL hn hm1
        rcases hc4 with rfl | rfl | rfl | hc4
        · rw [encA_e (by decide)] at hL hn
          simp only [List.length_cons] at hn
          have hL1 := hL.1
          rw [eAr_p] at hx2
          refine y_ld (x := .ref 170) rfl rfl (fun d => rfl) ?_
          refine y_gR (i := 4) rfl rfl rfl (md170 hM) rfl ?_
          refine y_ld (x := iv (p : Int)) rfl rfl (fun d => rfl) ?_
          refine y_ild (x := 5001) (q := p) rfl rfl (md173 hM) (by omega) (by decide) (by omega) hL1 ?_
          refine y_st (lv' := [(6, iv 5001), (0, .ref 170), (1, iv f), (2, iv e), (3, iv (-1)), (4, iv s), (5, iv (p : Int))]) rfl rfl (fun d => rfl) ?_
          refine y_ld (x := iv 5001) rfl rfl (fun d => rfl) ?_
          refine y_si rfl rfl (by decide) ?_
          refine y_jge rfl rfl rfl (by decide) (fun g4 => ?_) (fun g4 => absurd g4 (by decide))
          refine y_ld (x := iv (-1)) rfl rfl (fun d => rfl) ?_
          refine y_ic rfl rfl ?_
          refine y_jeq rfl rfl rfl (by decide) (fun g5 => ?_) (fun g5 => absurd g5 (by decide))
          refine y_ld (x := iv 5001) rfl rfl (fun d => rfl) ?_
          refine y_si rfl rfl (by decide) ?_
          refine y_jge rfl rfl rfl (by decide) (fun g6 => ?_) (fun g6 => absurd g6 (by decide))
          refine y_ic rfl rfl ?_
          refine y_st (lv' := [(3, iv (-1)), (6, iv 5001), (0, .ref 170), (1, iv f), (2, iv e), (4, iv s), (5, iv (p : Int))]) rfl rfl (fun d => rfl) ?_
          refine y_ic rfl rfl ?_
          refine y_st (lv' := [(4, iv 0), (3, iv (-1)), (6, iv 5001), (0, .ref 170), (1, iv f), (2, iv e), (5, iv (p : Int))]) rfl rfl (fun d => rfl) ?_
          refine y_ld (x := iv 5001) rfl rfl (fun d => rfl) ?_
          refine y_si rfl rfl (by decide) ?_
          refine y_jlt rfl rfl rfl (by decide) (fun g7 => absurd g7 (by decide)) (fun g7 => ?_)
          refine y_ld (x := iv 5001) rfl rfl (fun d => rfl) ?_
          refine y_si rfl rfl (by decide) ?_
          refine y_sub (z := 1) rfl rfl rfl ?_
          refine y_rI rfl (Or.inl rfl) ?_
          rw [show pnd a h κ n (zm (W A) B) none s [] = zm (W A) B from rfl, zi_zm, v_ur_self] at hx2
          exact hx2
        · rw [encA_e (by decide)] at hL hn
          simp only [List.length_cons] at hn
          have hL1 := hL.1
          rw [eAr_d] at hx2
          refine y_ld (x := .ref 170) rfl rfl (fun d => rfl) ?_
          refine y_gR (i := 4) rfl rfl rfl (md170 hM) rfl ?_
          refine y_ld (x := iv (p : Int)) rfl rfl (fun d => rfl) ?_
          refine y_ild (x := 5000) (q := p) rfl rfl (md173 hM) (by omega) (by decide) (by omega) hL1 ?_
          refine y_st (lv' := [(6, iv 5000), (0, .ref 170), (1, iv f), (2, iv e), (3, iv (-1)), (4, iv s), (5, iv (p : Int))]) rfl rfl (fun d => rfl) ?_
          refine y_ld (x := iv 5000) rfl rfl (fun d => rfl) ?_
          refine y_si rfl rfl (by decide) ?_
          refine y_jge rfl rfl rfl (by decide) (fun g8 => ?_) (fun g8 => absurd g8 (by decide))
          refine y_ld (x := iv (-1)) rfl rfl (fun d => rfl) ?_
          refine y_ic rfl rfl ?_
          refine y_jeq rfl rfl rfl (by decide) (fun g9 => ?_) (fun g9 => absurd g9 (by decide))
          refine y_ld (x := iv 5000) rfl rfl (fun d => rfl) ?_
          refine y_si rfl rfl (by decide) ?_
          refine y_jge rfl rfl rfl (by decide) (fun g10 => ?_) (fun g10 => absurd g10 (by decide))
          refine y_ic rfl rfl ?_
          refine y_st (lv' := [(3, iv (-1)), (6, iv 5000), (0, .ref 170), (1, iv f), (2, iv e), (4, iv s), (5, iv (p : Int))]) rfl rfl (fun d => rfl) ?_
          refine y_ic rfl rfl ?_
          refine y_st (lv' := [(4, iv 0), (3, iv (-1)), (6, iv 5000), (0, .ref 170), (1, iv f), (2, iv e), (5, iv (p : Int))]) rfl rfl (fun d => rfl) ?_
          refine y_ld (x := iv 5000) rfl rfl (fun d => rfl) ?_
          refine y_si rfl rfl (by decide) ?_
          refine y_jlt rfl rfl rfl (by decide) (fun g11 => absurd g11 (by decide)) (fun g11 => ?_)
          refine y_ld (x := iv 5000) rfl rfl (fun d => rfl) ?_
          refine y_si rfl rfl (by decide) ?_
          refine y_sub (z := 0) rfl rfl rfl ?_
          refine y_rI rfl (Or.inl rfl) ?_
          rw [show pnd a h κ n (zm (W A) B) none s [] = zm (W A) B from rfl, zi_zm, v_ur_self] at hx2
          exact hx2
        · rw [encA_e (by decide)] at hL hn
          simp only [List.length_cons] at hn
          have hL1 := hL.1
          rw [eAr_b] at hx2
          refine y_ld (x := .ref 170) rfl rfl (fun d => rfl) ?_
          refine y_gR (i := 4) rfl rfl rfl (md170 hM) rfl ?_
          refine y_ld (x := iv (p : Int)) rfl rfl (fun d => rfl) ?_
          refine y_ild (x := 5002) (q := p) rfl rfl (md173 hM) (by omega) (by decide) (by omega) hL1 ?_
          refine y_st (lv' := [(6, iv 5002), (0, .ref 170), (1, iv f), (2, iv e), (3, iv (-1)), (4, iv s), (5, iv (p : Int))]) rfl rfl (fun d => rfl) ?_
          refine y_ld (x := iv 5002) rfl rfl (fun d => rfl) ?_
          refine y_si rfl rfl (by decide) ?_
          refine y_jge rfl rfl rfl (by decide) (fun g12 => ?_) (fun g12 => absurd g12 (by decide))
          refine y_ld (x := iv (-1)) rfl rfl (fun d => rfl) ?_
          refine y_ic rfl rfl ?_
          refine y_jeq rfl rfl rfl (by decide) (fun g13 => ?_) (fun g13 => absurd g13 (by decide))
          refine y_ld (x := iv 5002) rfl rfl (fun d => rfl) ?_
          refine y_si rfl rfl (by decide) ?_
          refine y_jge rfl rfl rfl (by decide) (fun g14 => ?_) (fun g14 => absurd g14 (by decide))
          refine y_ic rfl rfl ?_
          refine y_st (lv' := [(3, iv (-1)), (6, iv 5002), (0, .ref 170), (1, iv f), (2, iv e), (4, iv s), (5, iv (p : Int))]) rfl rfl (fun d => rfl) ?_
          refine y_ic rfl rfl ?_
          refine y_st (lv' := [(4, iv 0), (3, iv (-1)), (6, iv 5002), (0, .ref 170), (1, iv f), (2, iv e), (5, iv (p : Int))]) rfl rfl (fun d => rfl) ?_
          refine y_ld (x := iv 5002) rfl rfl (fun d => rfl) ?_
          refine y_si rfl rfl (by decide) ?_
          refine y_jlt rfl rfl rfl (by decide) (fun g15 => absurd g15 (by decide)) (fun g15 => ?_)
          refine y_ld (x := iv 5002) rfl rfl (fun d => rfl) ?_
          refine y_si rfl rfl (by decide) ?_
          refine y_sub (z := 2) rfl rfl rfl ?_
          refine y_rI rfl (Or.inl rfl) ?_
          rw [show pnd a h κ n (zm (W A) B) none s [] = zm (W A) B from rfl, zi_zm, v_ur_self] at hx2
          exact hx2
        · have hc5 : smO y := by
            rcases hc1 with q | q
            · omega
            · exact q.2.2.1
          have hmc := mcd_cell hc4
          rw [encA_c (by omega)] at hL hn hm1
          simp only [List.length_cons] at hn hm1
          have hL1 := hL.1
          rw [eAr_c (by omega)] at hx2
          refine y_ld (x := .ref 170) rfl rfl (fun d => rfl) ?_
          refine y_gR (i := 4) rfl rfl rfl (md170 hM) rfl ?_
          refine y_ld (x := iv (p : Int)) rfl rfl (fun d => rfl) ?_
          refine y_ild (x := (2000 + mcd c1)) (q := p) rfl rfl (md173 hM) (by omega) (by decide) (by omega) hL1 ?_
          refine y_st (lv' := [(6, iv (2000 + mcd c1)), (0, .ref 170), (1, iv f), (2, iv e), (3, iv (-1)), (4, iv s), (5, iv (p : Int))]) rfl rfl (fun d => rfl) ?_
          refine y_ld (x := iv (2000 + mcd c1)) rfl rfl (fun d => rfl) ?_
          refine y_si rfl rfl (by decide) ?_
          refine y_jge rfl rfl rfl (by omega) (fun g16 => absurd g16 (by omega)) (fun g16 => ?_)
          refine y_ld (x := iv (2000 + mcd c1)) rfl rfl (fun d => rfl) ?_
          refine y_si rfl rfl (by decide) ?_
          refine y_jge rfl rfl rfl (by omega) (fun g17 => absurd g17 (by omega)) (fun g17 => ?_)
          refine y_ld (x := iv (-1)) rfl rfl (fun d => rfl) ?_
          refine y_ic rfl rfl ?_
          refine y_jeq rfl rfl rfl (by decide) (fun g18 => ?_) (fun g18 => absurd g18 (by decide))
          refine y_ld (x := iv (2000 + mcd c1)) rfl rfl (fun d => rfl) ?_
          refine y_si rfl rfl (by decide) ?_
          refine y_jge rfl rfl rfl (by omega) (fun g19 => absurd g19 (by omega)) (fun g19 => ?_)
          refine y_ld (x := iv (2000 + mcd c1)) rfl rfl (fun d => rfl) ?_
          refine y_si rfl rfl (by decide) ?_
          refine y_sub (z := (mcd c1)) rfl rfl (by omega) ?_
          refine y_go rfl rfl ?_
          refine y_st (lv' := [(3, iv (mcd c1)), (6, iv (2000 + mcd c1)), (0, .ref 170), (1, iv f), (2, iv e), (4, iv s), (5, iv (p : Int))]) rfl rfl (fun d => rfl) ?_
          refine y_ic rfl rfl ?_
          refine y_st (lv' := [(4, iv 0), (3, iv (mcd c1)), (6, iv (2000 + mcd c1)), (0, .ref 170), (1, iv f), (2, iv e), (5, iv (p : Int))]) rfl rfl (fun d => rfl) ?_
          refine y_ld (x := iv (2000 + mcd c1)) rfl rfl (fun d => rfl) ?_
          refine y_si rfl rfl (by decide) ?_
          refine y_jlt rfl rfl rfl (by omega) (fun g20 => ?_) (fun g20 => absurd g20 (by omega))
          refine y_inc (z := ((p + 1 : Nat) : Int)) (lv' := [(5, iv ((p + 1 : Nat) : Int)), (4, iv 0), (3, iv (mcd c1)), (6, iv (2000 + mcd c1)), (0, .ref 170), (1, iv f), (2, iv e)]) rfl rfl rfl (by omega) rfl ?_
          refine y_go rfl rfl ?_
          refine y_lv (l' := [(0, .ref 170), (1, iv f), (2, iv e), (3, iv (mcd c1)), (4, iv 0), (5, iv ((p + 1 : Nat) : Int))]) rfl ⟨rfl, rfl, rfl, rfl, rfl, rfl, trivial⟩ ?_
          exact y_mono (ih (p + 1) (some c1) 0 y R W (by omega) hE hP hμr hL.2 (by omega) hc5 hor (fun q => by cases q) (fun q hq => by cases hq; exact hc4) hx2) (by omega)
      · have hx4 := hPd c0 rfl
        have hm0 := mcd_cell hx4
        have hz0 := tcd_pl (Or.inr hx4) hpk (by omega)
        refine y_lv (l' := [(0, .ref 170), (1, iv f), (2, iv e), (3, iv (mcd c0)), (4, iv s), (5, iv (p : Int))]) rfl ⟨rfl, rfl, rfl, rfl, rfl, rfl, trivial⟩ ?_
        rcases T with _ | ⟨t, T⟩
        · rcases R with _ | ⟨⟨c1, y⟩, R⟩
          · exact absurd hn (by simp only [List.map_nil, List.nil_append, encA, List.length_nil]; omega)
          have hor : acO R := fun q hq => ho q (List.mem_cons_of_mem _ hq)
          have hc1 := ho _ List.mem_cons_self
          simp only at hc1
          have hc4 : c1 = 126 ∨ c1 = 127 ∨ c1 = 128 ∨ (104 ≤ c1 ∧ c1 ≤ 115) := by rcases hc1 with q | q <;> omega
          rw [List.map_nil, List.nil_append] at hL hn hm1
          rcases hc4 with rfl | rfl | rfl | hc4
          · rw [encA_e (by decide)] at hL hn
            simp only [List.length_cons] at hn
            have hL1 := hL.1
            rw [eAr_p] at hx2
            refine y_ld (x := .ref 170) rfl rfl (fun d => rfl) ?_
            refine y_gR (i := 4) rfl rfl rfl (md170 hM) rfl ?_
            refine y_ld (x := iv (p : Int)) rfl rfl (fun d => rfl) ?_
            refine y_ild (x := 5001) (q := p) rfl rfl (md173 hM) (by omega) (by decide) (by omega) hL1 ?_
            refine y_st (lv' := [(6, iv 5001), (0, .ref 170), (1, iv f), (2, iv e), (3, iv (mcd c0)), (4, iv s), (5, iv (p : Int))]) rfl rfl (fun d => rfl) ?_
            refine y_ld (x := iv 5001) rfl rfl (fun d => rfl) ?_
            refine y_si rfl rfl (by decide) ?_
            refine y_jge rfl rfl rfl (by decide) (fun g21 => ?_) (fun g21 => absurd g21 (by decide))
            refine y_ld (x := iv (mcd c0)) rfl rfl (fun d => rfl) ?_
            refine y_ic rfl rfl ?_
            refine y_jeq rfl rfl rfl (by omega) (fun g22 => absurd g22 (by omega)) (fun g22 => ?_)
            refine y_ld (x := .ref 170) rfl rfl (fun d => rfl) ?_
            refine y_ld (x := iv (mcd c0)) rfl rfl (fun d => rfl) ?_
            refine y_ld (x := iv s) rfl rfl (fun d => rfl) ?_
            refine y_top (wr_iv s) ?_
            refine y_cV (as := [.ref 170, iv (mcd c0), iv (wr s)]) rfl rfl rfl rfl rfl (md170 hM) ⟨rfl, (Nat.le_of_ble_eq_true rfl), (Nat.le_of_ble_eq_true rfl)⟩ (by decide) (ct_becomes (x := c0) hM hE hP hpk hx4 ?_)
            refine y_n0 ?_
            refine y_ld (x := iv 5001) rfl rfl (fun d => rfl) ?_
            refine y_si rfl rfl (by decide) ?_
            refine y_jge rfl rfl rfl (by decide) (fun g23 => ?_) (fun g23 => absurd g23 (by decide))
            refine y_ic rfl rfl ?_
            refine y_st (lv' := [(3, iv (-1)), (6, iv 5001), (0, .ref 170), (1, iv f), (2, iv e), (4, iv s), (5, iv (p : Int))]) rfl rfl (fun d => rfl) ?_
            refine y_ic rfl rfl ?_
            refine y_st (lv' := [(4, iv 0), (3, iv (-1)), (6, iv 5001), (0, .ref 170), (1, iv f), (2, iv e), (5, iv (p : Int))]) rfl rfl (fun d => rfl) ?_
            refine y_ld (x := iv 5001) rfl rfl (fun d => rfl) ?_
            refine y_si rfl rfl (by decide) ?_
            refine y_jlt rfl rfl rfl (by decide) (fun g24 => absurd g24 (by decide)) (fun g24 => ?_)
            refine y_ld (x := iv 5001) rfl rfl (fun d => rfl) ?_
            refine y_si rfl rfl (by decide) ?_
            refine y_sub (z := 1) rfl rfl rfl ?_
            refine y_rI rfl (Or.inl rfl) ?_
            rw [show pnd a h κ n (zm (W A) B) (some c0) s [] = v_uf (zm (W A) B) (z_pl (c0 - 104) a h).toNat (wr s) from rfl, zi_ufm (by omega)] at hx2
            exact hx2
          · rw [encA_e (by decide)] at hL hn
            simp only [List.length_cons] at hn
            have hL1 := hL.1
            rw [eAr_d] at hx2
            refine y_ld (x := .ref 170) rfl rfl (fun d => rfl) ?_
            refine y_gR (i := 4) rfl rfl rfl (md170 hM) rfl ?_
            refine y_ld (x := iv (p : Int)) rfl rfl (fun d => rfl) ?_
            refine y_ild (x := 5000) (q := p) rfl rfl (md173 hM) (by omega) (by decide) (by omega) hL1 ?_
            refine y_st (lv' := [(6, iv 5000), (0, .ref 170), (1, iv f), (2, iv e), (3, iv (mcd c0)), (4, iv s), (5, iv (p : Int))]) rfl rfl (fun d => rfl) ?_
            refine y_ld (x := iv 5000) rfl rfl (fun d => rfl) ?_
            refine y_si rfl rfl (by decide) ?_
            refine y_jge rfl rfl rfl (by decide) (fun g25 => ?_) (fun g25 => absurd g25 (by decide))
            refine y_ld (x := iv (mcd c0)) rfl rfl (fun d => rfl) ?_
            refine y_ic rfl rfl ?_
            refine y_jeq rfl rfl rfl (by omega) (fun g26 => absurd g26 (by omega)) (fun g26 => ?_)
            refine y_ld (x := .ref 170) rfl rfl (fun d => rfl) ?_
            refine y_ld (x := iv (mcd c0)) rfl rfl (fun d => rfl) ?_
            refine y_ld (x := iv s) rfl rfl (fun d => rfl) ?_
            refine y_top (wr_iv s) ?_
            refine y_cV (as := [.ref 170, iv (mcd c0), iv (wr s)]) rfl rfl rfl rfl rfl (md170 hM) ⟨rfl, (Nat.le_of_ble_eq_true rfl), (Nat.le_of_ble_eq_true rfl)⟩ (by decide) (ct_becomes (x := c0) hM hE hP hpk hx4 ?_)
            refine y_n0 ?_
            refine y_ld (x := iv 5000) rfl rfl (fun d => rfl) ?_
            refine y_si rfl rfl (by decide) ?_
            refine y_jge rfl rfl rfl (by decide) (fun g27 => ?_) (fun g27 => absurd g27 (by decide))
            refine y_ic rfl rfl ?_
            refine y_st (lv' := [(3, iv (-1)), (6, iv 5000), (0, .ref 170), (1, iv f), (2, iv e), (4, iv s), (5, iv (p : Int))]) rfl rfl (fun d => rfl) ?_
            refine y_ic rfl rfl ?_
            refine y_st (lv' := [(4, iv 0), (3, iv (-1)), (6, iv 5000), (0, .ref 170), (1, iv f), (2, iv e), (5, iv (p : Int))]) rfl rfl (fun d => rfl) ?_
            refine y_ld (x := iv 5000) rfl rfl (fun d => rfl) ?_
            refine y_si rfl rfl (by decide) ?_
            refine y_jlt rfl rfl rfl (by decide) (fun g28 => absurd g28 (by decide)) (fun g28 => ?_)
            refine y_ld (x := iv 5000) rfl rfl (fun d => rfl) ?_
            refine y_si rfl rfl (by decide) ?_
            refine y_sub (z := 0) rfl rfl rfl ?_
            refine y_rI rfl (Or.inl rfl) ?_
            rw [show pnd a h κ n (zm (W A) B) (some c0) s [] = v_uf (zm (W A) B) (z_pl (c0 - 104) a h).toNat (wr s) from rfl, zi_ufm (by omega)] at hx2
            exact hx2
          · rw [encA_e (by decide)] at hL hn
            simp only [List.length_cons] at hn
            have hL1 := hL.1
            rw [eAr_b] at hx2
            refine y_ld (x := .ref 170) rfl rfl (fun d => rfl) ?_
            refine y_gR (i := 4) rfl rfl rfl (md170 hM) rfl ?_
            refine y_ld (x := iv (p : Int)) rfl rfl (fun d => rfl) ?_
            refine y_ild (x := 5002) (q := p) rfl rfl (md173 hM) (by omega) (by decide) (by omega) hL1 ?_
            refine y_st (lv' := [(6, iv 5002), (0, .ref 170), (1, iv f), (2, iv e), (3, iv (mcd c0)), (4, iv s), (5, iv (p : Int))]) rfl rfl (fun d => rfl) ?_
            refine y_ld (x := iv 5002) rfl rfl (fun d => rfl) ?_
            refine y_si rfl rfl (by decide) ?_
            refine y_jge rfl rfl rfl (by decide) (fun g29 => ?_) (fun g29 => absurd g29 (by decide))
            refine y_ld (x := iv (mcd c0)) rfl rfl (fun d => rfl) ?_
            refine y_ic rfl rfl ?_
            refine y_jeq rfl rfl rfl (by omega) (fun g30 => absurd g30 (by omega)) (fun g30 => ?_)
            refine y_ld (x := .ref 170) rfl rfl (fun d => rfl) ?_
            refine y_ld (x := iv (mcd c0)) rfl rfl (fun d => rfl) ?_
            refine y_ld (x := iv s) rfl rfl (fun d => rfl) ?_
            refine y_top (wr_iv s) ?_
            refine y_cV (as := [.ref 170, iv (mcd c0), iv (wr s)]) rfl rfl rfl rfl rfl (md170 hM) ⟨rfl, (Nat.le_of_ble_eq_true rfl), (Nat.le_of_ble_eq_true rfl)⟩ (by decide) (ct_becomes (x := c0) hM hE hP hpk hx4 ?_)
            refine y_n0 ?_
            refine y_ld (x := iv 5002) rfl rfl (fun d => rfl) ?_
            refine y_si rfl rfl (by decide) ?_
            refine y_jge rfl rfl rfl (by decide) (fun g31 => ?_) (fun g31 => absurd g31 (by decide))
            refine y_ic rfl rfl ?_
            refine y_st (lv' := [(3, iv (-1)), (6, iv 5002), (0, .ref 170), (1, iv f), (2, iv e), (4, iv s), (5, iv (p : Int))]) rfl rfl (fun d => rfl) ?_
            refine y_ic rfl rfl ?_
            refine y_st (lv' := [(4, iv 0), (3, iv (-1)), (6, iv 5002), (0, .ref 170), (1, iv f), (2, iv e), (5, iv (p : Int))]) rfl rfl (fun d => rfl) ?_
            refine y_ld (x := iv 5002) rfl rfl (fun d => rfl) ?_
            refine y_si rfl rfl (by decide) ?_
            refine y_jlt rfl rfl rfl (by decide) (fun g32 => absurd g32 (by decide)) (fun g32 => ?_)
            refine y_ld (x := iv 5002) rfl rfl (fun d => rfl) ?_
            refine y_si rfl rfl (by decide) ?_
            refine y_sub (z := 2) rfl rfl rfl ?_
            refine y_rI rfl (Or.inl rfl) ?_
            rw [show pnd a h κ n (zm (W A) B) (some c0) s [] = v_uf (zm (W A) B) (z_pl (c0 - 104) a h).toNat (wr s) from rfl, zi_ufm (by omega)] at hx2
            exact hx2
          · have hc5 : smO y := by
              rcases hc1 with q | q
              · omega
              · exact q.2.2.1
            have hmc := mcd_cell hc4
            rw [encA_c (by omega)] at hL hn hm1
            simp only [List.length_cons] at hn hm1
            have hL1 := hL.1
            rw [eAr_c (by omega)] at hx2
            refine y_ld (x := .ref 170) rfl rfl (fun d => rfl) ?_
            refine y_gR (i := 4) rfl rfl rfl (md170 hM) rfl ?_
            refine y_ld (x := iv (p : Int)) rfl rfl (fun d => rfl) ?_
            refine y_ild (x := (2000 + mcd c1)) (q := p) rfl rfl (md173 hM) (by omega) (by decide) (by omega) hL1 ?_
            refine y_st (lv' := [(6, iv (2000 + mcd c1)), (0, .ref 170), (1, iv f), (2, iv e), (3, iv (mcd c0)), (4, iv s), (5, iv (p : Int))]) rfl rfl (fun d => rfl) ?_
            refine y_ld (x := iv (2000 + mcd c1)) rfl rfl (fun d => rfl) ?_
            refine y_si rfl rfl (by decide) ?_
            refine y_jge rfl rfl rfl (by omega) (fun g33 => absurd g33 (by omega)) (fun g33 => ?_)
            refine y_ld (x := iv (2000 + mcd c1)) rfl rfl (fun d => rfl) ?_
            refine y_si rfl rfl (by decide) ?_
            refine y_jge rfl rfl rfl (by omega) (fun g34 => absurd g34 (by omega)) (fun g34 => ?_)
            refine y_ld (x := iv (mcd c0)) rfl rfl (fun d => rfl) ?_
            refine y_ic rfl rfl ?_
            refine y_jeq rfl rfl rfl (by omega) (fun g35 => absurd g35 (by omega)) (fun g35 => ?_)
            refine y_ld (x := .ref 170) rfl rfl (fun d => rfl) ?_
            refine y_ld (x := iv (mcd c0)) rfl rfl (fun d => rfl) ?_
            refine y_ld (x := iv s) rfl rfl (fun d => rfl) ?_
            refine y_top (wr_iv s) ?_
            refine y_cV (as := [.ref 170, iv (mcd c0), iv (wr s)]) rfl rfl rfl rfl rfl (md170 hM) ⟨rfl, (Nat.le_of_ble_eq_true rfl), (Nat.le_of_ble_eq_true rfl)⟩ (by decide) (ct_becomes (x := c0) hM hE hP hpk hx4 ?_)
            refine y_n0 ?_
            refine y_ld (x := iv (2000 + mcd c1)) rfl rfl (fun d => rfl) ?_
            refine y_si rfl rfl (by decide) ?_
            refine y_jge rfl rfl rfl (by omega) (fun g36 => absurd g36 (by omega)) (fun g36 => ?_)
            refine y_ld (x := iv (2000 + mcd c1)) rfl rfl (fun d => rfl) ?_
            refine y_si rfl rfl (by decide) ?_
            refine y_sub (z := (mcd c1)) rfl rfl (by omega) ?_
            refine y_go rfl rfl ?_
            refine y_st (lv' := [(3, iv (mcd c1)), (6, iv (2000 + mcd c1)), (0, .ref 170), (1, iv f), (2, iv e), (4, iv s), (5, iv (p : Int))]) rfl rfl (fun d => rfl) ?_
            refine y_ic rfl rfl ?_
            refine y_st (lv' := [(4, iv 0), (3, iv (mcd c1)), (6, iv (2000 + mcd c1)), (0, .ref 170), (1, iv f), (2, iv e), (5, iv (p : Int))]) rfl rfl (fun d => rfl) ?_
            refine y_ld (x := iv (2000 + mcd c1)) rfl rfl (fun d => rfl) ?_
            refine y_si rfl rfl (by decide) ?_
            refine y_jlt rfl rfl rfl (by omega) (fun g37 => ?_) (fun g37 => absurd g37 (by omega))
            refine y_inc (z := ((p + 1 : Nat) : Int)) (lv' := [(5, iv ((p + 1 : Nat) : Int)), (4, iv 0), (3, iv (mcd c1)), (6, iv (2000 + mcd c1)), (0, .ref 170), (1, iv f), (2, iv e)]) rfl rfl rfl (by omega) rfl ?_
            refine y_go rfl rfl ?_
            refine y_lv (l' := [(0, .ref 170), (1, iv f), (2, iv e), (3, iv (mcd c1)), (4, iv 0), (5, iv ((p + 1 : Nat) : Int))]) rfl ⟨rfl, rfl, rfl, rfl, rfl, rfl, trivial⟩ ?_
            have en : ∀ k, k ≠ A → (v_up W A (B + (z_pl (c0 - 104) a h).toNat) (wr s)) k = W k := fun k hk => v_up_ne hk
            have er : (v_up W A (B + (z_pl (c0 - 104) a h).toNat) (wr s)) A = v_uf (W A) (B + (z_pl (c0 - 104) a h).toNat) (wr s) := v_up_row _ _ _ _
            have ez : zm ((v_up W A (B + (z_pl (c0 - 104) a h).toNat) (wr s)) A) B = v_uf (zm (W A) B) (z_pl (c0 - 104) a h).toNat (wr s) := by rw [er, zm_uf]
            have hμ1 : muO (zm ((v_up W A (B + (z_pl (c0 - 104) a h).toNat) (wr s)) A) B) := by
              rw [ez]
              intro q hq
              unfold v_uf
              split
              · exact wr_rg _
              · exact hμr q hq
            refine y_mono (ih (p + 1) (some c1) 0 y R (v_up W A (B + (z_pl (c0 - 104) a h).toNat) (wr s)) (by omega) (EvM_r hE (fun i _ _ => congrFun (en _ (by omega)) i)) (PkM_r hP (fun i _ _ => congrFun (en _ (by omega)) i)) hμ1 (SG_c (en _ (by omega)) hL.2) (by omega) hc5 hor (fun q => by cases q) (fun q hq => by cases hq; exact hc4) ?_) (by omega)
            rw [ez, er, zi_uf (by omega), v_up_ur, v_ur_ur]
            exact hx2
        · have hT1 := hT t List.mem_cons_self
          have hTr : smO T := fun q hq => hT q (List.mem_cons_of_mem _ hq)
          have hL1 : W 173 p = encM1 t := hL.1
          have hL2 : SG W 173 (p + 1) (T.map encM1 ++ encA R) := hL.2
          rw [List.map_cons, List.cons_append] at hn hm1
          simp only [List.length_cons] at hn hm1
          by_cases h256 : t < 256
          · have hTt : tcd (t) := by have q := hT1; unfold raw at q; rwa [if_pos h256] at q
            have hmt := mcd_rg hTt
            have hv := eV_rg hμr hTt hpk
            refine y_ld (x := .ref 170) rfl rfl (fun d => rfl) ?_
            refine y_gR (i := 4) rfl rfl rfl (md170 hM) rfl ?_
            refine y_ld (x := iv (p : Int)) rfl rfl (fun d => rfl) ?_
            refine y_ild (x := (3000 + mcd (t))) (q := p) rfl rfl (md173 hM) (by omega) (by decide) (by omega) (hL1.trans (if_pos h256)) ?_
            refine y_st (lv' := [(6, iv (3000 + mcd (t))), (0, .ref 170), (1, iv f), (2, iv e), (3, iv (mcd c0)), (4, iv s), (5, iv (p : Int))]) rfl rfl (fun d => rfl) ?_
            refine y_ld (x := iv (3000 + mcd (t))) rfl rfl (fun d => rfl) ?_
            refine y_si rfl rfl (by decide) ?_
            refine y_jge rfl rfl rfl (by omega) (fun g38 => absurd g38 (by omega)) (fun g38 => ?_)
            refine y_ld (x := iv (3000 + mcd (t))) rfl rfl (fun d => rfl) ?_
            refine y_si rfl rfl (by decide) ?_
            refine y_jge rfl rfl rfl (by omega) (fun g39 => ?_) (fun g39 => absurd g39 (by omega))
            refine y_ld (x := iv s) rfl rfl (fun d => rfl) ?_
            refine y_ld (x := iv (3000 + mcd (t))) rfl rfl (fun d => rfl) ?_
            refine y_si rfl rfl (by decide) ?_
            refine y_jlt rfl rfl rfl (by omega) (fun g40 => ?_) (fun g40 => absurd g40 (by omega))
            refine y_ld (x := .ref 170) rfl rfl (fun d => rfl) ?_
            refine y_ld (x := iv (3000 + mcd (t))) rfl rfl (fun d => rfl) ?_
            refine y_si rfl rfl (by decide) ?_
            refine y_sub (z := (mcd t)) rfl rfl (by omega) ?_
            refine y_cV (as := [.ref 170, iv (mcd t)]) rfl rfl rfl rfl rfl (md170 hM) ⟨rfl, (Nat.le_of_ble_eq_true rfl), (Nat.le_of_ble_eq_true rfl)⟩ (by decide) (ct_value (x := t) hM hE hP hpk hTt ?_)
            refine y_nv ?_
            refine y_add (z := (s + (eV (zm (W A) B) a h κ n t))) rfl rfl rfl ?_
            refine y_st (lv' := [(4, iv (s + (eV (zm (W A) B) a h κ n t))), (6, iv (3000 + mcd (t))), (0, .ref 170), (1, iv f), (2, iv e), (3, iv (mcd c0)), (5, iv (p : Int))]) rfl rfl (fun d => rfl) ?_
            refine y_inc (z := ((p + 1 : Nat) : Int)) (lv' := [(5, iv ((p + 1 : Nat) : Int)), (4, iv (s + (eV (zm (W A) B) a h κ n t))), (6, iv (3000 + mcd (t))), (0, .ref 170), (1, iv f), (2, iv e), (3, iv (mcd c0))]) rfl rfl rfl (by omega) rfl ?_
            refine y_go rfl rfl ?_
            refine y_lv (l' := [(0, .ref 170), (1, iv f), (2, iv e), (3, iv (mcd c0)), (4, iv (s + (eV (zm (W A) B) a h κ n t))), (5, iv ((p + 1 : Nat) : Int))]) rfl ⟨rfl, rfl, rfl, rfl, rfl, rfl, trivial⟩ ?_
            have es : s + (eV (zm (W A) B) a h κ n t) = eS1 (zm (W A) B) a h κ n s t := by
              unfold eS1
              rw [if_pos h256]
            rw [es]
            exact y_mono (ih (p + 1) (some c0) _ T R W (by omega) hE hP hμr hL2 (by omega) hTr ho (fun q => by cases q) hPd hx2) (by omega)
          · have hTt : tcd (t - 256) := by have q := hT1; unfold raw at q; rwa [if_neg h256] at q
            have hmt := mcd_rg hTt
            have hv := eV_rg hμr hTt hpk
            refine y_ld (x := .ref 170) rfl rfl (fun d => rfl) ?_
            refine y_gR (i := 4) rfl rfl rfl (md170 hM) rfl ?_
            refine y_ld (x := iv (p : Int)) rfl rfl (fun d => rfl) ?_
            refine y_ild (x := (4000 + mcd (t - 256))) (q := p) rfl rfl (md173 hM) (by omega) (by decide) (by omega) (hL1.trans (if_neg h256)) ?_
            refine y_st (lv' := [(6, iv (4000 + mcd (t - 256))), (0, .ref 170), (1, iv f), (2, iv e), (3, iv (mcd c0)), (4, iv s), (5, iv (p : Int))]) rfl rfl (fun d => rfl) ?_
            refine y_ld (x := iv (4000 + mcd (t - 256))) rfl rfl (fun d => rfl) ?_
            refine y_si rfl rfl (by decide) ?_
            refine y_jge rfl rfl rfl (by omega) (fun g41 => absurd g41 (by omega)) (fun g41 => ?_)
            refine y_ld (x := iv (4000 + mcd (t - 256))) rfl rfl (fun d => rfl) ?_
            refine y_si rfl rfl (by decide) ?_
            refine y_jge rfl rfl rfl (by omega) (fun g42 => ?_) (fun g42 => absurd g42 (by omega))
            refine y_ld (x := iv s) rfl rfl (fun d => rfl) ?_
            refine y_ld (x := iv (4000 + mcd (t - 256))) rfl rfl (fun d => rfl) ?_
            refine y_si rfl rfl (by decide) ?_
            refine y_jlt rfl rfl rfl (by omega) (fun g43 => absurd g43 (by omega)) (fun g43 => ?_)
            refine y_ld (x := .ref 170) rfl rfl (fun d => rfl) ?_
            refine y_ld (x := iv (4000 + mcd (t - 256))) rfl rfl (fun d => rfl) ?_
            refine y_si rfl rfl (by decide) ?_
            refine y_sub (z := (mcd (t - 256))) rfl rfl (by omega) ?_
            refine y_cV (as := [.ref 170, iv (mcd (t - 256))]) rfl rfl rfl rfl rfl (md170 hM) ⟨rfl, (Nat.le_of_ble_eq_true rfl), (Nat.le_of_ble_eq_true rfl)⟩ (by decide) (ct_value (x := t - 256) hM hE hP hpk hTt ?_)
            refine y_nv ?_
            refine y_neg (z := (-(eV (zm (W A) B) a h κ n (t - 256)))) rfl rfl rfl ?_
            refine y_go rfl rfl ?_
            refine y_add (z := (s + (-(eV (zm (W A) B) a h κ n (t - 256))))) rfl rfl rfl ?_
            refine y_st (lv' := [(4, iv (s + (-(eV (zm (W A) B) a h κ n (t - 256))))), (6, iv (4000 + mcd (t - 256))), (0, .ref 170), (1, iv f), (2, iv e), (3, iv (mcd c0)), (5, iv (p : Int))]) rfl rfl (fun d => rfl) ?_
            refine y_inc (z := ((p + 1 : Nat) : Int)) (lv' := [(5, iv ((p + 1 : Nat) : Int)), (4, iv (s + (-(eV (zm (W A) B) a h κ n (t - 256))))), (6, iv (4000 + mcd (t - 256))), (0, .ref 170), (1, iv f), (2, iv e), (3, iv (mcd c0))]) rfl rfl rfl (by omega) rfl ?_
            refine y_go rfl rfl ?_
            refine y_lv (l' := [(0, .ref 170), (1, iv f), (2, iv e), (3, iv (mcd c0)), (4, iv (s + (-(eV (zm (W A) B) a h κ n (t - 256))))), (5, iv ((p + 1 : Nat) : Int))]) rfl ⟨rfl, rfl, rfl, rfl, rfl, rfl, trivial⟩ ?_
            have es : s + (-(eV (zm (W A) B) a h κ n (t - 256))) = eS1 (zm (W A) B) a h κ n s t := by
              unfold eS1
              rw [if_neg h256]
              omega
            rw [es]
            exact y_mono (ih (p + 1) (some c0) _ T R W (by omega) hE hP hμr hL2 (by omega) hTr ho (fun q => by cases q) hPd hx2) (by omega)
set_option maxRecDepth 100000 in
set_option maxHeartbeats 4000000 in
theorem ct_acts (hM : MdS S) {A B : Nat} {a h κ n : Int} (hpk : pkO a h κ n) (hA : A = 171 ∨ A = 178) {f e : Int} (hE : EvM V A B) (hP : PkM V a h κ n) (hμr : muO (zm (V A) B)) {p : Nat} {R : List p_Ac} (hL : SG V 173 p (encA R)) (hf : f = (p : Int)) (hn : (p : Int) + (encA R).length = e ∧ e ≤ 1600) (hll : (encA R).length < 200) (ho : acO R) (k : K u w (some (iv (eAr a h κ n R (zm (V A) B)).1)) S (v_ur V A (zi (V A) B (eAr a h κ n R (zm (V A) B)).2))) : y_R X 5 131 u w [.ref 170, iv f, iv e] S V K := by
  refine y_ent (lv' := [(0, .ref 170), (1, iv f), (2, iv e)]) (Nat.le_of_ble_eq_true rfl) rfl ?_
  refine y_ic rfl rfl ?_
  refine y_st (lv' := [(3, iv (-1)), (0, .ref 170), (1, iv f), (2, iv e)]) rfl rfl (fun d => rfl) ?_
  refine y_ic rfl rfl ?_
  refine y_st (lv' := [(4, iv 0), (3, iv (-1)), (0, .ref 170), (1, iv f), (2, iv e)]) rfl rfl (fun d => rfl) ?_
  refine y_ld (x := iv f) rfl rfl (fun d => rfl) ?_
  refine y_st (lv' := [(5, iv f), (4, iv 0), (3, iv (-1)), (0, .ref 170), (1, iv f), (2, iv e)]) rfl rfl (fun d => rfl) ?_
  refine y_lv (l' := [(0, .ref 170), (1, iv f), (2, iv e), (3, iv (pce none)), (4, iv 0), (5, iv (p : Int))]) rfl ⟨rfl, rfl, rfl, rfl, rfl, congrArg (fun e => some (iv e)) hf, trivial⟩ ?_
  exact y_mono (lp_mActs (F := 100) hM hpk hA 200 p none 0 [] R V hll hE hP hμr hL hn (fun q hq => by cases hq) ho (fun _ => rfl) (fun q hq => by cases hq) k) (by decide)
end
end
