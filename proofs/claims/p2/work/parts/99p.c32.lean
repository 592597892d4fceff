/-! as, the class -/
section
variable {X : Nat → List Int32} {u w : Nat} {S : m_H} {V : v_V} {K : v_K}
set_option maxRecDepth 100000 in
set_option maxHeartbeats 4000000 in
theorem cs_as (hC : ClF S) (hB : 0 ≤ V 1 5 ∧ V 1 5 ≤ 8) (hXa : X 2 = m_above) (h3X : X 3 = []) {x : Int} (hx : (-2147483648 ≤ x ∧ x < 2147483648)) {y : Int} (hy : (-2147483648 ≤ y ∧ y < 2147483648)) (hk : ∀ b : Nat, b < 8 → 0 ≤ V (10 + 6 * b) 1 ∧ V (10 + 6 * b) 1 ≤ 6) (k0 : ¬ (0 ≤ x ∧ x < V 1 5) → K u w (some (iv (-1))) S V) (k1 : 0 ≤ x ∧ x < V 1 5 → (y : Int) < 0 → K u w (some (iv (-1))) S V) (k2 : 0 ≤ x ∧ x < V 1 5 → ¬ ((y : Int) < 0) → (y : Int) < 7 → V (10 + 6 * x.toNat) 1 = 0 → ¬ ((0 : Int) ≥ 7) → (0 : Int) ≤ 0 → (0 : Int) ≠ y → K u w (some (iv (-6))) S V) (k3 : 0 ≤ x ∧ x < V 1 5 → ¬ ((y : Int) < 0) → (y : Int) < 7 → V (10 + 6 * x.toNat) 1 = 0 → ¬ ((0 : Int) ≥ 7) → (0 : Int) ≤ 0 → ¬ ((0 : Int) ≠ y) → K u w (some (iv (V (10 + 6 * x.toNat) 2))) S V) (k4 : 0 ≤ x ∧ x < V 1 5 → ¬ ((y : Int) < 0) → (y : Int) < 7 → V (10 + 6 * x.toNat) 1 = 1 → ¬ ((0 : Int) ≥ 7) → ¬ ((1 : Int) ≤ 0) → (1 : Int) = y → (1 : Int) ≠ y → K u w (some (iv (-6))) S V) (k5 : 0 ≤ x ∧ x < V 1 5 → ¬ ((y : Int) < 0) → (y : Int) < 7 → V (10 + 6 * x.toNat) 1 = 1 → ¬ ((0 : Int) ≥ 7) → ¬ ((1 : Int) ≤ 0) → (1 : Int) = y → ¬ ((1 : Int) ≠ y) → K u w (some (iv (V (10 + 6 * x.toNat) 2))) S V) (k6 : 0 ≤ x ∧ x < V 1 5 → ¬ ((y : Int) < 0) → (y : Int) < 7 → V (10 + 6 * x.toNat) 1 = 1 → ¬ ((0 : Int) ≥ 7) → ¬ ((1 : Int) ≤ 0) → ¬ ((1 : Int) = y) → ¬ ((1 : Int) ≥ 7) → (0 : Int) ≤ 0 → (0 : Int) ≠ y → K u w (some (iv (-6))) S V) (k7 : 0 ≤ x ∧ x < V 1 5 → ¬ ((y : Int) < 0) → (y : Int) < 7 → V (10 + 6 * x.toNat) 1 = 1 → ¬ ((0 : Int) ≥ 7) → ¬ ((1 : Int) ≤ 0) → ¬ ((1 : Int) = y) → ¬ ((1 : Int) ≥ 7) → (0 : Int) ≤ 0 → ¬ ((0 : Int) ≠ y) → K u w (some (iv (V (10 + 6 * x.toNat) 2))) S V) (k8 : 0 ≤ x ∧ x < V 1 5 → ¬ ((y : Int) < 0) → (y : Int) < 7 → V (10 + 6 * x.toNat) 1 = 2 → ¬ ((0 : Int) ≥ 7) → ¬ ((2 : Int) ≤ 0) → (2 : Int) = y → (2 : Int) ≠ y → K u w (some (iv (-6))) S V) (k9 : 0 ≤ x ∧ x < V 1 5 → ¬ ((y : Int) < 0) → (y : Int) < 7 → V (10 + 6 * x.toNat) 1 = 2 → ¬ ((0 : Int) ≥ 7) → ¬ ((2 : Int) ≤ 0) → (2 : Int) = y → ¬ ((2 : Int) ≠ y) → K u w (some (iv (V (10 + 6 * x.toNat) 2))) S V) (k10 : 0 ≤ x ∧ x < V 1 5 → ¬ ((y : Int) < 0) → (y : Int) < 7 → V (10 + 6 * x.toNat) 1 = 2 → ¬ ((0 : Int) ≥ 7) → ¬ ((2 : Int) ≤ 0) → ¬ ((2 : Int) = y) → ¬ ((1 : Int) ≥ 7) → (0 : Int) ≤ 0 → (0 : Int) ≠ y → K u w (some (iv (-6))) S V) (k11 : 0 ≤ x ∧ x < V 1 5 → ¬ ((y : Int) < 0) → (y : Int) < 7 → V (10 + 6 * x.toNat) 1 = 2 → ¬ ((0 : Int) ≥ 7) → ¬ ((2 : Int) ≤ 0) → ¬ ((2 : Int) = y) → ¬ ((1 : Int) ≥ 7) → (0 : Int) ≤ 0 → ¬ ((0 : Int) ≠ y) → K u w (some (iv (V (10 + 6 * x.toNat) 2))) S V) (k12 : 0 ≤ x ∧ x < V 1 5 → ¬ ((y : Int) < 0) → (y : Int) < 7 → V (10 + 6 * x.toNat) 1 = 3 → ¬ ((0 : Int) ≥ 7) → ¬ ((3 : Int) ≤ 0) → (3 : Int) = y → (3 : Int) ≠ y → K u w (some (iv (-6))) S V) (k13 : 0 ≤ x ∧ x < V 1 5 → ¬ ((y : Int) < 0) → (y : Int) < 7 → V (10 + 6 * x.toNat) 1 = 3 → ¬ ((0 : Int) ≥ 7) → ¬ ((3 : Int) ≤ 0) → (3 : Int) = y → ¬ ((3 : Int) ≠ y) → K u w (some (iv (V (10 + 6 * x.toNat) 2))) S V) (k14 : 0 ≤ x ∧ x < V 1 5 → ¬ ((y : Int) < 0) → (y : Int) < 7 → V (10 + 6 * x.toNat) 1 = 3 → ¬ ((0 : Int) ≥ 7) → ¬ ((3 : Int) ≤ 0) → ¬ ((3 : Int) = y) → ¬ ((1 : Int) ≥ 7) → (0 : Int) ≤ 0 → (0 : Int) ≠ y → K u w (some (iv (-6))) S V) (k15 : 0 ≤ x ∧ x < V 1 5 → ¬ ((y : Int) < 0) → (y : Int) < 7 → V (10 + 6 * x.toNat) 1 = 3 → ¬ ((0 : Int) ≥ 7) → ¬ ((3 : Int) ≤ 0) → ¬ ((3 : Int) = y) → ¬ ((1 : Int) ≥ 7) → (0 : Int) ≤ 0 → ¬ ((0 : Int) ≠ y) → K u w (some (iv (V (10 + 6 * x.toNat) 2))) S V) (k16 : 0 ≤ x ∧ x < V 1 5 → ¬ ((y : Int) < 0) → (y : Int) < 7 → V (10 + 6 * x.toNat) 1 = 4 → ¬ ((0 : Int) ≥ 7) → ¬ ((4 : Int) ≤ 0) → (4 : Int) = y → (4 : Int) ≠ y → K u w (some (iv (-6))) S V) (k17 : 0 ≤ x ∧ x < V 1 5 → ¬ ((y : Int) < 0) → (y : Int) < 7 → V (10 + 6 * x.toNat) 1 = 4 → ¬ ((0 : Int) ≥ 7) → ¬ ((4 : Int) ≤ 0) → (4 : Int) = y → ¬ ((4 : Int) ≠ y) → K u w (some (iv (V (10 + 6 * x.toNat) 2))) S V) (k18 : 0 ≤ x ∧ x < V 1 5 → ¬ ((y : Int) < 0) → (y : Int) < 7 → V (10 + 6 * x.toNat) 1 = 4 → ¬ ((0 : Int) ≥ 7) → ¬ ((4 : Int) ≤ 0) → ¬ ((4 : Int) = y) → ¬ ((1 : Int) ≥ 7) → ¬ ((1 : Int) ≤ 0) → (1 : Int) = y → (1 : Int) ≠ y → K u w (some (iv (-6))) S V) (k19 : 0 ≤ x ∧ x < V 1 5 → ¬ ((y : Int) < 0) → (y : Int) < 7 → V (10 + 6 * x.toNat) 1 = 4 → ¬ ((0 : Int) ≥ 7) → ¬ ((4 : Int) ≤ 0) → ¬ ((4 : Int) = y) → ¬ ((1 : Int) ≥ 7) → ¬ ((1 : Int) ≤ 0) → (1 : Int) = y → ¬ ((1 : Int) ≠ y) → K u w (some (iv (V (10 + 6 * x.toNat) 2))) S V) (k20 : 0 ≤ x ∧ x < V 1 5 → ¬ ((y : Int) < 0) → (y : Int) < 7 → V (10 + 6 * x.toNat) 1 = 4 → ¬ ((0 : Int) ≥ 7) → ¬ ((4 : Int) ≤ 0) → ¬ ((4 : Int) = y) → ¬ ((1 : Int) ≥ 7) → ¬ ((1 : Int) ≤ 0) → ¬ ((1 : Int) = y) → ¬ ((2 : Int) ≥ 7) → (0 : Int) ≤ 0 → (0 : Int) ≠ y → K u w (some (iv (-6))) S V) (k21 : 0 ≤ x ∧ x < V 1 5 → ¬ ((y : Int) < 0) → (y : Int) < 7 → V (10 + 6 * x.toNat) 1 = 4 → ¬ ((0 : Int) ≥ 7) → ¬ ((4 : Int) ≤ 0) → ¬ ((4 : Int) = y) → ¬ ((1 : Int) ≥ 7) → ¬ ((1 : Int) ≤ 0) → ¬ ((1 : Int) = y) → ¬ ((2 : Int) ≥ 7) → (0 : Int) ≤ 0 → ¬ ((0 : Int) ≠ y) → K u w (some (iv (V (10 + 6 * x.toNat) 2))) S V) (k22 : 0 ≤ x ∧ x < V 1 5 → ¬ ((y : Int) < 0) → (y : Int) < 7 → V (10 + 6 * x.toNat) 1 = 5 → ¬ ((0 : Int) ≥ 7) → ¬ ((5 : Int) ≤ 0) → (5 : Int) = y → (5 : Int) ≠ y → K u w (some (iv (-6))) S V) (k23 : 0 ≤ x ∧ x < V 1 5 → ¬ ((y : Int) < 0) → (y : Int) < 7 → V (10 + 6 * x.toNat) 1 = 5 → ¬ ((0 : Int) ≥ 7) → ¬ ((5 : Int) ≤ 0) → (5 : Int) = y → ¬ ((5 : Int) ≠ y) → K u w (some (iv (V (10 + 6 * x.toNat) 2))) S V) (k24 : 0 ≤ x ∧ x < V 1 5 → ¬ ((y : Int) < 0) → (y : Int) < 7 → V (10 + 6 * x.toNat) 1 = 5 → ¬ ((0 : Int) ≥ 7) → ¬ ((5 : Int) ≤ 0) → ¬ ((5 : Int) = y) → ¬ ((1 : Int) ≥ 7) → ¬ ((3 : Int) ≤ 0) → (3 : Int) = y → (3 : Int) ≠ y → K u w (some (iv (-6))) S V) (k25 : 0 ≤ x ∧ x < V 1 5 → ¬ ((y : Int) < 0) → (y : Int) < 7 → V (10 + 6 * x.toNat) 1 = 5 → ¬ ((0 : Int) ≥ 7) → ¬ ((5 : Int) ≤ 0) → ¬ ((5 : Int) = y) → ¬ ((1 : Int) ≥ 7) → ¬ ((3 : Int) ≤ 0) → (3 : Int) = y → ¬ ((3 : Int) ≠ y) → K u w (some (iv (V (10 + 6 * x.toNat) 2))) S V) (k26 : 0 ≤ x ∧ x < V 1 5 → ¬ ((y : Int) < 0) → (y : Int) < 7 → V (10 + 6 * x.toNat) 1 = 5 → ¬ ((0 : Int) ≥ 7) → ¬ ((5 : Int) ≤ 0) → ¬ ((5 : Int) = y) → ¬ ((1 : Int) ≥ 7) → ¬ ((3 : Int) ≤ 0) → ¬ ((3 : Int) = y) → ¬ ((2 : Int) ≥ 7) → (0 : Int) ≤ 0 → (0 : Int) ≠ y → K u w (some (iv (-6))) S V) (k27 : 0 ≤ x ∧ x < V 1 5 → ¬ ((y : Int) < 0) → (y : Int) < 7 → V (10 + 6 * x.toNat) 1 = 5 → ¬ ((0 : Int) ≥ 7) → ¬ ((5 : Int) ≤ 0) → ¬ ((5 : Int) = y) → ¬ ((1 : Int) ≥ 7) → ¬ ((3 : Int) ≤ 0) → ¬ ((3 : Int) = y) → ¬ ((2 : Int) ≥ 7) → (0 : Int) ≤ 0 → ¬ ((0 : Int) ≠ y) → K u w (some (iv (V (10 + 6 * x.toNat) 2))) S V) (k28 : 0 ≤ x ∧ x < V 1 5 → ¬ ((y : Int) < 0) → (y : Int) < 7 → V (10 + 6 * x.toNat) 1 = 6 → ¬ ((0 : Int) ≥ 7) → ¬ ((6 : Int) ≤ 0) → (6 : Int) = y → (6 : Int) ≠ y → K u w (some (iv (-6))) S V) (k29 : 0 ≤ x ∧ x < V 1 5 → ¬ ((y : Int) < 0) → (y : Int) < 7 → V (10 + 6 * x.toNat) 1 = 6 → ¬ ((0 : Int) ≥ 7) → ¬ ((6 : Int) ≤ 0) → (6 : Int) = y → ¬ ((6 : Int) ≠ y) → K u w (some (iv (V (10 + 6 * x.toNat) 2))) S V) (k30 : 0 ≤ x ∧ x < V 1 5 → ¬ ((y : Int) < 0) → (y : Int) < 7 → V (10 + 6 * x.toNat) 1 = 6 → ¬ ((0 : Int) ≥ 7) → ¬ ((6 : Int) ≤ 0) → ¬ ((6 : Int) = y) → ¬ ((1 : Int) ≥ 7) → (0 : Int) ≤ 0 → (0 : Int) ≠ y → K u w (some (iv (-6))) S V) (k31 : 0 ≤ x ∧ x < V 1 5 → ¬ ((y : Int) < 0) → (y : Int) < 7 → V (10 + 6 * x.toNat) 1 = 6 → ¬ ((0 : Int) ≥ 7) → ¬ ((6 : Int) ≤ 0) → ¬ ((6 : Int) = y) → ¬ ((1 : Int) ≥ 7) → (0 : Int) ≤ 0 → ¬ ((0 : Int) ≠ y) → K u w (some (iv (V (10 + 6 * x.toNat) 2))) S V) (k32 : 0 ≤ x ∧ x < V 1 5 → ¬ ((y : Int) < 0) → ¬ ((y : Int) < 7) → K u w (some (iv (-1))) S V) : y_R X 2 93 u w [.ref 0, iv x, iv y] S V K := by
  refine y_ent (lv' := [(0, .ref 0), (1, iv x), (2, iv y)]) (Nat.le_of_ble_eq_true rfl) rfl ?_
  refine y_ld (x := .ref 0) rfl rfl (fun d => rfl) ?_
  refine y_gR (i := 0) rfl rfl rfl (hC 0 _ _ rfl) rfl ?_
  refine y_ld (x := iv x) rfl rfl (fun d => rfl) ?_
  refine y_cV (as := [.ref 1, iv x]) rfl rfl rfl rfl rfl (hC 1 _ _ rfl) ⟨rfl, (Nat.le_of_ble_eq_true rfl), (Nat.le_of_ble_eq_true rfl)⟩ (by decide) (cb_boxAt (x := x) hC hB (by omega) (fun gb1 => ?_) (fun gb1 => ?_))
  · refine y_nv ?_
    refine y_st (lv' := [(3, .null), (0, .ref 0), (1, iv x), (2, iv y)]) rfl rfl (fun d => rfl) ?_
    refine y_ld (x := .null) rfl rfl (fun d => rfl) ?_
    refine y_in (pc' := 23) rfl rfl (fun d => rfl) ?_
    refine y_ic rfl rfl ?_
    refine y_rI rfl (Or.inl rfl) ?_
    exact k0 gb1
  · refine y_nv ?_
    refine y_st (lv' := [(3, .ref (10 + 6 * x.toNat)), (0, .ref 0), (1, iv x), (2, iv y)]) rfl rfl (fun d => rfl) ?_
    refine y_ld (x := .ref (10 + 6 * x.toNat)) rfl rfl (fun d => rfl) ?_
    refine y_in (pc' := 13) rfl rfl (fun d => rfl) ?_
    refine y_ld (x := iv y) rfl rfl (fun d => rfl) ?_
    refine y_zlt rfl rfl rfl (by omega) (fun g1 => ?_) (fun g1 => ?_)
    · refine y_ic rfl rfl ?_
      refine y_rI rfl (Or.inl rfl) ?_
      exact k1 gb1 (by omega)
    · refine y_ld (x := iv y) rfl rfl (fun d => rfl) ?_
      refine y_bi rfl rfl (by decide) ?_
      refine y_jlt rfl rfl rfl (by omega) (fun g2 => ?_) (fun g2 => ?_)
      · refine y_ld (x := .ref (10 + 6 * x.toNat)) rfl rfl (fun d => rfl) ?_
        refine y_gI (i := 1) (e := (V (10 + 6 * x.toNat) 1)) rfl rfl rfl (bx_ob hC (i := x.toNat) (by omega)) rfl rfl ?_
        refine y_st (lv' := [(4, iv (V (10 + 6 * x.toNat) 1)), (3, .ref (10 + 6 * x.toNat)), (0, .ref 0), (1, iv x), (2, iv y)]) rfl rfl (fun d => rfl) ?_
        have hkx := hk x.toNat (by omega)
        rcases (show V (10 + 6 * x.toNat) 1 = 0 ∨ V (10 + 6 * x.toNat) 1 = 1 ∨ V (10 + 6 * x.toNat) 1 = 2 ∨ V (10 + 6 * x.toNat) 1 = 3 ∨ V (10 + 6 * x.toNat) 1 = 4 ∨ V (10 + 6 * x.toNat) 1 = 5 ∨ V (10 + 6 * x.toNat) 1 = 6 by omega) with hq | hq | hq | hq | hq | hq | hq
        · refine y_lv (l' := [(3, .ref (10 + 6 * x.toNat)), (0, .ref 0), (1, iv x), (2, iv y), (4, iv 0)]) rfl ⟨rfl, rfl, rfl, rfl, congrArg (fun e => some (iv e)) hq, trivial⟩ ?_
          refine y_ic rfl rfl ?_
          refine y_st (lv' := [(5, iv 0), (3, .ref (10 + 6 * x.toNat)), (0, .ref 0), (1, iv x), (2, iv y), (4, iv 0)]) rfl rfl (fun d => rfl) ?_
          refine y_ld (x := iv 0) rfl rfl (fun d => rfl) ?_
          refine y_bi rfl rfl (by decide) ?_
          refine y_jge rfl rfl rfl (by decide) (fun g3 => absurd g3 (by decide)) (fun g3 => ?_)
          refine y_ld (x := iv 0) rfl rfl (fun d => rfl) ?_
          refine y_zle rfl rfl rfl (by decide) (fun g4 => ?_) (fun g4 => absurd g4 (by decide))
          refine y_ld (x := iv 0) rfl rfl (fun d => rfl) ?_
          refine y_ld (x := iv y) rfl rfl (fun d => rfl) ?_
          refine y_jne rfl rfl rfl (by omega) (fun g5 => ?_) (fun g5 => ?_)
          · refine y_bi rfl rfl (by decide) ?_
            refine y_rI rfl (Or.inl rfl) ?_
            exact k2 gb1 (by omega) (by omega) hq (by omega) (by omega) (by omega)
          · refine y_ld (x := .ref (10 + 6 * x.toNat)) rfl rfl (fun d => rfl) ?_
            refine y_gI (i := 2) (e := (V (10 + 6 * x.toNat) 2)) rfl rfl rfl (bx_ob hC (i := x.toNat) (by omega)) rfl rfl ?_
            refine y_go rfl rfl ?_
            refine y_rI rfl (Or.inl rfl) ?_
            exact k3 gb1 (by omega) (by omega) hq (by omega) (by omega) (by omega)
        · refine y_lv (l' := [(3, .ref (10 + 6 * x.toNat)), (0, .ref 0), (1, iv x), (2, iv y), (4, iv 1)]) rfl ⟨rfl, rfl, rfl, rfl, congrArg (fun e => some (iv e)) hq, trivial⟩ ?_
          refine y_ic rfl rfl ?_
          refine y_st (lv' := [(5, iv 0), (3, .ref (10 + 6 * x.toNat)), (0, .ref 0), (1, iv x), (2, iv y), (4, iv 1)]) rfl rfl (fun d => rfl) ?_
          refine y_ld (x := iv 0) rfl rfl (fun d => rfl) ?_
          refine y_bi rfl rfl (by decide) ?_
          refine y_jge rfl rfl rfl (by decide) (fun g6 => absurd g6 (by decide)) (fun g6 => ?_)
          refine y_ld (x := iv 1) rfl rfl (fun d => rfl) ?_
          refine y_zle rfl rfl rfl (by decide) (fun g7 => absurd g7 (by decide)) (fun g7 => ?_)
          refine y_ld (x := iv 1) rfl rfl (fun d => rfl) ?_
          refine y_ld (x := iv y) rfl rfl (fun d => rfl) ?_
          refine y_jeq rfl rfl rfl (by omega) (fun g8 => ?_) (fun g8 => ?_)
          · refine y_ld (x := iv 1) rfl rfl (fun d => rfl) ?_
            refine y_ld (x := iv y) rfl rfl (fun d => rfl) ?_
            refine y_jne rfl rfl rfl (by omega) (fun g9 => ?_) (fun g9 => ?_)
            · refine y_bi rfl rfl (by decide) ?_
              refine y_rI rfl (Or.inl rfl) ?_
              exact k4 gb1 (by omega) (by omega) hq (by omega) (by omega) (by omega) (by omega)
            · refine y_ld (x := .ref (10 + 6 * x.toNat)) rfl rfl (fun d => rfl) ?_
              refine y_gI (i := 2) (e := (V (10 + 6 * x.toNat) 2)) rfl rfl rfl (bx_ob hC (i := x.toNat) (by omega)) rfl rfl ?_
              refine y_go rfl rfl ?_
              refine y_rI rfl (Or.inl rfl) ?_
              exact k5 gb1 (by omega) (by omega) hq (by omega) (by omega) (by omega) (by omega)
          · refine y_in rfl rfl (fun d => rfl) ?_
            refine y_ld (x := iv 1) rfl rfl (fun d => rfl) ?_
            refine y_sti (n := 2) (i := 1) (f := 0) rfl rfl hXa h3X (by decide) rfl rfl ?_
            refine y_st (lv' := [(4, iv 0), (5, iv 0), (3, .ref (10 + 6 * x.toNat)), (0, .ref 0), (1, iv x), (2, iv y)]) rfl rfl (fun d => rfl) ?_
            refine y_inc (z := 1) (lv' := [(5, iv 1), (4, iv 0), (3, .ref (10 + 6 * x.toNat)), (0, .ref 0), (1, iv x), (2, iv y)]) rfl rfl rfl rfl rfl ?_
            refine y_go rfl rfl ?_
            refine y_ld (x := iv 1) rfl rfl (fun d => rfl) ?_
            refine y_bi rfl rfl (by decide) ?_
            refine y_jge rfl rfl rfl (by decide) (fun g10 => absurd g10 (by decide)) (fun g10 => ?_)
            refine y_ld (x := iv 0) rfl rfl (fun d => rfl) ?_
            refine y_zle rfl rfl rfl (by decide) (fun g11 => ?_) (fun g11 => absurd g11 (by decide))
            refine y_ld (x := iv 0) rfl rfl (fun d => rfl) ?_
            refine y_ld (x := iv y) rfl rfl (fun d => rfl) ?_
            refine y_jne rfl rfl rfl (by omega) (fun g12 => ?_) (fun g12 => ?_)
            · refine y_bi rfl rfl (by decide) ?_
              refine y_rI rfl (Or.inl rfl) ?_
              exact k6 gb1 (by omega) (by omega) hq (by omega) (by omega) (by omega) (by omega) (by omega) (by omega)
            · refine y_ld (x := .ref (10 + 6 * x.toNat)) rfl rfl (fun d => rfl) ?_
              refine y_gI (i := 2) (e := (V (10 + 6 * x.toNat) 2)) rfl rfl rfl (bx_ob hC (i := x.toNat) (by omega)) rfl rfl ?_
              refine y_go rfl rfl ?_
              refine y_rI rfl (Or.inl rfl) ?_
              exact k7 gb1 (by omega) (by omega) hq (by omega) (by omega) (by omega) (by omega) (by omega) (by omega)
        · refine y_lv (l' := [(3, .ref (10 + 6 * x.toNat)), (0, .ref 0), (1, iv x), (2, iv y), (4, iv 2)]) rfl ⟨rfl, rfl, rfl, rfl, congrArg (fun e => some (iv e)) hq, trivial⟩ ?_
          refine y_ic rfl rfl ?_
          refine y_st (lv' := [(5, iv 0), (3, .ref (10 + 6 * x.toNat)), (0, .ref 0), (1, iv x), (2, iv y), (4, iv 2)]) rfl rfl (fun d => rfl) ?_
          refine y_ld (x := iv 0) rfl rfl (fun d => rfl) ?_
          refine y_bi rfl rfl (by decide) ?_
          refine y_jge rfl rfl rfl (by decide) (fun g13 => absurd g13 (by decide)) (fun g13 => ?_)
          refine y_ld (x := iv 2) rfl rfl (fun d => rfl) ?_
          refine y_zle rfl rfl rfl (by decide) (fun g14 => absurd g14 (by decide)) (fun g14 => ?_)
          refine y_ld (x := iv 2) rfl rfl (fun d => rfl) ?_
          refine y_ld (x := iv y) rfl rfl (fun d => rfl) ?_
          refine y_jeq rfl rfl rfl (by omega) (fun g15 => ?_) (fun g15 => ?_)
          · refine y_ld (x := iv 2) rfl rfl (fun d => rfl) ?_
            refine y_ld (x := iv y) rfl rfl (fun d => rfl) ?_
            refine y_jne rfl rfl rfl (by omega) (fun g16 => ?_) (fun g16 => ?_)
            · refine y_bi rfl rfl (by decide) ?_
              refine y_rI rfl (Or.inl rfl) ?_
              exact k8 gb1 (by omega) (by omega) hq (by omega) (by omega) (by omega) (by omega)
            · refine y_ld (x := .ref (10 + 6 * x.toNat)) rfl rfl (fun d => rfl) ?_
              refine y_gI (i := 2) (e := (V (10 + 6 * x.toNat) 2)) rfl rfl rfl (bx_ob hC (i := x.toNat) (by omega)) rfl rfl ?_
              refine y_go rfl rfl ?_
              refine y_rI rfl (Or.inl rfl) ?_
              exact k9 gb1 (by omega) (by omega) hq (by omega) (by omega) (by omega) (by omega)
          · refine y_in rfl rfl (fun d => rfl) ?_
            refine y_ld (x := iv 2) rfl rfl (fun d => rfl) ?_
            refine y_sti (n := 2) (i := 2) (f := 0) rfl rfl hXa h3X (by decide) rfl rfl ?_
            refine y_st (lv' := [(4, iv 0), (5, iv 0), (3, .ref (10 + 6 * x.toNat)), (0, .ref 0), (1, iv x), (2, iv y)]) rfl rfl (fun d => rfl) ?_
            refine y_inc (z := 1) (lv' := [(5, iv 1), (4, iv 0), (3, .ref (10 + 6 * x.toNat)), (0, .ref 0), (1, iv x), (2, iv y)]) rfl rfl rfl rfl rfl ?_
            refine y_go rfl rfl ?_
            refine y_ld (x := iv 1) rfl rfl (fun d => rfl) ?_
            refine y_bi rfl rfl (by decide) ?_
            refine y_jge rfl rfl rfl (by decide) (fun g17 => absurd g17 (by decide)) (fun g17 => ?_)
            refine y_ld (x := iv 0) rfl rfl (fun d => rfl) ?_
            refine y_zle rfl rfl rfl (by decide) (fun g18 => ?_) (fun g18 => absurd g18 (by decide))
            refine y_ld (x := iv 0) rfl rfl (fun d => rfl) ?_
            refine y_ld (x := iv y) rfl rfl (fun d => rfl) ?_
            refine y_jne rfl rfl rfl (by omega) (fun g19 => ?_) (fun g19 => ?_)
            · refine y_bi rfl rfl (by decide) ?_
              refine y_rI rfl (Or.inl rfl) ?_
              exact k10 gb1 (by omega) (by omega) hq (by omega) (by omega) (by omega) (by omega) (by omega) (by omega)
            · refine y_ld (x := .ref (10 + 6 * x.toNat)) rfl rfl (fun d => rfl) ?_
              refine y_gI (i := 2) (e := (V (10 + 6 * x.toNat) 2)) rfl rfl rfl (bx_ob hC (i := x.toNat) (by omega)) rfl rfl ?_
              refine y_go rfl rfl ?_
              refine y_rI rfl (Or.inl rfl) ?_
              exact k11 gb1 (by omega) (by omega) hq (by omega) (by omega) (by omega) (by omega) (by omega) (by omega)
        · refine y_lv (l' := [(3, .ref (10 + 6 * x.toNat)), (0, .ref 0), (1, iv x), (2, iv y), (4, iv 3)]) rfl ⟨rfl, rfl, rfl, rfl, congrArg (fun e => some (iv e)) hq, trivial⟩ ?_
          refine y_ic rfl rfl ?_
          refine y_st (lv' := [(5, iv 0), (3, .ref (10 + 6 * x.toNat)), (0, .ref 0), (1, iv x), (2, iv y), (4, iv 3)]) rfl rfl (fun d => rfl) ?_
          refine y_ld (x := iv 0) rfl rfl (fun d => rfl) ?_
          refine y_bi rfl rfl (by decide) ?_
          refine y_jge rfl rfl rfl (by decide) (fun g20 => absurd g20 (by decide)) (fun g20 => ?_)
          refine y_ld (x := iv 3) rfl rfl (fun d => rfl) ?_
          refine y_zle rfl rfl rfl (by decide) (fun g21 => absurd g21 (by decide)) (fun g21 => ?_)
          refine y_ld (x := iv 3) rfl rfl (fun d => rfl) ?_
          refine y_ld (x := iv y) rfl rfl (fun d => rfl) ?_
          refine y_jeq rfl rfl rfl (by omega) (fun g22 => ?_) (fun g22 => ?_)
          · refine y_ld (x := iv 3) rfl rfl (fun d => rfl) ?_
            refine y_ld (x := iv y) rfl rfl (fun d => rfl) ?_
            refine y_jne rfl rfl rfl (by omega) (fun g23 => ?_) (fun g23 => ?_)
            · refine y_bi rfl rfl (by decide) ?_
              refine y_rI rfl (Or.inl rfl) ?_
              exact k12 gb1 (by omega) (by omega) hq (by omega) (by omega) (by omega) (by omega)
            · refine y_ld (x := .ref (10 + 6 * x.toNat)) rfl rfl (fun d => rfl) ?_
              refine y_gI (i := 2) (e := (V (10 + 6 * x.toNat) 2)) rfl rfl rfl (bx_ob hC (i := x.toNat) (by omega)) rfl rfl ?_
              refine y_go rfl rfl ?_
              refine y_rI rfl (Or.inl rfl) ?_
              exact k13 gb1 (by omega) (by omega) hq (by omega) (by omega) (by omega) (by omega)
          · refine y_in rfl rfl (fun d => rfl) ?_
            refine y_ld (x := iv 3) rfl rfl (fun d => rfl) ?_
            refine y_sti (n := 2) (i := 3) (f := 0) rfl rfl hXa h3X (by decide) rfl rfl ?_
            refine y_st (lv' := [(4, iv 0), (5, iv 0), (3, .ref (10 + 6 * x.toNat)), (0, .ref 0), (1, iv x), (2, iv y)]) rfl rfl (fun d => rfl) ?_
            refine y_inc (z := 1) (lv' := [(5, iv 1), (4, iv 0), (3, .ref (10 + 6 * x.toNat)), (0, .ref 0), (1, iv x), (2, iv y)]) rfl rfl rfl rfl rfl ?_
            refine y_go rfl rfl ?_
            refine y_ld (x := iv 1) rfl rfl (fun d => rfl) ?_
            refine y_bi rfl rfl (by decide) ?_
            refine y_jge rfl rfl rfl (by decide) (fun g24 => absurd g24 (by decide)) (fun g24 => ?_)
            refine y_ld (x := iv 0) rfl rfl (fun d => rfl) ?_
            refine y_zle rfl rfl rfl (by decide) (fun g25 => ?_) (fun g25 => absurd g25 (by decide))
            refine y_ld (x := iv 0) rfl rfl (fun d => rfl) ?_
            refine y_ld (x := iv y) rfl rfl (fun d => rfl) ?_
            refine y_jne rfl rfl rfl (by omega) (fun g26 => ?_) (fun g26 => ?_)
            · refine y_bi rfl rfl (by decide) ?_
              refine y_rI rfl (Or.inl rfl) ?_
              exact k14 gb1 (by omega) (by omega) hq (by omega) (by omega) (by omega) (by omega) (by omega) (by omega)
            · refine y_ld (x := .ref (10 + 6 * x.toNat)) rfl rfl (fun d => rfl) ?_
              refine y_gI (i := 2) (e := (V (10 + 6 * x.toNat) 2)) rfl rfl rfl (bx_ob hC (i := x.toNat) (by omega)) rfl rfl ?_
              refine y_go rfl rfl ?_
              refine y_rI rfl (Or.inl rfl) ?_
              exact k15 gb1 (by omega) (by omega) hq (by omega) (by omega) (by omega) (by omega) (by omega) (by omega)
        · refine y_lv (l' := [(3, .ref (10 + 6 * x.toNat)), (0, .ref 0), (1, iv x), (2, iv y), (4, iv 4)]) rfl ⟨rfl, rfl, rfl, rfl, congrArg (fun e => some (iv e)) hq, trivial⟩ ?_
          refine y_ic rfl rfl ?_
          refine y_st (lv' := [(5, iv 0), (3, .ref (10 + 6 * x.toNat)), (0, .ref 0), (1, iv x), (2, iv y), (4, iv 4)]) rfl rfl (fun d => rfl) ?_
          refine y_ld (x := iv 0) rfl rfl (fun d => rfl) ?_
          refine y_bi rfl rfl (by decide) ?_
          refine y_jge rfl rfl rfl (by decide) (fun g27 => absurd g27 (by decide)) (fun g27 => ?_)
          refine y_ld (x := iv 4) rfl rfl (fun d => rfl) ?_
          refine y_zle rfl rfl rfl (by decide) (fun g28 => absurd g28 (by decide)) (fun g28 => ?_)
          refine y_ld (x := iv 4) rfl rfl (fun d => rfl) ?_
          refine y_ld (x := iv y) rfl rfl (fun d => rfl) ?_
          refine y_jeq rfl rfl rfl (by omega) (fun g29 => ?_) (fun g29 => ?_)
          · refine y_ld (x := iv 4) rfl rfl (fun d => rfl) ?_
            refine y_ld (x := iv y) rfl rfl (fun d => rfl) ?_
            refine y_jne rfl rfl rfl (by omega) (fun g30 => ?_) (fun g30 => ?_)
            · refine y_bi rfl rfl (by decide) ?_
              refine y_rI rfl (Or.inl rfl) ?_
              exact k16 gb1 (by omega) (by omega) hq (by omega) (by omega) (by omega) (by omega)
            · refine y_ld (x := .ref (10 + 6 * x.toNat)) rfl rfl (fun d => rfl) ?_
              refine y_gI (i := 2) (e := (V (10 + 6 * x.toNat) 2)) rfl rfl rfl (bx_ob hC (i := x.toNat) (by omega)) rfl rfl ?_
              refine y_go rfl rfl ?_
              refine y_rI rfl (Or.inl rfl) ?_
              exact k17 gb1 (by omega) (by omega) hq (by omega) (by omega) (by omega) (by omega)
          · refine y_in rfl rfl (fun d => rfl) ?_
            refine y_ld (x := iv 4) rfl rfl (fun d => rfl) ?_
            refine y_sti (n := 2) (i := 4) (f := 1) rfl rfl hXa h3X (by decide) rfl rfl ?_
            refine y_st (lv' := [(4, iv 1), (5, iv 0), (3, .ref (10 + 6 * x.toNat)), (0, .ref 0), (1, iv x), (2, iv y)]) rfl rfl (fun d => rfl) ?_
            refine y_inc (z := 1) (lv' := [(5, iv 1), (4, iv 1), (3, .ref (10 + 6 * x.toNat)), (0, .ref 0), (1, iv x), (2, iv y)]) rfl rfl rfl rfl rfl ?_
            refine y_go rfl rfl ?_
            refine y_ld (x := iv 1) rfl rfl (fun d => rfl) ?_
            refine y_bi rfl rfl (by decide) ?_
            refine y_jge rfl rfl rfl (by decide) (fun g31 => absurd g31 (by decide)) (fun g31 => ?_)
            refine y_ld (x := iv 1) rfl rfl (fun d => rfl) ?_
            refine y_zle rfl rfl rfl (by decide) (fun g32 => absurd g32 (by decide)) (fun g32 => ?_)
            refine y_ld (x := iv 1) rfl rfl (fun d => rfl) ?_
            refine y_ld (x := iv y) rfl rfl (fun d => rfl) ?_
            refine y_jeq rfl rfl rfl (by omega) (fun g33 => ?_) (fun g33 => ?_)
            · refine y_ld (x := iv 1) rfl rfl (fun d => rfl) ?_
              refine y_ld (x := iv y) rfl rfl (fun d => rfl) ?_
              refine y_jne rfl rfl rfl (by omega) (fun g34 => ?_) (fun g34 => ?_)
              · refine y_bi rfl rfl (by decide) ?_
                refine y_rI rfl (Or.inl rfl) ?_
                exact k18 gb1 (by omega) (by omega) hq (by omega) (by omega) (by omega) (by omega) (by omega) (by omega) (by omega)
              · refine y_ld (x := .ref (10 + 6 * x.toNat)) rfl rfl (fun d => rfl) ?_
                refine y_gI (i := 2) (e := (V (10 + 6 * x.toNat) 2)) rfl rfl rfl (bx_ob hC (i := x.toNat) (by omega)) rfl rfl ?_
                refine y_go rfl rfl ?_
                refine y_rI rfl (Or.inl rfl) ?_
                exact k19 gb1 (by omega) (by omega) hq (by omega) (by omega) (by omega) (by omega) (by omega) (by omega) (by omega)
            · refine y_in rfl rfl (fun d => rfl) ?_
              refine y_ld (x := iv 1) rfl rfl (fun d => rfl) ?_
              refine y_sti (n := 2) (i := 1) (f := 0) rfl rfl hXa h3X (by decide) rfl rfl ?_
              refine y_st (lv' := [(4, iv 0), (5, iv 1), (3, .ref (10 + 6 * x.toNat)), (0, .ref 0), (1, iv x), (2, iv y)]) rfl rfl (fun d => rfl) ?_
              refine y_inc (z := 2) (lv' := [(5, iv 2), (4, iv 0), (3, .ref (10 + 6 * x.toNat)), (0, .ref 0), (1, iv x), (2, iv y)]) rfl rfl rfl rfl rfl ?_
              refine y_go rfl rfl ?_
              refine y_ld (x := iv 2) rfl rfl (fun d => rfl) ?_
              refine y_bi rfl rfl (by decide) ?_
              refine y_jge rfl rfl rfl (by decide) (fun g35 => absurd g35 (by decide)) (fun g35 => ?_)
              refine y_ld (x := iv 0) rfl rfl (fun d => rfl) ?_
              refine y_zle rfl rfl rfl (by decide) (fun g36 => ?_) (fun g36 => absurd g36 (by decide))
              refine y_ld (x := iv 0) rfl rfl (fun d => rfl) ?_
              refine y_ld (x := iv y) rfl rfl (fun d => rfl) ?_
              refine y_jne rfl rfl rfl (by omega) (fun g37 => ?_) (fun g37 => ?_)
              · refine y_bi rfl rfl (by decide) ?_
                refine y_rI rfl (Or.inl rfl) ?_
                exact k20 gb1 (by omega) (by omega) hq (by omega) (by omega) (by omega) (by omega) (by omega) (by omega) (by omega) (by omega) (by omega)
              · refine y_ld (x := .ref (10 + 6 * x.toNat)) rfl rfl (fun d => rfl) ?_
                refine y_gI (i := 2) (e := (V (10 + 6 * x.toNat) 2)) rfl rfl rfl (bx_ob hC (i := x.toNat) (by omega)) rfl rfl ?_
                refine y_go rfl rfl ?_
                refine y_rI rfl (Or.inl rfl) ?_
                exact k21 gb1 (by omega) (by omega) hq (by omega) (by omega) (by omega) (by omega) (by omega) (by omega) (by omega) (by omega) (by omega)
        · refine y_lv (l' := [(3, .ref (10 + 6 * x.toNat)), (0, .ref 0), (1, iv x), (2, iv y), (4, iv 5)]) rfl ⟨rfl, rfl, rfl, rfl, congrArg (fun e => some (iv e)) hq, trivial⟩ ?_
          refine y_ic rfl rfl ?_
          refine y_st (lv' := [(5, iv 0), (3, .ref (10 + 6 * x.toNat)), (0, .ref 0), (1, iv x), (2, iv y), (4, iv 5)]) rfl rfl (fun d => rfl) ?_
          refine y_ld (x := iv 0) rfl rfl (fun d => rfl) ?_
          refine y_bi rfl rfl (by decide) ?_
          refine y_jge rfl rfl rfl (by decide) (fun g38 => absurd g38 (by decide)) (fun g38 => ?_)
          refine y_ld (x := iv 5) rfl rfl (fun d => rfl) ?_
          refine y_zle rfl rfl rfl (by decide) (fun g39 => absurd g39 (by decide)) (fun g39 => ?_)
          refine y_ld (x := iv 5) rfl rfl (fun d => rfl) ?_
          refine y_ld (x := iv y) rfl rfl (fun d => rfl) ?_
          refine y_jeq rfl rfl rfl (by omega) (fun g40 => ?_) (fun g40 => ?_)
          · refine y_ld (x := iv 5) rfl rfl (fun d => rfl) ?_
            refine y_ld (x := iv y) rfl rfl (fun d => rfl) ?_
            refine y_jne rfl rfl rfl (by omega) (fun g41 => ?_) (fun g41 => ?_)
            · refine y_bi rfl rfl (by decide) ?_
              refine y_rI rfl (Or.inl rfl) ?_
              exact k22 gb1 (by omega) (by omega) hq (by omega) (by omega) (by omega) (by omega)
            · refine y_ld (x := .ref (10 + 6 * x.toNat)) rfl rfl (fun d => rfl) ?_
              refine y_gI (i := 2) (e := (V (10 + 6 * x.toNat) 2)) rfl rfl rfl (bx_ob hC (i := x.toNat) (by omega)) rfl rfl ?_
              refine y_go rfl rfl ?_
              refine y_rI rfl (Or.inl rfl) ?_
              exact k23 gb1 (by omega) (by omega) hq (by omega) (by omega) (by omega) (by omega)
          · refine y_in rfl rfl (fun d => rfl) ?_
            refine y_ld (x := iv 5) rfl rfl (fun d => rfl) ?_
            refine y_sti (n := 2) (i := 5) (f := 3) rfl rfl hXa h3X (by decide) rfl rfl ?_
            refine y_st (lv' := [(4, iv 3), (5, iv 0), (3, .ref (10 + 6 * x.toNat)), (0, .ref 0), (1, iv x), (2, iv y)]) rfl rfl (fun d => rfl) ?_
            refine y_inc (z := 1) (lv' := [(5, iv 1), (4, iv 3), (3, .ref (10 + 6 * x.toNat)), (0, .ref 0), (1, iv x), (2, iv y)]) rfl rfl rfl rfl rfl ?_
            refine y_go rfl rfl ?_
            refine y_ld (x := iv 1) rfl rfl (fun d => rfl) ?_
            refine y_bi rfl rfl (by decide) ?_
            refine y_jge rfl rfl rfl (by decide) (fun g42 => absurd g42 (by decide)) (fun g42 => ?_)
            refine y_ld (x := iv 3) rfl rfl (fun d => rfl) ?_
            refine y_zle rfl rfl rfl (by decide) (fun g43 => absurd g43 (by decide)) (fun g43 => ?_)
            refine y_ld (x := iv 3) rfl rfl (fun d => rfl) ?_
            refine y_ld (x := iv y) rfl rfl (fun d => rfl) ?_
            refine y_jeq rfl rfl rfl (by omega) (fun g44 => ?_) (fun g44 => ?_)
            · refine y_ld (x := iv 3) rfl rfl (fun d => rfl) ?_
              refine y_ld (x := iv y) rfl rfl (fun d => rfl) ?_
              refine y_jne rfl rfl rfl (by omega) (fun g45 => ?_) (fun g45 => ?_)
              · refine y_bi rfl rfl (by decide) ?_
                refine y_rI rfl (Or.inl rfl) ?_
                exact k24 gb1 (by omega) (by omega) hq (by omega) (by omega) (by omega) (by omega) (by omega) (by omega) (by omega)
              · refine y_ld (x := .ref (10 + 6 * x.toNat)) rfl rfl (fun d => rfl) ?_
                refine y_gI (i := 2) (e := (V (10 + 6 * x.toNat) 2)) rfl rfl rfl (bx_ob hC (i := x.toNat) (by omega)) rfl rfl ?_
                refine y_go rfl rfl ?_
                refine y_rI rfl (Or.inl rfl) ?_
                exact k25 gb1 (by omega) (by omega) hq (by omega) (by omega) (by omega) (by omega) (by omega) (by omega) (by omega)
            · refine y_in rfl rfl (fun d => rfl) ?_
              refine y_ld (x := iv 3) rfl rfl (fun d => rfl) ?_
              refine y_sti (n := 2) (i := 3) (f := 0) rfl rfl hXa h3X (by decide) rfl rfl ?_
              refine y_st (lv' := [(4, iv 0), (5, iv 1), (3, .ref (10 + 6 * x.toNat)), (0, .ref 0), (1, iv x), (2, iv y)]) rfl rfl (fun d => rfl) ?_
              refine y_inc (z := 2) (lv' := [(5, iv 2), (4, iv 0), (3, .ref (10 + 6 * x.toNat)), (0, .ref 0), (1, iv x), (2, iv y)]) rfl rfl rfl rfl rfl ?_
              refine y_go rfl rfl ?_
              refine y_ld (x := iv 2) rfl rfl (fun d => rfl) ?_
              refine y_bi rfl rfl (by decide) ?_
              refine y_jge rfl rfl rfl (by decide) (fun g46 => absurd g46 (by decide)) (fun g46 => ?_)
              refine y_ld (x := iv 0) rfl rfl (fun d => rfl) ?_
              refine y_zle rfl rfl rfl (by decide) (fun g47 => ?_) (fun g47 => absurd g47 (by decide))
              refine y_ld (x := iv 0) rfl rfl (fun d => rfl) ?_
              refine y_ld (x := iv y) rfl rfl (fun d => rfl) ?_
              refine y_jne rfl rfl rfl (by omega) (fun g48 => ?_) (fun g48 => ?_)
              · refine y_bi rfl rfl (by decide) ?_
                refine y_rI rfl (Or.inl rfl) ?_
                exact k26 gb1 (by omega) (by omega) hq (by omega) (by omega) (by omega) (by omega) (by omega) (by omega) (by omega) (by omega) (by omega)
              · refine y_ld (x := .ref (10 + 6 * x.toNat)) rfl rfl (fun d => rfl) ?_
                refine y_gI (i := 2) (e := (V (10 + 6 * x.toNat) 2)) rfl rfl rfl (bx_ob hC (i := x.toNat) (by omega)) rfl rfl ?_
                refine y_go rfl rfl ?_
                refine y_rI rfl (Or.inl rfl) ?_
                exact k27 gb1 (by omega) (by omega) hq (by omega) (by omega) (by omega) (by omega) (by omega) (by omega) (by omega) (by omega) (by omega)
        · refine y_lv (l' := [(3, .ref (10 + 6 * x.toNat)), (0, .ref 0), (1, iv x), (2, iv y), (4, iv 6)]) rfl ⟨rfl, rfl, rfl, rfl, congrArg (fun e => some (iv e)) hq, trivial⟩ ?_
          refine y_ic rfl rfl ?_
          refine y_st (lv' := [(5, iv 0), (3, .ref (10 + 6 * x.toNat)), (0, .ref 0), (1, iv x), (2, iv y), (4, iv 6)]) rfl rfl (fun d => rfl) ?_
          refine y_ld (x := iv 0) rfl rfl (fun d => rfl) ?_
          refine y_bi rfl rfl (by decide) ?_
          refine y_jge rfl rfl rfl (by decide) (fun g49 => absurd g49 (by decide)) (fun g49 => ?_)
          refine y_ld (x := iv 6) rfl rfl (fun d => rfl) ?_
          refine y_zle rfl rfl rfl (by decide) (fun g50 => absurd g50 (by decide)) (fun g50 => ?_)
          refine y_ld (x := iv 6) rfl rfl (fun d => rfl) ?_
          refine y_ld (x := iv y) rfl rfl (fun d => rfl) ?_
          refine y_jeq rfl rfl rfl (by omega) (fun g51 => ?_) (fun g51 => ?_)
          · refine y_ld (x := iv 6) rfl rfl (fun d => rfl) ?_
            refine y_ld (x := iv y) rfl rfl (fun d => rfl) ?_
            refine y_jne rfl rfl rfl (by omega) (fun g52 => ?_) (fun g52 => ?_)
            · refine y_bi rfl rfl (by decide) ?_
              refine y_rI rfl (Or.inl rfl) ?_
              exact k28 gb1 (by omega) (by omega) hq (by omega) (by omega) (by omega) (by omega)
            · refine y_ld (x := .ref (10 + 6 * x.toNat)) rfl rfl (fun d => rfl) ?_
              refine y_gI (i := 2) (e := (V (10 + 6 * x.toNat) 2)) rfl rfl rfl (bx_ob hC (i := x.toNat) (by omega)) rfl rfl ?_
              refine y_go rfl rfl ?_
              refine y_rI rfl (Or.inl rfl) ?_
              exact k29 gb1 (by omega) (by omega) hq (by omega) (by omega) (by omega) (by omega)
          · refine y_in rfl rfl (fun d => rfl) ?_
            refine y_ld (x := iv 6) rfl rfl (fun d => rfl) ?_
            refine y_sti (n := 2) (i := 6) (f := 0) rfl rfl hXa h3X (by decide) rfl rfl ?_
            refine y_st (lv' := [(4, iv 0), (5, iv 0), (3, .ref (10 + 6 * x.toNat)), (0, .ref 0), (1, iv x), (2, iv y)]) rfl rfl (fun d => rfl) ?_
            refine y_inc (z := 1) (lv' := [(5, iv 1), (4, iv 0), (3, .ref (10 + 6 * x.toNat)), (0, .ref 0), (1, iv x), (2, iv y)]) rfl rfl rfl rfl rfl ?_
            refine y_go rfl rfl ?_
            refine y_ld (x := iv 1) rfl rfl (fun d => rfl) ?_
            refine y_bi rfl rfl (by decide) ?_
            refine y_jge rfl rfl rfl (by decide) (fun g53 => absurd g53 (by decide)) (fun g53 => ?_)
            refine y_ld (x := iv 0) rfl rfl (fun d => rfl) ?_
            refine y_zle rfl rfl rfl (by decide) (fun g54 => ?_) (fun g54 => absurd g54 (by decide))
            refine y_ld (x := iv 0) rfl rfl (fun d => rfl) ?_
            refine y_ld (x := iv y) rfl rfl (fun d => rfl) ?_
            refine y_jne rfl rfl rfl (by omega) (fun g55 => ?_) (fun g55 => ?_)
            · refine y_bi rfl rfl (by decide) ?_
              refine y_rI rfl (Or.inl rfl) ?_
              exact k30 gb1 (by omega) (by omega) hq (by omega) (by omega) (by omega) (by omega) (by omega) (by omega)
            · refine y_ld (x := .ref (10 + 6 * x.toNat)) rfl rfl (fun d => rfl) ?_
              refine y_gI (i := 2) (e := (V (10 + 6 * x.toNat) 2)) rfl rfl rfl (bx_ob hC (i := x.toNat) (by omega)) rfl rfl ?_
              refine y_go rfl rfl ?_
              refine y_rI rfl (Or.inl rfl) ?_
              exact k31 gb1 (by omega) (by omega) hq (by omega) (by omega) (by omega) (by omega) (by omega) (by omega)
      · refine y_ic rfl rfl ?_
        refine y_rI rfl (Or.inl rfl) ?_
        exact k32 gb1 (by omega) (by omega)
end
