/-! lead, the reference, whole -/
section
variable {X : Nat → List Int32} {u w : Nat} {S : m_H} {V : v_V} {K : v_K}
set_option maxRecDepth 100000 in
set_option maxHeartbeats 4000000 in
theorem ms_lead (hM : MdS S) {x y q : Int} (hxr : (-2147483648 ≤ x ∧ x < 2147483648)) (hyr : (-2147483648 ≤ y ∧ y < 2147483648)) (hqr : (-2147483648 ≤ q ∧ q < 2147483648)) (hB : 0 ≤ V 171 1 ∧ V 171 1 ≤ 8) (hL : ∀ b : Nat, (b : Int) < V 171 1 → ∀ t : Nat, t < 16 → 0 ≤ V 171 (1552 + 16 * b + t) ∧ V 171 (1552 + 16 * b + t) < V 171 1) (hn : 0 ≤ V 171 2 ∧ V 171 2 ≤ 6) (hRw : ∀ t : Nat, t < 6 → 0 ≤ V 171 (1680 + t) ∧ V 171 (1680 + t) ≤ 7) (k0 : ¬ (0 ≤ x ∧ x ≤ V 171 1 - 1) → K u w (some (iv (-1))) S V) (k1 : (0 ≤ x ∧ x ≤ V 171 1 - 1) → (0 ≤ y ∧ y ≤ V 171 1 - 1) → (0 ≤ q ∧ q ≤ 65535) → (x : Int) = y → (∃ b : Nat, (b : Int) < V 171 1 ∧ (b : Int) ≠ x ∧ ∃ t : Nat, t < 16 ∧ V 171 (1552 + 16 * b + t) = x) → ¬ ((1 : Int) = 0) → K u w (some (iv (-3))) S V) (k2 : (0 ≤ x ∧ x ≤ V 171 1 - 1) → (0 ≤ y ∧ y ≤ V 171 1 - 1) → (0 ≤ q ∧ q ≤ 65535) → (x : Int) = y → (∀ b : Nat, (b : Int) < V 171 1 → (b : Int) ≠ x → ∀ t : Nat, t < 16 → V 171 (1552 + 16 * b + t) ≠ x) → (0 : Int) = 0 → K u w (some (iv (z_na (fun t : Nat => (v_ur V 171 (z_ldR x.toNat y q 16 (V 171))) 171 (1552 + 16 * x.toNat + t)) x 16))) S (v_ur V 171 (z_ldR x.toNat y q 16 (V 171)))) (k3 : (0 ≤ x ∧ x ≤ V 171 1 - 1) → (0 ≤ y ∧ y ≤ V 171 1 - 1) → (0 ≤ q ∧ q ≤ 65535) → ¬ ((x : Int) = y) → (∃ t : Nat, (t : Int) < V 171 2 ∧ V 171 (1680 + t) = y) → (1 : Int) ≠ 0 → K u w (some (iv (-3))) S V) (k4 : (0 ≤ x ∧ x ≤ V 171 1 - 1) → (0 ≤ y ∧ y ≤ V 171 1 - 1) → (0 ≤ q ∧ q ≤ 65535) → ¬ ((x : Int) = y) → (∀ t : Nat, (t : Int) < V 171 2 → V 171 (1680 + t) ≠ y) → ¬ ((0 : Int) ≠ 0) → (z_na (fun t : Nat => V 171 (1552 + 16 * y.toNat + t)) y 16 : Int) > 0 → K u w (some (iv (-3))) S V) (k5 : (0 ≤ x ∧ x ≤ V 171 1 - 1) → (0 ≤ y ∧ y ≤ V 171 1 - 1) → (0 ≤ q ∧ q ≤ 65535) → ¬ ((x : Int) = y) → (∀ t : Nat, (t : Int) < V 171 2 → V 171 (1680 + t) ≠ y) → ¬ ((0 : Int) ≠ 0) → ¬ ((z_na (fun t : Nat => V 171 (1552 + 16 * y.toNat + t)) y 16 : Int) > 0) → (∃ b : Nat, (b : Int) < V 171 1 ∧ (b : Int) ≠ x ∧ ∃ t : Nat, t < 16 ∧ V 171 (1552 + 16 * b + t) = x) → ¬ ((1 : Int) = 0) → K u w (some (iv (-3))) S V) (k6 : (0 ≤ x ∧ x ≤ V 171 1 - 1) → (0 ≤ y ∧ y ≤ V 171 1 - 1) → (0 ≤ q ∧ q ≤ 65535) → ¬ ((x : Int) = y) → (∀ t : Nat, (t : Int) < V 171 2 → V 171 (1680 + t) ≠ y) → ¬ ((0 : Int) ≠ 0) → ¬ ((z_na (fun t : Nat => V 171 (1552 + 16 * y.toNat + t)) y 16 : Int) > 0) → (∀ b : Nat, (b : Int) < V 171 1 → (b : Int) ≠ x → ∀ t : Nat, t < 16 → V 171 (1552 + 16 * b + t) ≠ x) → (0 : Int) = 0 → K u w (some (iv (z_na (fun t : Nat => (v_ur V 171 (z_ldR x.toNat y q 16 (V 171))) 171 (1552 + 16 * x.toNat + t)) x 16))) S (v_ur V 171 (z_ldR x.toNat y q 16 (V 171)))) (k7 : (0 ≤ x ∧ x ≤ V 171 1 - 1) → (0 ≤ y ∧ y ≤ V 171 1 - 1) → ¬ (0 ≤ q ∧ q ≤ 65535) → K u w (some (iv (-2))) S V) (k8 : (0 ≤ x ∧ x ≤ V 171 1 - 1) → ¬ (0 ≤ y ∧ y ≤ V 171 1 - 1) → K u w (some (iv (-1))) S V) : y_R X 4 146 u w [.ref 170, iv x, iv y, iv q] S V K := by
  have hL7 : ∀ b : Nat, (b : Int) < V 171 1 → ∀ t : Nat, t < 16 → 0 ≤ V 171 (1552 + 16 * b + t) ∧ V 171 (1552 + 16 * b + t) ≤ 7 := fun b hb t ht => by have := hL b hb t ht; omega
  refine y_ent (lv' := [(0, .ref 170), (1, iv x), (2, iv y), (3, iv q)]) (Nat.le_of_ble_eq_true rfl) rfl ?_
  refine y_ld (x := .ref 170) rfl rfl (fun d => rfl) ?_
  refine y_ld (x := iv x) rfl rfl (fun d => rfl) ?_
  refine y_cV (as := [.ref 170, iv x]) rfl rfl rfl rfl rfl (md170 hM) ⟨rfl, (Nat.le_of_ble_eq_true rfl), (Nat.le_of_ble_eq_true rfl)⟩ (by decide) (ct_isBox hM (by omega) ⟨rfl, by omega⟩ ?_)
  refine y_nv ?_
  refine y_beq rfl rfl rfl (fun g1 => ?_) (fun g1 => ?_)
  · refine y_ic rfl rfl ?_
    refine y_rI rfl (Or.inl rfl) ?_
    exact k0 g1
  · refine y_ld (x := .ref 170) rfl rfl (fun d => rfl) ?_
    refine y_ld (x := iv y) rfl rfl (fun d => rfl) ?_
    refine y_cV (as := [.ref 170, iv y]) rfl rfl rfl rfl rfl (md170 hM) ⟨rfl, (Nat.le_of_ble_eq_true rfl), (Nat.le_of_ble_eq_true rfl)⟩ (by decide) (ct_isBox hM (by omega) ⟨rfl, by omega⟩ ?_)
    refine y_nv ?_
    refine y_bne rfl rfl rfl (fun g2 => ?_) (fun g2 => ?_)
    · refine y_ld (x := iv q) rfl rfl (fun d => rfl) ?_
      refine y_ic rfl rfl ?_
      refine y_ld (x := iv 65535) rfl rfl (fun d => rfl) ?_
      refine y_cS (as := [iv q, iv 0, iv 65535]) rfl (by decide) rfl rfl rfl rfl ⟨(Nat.le_of_ble_eq_true rfl), (Nat.le_of_ble_eq_true rfl)⟩ (by decide) (ct_in (by omega) ?_)
      refine y_nv ?_
      refine y_bne rfl rfl rfl (fun g3 => ?_) (fun g3 => ?_)
      · refine y_ld (x := iv x) rfl rfl (fun d => rfl) ?_
        refine y_ld (x := iv y) rfl rfl (fun d => rfl) ?_
        refine y_jeq rfl rfl rfl (by omega) (fun g4 => ?_) (fun g4 => ?_)
        · refine y_ld (x := .ref 170) rfl rfl (fun d => rfl) ?_
          refine y_ld (x := iv x) rfl rfl (fun d => rfl) ?_
          refine y_cV (as := [.ref 170, iv x]) rfl rfl rfl rfl rfl (md170 hM) ⟨rfl, (Nat.le_of_ble_eq_true rfl), (Nat.le_of_ble_eq_true rfl)⟩ (by decide) (ct_isLedTo (x := x) hM hxr hB hL7 (fun qL => ?_) (fun qL => ?_))
          · refine y_nv ?_
            refine y_zeq rfl rfl rfl (by decide) (fun g5 => absurd g5 (by decide)) (fun g5 => ?_)
            refine y_bi rfl rfl (by decide) ?_
            refine y_rI rfl (Or.inl rfl) ?_
            exact k1 g1 g2 g3 (by omega) qL (by omega)
          · refine y_nv ?_
            refine y_zeq rfl rfl rfl (by decide) (fun g6 => ?_) (fun g6 => absurd g6 (by decide))
            refine y_ic rfl rfl ?_
            refine y_st (lv' := [(4, iv 0), (0, .ref 170), (1, iv x), (2, iv y), (3, iv q)]) rfl rfl (fun d => rfl) ?_
            refine y_lv (l' := [(0, .ref 170), (1, iv x), (2, iv y), (3, iv q), (4, iv 0)]) rfl ⟨rfl, rfl, rfl, rfl, rfl, trivial⟩ ?_
            refine y_V (V' := v_ur V 171 (z_ldR x.toNat y q 0 (V 171))) (v_ur_self V 171).symm ?_
            refine y_mono (lq_lead (F := 20000) hM (x := x) (y := y) (q := q) (by omega) (by omega) (by omega) hB hL 17 0 (by omega) (by omega) ?_) (by decide)
            have hw1 : ∀ t : Nat, t < 16 → 0 ≤ (v_ur V 171 (z_ldR x.toNat y q 16 (V 171))) 171 (1552 + 16 * x.toNat + t) ∧ (v_ur V 171 (z_ldR x.toNat y q 16 (V 171))) 171 (1552 + 16 * x.toNat + t) ≤ 7 := by
              intro t ht
              have h1 := hL7 x.toNat (by omega) t ht
              have h2 := (z_ldR_led (m := q) (a := x.toNat) (f := V 171) (y := y) (by omega) (by omega) (fun j hj => by have := hL x.toNat (by omega) j hj; omega) 16 (by omega)).2 t ht
              rw [v_ur_eq, h2]
              split <;> omega
            refine y_ld (x := .ref 170) rfl rfl (fun d => rfl) ?_
            refine y_ld (x := iv x) rfl rfl (fun d => rfl) ?_
            have hz4 := z_na_lt (fun t : Nat => (v_ur V 171 (z_ldR x.toNat y q 16 (V 171))) 171 (1552 + 16 * x.toNat + t)) x 16
            refine y_cV (as := [.ref 170, iv x]) rfl rfl rfl rfl rfl (md170 hM) ⟨rfl, (Nat.le_of_ble_eq_true rfl), (Nat.le_of_ble_eq_true rfl)⟩ (by decide) (ct_leading (V := (v_ur V 171 (z_ldR x.toNat y q 16 (V 171)))) (x := x) hM (by omega) hw1 ?_)
            refine y_nv ?_
            refine y_rI rfl (Or.inl rfl) ?_
            exact k2 g1 g2 g3 (by omega) qL (by omega)
        · refine y_ld (x := .ref 170) rfl rfl (fun d => rfl) ?_
          refine y_ld (x := iv y) rfl rfl (fun d => rfl) ?_
          refine y_cV (as := [.ref 170, iv y]) rfl rfl rfl rfl rfl (md170 hM) ⟨rfl, (Nat.le_of_ble_eq_true rfl), (Nat.le_of_ble_eq_true rfl)⟩ (by decide) (ct_isInRow (x := y) hM hyr hn hRw (fun qI => ?_) (fun qI => ?_))
          · refine y_nv ?_
            refine y_zne rfl rfl rfl (by decide) (fun g7 => ?_) (fun g7 => absurd g7 (by decide))
            refine y_bi rfl rfl (by decide) ?_
            refine y_rI rfl (Or.inl rfl) ?_
            exact k3 g1 g2 g3 (by omega) qI (by omega)
          · refine y_nv ?_
            refine y_zne rfl rfl rfl (by decide) (fun g8 => absurd g8 (by decide)) (fun g8 => ?_)
            refine y_ld (x := .ref 170) rfl rfl (fun d => rfl) ?_
            refine y_ld (x := iv y) rfl rfl (fun d => rfl) ?_
            have hla2 : ∀ t : Nat, t < 16 → 0 ≤ V 171 (1552 + 16 * y.toNat + t) ∧ V 171 (1552 + 16 * y.toNat + t) ≤ 7 := fun t ht => hL7 y.toNat (by omega) t ht
            have hz3 := z_na_lt (fun t : Nat => V 171 (1552 + 16 * y.toNat + t)) y 16
            refine y_cV (as := [.ref 170, iv y]) rfl rfl rfl rfl rfl (md170 hM) ⟨rfl, (Nat.le_of_ble_eq_true rfl), (Nat.le_of_ble_eq_true rfl)⟩ (by decide) (ct_leading (V := V) (x := y) hM (by omega) hla2 ?_)
            refine y_nv ?_
            refine y_zgt rfl rfl rfl (by omega) (fun g9 => ?_) (fun g9 => ?_)
            · refine y_bi rfl rfl (by decide) ?_
              refine y_rI rfl (Or.inl rfl) ?_
              exact k4 g1 g2 g3 (by omega) qI (by omega) (by omega)
            · refine y_ld (x := .ref 170) rfl rfl (fun d => rfl) ?_
              refine y_ld (x := iv x) rfl rfl (fun d => rfl) ?_
              refine y_cV (as := [.ref 170, iv x]) rfl rfl rfl rfl rfl (md170 hM) ⟨rfl, (Nat.le_of_ble_eq_true rfl), (Nat.le_of_ble_eq_true rfl)⟩ (by decide) (ct_isLedTo (x := x) hM hxr hB hL7 (fun qL => ?_) (fun qL => ?_))
              · refine y_nv ?_
                refine y_zeq rfl rfl rfl (by decide) (fun g10 => absurd g10 (by decide)) (fun g10 => ?_)
                refine y_bi rfl rfl (by decide) ?_
                refine y_rI rfl (Or.inl rfl) ?_
                exact k5 g1 g2 g3 (by omega) qI (by omega) (by omega) qL (by omega)
              · refine y_nv ?_
                refine y_zeq rfl rfl rfl (by decide) (fun g11 => ?_) (fun g11 => absurd g11 (by decide))
                refine y_ic rfl rfl ?_
                refine y_st (lv' := [(4, iv 0), (0, .ref 170), (1, iv x), (2, iv y), (3, iv q)]) rfl rfl (fun d => rfl) ?_
                refine y_lv (l' := [(0, .ref 170), (1, iv x), (2, iv y), (3, iv q), (4, iv 0)]) rfl ⟨rfl, rfl, rfl, rfl, rfl, trivial⟩ ?_
                refine y_V (V' := v_ur V 171 (z_ldR x.toNat y q 0 (V 171))) (v_ur_self V 171).symm ?_
                refine y_mono (lq_lead (F := 20000) hM (x := x) (y := y) (q := q) (by omega) (by omega) (by omega) hB hL 17 0 (by omega) (by omega) ?_) (by decide)
                have hw1 : ∀ t : Nat, t < 16 → 0 ≤ (v_ur V 171 (z_ldR x.toNat y q 16 (V 171))) 171 (1552 + 16 * x.toNat + t) ∧ (v_ur V 171 (z_ldR x.toNat y q 16 (V 171))) 171 (1552 + 16 * x.toNat + t) ≤ 7 := by
                  intro t ht
                  have h1 := hL7 x.toNat (by omega) t ht
                  have h2 := (z_ldR_led (m := q) (a := x.toNat) (f := V 171) (y := y) (by omega) (by omega) (fun j hj => by have := hL x.toNat (by omega) j hj; omega) 16 (by omega)).2 t ht
                  rw [v_ur_eq, h2]
                  split <;> omega
                refine y_ld (x := .ref 170) rfl rfl (fun d => rfl) ?_
                refine y_ld (x := iv x) rfl rfl (fun d => rfl) ?_
                have hz4 := z_na_lt (fun t : Nat => (v_ur V 171 (z_ldR x.toNat y q 16 (V 171))) 171 (1552 + 16 * x.toNat + t)) x 16
                refine y_cV (as := [.ref 170, iv x]) rfl rfl rfl rfl rfl (md170 hM) ⟨rfl, (Nat.le_of_ble_eq_true rfl), (Nat.le_of_ble_eq_true rfl)⟩ (by decide) (ct_leading (V := (v_ur V 171 (z_ldR x.toNat y q 16 (V 171)))) (x := x) hM (by omega) hw1 ?_)
                refine y_nv ?_
                refine y_rI rfl (Or.inl rfl) ?_
                exact k6 g1 g2 g3 (by omega) qI (by omega) (by omega) qL (by omega)
      · refine y_bi rfl rfl (by decide) ?_
        refine y_rI rfl (Or.inl rfl) ?_
        exact k7 g1 g2 g3
    · refine y_ic rfl rfl ?_
      refine y_rI rfl (Or.inl rfl) ?_
      exact k8 g1 g2
end
