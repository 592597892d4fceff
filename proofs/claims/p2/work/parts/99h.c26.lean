/-! lead, the class, whole -/
section
variable {X : Nat → List Int32} {u w : Nat} {S : m_H} {V : v_V} {K : v_K}
set_option maxRecDepth 100000 in
set_option maxHeartbeats 4000000 in
theorem cs_lead (hC : ClF S) {x y q : Int} (hxr : (-2147483648 ≤ x ∧ x < 2147483648)) (hyr : (-2147483648 ≤ y ∧ y < 2147483648)) (hqr : (-2147483648 ≤ q ∧ q < 2147483648)) (hB : 0 ≤ V 1 5 ∧ V 1 5 ≤ 8) (hL : ∀ b : Nat, (b : Int) < V 1 5 → ∀ t : Nat, t < 16 → 0 ≤ V (10 + 6 * b + 1) t ∧ V (10 + 6 * b + 1) t < V 1 5) (hN : ∀ b : Nat, (b : Int) < V 1 5 → V (10 + 6 * b) 0 = (b : Int)) (hn : 0 ≤ V 1 7 ∧ V 1 7 ≤ 6) (hRw : ∀ t : Nat, t < 6 → 0 ≤ V 5 t ∧ V 5 t ≤ 7) (k0 : ¬ (0 ≤ x ∧ x < V 1 5) → ¬ (0 ≤ y ∧ y < V 1 5) → K u w (some (iv (-1))) S V) (k1 : ¬ (0 ≤ x ∧ x < V 1 5) → 0 ≤ y ∧ y < V 1 5 → K u w (some (iv (-1))) S V) (k2 : 0 ≤ x ∧ x < V 1 5 → ¬ (0 ≤ y ∧ y < V 1 5) → K u w (some (iv (-1))) S V) (k3 : 0 ≤ x ∧ x < V 1 5 → 0 ≤ y ∧ y < V 1 5 → (0 ≤ q ∧ q ≤ 65535) → (∃ b : Nat, (b : Int) < V 1 5 ∧ (b : Int) ≠ x ∧ ∃ t : Nat, t < 16 ∧ V (10 + 6 * b + 1) t = x) → ¬ ((1 : Int) = 0) → K u w (some (iv (-3))) S V) (k4 : 0 ≤ x ∧ x < V 1 5 → 0 ≤ y ∧ y < V 1 5 → (0 ≤ q ∧ q ≤ 65535) → (∀ b : Nat, (b : Int) < V 1 5 → (b : Int) ≠ x → ∀ t : Nat, t < 16 → V (10 + 6 * b + 1) t ≠ x) → (0 : Int) = 0 → (y : Int) = x → K u w (some (iv (z_na ((z_ldC x.toNat y q 16 V) (10 + 6 * x.toNat + 1)) ((z_ldC x.toNat y q 16 V) (10 + 6 * x.toNat) 0) 16))) S (z_ldC x.toNat y q 16 V)) (k5 : 0 ≤ x ∧ x < V 1 5 → 0 ≤ y ∧ y < V 1 5 → (0 ≤ q ∧ q ≤ 65535) → (∀ b : Nat, (b : Int) < V 1 5 → (b : Int) ≠ x → ∀ t : Nat, t < 16 → V (10 + 6 * b + 1) t ≠ x) → (0 : Int) = 0 → ¬ ((y : Int) = x) → (∃ t : Nat, (t : Int) < V 1 7 ∧ V 5 t = y) → (1 : Int) ≠ 0 → K u w (some (iv (-3))) S V) (k6 : 0 ≤ x ∧ x < V 1 5 → 0 ≤ y ∧ y < V 1 5 → (0 ≤ q ∧ q ≤ 65535) → (∀ b : Nat, (b : Int) < V 1 5 → (b : Int) ≠ x → ∀ t : Nat, t < 16 → V (10 + 6 * b + 1) t ≠ x) → (0 : Int) = 0 → ¬ ((y : Int) = x) → (∀ t : Nat, (t : Int) < V 1 7 → V 5 t ≠ y) → ¬ ((0 : Int) ≠ 0) → (z_na (V (10 + 6 * y.toNat + 1)) (V (10 + 6 * y.toNat) 0) 16 : Int) ≤ 0 → K u w (some (iv (z_na ((z_ldC x.toNat y q 16 V) (10 + 6 * x.toNat + 1)) ((z_ldC x.toNat y q 16 V) (10 + 6 * x.toNat) 0) 16))) S (z_ldC x.toNat y q 16 V)) (k7 : 0 ≤ x ∧ x < V 1 5 → 0 ≤ y ∧ y < V 1 5 → (0 ≤ q ∧ q ≤ 65535) → (∀ b : Nat, (b : Int) < V 1 5 → (b : Int) ≠ x → ∀ t : Nat, t < 16 → V (10 + 6 * b + 1) t ≠ x) → (0 : Int) = 0 → ¬ ((y : Int) = x) → (∀ t : Nat, (t : Int) < V 1 7 → V 5 t ≠ y) → ¬ ((0 : Int) ≠ 0) → ¬ ((z_na (V (10 + 6 * y.toNat + 1)) (V (10 + 6 * y.toNat) 0) 16 : Int) ≤ 0) → K u w (some (iv (-3))) S V) (k8 : 0 ≤ x ∧ x < V 1 5 → 0 ≤ y ∧ y < V 1 5 → ¬ (0 ≤ q ∧ q ≤ 65535) → K u w (some (iv (-2))) S V) : y_R X 4 80 u w [.ref 0, iv x, iv y, iv q] S V K := by
  have hL7 : ∀ b : Nat, (b : Int) < V 1 5 → ∀ t : Nat, t < 16 → 0 ≤ V (10 + 6 * b + 1) t ∧ V (10 + 6 * b + 1) t ≤ 7 := fun b hb t ht => by have := hL b hb t ht; omega
  refine y_ent (lv' := [(0, .ref 0), (1, iv x), (2, iv y), (3, iv q)]) (Nat.le_of_ble_eq_true rfl) rfl ?_
  refine y_ld (x := .ref 0) rfl rfl (fun d => rfl) ?_
  refine y_gR (i := 0) rfl rfl rfl (hC 0 _ _ rfl) rfl ?_
  refine y_ld (x := iv x) rfl rfl (fun d => rfl) ?_
  refine y_cV (as := [.ref 1, iv x]) rfl rfl rfl rfl rfl (hC 1 _ _ rfl) ⟨rfl, (Nat.le_of_ble_eq_true rfl), (Nat.le_of_ble_eq_true rfl)⟩ (by decide) (cb_boxAt (x := x) hC hB (by omega) (fun gb1 => ?_) (fun gb1 => ?_))
  · refine y_nv ?_
    refine y_st (lv' := [(4, .null), (0, .ref 0), (1, iv x), (2, iv y), (3, iv q)]) rfl rfl (fun d => rfl) ?_
    refine y_ld (x := .ref 0) rfl rfl (fun d => rfl) ?_
    refine y_gR (i := 0) rfl rfl rfl (hC 0 _ _ rfl) rfl ?_
    refine y_ld (x := iv y) rfl rfl (fun d => rfl) ?_
    refine y_cV (as := [.ref 1, iv y]) rfl rfl rfl rfl rfl (hC 1 _ _ rfl) ⟨rfl, (Nat.le_of_ble_eq_true rfl), (Nat.le_of_ble_eq_true rfl)⟩ (by decide) (cb_boxAt (x := y) hC hB (by omega) (fun gb2 => ?_) (fun gb2 => ?_))
    · refine y_nv ?_
      refine y_st (lv' := [(5, .null), (4, .null), (0, .ref 0), (1, iv x), (2, iv y), (3, iv q)]) rfl rfl (fun d => rfl) ?_
      refine y_ld (x := .null) rfl rfl (fun d => rfl) ?_
      refine y_in (pc' := 30) rfl rfl (fun d => rfl) ?_
      refine y_ic rfl rfl ?_
      refine y_rI rfl (Or.inl rfl) ?_
      exact k0 gb1 gb2
    · refine y_nv ?_
      refine y_st (lv' := [(5, .ref (10 + 6 * y.toNat)), (4, .null), (0, .ref 0), (1, iv x), (2, iv y), (3, iv q)]) rfl rfl (fun d => rfl) ?_
      refine y_ld (x := .null) rfl rfl (fun d => rfl) ?_
      refine y_in (pc' := 30) rfl rfl (fun d => rfl) ?_
      refine y_ic rfl rfl ?_
      refine y_rI rfl (Or.inl rfl) ?_
      exact k1 gb1 gb2
  · refine y_nv ?_
    refine y_st (lv' := [(4, .ref (10 + 6 * x.toNat)), (0, .ref 0), (1, iv x), (2, iv y), (3, iv q)]) rfl rfl (fun d => rfl) ?_
    refine y_ld (x := .ref 0) rfl rfl (fun d => rfl) ?_
    refine y_gR (i := 0) rfl rfl rfl (hC 0 _ _ rfl) rfl ?_
    refine y_ld (x := iv y) rfl rfl (fun d => rfl) ?_
    refine y_cV (as := [.ref 1, iv y]) rfl rfl rfl rfl rfl (hC 1 _ _ rfl) ⟨rfl, (Nat.le_of_ble_eq_true rfl), (Nat.le_of_ble_eq_true rfl)⟩ (by decide) (cb_boxAt (x := y) hC hB (by omega) (fun gb3 => ?_) (fun gb3 => ?_))
    · refine y_nv ?_
      refine y_st (lv' := [(5, .null), (4, .ref (10 + 6 * x.toNat)), (0, .ref 0), (1, iv x), (2, iv y), (3, iv q)]) rfl rfl (fun d => rfl) ?_
      refine y_ld (x := .ref (10 + 6 * x.toNat)) rfl rfl (fun d => rfl) ?_
      refine y_in (pc' := 25) rfl rfl (fun d => rfl) ?_
      refine y_ld (x := .null) rfl rfl (fun d => rfl) ?_
      refine y_in (pc' := 30) rfl rfl (fun d => rfl) ?_
      refine y_ic rfl rfl ?_
      refine y_rI rfl (Or.inl rfl) ?_
      exact k2 gb1 gb3
    · refine y_nv ?_
      refine y_st (lv' := [(5, .ref (10 + 6 * y.toNat)), (4, .ref (10 + 6 * x.toNat)), (0, .ref 0), (1, iv x), (2, iv y), (3, iv q)]) rfl rfl (fun d => rfl) ?_
      refine y_ld (x := .ref (10 + 6 * x.toNat)) rfl rfl (fun d => rfl) ?_
      refine y_in (pc' := 25) rfl rfl (fun d => rfl) ?_
      refine y_ld (x := .ref (10 + 6 * y.toNat)) rfl rfl (fun d => rfl) ?_
      refine y_in (pc' := 32) rfl rfl (fun d => rfl) ?_
      refine y_ld (x := iv q) rfl rfl (fun d => rfl) ?_
      refine y_cS (as := [iv q]) rfl (by decide) rfl rfl rfl rfl ⟨(Nat.le_of_ble_eq_true rfl), (Nat.le_of_ble_eq_true rfl)⟩ (by decide) (cc_areTalks (by omega) ?_)
      refine y_nv ?_
      refine y_bne rfl rfl rfl (fun g1 => ?_) (fun g1 => ?_)
      · refine y_ld (x := .ref 0) rfl rfl (fun d => rfl) ?_
        refine y_gR (i := 0) rfl rfl rfl (hC 0 _ _ rfl) rfl ?_
        refine y_ld (x := iv x) rfl rfl (fun d => rfl) ?_
        refine y_cV (as := [.ref 1, iv x]) rfl rfl rfl rfl rfl (hC 1 _ _ rfl) ⟨rfl, (Nat.le_of_ble_eq_true rfl), (Nat.le_of_ble_eq_true rfl)⟩ (by decide) (cb_isLedTo (x := x) hC hxr hB hL7 (fun qL => ?_) (fun qL => ?_))
        · refine y_nv ?_
          refine y_zeq rfl rfl rfl (by decide) (fun g2 => absurd g2 (by decide)) (fun g2 => ?_)
          refine y_bi rfl rfl (by decide) ?_
          refine y_rI rfl (Or.inl rfl) ?_
          exact k3 gb1 gb3 g1 qL (by omega)
        · refine y_nv ?_
          refine y_zeq rfl rfl rfl (by decide) (fun g3 => ?_) (fun g3 => absurd g3 (by decide))
          refine y_ld (x := iv y) rfl rfl (fun d => rfl) ?_
          refine y_ld (x := iv x) rfl rfl (fun d => rfl) ?_
          refine y_jeq rfl rfl rfl (by omega) (fun g4 => ?_) (fun g4 => ?_)
          · refine y_ic rfl rfl ?_
            refine y_st (lv' := [(6, iv 0), (5, .ref (10 + 6 * y.toNat)), (4, .ref (10 + 6 * x.toNat)), (0, .ref 0), (1, iv x), (2, iv y), (3, iv q)]) rfl rfl (fun d => rfl) ?_
            refine y_lv (l' := [(0, .ref 0), (1, iv x), (2, iv y), (3, iv q), (4, .ref (10 + 6 * x.toNat)), (5, .ref (10 + 6 * y.toNat)), (6, iv 0)]) rfl ⟨rfl, rfl, rfl, rfl, rfl, rfl, rfl, trivial⟩ ?_
            refine y_V (V' := z_ldC x.toNat y q 0 V) rfl ?_
            refine y_mono (lp_lead (F := 20000) hC (x := x) (y := y) (q := q) (by omega) (by omega) (by omega) hB hL hN 17 0 (by omega) (by omega) ?_) (by decide)
            have hw0 : 0 ≤ (z_ldC x.toNat y q 16 V) (10 + 6 * x.toNat) 0 ∧ (z_ldC x.toNat y q 16 V) (10 + 6 * x.toNat) 0 ≤ 7 := by
              have := hN x.toNat (by omega)
              rw [z_ldC_fr (10 + 6 * x.toNat) (by omega) (fun _ => by omega)]
              omega
            have hw1 : ∀ t : Nat, t < 16 → 0 ≤ (z_ldC x.toNat y q 16 V) (10 + 6 * x.toNat + 1) t ∧ (z_ldC x.toNat y q 16 V) (10 + 6 * x.toNat + 1) t ≤ 7 := by
              intro t ht
              have := hL7 x.toNat (by omega) t ht
              rw [z_ldC_led]
              split <;> omega
            refine y_ld (x := .ref (10 + 6 * x.toNat)) rfl rfl (fun d => rfl) ?_
            refine y_cV (as := [.ref (10 + 6 * x.toNat)]) rfl rfl rfl rfl rfl (bx_ob hC (i := x.toNat) (by omega)) ⟨rfl, (Nat.le_of_ble_eq_true rfl), (Nat.le_of_ble_eq_true rfl)⟩ (by decide) (cb_ledAway (V := (z_ldC x.toNat y q 16 V)) (b := x.toNat) hC (by omega) hw0 hw1 ?_)
            have hz4 := z_na_lt ((z_ldC x.toNat y q 16 V) (10 + 6 * x.toNat + 1)) ((z_ldC x.toNat y q 16 V) (10 + 6 * x.toNat) 0) 16
            refine y_nv ?_
            refine y_rI rfl (Or.inl rfl) ?_
            exact k4 gb1 gb3 g1 qL (by omega) (by omega)
          · refine y_ld (x := .ref 0) rfl rfl (fun d => rfl) ?_
            refine y_gR (i := 0) rfl rfl rfl (hC 0 _ _ rfl) rfl ?_
            refine y_ld (x := iv y) rfl rfl (fun d => rfl) ?_
            refine y_cV (as := [.ref 1, iv y]) rfl rfl rfl rfl rfl (hC 1 _ _ rfl) ⟨rfl, (Nat.le_of_ble_eq_true rfl), (Nat.le_of_ble_eq_true rfl)⟩ (by decide) (cb_isInRow (x := y) hC hyr hn hRw (fun qI => ?_) (fun qI => ?_))
            · refine y_nv ?_
              refine y_zne rfl rfl rfl (by decide) (fun g5 => ?_) (fun g5 => absurd g5 (by decide))
              refine y_bi rfl rfl (by decide) ?_
              refine y_rI rfl (Or.inl rfl) ?_
              exact k5 gb1 gb3 g1 qL (by omega) (by omega) qI (by omega)
            · refine y_nv ?_
              refine y_zne rfl rfl rfl (by decide) (fun g6 => absurd g6 (by decide)) (fun g6 => ?_)
              refine y_ld (x := .ref (10 + 6 * y.toNat)) rfl rfl (fun d => rfl) ?_
              have hla1 : 0 ≤ V (10 + 6 * y.toNat) 0 ∧ V (10 + 6 * y.toNat) 0 ≤ 7 := by have := hN y.toNat (by omega); omega
              have hla2 : ∀ t : Nat, t < 16 → 0 ≤ V (10 + 6 * y.toNat + 1) t ∧ V (10 + 6 * y.toNat + 1) t ≤ 7 := fun t ht => hL7 y.toNat (by omega) t ht
              have hz3 := z_na_lt (V (10 + 6 * y.toNat + 1)) (V (10 + 6 * y.toNat) 0) 16
              refine y_cV (as := [.ref (10 + 6 * y.toNat)]) rfl rfl rfl rfl rfl (bx_ob hC (i := y.toNat) (by omega)) ⟨rfl, (Nat.le_of_ble_eq_true rfl), (Nat.le_of_ble_eq_true rfl)⟩ (by decide) (cb_ledAway (V := V) (b := y.toNat) hC (by omega) hla1 hla2 ?_)
              have hz4 := z_na_lt (V (10 + 6 * y.toNat + 1)) (V (10 + 6 * y.toNat) 0) 16
              refine y_nv ?_
              refine y_zle rfl rfl rfl (by omega) (fun g7 => ?_) (fun g7 => ?_)
              · refine y_ic rfl rfl ?_
                refine y_st (lv' := [(6, iv 0), (5, .ref (10 + 6 * y.toNat)), (4, .ref (10 + 6 * x.toNat)), (0, .ref 0), (1, iv x), (2, iv y), (3, iv q)]) rfl rfl (fun d => rfl) ?_
                refine y_lv (l' := [(0, .ref 0), (1, iv x), (2, iv y), (3, iv q), (4, .ref (10 + 6 * x.toNat)), (5, .ref (10 + 6 * y.toNat)), (6, iv 0)]) rfl ⟨rfl, rfl, rfl, rfl, rfl, rfl, rfl, trivial⟩ ?_
                refine y_V (V' := z_ldC x.toNat y q 0 V) rfl ?_
                refine y_mono (lp_lead (F := 20000) hC (x := x) (y := y) (q := q) (by omega) (by omega) (by omega) hB hL hN 17 0 (by omega) (by omega) ?_) (by decide)
                have hw0 : 0 ≤ (z_ldC x.toNat y q 16 V) (10 + 6 * x.toNat) 0 ∧ (z_ldC x.toNat y q 16 V) (10 + 6 * x.toNat) 0 ≤ 7 := by
                  have := hN x.toNat (by omega)
                  rw [z_ldC_fr (10 + 6 * x.toNat) (by omega) (fun _ => by omega)]
                  omega
                have hw1 : ∀ t : Nat, t < 16 → 0 ≤ (z_ldC x.toNat y q 16 V) (10 + 6 * x.toNat + 1) t ∧ (z_ldC x.toNat y q 16 V) (10 + 6 * x.toNat + 1) t ≤ 7 := by
                  intro t ht
                  have := hL7 x.toNat (by omega) t ht
                  rw [z_ldC_led]
                  split <;> omega
                refine y_ld (x := .ref (10 + 6 * x.toNat)) rfl rfl (fun d => rfl) ?_
                refine y_cV (as := [.ref (10 + 6 * x.toNat)]) rfl rfl rfl rfl rfl (bx_ob hC (i := x.toNat) (by omega)) ⟨rfl, (Nat.le_of_ble_eq_true rfl), (Nat.le_of_ble_eq_true rfl)⟩ (by decide) (cb_ledAway (V := (z_ldC x.toNat y q 16 V)) (b := x.toNat) hC (by omega) hw0 hw1 ?_)
                have hz4 := z_na_lt ((z_ldC x.toNat y q 16 V) (10 + 6 * x.toNat + 1)) ((z_ldC x.toNat y q 16 V) (10 + 6 * x.toNat) 0) 16
                refine y_nv ?_
                refine y_rI rfl (Or.inl rfl) ?_
                exact k6 gb1 gb3 g1 qL (by omega) (by omega) qI (by omega) (by omega)
              · refine y_bi rfl rfl (by decide) ?_
                refine y_rI rfl (Or.inl rfl) ?_
                exact k7 gb1 gb3 g1 qL (by omega) (by omega) qI (by omega) (by omega)
      · refine y_bi rfl rfl (by decide) ?_
        refine y_rI rfl (Or.inl rfl) ?_
        exact k8 gb1 gb3 g1
end
