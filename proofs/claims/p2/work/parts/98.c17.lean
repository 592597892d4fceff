/-! the plain questions, further: cells, packets refused -/
section
variable {X : Nat → List Int32} {u w : Nat} {S : m_H} {V : v_V} {K : v_K}
set_option maxRecDepth 100000 in
set_option maxHeartbeats 4000000 in
theorem cc_at {m c : Nat} (hm : MeS S m c) {x : Int} (h : 0 ≤ x ∧ x < 84) (k : K u w (some (iv (V c x.toNat))) S V) : y_R X 1 9 u w [.ref m, iv x] S V K := by
  refine y_ent (lv' := [(0, .ref m), (1, iv x)]) (Nat.le_of_ble_eq_true rfl) rfl ?_
  refine y_ld (x := iv x) rfl rfl (fun d => rfl) ?_
  refine y_zlt rfl rfl rfl (by omega) (fun g1 => absurd g1 (by omega)) (fun g1 => ?_)
  refine y_ld (x := iv x) rfl rfl (fun d => rfl) ?_
  refine y_bi rfl rfl (by decide) ?_
  refine y_jge rfl rfl rfl (by omega) (fun g2 => absurd g2 (by omega)) (fun g2 => ?_)
  refine y_ld (x := .ref m) rfl rfl (fun d => rfl) ?_
  refine y_gR (i := 0) rfl rfl rfl hm.1 rfl ?_
  refine y_ld (x := iv x) rfl rfl (fun d => rfl) ?_
  refine y_ild (x := (V c ((x).toNat))) (q := ((x).toNat)) rfl rfl hm.2 (by omega) (by decide) rfl rfl ?_
  refine y_go rfl rfl ?_
  refine y_rI rfl (Or.inl rfl) ?_
  exact k
def z_pl (c t h : Int) : Int := if c < 4 then t * 4 + c else if c < 8 then 64 + h * 4 + c - 4 else 80 + c - 8
theorem z_pl_lt {c t h : Int} (hc : 0 ≤ c ∧ c < 12) (h1 : c < 4 → 0 ≤ t ∧ t < 16) (h2 : 4 ≤ c → c < 8 → 0 ≤ h ∧ h < 4) : 0 ≤ z_pl c t h ∧ z_pl c t h < 84 := by
  unfold z_pl
  split
  · omega
  · split <;> omega
set_option maxRecDepth 100000 in
set_option maxHeartbeats 4000000 in
theorem cc_placeOf {x t h : Int} (hc : 0 ≤ x ∧ x < 12) (h1 : x < 4 → 0 ≤ t ∧ t < 16) (h2 : 4 ≤ x → x < 8 → 0 ≤ h ∧ h < 4) (k : K u w (some (iv (z_pl x t h))) S V) : y_R X 1 103 u w [iv x, iv t, iv h] S V K := by
  refine y_ent (lv' := [(0, iv x), (1, iv t), (2, iv h)]) (Nat.le_of_ble_eq_true rfl) rfl ?_
  refine y_ld (x := iv x) rfl rfl (fun d => rfl) ?_
  refine y_ic rfl rfl ?_
  refine y_jge rfl rfl rfl (by omega) (fun g1 => ?_) (fun g1 => ?_)
  · refine y_ld (x := iv x) rfl rfl (fun d => rfl) ?_
    refine y_bi rfl rfl (by decide) ?_
    refine y_jge rfl rfl rfl (by omega) (fun g2 => ?_) (fun g2 => ?_)
    · refine y_bi rfl rfl (by decide) ?_
      refine y_ld (x := iv x) rfl rfl (fun d => rfl) ?_
      refine y_add (z := (80 + x)) rfl rfl rfl ?_
      refine y_bi rfl rfl (by decide) ?_
      refine y_sub (z := ((80 + x) - 8)) rfl rfl rfl ?_
      refine y_rI rfl (Or.inl rfl) ?_
      have e : z_pl x t h = (80 + x) - 8 := by
        unfold z_pl
        split
        · omega
        · split <;> omega
      rwa [e] at k
    · refine y_bi rfl rfl (by decide) ?_
      refine y_ld (x := iv h) rfl rfl (fun d => rfl) ?_
      refine y_ic rfl rfl ?_
      refine y_mul (z := (h * 4)) rfl rfl rfl ?_
      refine y_add (z := (64 + (h * 4))) rfl rfl rfl ?_
      refine y_ld (x := iv x) rfl rfl (fun d => rfl) ?_
      refine y_add (z := ((64 + (h * 4)) + x)) rfl rfl rfl ?_
      refine y_ic rfl rfl ?_
      refine y_sub (z := (((64 + (h * 4)) + x) - 4)) rfl rfl rfl ?_
      refine y_rI rfl (Or.inl rfl) ?_
      have e : z_pl x t h = ((64 + (h * 4)) + x) - 4 := by
        unfold z_pl
        split
        · omega
        · split <;> omega
      rwa [e] at k
  · refine y_ld (x := iv t) rfl rfl (fun d => rfl) ?_
    refine y_ic rfl rfl ?_
    refine y_mul (z := (t * 4)) rfl rfl rfl ?_
    refine y_ld (x := iv x) rfl rfl (fun d => rfl) ?_
    refine y_add (z := ((t * 4) + x)) rfl rfl rfl ?_
    refine y_rI rfl (Or.inl rfl) ?_
    have e : z_pl x t h = (t * 4) + x := by
      unfold z_pl
      split
      · omega
      · split <;> omega
    rwa [e] at k
def z_rf (t h k n : Int) : Int := if (0 ≤ t ∧ t < 16) ∧ (0 ≤ h ∧ h < 4) ∧ (0 ≤ k ∧ k < 4) then (if 0 ≤ n ∧ n ≤ 99 then 0 else -2) else -1
set_option maxRecDepth 100000 in
set_option maxHeartbeats 4000000 in
theorem cc_refusalOf {t h y n : Int} (e : (-2147483648 ≤ t ∧ t < 2147483648) ∧ (-2147483648 ≤ h ∧ h < 2147483648) ∧ (-2147483648 ≤ y ∧ y < 2147483648) ∧ (-2147483648 ≤ n ∧ n < 2147483648)) (k : K u w (some (iv (z_rf t h y n))) S V) : y_R X 2 97 u w [iv t, iv h, iv y, iv n] S V K := by
  refine y_ent (lv' := [(0, iv t), (1, iv h), (2, iv y), (3, iv n)]) (Nat.le_of_ble_eq_true rfl) rfl ?_
  refine y_ld (x := iv t) rfl rfl (fun d => rfl) ?_
  refine y_cS (as := [iv t]) rfl (by decide) rfl rfl rfl rfl ⟨(Nat.le_of_ble_eq_true rfl), (Nat.le_of_ble_eq_true rfl)⟩ (by decide) (cc_isTalk (by omega) ?_)
  refine y_nv ?_
  refine y_beq rfl rfl rfl (fun g1 => ?_) (fun g1 => ?_)
  · refine y_ic rfl rfl ?_
    refine y_rI rfl (Or.inl rfl) ?_
    rwa [z_rf, if_neg (by omega)] at k
  · refine y_ld (x := iv h) rfl rfl (fun d => rfl) ?_
    refine y_zlt rfl rfl rfl (by omega) (fun g2 => ?_) (fun g2 => ?_)
    · refine y_ic rfl rfl ?_
      refine y_rI rfl (Or.inl rfl) ?_
      rwa [z_rf, if_neg (by omega)] at k
    · refine y_ld (x := iv h) rfl rfl (fun d => rfl) ?_
      refine y_ic rfl rfl ?_
      refine y_jge rfl rfl rfl (by omega) (fun g3 => ?_) (fun g3 => ?_)
      · refine y_ic rfl rfl ?_
        refine y_rI rfl (Or.inl rfl) ?_
        rwa [z_rf, if_neg (by omega)] at k
      · refine y_ld (x := iv y) rfl rfl (fun d => rfl) ?_
        refine y_zlt rfl rfl rfl (by omega) (fun g4 => ?_) (fun g4 => ?_)
        · refine y_ic rfl rfl ?_
          refine y_rI rfl (Or.inl rfl) ?_
          rwa [z_rf, if_neg (by omega)] at k
        · refine y_ld (x := iv y) rfl rfl (fun d => rfl) ?_
          refine y_ic rfl rfl ?_
          refine y_jlt rfl rfl rfl (by omega) (fun g5 => ?_) (fun g5 => ?_)
          · refine y_ld (x := iv n) rfl rfl (fun d => rfl) ?_
            refine y_cS (as := [iv n]) rfl (by decide) rfl rfl rfl rfl ⟨(Nat.le_of_ble_eq_true rfl), (Nat.le_of_ble_eq_true rfl)⟩ (by decide) (cc_isN (by omega) ?_)
            refine y_nv ?_
            refine y_beq rfl rfl rfl (fun g6 => ?_) (fun g6 => ?_)
            · refine y_bi rfl rfl (by decide) ?_
              refine y_rI rfl (Or.inl rfl) ?_
              rwa [z_rf, if_pos (by omega), if_neg (by omega)] at k
            · refine y_ic rfl rfl ?_
              refine y_go rfl rfl ?_
              refine y_rI rfl (Or.inl rfl) ?_
              rwa [z_rf, if_pos (by omega), if_pos (by omega)] at k
          · refine y_ic rfl rfl ?_
            refine y_rI rfl (Or.inl rfl) ?_
            rwa [z_rf, if_neg (by omega)] at k
set_option maxRecDepth 100000 in
set_option maxHeartbeats 4000000 in
theorem cs_cell (hC : ClF S) (hB : 0 ≤ V 1 5 ∧ V 1 5 ≤ 8) {x : Int} (hx : (-2147483648 ≤ x ∧ x < 2147483648)) {l : Int} (hl : (-2147483648 ≤ l ∧ l < 2147483648)) {d : Int} (hd : (-2147483648 ≤ d ∧ d < 2147483648)) {o : Int} (ho : (-2147483648 ≤ o ∧ o < 2147483648)) (k0 : ¬ (0 ≤ x ∧ x < V 1 5) → K u w (some (iv (-2147483648))) S V) (k1 : 0 ≤ x ∧ x < V 1 5 → (l : Int) < 0 → K u w (some (iv (-2147483648))) S V) (k2 : 0 ≤ x ∧ x < V 1 5 → ¬ ((l : Int) < 0) → (l : Int) < 3 → (d : Int) < 0 → K u w (some (iv (-2147483648))) S V) (k3 : 0 ≤ x ∧ x < V 1 5 → ¬ ((l : Int) < 0) → (l : Int) < 3 → ¬ ((d : Int) < 0) → (d : Int) < 4 → (l : Int) ≠ 0 → (l : Int) ≠ 1 → K u w (some (iv (V (10 + 6 * x.toNat + 3) (z_pl ((l * 4) + d) o o).toNat))) S V) (k4 : 0 ≤ x ∧ x < V 1 5 → ¬ ((l : Int) < 0) → (l : Int) < 3 → ¬ ((d : Int) < 0) → (d : Int) < 4 → (l : Int) ≠ 0 → ¬ ((l : Int) ≠ 1) → (o : Int) < 0 → K u w (some (iv (-2147483648))) S V) (k5 : 0 ≤ x ∧ x < V 1 5 → ¬ ((l : Int) < 0) → (l : Int) < 3 → ¬ ((d : Int) < 0) → (d : Int) < 4 → (l : Int) ≠ 0 → ¬ ((l : Int) ≠ 1) → ¬ ((o : Int) < 0) → (o : Int) < 4 → K u w (some (iv (V (10 + 6 * x.toNat + 3) (z_pl ((l * 4) + d) o o).toNat))) S V) (k6 : 0 ≤ x ∧ x < V 1 5 → ¬ ((l : Int) < 0) → (l : Int) < 3 → ¬ ((d : Int) < 0) → (d : Int) < 4 → (l : Int) ≠ 0 → ¬ ((l : Int) ≠ 1) → ¬ ((o : Int) < 0) → ¬ ((o : Int) < 4) → K u w (some (iv (-2147483648))) S V) (k7 : 0 ≤ x ∧ x < V 1 5 → ¬ ((l : Int) < 0) → (l : Int) < 3 → ¬ ((d : Int) < 0) → (d : Int) < 4 → ¬ ((l : Int) ≠ 0) → ¬ (0 ≤ o ∧ o < 16) → K u w (some (iv (-2147483648))) S V) (k8 : 0 ≤ x ∧ x < V 1 5 → ¬ ((l : Int) < 0) → (l : Int) < 3 → ¬ ((d : Int) < 0) → (d : Int) < 4 → ¬ ((l : Int) ≠ 0) → (0 ≤ o ∧ o < 16) → (l : Int) ≠ 1 → K u w (some (iv (V (10 + 6 * x.toNat + 3) (z_pl ((l * 4) + d) o o).toNat))) S V) (k9 : 0 ≤ x ∧ x < V 1 5 → ¬ ((l : Int) < 0) → (l : Int) < 3 → ¬ ((d : Int) < 0) → (d : Int) < 4 → ¬ ((l : Int) ≠ 0) → (0 ≤ o ∧ o < 16) → ¬ ((l : Int) ≠ 1) → (o : Int) < 0 → K u w (some (iv (-2147483648))) S V) (k10 : 0 ≤ x ∧ x < V 1 5 → ¬ ((l : Int) < 0) → (l : Int) < 3 → ¬ ((d : Int) < 0) → (d : Int) < 4 → ¬ ((l : Int) ≠ 0) → (0 ≤ o ∧ o < 16) → ¬ ((l : Int) ≠ 1) → ¬ ((o : Int) < 0) → (o : Int) < 4 → K u w (some (iv (V (10 + 6 * x.toNat + 3) (z_pl ((l * 4) + d) o o).toNat))) S V) (k11 : 0 ≤ x ∧ x < V 1 5 → ¬ ((l : Int) < 0) → (l : Int) < 3 → ¬ ((d : Int) < 0) → (d : Int) < 4 → ¬ ((l : Int) ≠ 0) → (0 ≤ o ∧ o < 16) → ¬ ((l : Int) ≠ 1) → ¬ ((o : Int) < 0) → ¬ ((o : Int) < 4) → K u w (some (iv (-2147483648))) S V) (k12 : 0 ≤ x ∧ x < V 1 5 → ¬ ((l : Int) < 0) → (l : Int) < 3 → ¬ ((d : Int) < 0) → ¬ ((d : Int) < 4) → K u w (some (iv (-2147483648))) S V) (k13 : 0 ≤ x ∧ x < V 1 5 → ¬ ((l : Int) < 0) → ¬ ((l : Int) < 3) → K u w (some (iv (-2147483648))) S V) : y_R X 2 76 u w [.ref 0, iv x, iv l, iv d, iv o] S V K := by
  refine y_ent (lv' := [(0, .ref 0), (1, iv x), (2, iv l), (3, iv d), (4, iv o)]) (Nat.le_of_ble_eq_true rfl) rfl ?_
  refine y_ld (x := .ref 0) rfl rfl (fun d => rfl) ?_
  refine y_gR (i := 0) rfl rfl rfl (hC 0 _ _ rfl) rfl ?_
  refine y_ld (x := iv x) rfl rfl (fun d => rfl) ?_
  refine y_cV (as := [.ref 1, iv x]) rfl rfl rfl rfl rfl (hC 1 _ _ rfl) ⟨rfl, (Nat.le_of_ble_eq_true rfl), (Nat.le_of_ble_eq_true rfl)⟩ (by decide) (cb_boxAt (x := x) hC hB (by omega) (fun gb1 => ?_) (fun gb1 => ?_))
  · refine y_nv ?_
    refine y_st (lv' := [(5, .null), (0, .ref 0), (1, iv x), (2, iv l), (3, iv d), (4, iv o)]) rfl rfl (fun d => rfl) ?_
    refine y_ld (x := .null) rfl rfl (fun d => rfl) ?_
    refine y_in (pc' := 24) rfl rfl (fun d => rfl) ?_
    refine y_ld (x := iv (-2147483648)) rfl rfl (fun d => rfl) ?_
    refine y_rI rfl (Or.inl rfl) ?_
    exact k0 gb1
  · refine y_nv ?_
    refine y_st (lv' := [(5, .ref (10 + 6 * x.toNat)), (0, .ref 0), (1, iv x), (2, iv l), (3, iv d), (4, iv o)]) rfl rfl (fun d => rfl) ?_
    refine y_ld (x := .ref (10 + 6 * x.toNat)) rfl rfl (fun d => rfl) ?_
    refine y_in (pc' := 15) rfl rfl (fun d => rfl) ?_
    refine y_ld (x := iv l) rfl rfl (fun d => rfl) ?_
    refine y_zlt rfl rfl rfl (by omega) (fun g1 => ?_) (fun g1 => ?_)
    · refine y_ld (x := iv (-2147483648)) rfl rfl (fun d => rfl) ?_
      refine y_rI rfl (Or.inl rfl) ?_
      exact k1 gb1 (by omega)
    · refine y_ld (x := iv l) rfl rfl (fun d => rfl) ?_
      refine y_ic rfl rfl ?_
      refine y_jlt rfl rfl rfl (by omega) (fun g2 => ?_) (fun g2 => ?_)
      · refine y_ld (x := iv d) rfl rfl (fun d => rfl) ?_
        refine y_zlt rfl rfl rfl (by omega) (fun g3 => ?_) (fun g3 => ?_)
        · refine y_ld (x := iv (-2147483648)) rfl rfl (fun d => rfl) ?_
          refine y_rI rfl (Or.inl rfl) ?_
          exact k2 gb1 (by omega) (by omega) (by omega)
        · refine y_ld (x := iv d) rfl rfl (fun d => rfl) ?_
          refine y_ic rfl rfl ?_
          refine y_jlt rfl rfl rfl (by omega) (fun g4 => ?_) (fun g4 => ?_)
          · refine y_ld (x := iv l) rfl rfl (fun d => rfl) ?_
            refine y_zne rfl rfl rfl (by omega) (fun g5 => ?_) (fun g5 => ?_)
            · refine y_ld (x := iv l) rfl rfl (fun d => rfl) ?_
              refine y_ic rfl rfl ?_
              refine y_jne rfl rfl rfl (by omega) (fun g6 => ?_) (fun g6 => ?_)
              · refine y_ld (x := .ref (10 + 6 * x.toNat)) rfl rfl (fun d => rfl) ?_
                refine y_gR (i := 6) rfl rfl rfl (bx_ob hC (i := x.toNat) (by omega)) rfl ?_
                refine y_ld (x := iv l) rfl rfl (fun d => rfl) ?_
                refine y_ic rfl rfl ?_
                refine y_mul (z := (l * 4)) rfl rfl rfl ?_
                refine y_ld (x := iv d) rfl rfl (fun d => rfl) ?_
                refine y_add (z := ((l * 4) + d)) rfl rfl rfl ?_
                refine y_ld (x := iv o) rfl rfl (fun d => rfl) ?_
                refine y_ld (x := iv o) rfl rfl (fun d => rfl) ?_
                have hz := z_pl_lt (c := (l * 4) + d) (t := o) (h := o) (by omega) (by omega) (by omega)
                refine y_cS (as := [iv ((l * 4) + d), iv o, iv o]) rfl (by decide) rfl rfl rfl rfl ⟨(Nat.le_of_ble_eq_true rfl), (Nat.le_of_ble_eq_true rfl)⟩ (by decide) (cc_placeOf (by omega) (by omega) (by omega) ?_)
                refine y_nv ?_
                refine y_cV (as := [.ref (10 + 6 * x.toNat + 2), iv (z_pl ((l * 4) + d) o o)]) rfl rfl rfl rfl rfl (bx_mem hC (i := x.toNat) (by omega)) ⟨rfl, (Nat.le_of_ble_eq_true rfl), (Nat.le_of_ble_eq_true rfl)⟩ (by decide) (cc_at ⟨(bx_mem hC (i := x.toNat) (by omega)), (bx_mcl hC (i := x.toNat) (by omega))⟩ (by omega) ?_)
                refine y_nv ?_
                refine y_rI rfl (Or.inl rfl) ?_
                exact k3 gb1 (by omega) (by omega) (by omega) (by omega) (by omega) (by omega)
              · refine y_ld (x := iv o) rfl rfl (fun d => rfl) ?_
                refine y_zlt rfl rfl rfl (by omega) (fun g7 => ?_) (fun g7 => ?_)
                · refine y_ld (x := iv (-2147483648)) rfl rfl (fun d => rfl) ?_
                  refine y_rI rfl (Or.inl rfl) ?_
                  exact k4 gb1 (by omega) (by omega) (by omega) (by omega) (by omega) (by omega) (by omega)
                · refine y_ld (x := iv o) rfl rfl (fun d => rfl) ?_
                  refine y_ic rfl rfl ?_
                  refine y_jlt rfl rfl rfl (by omega) (fun g8 => ?_) (fun g8 => ?_)
                  · refine y_ld (x := .ref (10 + 6 * x.toNat)) rfl rfl (fun d => rfl) ?_
                    refine y_gR (i := 6) rfl rfl rfl (bx_ob hC (i := x.toNat) (by omega)) rfl ?_
                    refine y_ld (x := iv l) rfl rfl (fun d => rfl) ?_
                    refine y_ic rfl rfl ?_
                    refine y_mul (z := (l * 4)) rfl rfl rfl ?_
                    refine y_ld (x := iv d) rfl rfl (fun d => rfl) ?_
                    refine y_add (z := ((l * 4) + d)) rfl rfl rfl ?_
                    refine y_ld (x := iv o) rfl rfl (fun d => rfl) ?_
                    refine y_ld (x := iv o) rfl rfl (fun d => rfl) ?_
                    have hz := z_pl_lt (c := (l * 4) + d) (t := o) (h := o) (by omega) (by omega) (by omega)
                    refine y_cS (as := [iv ((l * 4) + d), iv o, iv o]) rfl (by decide) rfl rfl rfl rfl ⟨(Nat.le_of_ble_eq_true rfl), (Nat.le_of_ble_eq_true rfl)⟩ (by decide) (cc_placeOf (by omega) (by omega) (by omega) ?_)
                    refine y_nv ?_
                    refine y_cV (as := [.ref (10 + 6 * x.toNat + 2), iv (z_pl ((l * 4) + d) o o)]) rfl rfl rfl rfl rfl (bx_mem hC (i := x.toNat) (by omega)) ⟨rfl, (Nat.le_of_ble_eq_true rfl), (Nat.le_of_ble_eq_true rfl)⟩ (by decide) (cc_at ⟨(bx_mem hC (i := x.toNat) (by omega)), (bx_mcl hC (i := x.toNat) (by omega))⟩ (by omega) ?_)
                    refine y_nv ?_
                    refine y_rI rfl (Or.inl rfl) ?_
                    exact k5 gb1 (by omega) (by omega) (by omega) (by omega) (by omega) (by omega) (by omega) (by omega)
                  · refine y_ld (x := iv (-2147483648)) rfl rfl (fun d => rfl) ?_
                    refine y_rI rfl (Or.inl rfl) ?_
                    exact k6 gb1 (by omega) (by omega) (by omega) (by omega) (by omega) (by omega) (by omega) (by omega)
            · refine y_ld (x := iv o) rfl rfl (fun d => rfl) ?_
              refine y_cS (as := [iv o]) rfl (by decide) rfl rfl rfl rfl ⟨(Nat.le_of_ble_eq_true rfl), (Nat.le_of_ble_eq_true rfl)⟩ (by decide) (cc_isTalk (by omega) ?_)
              refine y_nv ?_
              refine y_beq rfl rfl rfl (fun g9 => ?_) (fun g9 => ?_)
              · refine y_ld (x := iv (-2147483648)) rfl rfl (fun d => rfl) ?_
                refine y_rI rfl (Or.inl rfl) ?_
                exact k7 gb1 (by omega) (by omega) (by omega) (by omega) (by omega) g9
              · refine y_ld (x := iv l) rfl rfl (fun d => rfl) ?_
                refine y_ic rfl rfl ?_
                refine y_jne rfl rfl rfl (by omega) (fun g10 => ?_) (fun g10 => ?_)
                · refine y_ld (x := .ref (10 + 6 * x.toNat)) rfl rfl (fun d => rfl) ?_
                  refine y_gR (i := 6) rfl rfl rfl (bx_ob hC (i := x.toNat) (by omega)) rfl ?_
                  refine y_ld (x := iv l) rfl rfl (fun d => rfl) ?_
                  refine y_ic rfl rfl ?_
                  refine y_mul (z := (l * 4)) rfl rfl rfl ?_
                  refine y_ld (x := iv d) rfl rfl (fun d => rfl) ?_
                  refine y_add (z := ((l * 4) + d)) rfl rfl rfl ?_
                  refine y_ld (x := iv o) rfl rfl (fun d => rfl) ?_
                  refine y_ld (x := iv o) rfl rfl (fun d => rfl) ?_
                  have hz := z_pl_lt (c := (l * 4) + d) (t := o) (h := o) (by omega) (by omega) (by omega)
                  refine y_cS (as := [iv ((l * 4) + d), iv o, iv o]) rfl (by decide) rfl rfl rfl rfl ⟨(Nat.le_of_ble_eq_true rfl), (Nat.le_of_ble_eq_true rfl)⟩ (by decide) (cc_placeOf (by omega) (by omega) (by omega) ?_)
                  refine y_nv ?_
                  refine y_cV (as := [.ref (10 + 6 * x.toNat + 2), iv (z_pl ((l * 4) + d) o o)]) rfl rfl rfl rfl rfl (bx_mem hC (i := x.toNat) (by omega)) ⟨rfl, (Nat.le_of_ble_eq_true rfl), (Nat.le_of_ble_eq_true rfl)⟩ (by decide) (cc_at ⟨(bx_mem hC (i := x.toNat) (by omega)), (bx_mcl hC (i := x.toNat) (by omega))⟩ (by omega) ?_)
                  refine y_nv ?_
                  refine y_rI rfl (Or.inl rfl) ?_
                  exact k8 gb1 (by omega) (by omega) (by omega) (by omega) (by omega) g9 (by omega)
                · refine y_ld (x := iv o) rfl rfl (fun d => rfl) ?_
                  refine y_zlt rfl rfl rfl (by omega) (fun g11 => ?_) (fun g11 => ?_)
                  · refine y_ld (x := iv (-2147483648)) rfl rfl (fun d => rfl) ?_
                    refine y_rI rfl (Or.inl rfl) ?_
                    exact k9 gb1 (by omega) (by omega) (by omega) (by omega) (by omega) g9 (by omega) (by omega)
                  · refine y_ld (x := iv o) rfl rfl (fun d => rfl) ?_
                    refine y_ic rfl rfl ?_
                    refine y_jlt rfl rfl rfl (by omega) (fun g12 => ?_) (fun g12 => ?_)
                    · refine y_ld (x := .ref (10 + 6 * x.toNat)) rfl rfl (fun d => rfl) ?_
                      refine y_gR (i := 6) rfl rfl rfl (bx_ob hC (i := x.toNat) (by omega)) rfl ?_
                      refine y_ld (x := iv l) rfl rfl (fun d => rfl) ?_
                      refine y_ic rfl rfl ?_
                      refine y_mul (z := (l * 4)) rfl rfl rfl ?_
                      refine y_ld (x := iv d) rfl rfl (fun d => rfl) ?_
                      refine y_add (z := ((l * 4) + d)) rfl rfl rfl ?_
                      refine y_ld (x := iv o) rfl rfl (fun d => rfl) ?_
                      refine y_ld (x := iv o) rfl rfl (fun d => rfl) ?_
                      have hz := z_pl_lt (c := (l * 4) + d) (t := o) (h := o) (by omega) (by omega) (by omega)
                      refine y_cS (as := [iv ((l * 4) + d), iv o, iv o]) rfl (by decide) rfl rfl rfl rfl ⟨(Nat.le_of_ble_eq_true rfl), (Nat.le_of_ble_eq_true rfl)⟩ (by decide) (cc_placeOf (by omega) (by omega) (by omega) ?_)
                      refine y_nv ?_
                      refine y_cV (as := [.ref (10 + 6 * x.toNat + 2), iv (z_pl ((l * 4) + d) o o)]) rfl rfl rfl rfl rfl (bx_mem hC (i := x.toNat) (by omega)) ⟨rfl, (Nat.le_of_ble_eq_true rfl), (Nat.le_of_ble_eq_true rfl)⟩ (by decide) (cc_at ⟨(bx_mem hC (i := x.toNat) (by omega)), (bx_mcl hC (i := x.toNat) (by omega))⟩ (by omega) ?_)
                      refine y_nv ?_
                      refine y_rI rfl (Or.inl rfl) ?_
                      exact k10 gb1 (by omega) (by omega) (by omega) (by omega) (by omega) g9 (by omega) (by omega) (by omega)
                    · refine y_ld (x := iv (-2147483648)) rfl rfl (fun d => rfl) ?_
                      refine y_rI rfl (Or.inl rfl) ?_
                      exact k11 gb1 (by omega) (by omega) (by omega) (by omega) (by omega) g9 (by omega) (by omega) (by omega)
          · refine y_ld (x := iv (-2147483648)) rfl rfl (fun d => rfl) ?_
            refine y_rI rfl (Or.inl rfl) ?_
            exact k12 gb1 (by omega) (by omega) (by omega) (by omega)
      · refine y_ld (x := iv (-2147483648)) rfl rfl (fun d => rfl) ?_
        refine y_rI rfl (Or.inl rfl) ?_
        exact k13 gb1 (by omega) (by omega)
set_option maxRecDepth 100000 in
set_option maxHeartbeats 4000000 in
theorem cs_trace (hC : ClF S) {x : Int} (hx : (-2147483648 ≤ x ∧ x < 2147483648)) (hr : 0 ≤ V 8 1 ∧ V 8 1 < 2147483648) (k0 : (x : Int) < 0 → K u w (some (iv (-1))) S V) (k1 : ¬ ((x : Int) < 0) → (x : Int) ≥ (V 8 1) → K u w (some (iv (-1))) S V) (k2 : ¬ ((x : Int) < 0) → ¬ ((x : Int) ≥ (V 8 1)) → (x : Int) < 20 → K u w (some (iv (V 9 ((x).toNat)))) S V) (k3 : ¬ ((x : Int) < 0) → ¬ ((x : Int) ≥ (V 8 1)) → ¬ ((x : Int) < 20) → K u w (some (iv (-1))) S V) : y_R X 1 92 u w [.ref 0, iv x] S V K := by
  refine y_ent (lv' := [(0, .ref 0), (1, iv x)]) (Nat.le_of_ble_eq_true rfl) rfl ?_
  refine y_ld (x := iv x) rfl rfl (fun d => rfl) ?_
  refine y_zlt rfl rfl rfl (by omega) (fun g1 => ?_) (fun g1 => ?_)
  · refine y_ic rfl rfl ?_
    refine y_go rfl rfl ?_
    refine y_rI rfl (Or.inl rfl) ?_
    exact k0 (by omega)
  · refine y_ld (x := iv x) rfl rfl (fun d => rfl) ?_
    refine y_ld (x := .ref 0) rfl rfl (fun d => rfl) ?_
    refine y_gR (i := 0) rfl rfl rfl (hC 0 _ _ rfl) rfl ?_
    refine y_gR (i := 13) rfl rfl rfl (hC 1 _ _ rfl) rfl ?_
    refine y_gI (i := 1) (e := (V 8 1)) rfl rfl rfl (hC 8 _ _ rfl) rfl rfl ?_
    refine y_jge rfl rfl rfl (by omega) (fun g2 => ?_) (fun g2 => ?_)
    · refine y_ic rfl rfl ?_
      refine y_go rfl rfl ?_
      refine y_rI rfl (Or.inl rfl) ?_
      exact k1 (by omega) (by omega)
    · refine y_ld (x := iv x) rfl rfl (fun d => rfl) ?_
      refine y_bi rfl rfl (by decide) ?_
      refine y_jlt rfl rfl rfl (by omega) (fun g3 => ?_) (fun g3 => ?_)
      · refine y_ld (x := .ref 0) rfl rfl (fun d => rfl) ?_
        refine y_gR (i := 0) rfl rfl rfl (hC 0 _ _ rfl) rfl ?_
        refine y_gR (i := 13) rfl rfl rfl (hC 1 _ _ rfl) rfl ?_
        refine y_gR (i := 0) rfl rfl rfl (hC 8 _ _ rfl) rfl ?_
        refine y_ld (x := iv x) rfl rfl (fun d => rfl) ?_
        refine y_ild (x := (V 9 ((x).toNat))) (q := ((x).toNat)) rfl rfl (cl_ia hC (k := 9) (N := 20) rfl) (by omega) (by decide) rfl rfl ?_
        refine y_rI rfl (Or.inl rfl) ?_
        exact k2 (by omega) (by omega) (by omega)
      · refine y_ic rfl rfl ?_
        refine y_go rfl rfl ?_
        refine y_rI rfl (Or.inl rfl) ?_
        exact k3 (by omega) (by omega) (by omega)
set_option maxRecDepth 100000 in
set_option maxHeartbeats 4000000 in
theorem ms_latest (hM : MdS S) (hB : 0 ≤ V 171 1 ∧ V 171 1 ≤ 8) {x : Int} (hx : (-2147483648 ≤ x ∧ x < 2147483648)) (k0 : ¬ (0 ≤ x ∧ x ≤ V 171 1 - 1) → K u w (some (iv (-1))) S V) (k1 : (0 ≤ x ∧ x ≤ V 171 1 - 1) → K u w (some (iv (V 171 ((186 + x).toNat)))) S V) : y_R X 3 139 u w [.ref 170, iv x] S V K := by
  refine y_ent (lv' := [(0, .ref 170), (1, iv x)]) (Nat.le_of_ble_eq_true rfl) rfl ?_
  refine y_ld (x := .ref 170) rfl rfl (fun d => rfl) ?_
  refine y_ld (x := iv x) rfl rfl (fun d => rfl) ?_
  refine y_cV (as := [.ref 170, iv x]) rfl rfl rfl rfl rfl (md170 hM) ⟨rfl, (Nat.le_of_ble_eq_true rfl), (Nat.le_of_ble_eq_true rfl)⟩ (by decide) (ct_isBox hM (by omega) ⟨rfl, by omega⟩ ?_)
  refine y_nv ?_
  refine y_beq rfl rfl rfl (fun g1 => ?_) (fun g1 => ?_)
  · refine y_ic rfl rfl ?_
    refine y_rI rfl (Or.inl rfl) ?_
    exact k0 g1
  · refine y_ld (x := .ref 170) rfl rfl (fun d => rfl) ?_
    refine y_gR (i := 1) rfl rfl rfl (md170 hM) rfl ?_
    refine y_si rfl rfl (by decide) ?_
    refine y_ld (x := iv x) rfl rfl (fun d => rfl) ?_
    refine y_add (z := (186 + x)) rfl rfl rfl ?_
    refine y_ild (x := (V 171 ((186 + x).toNat))) (q := ((186 + x).toNat)) rfl rfl (md171 hM) (by omega) (by decide) rfl rfl ?_
    refine y_go rfl rfl ?_
    refine y_rI rfl (Or.inl rfl) ?_
    exact k1 g1
set_option maxRecDepth 100000 in
set_option maxHeartbeats 4000000 in
theorem ms_led (hM : MdS S) (hB : 0 ≤ V 171 1 ∧ V 171 1 ≤ 8) {x : Int} (hx : (-2147483648 ≤ x ∧ x < 2147483648)) {y : Int} (hy : (-2147483648 ≤ y ∧ y < 2147483648)) (k0 : ¬ (0 ≤ x ∧ x ≤ V 171 1 - 1) → K u w (some (iv (-1))) S V) (k1 : (0 ≤ x ∧ x ≤ V 171 1 - 1) → ¬ (0 ≤ y ∧ y ≤ 15) → K u w (some (iv (-1))) S V) (k2 : (0 ≤ x ∧ x ≤ V 171 1 - 1) → (0 ≤ y ∧ y ≤ 15) → K u w (some (iv (V 171 (((1552 + (16 * x)) + y).toNat)))) S V) : y_R X 3 147 u w [.ref 170, iv x, iv y] S V K := by
  refine y_ent (lv' := [(0, .ref 170), (1, iv x), (2, iv y)]) (Nat.le_of_ble_eq_true rfl) rfl ?_
  refine y_ld (x := .ref 170) rfl rfl (fun d => rfl) ?_
  refine y_ld (x := iv x) rfl rfl (fun d => rfl) ?_
  refine y_cV (as := [.ref 170, iv x]) rfl rfl rfl rfl rfl (md170 hM) ⟨rfl, (Nat.le_of_ble_eq_true rfl), (Nat.le_of_ble_eq_true rfl)⟩ (by decide) (ct_isBox hM (by omega) ⟨rfl, by omega⟩ ?_)
  refine y_nv ?_
  refine y_beq rfl rfl rfl (fun g1 => ?_) (fun g1 => ?_)
  · refine y_ic rfl rfl ?_
    refine y_rI rfl (Or.inl rfl) ?_
    exact k0 g1
  · refine y_ld (x := iv y) rfl rfl (fun d => rfl) ?_
    refine y_cS (as := [iv y]) rfl (by decide) rfl rfl rfl rfl ⟨(Nat.le_of_ble_eq_true rfl), (Nat.le_of_ble_eq_true rfl)⟩ (by decide) (ct_isTalk (by omega) ?_)
    refine y_nv ?_
    refine y_beq rfl rfl rfl (fun g2 => ?_) (fun g2 => ?_)
    · refine y_ic rfl rfl ?_
      refine y_rI rfl (Or.inl rfl) ?_
      exact k1 g1 g2
    · refine y_ld (x := .ref 170) rfl rfl (fun d => rfl) ?_
      refine y_gR (i := 1) rfl rfl rfl (md170 hM) rfl ?_
      refine y_si rfl rfl (by decide) ?_
      refine y_bi rfl rfl (by decide) ?_
      refine y_ld (x := iv x) rfl rfl (fun d => rfl) ?_
      refine y_mul (z := (16 * x)) rfl rfl rfl ?_
      refine y_add (z := (1552 + (16 * x))) rfl rfl rfl ?_
      refine y_ld (x := iv y) rfl rfl (fun d => rfl) ?_
      refine y_add (z := ((1552 + (16 * x)) + y)) rfl rfl rfl ?_
      refine y_ild (x := (V 171 (((1552 + (16 * x)) + y).toNat))) (q := (((1552 + (16 * x)) + y).toNat)) rfl rfl (md171 hM) (by omega) (by decide) rfl rfl ?_
      refine y_go rfl rfl ?_
      refine y_rI rfl (Or.inl rfl) ?_
      exact k2 g1 g2
set_option maxRecDepth 100000 in
set_option maxHeartbeats 4000000 in
theorem ms_cell (hM : MdS S) (hB : 0 ≤ V 171 1 ∧ V 171 1 ≤ 8) {x : Int} (hx : (-2147483648 ≤ x ∧ x < 2147483648)) {l : Int} (hl : (-2147483648 ≤ l ∧ l < 2147483648)) {d : Int} (hd : (-2147483648 ≤ d ∧ d < 2147483648)) {o : Int} (ho : (-2147483648 ≤ o ∧ o < 2147483648)) (k0 : ¬ (0 ≤ x ∧ x ≤ V 171 1 - 1) → K u w (some (iv (-2147483648))) S V) (k1 : (0 ≤ x ∧ x ≤ V 171 1 - 1) → ¬ (0 ≤ l ∧ l ≤ 2) → K u w (some (iv (-2147483648))) S V) (k2 : (0 ≤ x ∧ x ≤ V 171 1 - 1) → (0 ≤ l ∧ l ≤ 2) → ¬ (0 ≤ d ∧ d ≤ 3) → K u w (some (iv (-2147483648))) S V) (k3 : (0 ≤ x ∧ x ≤ V 171 1 - 1) → (0 ≤ l ∧ l ≤ 2) → (0 ≤ d ∧ d ≤ 3) → (l : Int) ≠ 0 → (l : Int) ≠ 1 → (l : Int) ≠ 0 → (l : Int) ≠ 1 → K u w (some (iv (V 171 ((((200 + (84 * x)) + d) + 80).toNat)))) S V) (k4 : (0 ≤ x ∧ x ≤ V 171 1 - 1) → (0 ≤ l ∧ l ≤ 2) → (0 ≤ d ∧ d ≤ 3) → (l : Int) ≠ 0 → (l : Int) ≠ 1 → (l : Int) ≠ 0 → ¬ ((l : Int) ≠ 1) → K u w (some (iv (V 171 (((((200 + (84 * x)) + d) + 64) + (4 * o)).toNat)))) S V) (k5 : (0 ≤ x ∧ x ≤ V 171 1 - 1) → (0 ≤ l ∧ l ≤ 2) → (0 ≤ d ∧ d ≤ 3) → (l : Int) ≠ 0 → (l : Int) ≠ 1 → ¬ ((l : Int) ≠ 0) → K u w (some (iv (V 171 ((((200 + (84 * x)) + d) + (4 * o)).toNat)))) S V) (k6 : (0 ≤ x ∧ x ≤ V 171 1 - 1) → (0 ≤ l ∧ l ≤ 2) → (0 ≤ d ∧ d ≤ 3) → (l : Int) ≠ 0 → ¬ ((l : Int) ≠ 1) → (0 ≤ o ∧ o ≤ 3) → (l : Int) ≠ 0 → (l : Int) ≠ 1 → K u w (some (iv (V 171 ((((200 + (84 * x)) + d) + 80).toNat)))) S V) (k7 : (0 ≤ x ∧ x ≤ V 171 1 - 1) → (0 ≤ l ∧ l ≤ 2) → (0 ≤ d ∧ d ≤ 3) → (l : Int) ≠ 0 → ¬ ((l : Int) ≠ 1) → (0 ≤ o ∧ o ≤ 3) → (l : Int) ≠ 0 → ¬ ((l : Int) ≠ 1) → K u w (some (iv (V 171 (((((200 + (84 * x)) + d) + 64) + (4 * o)).toNat)))) S V) (k8 : (0 ≤ x ∧ x ≤ V 171 1 - 1) → (0 ≤ l ∧ l ≤ 2) → (0 ≤ d ∧ d ≤ 3) → (l : Int) ≠ 0 → ¬ ((l : Int) ≠ 1) → (0 ≤ o ∧ o ≤ 3) → ¬ ((l : Int) ≠ 0) → K u w (some (iv (V 171 ((((200 + (84 * x)) + d) + (4 * o)).toNat)))) S V) (k9 : (0 ≤ x ∧ x ≤ V 171 1 - 1) → (0 ≤ l ∧ l ≤ 2) → (0 ≤ d ∧ d ≤ 3) → (l : Int) ≠ 0 → ¬ ((l : Int) ≠ 1) → ¬ (0 ≤ o ∧ o ≤ 3) → K u w (some (iv (-2147483648))) S V) (k10 : (0 ≤ x ∧ x ≤ V 171 1 - 1) → (0 ≤ l ∧ l ≤ 2) → (0 ≤ d ∧ d ≤ 3) → ¬ ((l : Int) ≠ 0) → ¬ (0 ≤ o ∧ o ≤ 15) → K u w (some (iv (-2147483648))) S V) (k11 : (0 ≤ x ∧ x ≤ V 171 1 - 1) → (0 ≤ l ∧ l ≤ 2) → (0 ≤ d ∧ d ≤ 3) → ¬ ((l : Int) ≠ 0) → (0 ≤ o ∧ o ≤ 15) → (l : Int) ≠ 1 → (l : Int) ≠ 0 → (l : Int) ≠ 1 → K u w (some (iv (V 171 ((((200 + (84 * x)) + d) + 80).toNat)))) S V) (k12 : (0 ≤ x ∧ x ≤ V 171 1 - 1) → (0 ≤ l ∧ l ≤ 2) → (0 ≤ d ∧ d ≤ 3) → ¬ ((l : Int) ≠ 0) → (0 ≤ o ∧ o ≤ 15) → (l : Int) ≠ 1 → (l : Int) ≠ 0 → ¬ ((l : Int) ≠ 1) → K u w (some (iv (V 171 (((((200 + (84 * x)) + d) + 64) + (4 * o)).toNat)))) S V) (k13 : (0 ≤ x ∧ x ≤ V 171 1 - 1) → (0 ≤ l ∧ l ≤ 2) → (0 ≤ d ∧ d ≤ 3) → ¬ ((l : Int) ≠ 0) → (0 ≤ o ∧ o ≤ 15) → (l : Int) ≠ 1 → ¬ ((l : Int) ≠ 0) → K u w (some (iv (V 171 ((((200 + (84 * x)) + d) + (4 * o)).toNat)))) S V) (k14 : (0 ≤ x ∧ x ≤ V 171 1 - 1) → (0 ≤ l ∧ l ≤ 2) → (0 ≤ d ∧ d ≤ 3) → ¬ ((l : Int) ≠ 0) → (0 ≤ o ∧ o ≤ 15) → ¬ ((l : Int) ≠ 1) → (0 ≤ o ∧ o ≤ 3) → (l : Int) ≠ 0 → (l : Int) ≠ 1 → K u w (some (iv (V 171 ((((200 + (84 * x)) + d) + 80).toNat)))) S V) (k15 : (0 ≤ x ∧ x ≤ V 171 1 - 1) → (0 ≤ l ∧ l ≤ 2) → (0 ≤ d ∧ d ≤ 3) → ¬ ((l : Int) ≠ 0) → (0 ≤ o ∧ o ≤ 15) → ¬ ((l : Int) ≠ 1) → (0 ≤ o ∧ o ≤ 3) → (l : Int) ≠ 0 → ¬ ((l : Int) ≠ 1) → K u w (some (iv (V 171 (((((200 + (84 * x)) + d) + 64) + (4 * o)).toNat)))) S V) (k16 : (0 ≤ x ∧ x ≤ V 171 1 - 1) → (0 ≤ l ∧ l ≤ 2) → (0 ≤ d ∧ d ≤ 3) → ¬ ((l : Int) ≠ 0) → (0 ≤ o ∧ o ≤ 15) → ¬ ((l : Int) ≠ 1) → (0 ≤ o ∧ o ≤ 3) → ¬ ((l : Int) ≠ 0) → K u w (some (iv (V 171 ((((200 + (84 * x)) + d) + (4 * o)).toNat)))) S V) (k17 : (0 ≤ x ∧ x ≤ V 171 1 - 1) → (0 ≤ l ∧ l ≤ 2) → (0 ≤ d ∧ d ≤ 3) → ¬ ((l : Int) ≠ 0) → (0 ≤ o ∧ o ≤ 15) → ¬ ((l : Int) ≠ 1) → ¬ (0 ≤ o ∧ o ≤ 3) → K u w (some (iv (-2147483648))) S V) : y_R X 3 138 u w [.ref 170, iv x, iv l, iv d, iv o] S V K := by
  refine y_ent (lv' := [(0, .ref 170), (1, iv x), (2, iv l), (3, iv d), (4, iv o)]) (Nat.le_of_ble_eq_true rfl) rfl ?_
  refine y_ld (x := .ref 170) rfl rfl (fun d => rfl) ?_
  refine y_ld (x := iv x) rfl rfl (fun d => rfl) ?_
  refine y_cV (as := [.ref 170, iv x]) rfl rfl rfl rfl rfl (md170 hM) ⟨rfl, (Nat.le_of_ble_eq_true rfl), (Nat.le_of_ble_eq_true rfl)⟩ (by decide) (ct_isBox hM (by omega) ⟨rfl, by omega⟩ ?_)
  refine y_nv ?_
  refine y_beq rfl rfl rfl (fun g1 => ?_) (fun g1 => ?_)
  · refine y_ld (x := iv (-2147483648)) rfl rfl (fun d => rfl) ?_
    refine y_rI rfl (Or.inl rfl) ?_
    exact k0 g1
  · refine y_ld (x := iv l) rfl rfl (fun d => rfl) ?_
    refine y_ic rfl rfl ?_
    refine y_ic rfl rfl ?_
    refine y_cS (as := [iv l, iv 0, iv 2]) rfl (by decide) rfl rfl rfl rfl ⟨(Nat.le_of_ble_eq_true rfl), (Nat.le_of_ble_eq_true rfl)⟩ (by decide) (ct_in (by omega) ?_)
    refine y_nv ?_
    refine y_beq rfl rfl rfl (fun g2 => ?_) (fun g2 => ?_)
    · refine y_ld (x := iv (-2147483648)) rfl rfl (fun d => rfl) ?_
      refine y_rI rfl (Or.inl rfl) ?_
      exact k1 g1 g2
    · refine y_ld (x := iv d) rfl rfl (fun d => rfl) ?_
      refine y_cS (as := [iv d]) rfl (by decide) rfl rfl rfl rfl ⟨(Nat.le_of_ble_eq_true rfl), (Nat.le_of_ble_eq_true rfl)⟩ (by decide) (ct_isFour (by omega) ?_)
      refine y_nv ?_
      refine y_beq rfl rfl rfl (fun g3 => ?_) (fun g3 => ?_)
      · refine y_ld (x := iv (-2147483648)) rfl rfl (fun d => rfl) ?_
        refine y_rI rfl (Or.inl rfl) ?_
        exact k2 g1 g2 g3
      · refine y_ld (x := iv l) rfl rfl (fun d => rfl) ?_
        refine y_zne rfl rfl rfl (by omega) (fun g4 => ?_) (fun g4 => ?_)
        · refine y_ld (x := iv l) rfl rfl (fun d => rfl) ?_
          refine y_ic rfl rfl ?_
          refine y_jne rfl rfl rfl (by omega) (fun g5 => ?_) (fun g5 => ?_)
          · refine y_si rfl rfl (by decide) ?_
            refine y_bi rfl rfl (by decide) ?_
            refine y_ld (x := iv x) rfl rfl (fun d => rfl) ?_
            refine y_mul (z := (84 * x)) rfl rfl rfl ?_
            refine y_add (z := (200 + (84 * x))) rfl rfl rfl ?_
            refine y_ld (x := iv d) rfl rfl (fun d => rfl) ?_
            refine y_add (z := ((200 + (84 * x)) + d)) rfl rfl rfl ?_
            refine y_st (lv' := [(5, iv ((200 + (84 * x)) + d)), (0, .ref 170), (1, iv x), (2, iv l), (3, iv d), (4, iv o)]) rfl rfl (fun d => rfl) ?_
            refine y_ld (x := .ref 170) rfl rfl (fun d => rfl) ?_
            refine y_gR (i := 1) rfl rfl rfl (md170 hM) rfl ?_
            refine y_ld (x := iv l) rfl rfl (fun d => rfl) ?_
            refine y_zne rfl rfl rfl (by omega) (fun g6 => ?_) (fun g6 => ?_)
            · refine y_ld (x := iv l) rfl rfl (fun d => rfl) ?_
              refine y_ic rfl rfl ?_
              refine y_jne rfl rfl rfl (by omega) (fun g7 => ?_) (fun g7 => ?_)
              · refine y_ld (x := iv ((200 + (84 * x)) + d)) rfl rfl (fun d => rfl) ?_
                refine y_bi rfl rfl (by decide) ?_
                refine y_add (z := (((200 + (84 * x)) + d) + 80)) rfl rfl rfl ?_
                refine y_ild (x := (V 171 ((((200 + (84 * x)) + d) + 80).toNat))) (q := ((((200 + (84 * x)) + d) + 80).toNat)) rfl rfl (md171 hM) (by omega) (by decide) rfl rfl ?_
                refine y_rI rfl (Or.inl rfl) ?_
                exact k3 g1 g2 g3 (by omega) (by omega) (by omega) (by omega)
              · refine y_ld (x := iv ((200 + (84 * x)) + d)) rfl rfl (fun d => rfl) ?_
                refine y_bi rfl rfl (by decide) ?_
                refine y_add (z := (((200 + (84 * x)) + d) + 64)) rfl rfl rfl ?_
                refine y_ic rfl rfl ?_
                refine y_ld (x := iv o) rfl rfl (fun d => rfl) ?_
                refine y_mul (z := (4 * o)) rfl rfl rfl ?_
                refine y_add (z := ((((200 + (84 * x)) + d) + 64) + (4 * o))) rfl rfl rfl ?_
                refine y_go rfl rfl ?_
                refine y_ild (x := (V 171 (((((200 + (84 * x)) + d) + 64) + (4 * o)).toNat))) (q := (((((200 + (84 * x)) + d) + 64) + (4 * o)).toNat)) rfl rfl (md171 hM) (by omega) (by decide) rfl rfl ?_
                refine y_rI rfl (Or.inl rfl) ?_
                exact k4 g1 g2 g3 (by omega) (by omega) (by omega) (by omega)
            · refine y_ld (x := iv ((200 + (84 * x)) + d)) rfl rfl (fun d => rfl) ?_
              refine y_ic rfl rfl ?_
              refine y_ld (x := iv o) rfl rfl (fun d => rfl) ?_
              refine y_mul (z := (4 * o)) rfl rfl rfl ?_
              refine y_add (z := (((200 + (84 * x)) + d) + (4 * o))) rfl rfl rfl ?_
              refine y_go rfl rfl ?_
              refine y_ild (x := (V 171 ((((200 + (84 * x)) + d) + (4 * o)).toNat))) (q := ((((200 + (84 * x)) + d) + (4 * o)).toNat)) rfl rfl (md171 hM) (by omega) (by decide) rfl rfl ?_
              refine y_rI rfl (Or.inl rfl) ?_
              exact k5 g1 g2 g3 (by omega) (by omega) (by omega)
          · refine y_ld (x := iv o) rfl rfl (fun d => rfl) ?_
            refine y_cS (as := [iv o]) rfl (by decide) rfl rfl rfl rfl ⟨(Nat.le_of_ble_eq_true rfl), (Nat.le_of_ble_eq_true rfl)⟩ (by decide) (ct_isFour (by omega) ?_)
            refine y_nv ?_
            refine y_bne rfl rfl rfl (fun g8 => ?_) (fun g8 => ?_)
            · refine y_si rfl rfl (by decide) ?_
              refine y_bi rfl rfl (by decide) ?_
              refine y_ld (x := iv x) rfl rfl (fun d => rfl) ?_
              refine y_mul (z := (84 * x)) rfl rfl rfl ?_
              refine y_add (z := (200 + (84 * x))) rfl rfl rfl ?_
              refine y_ld (x := iv d) rfl rfl (fun d => rfl) ?_
              refine y_add (z := ((200 + (84 * x)) + d)) rfl rfl rfl ?_
              refine y_st (lv' := [(5, iv ((200 + (84 * x)) + d)), (0, .ref 170), (1, iv x), (2, iv l), (3, iv d), (4, iv o)]) rfl rfl (fun d => rfl) ?_
              refine y_ld (x := .ref 170) rfl rfl (fun d => rfl) ?_
              refine y_gR (i := 1) rfl rfl rfl (md170 hM) rfl ?_
              refine y_ld (x := iv l) rfl rfl (fun d => rfl) ?_
              refine y_zne rfl rfl rfl (by omega) (fun g9 => ?_) (fun g9 => ?_)
              · refine y_ld (x := iv l) rfl rfl (fun d => rfl) ?_
                refine y_ic rfl rfl ?_
                refine y_jne rfl rfl rfl (by omega) (fun g10 => ?_) (fun g10 => ?_)
                · refine y_ld (x := iv ((200 + (84 * x)) + d)) rfl rfl (fun d => rfl) ?_
                  refine y_bi rfl rfl (by decide) ?_
                  refine y_add (z := (((200 + (84 * x)) + d) + 80)) rfl rfl rfl ?_
                  refine y_ild (x := (V 171 ((((200 + (84 * x)) + d) + 80).toNat))) (q := ((((200 + (84 * x)) + d) + 80).toNat)) rfl rfl (md171 hM) (by omega) (by decide) rfl rfl ?_
                  refine y_rI rfl (Or.inl rfl) ?_
                  exact k6 g1 g2 g3 (by omega) (by omega) g8 (by omega) (by omega)
                · refine y_ld (x := iv ((200 + (84 * x)) + d)) rfl rfl (fun d => rfl) ?_
                  refine y_bi rfl rfl (by decide) ?_
                  refine y_add (z := (((200 + (84 * x)) + d) + 64)) rfl rfl rfl ?_
                  refine y_ic rfl rfl ?_
                  refine y_ld (x := iv o) rfl rfl (fun d => rfl) ?_
                  refine y_mul (z := (4 * o)) rfl rfl rfl ?_
                  refine y_add (z := ((((200 + (84 * x)) + d) + 64) + (4 * o))) rfl rfl rfl ?_
                  refine y_go rfl rfl ?_
                  refine y_ild (x := (V 171 (((((200 + (84 * x)) + d) + 64) + (4 * o)).toNat))) (q := (((((200 + (84 * x)) + d) + 64) + (4 * o)).toNat)) rfl rfl (md171 hM) (by omega) (by decide) rfl rfl ?_
                  refine y_rI rfl (Or.inl rfl) ?_
                  exact k7 g1 g2 g3 (by omega) (by omega) g8 (by omega) (by omega)
              · refine y_ld (x := iv ((200 + (84 * x)) + d)) rfl rfl (fun d => rfl) ?_
                refine y_ic rfl rfl ?_
                refine y_ld (x := iv o) rfl rfl (fun d => rfl) ?_
                refine y_mul (z := (4 * o)) rfl rfl rfl ?_
                refine y_add (z := (((200 + (84 * x)) + d) + (4 * o))) rfl rfl rfl ?_
                refine y_go rfl rfl ?_
                refine y_ild (x := (V 171 ((((200 + (84 * x)) + d) + (4 * o)).toNat))) (q := ((((200 + (84 * x)) + d) + (4 * o)).toNat)) rfl rfl (md171 hM) (by omega) (by decide) rfl rfl ?_
                refine y_rI rfl (Or.inl rfl) ?_
                exact k8 g1 g2 g3 (by omega) (by omega) g8 (by omega)
            · refine y_ld (x := iv (-2147483648)) rfl rfl (fun d => rfl) ?_
              refine y_rI rfl (Or.inl rfl) ?_
              exact k9 g1 g2 g3 (by omega) (by omega) g8
        · refine y_ld (x := iv o) rfl rfl (fun d => rfl) ?_
          refine y_cS (as := [iv o]) rfl (by decide) rfl rfl rfl rfl ⟨(Nat.le_of_ble_eq_true rfl), (Nat.le_of_ble_eq_true rfl)⟩ (by decide) (ct_isTalk (by omega) ?_)
          refine y_nv ?_
          refine y_beq rfl rfl rfl (fun g11 => ?_) (fun g11 => ?_)
          · refine y_ld (x := iv (-2147483648)) rfl rfl (fun d => rfl) ?_
            refine y_rI rfl (Or.inl rfl) ?_
            exact k10 g1 g2 g3 (by omega) g11
          · refine y_ld (x := iv l) rfl rfl (fun d => rfl) ?_
            refine y_ic rfl rfl ?_
            refine y_jne rfl rfl rfl (by omega) (fun g12 => ?_) (fun g12 => ?_)
            · refine y_si rfl rfl (by decide) ?_
              refine y_bi rfl rfl (by decide) ?_
              refine y_ld (x := iv x) rfl rfl (fun d => rfl) ?_
              refine y_mul (z := (84 * x)) rfl rfl rfl ?_
              refine y_add (z := (200 + (84 * x))) rfl rfl rfl ?_
              refine y_ld (x := iv d) rfl rfl (fun d => rfl) ?_
              refine y_add (z := ((200 + (84 * x)) + d)) rfl rfl rfl ?_
              refine y_st (lv' := [(5, iv ((200 + (84 * x)) + d)), (0, .ref 170), (1, iv x), (2, iv l), (3, iv d), (4, iv o)]) rfl rfl (fun d => rfl) ?_
              refine y_ld (x := .ref 170) rfl rfl (fun d => rfl) ?_
              refine y_gR (i := 1) rfl rfl rfl (md170 hM) rfl ?_
              refine y_ld (x := iv l) rfl rfl (fun d => rfl) ?_
              refine y_zne rfl rfl rfl (by omega) (fun g13 => ?_) (fun g13 => ?_)
              · refine y_ld (x := iv l) rfl rfl (fun d => rfl) ?_
                refine y_ic rfl rfl ?_
                refine y_jne rfl rfl rfl (by omega) (fun g14 => ?_) (fun g14 => ?_)
                · refine y_ld (x := iv ((200 + (84 * x)) + d)) rfl rfl (fun d => rfl) ?_
                  refine y_bi rfl rfl (by decide) ?_
                  refine y_add (z := (((200 + (84 * x)) + d) + 80)) rfl rfl rfl ?_
                  refine y_ild (x := (V 171 ((((200 + (84 * x)) + d) + 80).toNat))) (q := ((((200 + (84 * x)) + d) + 80).toNat)) rfl rfl (md171 hM) (by omega) (by decide) rfl rfl ?_
                  refine y_rI rfl (Or.inl rfl) ?_
                  exact k11 g1 g2 g3 (by omega) g11 (by omega) (by omega) (by omega)
                · refine y_ld (x := iv ((200 + (84 * x)) + d)) rfl rfl (fun d => rfl) ?_
                  refine y_bi rfl rfl (by decide) ?_
                  refine y_add (z := (((200 + (84 * x)) + d) + 64)) rfl rfl rfl ?_
                  refine y_ic rfl rfl ?_
                  refine y_ld (x := iv o) rfl rfl (fun d => rfl) ?_
                  refine y_mul (z := (4 * o)) rfl rfl rfl ?_
                  refine y_add (z := ((((200 + (84 * x)) + d) + 64) + (4 * o))) rfl rfl rfl ?_
                  refine y_go rfl rfl ?_
                  refine y_ild (x := (V 171 (((((200 + (84 * x)) + d) + 64) + (4 * o)).toNat))) (q := (((((200 + (84 * x)) + d) + 64) + (4 * o)).toNat)) rfl rfl (md171 hM) (by omega) (by decide) rfl rfl ?_
                  refine y_rI rfl (Or.inl rfl) ?_
                  exact k12 g1 g2 g3 (by omega) g11 (by omega) (by omega) (by omega)
              · refine y_ld (x := iv ((200 + (84 * x)) + d)) rfl rfl (fun d => rfl) ?_
                refine y_ic rfl rfl ?_
                refine y_ld (x := iv o) rfl rfl (fun d => rfl) ?_
                refine y_mul (z := (4 * o)) rfl rfl rfl ?_
                refine y_add (z := (((200 + (84 * x)) + d) + (4 * o))) rfl rfl rfl ?_
                refine y_go rfl rfl ?_
                refine y_ild (x := (V 171 ((((200 + (84 * x)) + d) + (4 * o)).toNat))) (q := ((((200 + (84 * x)) + d) + (4 * o)).toNat)) rfl rfl (md171 hM) (by omega) (by decide) rfl rfl ?_
                refine y_rI rfl (Or.inl rfl) ?_
                exact k13 g1 g2 g3 (by omega) g11 (by omega) (by omega)
            · refine y_ld (x := iv o) rfl rfl (fun d => rfl) ?_
              refine y_cS (as := [iv o]) rfl (by decide) rfl rfl rfl rfl ⟨(Nat.le_of_ble_eq_true rfl), (Nat.le_of_ble_eq_true rfl)⟩ (by decide) (ct_isFour (by omega) ?_)
              refine y_nv ?_
              refine y_bne rfl rfl rfl (fun g15 => ?_) (fun g15 => ?_)
              · refine y_si rfl rfl (by decide) ?_
                refine y_bi rfl rfl (by decide) ?_
                refine y_ld (x := iv x) rfl rfl (fun d => rfl) ?_
                refine y_mul (z := (84 * x)) rfl rfl rfl ?_
                refine y_add (z := (200 + (84 * x))) rfl rfl rfl ?_
                refine y_ld (x := iv d) rfl rfl (fun d => rfl) ?_
                refine y_add (z := ((200 + (84 * x)) + d)) rfl rfl rfl ?_
                refine y_st (lv' := [(5, iv ((200 + (84 * x)) + d)), (0, .ref 170), (1, iv x), (2, iv l), (3, iv d), (4, iv o)]) rfl rfl (fun d => rfl) ?_
                refine y_ld (x := .ref 170) rfl rfl (fun d => rfl) ?_
                refine y_gR (i := 1) rfl rfl rfl (md170 hM) rfl ?_
                refine y_ld (x := iv l) rfl rfl (fun d => rfl) ?_
                refine y_zne rfl rfl rfl (by omega) (fun g16 => ?_) (fun g16 => ?_)
                · refine y_ld (x := iv l) rfl rfl (fun d => rfl) ?_
                  refine y_ic rfl rfl ?_
                  refine y_jne rfl rfl rfl (by omega) (fun g17 => ?_) (fun g17 => ?_)
                  · refine y_ld (x := iv ((200 + (84 * x)) + d)) rfl rfl (fun d => rfl) ?_
                    refine y_bi rfl rfl (by decide) ?_
                    refine y_add (z := (((200 + (84 * x)) + d) + 80)) rfl rfl rfl ?_
                    refine y_ild (x := (V 171 ((((200 + (84 * x)) + d) + 80).toNat))) (q := ((((200 + (84 * x)) + d) + 80).toNat)) rfl rfl (md171 hM) (by omega) (by decide) rfl rfl ?_
                    refine y_rI rfl (Or.inl rfl) ?_
                    exact k14 g1 g2 g3 (by omega) g11 (by omega) g15 (by omega) (by omega)
                  · refine y_ld (x := iv ((200 + (84 * x)) + d)) rfl rfl (fun d => rfl) ?_
                    refine y_bi rfl rfl (by decide) ?_
                    refine y_add (z := (((200 + (84 * x)) + d) + 64)) rfl rfl rfl ?_
                    refine y_ic rfl rfl ?_
                    refine y_ld (x := iv o) rfl rfl (fun d => rfl) ?_
                    refine y_mul (z := (4 * o)) rfl rfl rfl ?_
                    refine y_add (z := ((((200 + (84 * x)) + d) + 64) + (4 * o))) rfl rfl rfl ?_
                    refine y_go rfl rfl ?_
                    refine y_ild (x := (V 171 (((((200 + (84 * x)) + d) + 64) + (4 * o)).toNat))) (q := (((((200 + (84 * x)) + d) + 64) + (4 * o)).toNat)) rfl rfl (md171 hM) (by omega) (by decide) rfl rfl ?_
                    refine y_rI rfl (Or.inl rfl) ?_
                    exact k15 g1 g2 g3 (by omega) g11 (by omega) g15 (by omega) (by omega)
                · refine y_ld (x := iv ((200 + (84 * x)) + d)) rfl rfl (fun d => rfl) ?_
                  refine y_ic rfl rfl ?_
                  refine y_ld (x := iv o) rfl rfl (fun d => rfl) ?_
                  refine y_mul (z := (4 * o)) rfl rfl rfl ?_
                  refine y_add (z := (((200 + (84 * x)) + d) + (4 * o))) rfl rfl rfl ?_
                  refine y_go rfl rfl ?_
                  refine y_ild (x := (V 171 ((((200 + (84 * x)) + d) + (4 * o)).toNat))) (q := ((((200 + (84 * x)) + d) + (4 * o)).toNat)) rfl rfl (md171 hM) (by omega) (by decide) rfl rfl ?_
                  refine y_rI rfl (Or.inl rfl) ?_
                  exact k16 g1 g2 g3 (by omega) g11 (by omega) g15 (by omega)
              · refine y_ld (x := iv (-2147483648)) rfl rfl (fun d => rfl) ?_
                refine y_rI rfl (Or.inl rfl) ?_
                exact k17 g1 g2 g3 (by omega) g11 (by omega) g15
set_option maxRecDepth 100000 in
set_option maxHeartbeats 4000000 in
theorem ms_lines (hM : MdS S) (hT : 0 ≤ V 171 0 ∧ V 171 0 ≤ 8) (hl : ∀ i : Nat, i < 8 → 0 ≤ V 175 i ∧ V 175 i ≤ 8) {x : Int} (hx : (-2147483648 ≤ x ∧ x < 2147483648)) {y : Int} (hy : (-2147483648 ≤ y ∧ y < 2147483648)) (k0 : ¬ (0 ≤ x ∧ x ≤ V 171 0 - 1) → K u w (some (iv (-1))) S V) (k1 : (0 ≤ x ∧ x ≤ V 171 0 - 1) → ((-1) ≤ y ∧ y ≤ ((V 175 ((x).toNat)) - 1)) → (y : Int) ≠ (-1) → K u w (some (iv (V 176 (((8 * x) + y).toNat)))) S V) (k2 : (0 ≤ x ∧ x ≤ V 171 0 - 1) → ((-1) ≤ y ∧ y ≤ ((V 175 ((x).toNat)) - 1)) → ¬ ((y : Int) ≠ (-1)) → K u w (some (iv (V 175 ((x).toNat)))) S V) (k3 : (0 ≤ x ∧ x ≤ V 171 0 - 1) → ¬ ((-1) ≤ y ∧ y ≤ ((V 175 ((x).toNat)) - 1)) → K u w (some (iv (-1))) S V) : y_R X 3 125 u w [.ref 170, iv x, iv y] S V K := by
  refine y_ent (lv' := [(0, .ref 170), (1, iv x), (2, iv y)]) (Nat.le_of_ble_eq_true rfl) rfl ?_
  refine y_ld (x := .ref 170) rfl rfl (fun d => rfl) ?_
  refine y_ld (x := iv x) rfl rfl (fun d => rfl) ?_
  refine y_cV (as := [.ref 170, iv x]) rfl rfl rfl rfl rfl (md170 hM) ⟨rfl, (Nat.le_of_ble_eq_true rfl), (Nat.le_of_ble_eq_true rfl)⟩ (by decide) (ct_isText hM (by omega) ⟨rfl, by omega⟩ ?_)
  refine y_nv ?_
  refine y_beq rfl rfl rfl (fun g1 => ?_) (fun g1 => ?_)
  · refine y_ic rfl rfl ?_
    refine y_rI rfl (Or.inl rfl) ?_
    exact k0 g1
  · refine y_ld (x := iv y) rfl rfl (fun d => rfl) ?_
    refine y_ic rfl rfl ?_
    refine y_ld (x := .ref 170) rfl rfl (fun d => rfl) ?_
    refine y_gR (i := 6) rfl rfl rfl (md170 hM) rfl ?_
    refine y_ld (x := iv x) rfl rfl (fun d => rfl) ?_
    have hl8 := hl x.toNat (by omega)
    refine y_ild (x := (V 175 ((x).toNat))) (q := ((x).toNat)) rfl rfl (md175 hM) (by omega) (by decide) rfl rfl ?_
    refine y_ic rfl rfl ?_
    refine y_sub (z := ((V 175 ((x).toNat)) - 1)) rfl rfl rfl ?_
    refine y_cS (as := [iv y, iv (-1), iv ((V 175 ((x).toNat)) - 1)]) rfl (by decide) rfl rfl rfl rfl ⟨(Nat.le_of_ble_eq_true rfl), (Nat.le_of_ble_eq_true rfl)⟩ (by decide) (ct_in (by omega) ?_)
    refine y_nv ?_
    refine y_bne rfl rfl rfl (fun g2 => ?_) (fun g2 => ?_)
    · refine y_ld (x := iv y) rfl rfl (fun d => rfl) ?_
      refine y_ic rfl rfl ?_
      refine y_jne rfl rfl rfl (by omega) (fun g3 => ?_) (fun g3 => ?_)
      · refine y_ld (x := .ref 170) rfl rfl (fun d => rfl) ?_
        refine y_gR (i := 7) rfl rfl rfl (md170 hM) rfl ?_
        refine y_bi rfl rfl (by decide) ?_
        refine y_ld (x := iv x) rfl rfl (fun d => rfl) ?_
        refine y_mul (z := (8 * x)) rfl rfl rfl ?_
        refine y_ld (x := iv y) rfl rfl (fun d => rfl) ?_
        refine y_add (z := ((8 * x) + y)) rfl rfl rfl ?_
        refine y_ild (x := (V 176 (((8 * x) + y).toNat))) (q := (((8 * x) + y).toNat)) rfl rfl (md176 hM) (by omega) (by decide) rfl rfl ?_
        refine y_rI rfl (Or.inl rfl) ?_
        exact k1 g1 g2 (by omega)
      · refine y_ld (x := .ref 170) rfl rfl (fun d => rfl) ?_
        refine y_gR (i := 6) rfl rfl rfl (md170 hM) rfl ?_
        refine y_ld (x := iv x) rfl rfl (fun d => rfl) ?_
        refine y_ild (x := (V 175 ((x).toNat))) (q := ((x).toNat)) rfl rfl (md175 hM) (by omega) (by decide) rfl rfl ?_
        refine y_go rfl rfl ?_
        refine y_rI rfl (Or.inl rfl) ?_
        exact k2 g1 g2 (by omega)
    · refine y_ic rfl rfl ?_
      refine y_rI rfl (Or.inl rfl) ?_
      exact k3 g1 g2
end
