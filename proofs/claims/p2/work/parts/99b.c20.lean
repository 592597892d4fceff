/-! row and copy, both sides -/
section
variable {X : Nat → List Int32} {u w : Nat} {S : m_H} {V : v_V} {K : v_K}
set_option maxRecDepth 100000 in
set_option maxHeartbeats 4000000 in
theorem cs_row (hC : ClF S) (hB : 0 ≤ V 1 5 ∧ V 1 5 ≤ 8) (hL : ∀ b : Nat, (b : Int) < V 1 5 → ∀ t : Nat, t < 16 → 0 ≤ V (10 + 6 * b + 1) t ∧ V (10 + 6 * b + 1) t ≤ 7) {x : Int} (hx : (-2147483648 ≤ x ∧ x < 2147483648)) (hn : 0 ≤ V 1 7 ∧ V 1 7 ≤ 6) (k0 : (x : Int) ≠ (-1) → ¬ (0 ≤ x ∧ x < V 1 5) → K u w (some (iv (-1))) S V) (k1 : (x : Int) ≠ (-1) → 0 ≤ x ∧ x < V 1 5 → (∃ b : Nat, (b : Int) < V 1 5 ∧ (b : Int) ≠ x ∧ ∃ t : Nat, t < 16 ∧ V (10 + 6 * b + 1) t = x) → ¬ ((1 : Int) = 0) → K u w (some (iv (-3))) S V) (k2 : (x : Int) ≠ (-1) → 0 ≤ x ∧ x < V 1 5 → (∀ b : Nat, (b : Int) < V 1 5 → (b : Int) ≠ x → ∀ t : Nat, t < 16 → V (10 + 6 * b + 1) t ≠ x) → (0 : Int) = 0 → (V 1 7 : Int) < 6 → K u w (some (iv ((V 1 7) + 1))) S (v_up (v_up V 5 ((V 1 7).toNat) x) 1 7 ((V 1 7) + 1))) (k3 : (x : Int) ≠ (-1) → 0 ≤ x ∧ x < V 1 5 → (∀ b : Nat, (b : Int) < V 1 5 → (b : Int) ≠ x → ∀ t : Nat, t < 16 → V (10 + 6 * b + 1) t ≠ x) → (0 : Int) = 0 → ¬ ((V 1 7 : Int) < 6) → K u w (some (iv (-4))) S V) (k4 : ¬ ((x : Int) ≠ (-1)) → K u w (some (iv 0)) S (v_up V 1 7 0)) : y_R X 3 78 u w [.ref 0, iv x] S V K := by
  refine y_ent (lv' := [(0, .ref 0), (1, iv x)]) (Nat.le_of_ble_eq_true rfl) rfl ?_
  refine y_ld (x := iv x) rfl rfl (fun d => rfl) ?_
  refine y_ic rfl rfl ?_
  refine y_jne rfl rfl rfl (by omega) (fun g1 => ?_) (fun g1 => ?_)
  · refine y_ld (x := .ref 0) rfl rfl (fun d => rfl) ?_
    refine y_gR (i := 0) rfl rfl rfl (hC 0 _ _ rfl) rfl ?_
    refine y_ld (x := iv x) rfl rfl (fun d => rfl) ?_
    refine y_cV (as := [.ref 1, iv x]) rfl rfl rfl rfl rfl (hC 1 _ _ rfl) ⟨rfl, (Nat.le_of_ble_eq_true rfl), (Nat.le_of_ble_eq_true rfl)⟩ (by decide) (cb_boxAt (x := x) hC hB (by omega) (fun gb1 => ?_) (fun gb1 => ?_))
    · refine y_nv ?_
      refine y_in (pc' := 26) rfl rfl (fun d => rfl) ?_
      refine y_ic rfl rfl ?_
      refine y_rI rfl (Or.inl rfl) ?_
      exact k0 (by omega) gb1
    · refine y_nv ?_
      refine y_in (pc' := 28) rfl rfl (fun d => rfl) ?_
      refine y_ld (x := .ref 0) rfl rfl (fun d => rfl) ?_
      refine y_gR (i := 0) rfl rfl rfl (hC 0 _ _ rfl) rfl ?_
      refine y_ld (x := iv x) rfl rfl (fun d => rfl) ?_
      refine y_cV (as := [.ref 1, iv x]) rfl rfl rfl rfl rfl (hC 1 _ _ rfl) ⟨rfl, (Nat.le_of_ble_eq_true rfl), (Nat.le_of_ble_eq_true rfl)⟩ (by decide) (cb_isLedTo (x := x) hC hx hB hL (fun qL => ?_) (fun qL => ?_))
      · refine y_nv ?_
        refine y_zeq rfl rfl rfl (by decide) (fun g2 => absurd g2 (by decide)) (fun g2 => ?_)
        refine y_bi rfl rfl (by decide) ?_
        refine y_rI rfl (Or.inl rfl) ?_
        exact k1 (by omega) gb1 qL (by omega)
      · refine y_nv ?_
        refine y_zeq rfl rfl rfl (by decide) (fun g3 => ?_) (fun g3 => absurd g3 (by decide))
        refine y_ld (x := .ref 0) rfl rfl (fun d => rfl) ?_
        refine y_gR (i := 0) rfl rfl rfl (hC 0 _ _ rfl) rfl ?_
        refine y_gI (i := 7) (e := (V 1 7)) rfl rfl rfl (hC 1 _ _ rfl) rfl rfl ?_
        refine y_bi rfl rfl (by decide) ?_
        refine y_jlt rfl rfl rfl (by omega) (fun g4 => ?_) (fun g4 => ?_)
        · refine y_ld (x := .ref 0) rfl rfl (fun d => rfl) ?_
          refine y_gR (i := 0) rfl rfl rfl (hC 0 _ _ rfl) rfl ?_
          refine y_gR (i := 6) rfl rfl rfl (hC 1 _ _ rfl) rfl ?_
          refine y_ld (x := .ref 0) rfl rfl (fun d => rfl) ?_
          refine y_gR (i := 0) rfl rfl rfl (hC 0 _ _ rfl) rfl ?_
          refine y_gI (i := 7) (e := (V 1 7)) rfl rfl rfl (hC 1 _ _ rfl) rfl rfl ?_
          refine y_ld (x := iv x) rfl rfl (fun d => rfl) ?_
          refine y_ist (q := ((V 1 7).toNat)) rfl rfl (cl_ia hC (k := 5) (N := 6) rfl) (by omega) (by decide) rfl ?_
          refine y_ld (x := .ref 0) rfl rfl (fun d => rfl) ?_
          refine y_gR (i := 0) rfl rfl rfl (hC 0 _ _ rfl) rfl ?_
          refine y_in rfl rfl (fun d => rfl) ?_
          refine y_gI (i := 7) (e := (V 1 7)) rfl rfl rfl (hC 1 _ _ rfl) rfl rfl ?_
          refine y_ic rfl rfl ?_
          refine y_add (z := ((V 1 7) + 1)) rfl rfl rfl ?_
          refine y_pI (i := 7) rfl rfl rfl (hC 1 _ _ rfl) rfl rfl ?_
          refine y_ld (x := .ref 0) rfl rfl (fun d => rfl) ?_
          refine y_gR (i := 0) rfl rfl rfl (hC 0 _ _ rfl) rfl ?_
          refine y_gI (i := 7) (e := ((V 1 7) + 1)) rfl rfl rfl (hC 1 _ _ rfl) rfl rfl ?_
          refine y_rI rfl (Or.inl rfl) ?_
          exact k2 (by omega) gb1 qL (by omega) (by omega)
        · refine y_bi rfl rfl (by decide) ?_
          refine y_rI rfl (Or.inl rfl) ?_
          exact k3 (by omega) gb1 qL (by omega) (by omega)
  · refine y_ld (x := .ref 0) rfl rfl (fun d => rfl) ?_
    refine y_gR (i := 0) rfl rfl rfl (hC 0 _ _ rfl) rfl ?_
    refine y_ic rfl rfl ?_
    refine y_pI (i := 7) rfl rfl rfl (hC 1 _ _ rfl) rfl rfl ?_
    refine y_ic rfl rfl ?_
    refine y_rI rfl (Or.inl rfl) ?_
    exact k4 (by omega)
set_option maxRecDepth 100000 in
set_option maxHeartbeats 4000000 in
theorem ms_row (hM : MdS S) (hB : 0 ≤ V 171 1 ∧ V 171 1 ≤ 8) (hL : ∀ b : Nat, (b : Int) < V 171 1 → ∀ t : Nat, t < 16 → 0 ≤ V 171 (1552 + 16 * b + t) ∧ V 171 (1552 + 16 * b + t) ≤ 7) {x : Int} (hx : (-2147483648 ≤ x ∧ x < 2147483648)) (hn : 0 ≤ V 171 2 ∧ V 171 2 ≤ 6) (k0 : (x : Int) ≠ (-1) → (0 ≤ x ∧ x ≤ V 171 1 - 1) → (∃ b : Nat, (b : Int) < V 171 1 ∧ (b : Int) ≠ x ∧ ∃ t : Nat, t < 16 ∧ V 171 (1552 + 16 * b + t) = x) → ¬ ((1 : Int) = 0) → K u w (some (iv (-3))) S V) (k1 : (x : Int) ≠ (-1) → (0 ≤ x ∧ x ≤ V 171 1 - 1) → (∀ b : Nat, (b : Int) < V 171 1 → (b : Int) ≠ x → ∀ t : Nat, t < 16 → V 171 (1552 + 16 * b + t) ≠ x) → (0 : Int) = 0 → (V 171 2 : Int) ≠ 6 → K u w (some (iv ((V 171 2) + 1))) S (v_up (v_up V 171 ((1680 + (V 171 2)).toNat) x) 171 2 ((V 171 2) + 1))) (k2 : (x : Int) ≠ (-1) → (0 ≤ x ∧ x ≤ V 171 1 - 1) → (∀ b : Nat, (b : Int) < V 171 1 → (b : Int) ≠ x → ∀ t : Nat, t < 16 → V 171 (1552 + 16 * b + t) ≠ x) → (0 : Int) = 0 → ¬ ((V 171 2 : Int) ≠ 6) → K u w (some (iv (-4))) S V) (k3 : (x : Int) ≠ (-1) → ¬ (0 ≤ x ∧ x ≤ V 171 1 - 1) → K u w (some (iv (-1))) S V) (k4 : ¬ ((x : Int) ≠ (-1)) → K u w (some (iv 0)) S (v_up V 171 2 0)) : y_R X 3 142 u w [.ref 170, iv x] S V K := by
  refine y_ent (lv' := [(0, .ref 170), (1, iv x)]) (Nat.le_of_ble_eq_true rfl) rfl ?_
  refine y_ld (x := iv x) rfl rfl (fun d => rfl) ?_
  refine y_ic rfl rfl ?_
  refine y_jne rfl rfl rfl (by omega) (fun g1 => ?_) (fun g1 => ?_)
  · refine y_ld (x := .ref 170) rfl rfl (fun d => rfl) ?_
    refine y_ld (x := iv x) rfl rfl (fun d => rfl) ?_
    refine y_cV (as := [.ref 170, iv x]) rfl rfl rfl rfl rfl (md170 hM) ⟨rfl, (Nat.le_of_ble_eq_true rfl), (Nat.le_of_ble_eq_true rfl)⟩ (by decide) (ct_isBox hM (by omega) ⟨rfl, by omega⟩ ?_)
    refine y_nv ?_
    refine y_bne rfl rfl rfl (fun g2 => ?_) (fun g2 => ?_)
    · refine y_ld (x := .ref 170) rfl rfl (fun d => rfl) ?_
      refine y_ld (x := iv x) rfl rfl (fun d => rfl) ?_
      refine y_cV (as := [.ref 170, iv x]) rfl rfl rfl rfl rfl (md170 hM) ⟨rfl, (Nat.le_of_ble_eq_true rfl), (Nat.le_of_ble_eq_true rfl)⟩ (by decide) (ct_isLedTo (x := x) hM hx hB hL (fun qL => ?_) (fun qL => ?_))
      · refine y_nv ?_
        refine y_zeq rfl rfl rfl (by decide) (fun g3 => absurd g3 (by decide)) (fun g3 => ?_)
        refine y_bi rfl rfl (by decide) ?_
        refine y_rI rfl (Or.inl rfl) ?_
        exact k0 (by omega) g2 qL (by omega)
      · refine y_nv ?_
        refine y_zeq rfl rfl rfl (by decide) (fun g4 => ?_) (fun g4 => absurd g4 (by decide))
        refine y_ld (x := .ref 170) rfl rfl (fun d => rfl) ?_
        refine y_gR (i := 1) rfl rfl rfl (md170 hM) rfl ?_
        refine y_ic rfl rfl ?_
        refine y_ild (x := (V 171 2)) (q := 2) rfl rfl (md171 hM) (by decide) (by decide) rfl rfl ?_
        refine y_bi rfl rfl (by decide) ?_
        refine y_jne rfl rfl rfl (by omega) (fun g5 => ?_) (fun g5 => ?_)
        · refine y_ld (x := .ref 170) rfl rfl (fun d => rfl) ?_
          refine y_gR (i := 1) rfl rfl rfl (md170 hM) rfl ?_
          refine y_si rfl rfl (by decide) ?_
          refine y_ld (x := .ref 170) rfl rfl (fun d => rfl) ?_
          refine y_gR (i := 1) rfl rfl rfl (md170 hM) rfl ?_
          refine y_ic rfl rfl ?_
          refine y_ild (x := (V 171 2)) (q := 2) rfl rfl (md171 hM) (by decide) (by decide) rfl rfl ?_
          refine y_add (z := (1680 + (V 171 2))) rfl rfl rfl ?_
          refine y_ld (x := iv x) rfl rfl (fun d => rfl) ?_
          refine y_ist (q := ((1680 + (V 171 2)).toNat)) rfl rfl (md171 hM) (by omega) (by decide) rfl ?_
          refine y_ld (x := .ref 170) rfl rfl (fun d => rfl) ?_
          refine y_gR (i := 1) rfl rfl rfl (md170 hM) rfl ?_
          refine y_ic rfl rfl ?_
          refine y_in rfl rfl (fun d => rfl) ?_
          refine y_ild (x := (V 171 2)) (q := 2) rfl rfl (md171 hM) (by decide) (by decide) rfl (by rw [v_up_ni (by omega)]) ?_
          refine y_ic rfl rfl ?_
          refine y_add (z := ((V 171 2) + 1)) rfl rfl rfl ?_
          refine y_ist (q := 2) rfl rfl (md171 hM) (by decide) (by decide) rfl ?_
          refine y_ld (x := .ref 170) rfl rfl (fun d => rfl) ?_
          refine y_gR (i := 1) rfl rfl rfl (md170 hM) rfl ?_
          refine y_ic rfl rfl ?_
          refine y_ild (x := ((V 171 2) + 1)) (q := 2) rfl rfl (md171 hM) (by decide) (by decide) rfl (by rw [v_up_eq]) ?_
          refine y_rI rfl (Or.inl rfl) ?_
          exact k1 (by omega) g2 qL (by omega) (by omega)
        · refine y_bi rfl rfl (by decide) ?_
          refine y_rI rfl (Or.inl rfl) ?_
          exact k2 (by omega) g2 qL (by omega) (by omega)
    · refine y_ic rfl rfl ?_
      refine y_rI rfl (Or.inl rfl) ?_
      exact k3 (by omega) g2
  · refine y_ld (x := .ref 170) rfl rfl (fun d => rfl) ?_
    refine y_gR (i := 1) rfl rfl rfl (md170 hM) rfl ?_
    refine y_ic rfl rfl ?_
    refine y_ic rfl rfl ?_
    refine y_ist (q := 2) rfl rfl (md171 hM) (by decide) (by decide) rfl ?_
    refine y_ic rfl rfl ?_
    refine y_rI rfl (Or.inl rfl) ?_
    exact k4 (by omega)
set_option maxRecDepth 100000 in
set_option maxHeartbeats 4000000 in
theorem cs_copy (hC : ClF S) (hB : 0 ≤ V 1 5 ∧ V 1 5 ≤ 8) {x : Int} (hx : (-2147483648 ≤ x ∧ x < 2147483648)) (hk : ∀ b : Nat, b < 8 → 0 ≤ V (10 + 6 * b) 4 ∧ V (10 + 6 * b) 4 < 2147483647) (k0 : ¬ (0 ≤ x ∧ x < V 1 5) → K u w (some (iv (-1))) S V) (k1 : 0 ≤ x ∧ x < V 1 5 → K u w (some (iv (((V (10 + 6 * x.toNat) 4) + 1) - 1))) S (v_up (v_ur V (10 + 6 * x.toNat + 5) (V (10 + 6 * x.toNat + 3))) (10 + 6 * x.toNat) 4 ((V (10 + 6 * x.toNat) 4) + 1))) : y_R X 2 85 u w [.ref 0, iv x] S V K := by
  refine y_ent (lv' := [(0, .ref 0), (1, iv x)]) (Nat.le_of_ble_eq_true rfl) rfl ?_
  refine y_ld (x := .ref 0) rfl rfl (fun d => rfl) ?_
  refine y_gR (i := 0) rfl rfl rfl (hC 0 _ _ rfl) rfl ?_
  refine y_ld (x := iv x) rfl rfl (fun d => rfl) ?_
  refine y_cV (as := [.ref 1, iv x]) rfl rfl rfl rfl rfl (hC 1 _ _ rfl) ⟨rfl, (Nat.le_of_ble_eq_true rfl), (Nat.le_of_ble_eq_true rfl)⟩ (by decide) (cb_boxAt (x := x) hC hB (by omega) (fun gb1 => ?_) (fun gb1 => ?_))
  · refine y_nv ?_
    refine y_st (lv' := [(2, .null), (0, .ref 0), (1, iv x)]) rfl rfl (fun d => rfl) ?_
    refine y_ld (x := .null) rfl rfl (fun d => rfl) ?_
    refine y_in (pc' := 13) rfl rfl (fun d => rfl) ?_
    refine y_ic rfl rfl ?_
    refine y_rI rfl (Or.inl rfl) ?_
    exact k0 gb1
  · refine y_nv ?_
    refine y_st (lv' := [(2, .ref (10 + 6 * x.toNat)), (0, .ref 0), (1, iv x)]) rfl rfl (fun d => rfl) ?_
    refine y_ld (x := .ref (10 + 6 * x.toNat)) rfl rfl (fun d => rfl) ?_
    refine y_in (pc' := 15) rfl rfl (fun d => rfl) ?_
    refine y_ld (x := .ref (10 + 6 * x.toNat)) rfl rfl (fun d => rfl) ?_
    refine y_gR (i := 7) rfl rfl rfl (bx_ob hC (i := x.toNat) (by omega)) rfl ?_
    refine y_ld (x := .ref (10 + 6 * x.toNat)) rfl rfl (fun d => rfl) ?_
    refine y_gR (i := 6) rfl rfl rfl (bx_ob hC (i := x.toNat) (by omega)) rfl ?_
    refine y_cV (as := [.ref (10 + 6 * x.toNat + 4), .ref (10 + 6 * x.toNat + 2)]) rfl rfl rfl rfl rfl (bx_cop hC (i := x.toNat) (by omega)) ⟨rfl, (Nat.le_of_ble_eq_true rfl), (Nat.le_of_ble_eq_true rfl)⟩ (by decide) (cc_mbec ⟨(bx_cop hC (i := x.toNat) (by omega)), (bx_ccl hC (i := x.toNat) (by omega))⟩ ⟨(bx_mem hC (i := x.toNat) (by omega)), (bx_mcl hC (i := x.toNat) (by omega))⟩ ?_)
    refine y_n0 ?_
    have hkx := hk x.toNat (by omega)
    refine y_ld (x := .ref (10 + 6 * x.toNat)) rfl rfl (fun d => rfl) ?_
    refine y_in rfl rfl (fun d => rfl) ?_
    refine y_gI (i := 4) (e := (V (10 + 6 * x.toNat) 4)) rfl rfl rfl (bx_ob hC (i := x.toNat) (by omega)) rfl (by rw [v_ur_ne (by omega)]) ?_
    refine y_ic rfl rfl ?_
    refine y_add (z := ((V (10 + 6 * x.toNat) 4) + 1)) rfl rfl rfl ?_
    refine y_pI (i := 4) rfl rfl rfl (bx_ob hC (i := x.toNat) (by omega)) rfl rfl ?_
    refine y_ld (x := .ref (10 + 6 * x.toNat)) rfl rfl (fun d => rfl) ?_
    refine y_gI (i := 4) (e := ((V (10 + 6 * x.toNat) 4) + 1)) rfl rfl rfl (bx_ob hC (i := x.toNat) (by omega)) rfl (by rw [v_up_eq]) ?_
    refine y_ic rfl rfl ?_
    refine y_sub (z := (((V (10 + 6 * x.toNat) 4) + 1) - 1)) rfl rfl rfl ?_
    refine y_rI rfl (Or.inl rfl) ?_
    exact k1 gb1
theorem v_cp_up2 (V : v_V) (a i q : Nat) (k : Nat) : v_up (v_ur V a (v_cp (V a) (V a) i q k)) a (q + k) (V a (i + k)) = v_ur V a (v_cp (V a) (V a) i q (k + 1)) := by
  rw [v_up_ur, v_ur_ur, v_ur_eq]
  congr 1
  funext j
  unfold v_uf v_cp
  by_cases h1 : j = q + k
  · subst h1
    rw [if_pos rfl, if_pos (by omega), show q + k - q + i = i + k by omega]
  · rw [if_neg h1]
    by_cases h2 : q ≤ j ∧ j < q + k
    · rw [if_pos h2, if_pos (by omega)]
    · rw [if_neg h2, if_neg (by omega)]
theorem v_cp_0 (V : v_V) (a i q : Nat) : v_ur V a (v_cp (V a) (V a) i q 0) = V := by
  rw [show v_cp (V a) (V a) i q 0 = V a from funext (fun j => if_neg (by omega)), v_ur_self]
set_option maxRecDepth 100000 in
set_option maxHeartbeats 4000000 in
theorem lq_copy (hM : MdS S) {x : Int} (hx : 0 ≤ x ∧ x < 8) {F : Nat} : ∀ (m : Nat) (k : Nat), 84 - k < m → (k ≤ 84) → (y_E X 2 151 F u w 54 [(0, .ref 170), (1, iv x), (2, iv ((84 : Nat) : Int))] [] S (v_ur V 171 (v_cp (V 171) (V 171) (200 + 84 * x.toNat) (880 + 84 * x.toNat) 84)) K) → y_E X 2 151 (36 * m + F) u w 12 [(0, .ref 170), (1, iv x), (2, iv (k : Int))] [] S (v_ur V 171 (v_cp (V 171) (V 171) (200 + 84 * x.toNat) (880 + 84 * x.toNat) k)) K := by
  intro m
  induction m with
  | zero => intros; omega
  | succ m ih =>
    intro k hm hI hx2
    refine y_mono (F' := (36 * m + F) + 36) ?_ (by omega)
    refine y_ld (x := iv (k : Int)) rfl rfl (fun d => rfl) ?_
    refine y_bi rfl rfl (by decide) ?_
    refine y_jge rfl rfl rfl (by omega) (fun g1 => ?_) (fun g1 => ?_)
    · obtain rfl : k = 84 := by omega
      exact y_mono hx2 (by omega)
    · refine y_ld (x := .ref 170) rfl rfl (fun d => rfl) ?_
      refine y_gR (i := 1) rfl rfl rfl (md170 hM) rfl ?_
      refine y_si rfl rfl (by decide) ?_
      refine y_bi rfl rfl (by decide) ?_
      refine y_ld (x := iv x) rfl rfl (fun d => rfl) ?_
      refine y_mul (z := (84 * x)) rfl rfl rfl ?_
      refine y_add (z := (880 + (84 * x))) rfl rfl rfl ?_
      refine y_ld (x := iv (k : Int)) rfl rfl (fun d => rfl) ?_
      refine y_add (z := ((880 + (84 * x)) + (k : Int))) rfl rfl rfl ?_
      refine y_ld (x := .ref 170) rfl rfl (fun d => rfl) ?_
      refine y_gR (i := 1) rfl rfl rfl (md170 hM) rfl ?_
      refine y_si rfl rfl (by decide) ?_
      refine y_bi rfl rfl (by decide) ?_
      refine y_ld (x := iv x) rfl rfl (fun d => rfl) ?_
      refine y_mul (z := (84 * x)) rfl rfl rfl ?_
      refine y_add (z := (200 + (84 * x))) rfl rfl rfl ?_
      refine y_ld (x := iv (k : Int)) rfl rfl (fun d => rfl) ?_
      refine y_add (z := ((200 + (84 * x)) + (k : Int))) rfl rfl rfl ?_
      refine y_ild (x := (V 171 (200 + 84 * x.toNat + k))) (q := (200 + 84 * x.toNat + k)) rfl rfl (md171 hM) (by omega) (by decide) (by omega) (by rw [v_ur_eq]; unfold v_cp; rw [if_neg (by omega)]) ?_
      refine y_ist (q := (880 + 84 * x.toNat + k)) rfl rfl (md171 hM) (by omega) (by decide) (by omega) ?_
      refine y_inc (z := ((k + 1 : Nat) : Int)) (lv' := [(2, iv ((k + 1 : Nat) : Int)), (0, .ref 170), (1, iv x)]) rfl rfl rfl (by omega) rfl ?_
      refine y_go rfl rfl ?_
      refine y_lv (l' := [(0, .ref 170), (1, iv x), (2, iv ((k + 1 : Nat) : Int))]) rfl ⟨rfl, rfl, rfl, trivial⟩ ?_
      refine y_V (V' := v_ur V 171 (v_cp (V 171) (V 171) (200 + 84 * x.toNat) (880 + 84 * x.toNat) (k + 1))) (v_cp_up2 V 171 _ _ k) ?_
      exact y_mono (ih (k + 1) (by omega) (by omega) hx2) (by omega)
set_option maxRecDepth 100000 in
set_option maxHeartbeats 4000000 in
theorem ms_copy (hM : MdS S) (hB : 0 ≤ V 171 1 ∧ V 171 1 ≤ 8) {x : Int} (hx : (-2147483648 ≤ x ∧ x < 2147483648)) (hk : ∀ b : Nat, b < 8 → 0 ≤ V 171 (872 + b) ∧ V 171 (872 + b) < 2147483647) (k0 : (0 ≤ x ∧ x ≤ V 171 1 - 1) → K u w (some (iv (((V 171 (872 + x.toNat)) + 1) - 1))) S (v_up (v_ur V 171 (v_cp (V 171) (V 171) (200 + 84 * x.toNat) (880 + 84 * x.toNat) 84)) 171 (872 + x.toNat) ((V 171 (872 + x.toNat)) + 1))) (k1 : ¬ (0 ≤ x ∧ x ≤ V 171 1 - 1) → K u w (some (iv (-1))) S V) : y_R X 3 151 u w [.ref 170, iv x] S V K := by
  refine y_ent (lv' := [(0, .ref 170), (1, iv x)]) (Nat.le_of_ble_eq_true rfl) rfl ?_
  refine y_ld (x := .ref 170) rfl rfl (fun d => rfl) ?_
  refine y_ld (x := iv x) rfl rfl (fun d => rfl) ?_
  refine y_cV (as := [.ref 170, iv x]) rfl rfl rfl rfl rfl (md170 hM) ⟨rfl, (Nat.le_of_ble_eq_true rfl), (Nat.le_of_ble_eq_true rfl)⟩ (by decide) (ct_isBox hM (by omega) ⟨rfl, by omega⟩ ?_)
  refine y_nv ?_
  refine y_bne rfl rfl rfl (fun g1 => ?_) (fun g1 => ?_)
  · refine y_ic rfl rfl ?_
    refine y_st (lv' := [(2, iv 0), (0, .ref 170), (1, iv x)]) rfl rfl (fun d => rfl) ?_
    refine y_lv (l' := [(0, .ref 170), (1, iv x), (2, iv 0)]) rfl ⟨rfl, rfl, rfl, trivial⟩ ?_
    refine y_V (V' := v_ur V 171 (v_cp (V 171) (V 171) (200 + 84 * x.toNat) (880 + 84 * x.toNat) 0)) (v_cp_0 V 171 _ _).symm ?_
    refine y_mono (lq_copy (F := 2000) hM (x := x) (by omega) 85 0 (by omega) (by omega) ?_) (by decide)
    have hkx := hk x.toNat (by omega)
    have e872 : (872 + x).toNat = 872 + x.toNat := by omega
    refine y_ld (x := .ref 170) rfl rfl (fun d => rfl) ?_
    refine y_gR (i := 1) rfl rfl rfl (md170 hM) rfl ?_
    refine y_si rfl rfl (by decide) ?_
    refine y_ld (x := iv x) rfl rfl (fun d => rfl) ?_
    refine y_add (z := (872 + x)) rfl rfl rfl ?_
    refine y_in rfl rfl (fun d => rfl) ?_
    refine y_ild (x := (V 171 (872 + x.toNat))) (q := (872 + x.toNat)) rfl rfl (md171 hM) (by omega) (by decide) (by omega) (by rw [v_ur_eq]; unfold v_cp; rw [if_neg (by omega)]) ?_
    refine y_ic rfl rfl ?_
    refine y_add (z := ((V 171 (872 + x.toNat)) + 1)) rfl rfl rfl ?_
    refine y_ist (q := (872 + x.toNat)) rfl rfl (md171 hM) (by omega) (by decide) (by omega) ?_
    refine y_ld (x := .ref 170) rfl rfl (fun d => rfl) ?_
    refine y_gR (i := 1) rfl rfl rfl (md170 hM) rfl ?_
    refine y_si rfl rfl (by decide) ?_
    refine y_ld (x := iv x) rfl rfl (fun d => rfl) ?_
    refine y_add (z := (872 + x)) rfl rfl rfl ?_
    refine y_ild (x := ((V 171 (872 + x.toNat)) + 1)) (q := (872 + x.toNat)) rfl rfl (md171 hM) (by omega) (by decide) (by omega) (by rw [v_up_eq]) ?_
    refine y_ic rfl rfl ?_
    refine y_sub (z := (((V 171 (872 + x.toNat)) + 1) - 1)) rfl rfl rfl ?_
    refine y_rI rfl (Or.inl rfl) ?_
    exact k0 g1
  · refine y_ic rfl rfl ?_
    refine y_rI rfl (Or.inl rfl) ?_
    exact k1 g1
end
