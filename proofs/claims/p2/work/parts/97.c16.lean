/-! texts and boxes at their numbers; the plain questions, both sides -/
section
variable {X : Nat → List Int32} {u w : Nat} {S : m_H} {V : v_V} {K : v_K}
/-- the class' texts: the array, how many, each of them there -/
def TAx (S : m_H) (V : v_V) (ta : List Value) : Prop := ce S 3 22 ta ∧ ta.length = 8 ∧ 0 ≤ V 1 3 ∧ V 1 3 ≤ 8 ∧ ∀ i : Nat, (i : Int) < V 1 3 → ∃ t : Nat, m_nth ta i = some (.ref t) ∧ 193 ≤ t ∧ TxS S t
theorem bx_ref {S : m_H} (hC : ClF S) {i : Nat} (h : i < 8) : ∃ vs, ce S 4 23 vs ∧ m_nth vs i = some (.ref (10 + 6 * i)) :=
  match i, h with
  | 0, _ => ⟨_, hC 4 _ _ rfl, rfl⟩
  | 1, _ => ⟨_, hC 4 _ _ rfl, rfl⟩
  | 2, _ => ⟨_, hC 4 _ _ rfl, rfl⟩
  | 3, _ => ⟨_, hC 4 _ _ rfl, rfl⟩
  | 4, _ => ⟨_, hC 4 _ _ rfl, rfl⟩
  | 5, _ => ⟨_, hC 4 _ _ rfl, rfl⟩
  | 6, _ => ⟨_, hC 4 _ _ rfl, rfl⟩
  | 7, _ => ⟨_, hC 4 _ _ rfl, rfl⟩
  | n + 8, h => absurd h (by omega)
theorem bx_ob {S : m_H} (hC : ClF S) {i : Nat} (h : i < 8) : ce S (10 + 6 * i) 0 [.int 0, .int 0, .int 0, .int 0, .int 0, .ref (10 + 6 * i + 1), .ref (10 + 6 * i + 2), .ref (10 + 6 * i + 4)] :=
  match i, h with
  | 0, _ => hC 10 _ _ rfl
  | 1, _ => hC 16 _ _ rfl
  | 2, _ => hC 22 _ _ rfl
  | 3, _ => hC 28 _ _ rfl
  | 4, _ => hC 34 _ _ rfl
  | 5, _ => hC 40 _ _ rfl
  | 6, _ => hC 46 _ _ rfl
  | 7, _ => hC 52 _ _ rfl
  | n + 8, h => absurd h (by omega)
theorem bx_led {S : m_H} (hC : ClF S) {i : Nat} (h : i < 8) : v_ia S (10 + 6 * i + 1) 20 16 :=
  match i, h with
  | 0, _ => cl_ia hC rfl
  | 1, _ => cl_ia hC rfl
  | 2, _ => cl_ia hC rfl
  | 3, _ => cl_ia hC rfl
  | 4, _ => cl_ia hC rfl
  | 5, _ => cl_ia hC rfl
  | 6, _ => cl_ia hC rfl
  | 7, _ => cl_ia hC rfl
  | n + 8, h => absurd h (by omega)
theorem bx_mem {S : m_H} (hC : ClF S) {i : Nat} (h : i < 8) : ce S (10 + 6 * i + 2) 1 [.ref (10 + 6 * i + 3)] :=
  match i, h with
  | 0, _ => hC 12 _ _ rfl
  | 1, _ => hC 18 _ _ rfl
  | 2, _ => hC 24 _ _ rfl
  | 3, _ => hC 30 _ _ rfl
  | 4, _ => hC 36 _ _ rfl
  | 5, _ => hC 42 _ _ rfl
  | 6, _ => hC 48 _ _ rfl
  | 7, _ => hC 54 _ _ rfl
  | n + 8, h => absurd h (by omega)
theorem bx_mcl {S : m_H} (hC : ClF S) {i : Nat} (h : i < 8) : v_ia S (10 + 6 * i + 3) 20 84 :=
  match i, h with
  | 0, _ => cl_ia hC rfl
  | 1, _ => cl_ia hC rfl
  | 2, _ => cl_ia hC rfl
  | 3, _ => cl_ia hC rfl
  | 4, _ => cl_ia hC rfl
  | 5, _ => cl_ia hC rfl
  | 6, _ => cl_ia hC rfl
  | 7, _ => cl_ia hC rfl
  | n + 8, h => absurd h (by omega)
theorem bx_cop {S : m_H} (hC : ClF S) {i : Nat} (h : i < 8) : ce S (10 + 6 * i + 4) 1 [.ref (10 + 6 * i + 5)] :=
  match i, h with
  | 0, _ => hC 14 _ _ rfl
  | 1, _ => hC 20 _ _ rfl
  | 2, _ => hC 26 _ _ rfl
  | 3, _ => hC 32 _ _ rfl
  | 4, _ => hC 38 _ _ rfl
  | 5, _ => hC 44 _ _ rfl
  | 6, _ => hC 50 _ _ rfl
  | 7, _ => hC 56 _ _ rfl
  | n + 8, h => absurd h (by omega)
theorem bx_ccl {S : m_H} (hC : ClF S) {i : Nat} (h : i < 8) : v_ia S (10 + 6 * i + 5) 20 84 :=
  match i, h with
  | 0, _ => cl_ia hC rfl
  | 1, _ => cl_ia hC rfl
  | 2, _ => cl_ia hC rfl
  | 3, _ => cl_ia hC rfl
  | 4, _ => cl_ia hC rfl
  | 5, _ => cl_ia hC rfl
  | 6, _ => cl_ia hC rfl
  | 7, _ => cl_ia hC rfl
  | n + 8, h => absurd h (by omega)
set_option maxRecDepth 100000 in
set_option maxHeartbeats 4000000 in
theorem cb_textAt (hC : ClF S) {ta : List Value} {x : Int} (hT : TAx S V ta) (h : (-2147483648 ≤ x ∧ x < 2147483648)) (k0 : ¬ (0 ≤ x ∧ x < V 1 3) → K u w (some .null) S V) (k1 : ∀ t : Nat, 0 ≤ x ∧ x < V 1 3 → m_nth ta x.toNat = some (.ref t) → 193 ≤ t → TxS S t → K u w (some (.ref t)) S V) : y_R X 1 43 u w [.ref 1, iv x] S V K := by
  have hTa := hT.2.2.1
  have hTb := hT.2.2.2.1
  refine y_ent (lv' := [(0, .ref 1), (1, iv x)]) (Nat.le_of_ble_eq_true rfl) rfl ?_
  refine y_ld (x := iv x) rfl rfl (fun d => rfl) ?_
  refine y_zlt rfl rfl rfl (by omega) (fun g1 => ?_) (fun g1 => ?_)
  · refine y_ld rfl rfl (fun d => rfl) ?_
    refine y_ret rfl (fun d => rfl) ?_
    exact k0 (by omega)
  · refine y_ld (x := iv x) rfl rfl (fun d => rfl) ?_
    refine y_ld (x := .ref 1) rfl rfl (fun d => rfl) ?_
    refine y_gI (i := 3) (e := (V 1 3)) rfl rfl rfl (hC 1 _ _ rfl) rfl rfl ?_
    refine y_jge rfl rfl rfl (by omega) (fun g2 => ?_) (fun g2 => ?_)
    · refine y_ld rfl rfl (fun d => rfl) ?_
      refine y_ret rfl (fun d => rfl) ?_
      exact k0 (by omega)
    · refine y_ld (x := .ref 1) rfl rfl (fun d => rfl) ?_
      refine y_gR (i := 2) rfl rfl rfl (hC 1 _ _ rfl) rfl ?_
      refine y_ld (x := iv x) rfl rfl (fun d => rfl) ?_
      obtain ⟨t, ht1, ht2, ht3⟩ := hT.2.2.2.2 x.toNat (by omega)
      refine y_rld (i := x.toNat) (x := t) rfl rfl hT.1 (by decide) (by omega) rfl ht1 ?_
      refine y_go rfl rfl ?_
      refine y_ret rfl (fun d => rfl) ?_
      exact k1 t (by omega) ht1 ht2 ht3
set_option maxRecDepth 100000 in
set_option maxHeartbeats 4000000 in
theorem cb_boxAt (hC : ClF S) {x : Int} (hB : 0 ≤ V 1 5 ∧ V 1 5 ≤ 8) (h : (-2147483648 ≤ x ∧ x < 2147483648)) (k0 : ¬ (0 ≤ x ∧ x < V 1 5) → K u w (some .null) S V) (k1 : 0 ≤ x ∧ x < V 1 5 → K u w (some (.ref (10 + 6 * x.toNat))) S V) : y_R X 1 44 u w [.ref 1, iv x] S V K := by
  refine y_ent (lv' := [(0, .ref 1), (1, iv x)]) (Nat.le_of_ble_eq_true rfl) rfl ?_
  refine y_ld (x := iv x) rfl rfl (fun d => rfl) ?_
  refine y_zlt rfl rfl rfl (by omega) (fun g1 => ?_) (fun g1 => ?_)
  · refine y_ld rfl rfl (fun d => rfl) ?_
    refine y_ret rfl (fun d => rfl) ?_
    exact k0 (by omega)
  · refine y_ld (x := iv x) rfl rfl (fun d => rfl) ?_
    refine y_ld (x := .ref 1) rfl rfl (fun d => rfl) ?_
    refine y_gI (i := 5) (e := (V 1 5)) rfl rfl rfl (hC 1 _ _ rfl) rfl rfl ?_
    refine y_jge rfl rfl rfl (by omega) (fun g2 => ?_) (fun g2 => ?_)
    · refine y_ld rfl rfl (fun d => rfl) ?_
      refine y_ret rfl (fun d => rfl) ?_
      exact k0 (by omega)
    · refine y_ld (x := .ref 1) rfl rfl (fun d => rfl) ?_
      refine y_gR (i := 4) rfl rfl rfl (hC 1 _ _ rfl) rfl ?_
      refine y_ld (x := iv x) rfl rfl (fun d => rfl) ?_
      obtain ⟨vs, hb1, hb2⟩ := bx_ref hC (i := x.toNat) (by omega)
      refine y_rld (i := x.toNat) (x := 10 + 6 * x.toNat) rfl rfl hb1 (by decide) (by omega) rfl hb2 ?_
      refine y_go rfl rfl ?_
      refine y_ret rfl (fun d => rfl) ?_
      exact k1 (by omega)
set_option maxRecDepth 100000 in
set_option maxHeartbeats 4000000 in
theorem cs_lines (hC : ClF S) {ta : List Value} (hT : TAx S V ta) {x : Int} (hx : (-2147483648 ≤ x ∧ x < 2147483648)) {y : Int} (hy : (-2147483648 ≤ y ∧ y < 2147483648)) (hln : ∀ t, TxS S t → 0 ≤ V t 0 ∧ V t 0 ≤ 8) (k0 : ¬ (0 ≤ x ∧ x < V 1 3) → K u w (some (iv (-1))) S V) (k1 : ∀ t1 : Nat, 0 ≤ x ∧ x < V 1 3 → m_nth ta (x).toNat = some (.ref t1) → 193 ≤ t1 → TxS S t1 → (y : Int) < (-1) → K u w (some (iv (-1))) S V) (k2 : ∀ t1 : Nat, 0 ≤ x ∧ x < V 1 3 → m_nth ta (x).toNat = some (.ref t1) → 193 ≤ t1 → TxS S t1 → ¬ ((y : Int) < (-1)) → (y : Int) < (V t1 0) → (y : Int) ≠ (-1) → K u w (some (iv (V (t1 + 4) ((y).toNat)))) S V) (k3 : ∀ t1 : Nat, 0 ≤ x ∧ x < V 1 3 → m_nth ta (x).toNat = some (.ref t1) → 193 ≤ t1 → TxS S t1 → ¬ ((y : Int) < (-1)) → (y : Int) < (V t1 0) → ¬ ((y : Int) ≠ (-1)) → K u w (some (iv (V t1 0))) S V) (k4 : ∀ t1 : Nat, 0 ≤ x ∧ x < V 1 3 → m_nth ta (x).toNat = some (.ref t1) → 193 ≤ t1 → TxS S t1 → ¬ ((y : Int) < (-1)) → ¬ ((y : Int) < (V t1 0)) → K u w (some (iv (-1))) S V) : y_R X 2 72 u w [.ref 0, iv x, iv y] S V K := by
  have hTa := hT.2.2.1
  have hTb := hT.2.2.2.1
  refine y_ent (lv' := [(0, .ref 0), (1, iv x), (2, iv y)]) (Nat.le_of_ble_eq_true rfl) rfl ?_
  refine y_ld (x := .ref 0) rfl rfl (fun d => rfl) ?_
  refine y_gR (i := 0) rfl rfl rfl (hC 0 _ _ rfl) rfl ?_
  refine y_ld (x := iv x) rfl rfl (fun d => rfl) ?_
  refine y_cV (as := [.ref 1, iv x]) rfl rfl rfl rfl rfl (hC 1 _ _ rfl) ⟨rfl, (Nat.le_of_ble_eq_true rfl), (Nat.le_of_ble_eq_true rfl)⟩ (by decide) (cb_textAt (x := x) hC hT (by omega) (fun gt1 => ?_) (fun (t1 : Nat) gt1 ht11 ht21 ht31 => ?_))
  · refine y_nv ?_
    refine y_st (lv' := [(3, .null), (0, .ref 0), (1, iv x), (2, iv y)]) rfl rfl (fun d => rfl) ?_
    refine y_ld (x := .null) rfl rfl (fun d => rfl) ?_
    refine y_in (pc' := 26) rfl rfl (fun d => rfl) ?_
    refine y_ic rfl rfl ?_
    refine y_rI rfl (Or.inl rfl) ?_
    exact k0 gt1
  · refine y_nv ?_
    refine y_st (lv' := [(3, .ref t1), (0, .ref 0), (1, iv x), (2, iv y)]) rfl rfl (fun d => rfl) ?_
    refine y_ld (x := .ref t1) rfl rfl (fun d => rfl) ?_
    refine y_in (pc' := 13) rfl rfl (fun d => rfl) ?_
    refine y_ld (x := iv y) rfl rfl (fun d => rfl) ?_
    refine y_ic rfl rfl ?_
    refine y_jlt rfl rfl rfl (by omega) (fun g1 => ?_) (fun g1 => ?_)
    · refine y_ic rfl rfl ?_
      refine y_rI rfl (Or.inl rfl) ?_
      exact k1 t1 gt1 ht11 ht21 ht31 (by omega)
    · have hl8 := hln _ ht31
      refine y_ld (x := iv y) rfl rfl (fun d => rfl) ?_
      refine y_ld (x := .ref t1) rfl rfl (fun d => rfl) ?_
      refine y_gI (i := 0) (e := (V t1 0)) rfl rfl rfl ht31.1 rfl rfl ?_
      refine y_jlt rfl rfl rfl (by omega) (fun g2 => ?_) (fun g2 => ?_)
      · refine y_ld (x := iv y) rfl rfl (fun d => rfl) ?_
        refine y_ic rfl rfl ?_
        refine y_jne rfl rfl rfl (by omega) (fun g3 => ?_) (fun g3 => ?_)
        · refine y_ld (x := .ref t1) rfl rfl (fun d => rfl) ?_
          refine y_gR (i := 4) rfl rfl rfl ht31.1 rfl ?_
          refine y_ld (x := iv y) rfl rfl (fun d => rfl) ?_
          refine y_ild (x := (V (t1 + 4) ((y).toNat))) (q := ((y).toNat)) rfl rfl ht31.2.2.2.2.1 (by omega) (by decide) rfl rfl ?_
          refine y_rI rfl (Or.inl rfl) ?_
          exact k2 t1 gt1 ht11 ht21 ht31 (by omega) (by omega) (by omega)
        · refine y_ld (x := .ref t1) rfl rfl (fun d => rfl) ?_
          refine y_gI (i := 0) (e := (V t1 0)) rfl rfl rfl ht31.1 rfl rfl ?_
          refine y_go rfl rfl ?_
          refine y_rI rfl (Or.inl rfl) ?_
          exact k3 t1 gt1 ht11 ht21 ht31 (by omega) (by omega) (by omega)
      · refine y_ic rfl rfl ?_
        refine y_rI rfl (Or.inl rfl) ?_
        exact k4 t1 gt1 ht11 ht21 ht31 (by omega) (by omega)
set_option maxRecDepth 100000 in
set_option maxHeartbeats 4000000 in
theorem cs_latest (hC : ClF S) (hB : 0 ≤ V 1 5 ∧ V 1 5 ≤ 8) {x : Int} (hx : (-2147483648 ≤ x ∧ x < 2147483648)) (k0 : ¬ (0 ≤ x ∧ x < V 1 5) → K u w (some (iv (-1))) S V) (k1 : 0 ≤ x ∧ x < V 1 5 → K u w (some (iv (V (10 + 6 * x.toNat) 3))) S V) : y_R X 2 77 u w [.ref 0, iv x] S V K := by
  refine y_ent (lv' := [(0, .ref 0), (1, iv x)]) (Nat.le_of_ble_eq_true rfl) rfl ?_
  refine y_ld (x := .ref 0) rfl rfl (fun d => rfl) ?_
  refine y_gR (i := 0) rfl rfl rfl (hC 0 _ _ rfl) rfl ?_
  refine y_ld (x := iv x) rfl rfl (fun d => rfl) ?_
  refine y_cV (as := [.ref 1, iv x]) rfl rfl rfl rfl rfl (hC 1 _ _ rfl) ⟨rfl, (Nat.le_of_ble_eq_true rfl), (Nat.le_of_ble_eq_true rfl)⟩ (by decide) (cb_boxAt (x := x) hC hB (by omega) (fun gb1 => ?_) (fun gb1 => ?_))
  · refine y_nv ?_
    refine y_st (lv' := [(2, .null), (0, .ref 0), (1, iv x)]) rfl rfl (fun d => rfl) ?_
    refine y_ld (x := .null) rfl rfl (fun d => rfl) ?_
    refine y_in (pc' := 13) rfl rfl (fun d => rfl) ?_
    refine y_ic rfl rfl ?_
    refine y_go rfl rfl ?_
    refine y_rI rfl (Or.inl rfl) ?_
    exact k0 gb1
  · refine y_nv ?_
    refine y_st (lv' := [(2, .ref (10 + 6 * x.toNat)), (0, .ref 0), (1, iv x)]) rfl rfl (fun d => rfl) ?_
    refine y_ld (x := .ref (10 + 6 * x.toNat)) rfl rfl (fun d => rfl) ?_
    refine y_in (pc' := 17) rfl rfl (fun d => rfl) ?_
    refine y_ld (x := .ref (10 + 6 * x.toNat)) rfl rfl (fun d => rfl) ?_
    refine y_gI (i := 3) (e := (V (10 + 6 * x.toNat) 3)) rfl rfl rfl (bx_ob hC (i := x.toNat) (by omega)) rfl rfl ?_
    refine y_rI rfl (Or.inl rfl) ?_
    exact k1 gb1
set_option maxRecDepth 100000 in
set_option maxHeartbeats 4000000 in
theorem cs_led (hC : ClF S) (hB : 0 ≤ V 1 5 ∧ V 1 5 ≤ 8) {x : Int} (hx : (-2147483648 ≤ x ∧ x < 2147483648)) {y : Int} (hy : (-2147483648 ≤ y ∧ y < 2147483648)) (k0 : ¬ (0 ≤ x ∧ x < V 1 5) → K u w (some (iv (-1))) S V) (k1 : 0 ≤ x ∧ x < V 1 5 → (0 ≤ y ∧ y < 16) → K u w (some (iv (V (10 + 6 * x.toNat + 1) ((y).toNat)))) S V) (k2 : 0 ≤ x ∧ x < V 1 5 → ¬ (0 ≤ y ∧ y < 16) → K u w (some (iv (-1))) S V) : y_R X 2 81 u w [.ref 0, iv x, iv y] S V K := by
  refine y_ent (lv' := [(0, .ref 0), (1, iv x), (2, iv y)]) (Nat.le_of_ble_eq_true rfl) rfl ?_
  refine y_ld (x := .ref 0) rfl rfl (fun d => rfl) ?_
  refine y_gR (i := 0) rfl rfl rfl (hC 0 _ _ rfl) rfl ?_
  refine y_ld (x := iv x) rfl rfl (fun d => rfl) ?_
  refine y_cV (as := [.ref 1, iv x]) rfl rfl rfl rfl rfl (hC 1 _ _ rfl) ⟨rfl, (Nat.le_of_ble_eq_true rfl), (Nat.le_of_ble_eq_true rfl)⟩ (by decide) (cb_boxAt (x := x) hC hB (by omega) (fun gb1 => ?_) (fun gb1 => ?_))
  · refine y_nv ?_
    refine y_st (lv' := [(3, .null), (0, .ref 0), (1, iv x), (2, iv y)]) rfl rfl (fun d => rfl) ?_
    refine y_ld (x := .null) rfl rfl (fun d => rfl) ?_
    refine y_in (pc' := 20) rfl rfl (fun d => rfl) ?_
    refine y_ic rfl rfl ?_
    refine y_go rfl rfl ?_
    refine y_rI rfl (Or.inl rfl) ?_
    exact k0 gb1
  · refine y_nv ?_
    refine y_st (lv' := [(3, .ref (10 + 6 * x.toNat)), (0, .ref 0), (1, iv x), (2, iv y)]) rfl rfl (fun d => rfl) ?_
    refine y_ld (x := .ref (10 + 6 * x.toNat)) rfl rfl (fun d => rfl) ?_
    refine y_in (pc' := 13) rfl rfl (fun d => rfl) ?_
    refine y_ld (x := iv y) rfl rfl (fun d => rfl) ?_
    refine y_cS (as := [iv y]) rfl (by decide) rfl rfl rfl rfl ⟨(Nat.le_of_ble_eq_true rfl), (Nat.le_of_ble_eq_true rfl)⟩ (by decide) (cc_isTalk (by omega) ?_)
    refine y_nv ?_
    refine y_bne rfl rfl rfl (fun g1 => ?_) (fun g1 => ?_)
    · refine y_ld (x := .ref (10 + 6 * x.toNat)) rfl rfl (fun d => rfl) ?_
      refine y_gR (i := 5) rfl rfl rfl (bx_ob hC (i := x.toNat) (by omega)) rfl ?_
      refine y_ld (x := iv y) rfl rfl (fun d => rfl) ?_
      refine y_ild (x := (V (10 + 6 * x.toNat + 1) ((y).toNat))) (q := ((y).toNat)) rfl rfl (bx_led hC (i := x.toNat) (by omega)) (by omega) (by decide) rfl rfl ?_
      refine y_rI rfl (Or.inl rfl) ?_
      exact k1 gb1 g1
    · refine y_ic rfl rfl ?_
      refine y_go rfl rfl ?_
      refine y_rI rfl (Or.inl rfl) ?_
      exact k2 gb1 g1
end
