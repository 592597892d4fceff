/-! box, both sides -/
section
variable {X : Nat → List Int32} {u w : Nat} {S : m_H} {V : v_V} {K : v_K}
set_option maxRecDepth 100000 in
set_option maxHeartbeats 4000000 in
theorem cc_clear {m c : Nat} (hm : MeS S m c) (k : K u w none S (v_ur V c (fun _ => 0))) : y_R X 2 7 u w [.ref m] S V K := by
  refine y_ent (lv' := [(0, .ref m)]) (Nat.le_of_ble_eq_true rfl) rfl ?_
  refine y_ld (x := .ref m) rfl rfl (fun d => rfl) ?_
  refine y_gR (i := 0) rfl rfl rfl hm.1 rfl ?_
  refine y_ic rfl rfl ?_
  refine y_cS (as := [.ref c, iv 0]) rfl (by decide) rfl rfl rfl rfl ⟨(Nat.le_of_ble_eq_true rfl), (Nat.le_of_ble_eq_true rfl)⟩ (by decide) (cc_fill (x := 0) hm.2 (by decide) ?_)
  refine y_n0 ?_
  refine y_ret rfl (fun d => rfl) ?_
  exact k
set_option maxRecDepth 100000 in
set_option maxHeartbeats 4000000 in
theorem cb_begin (hC : ClF S) {b : Nat} (hb : b < 8) {n y t : Int} (k : K u w none S (v_ur (v_ur (v_ur (v_up (v_up (v_up (v_up (v_up V (10 + 6 * b) 0 n) (10 + 6 * b) 1 y) (10 + 6 * b) 2 t) (10 + 6 * b) 3 (-5)) (10 + 6 * b) 4 0) (10 + 6 * b + 1) (fun _ => n)) (10 + 6 * b + 3) (fun _ => 0)) (10 + 6 * b + 5) (fun _ => 0))) : y_R X 3 1 u w [.ref (10 + 6 * b), iv n, iv y, iv t] S V K := by
  refine y_ent (lv' := [(0, .ref (10 + 6 * b)), (1, iv n), (2, iv y), (3, iv t)]) (Nat.le_of_ble_eq_true rfl) rfl ?_
  refine y_ld (x := .ref (10 + 6 * b)) rfl rfl (fun d => rfl) ?_
  refine y_ld (x := iv n) rfl rfl (fun d => rfl) ?_
  refine y_pI (i := 0) rfl rfl rfl (bx_ob hC (i := b) (by omega)) rfl rfl ?_
  refine y_ld (x := .ref (10 + 6 * b)) rfl rfl (fun d => rfl) ?_
  refine y_ld (x := iv y) rfl rfl (fun d => rfl) ?_
  refine y_pI (i := 1) rfl rfl rfl (bx_ob hC (i := b) (by omega)) rfl rfl ?_
  refine y_ld (x := .ref (10 + 6 * b)) rfl rfl (fun d => rfl) ?_
  refine y_ld (x := iv t) rfl rfl (fun d => rfl) ?_
  refine y_pI (i := 2) rfl rfl rfl (bx_ob hC (i := b) (by omega)) rfl rfl ?_
  refine y_ld (x := .ref (10 + 6 * b)) rfl rfl (fun d => rfl) ?_
  refine y_bi rfl rfl (by decide) ?_
  refine y_pI (i := 3) rfl rfl rfl (bx_ob hC (i := b) (by omega)) rfl rfl ?_
  refine y_ld (x := .ref (10 + 6 * b)) rfl rfl (fun d => rfl) ?_
  refine y_ic rfl rfl ?_
  refine y_pI (i := 4) rfl rfl rfl (bx_ob hC (i := b) (by omega)) rfl rfl ?_
  refine y_ld (x := .ref (10 + 6 * b)) rfl rfl (fun d => rfl) ?_
  refine y_gR (i := 5) rfl rfl rfl (bx_ob hC (i := b) (by omega)) rfl ?_
  refine y_ld (x := iv n) rfl rfl (fun d => rfl) ?_
  refine y_cS (as := [.ref (10 + 6 * b + 1), iv n]) rfl (by decide) rfl rfl rfl rfl ⟨(Nat.le_of_ble_eq_true rfl), (Nat.le_of_ble_eq_true rfl)⟩ (by decide) (cc_fill (x := n) (bx_led hC (i := b) (by omega)) (by decide) ?_)
  refine y_n0 ?_
  refine y_ld (x := .ref (10 + 6 * b)) rfl rfl (fun d => rfl) ?_
  refine y_gR (i := 6) rfl rfl rfl (bx_ob hC (i := b) (by omega)) rfl ?_
  refine y_cV (as := [.ref (10 + 6 * b + 2)]) rfl rfl rfl rfl rfl (bx_mem hC (i := b) (by omega)) ⟨rfl, (Nat.le_of_ble_eq_true rfl), (Nat.le_of_ble_eq_true rfl)⟩ (by decide) (cc_clear ⟨(bx_mem hC (i := b) (by omega)), (bx_mcl hC (i := b) (by omega))⟩ ?_)
  refine y_n0 ?_
  refine y_ld (x := .ref (10 + 6 * b)) rfl rfl (fun d => rfl) ?_
  refine y_gR (i := 7) rfl rfl rfl (bx_ob hC (i := b) (by omega)) rfl ?_
  refine y_cV (as := [.ref (10 + 6 * b + 4)]) rfl rfl rfl rfl rfl (bx_cop hC (i := b) (by omega)) ⟨rfl, (Nat.le_of_ble_eq_true rfl), (Nat.le_of_ble_eq_true rfl)⟩ (by decide) (cc_clear ⟨(bx_cop hC (i := b) (by omega)), (bx_ccl hC (i := b) (by omega))⟩ ?_)
  refine y_n0 ?_
  refine y_ret rfl (fun d => rfl) ?_
  exact k
set_option maxRecDepth 100000 in
set_option maxHeartbeats 4000000 in
theorem cs_box (hC : ClF S) {ta : List Value} (hT : TAx S V ta) {n : Nat} (hB : V 1 5 = (n : Int) ∧ n ≤ 8) {y : Int} (hy : (-2147483648 ≤ y ∧ y < 2147483648)) {x : Int} (hx : (-2147483648 ≤ x ∧ x < 2147483648)) (k0 : (y : Int) < 0 → K u w (some (iv (-1))) S V) (k1 : ¬ ((y : Int) < 0) → (y : Int) ≥ 7 → K u w (some (iv (-1))) S V) (k2 : ¬ ((y : Int) < 0) → ¬ ((y : Int) ≥ 7) → ¬ (0 ≤ x ∧ x < V 1 3) → K u w (some (iv (-1))) S V) (k3 : ∀ t1 : Nat, ¬ ((y : Int) < 0) → ¬ ((y : Int) ≥ 7) → 0 ≤ x ∧ x < V 1 3 → m_nth ta (x).toNat = some (.ref t1) → 193 ≤ t1 → TxS S t1 → ((n : Int) : Int) < 8 → K u w (some (iv (((n : Int) + 1) - 1))) S (v_up (v_ur (v_ur (v_ur (v_up (v_up (v_up (v_up (v_up V (10 + 6 * n) 0 (n : Int)) (10 + 6 * n) 1 y) (10 + 6 * n) 2 x) (10 + 6 * n) 3 (-5)) (10 + 6 * n) 4 0) (10 + 6 * n + 1) (fun _ => (n : Int))) (10 + 6 * n + 3) (fun _ => 0)) (10 + 6 * n + 5) (fun _ => 0)) 1 5 ((n : Int) + 1))) (k4 : ∀ t1 : Nat, ¬ ((y : Int) < 0) → ¬ ((y : Int) ≥ 7) → 0 ≤ x ∧ x < V 1 3 → m_nth ta (x).toNat = some (.ref t1) → 193 ≤ t1 → TxS S t1 → ¬ (((n : Int) : Int) < 8) → K u w (some (iv (-4))) S V) : y_R X 4 74 u w [.ref 0, iv y, iv x] S V K := by
  have hTa := hT.2.2.1
  have hTb := hT.2.2.2.1
  have hB1 := hB.1
  refine y_ent (lv' := [(0, .ref 0), (1, iv y), (2, iv x)]) (Nat.le_of_ble_eq_true rfl) rfl ?_
  refine y_ld (x := iv y) rfl rfl (fun d => rfl) ?_
  refine y_zlt rfl rfl rfl (by omega) (fun g1 => ?_) (fun g1 => ?_)
  · refine y_ic rfl rfl ?_
    refine y_rI rfl (Or.inl rfl) ?_
    exact k0 (by omega)
  · refine y_ld (x := iv y) rfl rfl (fun d => rfl) ?_
    refine y_bi rfl rfl (by decide) ?_
    refine y_jge rfl rfl rfl (by omega) (fun g2 => ?_) (fun g2 => ?_)
    · refine y_ic rfl rfl ?_
      refine y_rI rfl (Or.inl rfl) ?_
      exact k1 (by omega) (by omega)
    · refine y_ld (x := .ref 0) rfl rfl (fun d => rfl) ?_
      refine y_gR (i := 0) rfl rfl rfl (hC 0 _ _ rfl) rfl ?_
      refine y_ld (x := iv x) rfl rfl (fun d => rfl) ?_
      refine y_cV (as := [.ref 1, iv x]) rfl rfl rfl rfl rfl (hC 1 _ _ rfl) ⟨rfl, (Nat.le_of_ble_eq_true rfl), (Nat.le_of_ble_eq_true rfl)⟩ (by decide) (cb_textAt (x := x) hC hT (by omega) (fun gt1 => ?_) (fun (t1 : Nat) gt1 ht11 ht21 ht31 => ?_))
      · refine y_nv ?_
        refine y_in (pc' := 21) rfl rfl (fun d => rfl) ?_
        refine y_ic rfl rfl ?_
        refine y_rI rfl (Or.inl rfl) ?_
        exact k2 (by omega) (by omega) gt1
      · refine y_nv ?_
        refine y_in (pc' := 23) rfl rfl (fun d => rfl) ?_
        refine y_ld (x := .ref 0) rfl rfl (fun d => rfl) ?_
        refine y_gR (i := 0) rfl rfl rfl (hC 0 _ _ rfl) rfl ?_
        refine y_gI (i := 5) (e := (n : Int)) rfl rfl rfl (hC 1 _ _ rfl) rfl hB.1 ?_
        refine y_bi rfl rfl (by decide) ?_
        refine y_jlt rfl rfl rfl (by omega) (fun g3 => ?_) (fun g3 => ?_)
        · refine y_ld (x := .ref 0) rfl rfl (fun d => rfl) ?_
          refine y_gR (i := 0) rfl rfl rfl (hC 0 _ _ rfl) rfl ?_
          refine y_gR (i := 4) rfl rfl rfl (hC 1 _ _ rfl) rfl ?_
          refine y_ld (x := .ref 0) rfl rfl (fun d => rfl) ?_
          refine y_gR (i := 0) rfl rfl rfl (hC 0 _ _ rfl) rfl ?_
          refine y_gI (i := 5) (e := (n : Int)) rfl rfl rfl (hC 1 _ _ rfl) rfl hB.1 ?_
          obtain ⟨vs, hb1, hb2⟩ := bx_ref hC (i := n) (by omega)
          refine y_rld (i := n) (x := 10 + 6 * n) rfl rfl hb1 (by decide) (by omega) (by omega) hb2 ?_
          refine y_ld (x := .ref 0) rfl rfl (fun d => rfl) ?_
          refine y_gR (i := 0) rfl rfl rfl (hC 0 _ _ rfl) rfl ?_
          refine y_gI (i := 5) (e := (n : Int)) rfl rfl rfl (hC 1 _ _ rfl) rfl hB.1 ?_
          refine y_ld (x := iv y) rfl rfl (fun d => rfl) ?_
          refine y_ld (x := iv x) rfl rfl (fun d => rfl) ?_
          refine y_cV (as := [.ref (10 + 6 * n), iv (n : Int), iv y, iv x]) rfl rfl rfl rfl rfl (bx_ob hC (i := n) (by omega)) ⟨rfl, (Nat.le_of_ble_eq_true rfl), (Nat.le_of_ble_eq_true rfl)⟩ (by decide) (cb_begin (b := n) hC (by omega) ?_)
          refine y_n0 ?_
          refine y_ld (x := .ref 0) rfl rfl (fun d => rfl) ?_
          refine y_gR (i := 0) rfl rfl rfl (hC 0 _ _ rfl) rfl ?_
          refine y_in rfl rfl (fun d => rfl) ?_
          refine y_gI (i := 5) (e := (n : Int)) rfl rfl rfl (hC 1 _ _ rfl) rfl (by rw [v_ur_ne (by omega), v_ur_ne (by omega), v_ur_ne (by omega), v_up_ne (by omega), v_up_ne (by omega), v_up_ne (by omega), v_up_ne (by omega), v_up_ne (by omega)]; exact hB.1) ?_
          refine y_ic rfl rfl ?_
          refine y_add (z := ((n : Int) + 1)) rfl rfl rfl ?_
          refine y_pI (i := 5) rfl rfl rfl (hC 1 _ _ rfl) rfl rfl ?_
          refine y_ld (x := .ref 0) rfl rfl (fun d => rfl) ?_
          refine y_gR (i := 0) rfl rfl rfl (hC 0 _ _ rfl) rfl ?_
          refine y_gI (i := 5) (e := ((n : Int) + 1)) rfl rfl rfl (hC 1 _ _ rfl) rfl (by rw [v_up_eq]) ?_
          refine y_ic rfl rfl ?_
          refine y_sub (z := (((n : Int) + 1) - 1)) rfl rfl rfl ?_
          refine y_rI rfl (Or.inl rfl) ?_
          exact k3 t1 (by omega) (by omega) gt1 ht11 ht21 ht31 (by omega)
        · refine y_bi rfl rfl (by decide) ?_
          refine y_rI rfl (Or.inl rfl) ?_
          exact k4 t1 (by omega) (by omega) gt1 ht11 ht21 ht31 (by omega)
def z_fl (f : Nat → Int) (q n : Nat) (x : Int) : Nat → Int := fun p => if q ≤ p ∧ p < q + n then x else f p
theorem z_fl_0 (f : Nat → Int) (q : Nat) (x : Int) : z_fl f q 0 x = f := funext (fun j => if_neg (by omega))
theorem z_fl_s (f : Nat → Int) (q k : Nat) (x : Int) : v_uf (z_fl f q k x) (q + k) x = z_fl f q (k + 1) x := by
  funext j
  unfold v_uf z_fl
  by_cases h : j = q + k
  · rw [if_pos h, if_pos (by omega)]
  · rw [if_neg h]
    by_cases h2 : q ≤ j ∧ j < q + k
    · rw [if_pos h2, if_pos (by omega)]
    · rw [if_neg h2, if_neg (by omega)]
theorem z_fl_c (f : Nat → Int) {q k i : Nat} {x y : Int} (h : i < q ∨ q + k ≤ i) : v_uf (z_fl f q k x) i y = z_fl (v_uf f i y) q k x := by
  funext j
  unfold v_uf z_fl
  by_cases h2 : j = i
  · rw [if_pos h2, if_neg (by omega)]; exact (if_pos h2).symm
  · rw [if_neg h2]
    by_cases h3 : q ≤ j ∧ j < q + k
    · rw [if_pos h3, if_pos h3]
    · rw [if_neg h3, if_neg h3]; exact (if_neg h2).symm
theorem v_up_r (V : v_V) (a i : Nat) (f : Nat → Int) (x : Int) : v_up (v_ur V a f) a i x = v_ur V a (v_uf f i x) := by
  rw [v_up_ur, v_ur_ur, v_ur_eq]
theorem z_fl2 (V : v_V) (a q p k : Nat) (h : q + 84 ≤ p) (hk : k < 84) : v_up (v_up (v_ur V a (z_fl (z_fl (V a) q k 0) p k 0)) a (q + k) 0) a (p + k) 0 = v_ur V a (z_fl (z_fl (V a) q (k + 1) 0) p (k + 1) 0) := by
  rw [v_up_r, v_up_r, z_fl_c _ (Or.inl (by omega)), z_fl_s, z_fl_s]
set_option maxRecDepth 100000 in
set_option maxHeartbeats 4000000 in
theorem lq_boxA (hM : MdS S) {n : Nat} (hn : n < 8) {y x : Int} {F : Nat} : ∀ (m : Nat) (k : Nat), 84 - k < m → (k ≤ 84) → (y_E X 2 136 F u w 136 [(0, .ref 170), (1, iv y), (2, iv x), (3, iv (n : Int)), (4, iv ((84 : Nat) : Int))] [] S (v_ur V 171 (z_fl (z_fl (V 171) (200 + 84 * n) 84 0) (880 + 84 * n) 84 0)) K) → y_E X 2 136 (36 * m + F) u w 89 [(0, .ref 170), (1, iv y), (2, iv x), (3, iv (n : Int)), (4, iv (k : Int))] [] S (v_ur V 171 (z_fl (z_fl (V 171) (200 + 84 * n) k 0) (880 + 84 * n) k 0)) K := by
  intro m
  induction m with
  | zero => intros; omega
  | succ m ih =>
    intro k hm hI hx2
    refine y_mono (F' := (36 * m + F) + 36) ?_ (by omega)
    refine y_ld (x := iv (k : Int)) rfl rfl (fun d => rfl) ?_
    refine y_bi rfl rfl (by decide) ?_
    refine y_jge rfl rfl rfl (by omega) (fun g1 => ?_) (fun g1 => ?_)
    · refine y_lv (l' := [(0, .ref 170), (1, iv y), (2, iv x), (3, iv (n : Int)), (4, iv (k : Int))]) rfl ⟨rfl, rfl, rfl, rfl, rfl, trivial⟩ ?_
      obtain rfl : k = 84 := by omega
      exact y_mono hx2 (by omega)
    · refine y_ld (x := .ref 170) rfl rfl (fun d => rfl) ?_
      refine y_gR (i := 1) rfl rfl rfl (md170 hM) rfl ?_
      refine y_si rfl rfl (by decide) ?_
      refine y_bi rfl rfl (by decide) ?_
      refine y_ld (x := iv (n : Int)) rfl rfl (fun d => rfl) ?_
      refine y_mul (z := (84 * (n : Int))) rfl rfl rfl ?_
      refine y_add (z := (200 + (84 * (n : Int)))) rfl rfl rfl ?_
      refine y_ld (x := iv (k : Int)) rfl rfl (fun d => rfl) ?_
      refine y_add (z := ((200 + (84 * (n : Int))) + (k : Int))) rfl rfl rfl ?_
      refine y_ic rfl rfl ?_
      refine y_ist (q := (200 + 84 * n + k)) rfl rfl (md171 hM) (by omega) (by decide) (by omega) ?_
      refine y_ld (x := .ref 170) rfl rfl (fun d => rfl) ?_
      refine y_gR (i := 1) rfl rfl rfl (md170 hM) rfl ?_
      refine y_si rfl rfl (by decide) ?_
      refine y_bi rfl rfl (by decide) ?_
      refine y_ld (x := iv (n : Int)) rfl rfl (fun d => rfl) ?_
      refine y_mul (z := (84 * (n : Int))) rfl rfl rfl ?_
      refine y_add (z := (880 + (84 * (n : Int)))) rfl rfl rfl ?_
      refine y_ld (x := iv (k : Int)) rfl rfl (fun d => rfl) ?_
      refine y_add (z := ((880 + (84 * (n : Int))) + (k : Int))) rfl rfl rfl ?_
      refine y_ic rfl rfl ?_
      refine y_ist (q := (880 + 84 * n + k)) rfl rfl (md171 hM) (by omega) (by decide) (by omega) ?_
      refine y_inc (z := ((k + 1 : Nat) : Int)) (lv' := [(4, iv ((k + 1 : Nat) : Int)), (0, .ref 170), (1, iv y), (2, iv x), (3, iv (n : Int))]) rfl rfl rfl (by omega) rfl ?_
      refine y_go rfl rfl ?_
      refine y_lv (l' := [(0, .ref 170), (1, iv y), (2, iv x), (3, iv (n : Int)), (4, iv ((k + 1 : Nat) : Int))]) rfl ⟨rfl, rfl, rfl, rfl, rfl, trivial⟩ ?_
      refine y_V (V' := v_ur V 171 (z_fl (z_fl (V 171) (200 + 84 * n) (k + 1) 0) (880 + 84 * n) (k + 1) 0)) (z_fl2 V 171 _ _ k (by omega) (by omega)) ?_
      exact y_mono (ih (k + 1) (by omega) (by omega) hx2) (by omega)
set_option maxRecDepth 100000 in
set_option maxHeartbeats 4000000 in
theorem lq_boxB (hM : MdS S) {n : Nat} (hn : n < 8) {y x : Int} {F : Nat} : ∀ (m : Nat) (k : Nat), 16 - k < m → (k ≤ 16) → (y_E X 2 136 F u w 169 [(0, .ref 170), (1, iv y), (2, iv x), (3, iv (n : Int)), (4, iv ((16 : Nat) : Int))] [] S (v_ur V 171 (z_fl (V 171) (1552 + 16 * n) 16 n)) K) → y_E X 2 136 (36 * m + F) u w 139 [(0, .ref 170), (1, iv y), (2, iv x), (3, iv (n : Int)), (4, iv (k : Int))] [] S (v_ur V 171 (z_fl (V 171) (1552 + 16 * n) k n)) K := by
  intro m
  induction m with
  | zero => intros; omega
  | succ m ih =>
    intro k hm hI hx2
    refine y_mono (F' := (36 * m + F) + 36) ?_ (by omega)
    refine y_ld (x := iv (k : Int)) rfl rfl (fun d => rfl) ?_
    refine y_bi rfl rfl (by decide) ?_
    refine y_jge rfl rfl rfl (by omega) (fun g1 => ?_) (fun g1 => ?_)
    · refine y_lv (l' := [(0, .ref 170), (1, iv y), (2, iv x), (3, iv (n : Int)), (4, iv (k : Int))]) rfl ⟨rfl, rfl, rfl, rfl, rfl, trivial⟩ ?_
      obtain rfl : k = 16 := by omega
      exact y_mono hx2 (by omega)
    · refine y_ld (x := .ref 170) rfl rfl (fun d => rfl) ?_
      refine y_gR (i := 1) rfl rfl rfl (md170 hM) rfl ?_
      refine y_si rfl rfl (by decide) ?_
      refine y_bi rfl rfl (by decide) ?_
      refine y_ld (x := iv (n : Int)) rfl rfl (fun d => rfl) ?_
      refine y_mul (z := (16 * (n : Int))) rfl rfl rfl ?_
      refine y_add (z := (1552 + (16 * (n : Int)))) rfl rfl rfl ?_
      refine y_ld (x := iv (k : Int)) rfl rfl (fun d => rfl) ?_
      refine y_add (z := ((1552 + (16 * (n : Int))) + (k : Int))) rfl rfl rfl ?_
      refine y_ld (x := iv (n : Int)) rfl rfl (fun d => rfl) ?_
      refine y_ist (q := (1552 + 16 * n + k)) rfl rfl (md171 hM) (by omega) (by decide) (by omega) ?_
      refine y_inc (z := ((k + 1 : Nat) : Int)) (lv' := [(4, iv ((k + 1 : Nat) : Int)), (0, .ref 170), (1, iv y), (2, iv x), (3, iv (n : Int))]) rfl rfl rfl (by omega) rfl ?_
      refine y_go rfl rfl ?_
      refine y_lv (l' := [(0, .ref 170), (1, iv y), (2, iv x), (3, iv (n : Int)), (4, iv ((k + 1 : Nat) : Int))]) rfl ⟨rfl, rfl, rfl, rfl, rfl, trivial⟩ ?_
      refine y_V (V' := v_ur V 171 (z_fl (V 171) (1552 + 16 * n) (k + 1) n)) (by rw [v_up_r, z_fl_s]) ?_
      exact y_mono (ih (k + 1) (by omega) (by omega) hx2) (by omega)
set_option maxRecDepth 100000 in
set_option maxHeartbeats 4000000 in
theorem ms_box (hM : MdS S) (hT : 0 ≤ V 171 0 ∧ V 171 0 ≤ 8) {n : Nat} (hB : V 171 1 = (n : Int) ∧ n ≤ 8) {y : Int} (hy : (-2147483648 ≤ y ∧ y < 2147483648)) {x : Int} (hx : (-2147483648 ≤ x ∧ x < 2147483648)) (k0 : ¬ ((0 ≤ y ∧ y ≤ 6) ∧ 0 ≤ x ∧ x ≤ V 171 0 - 1) → K u w (some (iv (-1))) S V) (k1 : (0 ≤ y ∧ y ≤ 6) ∧ 0 ≤ x ∧ x ≤ V 171 0 - 1 → n = 8 → K u w (some (iv (-4))) S V) (k2 : (0 ≤ y ∧ y ≤ 6) ∧ 0 ≤ x ∧ x ≤ V 171 0 - 1 → n < 8 → K u w (some (iv (n : Int))) S (v_up (v_ur (v_ur (v_up (v_up (v_up (v_up V 171 (170 + n) y) 171 (178 + n) x) 171 (186 + n) (-5)) 171 (872 + n) 0) 171 (z_fl (z_fl ((v_up (v_up (v_up (v_up V 171 (170 + n) y) 171 (178 + n) x) 171 (186 + n) (-5)) 171 (872 + n) 0) 171) (200 + 84 * n) 84 0) (880 + 84 * n) 84 0)) 171 (z_fl ((v_ur (v_up (v_up (v_up (v_up V 171 (170 + n) y) 171 (178 + n) x) 171 (186 + n) (-5)) 171 (872 + n) 0) 171 (z_fl (z_fl ((v_up (v_up (v_up (v_up V 171 (170 + n) y) 171 (178 + n) x) 171 (186 + n) (-5)) 171 (872 + n) 0) 171) (200 + 84 * n) 84 0) (880 + 84 * n) 84 0)) 171) (1552 + 16 * n) 16 n)) 171 1 (n + 1))) : y_R X 3 136 u w [.ref 170, iv y, iv x] S V K := by
  have hB1 := hB.1
  refine y_ent (lv' := [(0, .ref 170), (1, iv y), (2, iv x)]) (Nat.le_of_ble_eq_true rfl) rfl ?_
  refine y_ld (x := iv y) rfl rfl (fun d => rfl) ?_
  refine y_ic rfl rfl ?_
  refine y_bi rfl rfl (by decide) ?_
  refine y_cS (as := [iv y, iv 0, iv 6]) rfl (by decide) rfl rfl rfl rfl ⟨(Nat.le_of_ble_eq_true rfl), (Nat.le_of_ble_eq_true rfl)⟩ (by decide) (ct_in (by omega) ?_)
  refine y_nv ?_
  refine y_beq rfl rfl rfl (fun g1 => ?_) (fun g1 => ?_)
  · refine y_ic rfl rfl ?_
    refine y_rI rfl (Or.inl rfl) ?_
    exact k0 (by omega)
  · refine y_ld (x := .ref 170) rfl rfl (fun d => rfl) ?_
    refine y_ld (x := iv x) rfl rfl (fun d => rfl) ?_
    refine y_cV (as := [.ref 170, iv x]) rfl rfl rfl rfl rfl (md170 hM) ⟨rfl, (Nat.le_of_ble_eq_true rfl), (Nat.le_of_ble_eq_true rfl)⟩ (by decide) (ct_isText hM (by omega) ⟨rfl, by omega⟩ ?_)
    refine y_nv ?_
    refine y_bne rfl rfl rfl (fun g2 => ?_) (fun g2 => ?_)
    · refine y_ld (x := .ref 170) rfl rfl (fun d => rfl) ?_
      refine y_gR (i := 1) rfl rfl rfl (md170 hM) rfl ?_
      refine y_ic rfl rfl ?_
      refine y_ild (x := (n : Int)) (q := 1) rfl rfl (md171 hM) (by decide) (by decide) rfl hB.1 ?_
      refine y_bi rfl rfl (by decide) ?_
      refine y_jne rfl rfl rfl (by omega) (fun g3 => ?_) (fun g3 => ?_)
      · refine y_ld (x := .ref 170) rfl rfl (fun d => rfl) ?_
        refine y_gR (i := 1) rfl rfl rfl (md170 hM) rfl ?_
        refine y_ic rfl rfl ?_
        refine y_ild (x := (n : Int)) (q := 1) rfl rfl (md171 hM) (by decide) (by decide) rfl hB.1 ?_
        refine y_st (lv' := [(3, iv (n : Int)), (0, .ref 170), (1, iv y), (2, iv x)]) rfl rfl (fun d => rfl) ?_
        refine y_ld (x := .ref 170) rfl rfl (fun d => rfl) ?_
        refine y_gR (i := 1) rfl rfl rfl (md170 hM) rfl ?_
        refine y_si rfl rfl (by decide) ?_
        refine y_ld (x := iv (n : Int)) rfl rfl (fun d => rfl) ?_
        refine y_add (z := (170 + (n : Int))) rfl rfl rfl ?_
        refine y_ld (x := iv y) rfl rfl (fun d => rfl) ?_
        refine y_ist (q := (170 + n)) rfl rfl (md171 hM) (by omega) (by decide) (by omega) ?_
        refine y_ld (x := .ref 170) rfl rfl (fun d => rfl) ?_
        refine y_gR (i := 1) rfl rfl rfl (md170 hM) rfl ?_
        refine y_si rfl rfl (by decide) ?_
        refine y_ld (x := iv (n : Int)) rfl rfl (fun d => rfl) ?_
        refine y_add (z := (178 + (n : Int))) rfl rfl rfl ?_
        refine y_ld (x := iv x) rfl rfl (fun d => rfl) ?_
        refine y_ist (q := (178 + n)) rfl rfl (md171 hM) (by omega) (by decide) (by omega) ?_
        refine y_ld (x := .ref 170) rfl rfl (fun d => rfl) ?_
        refine y_gR (i := 1) rfl rfl rfl (md170 hM) rfl ?_
        refine y_si rfl rfl (by decide) ?_
        refine y_ld (x := iv (n : Int)) rfl rfl (fun d => rfl) ?_
        refine y_add (z := (186 + (n : Int))) rfl rfl rfl ?_
        refine y_bi rfl rfl (by decide) ?_
        refine y_ist (q := (186 + n)) rfl rfl (md171 hM) (by omega) (by decide) (by omega) ?_
        refine y_ld (x := .ref 170) rfl rfl (fun d => rfl) ?_
        refine y_gR (i := 1) rfl rfl rfl (md170 hM) rfl ?_
        refine y_si rfl rfl (by decide) ?_
        refine y_ld (x := iv (n : Int)) rfl rfl (fun d => rfl) ?_
        refine y_add (z := (872 + (n : Int))) rfl rfl rfl ?_
        refine y_ic rfl rfl ?_
        refine y_ist (q := (872 + n)) rfl rfl (md171 hM) (by omega) (by decide) (by omega) ?_
        refine y_ic rfl rfl ?_
        refine y_st (lv' := [(4, iv 0), (3, iv (n : Int)), (0, .ref 170), (1, iv y), (2, iv x)]) rfl rfl (fun d => rfl) ?_
        refine y_lv (l' := [(0, .ref 170), (1, iv y), (2, iv x), (3, iv (n : Int)), (4, iv 0)]) rfl ⟨rfl, rfl, rfl, rfl, rfl, trivial⟩ ?_
        generalize hW : (v_up (v_up (v_up (v_up V 171 (170 + n) y) 171 (178 + n) x) 171 (186 + n) (-5)) 171 (872 + n) 0) = W
        refine y_V (V' := v_ur W 171 (z_fl (z_fl (W 171) (200 + 84 * n) 0 0) (880 + 84 * n) 0 0)) (by rw [z_fl_0, z_fl_0, v_ur_self]) ?_
        refine y_mono (lq_boxA (F := 4000) hM (n := n) (by omega) 85 0 (by omega) (by omega) ?_) (by decide)
        have e1 : W 171 1 = (n : Int) := by rw [← hW, v_up_ni (by omega), v_up_ni (by omega), v_up_ni (by omega), v_up_ni (by omega)]; exact hB.1
        refine y_ic rfl rfl ?_
        refine y_st (lv' := [(4, iv 0), (0, .ref 170), (1, iv y), (2, iv x), (3, iv (n : Int))]) rfl rfl (fun d => rfl) ?_
        refine y_lv (l' := [(0, .ref 170), (1, iv y), (2, iv x), (3, iv (n : Int)), (4, iv 0)]) rfl ⟨rfl, rfl, rfl, rfl, rfl, trivial⟩ ?_
        refine y_V (V' := v_ur (v_ur W 171 (z_fl (z_fl (W 171) (200 + 84 * n) 84 0) (880 + 84 * n) 84 0)) 171 (z_fl ((v_ur W 171 (z_fl (z_fl (W 171) (200 + 84 * n) 84 0) (880 + 84 * n) 84 0)) 171) (1552 + 16 * n) 0 n)) (by rw [z_fl_0, v_ur_self]) ?_
        refine y_mono (lq_boxB (F := 2000) hM (n := n) (by omega) 17 0 (by omega) (by omega) ?_) (by decide)
        have e2 : v_ur (v_ur W 171 (z_fl (z_fl (W 171) (200 + 84 * n) 84 0) (880 + 84 * n) 84 0)) 171 (z_fl ((v_ur W 171 (z_fl (z_fl (W 171) (200 + 84 * n) 84 0) (880 + 84 * n) 84 0)) 171) (1552 + 16 * n) 16 n) 171 1 = (n : Int) := by rw [v_ur_eq]; unfold z_fl; rw [if_neg (by omega), v_ur_eq]; show (if _ then _ else if _ then _ else _) = _; rw [if_neg (by omega), if_neg (by omega)]; exact e1
        refine y_ld (x := .ref 170) rfl rfl (fun d => rfl) ?_
        refine y_gR (i := 1) rfl rfl rfl (md170 hM) rfl ?_
        refine y_ic rfl rfl ?_
        refine y_in rfl rfl (fun d => rfl) ?_
        refine y_ild (x := (n : Int)) (q := 1) rfl rfl (md171 hM) (by decide) (by decide) rfl e2 ?_
        refine y_ic rfl rfl ?_
        refine y_add (z := ((n : Int) + 1)) rfl rfl rfl ?_
        refine y_ist (q := 1) rfl rfl (md171 hM) (by decide) (by decide) rfl ?_
        refine y_ld (x := iv (n : Int)) rfl rfl (fun d => rfl) ?_
        refine y_rI rfl (Or.inl rfl) ?_
        subst hW
        exact k2 (by omega) (by omega)
      · refine y_bi rfl rfl (by decide) ?_
        refine y_rI rfl (Or.inl rfl) ?_
        exact k1 (by omega) (by omega)
    · refine y_ic rfl rfl ?_
      refine y_rI rfl (Or.inl rfl) ?_
      exact k0 (by omega)
end
