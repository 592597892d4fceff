/-! count, letter, the trace, both sides -/
section
variable {X : Nat → List Int32} {u w : Nat} {S : m_H} {V : v_V} {K : v_K}
theorem y_tso {X : Nat → List Int32} {D j F u w pc : Nat} {lv : m_L} {S : m_H} {V : v_V} {K : v_K} {d lo hi x a : Int} {offs : Array Int} {len b p2 : Nat} {r : List Value} (hc : m_nth (m_code j) pc = some (some (.tableswitch d lo hi offs, len, a, b))) (hx : -2147483648 ≤ x ∧ x < 2147483648) (h : x < lo ∨ hi < x) (hp : m_go pc d = some p2) (k : y_E X D j F u w p2 lv r S V K) : y_E X D j (F + 1) u w pc lv (iv x :: r) S V K := by
  refine y_in hc rfl (fun d' => ?_) k
  rw [m_s_tableswitch]
  show (if (Int32.ofInt x).toInt < lo ∨ hi < (Int32.ofInt x).toInt then _ else _) = _
  rw [v_ti hx.1 hx.2, if_pos h, hp]
set_option maxRecDepth 100000 in
set_option maxHeartbeats 4000000 in
theorem cs_count (hC : ClF S) {x : Int} (hx : (-2147483648 ≤ x ∧ x < 2147483648)) (k0 : x = 0 → K u w (some (iv (V 1 3))) S V) (k1 : x = 1 → K u w (some (iv (V 1 5))) S V) (k2 : x = 2 → K u w (some (iv (V 1 7))) S V) (k3 : x = 3 → K u w (some (iv (V 1 9))) S V) (k4 : x = 4 → K u w (some (iv (V 1 10))) S V) (k5 : x = 5 → K u w (some (iv (V 1 12))) S V) (k6 : x = 6 → K u w (some (iv (V 1 1))) S V) (k7 : x = 7 → K u w (some (iv (V 8 1))) S V) (k8 : x < 0 ∨ 7 < x → K u w (some (iv (-1))) S V) : y_R X 1 96 u w [.ref 0, iv x] S V K := by
  refine y_ent (lv' := [(0, .ref 0), (1, iv x)]) (Nat.le_of_ble_eq_true rfl) rfl ?_
  refine y_ld (x := iv x) rfl rfl (fun d => rfl) ?_
  rcases (show x = 0 ∨ x = 1 ∨ x = 2 ∨ x = 3 ∨ x = 4 ∨ x = 5 ∨ x = 6 ∨ x = 7 ∨ (x < 0 ∨ 7 < x) by omega) with hq | hq | hq | hq | hq | hq | hq | hq | hq
  · rw [hq]
    refine y_lv (l' := [(0, .ref 0), (1, iv 0)]) rfl ⟨rfl, rfl, trivial⟩ ?_
    refine y_in (pc' := 48) rfl rfl (fun d => rfl) ?_
    refine y_ld (x := .ref 0) rfl rfl (fun d => rfl) ?_
    refine y_gR (i := 0) rfl rfl rfl (hC 0 _ _ rfl) rfl ?_
    refine y_gI (i := 3) (e := (V 1 3)) rfl rfl rfl (hC 1 _ _ rfl) rfl rfl ?_
    refine y_rI rfl (Or.inl rfl) ?_
    exact k0 hq
  · rw [hq]
    refine y_lv (l' := [(0, .ref 0), (1, iv 1)]) rfl ⟨rfl, rfl, trivial⟩ ?_
    refine y_in (pc' := 56) rfl rfl (fun d => rfl) ?_
    refine y_ld (x := .ref 0) rfl rfl (fun d => rfl) ?_
    refine y_gR (i := 0) rfl rfl rfl (hC 0 _ _ rfl) rfl ?_
    refine y_gI (i := 5) (e := (V 1 5)) rfl rfl rfl (hC 1 _ _ rfl) rfl rfl ?_
    refine y_rI rfl (Or.inl rfl) ?_
    exact k1 hq
  · rw [hq]
    refine y_lv (l' := [(0, .ref 0), (1, iv 2)]) rfl ⟨rfl, rfl, trivial⟩ ?_
    refine y_in (pc' := 64) rfl rfl (fun d => rfl) ?_
    refine y_ld (x := .ref 0) rfl rfl (fun d => rfl) ?_
    refine y_gR (i := 0) rfl rfl rfl (hC 0 _ _ rfl) rfl ?_
    refine y_gI (i := 7) (e := (V 1 7)) rfl rfl rfl (hC 1 _ _ rfl) rfl rfl ?_
    refine y_rI rfl (Or.inl rfl) ?_
    exact k2 hq
  · rw [hq]
    refine y_lv (l' := [(0, .ref 0), (1, iv 3)]) rfl ⟨rfl, rfl, trivial⟩ ?_
    refine y_in (pc' := 72) rfl rfl (fun d => rfl) ?_
    refine y_ld (x := .ref 0) rfl rfl (fun d => rfl) ?_
    refine y_gR (i := 0) rfl rfl rfl (hC 0 _ _ rfl) rfl ?_
    refine y_gI (i := 9) (e := (V 1 9)) rfl rfl rfl (hC 1 _ _ rfl) rfl rfl ?_
    refine y_rI rfl (Or.inl rfl) ?_
    exact k3 hq
  · rw [hq]
    refine y_lv (l' := [(0, .ref 0), (1, iv 4)]) rfl ⟨rfl, rfl, trivial⟩ ?_
    refine y_in (pc' := 80) rfl rfl (fun d => rfl) ?_
    refine y_ld (x := .ref 0) rfl rfl (fun d => rfl) ?_
    refine y_gR (i := 0) rfl rfl rfl (hC 0 _ _ rfl) rfl ?_
    refine y_gI (i := 10) (e := (V 1 10)) rfl rfl rfl (hC 1 _ _ rfl) rfl rfl ?_
    refine y_rI rfl (Or.inl rfl) ?_
    exact k4 hq
  · rw [hq]
    refine y_lv (l' := [(0, .ref 0), (1, iv 5)]) rfl ⟨rfl, rfl, trivial⟩ ?_
    refine y_in (pc' := 88) rfl rfl (fun d => rfl) ?_
    refine y_ld (x := .ref 0) rfl rfl (fun d => rfl) ?_
    refine y_gR (i := 0) rfl rfl rfl (hC 0 _ _ rfl) rfl ?_
    refine y_gI (i := 12) (e := (V 1 12)) rfl rfl rfl (hC 1 _ _ rfl) rfl rfl ?_
    refine y_rI rfl (Or.inl rfl) ?_
    exact k5 hq
  · rw [hq]
    refine y_lv (l' := [(0, .ref 0), (1, iv 6)]) rfl ⟨rfl, rfl, trivial⟩ ?_
    refine y_in (pc' := 96) rfl rfl (fun d => rfl) ?_
    refine y_ld (x := .ref 0) rfl rfl (fun d => rfl) ?_
    refine y_gR (i := 0) rfl rfl rfl (hC 0 _ _ rfl) rfl ?_
    refine y_gI (i := 1) (e := (V 1 1)) rfl rfl rfl (hC 1 _ _ rfl) rfl rfl ?_
    refine y_rI rfl (Or.inl rfl) ?_
    exact k6 hq
  · rw [hq]
    refine y_lv (l' := [(0, .ref 0), (1, iv 7)]) rfl ⟨rfl, rfl, trivial⟩ ?_
    refine y_in (pc' := 104) rfl rfl (fun d => rfl) ?_
    refine y_ld (x := .ref 0) rfl rfl (fun d => rfl) ?_
    refine y_gR (i := 0) rfl rfl rfl (hC 0 _ _ rfl) rfl ?_
    refine y_gR (i := 13) rfl rfl rfl (hC 1 _ _ rfl) rfl ?_
    refine y_gI (i := 1) (e := (V 8 1)) rfl rfl rfl (hC 8 _ _ rfl) rfl rfl ?_
    refine y_rI rfl (Or.inl rfl) ?_
    exact k7 hq
  · refine y_tso rfl (by omega) hq rfl ?_
    refine y_ic rfl rfl ?_
    refine y_rI rfl (Or.inl rfl) ?_
    exact k8 hq
set_option maxRecDepth 100000 in
set_option maxHeartbeats 4000000 in
theorem ms_count (hM : MdS S) {x : Int} (hx : (-2147483648 ≤ x ∧ x < 2147483648)) (k0 : x = 0 → K u w (some (iv (V 171 0))) S V) (k1 : x = 1 → K u w (some (iv (V 171 1))) S V) (k2 : x = 2 → K u w (some (iv (V 171 2))) S V) (k3 : x = 3 → K u w (some (iv (V 171 3))) S V) (k4 : x = 4 → K u w (some (iv (V 171 4))) S V) (k5 : x = 5 → K u w (some (iv (V 171 5))) S V) (k6 : x = 6 → K u w (some (iv (V 171 6))) S V) (k7 : x = 7 → K u w (some (iv (V 170 40))) S V) (k8 : x < 0 ∨ 7 < x → K u w (some (iv (-1))) S V) : y_R X 1 178 u w [.ref 170, iv x] S V K := by
  refine y_ent (lv' := [(0, .ref 170), (1, iv x)]) (Nat.le_of_ble_eq_true rfl) rfl ?_
  refine y_ld (x := iv x) rfl rfl (fun d => rfl) ?_
  rcases (show x = 0 ∨ x = 1 ∨ x = 2 ∨ x = 3 ∨ x = 4 ∨ x = 5 ∨ x = 6 ∨ x = 7 ∨ (x < 0 ∨ 7 < x) by omega) with hq | hq | hq | hq | hq | hq | hq | hq | hq
  · rw [hq]
    refine y_lv (l' := [(0, .ref 170), (1, iv 0)]) rfl ⟨rfl, rfl, trivial⟩ ?_
    refine y_in (pc' := 48) rfl rfl (fun d => rfl) ?_
    refine y_ld (x := .ref 170) rfl rfl (fun d => rfl) ?_
    refine y_gR (i := 1) rfl rfl rfl (md170 hM) rfl ?_
    refine y_ic rfl rfl ?_
    refine y_ild (x := (V 171 0)) (q := 0) rfl rfl (md171 hM) (by decide) (by decide) rfl rfl ?_
    refine y_rI rfl (Or.inl rfl) ?_
    exact k0 hq
  · rw [hq]
    refine y_lv (l' := [(0, .ref 170), (1, iv 1)]) rfl ⟨rfl, rfl, trivial⟩ ?_
    refine y_in (pc' := 55) rfl rfl (fun d => rfl) ?_
    refine y_ld (x := .ref 170) rfl rfl (fun d => rfl) ?_
    refine y_gR (i := 1) rfl rfl rfl (md170 hM) rfl ?_
    refine y_ic rfl rfl ?_
    refine y_ild (x := (V 171 1)) (q := 1) rfl rfl (md171 hM) (by decide) (by decide) rfl rfl ?_
    refine y_rI rfl (Or.inl rfl) ?_
    exact k1 hq
  · rw [hq]
    refine y_lv (l' := [(0, .ref 170), (1, iv 2)]) rfl ⟨rfl, rfl, trivial⟩ ?_
    refine y_in (pc' := 62) rfl rfl (fun d => rfl) ?_
    refine y_ld (x := .ref 170) rfl rfl (fun d => rfl) ?_
    refine y_gR (i := 1) rfl rfl rfl (md170 hM) rfl ?_
    refine y_ic rfl rfl ?_
    refine y_ild (x := (V 171 2)) (q := 2) rfl rfl (md171 hM) (by decide) (by decide) rfl rfl ?_
    refine y_rI rfl (Or.inl rfl) ?_
    exact k2 hq
  · rw [hq]
    refine y_lv (l' := [(0, .ref 170), (1, iv 3)]) rfl ⟨rfl, rfl, trivial⟩ ?_
    refine y_in (pc' := 69) rfl rfl (fun d => rfl) ?_
    refine y_ld (x := .ref 170) rfl rfl (fun d => rfl) ?_
    refine y_gR (i := 1) rfl rfl rfl (md170 hM) rfl ?_
    refine y_ic rfl rfl ?_
    refine y_ild (x := (V 171 3)) (q := 3) rfl rfl (md171 hM) (by decide) (by decide) rfl rfl ?_
    refine y_rI rfl (Or.inl rfl) ?_
    exact k3 hq
  · rw [hq]
    refine y_lv (l' := [(0, .ref 170), (1, iv 4)]) rfl ⟨rfl, rfl, trivial⟩ ?_
    refine y_in (pc' := 76) rfl rfl (fun d => rfl) ?_
    refine y_ld (x := .ref 170) rfl rfl (fun d => rfl) ?_
    refine y_gR (i := 1) rfl rfl rfl (md170 hM) rfl ?_
    refine y_ic rfl rfl ?_
    refine y_ild (x := (V 171 4)) (q := 4) rfl rfl (md171 hM) (by decide) (by decide) rfl rfl ?_
    refine y_rI rfl (Or.inl rfl) ?_
    exact k4 hq
  · rw [hq]
    refine y_lv (l' := [(0, .ref 170), (1, iv 5)]) rfl ⟨rfl, rfl, trivial⟩ ?_
    refine y_in (pc' := 83) rfl rfl (fun d => rfl) ?_
    refine y_ld (x := .ref 170) rfl rfl (fun d => rfl) ?_
    refine y_gR (i := 1) rfl rfl rfl (md170 hM) rfl ?_
    refine y_ic rfl rfl ?_
    refine y_ild (x := (V 171 5)) (q := 5) rfl rfl (md171 hM) (by decide) (by decide) rfl rfl ?_
    refine y_rI rfl (Or.inl rfl) ?_
    exact k5 hq
  · rw [hq]
    refine y_lv (l' := [(0, .ref 170), (1, iv 6)]) rfl ⟨rfl, rfl, trivial⟩ ?_
    refine y_in (pc' := 90) rfl rfl (fun d => rfl) ?_
    refine y_ld (x := .ref 170) rfl rfl (fun d => rfl) ?_
    refine y_gR (i := 1) rfl rfl rfl (md170 hM) rfl ?_
    refine y_bi rfl rfl (by decide) ?_
    refine y_ild (x := (V 171 6)) (q := 6) rfl rfl (md171 hM) (by decide) (by decide) rfl rfl ?_
    refine y_rI rfl (Or.inl rfl) ?_
    exact k6 hq
  · rw [hq]
    refine y_lv (l' := [(0, .ref 170), (1, iv 7)]) rfl ⟨rfl, rfl, trivial⟩ ?_
    refine y_in (pc' := 98) rfl rfl (fun d => rfl) ?_
    refine y_ld (x := .ref 170) rfl rfl (fun d => rfl) ?_
    refine y_gI (i := 40) (e := (V 170 40)) rfl rfl rfl (md170 hM) rfl rfl ?_
    refine y_rI rfl (Or.inl rfl) ?_
    exact k7 hq
  · refine y_tso rfl (by omega) hq rfl ?_
    refine y_ic rfl rfl ?_
    refine y_rI rfl (Or.inl rfl) ?_
    exact k8 hq
set_option maxRecDepth 100000 in
set_option maxHeartbeats 4000000 in
theorem ms_trace (hM : MdS S) {x : Int} (hx : (-2147483648 ≤ x ∧ x < 2147483648)) (hr : 0 ≤ V 170 40 ∧ V 170 40 < 2147483648) (k0 : (V 170 40 : Int) ≥ 20 → ¬ (0 ≤ x ∧ x ≤ 19) → K u w (some (iv (-1))) S V) (k1 : (V 170 40 : Int) ≥ 20 → (0 ≤ x ∧ x ≤ 19) → K u w (some (iv (V 192 ((x).toNat)))) S V) (k2 : ¬ ((V 170 40 : Int) ≥ 20) → ¬ (0 ≤ x ∧ x ≤ ((V 170 40) - 1)) → K u w (some (iv (-1))) S V) (k3 : ¬ ((V 170 40 : Int) ≥ 20) → (0 ≤ x ∧ x ≤ ((V 170 40) - 1)) → K u w (some (iv (V 192 ((x).toNat)))) S V) : y_R X 2 174 u w [.ref 170, iv x] S V K := by
  refine y_ent (lv' := [(0, .ref 170), (1, iv x)]) (Nat.le_of_ble_eq_true rfl) rfl ?_
  refine y_ld (x := iv x) rfl rfl (fun d => rfl) ?_
  refine y_ic rfl rfl ?_
  refine y_ld (x := .ref 170) rfl rfl (fun d => rfl) ?_
  refine y_gI (i := 40) (e := (V 170 40)) rfl rfl rfl (md170 hM) rfl rfl ?_
  refine y_bi rfl rfl (by decide) ?_
  refine y_jge rfl rfl rfl (by omega) (fun g1 => ?_) (fun g1 => ?_)
  · refine y_bi rfl rfl (by decide) ?_
    refine y_ic rfl rfl ?_
    refine y_sub (z := 19) rfl rfl rfl ?_
    refine y_cS (as := [iv x, iv 0, iv 19]) rfl (by decide) rfl rfl rfl rfl ⟨(Nat.le_of_ble_eq_true rfl), (Nat.le_of_ble_eq_true rfl)⟩ (by decide) (ct_in (by omega) ?_)
    refine y_nv ?_
    refine y_beq rfl rfl rfl (fun g2 => ?_) (fun g2 => ?_)
    · refine y_ic rfl rfl ?_
      refine y_rI rfl (Or.inl rfl) ?_
      exact k0 (by omega) g2
    · refine y_ld (x := .ref 170) rfl rfl (fun d => rfl) ?_
      refine y_gR (i := 39) rfl rfl rfl (md170 hM) rfl ?_
      refine y_ld (x := iv x) rfl rfl (fun d => rfl) ?_
      refine y_ild (x := (V 192 ((x).toNat))) (q := ((x).toNat)) rfl rfl (md192 hM) (by omega) (by decide) rfl rfl ?_
      refine y_go rfl rfl ?_
      refine y_rI rfl (Or.inl rfl) ?_
      exact k1 (by omega) g2
  · refine y_ld (x := .ref 170) rfl rfl (fun d => rfl) ?_
    refine y_gI (i := 40) (e := (V 170 40)) rfl rfl rfl (md170 hM) rfl rfl ?_
    refine y_go rfl rfl ?_
    refine y_ic rfl rfl ?_
    refine y_sub (z := ((V 170 40) - 1)) rfl rfl rfl ?_
    refine y_cS (as := [iv x, iv 0, iv ((V 170 40) - 1)]) rfl (by decide) rfl rfl rfl rfl ⟨(Nat.le_of_ble_eq_true rfl), (Nat.le_of_ble_eq_true rfl)⟩ (by decide) (ct_in (by omega) ?_)
    refine y_nv ?_
    refine y_beq rfl rfl rfl (fun g3 => ?_) (fun g3 => ?_)
    · refine y_ic rfl rfl ?_
      refine y_rI rfl (Or.inl rfl) ?_
      exact k2 (by omega) g3
    · refine y_ld (x := .ref 170) rfl rfl (fun d => rfl) ?_
      refine y_gR (i := 39) rfl rfl rfl (md170 hM) rfl ?_
      refine y_ld (x := iv x) rfl rfl (fun d => rfl) ?_
      refine y_ild (x := (V 192 ((x).toNat))) (q := ((x).toNat)) rfl rfl (md192 hM) (by omega) (by decide) rfl rfl ?_
      refine y_go rfl rfl ?_
      refine y_rI rfl (Or.inl rfl) ?_
      exact k3 (by omega) g3
set_option maxRecDepth 100000 in
set_option maxHeartbeats 4000000 in
theorem cp_init {a : Nat} (ha : ce S a 2 [.int 0, .int 0, .int 0, .int 0]) {t h y n : Int} (k : K u w none S (v_up (v_up (v_up (v_up V a 0 t) a 1 h) a 2 y) a 3 n)) : y_R X 1 15 u w [.ref a, iv t, iv h, iv y, iv n] S V K := by
  refine y_ent (lv' := [(0, .ref a), (1, iv t), (2, iv h), (3, iv y), (4, iv n)]) (Nat.le_of_ble_eq_true rfl) rfl ?_
  refine y_ld (x := .ref a) rfl rfl (fun d => rfl) ?_
  refine y_in rfl rfl (fun d => rfl) ?_
  refine y_ld (x := .ref a) rfl rfl (fun d => rfl) ?_
  refine y_ld (x := iv t) rfl rfl (fun d => rfl) ?_
  refine y_pI (i := 0) rfl rfl rfl ha rfl rfl ?_
  refine y_ld (x := .ref a) rfl rfl (fun d => rfl) ?_
  refine y_ld (x := iv h) rfl rfl (fun d => rfl) ?_
  refine y_pI (i := 1) rfl rfl rfl ha rfl rfl ?_
  refine y_ld (x := .ref a) rfl rfl (fun d => rfl) ?_
  refine y_ld (x := iv y) rfl rfl (fun d => rfl) ?_
  refine y_pI (i := 2) rfl rfl rfl ha rfl rfl ?_
  refine y_ld (x := .ref a) rfl rfl (fun d => rfl) ?_
  refine y_ld (x := iv n) rfl rfl (fun d => rfl) ?_
  refine y_pI (i := 3) rfl rfl rfl ha rfl rfl ?_
  refine y_ret rfl (fun d => rfl) ?_
  exact k
theorem cl_app {S : m_H} (hC : ClF S) {c : Nat × List Value} : ClF (S ++ [c]) := fun k t vs hk => ce_app (hC k t vs hk)
set_option maxRecDepth 100000 in
set_option maxHeartbeats 4000000 in
theorem cs_letter (hC : ClF S) (hSl : 193 ≤ S.length ∧ S.length + 7 < 1000000) {la : List Value} (hla : ce S 7 24 la) (hll : la.length = 5) {n : Nat} (hn : V 1 12 = (n : Int) ∧ n ≤ 5) {t : Int} (ht : (-2147483648 ≤ t ∧ t < 2147483648)) {h : Int} (hh1 : (-2147483648 ≤ h ∧ h < 2147483648)) {y : Int} (hy : (-2147483648 ≤ y ∧ y < 2147483648)) {o : Int} (ho : (-2147483648 ≤ o ∧ o < 2147483648)) (k0 : (z_rf t h y o : Int) = 0 → ((n : Int) : Int) < 5 → K (u + 1) (w + 4) (some (iv ((n : Int) + 1))) ((S ++ [(2, m_dfl 2)]).set 7 (24, la.set n (.ref S.length))) (v_up (v_up (v_up (v_up (v_up (v_ur V S.length (fun _ => 0)) S.length 0 t) S.length 1 h) S.length 2 y) S.length 3 o) 1 12 ((n : Int) + 1))) (k1 : (z_rf t h y o : Int) = 0 → ¬ (((n : Int) : Int) < 5) → K u w (some (iv (-4))) S V) (k2 : ¬ ((z_rf t h y o : Int) = 0) → K u w (some (iv (z_rf t h y o))) S V) : y_R X 3 87 u w [.ref 0, iv t, iv h, iv y, iv o] S V K := by
  have hn1 := hn.1
  refine y_ent (lv' := [(0, .ref 0), (1, iv t), (2, iv h), (3, iv y), (4, iv o)]) (Nat.le_of_ble_eq_true rfl) rfl ?_
  refine y_ld (x := iv t) rfl rfl (fun d => rfl) ?_
  refine y_ld (x := iv h) rfl rfl (fun d => rfl) ?_
  refine y_ld (x := iv y) rfl rfl (fun d => rfl) ?_
  refine y_ld (x := iv o) rfl rfl (fun d => rfl) ?_
  refine y_cS (as := [iv t, iv h, iv y, iv o]) rfl (by decide) rfl rfl rfl rfl ⟨(Nat.le_of_ble_eq_true rfl), (Nat.le_of_ble_eq_true rfl)⟩ (by decide) (cc_refusalOf (by omega) ?_)
  refine y_nv ?_
  refine y_st (lv' := [(5, iv (z_rf t h y o)), (0, .ref 0), (1, iv t), (2, iv h), (3, iv y), (4, iv o)]) rfl rfl (fun d => rfl) ?_
  refine y_ld (x := iv (z_rf t h y o)) rfl rfl (fun d => rfl) ?_
  have hrf : -2147483648 ≤ z_rf t h y o ∧ z_rf t h y o < 2147483648 := by unfold z_rf; (split <;> try split) <;> omega
  refine y_zeq rfl rfl rfl (by omega) (fun g1 => ?_) (fun g1 => ?_)
  · refine y_ld (x := .ref 0) rfl rfl (fun d => rfl) ?_
    refine y_gR (i := 0) rfl rfl rfl (hC 0 _ _ rfl) rfl ?_
    refine y_gI (i := 12) (e := (n : Int)) rfl rfl rfl (hC 1 _ _ rfl) rfl hn.1 ?_
    refine y_ic rfl rfl ?_
    refine y_jlt rfl rfl rfl (by omega) (fun g2 => ?_) (fun g2 => ?_)
    · refine y_ld (x := .ref 0) rfl rfl (fun d => rfl) ?_
      refine y_gR (i := 0) rfl rfl rfl (hC 0 _ _ rfl) rfl ?_
      refine y_gR (i := 11) rfl rfl rfl (hC 1 _ _ rfl) rfl ?_
      refine y_ld (x := .ref 0) rfl rfl (fun d => rfl) ?_
      refine y_gR (i := 0) rfl rfl rfl (hC 0 _ _ rfl) rfl ?_
      refine y_gI (i := 12) (e := (n : Int)) rfl rfl rfl (hC 1 _ _ rfl) rfl hn.1 ?_
      refine y_new (z := 4) rfl rfl (by omega) rfl (dfl_ok (by decide)) ?_
      refine y_V (V' := v_ur V S.length (fun _ => 0)) rfl ?_
      have hp : ce (S ++ [(2, m_dfl 2)]) S.length 2 [.int 0, .int 0, .int 0, .int 0] := ce_new (by omega)
      have h7 : ce (S ++ [(2, m_dfl 2)]) 7 24 la := ce_app hla
      have hCp : ClF (S ++ [(2, m_dfl 2)]) := cl_app hC
      refine y_in rfl rfl (fun d => rfl) ?_
      refine y_ld (x := iv t) rfl rfl (fun d => rfl) ?_
      refine y_ld (x := iv h) rfl rfl (fun d => rfl) ?_
      refine y_ld (x := iv y) rfl rfl (fun d => rfl) ?_
      refine y_ld (x := iv o) rfl rfl (fun d => rfl) ?_
      refine y_cI (as := [.ref S.length, iv t, iv h, iv y, iv o]) rfl (by decide) rfl rfl rfl rfl ⟨(Nat.le_of_ble_eq_true rfl), (Nat.le_of_ble_eq_true rfl), (by omega)⟩ (by decide) (cp_init hp ?_)
      refine y_n0 ?_
      refine y_rst (i := n) rfl rfl h7 (by decide) (by omega) (by omega) (by omega) (Or.inr ⟨S.length, _, rfl, hp⟩) ?_
      have hCq : ClF ((S ++ [(2, m_dfl 2)]).set 7 (24, la.set n (.ref S.length))) := cl_set hCp (by decide)
      refine y_ld (x := .ref 0) rfl rfl (fun d => rfl) ?_
      refine y_gR (i := 0) rfl rfl rfl (hCq 0 _ _ rfl) rfl ?_
      refine y_in rfl rfl (fun d => rfl) ?_
      refine y_gI (i := 12) (e := (n : Int)) rfl rfl rfl (hCq 1 _ _ rfl) rfl (by rw [v_up_ne (by omega), v_up_ne (by omega), v_up_ne (by omega), v_up_ne (by omega), v_ur_ne (by omega)]; exact hn.1) ?_
      refine y_ic rfl rfl ?_
      refine y_add (z := ((n : Int) + 1)) rfl rfl rfl ?_
      refine y_pI (i := 12) rfl rfl rfl (hCq 1 _ _ rfl) rfl rfl ?_
      refine y_ld (x := .ref 0) rfl rfl (fun d => rfl) ?_
      refine y_gR (i := 0) rfl rfl rfl (hCq 0 _ _ rfl) rfl ?_
      refine y_gI (i := 12) (e := ((n : Int) + 1)) rfl rfl rfl (hCq 1 _ _ rfl) rfl (by rw [v_up_eq]) ?_
      refine y_rI rfl (Or.inl rfl) ?_
      exact k0 (by omega) (by omega)
    · refine y_bi rfl rfl (by decide) ?_
      refine y_rI rfl (Or.inl rfl) ?_
      exact k1 (by omega) (by omega)
  · refine y_ld (x := iv (z_rf t h y o)) rfl rfl (fun d => rfl) ?_
    refine y_rI rfl (Or.inl rfl) ?_
    exact k2 (by omega)
set_option maxRecDepth 100000 in
set_option maxHeartbeats 4000000 in
theorem ct_isPacket {t h y : Int} (e : (-2147483648 ≤ t ∧ t < 2147483648) ∧ (-2147483648 ≤ h ∧ h < 2147483648) ∧ (-2147483648 ≤ y ∧ y < 2147483648)) (k : K u w (some (iv (v_b ((0 ≤ t ∧ t ≤ 15) ∧ (0 ≤ h ∧ h ≤ 3) ∧ (0 ≤ y ∧ y ≤ 3))))) S V) : y_R X 3 135 u w [iv t, iv h, iv y] S V K := by
  refine y_ent (lv' := [(0, iv t), (1, iv h), (2, iv y)]) (Nat.le_of_ble_eq_true rfl) rfl ?_
  refine y_ld (x := iv t) rfl rfl (fun d => rfl) ?_
  refine y_cS (as := [iv t]) rfl (by decide) rfl rfl rfl rfl ⟨(Nat.le_of_ble_eq_true rfl), (Nat.le_of_ble_eq_true rfl)⟩ (by decide) (ct_isTalk (by omega) ?_)
  refine y_nv ?_
  refine y_beq rfl rfl rfl (fun g1 => ?_) (fun g1 => ?_)
  · refine y_ic rfl rfl ?_
    refine y_rI rfl (by decide) ?_
    rwa [v_b0 (by omega)] at k
  · refine y_ld (x := iv h) rfl rfl (fun d => rfl) ?_
    refine y_cS (as := [iv h]) rfl (by decide) rfl rfl rfl rfl ⟨(Nat.le_of_ble_eq_true rfl), (Nat.le_of_ble_eq_true rfl)⟩ (by decide) (ct_isFour (by omega) ?_)
    refine y_nv ?_
    refine y_beq rfl rfl rfl (fun g2 => ?_) (fun g2 => ?_)
    · refine y_ic rfl rfl ?_
      refine y_rI rfl (by decide) ?_
      rwa [v_b0 (by omega)] at k
    · refine y_ld (x := iv y) rfl rfl (fun d => rfl) ?_
      refine y_cS (as := [iv y]) rfl (by decide) rfl rfl rfl rfl ⟨(Nat.le_of_ble_eq_true rfl), (Nat.le_of_ble_eq_true rfl)⟩ (by decide) (ct_isFour (by omega) ?_)
      refine y_nv ?_
      refine y_beq rfl rfl rfl (fun g3 => ?_) (fun g3 => ?_)
      · refine y_ic rfl rfl ?_
        refine y_rI rfl (by decide) ?_
        rwa [v_b0 (by omega)] at k
      · refine y_ic rfl rfl ?_
        refine y_go rfl rfl ?_
        refine y_rI rfl (by decide) ?_
        rwa [v_b1 (by omega)] at k
set_option maxRecDepth 100000 in
set_option maxHeartbeats 4000000 in
theorem ms_letter (hM : MdS S) {n : Nat} (hn : V 171 5 = (n : Int) ∧ n ≤ 5) {t : Int} (ht : (-2147483648 ≤ t ∧ t < 2147483648)) {h : Int} (hh1 : (-2147483648 ≤ h ∧ h < 2147483648)) {y : Int} (hy : (-2147483648 ≤ y ∧ y < 2147483648)) {o : Int} (ho : (-2147483648 ≤ o ∧ o < 2147483648)) (k0 : ((0 ≤ t ∧ t ≤ 15) ∧ (0 ≤ h ∧ h ≤ 3) ∧ (0 ≤ y ∧ y ≤ 3)) → (0 ≤ o ∧ o ≤ 99) → ((n : Int) : Int) ≠ 5 → K u w (some (iv ((n : Int) + 1))) S (v_up (v_up (v_up (v_up (v_up V 171 (1770 + 4 * n) t) 171 (1770 + 4 * n + 1) h) 171 (1770 + 4 * n + 2) y) 171 (1770 + 4 * n + 3) o) 171 5 ((n : Int) + 1))) (k1 : ((0 ≤ t ∧ t ≤ 15) ∧ (0 ≤ h ∧ h ≤ 3) ∧ (0 ≤ y ∧ y ≤ 3)) → (0 ≤ o ∧ o ≤ 99) → ¬ (((n : Int) : Int) ≠ 5) → K u w (some (iv (-4))) S V) (k2 : ((0 ≤ t ∧ t ≤ 15) ∧ (0 ≤ h ∧ h ≤ 3) ∧ (0 ≤ y ∧ y ≤ 3)) → ¬ (0 ≤ o ∧ o ≤ 99) → K u w (some (iv (-2))) S V) (k3 : ¬ ((0 ≤ t ∧ t ≤ 15) ∧ (0 ≤ h ∧ h ≤ 3) ∧ (0 ≤ y ∧ y ≤ 3)) → K u w (some (iv (-1))) S V) : y_R X 4 153 u w [.ref 170, iv t, iv h, iv y, iv o] S V K := by
  have hn1 := hn.1
  refine y_ent (lv' := [(0, .ref 170), (1, iv t), (2, iv h), (3, iv y), (4, iv o)]) (Nat.le_of_ble_eq_true rfl) rfl ?_
  refine y_ld (x := iv t) rfl rfl (fun d => rfl) ?_
  refine y_ld (x := iv h) rfl rfl (fun d => rfl) ?_
  refine y_ld (x := iv y) rfl rfl (fun d => rfl) ?_
  refine y_cS (as := [iv t, iv h, iv y]) rfl (by decide) rfl rfl rfl rfl ⟨(Nat.le_of_ble_eq_true rfl), (Nat.le_of_ble_eq_true rfl)⟩ (by decide) (ct_isPacket (by omega) ?_)
  refine y_nv ?_
  refine y_bne rfl rfl rfl (fun g1 => ?_) (fun g1 => ?_)
  · refine y_ld (x := iv o) rfl rfl (fun d => rfl) ?_
    refine y_ic rfl rfl ?_
    refine y_bi rfl rfl (by decide) ?_
    refine y_cS (as := [iv o, iv 0, iv 99]) rfl (by decide) rfl rfl rfl rfl ⟨(Nat.le_of_ble_eq_true rfl), (Nat.le_of_ble_eq_true rfl)⟩ (by decide) (ct_in (by omega) ?_)
    refine y_nv ?_
    refine y_bne rfl rfl rfl (fun g2 => ?_) (fun g2 => ?_)
    · refine y_ld (x := .ref 170) rfl rfl (fun d => rfl) ?_
      refine y_gR (i := 1) rfl rfl rfl (md170 hM) rfl ?_
      refine y_ic rfl rfl ?_
      refine y_ild (x := (n : Int)) (q := 5) rfl rfl (md171 hM) (by decide) (by decide) rfl hn.1 ?_
      refine y_ic rfl rfl ?_
      refine y_jne rfl rfl rfl (by omega) (fun g3 => ?_) (fun g3 => ?_)
      · refine y_si rfl rfl (by decide) ?_
        refine y_ic rfl rfl ?_
        refine y_ld (x := .ref 170) rfl rfl (fun d => rfl) ?_
        refine y_gR (i := 1) rfl rfl rfl (md170 hM) rfl ?_
        refine y_ic rfl rfl ?_
        refine y_ild (x := (n : Int)) (q := 5) rfl rfl (md171 hM) (by decide) (by decide) rfl hn.1 ?_
        refine y_mul (z := (4 * (n : Int))) rfl rfl rfl ?_
        refine y_add (z := (1770 + (4 * (n : Int)))) rfl rfl rfl ?_
        refine y_st (lv' := [(5, iv (1770 + (4 * (n : Int)))), (0, .ref 170), (1, iv t), (2, iv h), (3, iv y), (4, iv o)]) rfl rfl (fun d => rfl) ?_
        refine y_ld (x := .ref 170) rfl rfl (fun d => rfl) ?_
        refine y_gR (i := 1) rfl rfl rfl (md170 hM) rfl ?_
        refine y_ld (x := iv (1770 + (4 * (n : Int)))) rfl rfl (fun d => rfl) ?_
        refine y_ld (x := iv t) rfl rfl (fun d => rfl) ?_
        refine y_ist (q := (1770 + 4 * n)) rfl rfl (md171 hM) (by omega) (by decide) (by omega) ?_
        refine y_ld (x := .ref 170) rfl rfl (fun d => rfl) ?_
        refine y_gR (i := 1) rfl rfl rfl (md170 hM) rfl ?_
        refine y_ld (x := iv (1770 + (4 * (n : Int)))) rfl rfl (fun d => rfl) ?_
        refine y_ic rfl rfl ?_
        refine y_add (z := ((1770 + (4 * (n : Int))) + 1)) rfl rfl rfl ?_
        refine y_ld (x := iv h) rfl rfl (fun d => rfl) ?_
        refine y_ist (q := (1770 + 4 * n + 1)) rfl rfl (md171 hM) (by omega) (by decide) (by omega) ?_
        refine y_ld (x := .ref 170) rfl rfl (fun d => rfl) ?_
        refine y_gR (i := 1) rfl rfl rfl (md170 hM) rfl ?_
        refine y_ld (x := iv (1770 + (4 * (n : Int)))) rfl rfl (fun d => rfl) ?_
        refine y_ic rfl rfl ?_
        refine y_add (z := ((1770 + (4 * (n : Int))) + 2)) rfl rfl rfl ?_
        refine y_ld (x := iv y) rfl rfl (fun d => rfl) ?_
        refine y_ist (q := (1770 + 4 * n + 2)) rfl rfl (md171 hM) (by omega) (by decide) (by omega) ?_
        refine y_ld (x := .ref 170) rfl rfl (fun d => rfl) ?_
        refine y_gR (i := 1) rfl rfl rfl (md170 hM) rfl ?_
        refine y_ld (x := iv (1770 + (4 * (n : Int)))) rfl rfl (fun d => rfl) ?_
        refine y_ic rfl rfl ?_
        refine y_add (z := ((1770 + (4 * (n : Int))) + 3)) rfl rfl rfl ?_
        refine y_ld (x := iv o) rfl rfl (fun d => rfl) ?_
        refine y_ist (q := (1770 + 4 * n + 3)) rfl rfl (md171 hM) (by omega) (by decide) (by omega) ?_
        refine y_ld (x := .ref 170) rfl rfl (fun d => rfl) ?_
        refine y_gR (i := 1) rfl rfl rfl (md170 hM) rfl ?_
        refine y_ic rfl rfl ?_
        refine y_in rfl rfl (fun d => rfl) ?_
        refine y_ild (x := (n : Int)) (q := 5) rfl rfl (md171 hM) (by decide) (by decide) rfl (by rw [v_up_ni (by omega), v_up_ni (by omega), v_up_ni (by omega), v_up_ni (by omega)]; exact hn.1) ?_
        refine y_ic rfl rfl ?_
        refine y_add (z := ((n : Int) + 1)) rfl rfl rfl ?_
        refine y_ist (q := 5) rfl rfl (md171 hM) (by decide) (by decide) rfl ?_
        refine y_ld (x := .ref 170) rfl rfl (fun d => rfl) ?_
        refine y_gR (i := 1) rfl rfl rfl (md170 hM) rfl ?_
        refine y_ic rfl rfl ?_
        refine y_ild (x := ((n : Int) + 1)) (q := 5) rfl rfl (md171 hM) (by decide) (by decide) rfl (by rw [v_up_eq]) ?_
        refine y_rI rfl (Or.inl rfl) ?_
        exact k0 g1 g2 (by omega)
      · refine y_bi rfl rfl (by decide) ?_
        refine y_rI rfl (Or.inl rfl) ?_
        exact k1 g1 g2 (by omega)
    · refine y_bi rfl rfl (by decide) ?_
      refine y_rI rfl (Or.inl rfl) ?_
      exact k2 g1 g2
  · refine y_ic rfl rfl ?_
    refine y_rI rfl (Or.inl rfl) ?_
    exact k3 g1
end
