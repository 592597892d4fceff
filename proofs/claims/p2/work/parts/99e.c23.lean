/-! a memory: put, take and forget a talk, have one -/
section
variable {X : Nat → List Int32} {u w : Nat} {S : m_H} {V : v_V} {K : v_K}
set_option maxRecDepth 100000 in
set_option maxHeartbeats 4000000 in
theorem cc_put {m c : Nat} (hm : MeS S m c) {x v : Int} {q : Nat} (hq : x = (q : Int)) (h : q < 84) (k : K u w none S (v_up V c q v)) : y_R X 1 10 u w [.ref m, iv x, iv v] S V K := by
  refine y_ent (lv' := [(0, .ref m), (1, iv x), (2, iv v)]) (Nat.le_of_ble_eq_true rfl) rfl ?_
  refine y_ld (x := iv x) rfl rfl (fun d => rfl) ?_
  refine y_zlt rfl rfl rfl (by omega) (fun g1 => absurd g1 (by omega)) (fun g1 => ?_)
  refine y_ld (x := iv x) rfl rfl (fun d => rfl) ?_
  refine y_bi rfl rfl (by decide) ?_
  refine y_jge rfl rfl rfl (by omega) (fun g2 => absurd g2 (by omega)) (fun g2 => ?_)
  refine y_ld (x := .ref m) rfl rfl (fun d => rfl) ?_
  refine y_gR (i := 0) rfl rfl rfl hm.1 rfl ?_
  refine y_ld (x := iv x) rfl rfl (fun d => rfl) ?_
  refine y_ld (x := iv v) rfl rfl (fun d => rfl) ?_
  refine y_ist (q := q) rfl rfl hm.2 (by omega) (by decide) (by omega) ?_
  refine y_ret rfl (fun d => rfl) ?_
  exact k
theorem cc_at2 {m c : Nat} (hm : MeS S m c) {x e : Int} {q : Nat} (hq : x = (q : Int)) (h : q < 84) (he : V c q = e) (k : K u w (some (iv e)) S V) : y_R X 1 9 u w [.ref m, iv x] S V K := by
  subst hq he
  exact cc_at hm (by omega) k
theorem v_fg4 (V : v_V) (c q : Nat) : v_up (v_up (v_up (v_up V c (q + 0) 0) c (q + 1) 0) c (q + 2) 0) c (q + 3) 0 = v_ur V c (z_fl (V c) q 4 0) := by
  rw [show v_up V c (q + 0) 0 = v_up (v_ur V c (z_fl (V c) q 0 0)) c (q + 0) 0 by rw [z_fl_0, v_ur_self]]
  rw [v_up_r, z_fl_s, v_up_r, z_fl_s, v_up_r, z_fl_s, v_up_r, z_fl_s]
theorem z_cp_s (f g : Nat → Int) (q k : Nat) : v_uf (v_cp f g q q k) (q + k) (f (q + k)) = v_cp f g q q (k + 1) := by
  funext j
  unfold v_uf v_cp
  by_cases h1 : j = q + k
  · rw [if_pos h1, if_pos (by omega), show j - q + q = q + k by omega]
  · rw [if_neg h1]
    by_cases h2 : q ≤ j ∧ j < q + k
    · rw [if_pos h2, if_pos (by omega)]
    · rw [if_neg h2, if_neg (by omega)]
theorem v_tk4 (V : v_V) (c d q : Nat) : v_up (v_up (v_up (v_up V c (q + 0) (V d (q + 0))) c (q + 1) (V d (q + 1))) c (q + 2) (V d (q + 2))) c (q + 3) (V d (q + 3)) = v_ur V c (v_cp (V d) (V c) q q 4) := by
  rw [show v_up V c (q + 0) (V d (q + 0)) = v_up (v_ur V c (v_cp (V d) (V c) q q 0)) c (q + 0) (V d (q + 0)) by rw [show v_cp (V d) (V c) q q 0 = V c from funext (fun j => if_neg (by omega)), v_ur_self]]
  rw [v_up_r, z_cp_s, v_up_r, z_cp_s, v_up_r, z_cp_s, v_up_r, z_cp_s]
set_option maxRecDepth 100000 in
set_option maxHeartbeats 4000000 in
theorem cc_forget {m c t : Nat} (hm : MeS S m c) (ht : t < 16) (k : K u w none S (v_ur V c (z_fl (V c) (4 * t) 4 0))) : y_R X 2 11 u w [.ref m, iv (t : Int)] S V K := by
  refine y_ent (lv' := [(0, .ref m), (1, iv (t : Int))]) (Nat.le_of_ble_eq_true rfl) rfl ?_
  refine y_ic rfl rfl ?_
  refine y_st (lv' := [(2, iv 0), (0, .ref m), (1, iv (t : Int))]) rfl rfl (fun d => rfl) ?_
  refine y_ld (x := iv 0) rfl rfl (fun d => rfl) ?_
  refine y_ic rfl rfl ?_
  refine y_jge rfl rfl rfl (by decide) (fun g1 => absurd g1 (by decide)) (fun g1 => ?_)
  refine y_ld (x := .ref m) rfl rfl (fun d => rfl) ?_
  refine y_ld (x := iv (t : Int)) rfl rfl (fun d => rfl) ?_
  refine y_ic rfl rfl ?_
  refine y_mul (z := ((t : Int) * 4)) rfl rfl rfl ?_
  refine y_ld (x := iv 0) rfl rfl (fun d => rfl) ?_
  refine y_add (z := (((t : Int) * 4) + 0)) rfl rfl rfl ?_
  refine y_ic rfl rfl ?_
  refine y_cV (as := [.ref m, iv (((t : Int) * 4) + 0), iv 0]) rfl rfl rfl rfl rfl hm.1 ⟨rfl, (Nat.le_of_ble_eq_true rfl), (Nat.le_of_ble_eq_true rfl)⟩ (by decide) (cc_put (q := 4 * t + 0) hm (by omega) (by omega) ?_)
  refine y_n0 ?_
  refine y_inc (z := 1) (lv' := [(2, iv 1), (0, .ref m), (1, iv (t : Int))]) rfl rfl rfl rfl rfl ?_
  refine y_go rfl rfl ?_
  refine y_ld (x := iv 1) rfl rfl (fun d => rfl) ?_
  refine y_ic rfl rfl ?_
  refine y_jge rfl rfl rfl (by decide) (fun g2 => absurd g2 (by decide)) (fun g2 => ?_)
  refine y_ld (x := .ref m) rfl rfl (fun d => rfl) ?_
  refine y_ld (x := iv (t : Int)) rfl rfl (fun d => rfl) ?_
  refine y_ic rfl rfl ?_
  refine y_mul (z := ((t : Int) * 4)) rfl rfl rfl ?_
  refine y_ld (x := iv 1) rfl rfl (fun d => rfl) ?_
  refine y_add (z := (((t : Int) * 4) + 1)) rfl rfl rfl ?_
  refine y_ic rfl rfl ?_
  refine y_cV (as := [.ref m, iv (((t : Int) * 4) + 1), iv 0]) rfl rfl rfl rfl rfl hm.1 ⟨rfl, (Nat.le_of_ble_eq_true rfl), (Nat.le_of_ble_eq_true rfl)⟩ (by decide) (cc_put (q := 4 * t + 1) hm (by omega) (by omega) ?_)
  refine y_n0 ?_
  refine y_inc (z := 2) (lv' := [(2, iv 2), (0, .ref m), (1, iv (t : Int))]) rfl rfl rfl rfl rfl ?_
  refine y_go rfl rfl ?_
  refine y_ld (x := iv 2) rfl rfl (fun d => rfl) ?_
  refine y_ic rfl rfl ?_
  refine y_jge rfl rfl rfl (by decide) (fun g3 => absurd g3 (by decide)) (fun g3 => ?_)
  refine y_ld (x := .ref m) rfl rfl (fun d => rfl) ?_
  refine y_ld (x := iv (t : Int)) rfl rfl (fun d => rfl) ?_
  refine y_ic rfl rfl ?_
  refine y_mul (z := ((t : Int) * 4)) rfl rfl rfl ?_
  refine y_ld (x := iv 2) rfl rfl (fun d => rfl) ?_
  refine y_add (z := (((t : Int) * 4) + 2)) rfl rfl rfl ?_
  refine y_ic rfl rfl ?_
  refine y_cV (as := [.ref m, iv (((t : Int) * 4) + 2), iv 0]) rfl rfl rfl rfl rfl hm.1 ⟨rfl, (Nat.le_of_ble_eq_true rfl), (Nat.le_of_ble_eq_true rfl)⟩ (by decide) (cc_put (q := 4 * t + 2) hm (by omega) (by omega) ?_)
  refine y_n0 ?_
  refine y_inc (z := 3) (lv' := [(2, iv 3), (0, .ref m), (1, iv (t : Int))]) rfl rfl rfl rfl rfl ?_
  refine y_go rfl rfl ?_
  refine y_ld (x := iv 3) rfl rfl (fun d => rfl) ?_
  refine y_ic rfl rfl ?_
  refine y_jge rfl rfl rfl (by decide) (fun g4 => absurd g4 (by decide)) (fun g4 => ?_)
  refine y_ld (x := .ref m) rfl rfl (fun d => rfl) ?_
  refine y_ld (x := iv (t : Int)) rfl rfl (fun d => rfl) ?_
  refine y_ic rfl rfl ?_
  refine y_mul (z := ((t : Int) * 4)) rfl rfl rfl ?_
  refine y_ld (x := iv 3) rfl rfl (fun d => rfl) ?_
  refine y_add (z := (((t : Int) * 4) + 3)) rfl rfl rfl ?_
  refine y_ic rfl rfl ?_
  refine y_cV (as := [.ref m, iv (((t : Int) * 4) + 3), iv 0]) rfl rfl rfl rfl rfl hm.1 ⟨rfl, (Nat.le_of_ble_eq_true rfl), (Nat.le_of_ble_eq_true rfl)⟩ (by decide) (cc_put (q := 4 * t + 3) hm (by omega) (by omega) ?_)
  refine y_n0 ?_
  refine y_inc (z := 4) (lv' := [(2, iv 4), (0, .ref m), (1, iv (t : Int))]) rfl rfl rfl rfl rfl ?_
  refine y_go rfl rfl ?_
  refine y_ld (x := iv 4) rfl rfl (fun d => rfl) ?_
  refine y_ic rfl rfl ?_
  refine y_jge rfl rfl rfl (by decide) (fun g5 => ?_) (fun g5 => absurd g5 (by decide))
  refine y_ret rfl (fun d => rfl) ?_
  exact cast (congrArg (fun W => K u w none S W) (v_fg4 V c (4 * t)).symm) k
set_option maxRecDepth 100000 in
set_option maxHeartbeats 4000000 in
theorem cc_take {m c o d t : Nat} (hm : MeS S m c) (ho : MeS S o d) (hcd : c ≠ d) (ht : t < 16) (k : K u w none S (v_ur (v_ur V c (v_cp (V d) (V c) (4 * t) (4 * t) 4)) d (z_fl (V d) (4 * t) 4 0))) : y_R X 3 12 u w [.ref m, .ref o, iv (t : Int)] S V K := by
  refine y_ent (lv' := [(0, .ref m), (1, .ref o), (2, iv (t : Int))]) (Nat.le_of_ble_eq_true rfl) rfl ?_
  refine y_ic rfl rfl ?_
  refine y_st (lv' := [(3, iv 0), (0, .ref m), (1, .ref o), (2, iv (t : Int))]) rfl rfl (fun d => rfl) ?_
  refine y_ld (x := iv 0) rfl rfl (fun d => rfl) ?_
  refine y_ic rfl rfl ?_
  refine y_jge rfl rfl rfl (by decide) (fun g1 => absurd g1 (by decide)) (fun g1 => ?_)
  refine y_ld (x := .ref m) rfl rfl (fun d => rfl) ?_
  refine y_ld (x := iv (t : Int)) rfl rfl (fun d => rfl) ?_
  refine y_ic rfl rfl ?_
  refine y_mul (z := ((t : Int) * 4)) rfl rfl rfl ?_
  refine y_ld (x := iv 0) rfl rfl (fun d => rfl) ?_
  refine y_add (z := (((t : Int) * 4) + 0)) rfl rfl rfl ?_
  refine y_ld (x := .ref o) rfl rfl (fun d => rfl) ?_
  refine y_ld (x := iv (t : Int)) rfl rfl (fun d => rfl) ?_
  refine y_ic rfl rfl ?_
  refine y_mul (z := ((t : Int) * 4)) rfl rfl rfl ?_
  refine y_ld (x := iv 0) rfl rfl (fun d => rfl) ?_
  refine y_add (z := (((t : Int) * 4) + 0)) rfl rfl rfl ?_
  refine y_cV (as := [.ref o, iv (((t : Int) * 4) + 0)]) rfl rfl rfl rfl rfl ho.1 ⟨rfl, (Nat.le_of_ble_eq_true rfl), (Nat.le_of_ble_eq_true rfl)⟩ (by decide) (cc_at2 (q := 4 * t + 0) ho (by omega) (by omega) rfl ?_)
  refine y_nv ?_
  refine y_cV (as := [.ref m, iv (((t : Int) * 4) + 0), iv (V d (4 * t + 0))]) rfl rfl rfl rfl rfl hm.1 ⟨rfl, (Nat.le_of_ble_eq_true rfl), (Nat.le_of_ble_eq_true rfl)⟩ (by decide) (cc_put (q := 4 * t + 0) hm (by omega) (by omega) ?_)
  refine y_n0 ?_
  refine y_inc (z := 1) (lv' := [(3, iv 1), (0, .ref m), (1, .ref o), (2, iv (t : Int))]) rfl rfl rfl rfl rfl ?_
  refine y_go rfl rfl ?_
  refine y_ld (x := iv 1) rfl rfl (fun d => rfl) ?_
  refine y_ic rfl rfl ?_
  refine y_jge rfl rfl rfl (by decide) (fun g2 => absurd g2 (by decide)) (fun g2 => ?_)
  refine y_ld (x := .ref m) rfl rfl (fun d => rfl) ?_
  refine y_ld (x := iv (t : Int)) rfl rfl (fun d => rfl) ?_
  refine y_ic rfl rfl ?_
  refine y_mul (z := ((t : Int) * 4)) rfl rfl rfl ?_
  refine y_ld (x := iv 1) rfl rfl (fun d => rfl) ?_
  refine y_add (z := (((t : Int) * 4) + 1)) rfl rfl rfl ?_
  refine y_ld (x := .ref o) rfl rfl (fun d => rfl) ?_
  refine y_ld (x := iv (t : Int)) rfl rfl (fun d => rfl) ?_
  refine y_ic rfl rfl ?_
  refine y_mul (z := ((t : Int) * 4)) rfl rfl rfl ?_
  refine y_ld (x := iv 1) rfl rfl (fun d => rfl) ?_
  refine y_add (z := (((t : Int) * 4) + 1)) rfl rfl rfl ?_
  refine y_cV (as := [.ref o, iv (((t : Int) * 4) + 1)]) rfl rfl rfl rfl rfl ho.1 ⟨rfl, (Nat.le_of_ble_eq_true rfl), (Nat.le_of_ble_eq_true rfl)⟩ (by decide) (cc_at2 (q := 4 * t + 1) ho (by omega) (by omega) (by rw [v_up_ne (by omega)]) ?_)
  refine y_nv ?_
  refine y_cV (as := [.ref m, iv (((t : Int) * 4) + 1), iv (V d (4 * t + 1))]) rfl rfl rfl rfl rfl hm.1 ⟨rfl, (Nat.le_of_ble_eq_true rfl), (Nat.le_of_ble_eq_true rfl)⟩ (by decide) (cc_put (q := 4 * t + 1) hm (by omega) (by omega) ?_)
  refine y_n0 ?_
  refine y_inc (z := 2) (lv' := [(3, iv 2), (0, .ref m), (1, .ref o), (2, iv (t : Int))]) rfl rfl rfl rfl rfl ?_
  refine y_go rfl rfl ?_
  refine y_ld (x := iv 2) rfl rfl (fun d => rfl) ?_
  refine y_ic rfl rfl ?_
  refine y_jge rfl rfl rfl (by decide) (fun g3 => absurd g3 (by decide)) (fun g3 => ?_)
  refine y_ld (x := .ref m) rfl rfl (fun d => rfl) ?_
  refine y_ld (x := iv (t : Int)) rfl rfl (fun d => rfl) ?_
  refine y_ic rfl rfl ?_
  refine y_mul (z := ((t : Int) * 4)) rfl rfl rfl ?_
  refine y_ld (x := iv 2) rfl rfl (fun d => rfl) ?_
  refine y_add (z := (((t : Int) * 4) + 2)) rfl rfl rfl ?_
  refine y_ld (x := .ref o) rfl rfl (fun d => rfl) ?_
  refine y_ld (x := iv (t : Int)) rfl rfl (fun d => rfl) ?_
  refine y_ic rfl rfl ?_
  refine y_mul (z := ((t : Int) * 4)) rfl rfl rfl ?_
  refine y_ld (x := iv 2) rfl rfl (fun d => rfl) ?_
  refine y_add (z := (((t : Int) * 4) + 2)) rfl rfl rfl ?_
  refine y_cV (as := [.ref o, iv (((t : Int) * 4) + 2)]) rfl rfl rfl rfl rfl ho.1 ⟨rfl, (Nat.le_of_ble_eq_true rfl), (Nat.le_of_ble_eq_true rfl)⟩ (by decide) (cc_at2 (q := 4 * t + 2) ho (by omega) (by omega) (by rw [v_up_ne (by omega), v_up_ne (by omega)]) ?_)
  refine y_nv ?_
  refine y_cV (as := [.ref m, iv (((t : Int) * 4) + 2), iv (V d (4 * t + 2))]) rfl rfl rfl rfl rfl hm.1 ⟨rfl, (Nat.le_of_ble_eq_true rfl), (Nat.le_of_ble_eq_true rfl)⟩ (by decide) (cc_put (q := 4 * t + 2) hm (by omega) (by omega) ?_)
  refine y_n0 ?_
  refine y_inc (z := 3) (lv' := [(3, iv 3), (0, .ref m), (1, .ref o), (2, iv (t : Int))]) rfl rfl rfl rfl rfl ?_
  refine y_go rfl rfl ?_
  refine y_ld (x := iv 3) rfl rfl (fun d => rfl) ?_
  refine y_ic rfl rfl ?_
  refine y_jge rfl rfl rfl (by decide) (fun g4 => absurd g4 (by decide)) (fun g4 => ?_)
  refine y_ld (x := .ref m) rfl rfl (fun d => rfl) ?_
  refine y_ld (x := iv (t : Int)) rfl rfl (fun d => rfl) ?_
  refine y_ic rfl rfl ?_
  refine y_mul (z := ((t : Int) * 4)) rfl rfl rfl ?_
  refine y_ld (x := iv 3) rfl rfl (fun d => rfl) ?_
  refine y_add (z := (((t : Int) * 4) + 3)) rfl rfl rfl ?_
  refine y_ld (x := .ref o) rfl rfl (fun d => rfl) ?_
  refine y_ld (x := iv (t : Int)) rfl rfl (fun d => rfl) ?_
  refine y_ic rfl rfl ?_
  refine y_mul (z := ((t : Int) * 4)) rfl rfl rfl ?_
  refine y_ld (x := iv 3) rfl rfl (fun d => rfl) ?_
  refine y_add (z := (((t : Int) * 4) + 3)) rfl rfl rfl ?_
  refine y_cV (as := [.ref o, iv (((t : Int) * 4) + 3)]) rfl rfl rfl rfl rfl ho.1 ⟨rfl, (Nat.le_of_ble_eq_true rfl), (Nat.le_of_ble_eq_true rfl)⟩ (by decide) (cc_at2 (q := 4 * t + 3) ho (by omega) (by omega) (by rw [v_up_ne (by omega), v_up_ne (by omega), v_up_ne (by omega)]) ?_)
  refine y_nv ?_
  refine y_cV (as := [.ref m, iv (((t : Int) * 4) + 3), iv (V d (4 * t + 3))]) rfl rfl rfl rfl rfl hm.1 ⟨rfl, (Nat.le_of_ble_eq_true rfl), (Nat.le_of_ble_eq_true rfl)⟩ (by decide) (cc_put (q := 4 * t + 3) hm (by omega) (by omega) ?_)
  refine y_n0 ?_
  refine y_inc (z := 4) (lv' := [(3, iv 4), (0, .ref m), (1, .ref o), (2, iv (t : Int))]) rfl rfl rfl rfl rfl ?_
  refine y_go rfl rfl ?_
  refine y_ld (x := iv 4) rfl rfl (fun d => rfl) ?_
  refine y_ic rfl rfl ?_
  refine y_jge rfl rfl rfl (by decide) (fun g5 => ?_) (fun g5 => absurd g5 (by decide))
  refine y_V (V' := v_ur V c (v_cp (V d) (V c) (4 * t) (4 * t) 4)) (v_tk4 V c d (4 * t)) ?_
  refine y_ld (x := .ref o) rfl rfl (fun d => rfl) ?_
  refine y_ld (x := iv (t : Int)) rfl rfl (fun d => rfl) ?_
  refine y_cV (as := [.ref o, iv (t : Int)]) rfl rfl rfl rfl rfl ho.1 ⟨rfl, (Nat.le_of_ble_eq_true rfl), (Nat.le_of_ble_eq_true rfl)⟩ (by decide) (cc_forget (t := t) ho ht ?_)
  refine y_n0 ?_
  refine y_ret rfl (fun d => rfl) ?_
  rw [v_ur_ne (Ne.symm hcd)]; exact k
set_option maxRecDepth 100000 in
set_option maxHeartbeats 4000000 in
theorem cc_has {m c o d t : Nat} (hm : MeS S m c) (ho : MeS S o d) (ht : t < 16) (hr : ∀ p : Nat, p < 84 → (-2147483648 ≤ V c p ∧ V c p < 2147483648) ∧ -2147483648 ≤ V d p ∧ V d p < 2147483648) (k1 : (V c (4 * t + 0) = V d (4 * t + 0) ∧ V c (4 * t + 1) = V d (4 * t + 1) ∧ V c (4 * t + 2) = V d (4 * t + 2) ∧ V c (4 * t + 3) = V d (4 * t + 3)) → K u w (some (iv 1)) S V) (k0 : ¬ (V c (4 * t + 0) = V d (4 * t + 0) ∧ V c (4 * t + 1) = V d (4 * t + 1) ∧ V c (4 * t + 2) = V d (4 * t + 2) ∧ V c (4 * t + 3) = V d (4 * t + 3)) → K u w (some (iv 0)) S V) : y_R X 2 13 u w [.ref m, .ref o, iv (t : Int)] S V K := by
  have hr0 := hr (4 * t + 0) (by omega)
  have hr1 := hr (4 * t + 1) (by omega)
  have hr2 := hr (4 * t + 2) (by omega)
  have hr3 := hr (4 * t + 3) (by omega)
  refine y_ent (lv' := [(0, .ref m), (1, .ref o), (2, iv (t : Int))]) (Nat.le_of_ble_eq_true rfl) rfl ?_
  refine y_ic rfl rfl ?_
  refine y_st (lv' := [(3, iv 0), (0, .ref m), (1, .ref o), (2, iv (t : Int))]) rfl rfl (fun d => rfl) ?_
  refine y_ld (x := iv 0) rfl rfl (fun d => rfl) ?_
  refine y_ic rfl rfl ?_
  refine y_jge rfl rfl rfl (by decide) (fun g1 => absurd g1 (by decide)) (fun g1 => ?_)
  refine y_ld (x := .ref m) rfl rfl (fun d => rfl) ?_
  refine y_ld (x := iv (t : Int)) rfl rfl (fun d => rfl) ?_
  refine y_ic rfl rfl ?_
  refine y_mul (z := ((t : Int) * 4)) rfl rfl rfl ?_
  refine y_ld (x := iv 0) rfl rfl (fun d => rfl) ?_
  refine y_add (z := (((t : Int) * 4) + 0)) rfl rfl rfl ?_
  refine y_cV (as := [.ref m, iv (((t : Int) * 4) + 0)]) rfl rfl rfl rfl rfl hm.1 ⟨rfl, (Nat.le_of_ble_eq_true rfl), (Nat.le_of_ble_eq_true rfl)⟩ (by decide) (cc_at2 (q := 4 * t + 0) hm (by omega) (by omega) rfl ?_)
  refine y_nv ?_
  refine y_ld (x := .ref o) rfl rfl (fun d => rfl) ?_
  refine y_ld (x := iv (t : Int)) rfl rfl (fun d => rfl) ?_
  refine y_ic rfl rfl ?_
  refine y_mul (z := ((t : Int) * 4)) rfl rfl rfl ?_
  refine y_ld (x := iv 0) rfl rfl (fun d => rfl) ?_
  refine y_add (z := (((t : Int) * 4) + 0)) rfl rfl rfl ?_
  refine y_cV (as := [.ref o, iv (((t : Int) * 4) + 0)]) rfl rfl rfl rfl rfl ho.1 ⟨rfl, (Nat.le_of_ble_eq_true rfl), (Nat.le_of_ble_eq_true rfl)⟩ (by decide) (cc_at2 (q := 4 * t + 0) ho (by omega) (by omega) rfl ?_)
  refine y_nv ?_
  refine y_jeq rfl rfl rfl (by omega) (fun g2 => ?_) (fun g2 => ?_)
  · refine y_inc (z := 1) (lv' := [(3, iv 1), (0, .ref m), (1, .ref o), (2, iv (t : Int))]) rfl rfl rfl rfl rfl ?_
    refine y_go rfl rfl ?_
    refine y_ld (x := iv 1) rfl rfl (fun d => rfl) ?_
    refine y_ic rfl rfl ?_
    refine y_jge rfl rfl rfl (by decide) (fun g3 => absurd g3 (by decide)) (fun g3 => ?_)
    refine y_ld (x := .ref m) rfl rfl (fun d => rfl) ?_
    refine y_ld (x := iv (t : Int)) rfl rfl (fun d => rfl) ?_
    refine y_ic rfl rfl ?_
    refine y_mul (z := ((t : Int) * 4)) rfl rfl rfl ?_
    refine y_ld (x := iv 1) rfl rfl (fun d => rfl) ?_
    refine y_add (z := (((t : Int) * 4) + 1)) rfl rfl rfl ?_
    refine y_cV (as := [.ref m, iv (((t : Int) * 4) + 1)]) rfl rfl rfl rfl rfl hm.1 ⟨rfl, (Nat.le_of_ble_eq_true rfl), (Nat.le_of_ble_eq_true rfl)⟩ (by decide) (cc_at2 (q := 4 * t + 1) hm (by omega) (by omega) rfl ?_)
    refine y_nv ?_
    refine y_ld (x := .ref o) rfl rfl (fun d => rfl) ?_
    refine y_ld (x := iv (t : Int)) rfl rfl (fun d => rfl) ?_
    refine y_ic rfl rfl ?_
    refine y_mul (z := ((t : Int) * 4)) rfl rfl rfl ?_
    refine y_ld (x := iv 1) rfl rfl (fun d => rfl) ?_
    refine y_add (z := (((t : Int) * 4) + 1)) rfl rfl rfl ?_
    refine y_cV (as := [.ref o, iv (((t : Int) * 4) + 1)]) rfl rfl rfl rfl rfl ho.1 ⟨rfl, (Nat.le_of_ble_eq_true rfl), (Nat.le_of_ble_eq_true rfl)⟩ (by decide) (cc_at2 (q := 4 * t + 1) ho (by omega) (by omega) rfl ?_)
    refine y_nv ?_
    refine y_jeq rfl rfl rfl (by omega) (fun g4 => ?_) (fun g4 => ?_)
    · refine y_inc (z := 2) (lv' := [(3, iv 2), (0, .ref m), (1, .ref o), (2, iv (t : Int))]) rfl rfl rfl rfl rfl ?_
      refine y_go rfl rfl ?_
      refine y_ld (x := iv 2) rfl rfl (fun d => rfl) ?_
      refine y_ic rfl rfl ?_
      refine y_jge rfl rfl rfl (by decide) (fun g5 => absurd g5 (by decide)) (fun g5 => ?_)
      refine y_ld (x := .ref m) rfl rfl (fun d => rfl) ?_
      refine y_ld (x := iv (t : Int)) rfl rfl (fun d => rfl) ?_
      refine y_ic rfl rfl ?_
      refine y_mul (z := ((t : Int) * 4)) rfl rfl rfl ?_
      refine y_ld (x := iv 2) rfl rfl (fun d => rfl) ?_
      refine y_add (z := (((t : Int) * 4) + 2)) rfl rfl rfl ?_
      refine y_cV (as := [.ref m, iv (((t : Int) * 4) + 2)]) rfl rfl rfl rfl rfl hm.1 ⟨rfl, (Nat.le_of_ble_eq_true rfl), (Nat.le_of_ble_eq_true rfl)⟩ (by decide) (cc_at2 (q := 4 * t + 2) hm (by omega) (by omega) rfl ?_)
      refine y_nv ?_
      refine y_ld (x := .ref o) rfl rfl (fun d => rfl) ?_
      refine y_ld (x := iv (t : Int)) rfl rfl (fun d => rfl) ?_
      refine y_ic rfl rfl ?_
      refine y_mul (z := ((t : Int) * 4)) rfl rfl rfl ?_
      refine y_ld (x := iv 2) rfl rfl (fun d => rfl) ?_
      refine y_add (z := (((t : Int) * 4) + 2)) rfl rfl rfl ?_
      refine y_cV (as := [.ref o, iv (((t : Int) * 4) + 2)]) rfl rfl rfl rfl rfl ho.1 ⟨rfl, (Nat.le_of_ble_eq_true rfl), (Nat.le_of_ble_eq_true rfl)⟩ (by decide) (cc_at2 (q := 4 * t + 2) ho (by omega) (by omega) rfl ?_)
      refine y_nv ?_
      refine y_jeq rfl rfl rfl (by omega) (fun g6 => ?_) (fun g6 => ?_)
      · refine y_inc (z := 3) (lv' := [(3, iv 3), (0, .ref m), (1, .ref o), (2, iv (t : Int))]) rfl rfl rfl rfl rfl ?_
        refine y_go rfl rfl ?_
        refine y_ld (x := iv 3) rfl rfl (fun d => rfl) ?_
        refine y_ic rfl rfl ?_
        refine y_jge rfl rfl rfl (by decide) (fun g7 => absurd g7 (by decide)) (fun g7 => ?_)
        refine y_ld (x := .ref m) rfl rfl (fun d => rfl) ?_
        refine y_ld (x := iv (t : Int)) rfl rfl (fun d => rfl) ?_
        refine y_ic rfl rfl ?_
        refine y_mul (z := ((t : Int) * 4)) rfl rfl rfl ?_
        refine y_ld (x := iv 3) rfl rfl (fun d => rfl) ?_
        refine y_add (z := (((t : Int) * 4) + 3)) rfl rfl rfl ?_
        refine y_cV (as := [.ref m, iv (((t : Int) * 4) + 3)]) rfl rfl rfl rfl rfl hm.1 ⟨rfl, (Nat.le_of_ble_eq_true rfl), (Nat.le_of_ble_eq_true rfl)⟩ (by decide) (cc_at2 (q := 4 * t + 3) hm (by omega) (by omega) rfl ?_)
        refine y_nv ?_
        refine y_ld (x := .ref o) rfl rfl (fun d => rfl) ?_
        refine y_ld (x := iv (t : Int)) rfl rfl (fun d => rfl) ?_
        refine y_ic rfl rfl ?_
        refine y_mul (z := ((t : Int) * 4)) rfl rfl rfl ?_
        refine y_ld (x := iv 3) rfl rfl (fun d => rfl) ?_
        refine y_add (z := (((t : Int) * 4) + 3)) rfl rfl rfl ?_
        refine y_cV (as := [.ref o, iv (((t : Int) * 4) + 3)]) rfl rfl rfl rfl rfl ho.1 ⟨rfl, (Nat.le_of_ble_eq_true rfl), (Nat.le_of_ble_eq_true rfl)⟩ (by decide) (cc_at2 (q := 4 * t + 3) ho (by omega) (by omega) rfl ?_)
        refine y_nv ?_
        refine y_jeq rfl rfl rfl (by omega) (fun g8 => ?_) (fun g8 => ?_)
        · refine y_inc (z := 4) (lv' := [(3, iv 4), (0, .ref m), (1, .ref o), (2, iv (t : Int))]) rfl rfl rfl rfl rfl ?_
          refine y_go rfl rfl ?_
          refine y_ld (x := iv 4) rfl rfl (fun d => rfl) ?_
          refine y_ic rfl rfl ?_
          refine y_jge rfl rfl rfl (by decide) (fun g9 => ?_) (fun g9 => absurd g9 (by decide))
          refine y_ic rfl rfl ?_
          refine y_rI rfl (by decide) ?_
          exact k1 (by omega)
        · refine y_ic rfl rfl ?_
          refine y_rI rfl (by decide) ?_
          exact k0 (by omega)
      · refine y_ic rfl rfl ?_
        refine y_rI rfl (by decide) ?_
        exact k0 (by omega)
    · refine y_ic rfl rfl ?_
      refine y_rI rfl (by decide) ?_
      exact k0 (by omega)
  · refine y_ic rfl rfl ?_
    refine y_rI rfl (by decide) ?_
    exact k0 (by omega)
end
