/-! THE CLASS: its cells in the shape; those that hold other references now and then are not among them -/
def cl_mut : List Nat := [3, 6, 7, 60, 63, 64, 115, 116, 119]
def cl_at (k : Nat) : Option (Nat × List Value) := if cl_mut.contains k then none else if k < 170 then m_nth m_h0 k else none
def ClF (S : m_H) : Prop := ∀ k t vs, cl_at k = some (t, vs) → ce S k t vs
theorem cl_ia {S : m_H} (hC : ClF S) {k N : Nat} (h : cl_at k = some (20, List.replicate N (.int 0))) : v_ia S k 20 N := hC k _ _ h
section
variable {X : Nat → List Int32} {u w : Nat} {S : m_H} {V : v_V} {K : v_K}
set_option maxRecDepth 100000 in
set_option maxHeartbeats 4000000 in
theorem cc_isTalk {x : Int} (h : (-2147483648 ≤ x ∧ x < 2147483648)) (k : K u w (some (iv (v_b (0 ≤ x ∧ x < 16)))) S V) : y_R X 1 98 u w [iv x] S V K := by
  refine y_ent (lv' := [(0, iv x)]) (Nat.le_of_ble_eq_true rfl) rfl ?_
  refine y_ld (x := iv x) rfl rfl (fun d => rfl) ?_
  refine y_zlt rfl rfl rfl (by omega) (fun g1 => ?_) (fun g1 => ?_)
  · refine y_ic rfl rfl ?_
    refine y_rI rfl (by decide) ?_
    rwa [v_b0 (by omega)] at k
  · refine y_ld (x := iv x) rfl rfl (fun d => rfl) ?_
    refine y_bi rfl rfl (by decide) ?_
    refine y_jge rfl rfl rfl (by omega) (fun g2 => ?_) (fun g2 => ?_)
    · refine y_ic rfl rfl ?_
      refine y_rI rfl (by decide) ?_
      rwa [v_b0 (by omega)] at k
    · refine y_ic rfl rfl ?_
      refine y_go rfl rfl ?_
      refine y_rI rfl (by decide) ?_
      rwa [v_b1 (by omega)] at k
set_option maxRecDepth 100000 in
set_option maxHeartbeats 4000000 in
theorem cc_areTalks {x : Int} (h : (-2147483648 ≤ x ∧ x < 2147483648)) (k : K u w (some (iv (v_b (0 ≤ x ∧ x ≤ 65535)))) S V) : y_R X 1 99 u w [iv x] S V K := by
  refine y_ent (lv' := [(0, iv x)]) (Nat.le_of_ble_eq_true rfl) rfl ?_
  refine y_ld (x := iv x) rfl rfl (fun d => rfl) ?_
  refine y_zlt rfl rfl rfl (by omega) (fun g1 => ?_) (fun g1 => ?_)
  · refine y_ic rfl rfl ?_
    refine y_rI rfl (by decide) ?_
    rwa [v_b0 (by omega)] at k
  · refine y_ld (x := iv x) rfl rfl (fun d => rfl) ?_
    refine y_ld (x := iv 65535) rfl rfl (fun d => rfl) ?_
    refine y_jgt rfl rfl rfl (by omega) (fun g2 => ?_) (fun g2 => ?_)
    · refine y_ic rfl rfl ?_
      refine y_rI rfl (by decide) ?_
      rwa [v_b0 (by omega)] at k
    · refine y_ic rfl rfl ?_
      refine y_go rfl rfl ?_
      refine y_rI rfl (by decide) ?_
      rwa [v_b1 (by omega)] at k
set_option maxRecDepth 100000 in
set_option maxHeartbeats 4000000 in
theorem cc_isN {x : Int} (h : (-2147483648 ≤ x ∧ x < 2147483648)) (k : K u w (some (iv (v_b (0 ≤ x ∧ x ≤ 99)))) S V) : y_R X 1 100 u w [iv x] S V K := by
  refine y_ent (lv' := [(0, iv x)]) (Nat.le_of_ble_eq_true rfl) rfl ?_
  refine y_ld (x := iv x) rfl rfl (fun d => rfl) ?_
  refine y_zlt rfl rfl rfl (by omega) (fun g1 => ?_) (fun g1 => ?_)
  · refine y_ic rfl rfl ?_
    refine y_rI rfl (by decide) ?_
    rwa [v_b0 (by omega)] at k
  · refine y_ld (x := iv x) rfl rfl (fun d => rfl) ?_
    refine y_bi rfl rfl (by decide) ?_
    refine y_jgt rfl rfl rfl (by omega) (fun g2 => ?_) (fun g2 => ?_)
    · refine y_ic rfl rfl ?_
      refine y_rI rfl (by decide) ?_
      rwa [v_b0 (by omega)] at k
    · refine y_ic rfl rfl ?_
      refine y_go rfl rfl ?_
      refine y_rI rfl (by decide) ?_
      rwa [v_b1 (by omega)] at k
set_option maxRecDepth 100000 in
set_option maxHeartbeats 4000000 in
theorem cc_isForm {x : Int} (h : (-2147483648 ≤ x ∧ x < 2147483648)) (k : K u w (some (iv (v_b (0 ≤ x ∧ x < 5)))) S V) : y_R X 1 101 u w [iv x] S V K := by
  refine y_ent (lv' := [(0, iv x)]) (Nat.le_of_ble_eq_true rfl) rfl ?_
  refine y_ld (x := iv x) rfl rfl (fun d => rfl) ?_
  refine y_zlt rfl rfl rfl (by omega) (fun g1 => ?_) (fun g1 => ?_)
  · refine y_ic rfl rfl ?_
    refine y_rI rfl (by decide) ?_
    rwa [v_b0 (by omega)] at k
  · refine y_ld (x := iv x) rfl rfl (fun d => rfl) ?_
    refine y_ic rfl rfl ?_
    refine y_jge rfl rfl rfl (by omega) (fun g2 => ?_) (fun g2 => ?_)
    · refine y_ic rfl rfl ?_
      refine y_rI rfl (by decide) ?_
      rwa [v_b0 (by omega)] at k
    · refine y_ic rfl rfl ?_
      refine y_go rfl rfl ?_
      refine y_rI rfl (by decide) ?_
      rwa [v_b1 (by omega)] at k
set_option maxRecDepth 100000 in
set_option maxHeartbeats 4000000 in
theorem cc_isDepth {x : Int} (h : (-2147483648 ≤ x ∧ x < 2147483648)) (k : K u w (some (iv (v_b (1 ≤ x ∧ x ≤ 3)))) S V) : y_R X 1 102 u w [iv x] S V K := by
  refine y_ent (lv' := [(0, iv x)]) (Nat.le_of_ble_eq_true rfl) rfl ?_
  refine y_ld (x := iv x) rfl rfl (fun d => rfl) ?_
  refine y_ic rfl rfl ?_
  refine y_jlt rfl rfl rfl (by omega) (fun g1 => ?_) (fun g1 => ?_)
  · refine y_ic rfl rfl ?_
    refine y_rI rfl (by decide) ?_
    rwa [v_b0 (by omega)] at k
  · refine y_ld (x := iv x) rfl rfl (fun d => rfl) ?_
    refine y_ic rfl rfl ?_
    refine y_jgt rfl rfl rfl (by omega) (fun g2 => ?_) (fun g2 => ?_)
    · refine y_ic rfl rfl ?_
      refine y_rI rfl (by decide) ?_
      rwa [v_b0 (by omega)] at k
    · refine y_ic rfl rfl ?_
      refine y_go rfl rfl ?_
      refine y_rI rfl (by decide) ?_
      rwa [v_b1 (by omega)] at k
end
