/-! calls that were computed: text(), image() of two fresh objects -/
theorem x_opt {o : Option m_R} {v : Option Value} (h : o.map (fun r => r.1) = some v) : o = some (v, (o.getD (none, [])).2) := by
  cases o with
  | none => cases h
  | some r => cases h; rfl
def m_tX : m_H := ((m_run m_X0 60 71 [.ref 0] m_h0).getD (none, [])).2
set_option maxRecDepth 100000 in
theorem x_tX : m_run m_X0 60 71 [.ref 0] m_h0 = some (some (.int (-10)), m_tX) := x_opt (by decide +kernel)
set_option maxRecDepth 100000 in
theorem x_tXb : m_tX.length ≤ 1000 ∧ m_sz m_tX ≤ 200000 := by decide +kernel
def m_tM : m_H := ((m_run m_X0 60 124 [.ref 170] m_tX).getD (none, [])).2
set_option maxRecDepth 100000 in
theorem x_tM : m_run m_X0 60 124 [.ref 170] m_tX = some (some (.int (-10)), m_tM) := x_opt (by decide +kernel)
set_option maxRecDepth 100000 in
theorem x_tMb : m_tM.length ≤ 1000 ∧ m_sz m_tM ≤ 200000 := by decide +kernel
set_option maxRecDepth 100000 in
set_option maxHeartbeats 4000000 in
theorem c_1 (n : Nat) (c a1 a2 a3 a4 a5 : Int32) : x_E (m_X [c, a1, a2, a3, a4, a5]) 60 181 193 11164 (n + 300) 219 [(3, .int 0), (2, .ref 170), (1, .ref 0), (0, .ref 1000000)] [] m_h0 lK := by
  refine x_in rfl rfl rfl ?_
  refine x_cV rfl rfl rfl rfl ⟨rfl, (Nat.le_of_ble_eq_true rfl), (Nat.le_of_ble_eq_true rfl)⟩ (x_done (x_run0 _ _ _ _ _ x_tX) (fun _ _ => x_tXb) ?_)
  refine x_in rfl rfl rfl ?_
  refine x_cV rfl rfl rfl rfl ⟨rfl, (Nat.le_of_ble_eq_true rfl), (Nat.le_of_ble_eq_true rfl)⟩ (x_done (x_run0 _ _ _ _ _ x_tM) (fun _ _ => x_tMb) ?_)
  refine x_in rfl rfl rfl ?_
  refine x_iinc (z := (6 : Int32)) rfl rfl (by decide) ?_
  refine x_in rfl rfl rfl ?_
  refine x_in rfl rfl rfl ?_
  refine x_in rfl rfl rfl ?_
  refine x_in rfl rfl rfl ?_
  refine x_top (show _ = Value.int ((6 : Int32)) from rfl) ?_
  refine x_in rfl rfl rfl ?_
  refine x_top (show _ = Value.int ((6 : Int32)) from congrArg Value.int (by decide)) ?_
  refine x_in rfl rfl rfl ?_
  refine x_top (show _ = Value.int ((0 : Int32)) from congrArg Value.int (by decide)) ?_
  refine x_in rfl rfl rfl ?_
  refine x_in rfl rfl rfl ?_
  refine x_top (show _ = Value.int ((1 : Int32)) from congrArg Value.int (by decide)) ?_
  refine x_ret rfl rfl ?_
  exact ⟨rfl, by decide, by decide⟩
