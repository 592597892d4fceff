/-! the law's calls on two fresh objects, one by one: rows laid by program (wip/p1/sym.py) -/
def lK : Nat → Nat → m_R → Prop := fun u w r => r.1 = some (.int 1) ∧ u ≤ 600000 ∧ w ≤ 7302250
set_option maxRecDepth 100000 in
set_option maxHeartbeats 4000000 in
theorem c_2 (n : Nat) (c a1 a2 a3 a4 a5 : Int32) : x_E (m_X [c, a1, a2, a3, a4, a5]) 60 181 193 11164 (n + 300) 232 [(3, .int 0), (2, .ref 170), (1, .ref 0), (0, .ref 1000000)] [] m_h0 lK := by
  refine x_in rfl rfl rfl ?_
  refine x_in rfl rfl rfl ?_
  refine x_in rfl rfl rfl ?_
  refine x_in rfl rfl rfl ?_
  refine x_top (show _ = Value.int ((1 : Int32)) from congrArg Value.int (by decide)) ?_
  refine x_in rfl rfl rfl ?_
  refine x_top (show _ = Value.int ((1 : Int32)) from congrArg Value.int (by decide)) ?_
  refine x_in rfl rfl rfl ?_
  refine x_in rfl rfl rfl ?_
  refine x_in rfl rfl rfl ?_
  refine x_in rfl rfl rfl ?_
  refine x_top (show _ = Value.int ((2 : Int32)) from congrArg Value.int (by decide)) ?_
  refine x_in rfl rfl rfl ?_
  refine x_top (show _ = Value.int ((2 : Int32)) from congrArg Value.int (by decide)) ?_
  refine x_in rfl rfl rfl ?_
  refine x_cV rfl rfl rfl rfl ⟨rfl, (Nat.le_of_ble_eq_true rfl), (Nat.le_of_ble_eq_true rfl)⟩ (x_enter (Nat.le_of_ble_eq_true rfl) ?_)
  refine x_in rfl rfl rfl ?_
  refine x_in rfl rfl rfl ?_
  refine x_in rfl rfl rfl ?_
  refine x_cV rfl rfl rfl rfl ⟨rfl, (Nat.le_of_ble_eq_true rfl), (Nat.le_of_ble_eq_true rfl)⟩ (x_enter (Nat.le_of_ble_eq_true rfl) ?_)
  refine x_in rfl rfl rfl ?_
  refine x_br rfl rfl (fun c1 => ?_) (fun c1 => ?_)
  · have ec1 := (z_1 (0) (by decide)).mp c1
    refine x_in rfl rfl rfl ?_
    refine x_ret rfl rfl ?_
    refine x_in rfl rfl rfl ?_
    refine x_in rfl rfl rfl ?_
    refine x_in rfl rfl rfl ?_
    refine x_in rfl rfl rfl ?_
    refine x_top (show _ = Value.int ((-1 : Int32)) from congrArg Value.int (by decide)) ?_
    refine x_ret rfl rfl ?_
    refine x_in rfl rfl rfl ?_
    refine x_in rfl rfl rfl ?_
    refine x_in rfl rfl rfl ?_
    refine x_in rfl rfl rfl ?_
    refine x_top (show _ = Value.int ((1 : Int32)) from congrArg Value.int (by decide)) ?_
    refine x_in rfl rfl rfl ?_
    refine x_top (show _ = Value.int ((1 : Int32)) from congrArg Value.int (by decide)) ?_
    refine x_in rfl rfl rfl ?_
    refine x_in rfl rfl rfl ?_
    refine x_in rfl rfl rfl ?_
    refine x_in rfl rfl rfl ?_
    refine x_top (show _ = Value.int ((2 : Int32)) from congrArg Value.int (by decide)) ?_
    refine x_in rfl rfl rfl ?_
    refine x_top (show _ = Value.int ((2 : Int32)) from congrArg Value.int (by decide)) ?_
    refine x_in rfl rfl rfl ?_
    refine x_cV rfl rfl rfl rfl ⟨rfl, (Nat.le_of_ble_eq_true rfl), (Nat.le_of_ble_eq_true rfl)⟩ (x_enter (Nat.le_of_ble_eq_true rfl) ?_)
    refine x_in rfl rfl rfl ?_
    refine x_in rfl rfl rfl ?_
    refine x_cV rfl rfl rfl rfl ⟨rfl, (Nat.le_of_ble_eq_true rfl), (Nat.le_of_ble_eq_true rfl)⟩ (x_enter (Nat.le_of_ble_eq_true rfl) ?_)
    refine x_in rfl rfl rfl ?_
    refine x_in rfl rfl rfl ?_
    refine x_top (show _ = Value.int ((0 : Int32)) from congrArg Value.int (by decide)) ?_
    refine x_in rfl rfl rfl ?_
    refine x_in rfl rfl rfl ?_
    refine x_in rfl rfl rfl ?_
    refine x_top (show _ = Value.int ((0 : Int32)) from congrArg Value.int (by decide)) ?_
    refine x_in rfl rfl rfl ?_
    refine x_in rfl rfl rfl ?_
    refine x_top (show _ = Value.int ((1 : Int32)) from congrArg Value.int (by decide)) ?_
    refine x_in rfl rfl rfl ?_
    refine x_top (show _ = Value.int ((-1 : Int32)) from congrArg Value.int (by decide)) ?_
    refine x_cS rfl (by decide) rfl rfl ⟨(Nat.le_of_ble_eq_true rfl), (Nat.le_of_ble_eq_true rfl)⟩ (x_enter (Nat.le_of_ble_eq_true rfl) ?_)
    refine x_in rfl rfl rfl ?_
    refine x_in rfl rfl rfl ?_
    refine x_bT rfl rfl ((z_1 (0) (by decide)).mpr (by omega)) ?_
    refine x_in rfl rfl rfl ?_
    refine x_top (show _ = Value.int ((0 : Int32)) from congrArg Value.int (by decide)) ?_
    refine x_ret rfl rfl ?_
    refine x_ret rfl rfl ?_
    refine x_in rfl rfl rfl ?_
    refine x_in rfl rfl rfl ?_
    refine x_top (show _ = Value.int ((-1 : Int32)) from congrArg Value.int (by decide)) ?_
    refine x_ret rfl rfl ?_
    refine x_in rfl rfl rfl ?_
    refine x_iinc (z := (6 : Int32)) rfl rfl (by decide) ?_
    refine x_in rfl rfl rfl ?_
    refine x_in rfl rfl rfl ?_
    refine x_in rfl rfl rfl ?_
    refine x_in rfl rfl rfl ?_
    refine x_top (show _ = Value.int ((6 : Int32)) from rfl) ?_
    refine x_in rfl rfl rfl ?_
    refine x_top (show _ = Value.int ((6 : Int32)) from congrArg Value.int (by decide)) ?_
    refine x_in rfl rfl rfl ?_
    refine x_top (show _ = Value.int ((0 : Int32)) from congrArg Value.int (by decide)) ?_
    refine x_in rfl rfl rfl ?_
    refine x_in rfl rfl rfl ?_
    refine x_top (show _ = Value.int ((1 : Int32)) from congrArg Value.int (by decide)) ?_
    refine x_ret rfl rfl ?_
    exact ⟨rfl, by decide, by decide⟩
  · have ec1 := mt (z_1 (0) (by decide)).mpr c1
    refine x_in rfl rfl rfl ?_
    refine x_in rfl rfl rfl ?_
    refine x_in rfl rfl rfl ?_
    refine x_bT rfl rfl ((z_4 (0) (by decide)).mpr (by omega)) ?_
    refine x_in rfl rfl rfl ?_
    refine x_ret rfl rfl ?_
    refine x_in rfl rfl rfl ?_
    refine x_in rfl rfl rfl ?_
    refine x_in rfl rfl rfl ?_
    refine x_in rfl rfl rfl ?_
    refine x_top (show _ = Value.int ((-1 : Int32)) from congrArg Value.int (by decide)) ?_
    refine x_ret rfl rfl ?_
    refine x_in rfl rfl rfl ?_
    refine x_in rfl rfl rfl ?_
    refine x_in rfl rfl rfl ?_
    refine x_in rfl rfl rfl ?_
    refine x_top (show _ = Value.int ((1 : Int32)) from congrArg Value.int (by decide)) ?_
    refine x_in rfl rfl rfl ?_
    refine x_top (show _ = Value.int ((1 : Int32)) from congrArg Value.int (by decide)) ?_
    refine x_in rfl rfl rfl ?_
    refine x_in rfl rfl rfl ?_
    refine x_in rfl rfl rfl ?_
    refine x_in rfl rfl rfl ?_
    refine x_top (show _ = Value.int ((2 : Int32)) from congrArg Value.int (by decide)) ?_
    refine x_in rfl rfl rfl ?_
    refine x_top (show _ = Value.int ((2 : Int32)) from congrArg Value.int (by decide)) ?_
    refine x_in rfl rfl rfl ?_
    refine x_cV rfl rfl rfl rfl ⟨rfl, (Nat.le_of_ble_eq_true rfl), (Nat.le_of_ble_eq_true rfl)⟩ (x_enter (Nat.le_of_ble_eq_true rfl) ?_)
    refine x_in rfl rfl rfl ?_
    refine x_in rfl rfl rfl ?_
    refine x_cV rfl rfl rfl rfl ⟨rfl, (Nat.le_of_ble_eq_true rfl), (Nat.le_of_ble_eq_true rfl)⟩ (x_enter (Nat.le_of_ble_eq_true rfl) ?_)
    refine x_in rfl rfl rfl ?_
    refine x_in rfl rfl rfl ?_
    refine x_top (show _ = Value.int ((0 : Int32)) from congrArg Value.int (by decide)) ?_
    refine x_in rfl rfl rfl ?_
    refine x_in rfl rfl rfl ?_
    refine x_in rfl rfl rfl ?_
    refine x_top (show _ = Value.int ((0 : Int32)) from congrArg Value.int (by decide)) ?_
    refine x_in rfl rfl rfl ?_
    refine x_in rfl rfl rfl ?_
    refine x_top (show _ = Value.int ((1 : Int32)) from congrArg Value.int (by decide)) ?_
    refine x_in rfl rfl rfl ?_
    refine x_top (show _ = Value.int ((-1 : Int32)) from congrArg Value.int (by decide)) ?_
    refine x_cS rfl (by decide) rfl rfl ⟨(Nat.le_of_ble_eq_true rfl), (Nat.le_of_ble_eq_true rfl)⟩ (x_enter (Nat.le_of_ble_eq_true rfl) ?_)
    refine x_in rfl rfl rfl ?_
    refine x_in rfl rfl rfl ?_
    refine x_bF rfl rfl (mt (z_1 (0) (by decide)).mp (by omega)) ?_
    refine x_in rfl rfl rfl ?_
    refine x_in rfl rfl rfl ?_
    refine x_bT rfl rfl ((z_2 (-1) (by decide)).mpr (by omega)) ?_
    refine x_in rfl rfl rfl ?_
    refine x_top (show _ = Value.int ((0 : Int32)) from congrArg Value.int (by decide)) ?_
    refine x_ret rfl rfl ?_
    refine x_ret rfl rfl ?_
    refine x_in rfl rfl rfl ?_
    refine x_in rfl rfl rfl ?_
    refine x_top (show _ = Value.int ((-1 : Int32)) from congrArg Value.int (by decide)) ?_
    refine x_ret rfl rfl ?_
    refine x_in rfl rfl rfl ?_
    refine x_iinc (z := (6 : Int32)) rfl rfl (by decide) ?_
    refine x_in rfl rfl rfl ?_
    refine x_in rfl rfl rfl ?_
    refine x_in rfl rfl rfl ?_
    refine x_in rfl rfl rfl ?_
    refine x_top (show _ = Value.int ((6 : Int32)) from rfl) ?_
    refine x_in rfl rfl rfl ?_
    refine x_top (show _ = Value.int ((6 : Int32)) from congrArg Value.int (by decide)) ?_
    refine x_in rfl rfl rfl ?_
    refine x_top (show _ = Value.int ((0 : Int32)) from congrArg Value.int (by decide)) ?_
    refine x_in rfl rfl rfl ?_
    refine x_in rfl rfl rfl ?_
    refine x_top (show _ = Value.int ((1 : Int32)) from congrArg Value.int (by decide)) ?_
    refine x_ret rfl rfl ?_
    exact ⟨rfl, by decide, by decide⟩
set_option maxRecDepth 100000 in
set_option maxHeartbeats 4000000 in
theorem c_3 (n : Nat) (c a1 a2 a3 a4 a5 : Int32) : x_E (m_X [c, a1, a2, a3, a4, a5]) 60 181 193 11164 (n + 300) 265 [(3, .int 0), (2, .ref 170), (1, .ref 0), (0, .ref 1000000)] [] m_h0 lK := by
  refine x_in rfl rfl rfl ?_
  refine x_in rfl rfl rfl ?_
  refine x_in rfl rfl rfl ?_
  refine x_in rfl rfl rfl ?_
  refine x_top (show _ = Value.int ((1 : Int32)) from congrArg Value.int (by decide)) ?_
  refine x_in rfl rfl rfl ?_
  refine x_top (show _ = Value.int ((1 : Int32)) from congrArg Value.int (by decide)) ?_
  refine x_in rfl rfl rfl ?_
  refine x_in rfl rfl rfl ?_
  refine x_in rfl rfl rfl ?_
  refine x_in rfl rfl rfl ?_
  refine x_top (show _ = Value.int ((2 : Int32)) from congrArg Value.int (by decide)) ?_
  refine x_in rfl rfl rfl ?_
  refine x_top (show _ = Value.int ((2 : Int32)) from congrArg Value.int (by decide)) ?_
  refine x_in rfl rfl rfl ?_
  refine x_in rfl rfl rfl ?_
  refine x_in rfl rfl rfl ?_
  refine x_in rfl rfl rfl ?_
  refine x_top (show _ = Value.int ((3 : Int32)) from congrArg Value.int (by decide)) ?_
  refine x_in rfl rfl rfl ?_
  refine x_top (show _ = Value.int ((3 : Int32)) from congrArg Value.int (by decide)) ?_
  refine x_in rfl rfl rfl ?_
  refine x_in rfl rfl rfl ?_
  refine x_in rfl rfl rfl ?_
  refine x_in rfl rfl rfl ?_
  refine x_top (show _ = Value.int ((4 : Int32)) from congrArg Value.int (by decide)) ?_
  refine x_in rfl rfl rfl ?_
  refine x_top (show _ = Value.int ((4 : Int32)) from congrArg Value.int (by decide)) ?_
  refine x_in rfl rfl rfl ?_
  refine x_cV rfl rfl rfl rfl ⟨rfl, (Nat.le_of_ble_eq_true rfl), (Nat.le_of_ble_eq_true rfl)⟩ (x_enter (Nat.le_of_ble_eq_true rfl) ?_)
  refine x_in rfl rfl rfl ?_
  refine x_in rfl rfl rfl ?_
  refine x_in rfl rfl rfl ?_
  refine x_cV rfl rfl rfl rfl ⟨rfl, (Nat.le_of_ble_eq_true rfl), (Nat.le_of_ble_eq_true rfl)⟩ (x_enter (Nat.le_of_ble_eq_true rfl) ?_)
  refine x_in rfl rfl rfl ?_
  refine x_br rfl rfl (fun c1 => ?_) (fun c1 => ?_)
  · have ec1 := (z_1 (0) (by decide)).mp c1
    refine x_in rfl rfl rfl ?_
    refine x_ret rfl rfl ?_
    refine x_in rfl rfl rfl ?_
    refine x_in rfl rfl rfl ?_
    refine x_in rfl rfl rfl ?_
    refine x_in rfl rfl rfl ?_
    refine x_top (show _ = Value.int ((-1 : Int32)) from congrArg Value.int (by decide)) ?_
    refine x_ret rfl rfl ?_
    refine x_in rfl rfl rfl ?_
    refine x_in rfl rfl rfl ?_
    refine x_in rfl rfl rfl ?_
    refine x_in rfl rfl rfl ?_
    refine x_top (show _ = Value.int ((1 : Int32)) from congrArg Value.int (by decide)) ?_
    refine x_in rfl rfl rfl ?_
    refine x_top (show _ = Value.int ((1 : Int32)) from congrArg Value.int (by decide)) ?_
    refine x_in rfl rfl rfl ?_
    refine x_in rfl rfl rfl ?_
    refine x_in rfl rfl rfl ?_
    refine x_in rfl rfl rfl ?_
    refine x_top (show _ = Value.int ((2 : Int32)) from congrArg Value.int (by decide)) ?_
    refine x_in rfl rfl rfl ?_
    refine x_top (show _ = Value.int ((2 : Int32)) from congrArg Value.int (by decide)) ?_
    refine x_in rfl rfl rfl ?_
    refine x_in rfl rfl rfl ?_
    refine x_in rfl rfl rfl ?_
    refine x_in rfl rfl rfl ?_
    refine x_top (show _ = Value.int ((3 : Int32)) from congrArg Value.int (by decide)) ?_
    refine x_in rfl rfl rfl ?_
    refine x_top (show _ = Value.int ((3 : Int32)) from congrArg Value.int (by decide)) ?_
    refine x_in rfl rfl rfl ?_
    refine x_in rfl rfl rfl ?_
    refine x_in rfl rfl rfl ?_
    refine x_in rfl rfl rfl ?_
    refine x_top (show _ = Value.int ((4 : Int32)) from congrArg Value.int (by decide)) ?_
    refine x_in rfl rfl rfl ?_
    refine x_top (show _ = Value.int ((4 : Int32)) from congrArg Value.int (by decide)) ?_
    refine x_in rfl rfl rfl ?_
    refine x_cV rfl rfl rfl rfl ⟨rfl, (Nat.le_of_ble_eq_true rfl), (Nat.le_of_ble_eq_true rfl)⟩ (x_enter (Nat.le_of_ble_eq_true rfl) ?_)
    refine x_in rfl rfl rfl ?_
    refine x_in rfl rfl rfl ?_
    refine x_cV rfl rfl rfl rfl ⟨rfl, (Nat.le_of_ble_eq_true rfl), (Nat.le_of_ble_eq_true rfl)⟩ (x_enter (Nat.le_of_ble_eq_true rfl) ?_)
    refine x_in rfl rfl rfl ?_
    refine x_in rfl rfl rfl ?_
    refine x_top (show _ = Value.int ((0 : Int32)) from congrArg Value.int (by decide)) ?_
    refine x_in rfl rfl rfl ?_
    refine x_in rfl rfl rfl ?_
    refine x_in rfl rfl rfl ?_
    refine x_top (show _ = Value.int ((0 : Int32)) from congrArg Value.int (by decide)) ?_
    refine x_in rfl rfl rfl ?_
    refine x_in rfl rfl rfl ?_
    refine x_top (show _ = Value.int ((1 : Int32)) from congrArg Value.int (by decide)) ?_
    refine x_in rfl rfl rfl ?_
    refine x_top (show _ = Value.int ((-1 : Int32)) from congrArg Value.int (by decide)) ?_
    refine x_cS rfl (by decide) rfl rfl ⟨(Nat.le_of_ble_eq_true rfl), (Nat.le_of_ble_eq_true rfl)⟩ (x_enter (Nat.le_of_ble_eq_true rfl) ?_)
    refine x_in rfl rfl rfl ?_
    refine x_in rfl rfl rfl ?_
    refine x_bT rfl rfl ((z_1 (0) (by decide)).mpr (by omega)) ?_
    refine x_in rfl rfl rfl ?_
    refine x_top (show _ = Value.int ((0 : Int32)) from congrArg Value.int (by decide)) ?_
    refine x_ret rfl rfl ?_
    refine x_ret rfl rfl ?_
    refine x_in rfl rfl rfl ?_
    refine x_in rfl rfl rfl ?_
    refine x_top (show _ = Value.int ((-1 : Int32)) from congrArg Value.int (by decide)) ?_
    refine x_ret rfl rfl ?_
    refine x_in rfl rfl rfl ?_
    refine x_iinc (z := (6 : Int32)) rfl rfl (by decide) ?_
    refine x_in rfl rfl rfl ?_
    refine x_in rfl rfl rfl ?_
    refine x_in rfl rfl rfl ?_
    refine x_in rfl rfl rfl ?_
    refine x_top (show _ = Value.int ((6 : Int32)) from rfl) ?_
    refine x_in rfl rfl rfl ?_
    refine x_top (show _ = Value.int ((6 : Int32)) from congrArg Value.int (by decide)) ?_
    refine x_in rfl rfl rfl ?_
    refine x_top (show _ = Value.int ((0 : Int32)) from congrArg Value.int (by decide)) ?_
    refine x_in rfl rfl rfl ?_
    refine x_in rfl rfl rfl ?_
    refine x_top (show _ = Value.int ((1 : Int32)) from congrArg Value.int (by decide)) ?_
    refine x_ret rfl rfl ?_
    exact ⟨rfl, by decide, by decide⟩
  · have ec1 := mt (z_1 (0) (by decide)).mpr c1
    refine x_in rfl rfl rfl ?_
    refine x_in rfl rfl rfl ?_
    refine x_in rfl rfl rfl ?_
    refine x_bT rfl rfl ((z_4 (0) (by decide)).mpr (by omega)) ?_
    refine x_in rfl rfl rfl ?_
    refine x_ret rfl rfl ?_
    refine x_in rfl rfl rfl ?_
    refine x_in rfl rfl rfl ?_
    refine x_in rfl rfl rfl ?_
    refine x_in rfl rfl rfl ?_
    refine x_top (show _ = Value.int ((-1 : Int32)) from congrArg Value.int (by decide)) ?_
    refine x_ret rfl rfl ?_
    refine x_in rfl rfl rfl ?_
    refine x_in rfl rfl rfl ?_
    refine x_in rfl rfl rfl ?_
    refine x_in rfl rfl rfl ?_
    refine x_top (show _ = Value.int ((1 : Int32)) from congrArg Value.int (by decide)) ?_
    refine x_in rfl rfl rfl ?_
    refine x_top (show _ = Value.int ((1 : Int32)) from congrArg Value.int (by decide)) ?_
    refine x_in rfl rfl rfl ?_
    refine x_in rfl rfl rfl ?_
    refine x_in rfl rfl rfl ?_
    refine x_in rfl rfl rfl ?_
    refine x_top (show _ = Value.int ((2 : Int32)) from congrArg Value.int (by decide)) ?_
    refine x_in rfl rfl rfl ?_
    refine x_top (show _ = Value.int ((2 : Int32)) from congrArg Value.int (by decide)) ?_
    refine x_in rfl rfl rfl ?_
    refine x_in rfl rfl rfl ?_
    refine x_in rfl rfl rfl ?_
    refine x_in rfl rfl rfl ?_
    refine x_top (show _ = Value.int ((3 : Int32)) from congrArg Value.int (by decide)) ?_
    refine x_in rfl rfl rfl ?_
    refine x_top (show _ = Value.int ((3 : Int32)) from congrArg Value.int (by decide)) ?_
    refine x_in rfl rfl rfl ?_
    refine x_in rfl rfl rfl ?_
    refine x_in rfl rfl rfl ?_
    refine x_in rfl rfl rfl ?_
    refine x_top (show _ = Value.int ((4 : Int32)) from congrArg Value.int (by decide)) ?_
    refine x_in rfl rfl rfl ?_
    refine x_top (show _ = Value.int ((4 : Int32)) from congrArg Value.int (by decide)) ?_
    refine x_in rfl rfl rfl ?_
    refine x_cV rfl rfl rfl rfl ⟨rfl, (Nat.le_of_ble_eq_true rfl), (Nat.le_of_ble_eq_true rfl)⟩ (x_enter (Nat.le_of_ble_eq_true rfl) ?_)
    refine x_in rfl rfl rfl ?_
    refine x_in rfl rfl rfl ?_
    refine x_cV rfl rfl rfl rfl ⟨rfl, (Nat.le_of_ble_eq_true rfl), (Nat.le_of_ble_eq_true rfl)⟩ (x_enter (Nat.le_of_ble_eq_true rfl) ?_)
    refine x_in rfl rfl rfl ?_
    refine x_in rfl rfl rfl ?_
    refine x_top (show _ = Value.int ((0 : Int32)) from congrArg Value.int (by decide)) ?_
    refine x_in rfl rfl rfl ?_
    refine x_in rfl rfl rfl ?_
    refine x_in rfl rfl rfl ?_
    refine x_top (show _ = Value.int ((0 : Int32)) from congrArg Value.int (by decide)) ?_
    refine x_in rfl rfl rfl ?_
    refine x_in rfl rfl rfl ?_
    refine x_top (show _ = Value.int ((1 : Int32)) from congrArg Value.int (by decide)) ?_
    refine x_in rfl rfl rfl ?_
    refine x_top (show _ = Value.int ((-1 : Int32)) from congrArg Value.int (by decide)) ?_
    refine x_cS rfl (by decide) rfl rfl ⟨(Nat.le_of_ble_eq_true rfl), (Nat.le_of_ble_eq_true rfl)⟩ (x_enter (Nat.le_of_ble_eq_true rfl) ?_)
    refine x_in rfl rfl rfl ?_
    refine x_in rfl rfl rfl ?_
    refine x_bF rfl rfl (mt (z_1 (0) (by decide)).mp (by omega)) ?_
    refine x_in rfl rfl rfl ?_
    refine x_in rfl rfl rfl ?_
    refine x_bT rfl rfl ((z_2 (-1) (by decide)).mpr (by omega)) ?_
    refine x_in rfl rfl rfl ?_
    refine x_top (show _ = Value.int ((0 : Int32)) from congrArg Value.int (by decide)) ?_
    refine x_ret rfl rfl ?_
    refine x_ret rfl rfl ?_
    refine x_in rfl rfl rfl ?_
    refine x_in rfl rfl rfl ?_
    refine x_top (show _ = Value.int ((-1 : Int32)) from congrArg Value.int (by decide)) ?_
    refine x_ret rfl rfl ?_
    refine x_in rfl rfl rfl ?_
    refine x_iinc (z := (6 : Int32)) rfl rfl (by decide) ?_
    refine x_in rfl rfl rfl ?_
    refine x_in rfl rfl rfl ?_
    refine x_in rfl rfl rfl ?_
    refine x_in rfl rfl rfl ?_
    refine x_top (show _ = Value.int ((6 : Int32)) from rfl) ?_
    refine x_in rfl rfl rfl ?_
    refine x_top (show _ = Value.int ((6 : Int32)) from congrArg Value.int (by decide)) ?_
    refine x_in rfl rfl rfl ?_
    refine x_top (show _ = Value.int ((0 : Int32)) from congrArg Value.int (by decide)) ?_
    refine x_in rfl rfl rfl ?_
    refine x_in rfl rfl rfl ?_
    refine x_top (show _ = Value.int ((1 : Int32)) from congrArg Value.int (by decide)) ?_
    refine x_ret rfl rfl ?_
    exact ⟨rfl, by decide, by decide⟩
set_option maxRecDepth 100000 in
set_option maxHeartbeats 4000000 in
theorem c_4 (n : Nat) (c a1 a2 a3 a4 a5 : Int32) : x_E (m_X [c, a1, a2, a3, a4, a5]) 60 181 193 11164 (n + 300) 318 [(3, .int 0), (2, .ref 170), (1, .ref 0), (0, .ref 1000000)] [] m_h0 lK := by
  refine x_in rfl rfl rfl ?_
  refine x_in rfl rfl rfl ?_
  refine x_in rfl rfl rfl ?_
  refine x_in rfl rfl rfl ?_
  refine x_top (show _ = Value.int ((1 : Int32)) from congrArg Value.int (by decide)) ?_
  refine x_in rfl rfl rfl ?_
  refine x_top (show _ = Value.int ((1 : Int32)) from congrArg Value.int (by decide)) ?_
  refine x_in rfl rfl rfl ?_
  refine x_in rfl rfl rfl ?_
  refine x_in rfl rfl rfl ?_
  refine x_in rfl rfl rfl ?_
  refine x_top (show _ = Value.int ((2 : Int32)) from congrArg Value.int (by decide)) ?_
  refine x_in rfl rfl rfl ?_
  refine x_top (show _ = Value.int ((2 : Int32)) from congrArg Value.int (by decide)) ?_
  refine x_in rfl rfl rfl ?_
  refine x_cV rfl rfl rfl rfl ⟨rfl, (Nat.le_of_ble_eq_true rfl), (Nat.le_of_ble_eq_true rfl)⟩ (x_enter (Nat.le_of_ble_eq_true rfl) ?_)
  refine x_in rfl rfl rfl ?_
  refine x_br rfl rfl (fun c1 => ?_) (fun c1 => ?_)
  · have ec1 := (z_1 (0) (by decide)).mp c1
    refine x_in rfl rfl rfl ?_
    refine x_top (show _ = Value.int ((-1 : Int32)) from congrArg Value.int (by decide)) ?_
    refine x_ret rfl rfl ?_
    refine x_in rfl rfl rfl ?_
    refine x_in rfl rfl rfl ?_
    refine x_in rfl rfl rfl ?_
    refine x_in rfl rfl rfl ?_
    refine x_top (show _ = Value.int ((1 : Int32)) from congrArg Value.int (by decide)) ?_
    refine x_in rfl rfl rfl ?_
    refine x_top (show _ = Value.int ((1 : Int32)) from congrArg Value.int (by decide)) ?_
    refine x_in rfl rfl rfl ?_
    refine x_in rfl rfl rfl ?_
    refine x_in rfl rfl rfl ?_
    refine x_in rfl rfl rfl ?_
    refine x_top (show _ = Value.int ((2 : Int32)) from congrArg Value.int (by decide)) ?_
    refine x_in rfl rfl rfl ?_
    refine x_top (show _ = Value.int ((2 : Int32)) from congrArg Value.int (by decide)) ?_
    refine x_in rfl rfl rfl ?_
    refine x_cV rfl rfl rfl rfl ⟨rfl, (Nat.le_of_ble_eq_true rfl), (Nat.le_of_ble_eq_true rfl)⟩ (x_enter (Nat.le_of_ble_eq_true rfl) ?_)
    refine x_in rfl rfl rfl ?_
    refine x_in rfl rfl rfl ?_
    refine x_top (show _ = Value.int ((0 : Int32)) from congrArg Value.int (by decide)) ?_
    refine x_in rfl rfl rfl ?_
    refine x_top (show _ = Value.int ((6 : Int32)) from congrArg Value.int (by decide)) ?_
    refine x_cS rfl (by decide) rfl rfl ⟨(Nat.le_of_ble_eq_true rfl), (Nat.le_of_ble_eq_true rfl)⟩ (x_enter (Nat.le_of_ble_eq_true rfl) ?_)
    refine x_in rfl rfl rfl ?_
    refine x_in rfl rfl rfl ?_
    refine x_bT rfl rfl ((z_1 (0) (by decide)).mpr (by omega)) ?_
    refine x_in rfl rfl rfl ?_
    refine x_top (show _ = Value.int ((0 : Int32)) from congrArg Value.int (by decide)) ?_
    refine x_ret rfl rfl ?_
    refine x_in rfl rfl rfl ?_
    refine x_in rfl rfl rfl ?_
    refine x_top (show _ = Value.int ((-1 : Int32)) from congrArg Value.int (by decide)) ?_
    refine x_ret rfl rfl ?_
    refine x_in rfl rfl rfl ?_
    refine x_iinc (z := (6 : Int32)) rfl rfl (by decide) ?_
    refine x_in rfl rfl rfl ?_
    refine x_in rfl rfl rfl ?_
    refine x_in rfl rfl rfl ?_
    refine x_in rfl rfl rfl ?_
    refine x_top (show _ = Value.int ((6 : Int32)) from rfl) ?_
    refine x_in rfl rfl rfl ?_
    refine x_top (show _ = Value.int ((6 : Int32)) from congrArg Value.int (by decide)) ?_
    refine x_in rfl rfl rfl ?_
    refine x_top (show _ = Value.int ((0 : Int32)) from congrArg Value.int (by decide)) ?_
    refine x_in rfl rfl rfl ?_
    refine x_in rfl rfl rfl ?_
    refine x_top (show _ = Value.int ((1 : Int32)) from congrArg Value.int (by decide)) ?_
    refine x_ret rfl rfl ?_
    exact ⟨rfl, by decide, by decide⟩
  · have ec1 := mt (z_1 (0) (by decide)).mpr c1
    refine x_in rfl rfl rfl ?_
    refine x_in rfl rfl rfl ?_
    refine x_top (show _ = Value.int ((7 : Int32)) from congrArg Value.int (by decide)) ?_
    refine x_br rfl rfl (fun c2 => ?_) (fun c2 => ?_)
    · have ec2 := (z_4 (7) (by decide)).mp c2
      refine x_in rfl rfl rfl ?_
      refine x_top (show _ = Value.int ((-1 : Int32)) from congrArg Value.int (by decide)) ?_
      refine x_ret rfl rfl ?_
      refine x_in rfl rfl rfl ?_
      refine x_in rfl rfl rfl ?_
      refine x_in rfl rfl rfl ?_
      refine x_in rfl rfl rfl ?_
      refine x_top (show _ = Value.int ((1 : Int32)) from congrArg Value.int (by decide)) ?_
      refine x_in rfl rfl rfl ?_
      refine x_top (show _ = Value.int ((1 : Int32)) from congrArg Value.int (by decide)) ?_
      refine x_in rfl rfl rfl ?_
      refine x_in rfl rfl rfl ?_
      refine x_in rfl rfl rfl ?_
      refine x_in rfl rfl rfl ?_
      refine x_top (show _ = Value.int ((2 : Int32)) from congrArg Value.int (by decide)) ?_
      refine x_in rfl rfl rfl ?_
      refine x_top (show _ = Value.int ((2 : Int32)) from congrArg Value.int (by decide)) ?_
      refine x_in rfl rfl rfl ?_
      refine x_cV rfl rfl rfl rfl ⟨rfl, (Nat.le_of_ble_eq_true rfl), (Nat.le_of_ble_eq_true rfl)⟩ (x_enter (Nat.le_of_ble_eq_true rfl) ?_)
      refine x_in rfl rfl rfl ?_
      refine x_in rfl rfl rfl ?_
      refine x_top (show _ = Value.int ((0 : Int32)) from congrArg Value.int (by decide)) ?_
      refine x_in rfl rfl rfl ?_
      refine x_top (show _ = Value.int ((6 : Int32)) from congrArg Value.int (by decide)) ?_
      refine x_cS rfl (by decide) rfl rfl ⟨(Nat.le_of_ble_eq_true rfl), (Nat.le_of_ble_eq_true rfl)⟩ (x_enter (Nat.le_of_ble_eq_true rfl) ?_)
      refine x_in rfl rfl rfl ?_
      refine x_in rfl rfl rfl ?_
      refine x_bF rfl rfl (mt (z_1 (0) (by decide)).mp (by omega)) ?_
      refine x_in rfl rfl rfl ?_
      refine x_in rfl rfl rfl ?_
      refine x_bT rfl rfl ((z_2 (6) (by decide)).mpr (by omega)) ?_
      refine x_in rfl rfl rfl ?_
      refine x_top (show _ = Value.int ((0 : Int32)) from congrArg Value.int (by decide)) ?_
      refine x_ret rfl rfl ?_
      refine x_in rfl rfl rfl ?_
      refine x_in rfl rfl rfl ?_
      refine x_top (show _ = Value.int ((-1 : Int32)) from congrArg Value.int (by decide)) ?_
      refine x_ret rfl rfl ?_
      refine x_in rfl rfl rfl ?_
      refine x_iinc (z := (6 : Int32)) rfl rfl (by decide) ?_
      refine x_in rfl rfl rfl ?_
      refine x_in rfl rfl rfl ?_
      refine x_in rfl rfl rfl ?_
      refine x_in rfl rfl rfl ?_
      refine x_top (show _ = Value.int ((6 : Int32)) from rfl) ?_
      refine x_in rfl rfl rfl ?_
      refine x_top (show _ = Value.int ((6 : Int32)) from congrArg Value.int (by decide)) ?_
      refine x_in rfl rfl rfl ?_
      refine x_top (show _ = Value.int ((0 : Int32)) from congrArg Value.int (by decide)) ?_
      refine x_in rfl rfl rfl ?_
      refine x_in rfl rfl rfl ?_
      refine x_top (show _ = Value.int ((1 : Int32)) from congrArg Value.int (by decide)) ?_
      refine x_ret rfl rfl ?_
      exact ⟨rfl, by decide, by decide⟩
    · have ec2 := mt (z_4 (7) (by decide)).mpr c2
      refine x_in rfl rfl rfl ?_
      refine x_in rfl rfl rfl ?_
      refine x_in rfl rfl rfl ?_
      refine x_cV rfl rfl rfl rfl ⟨rfl, (Nat.le_of_ble_eq_true rfl), (Nat.le_of_ble_eq_true rfl)⟩ (x_enter (Nat.le_of_ble_eq_true rfl) ?_)
      refine x_in rfl rfl rfl ?_
      refine x_br rfl rfl (fun c3 => ?_) (fun c3 => ?_)
      · have ec3 := (z_1 (0) (by decide)).mp c3
        refine x_in rfl rfl rfl ?_
        refine x_ret rfl rfl ?_
        refine x_in rfl rfl rfl ?_
        refine x_in rfl rfl rfl ?_
        refine x_top (show _ = Value.int ((-1 : Int32)) from congrArg Value.int (by decide)) ?_
        refine x_ret rfl rfl ?_
        refine x_in rfl rfl rfl ?_
        refine x_in rfl rfl rfl ?_
        refine x_in rfl rfl rfl ?_
        refine x_in rfl rfl rfl ?_
        refine x_top (show _ = Value.int ((1 : Int32)) from congrArg Value.int (by decide)) ?_
        refine x_in rfl rfl rfl ?_
        refine x_top (show _ = Value.int ((1 : Int32)) from congrArg Value.int (by decide)) ?_
        refine x_in rfl rfl rfl ?_
        refine x_in rfl rfl rfl ?_
        refine x_in rfl rfl rfl ?_
        refine x_in rfl rfl rfl ?_
        refine x_top (show _ = Value.int ((2 : Int32)) from congrArg Value.int (by decide)) ?_
        refine x_in rfl rfl rfl ?_
        refine x_top (show _ = Value.int ((2 : Int32)) from congrArg Value.int (by decide)) ?_
        refine x_in rfl rfl rfl ?_
        refine x_cV rfl rfl rfl rfl ⟨rfl, (Nat.le_of_ble_eq_true rfl), (Nat.le_of_ble_eq_true rfl)⟩ (x_enter (Nat.le_of_ble_eq_true rfl) ?_)
        refine x_in rfl rfl rfl ?_
        refine x_in rfl rfl rfl ?_
        refine x_top (show _ = Value.int ((0 : Int32)) from congrArg Value.int (by decide)) ?_
        refine x_in rfl rfl rfl ?_
        refine x_top (show _ = Value.int ((6 : Int32)) from congrArg Value.int (by decide)) ?_
        refine x_cS rfl (by decide) rfl rfl ⟨(Nat.le_of_ble_eq_true rfl), (Nat.le_of_ble_eq_true rfl)⟩ (x_enter (Nat.le_of_ble_eq_true rfl) ?_)
        refine x_in rfl rfl rfl ?_
        refine x_in rfl rfl rfl ?_
        refine x_bF rfl rfl (mt (z_1 (0) (by decide)).mp (by omega)) ?_
        refine x_in rfl rfl rfl ?_
        refine x_in rfl rfl rfl ?_
        refine x_bF rfl rfl (mt (z_2 (6) (by decide)).mp (by omega)) ?_
        refine x_in rfl rfl rfl ?_
        refine x_top (show _ = Value.int ((1 : Int32)) from congrArg Value.int (by decide)) ?_
        refine x_in rfl rfl rfl ?_
        refine x_ret rfl rfl ?_
        refine x_in rfl rfl rfl ?_
        refine x_in rfl rfl rfl ?_
        refine x_in rfl rfl rfl ?_
        refine x_cV rfl rfl rfl rfl ⟨rfl, (Nat.le_of_ble_eq_true rfl), (Nat.le_of_ble_eq_true rfl)⟩ (x_enter (Nat.le_of_ble_eq_true rfl) ?_)
        refine x_in rfl rfl rfl ?_
        refine x_in rfl rfl rfl ?_
        refine x_top (show _ = Value.int ((0 : Int32)) from congrArg Value.int (by decide)) ?_
        refine x_in rfl rfl rfl ?_
        refine x_in rfl rfl rfl ?_
        refine x_in rfl rfl rfl ?_
        refine x_top (show _ = Value.int ((0 : Int32)) from congrArg Value.int (by decide)) ?_
        refine x_in rfl rfl rfl ?_
        refine x_in rfl rfl rfl ?_
        refine x_top (show _ = Value.int ((1 : Int32)) from congrArg Value.int (by decide)) ?_
        refine x_in rfl rfl rfl ?_
        refine x_top (show _ = Value.int ((-1 : Int32)) from congrArg Value.int (by decide)) ?_
        refine x_cS rfl (by decide) rfl rfl ⟨(Nat.le_of_ble_eq_true rfl), (Nat.le_of_ble_eq_true rfl)⟩ (x_enter (Nat.le_of_ble_eq_true rfl) ?_)
        refine x_in rfl rfl rfl ?_
        refine x_in rfl rfl rfl ?_
        refine x_bT rfl rfl ((z_1 (0) (by decide)).mpr (by omega)) ?_
        refine x_in rfl rfl rfl ?_
        refine x_top (show _ = Value.int ((0 : Int32)) from congrArg Value.int (by decide)) ?_
        refine x_ret rfl rfl ?_
        refine x_ret rfl rfl ?_
        refine x_in rfl rfl rfl ?_
        refine x_in rfl rfl rfl ?_
        refine x_top (show _ = Value.int ((-1 : Int32)) from congrArg Value.int (by decide)) ?_
        refine x_ret rfl rfl ?_
        refine x_in rfl rfl rfl ?_
        refine x_iinc (z := (6 : Int32)) rfl rfl (by decide) ?_
        refine x_in rfl rfl rfl ?_
        refine x_in rfl rfl rfl ?_
        refine x_in rfl rfl rfl ?_
        refine x_in rfl rfl rfl ?_
        refine x_top (show _ = Value.int ((6 : Int32)) from rfl) ?_
        refine x_in rfl rfl rfl ?_
        refine x_top (show _ = Value.int ((6 : Int32)) from congrArg Value.int (by decide)) ?_
        refine x_in rfl rfl rfl ?_
        refine x_top (show _ = Value.int ((0 : Int32)) from congrArg Value.int (by decide)) ?_
        refine x_in rfl rfl rfl ?_
        refine x_in rfl rfl rfl ?_
        refine x_top (show _ = Value.int ((1 : Int32)) from congrArg Value.int (by decide)) ?_
        refine x_ret rfl rfl ?_
        exact ⟨rfl, by decide, by decide⟩
      · have ec3 := mt (z_1 (0) (by decide)).mpr c3
        refine x_in rfl rfl rfl ?_
        refine x_in rfl rfl rfl ?_
        refine x_in rfl rfl rfl ?_
        refine x_bT rfl rfl ((z_4 (0) (by decide)).mpr (by omega)) ?_
        refine x_in rfl rfl rfl ?_
        refine x_ret rfl rfl ?_
        refine x_in rfl rfl rfl ?_
        refine x_in rfl rfl rfl ?_
        refine x_top (show _ = Value.int ((-1 : Int32)) from congrArg Value.int (by decide)) ?_
        refine x_ret rfl rfl ?_
        refine x_in rfl rfl rfl ?_
        refine x_in rfl rfl rfl ?_
        refine x_in rfl rfl rfl ?_
        refine x_in rfl rfl rfl ?_
        refine x_top (show _ = Value.int ((1 : Int32)) from congrArg Value.int (by decide)) ?_
        refine x_in rfl rfl rfl ?_
        refine x_top (show _ = Value.int ((1 : Int32)) from congrArg Value.int (by decide)) ?_
        refine x_in rfl rfl rfl ?_
        refine x_in rfl rfl rfl ?_
        refine x_in rfl rfl rfl ?_
        refine x_in rfl rfl rfl ?_
        refine x_top (show _ = Value.int ((2 : Int32)) from congrArg Value.int (by decide)) ?_
        refine x_in rfl rfl rfl ?_
        refine x_top (show _ = Value.int ((2 : Int32)) from congrArg Value.int (by decide)) ?_
        refine x_in rfl rfl rfl ?_
        refine x_cV rfl rfl rfl rfl ⟨rfl, (Nat.le_of_ble_eq_true rfl), (Nat.le_of_ble_eq_true rfl)⟩ (x_enter (Nat.le_of_ble_eq_true rfl) ?_)
        refine x_in rfl rfl rfl ?_
        refine x_in rfl rfl rfl ?_
        refine x_top (show _ = Value.int ((0 : Int32)) from congrArg Value.int (by decide)) ?_
        refine x_in rfl rfl rfl ?_
        refine x_top (show _ = Value.int ((6 : Int32)) from congrArg Value.int (by decide)) ?_
        refine x_cS rfl (by decide) rfl rfl ⟨(Nat.le_of_ble_eq_true rfl), (Nat.le_of_ble_eq_true rfl)⟩ (x_enter (Nat.le_of_ble_eq_true rfl) ?_)
        refine x_in rfl rfl rfl ?_
        refine x_in rfl rfl rfl ?_
        refine x_bF rfl rfl (mt (z_1 (0) (by decide)).mp (by omega)) ?_
        refine x_in rfl rfl rfl ?_
        refine x_in rfl rfl rfl ?_
        refine x_bF rfl rfl (mt (z_2 (6) (by decide)).mp (by omega)) ?_
        refine x_in rfl rfl rfl ?_
        refine x_top (show _ = Value.int ((1 : Int32)) from congrArg Value.int (by decide)) ?_
        refine x_in rfl rfl rfl ?_
        refine x_ret rfl rfl ?_
        refine x_in rfl rfl rfl ?_
        refine x_in rfl rfl rfl ?_
        refine x_in rfl rfl rfl ?_
        refine x_cV rfl rfl rfl rfl ⟨rfl, (Nat.le_of_ble_eq_true rfl), (Nat.le_of_ble_eq_true rfl)⟩ (x_enter (Nat.le_of_ble_eq_true rfl) ?_)
        refine x_in rfl rfl rfl ?_
        refine x_in rfl rfl rfl ?_
        refine x_top (show _ = Value.int ((0 : Int32)) from congrArg Value.int (by decide)) ?_
        refine x_in rfl rfl rfl ?_
        refine x_in rfl rfl rfl ?_
        refine x_in rfl rfl rfl ?_
        refine x_top (show _ = Value.int ((0 : Int32)) from congrArg Value.int (by decide)) ?_
        refine x_in rfl rfl rfl ?_
        refine x_in rfl rfl rfl ?_
        refine x_top (show _ = Value.int ((1 : Int32)) from congrArg Value.int (by decide)) ?_
        refine x_in rfl rfl rfl ?_
        refine x_top (show _ = Value.int ((-1 : Int32)) from congrArg Value.int (by decide)) ?_
        refine x_cS rfl (by decide) rfl rfl ⟨(Nat.le_of_ble_eq_true rfl), (Nat.le_of_ble_eq_true rfl)⟩ (x_enter (Nat.le_of_ble_eq_true rfl) ?_)
        refine x_in rfl rfl rfl ?_
        refine x_in rfl rfl rfl ?_
        refine x_bF rfl rfl (mt (z_1 (0) (by decide)).mp (by omega)) ?_
        refine x_in rfl rfl rfl ?_
        refine x_in rfl rfl rfl ?_
        refine x_bT rfl rfl ((z_2 (-1) (by decide)).mpr (by omega)) ?_
        refine x_in rfl rfl rfl ?_
        refine x_top (show _ = Value.int ((0 : Int32)) from congrArg Value.int (by decide)) ?_
        refine x_ret rfl rfl ?_
        refine x_ret rfl rfl ?_
        refine x_in rfl rfl rfl ?_
        refine x_in rfl rfl rfl ?_
        refine x_top (show _ = Value.int ((-1 : Int32)) from congrArg Value.int (by decide)) ?_
        refine x_ret rfl rfl ?_
        refine x_in rfl rfl rfl ?_
        refine x_iinc (z := (6 : Int32)) rfl rfl (by decide) ?_
        refine x_in rfl rfl rfl ?_
        refine x_in rfl rfl rfl ?_
        refine x_in rfl rfl rfl ?_
        refine x_in rfl rfl rfl ?_
        refine x_top (show _ = Value.int ((6 : Int32)) from rfl) ?_
        refine x_in rfl rfl rfl ?_
        refine x_top (show _ = Value.int ((6 : Int32)) from congrArg Value.int (by decide)) ?_
        refine x_in rfl rfl rfl ?_
        refine x_top (show _ = Value.int ((0 : Int32)) from congrArg Value.int (by decide)) ?_
        refine x_in rfl rfl rfl ?_
        refine x_in rfl rfl rfl ?_
        refine x_top (show _ = Value.int ((1 : Int32)) from congrArg Value.int (by decide)) ?_
        refine x_ret rfl rfl ?_
        exact ⟨rfl, by decide, by decide⟩
set_option maxRecDepth 100000 in
set_option maxHeartbeats 4000000 in
theorem c_5 (n : Nat) (c a1 a2 a3 a4 a5 : Int32) : x_E (m_X [c, a1, a2, a3, a4, a5]) 60 181 193 11164 (n + 300) 351 [(3, .int 0), (2, .ref 170), (1, .ref 0), (0, .ref 1000000)] [] m_h0 lK := by
  refine x_in rfl rfl rfl ?_
  refine x_in rfl rfl rfl ?_
  refine x_in rfl rfl rfl ?_
  refine x_in rfl rfl rfl ?_
  refine x_top (show _ = Value.int ((1 : Int32)) from congrArg Value.int (by decide)) ?_
  refine x_in rfl rfl rfl ?_
  refine x_top (show _ = Value.int ((1 : Int32)) from congrArg Value.int (by decide)) ?_
  refine x_in rfl rfl rfl ?_
  refine x_in rfl rfl rfl ?_
  refine x_in rfl rfl rfl ?_
  refine x_in rfl rfl rfl ?_
  refine x_top (show _ = Value.int ((2 : Int32)) from congrArg Value.int (by decide)) ?_
  refine x_in rfl rfl rfl ?_
  refine x_top (show _ = Value.int ((2 : Int32)) from congrArg Value.int (by decide)) ?_
  refine x_in rfl rfl rfl ?_
  refine x_in rfl rfl rfl ?_
  refine x_in rfl rfl rfl ?_
  refine x_in rfl rfl rfl ?_
  refine x_top (show _ = Value.int ((3 : Int32)) from congrArg Value.int (by decide)) ?_
  refine x_in rfl rfl rfl ?_
  refine x_top (show _ = Value.int ((3 : Int32)) from congrArg Value.int (by decide)) ?_
  refine x_in rfl rfl rfl ?_
  refine x_in rfl rfl rfl ?_
  refine x_in rfl rfl rfl ?_
  refine x_in rfl rfl rfl ?_
  refine x_top (show _ = Value.int ((4 : Int32)) from congrArg Value.int (by decide)) ?_
  refine x_in rfl rfl rfl ?_
  refine x_top (show _ = Value.int ((4 : Int32)) from congrArg Value.int (by decide)) ?_
  refine x_in rfl rfl rfl ?_
  refine x_in rfl rfl rfl ?_
  refine x_in rfl rfl rfl ?_
  refine x_in rfl rfl rfl ?_
  refine x_top (show _ = Value.int ((5 : Int32)) from congrArg Value.int (by decide)) ?_
  refine x_in rfl rfl rfl ?_
  refine x_top (show _ = Value.int ((5 : Int32)) from congrArg Value.int (by decide)) ?_
  refine x_in rfl rfl rfl ?_
  refine x_cV rfl rfl rfl rfl ⟨rfl, (Nat.le_of_ble_eq_true rfl), (Nat.le_of_ble_eq_true rfl)⟩ (x_enter (Nat.le_of_ble_eq_true rfl) ?_)
  refine x_in rfl rfl rfl ?_
  refine x_in rfl rfl rfl ?_
  refine x_in rfl rfl rfl ?_
  refine x_cV rfl rfl rfl rfl ⟨rfl, (Nat.le_of_ble_eq_true rfl), (Nat.le_of_ble_eq_true rfl)⟩ (x_enter (Nat.le_of_ble_eq_true rfl) ?_)
  refine x_in rfl rfl rfl ?_
  refine x_br rfl rfl (fun c1 => ?_) (fun c1 => ?_)
  · have ec1 := (z_1 (0) (by decide)).mp c1
    refine x_in rfl rfl rfl ?_
    refine x_ret rfl rfl ?_
    refine x_in rfl rfl rfl ?_
    refine x_in rfl rfl rfl ?_
    refine x_in rfl rfl rfl ?_
    refine x_in rfl rfl rfl ?_
    refine x_top (show _ = Value.int ((-1 : Int32)) from congrArg Value.int (by decide)) ?_
    refine x_ret rfl rfl ?_
    refine x_in rfl rfl rfl ?_
    refine x_in rfl rfl rfl ?_
    refine x_in rfl rfl rfl ?_
    refine x_in rfl rfl rfl ?_
    refine x_top (show _ = Value.int ((1 : Int32)) from congrArg Value.int (by decide)) ?_
    refine x_in rfl rfl rfl ?_
    refine x_top (show _ = Value.int ((1 : Int32)) from congrArg Value.int (by decide)) ?_
    refine x_in rfl rfl rfl ?_
    refine x_in rfl rfl rfl ?_
    refine x_in rfl rfl rfl ?_
    refine x_in rfl rfl rfl ?_
    refine x_top (show _ = Value.int ((2 : Int32)) from congrArg Value.int (by decide)) ?_
    refine x_in rfl rfl rfl ?_
    refine x_top (show _ = Value.int ((2 : Int32)) from congrArg Value.int (by decide)) ?_
    refine x_in rfl rfl rfl ?_
    refine x_in rfl rfl rfl ?_
    refine x_in rfl rfl rfl ?_
    refine x_in rfl rfl rfl ?_
    refine x_top (show _ = Value.int ((3 : Int32)) from congrArg Value.int (by decide)) ?_
    refine x_in rfl rfl rfl ?_
    refine x_top (show _ = Value.int ((3 : Int32)) from congrArg Value.int (by decide)) ?_
    refine x_in rfl rfl rfl ?_
    refine x_in rfl rfl rfl ?_
    refine x_in rfl rfl rfl ?_
    refine x_in rfl rfl rfl ?_
    refine x_top (show _ = Value.int ((4 : Int32)) from congrArg Value.int (by decide)) ?_
    refine x_in rfl rfl rfl ?_
    refine x_top (show _ = Value.int ((4 : Int32)) from congrArg Value.int (by decide)) ?_
    refine x_in rfl rfl rfl ?_
    refine x_in rfl rfl rfl ?_
    refine x_in rfl rfl rfl ?_
    refine x_in rfl rfl rfl ?_
    refine x_top (show _ = Value.int ((5 : Int32)) from congrArg Value.int (by decide)) ?_
    refine x_in rfl rfl rfl ?_
    refine x_top (show _ = Value.int ((5 : Int32)) from congrArg Value.int (by decide)) ?_
    refine x_in rfl rfl rfl ?_
    refine x_cV rfl rfl rfl rfl ⟨rfl, (Nat.le_of_ble_eq_true rfl), (Nat.le_of_ble_eq_true rfl)⟩ (x_enter (Nat.le_of_ble_eq_true rfl) ?_)
    refine x_in rfl rfl rfl ?_
    refine x_in rfl rfl rfl ?_
    refine x_cV rfl rfl rfl rfl ⟨rfl, (Nat.le_of_ble_eq_true rfl), (Nat.le_of_ble_eq_true rfl)⟩ (x_enter (Nat.le_of_ble_eq_true rfl) ?_)
    refine x_in rfl rfl rfl ?_
    refine x_in rfl rfl rfl ?_
    refine x_top (show _ = Value.int ((0 : Int32)) from congrArg Value.int (by decide)) ?_
    refine x_in rfl rfl rfl ?_
    refine x_in rfl rfl rfl ?_
    refine x_in rfl rfl rfl ?_
    refine x_top (show _ = Value.int ((1 : Int32)) from congrArg Value.int (by decide)) ?_
    refine x_in rfl rfl rfl ?_
    refine x_in rfl rfl rfl ?_
    refine x_top (show _ = Value.int ((1 : Int32)) from congrArg Value.int (by decide)) ?_
    refine x_in rfl rfl rfl ?_
    refine x_top (show _ = Value.int ((-1 : Int32)) from congrArg Value.int (by decide)) ?_
    refine x_cS rfl (by decide) rfl rfl ⟨(Nat.le_of_ble_eq_true rfl), (Nat.le_of_ble_eq_true rfl)⟩ (x_enter (Nat.le_of_ble_eq_true rfl) ?_)
    refine x_in rfl rfl rfl ?_
    refine x_in rfl rfl rfl ?_
    refine x_bT rfl rfl ((z_1 (0) (by decide)).mpr (by omega)) ?_
    refine x_in rfl rfl rfl ?_
    refine x_top (show _ = Value.int ((0 : Int32)) from congrArg Value.int (by decide)) ?_
    refine x_ret rfl rfl ?_
    refine x_ret rfl rfl ?_
    refine x_in rfl rfl rfl ?_
    refine x_in rfl rfl rfl ?_
    refine x_top (show _ = Value.int ((-1 : Int32)) from congrArg Value.int (by decide)) ?_
    refine x_ret rfl rfl ?_
    refine x_in rfl rfl rfl ?_
    refine x_iinc (z := (6 : Int32)) rfl rfl (by decide) ?_
    refine x_in rfl rfl rfl ?_
    refine x_in rfl rfl rfl ?_
    refine x_in rfl rfl rfl ?_
    refine x_in rfl rfl rfl ?_
    refine x_top (show _ = Value.int ((6 : Int32)) from rfl) ?_
    refine x_in rfl rfl rfl ?_
    refine x_top (show _ = Value.int ((6 : Int32)) from congrArg Value.int (by decide)) ?_
    refine x_in rfl rfl rfl ?_
    refine x_top (show _ = Value.int ((0 : Int32)) from congrArg Value.int (by decide)) ?_
    refine x_in rfl rfl rfl ?_
    refine x_in rfl rfl rfl ?_
    refine x_top (show _ = Value.int ((1 : Int32)) from congrArg Value.int (by decide)) ?_
    refine x_ret rfl rfl ?_
    exact ⟨rfl, by decide, by decide⟩
  · have ec1 := mt (z_1 (0) (by decide)).mpr c1
    refine x_in rfl rfl rfl ?_
    refine x_in rfl rfl rfl ?_
    refine x_in rfl rfl rfl ?_
    refine x_bT rfl rfl ((z_4 (0) (by decide)).mpr (by omega)) ?_
    refine x_in rfl rfl rfl ?_
    refine x_ret rfl rfl ?_
    refine x_in rfl rfl rfl ?_
    refine x_in rfl rfl rfl ?_
    refine x_in rfl rfl rfl ?_
    refine x_in rfl rfl rfl ?_
    refine x_top (show _ = Value.int ((-1 : Int32)) from congrArg Value.int (by decide)) ?_
    refine x_ret rfl rfl ?_
    refine x_in rfl rfl rfl ?_
    refine x_in rfl rfl rfl ?_
    refine x_in rfl rfl rfl ?_
    refine x_in rfl rfl rfl ?_
    refine x_top (show _ = Value.int ((1 : Int32)) from congrArg Value.int (by decide)) ?_
    refine x_in rfl rfl rfl ?_
    refine x_top (show _ = Value.int ((1 : Int32)) from congrArg Value.int (by decide)) ?_
    refine x_in rfl rfl rfl ?_
    refine x_in rfl rfl rfl ?_
    refine x_in rfl rfl rfl ?_
    refine x_in rfl rfl rfl ?_
    refine x_top (show _ = Value.int ((2 : Int32)) from congrArg Value.int (by decide)) ?_
    refine x_in rfl rfl rfl ?_
    refine x_top (show _ = Value.int ((2 : Int32)) from congrArg Value.int (by decide)) ?_
    refine x_in rfl rfl rfl ?_
    refine x_in rfl rfl rfl ?_
    refine x_in rfl rfl rfl ?_
    refine x_in rfl rfl rfl ?_
    refine x_top (show _ = Value.int ((3 : Int32)) from congrArg Value.int (by decide)) ?_
    refine x_in rfl rfl rfl ?_
    refine x_top (show _ = Value.int ((3 : Int32)) from congrArg Value.int (by decide)) ?_
    refine x_in rfl rfl rfl ?_
    refine x_in rfl rfl rfl ?_
    refine x_in rfl rfl rfl ?_
    refine x_in rfl rfl rfl ?_
    refine x_top (show _ = Value.int ((4 : Int32)) from congrArg Value.int (by decide)) ?_
    refine x_in rfl rfl rfl ?_
    refine x_top (show _ = Value.int ((4 : Int32)) from congrArg Value.int (by decide)) ?_
    refine x_in rfl rfl rfl ?_
    refine x_in rfl rfl rfl ?_
    refine x_in rfl rfl rfl ?_
    refine x_in rfl rfl rfl ?_
    refine x_top (show _ = Value.int ((5 : Int32)) from congrArg Value.int (by decide)) ?_
    refine x_in rfl rfl rfl ?_
    refine x_top (show _ = Value.int ((5 : Int32)) from congrArg Value.int (by decide)) ?_
    refine x_in rfl rfl rfl ?_
    refine x_cV rfl rfl rfl rfl ⟨rfl, (Nat.le_of_ble_eq_true rfl), (Nat.le_of_ble_eq_true rfl)⟩ (x_enter (Nat.le_of_ble_eq_true rfl) ?_)
    refine x_in rfl rfl rfl ?_
    refine x_in rfl rfl rfl ?_
    refine x_cV rfl rfl rfl rfl ⟨rfl, (Nat.le_of_ble_eq_true rfl), (Nat.le_of_ble_eq_true rfl)⟩ (x_enter (Nat.le_of_ble_eq_true rfl) ?_)
    refine x_in rfl rfl rfl ?_
    refine x_in rfl rfl rfl ?_
    refine x_top (show _ = Value.int ((0 : Int32)) from congrArg Value.int (by decide)) ?_
    refine x_in rfl rfl rfl ?_
    refine x_in rfl rfl rfl ?_
    refine x_in rfl rfl rfl ?_
    refine x_top (show _ = Value.int ((1 : Int32)) from congrArg Value.int (by decide)) ?_
    refine x_in rfl rfl rfl ?_
    refine x_in rfl rfl rfl ?_
    refine x_top (show _ = Value.int ((1 : Int32)) from congrArg Value.int (by decide)) ?_
    refine x_in rfl rfl rfl ?_
    refine x_top (show _ = Value.int ((-1 : Int32)) from congrArg Value.int (by decide)) ?_
    refine x_cS rfl (by decide) rfl rfl ⟨(Nat.le_of_ble_eq_true rfl), (Nat.le_of_ble_eq_true rfl)⟩ (x_enter (Nat.le_of_ble_eq_true rfl) ?_)
    refine x_in rfl rfl rfl ?_
    refine x_in rfl rfl rfl ?_
    refine x_bF rfl rfl (mt (z_1 (0) (by decide)).mp (by omega)) ?_
    refine x_in rfl rfl rfl ?_
    refine x_in rfl rfl rfl ?_
    refine x_bT rfl rfl ((z_2 (-1) (by decide)).mpr (by omega)) ?_
    refine x_in rfl rfl rfl ?_
    refine x_top (show _ = Value.int ((0 : Int32)) from congrArg Value.int (by decide)) ?_
    refine x_ret rfl rfl ?_
    refine x_ret rfl rfl ?_
    refine x_in rfl rfl rfl ?_
    refine x_in rfl rfl rfl ?_
    refine x_top (show _ = Value.int ((-1 : Int32)) from congrArg Value.int (by decide)) ?_
    refine x_ret rfl rfl ?_
    refine x_in rfl rfl rfl ?_
    refine x_iinc (z := (6 : Int32)) rfl rfl (by decide) ?_
    refine x_in rfl rfl rfl ?_
    refine x_in rfl rfl rfl ?_
    refine x_in rfl rfl rfl ?_
    refine x_in rfl rfl rfl ?_
    refine x_top (show _ = Value.int ((6 : Int32)) from rfl) ?_
    refine x_in rfl rfl rfl ?_
    refine x_top (show _ = Value.int ((6 : Int32)) from congrArg Value.int (by decide)) ?_
    refine x_in rfl rfl rfl ?_
    refine x_top (show _ = Value.int ((0 : Int32)) from congrArg Value.int (by decide)) ?_
    refine x_in rfl rfl rfl ?_
    refine x_in rfl rfl rfl ?_
    refine x_top (show _ = Value.int ((1 : Int32)) from congrArg Value.int (by decide)) ?_
    refine x_ret rfl rfl ?_
    exact ⟨rfl, by decide, by decide⟩
set_option maxRecDepth 100000 in
set_option maxHeartbeats 4000000 in
theorem c_6 (n : Nat) (c a1 a2 a3 a4 a5 : Int32) : x_E (m_X [c, a1, a2, a3, a4, a5]) 60 181 193 11164 (n + 300) 414 [(3, .int 0), (2, .ref 170), (1, .ref 0), (0, .ref 1000000)] [] m_h0 lK := by
  refine x_in rfl rfl rfl ?_
  refine x_in rfl rfl rfl ?_
  refine x_in rfl rfl rfl ?_
  refine x_in rfl rfl rfl ?_
  refine x_top (show _ = Value.int ((1 : Int32)) from congrArg Value.int (by decide)) ?_
  refine x_in rfl rfl rfl ?_
  refine x_top (show _ = Value.int ((1 : Int32)) from congrArg Value.int (by decide)) ?_
  refine x_in rfl rfl rfl ?_
  refine x_in rfl rfl rfl ?_
  refine x_in rfl rfl rfl ?_
  refine x_in rfl rfl rfl ?_
  refine x_top (show _ = Value.int ((2 : Int32)) from congrArg Value.int (by decide)) ?_
  refine x_in rfl rfl rfl ?_
  refine x_top (show _ = Value.int ((2 : Int32)) from congrArg Value.int (by decide)) ?_
  refine x_in rfl rfl rfl ?_
  refine x_in rfl rfl rfl ?_
  refine x_in rfl rfl rfl ?_
  refine x_in rfl rfl rfl ?_
  refine x_top (show _ = Value.int ((3 : Int32)) from congrArg Value.int (by decide)) ?_
  refine x_in rfl rfl rfl ?_
  refine x_top (show _ = Value.int ((3 : Int32)) from congrArg Value.int (by decide)) ?_
  refine x_in rfl rfl rfl ?_
  refine x_in rfl rfl rfl ?_
  refine x_in rfl rfl rfl ?_
  refine x_in rfl rfl rfl ?_
  refine x_top (show _ = Value.int ((4 : Int32)) from congrArg Value.int (by decide)) ?_
  refine x_in rfl rfl rfl ?_
  refine x_top (show _ = Value.int ((4 : Int32)) from congrArg Value.int (by decide)) ?_
  refine x_in rfl rfl rfl ?_
  refine x_cV rfl rfl rfl rfl ⟨rfl, (Nat.le_of_ble_eq_true rfl), (Nat.le_of_ble_eq_true rfl)⟩ (x_enter (Nat.le_of_ble_eq_true rfl) ?_)
  refine x_in rfl rfl rfl ?_
  refine x_in rfl rfl rfl ?_
  refine x_in rfl rfl rfl ?_
  refine x_cV rfl rfl rfl rfl ⟨rfl, (Nat.le_of_ble_eq_true rfl), (Nat.le_of_ble_eq_true rfl)⟩ (x_enter (Nat.le_of_ble_eq_true rfl) ?_)
  refine x_in rfl rfl rfl ?_
  refine x_br rfl rfl (fun c1 => ?_) (fun c1 => ?_)
  · have ec1 := (z_1 (0) (by decide)).mp c1
    refine x_in rfl rfl rfl ?_
    refine x_ret rfl rfl ?_
    refine x_in rfl rfl rfl ?_
    refine x_in rfl rfl rfl ?_
    refine x_in rfl rfl rfl ?_
    refine x_in rfl rfl rfl ?_
    refine x_top (show _ = Value.int ((-2147483648 : Int32)) from congrArg Value.int (by decide)) ?_
    refine x_ret rfl rfl ?_
    refine x_in rfl rfl rfl ?_
    refine x_in rfl rfl rfl ?_
    refine x_in rfl rfl rfl ?_
    refine x_in rfl rfl rfl ?_
    refine x_top (show _ = Value.int ((1 : Int32)) from congrArg Value.int (by decide)) ?_
    refine x_in rfl rfl rfl ?_
    refine x_top (show _ = Value.int ((1 : Int32)) from congrArg Value.int (by decide)) ?_
    refine x_in rfl rfl rfl ?_
    refine x_in rfl rfl rfl ?_
    refine x_in rfl rfl rfl ?_
    refine x_in rfl rfl rfl ?_
    refine x_top (show _ = Value.int ((2 : Int32)) from congrArg Value.int (by decide)) ?_
    refine x_in rfl rfl rfl ?_
    refine x_top (show _ = Value.int ((2 : Int32)) from congrArg Value.int (by decide)) ?_
    refine x_in rfl rfl rfl ?_
    refine x_in rfl rfl rfl ?_
    refine x_in rfl rfl rfl ?_
    refine x_in rfl rfl rfl ?_
    refine x_top (show _ = Value.int ((3 : Int32)) from congrArg Value.int (by decide)) ?_
    refine x_in rfl rfl rfl ?_
    refine x_top (show _ = Value.int ((3 : Int32)) from congrArg Value.int (by decide)) ?_
    refine x_in rfl rfl rfl ?_
    refine x_in rfl rfl rfl ?_
    refine x_in rfl rfl rfl ?_
    refine x_in rfl rfl rfl ?_
    refine x_top (show _ = Value.int ((4 : Int32)) from congrArg Value.int (by decide)) ?_
    refine x_in rfl rfl rfl ?_
    refine x_top (show _ = Value.int ((4 : Int32)) from congrArg Value.int (by decide)) ?_
    refine x_in rfl rfl rfl ?_
    refine x_cV rfl rfl rfl rfl ⟨rfl, (Nat.le_of_ble_eq_true rfl), (Nat.le_of_ble_eq_true rfl)⟩ (x_enter (Nat.le_of_ble_eq_true rfl) ?_)
    refine x_in rfl rfl rfl ?_
    refine x_in rfl rfl rfl ?_
    refine x_cV rfl rfl rfl rfl ⟨rfl, (Nat.le_of_ble_eq_true rfl), (Nat.le_of_ble_eq_true rfl)⟩ (x_enter (Nat.le_of_ble_eq_true rfl) ?_)
    refine x_in rfl rfl rfl ?_
    refine x_in rfl rfl rfl ?_
    refine x_top (show _ = Value.int ((0 : Int32)) from congrArg Value.int (by decide)) ?_
    refine x_in rfl rfl rfl ?_
    refine x_in rfl rfl rfl ?_
    refine x_in rfl rfl rfl ?_
    refine x_top (show _ = Value.int ((1 : Int32)) from congrArg Value.int (by decide)) ?_
    refine x_in rfl rfl rfl ?_
    refine x_in rfl rfl rfl ?_
    refine x_top (show _ = Value.int ((1 : Int32)) from congrArg Value.int (by decide)) ?_
    refine x_in rfl rfl rfl ?_
    refine x_top (show _ = Value.int ((-1 : Int32)) from congrArg Value.int (by decide)) ?_
    refine x_cS rfl (by decide) rfl rfl ⟨(Nat.le_of_ble_eq_true rfl), (Nat.le_of_ble_eq_true rfl)⟩ (x_enter (Nat.le_of_ble_eq_true rfl) ?_)
    refine x_in rfl rfl rfl ?_
    refine x_in rfl rfl rfl ?_
    refine x_bT rfl rfl ((z_1 (0) (by decide)).mpr (by omega)) ?_
    refine x_in rfl rfl rfl ?_
    refine x_top (show _ = Value.int ((0 : Int32)) from congrArg Value.int (by decide)) ?_
    refine x_ret rfl rfl ?_
    refine x_ret rfl rfl ?_
    refine x_in rfl rfl rfl ?_
    refine x_in rfl rfl rfl ?_
    refine x_top (show _ = Value.int ((-2147483648 : Int32)) from congrArg Value.int (by decide)) ?_
    refine x_ret rfl rfl ?_
    refine x_in rfl rfl rfl ?_
    refine x_iinc (z := (6 : Int32)) rfl rfl (by decide) ?_
    refine x_in rfl rfl rfl ?_
    refine x_in rfl rfl rfl ?_
    refine x_in rfl rfl rfl ?_
    refine x_in rfl rfl rfl ?_
    refine x_top (show _ = Value.int ((6 : Int32)) from rfl) ?_
    refine x_in rfl rfl rfl ?_
    refine x_top (show _ = Value.int ((6 : Int32)) from congrArg Value.int (by decide)) ?_
    refine x_in rfl rfl rfl ?_
    refine x_top (show _ = Value.int ((0 : Int32)) from congrArg Value.int (by decide)) ?_
    refine x_in rfl rfl rfl ?_
    refine x_in rfl rfl rfl ?_
    refine x_top (show _ = Value.int ((1 : Int32)) from congrArg Value.int (by decide)) ?_
    refine x_ret rfl rfl ?_
    exact ⟨rfl, by decide, by decide⟩
  · have ec1 := mt (z_1 (0) (by decide)).mpr c1
    refine x_in rfl rfl rfl ?_
    refine x_in rfl rfl rfl ?_
    refine x_in rfl rfl rfl ?_
    refine x_bT rfl rfl ((z_4 (0) (by decide)).mpr (by omega)) ?_
    refine x_in rfl rfl rfl ?_
    refine x_ret rfl rfl ?_
    refine x_in rfl rfl rfl ?_
    refine x_in rfl rfl rfl ?_
    refine x_in rfl rfl rfl ?_
    refine x_in rfl rfl rfl ?_
    refine x_top (show _ = Value.int ((-2147483648 : Int32)) from congrArg Value.int (by decide)) ?_
    refine x_ret rfl rfl ?_
    refine x_in rfl rfl rfl ?_
    refine x_in rfl rfl rfl ?_
    refine x_in rfl rfl rfl ?_
    refine x_in rfl rfl rfl ?_
    refine x_top (show _ = Value.int ((1 : Int32)) from congrArg Value.int (by decide)) ?_
    refine x_in rfl rfl rfl ?_
    refine x_top (show _ = Value.int ((1 : Int32)) from congrArg Value.int (by decide)) ?_
    refine x_in rfl rfl rfl ?_
    refine x_in rfl rfl rfl ?_
    refine x_in rfl rfl rfl ?_
    refine x_in rfl rfl rfl ?_
    refine x_top (show _ = Value.int ((2 : Int32)) from congrArg Value.int (by decide)) ?_
    refine x_in rfl rfl rfl ?_
    refine x_top (show _ = Value.int ((2 : Int32)) from congrArg Value.int (by decide)) ?_
    refine x_in rfl rfl rfl ?_
    refine x_in rfl rfl rfl ?_
    refine x_in rfl rfl rfl ?_
    refine x_in rfl rfl rfl ?_
    refine x_top (show _ = Value.int ((3 : Int32)) from congrArg Value.int (by decide)) ?_
    refine x_in rfl rfl rfl ?_
    refine x_top (show _ = Value.int ((3 : Int32)) from congrArg Value.int (by decide)) ?_
    refine x_in rfl rfl rfl ?_
    refine x_in rfl rfl rfl ?_
    refine x_in rfl rfl rfl ?_
    refine x_in rfl rfl rfl ?_
    refine x_top (show _ = Value.int ((4 : Int32)) from congrArg Value.int (by decide)) ?_
    refine x_in rfl rfl rfl ?_
    refine x_top (show _ = Value.int ((4 : Int32)) from congrArg Value.int (by decide)) ?_
    refine x_in rfl rfl rfl ?_
    refine x_cV rfl rfl rfl rfl ⟨rfl, (Nat.le_of_ble_eq_true rfl), (Nat.le_of_ble_eq_true rfl)⟩ (x_enter (Nat.le_of_ble_eq_true rfl) ?_)
    refine x_in rfl rfl rfl ?_
    refine x_in rfl rfl rfl ?_
    refine x_cV rfl rfl rfl rfl ⟨rfl, (Nat.le_of_ble_eq_true rfl), (Nat.le_of_ble_eq_true rfl)⟩ (x_enter (Nat.le_of_ble_eq_true rfl) ?_)
    refine x_in rfl rfl rfl ?_
    refine x_in rfl rfl rfl ?_
    refine x_top (show _ = Value.int ((0 : Int32)) from congrArg Value.int (by decide)) ?_
    refine x_in rfl rfl rfl ?_
    refine x_in rfl rfl rfl ?_
    refine x_in rfl rfl rfl ?_
    refine x_top (show _ = Value.int ((1 : Int32)) from congrArg Value.int (by decide)) ?_
    refine x_in rfl rfl rfl ?_
    refine x_in rfl rfl rfl ?_
    refine x_top (show _ = Value.int ((1 : Int32)) from congrArg Value.int (by decide)) ?_
    refine x_in rfl rfl rfl ?_
    refine x_top (show _ = Value.int ((-1 : Int32)) from congrArg Value.int (by decide)) ?_
    refine x_cS rfl (by decide) rfl rfl ⟨(Nat.le_of_ble_eq_true rfl), (Nat.le_of_ble_eq_true rfl)⟩ (x_enter (Nat.le_of_ble_eq_true rfl) ?_)
    refine x_in rfl rfl rfl ?_
    refine x_in rfl rfl rfl ?_
    refine x_bF rfl rfl (mt (z_1 (0) (by decide)).mp (by omega)) ?_
    refine x_in rfl rfl rfl ?_
    refine x_in rfl rfl rfl ?_
    refine x_bT rfl rfl ((z_2 (-1) (by decide)).mpr (by omega)) ?_
    refine x_in rfl rfl rfl ?_
    refine x_top (show _ = Value.int ((0 : Int32)) from congrArg Value.int (by decide)) ?_
    refine x_ret rfl rfl ?_
    refine x_ret rfl rfl ?_
    refine x_in rfl rfl rfl ?_
    refine x_in rfl rfl rfl ?_
    refine x_top (show _ = Value.int ((-2147483648 : Int32)) from congrArg Value.int (by decide)) ?_
    refine x_ret rfl rfl ?_
    refine x_in rfl rfl rfl ?_
    refine x_iinc (z := (6 : Int32)) rfl rfl (by decide) ?_
    refine x_in rfl rfl rfl ?_
    refine x_in rfl rfl rfl ?_
    refine x_in rfl rfl rfl ?_
    refine x_in rfl rfl rfl ?_
    refine x_top (show _ = Value.int ((6 : Int32)) from rfl) ?_
    refine x_in rfl rfl rfl ?_
    refine x_top (show _ = Value.int ((6 : Int32)) from congrArg Value.int (by decide)) ?_
    refine x_in rfl rfl rfl ?_
    refine x_top (show _ = Value.int ((0 : Int32)) from congrArg Value.int (by decide)) ?_
    refine x_in rfl rfl rfl ?_
    refine x_in rfl rfl rfl ?_
    refine x_top (show _ = Value.int ((1 : Int32)) from congrArg Value.int (by decide)) ?_
    refine x_ret rfl rfl ?_
    exact ⟨rfl, by decide, by decide⟩
set_option maxRecDepth 100000 in
set_option maxHeartbeats 4000000 in
theorem c_7 (n : Nat) (c a1 a2 a3 a4 a5 : Int32) : x_E (m_X [c, a1, a2, a3, a4, a5]) 60 181 193 11164 (n + 300) 467 [(3, .int 0), (2, .ref 170), (1, .ref 0), (0, .ref 1000000)] [] m_h0 lK := by
  refine x_in rfl rfl rfl ?_
  refine x_in rfl rfl rfl ?_
  refine x_in rfl rfl rfl ?_
  refine x_in rfl rfl rfl ?_
  refine x_top (show _ = Value.int ((1 : Int32)) from congrArg Value.int (by decide)) ?_
  refine x_in rfl rfl rfl ?_
  refine x_top (show _ = Value.int ((1 : Int32)) from congrArg Value.int (by decide)) ?_
  refine x_in rfl rfl rfl ?_
  refine x_cV rfl rfl rfl rfl ⟨rfl, (Nat.le_of_ble_eq_true rfl), (Nat.le_of_ble_eq_true rfl)⟩ (x_enter (Nat.le_of_ble_eq_true rfl) ?_)
  refine x_in rfl rfl rfl ?_
  refine x_in rfl rfl rfl ?_
  refine x_in rfl rfl rfl ?_
  refine x_cV rfl rfl rfl rfl ⟨rfl, (Nat.le_of_ble_eq_true rfl), (Nat.le_of_ble_eq_true rfl)⟩ (x_enter (Nat.le_of_ble_eq_true rfl) ?_)
  refine x_in rfl rfl rfl ?_
  refine x_br rfl rfl (fun c1 => ?_) (fun c1 => ?_)
  · have ec1 := (z_1 (0) (by decide)).mp c1
    refine x_in rfl rfl rfl ?_
    refine x_ret rfl rfl ?_
    refine x_in rfl rfl rfl ?_
    refine x_in rfl rfl rfl ?_
    refine x_in rfl rfl rfl ?_
    refine x_in rfl rfl rfl ?_
    refine x_top (show _ = Value.int ((-1 : Int32)) from congrArg Value.int (by decide)) ?_
    refine x_in rfl rfl rfl ?_
    refine x_ret rfl rfl ?_
    refine x_in rfl rfl rfl ?_
    refine x_in rfl rfl rfl ?_
    refine x_in rfl rfl rfl ?_
    refine x_in rfl rfl rfl ?_
    refine x_top (show _ = Value.int ((1 : Int32)) from congrArg Value.int (by decide)) ?_
    refine x_in rfl rfl rfl ?_
    refine x_top (show _ = Value.int ((1 : Int32)) from congrArg Value.int (by decide)) ?_
    refine x_in rfl rfl rfl ?_
    refine x_cV rfl rfl rfl rfl ⟨rfl, (Nat.le_of_ble_eq_true rfl), (Nat.le_of_ble_eq_true rfl)⟩ (x_enter (Nat.le_of_ble_eq_true rfl) ?_)
    refine x_in rfl rfl rfl ?_
    refine x_in rfl rfl rfl ?_
    refine x_cV rfl rfl rfl rfl ⟨rfl, (Nat.le_of_ble_eq_true rfl), (Nat.le_of_ble_eq_true rfl)⟩ (x_enter (Nat.le_of_ble_eq_true rfl) ?_)
    refine x_in rfl rfl rfl ?_
    refine x_in rfl rfl rfl ?_
    refine x_top (show _ = Value.int ((0 : Int32)) from congrArg Value.int (by decide)) ?_
    refine x_in rfl rfl rfl ?_
    refine x_in rfl rfl rfl ?_
    refine x_in rfl rfl rfl ?_
    refine x_top (show _ = Value.int ((1 : Int32)) from congrArg Value.int (by decide)) ?_
    refine x_in rfl rfl rfl ?_
    refine x_in rfl rfl rfl ?_
    refine x_top (show _ = Value.int ((1 : Int32)) from congrArg Value.int (by decide)) ?_
    refine x_in rfl rfl rfl ?_
    refine x_top (show _ = Value.int ((-1 : Int32)) from congrArg Value.int (by decide)) ?_
    refine x_cS rfl (by decide) rfl rfl ⟨(Nat.le_of_ble_eq_true rfl), (Nat.le_of_ble_eq_true rfl)⟩ (x_enter (Nat.le_of_ble_eq_true rfl) ?_)
    refine x_in rfl rfl rfl ?_
    refine x_in rfl rfl rfl ?_
    refine x_bT rfl rfl ((z_1 (0) (by decide)).mpr (by omega)) ?_
    refine x_in rfl rfl rfl ?_
    refine x_top (show _ = Value.int ((0 : Int32)) from congrArg Value.int (by decide)) ?_
    refine x_ret rfl rfl ?_
    refine x_ret rfl rfl ?_
    refine x_in rfl rfl rfl ?_
    refine x_in rfl rfl rfl ?_
    refine x_top (show _ = Value.int ((-1 : Int32)) from congrArg Value.int (by decide)) ?_
    refine x_ret rfl rfl ?_
    refine x_in rfl rfl rfl ?_
    refine x_iinc (z := (6 : Int32)) rfl rfl (by decide) ?_
    refine x_in rfl rfl rfl ?_
    refine x_in rfl rfl rfl ?_
    refine x_in rfl rfl rfl ?_
    refine x_in rfl rfl rfl ?_
    refine x_top (show _ = Value.int ((6 : Int32)) from rfl) ?_
    refine x_in rfl rfl rfl ?_
    refine x_top (show _ = Value.int ((6 : Int32)) from congrArg Value.int (by decide)) ?_
    refine x_in rfl rfl rfl ?_
    refine x_top (show _ = Value.int ((0 : Int32)) from congrArg Value.int (by decide)) ?_
    refine x_in rfl rfl rfl ?_
    refine x_in rfl rfl rfl ?_
    refine x_top (show _ = Value.int ((1 : Int32)) from congrArg Value.int (by decide)) ?_
    refine x_ret rfl rfl ?_
    exact ⟨rfl, by decide, by decide⟩
  · have ec1 := mt (z_1 (0) (by decide)).mpr c1
    refine x_in rfl rfl rfl ?_
    refine x_in rfl rfl rfl ?_
    refine x_in rfl rfl rfl ?_
    refine x_bT rfl rfl ((z_4 (0) (by decide)).mpr (by omega)) ?_
    refine x_in rfl rfl rfl ?_
    refine x_ret rfl rfl ?_
    refine x_in rfl rfl rfl ?_
    refine x_in rfl rfl rfl ?_
    refine x_in rfl rfl rfl ?_
    refine x_in rfl rfl rfl ?_
    refine x_top (show _ = Value.int ((-1 : Int32)) from congrArg Value.int (by decide)) ?_
    refine x_in rfl rfl rfl ?_
    refine x_ret rfl rfl ?_
    refine x_in rfl rfl rfl ?_
    refine x_in rfl rfl rfl ?_
    refine x_in rfl rfl rfl ?_
    refine x_in rfl rfl rfl ?_
    refine x_top (show _ = Value.int ((1 : Int32)) from congrArg Value.int (by decide)) ?_
    refine x_in rfl rfl rfl ?_
    refine x_top (show _ = Value.int ((1 : Int32)) from congrArg Value.int (by decide)) ?_
    refine x_in rfl rfl rfl ?_
    refine x_cV rfl rfl rfl rfl ⟨rfl, (Nat.le_of_ble_eq_true rfl), (Nat.le_of_ble_eq_true rfl)⟩ (x_enter (Nat.le_of_ble_eq_true rfl) ?_)
    refine x_in rfl rfl rfl ?_
    refine x_in rfl rfl rfl ?_
    refine x_cV rfl rfl rfl rfl ⟨rfl, (Nat.le_of_ble_eq_true rfl), (Nat.le_of_ble_eq_true rfl)⟩ (x_enter (Nat.le_of_ble_eq_true rfl) ?_)
    refine x_in rfl rfl rfl ?_
    refine x_in rfl rfl rfl ?_
    refine x_top (show _ = Value.int ((0 : Int32)) from congrArg Value.int (by decide)) ?_
    refine x_in rfl rfl rfl ?_
    refine x_in rfl rfl rfl ?_
    refine x_in rfl rfl rfl ?_
    refine x_top (show _ = Value.int ((1 : Int32)) from congrArg Value.int (by decide)) ?_
    refine x_in rfl rfl rfl ?_
    refine x_in rfl rfl rfl ?_
    refine x_top (show _ = Value.int ((1 : Int32)) from congrArg Value.int (by decide)) ?_
    refine x_in rfl rfl rfl ?_
    refine x_top (show _ = Value.int ((-1 : Int32)) from congrArg Value.int (by decide)) ?_
    refine x_cS rfl (by decide) rfl rfl ⟨(Nat.le_of_ble_eq_true rfl), (Nat.le_of_ble_eq_true rfl)⟩ (x_enter (Nat.le_of_ble_eq_true rfl) ?_)
    refine x_in rfl rfl rfl ?_
    refine x_in rfl rfl rfl ?_
    refine x_bF rfl rfl (mt (z_1 (0) (by decide)).mp (by omega)) ?_
    refine x_in rfl rfl rfl ?_
    refine x_in rfl rfl rfl ?_
    refine x_bT rfl rfl ((z_2 (-1) (by decide)).mpr (by omega)) ?_
    refine x_in rfl rfl rfl ?_
    refine x_top (show _ = Value.int ((0 : Int32)) from congrArg Value.int (by decide)) ?_
    refine x_ret rfl rfl ?_
    refine x_ret rfl rfl ?_
    refine x_in rfl rfl rfl ?_
    refine x_in rfl rfl rfl ?_
    refine x_top (show _ = Value.int ((-1 : Int32)) from congrArg Value.int (by decide)) ?_
    refine x_ret rfl rfl ?_
    refine x_in rfl rfl rfl ?_
    refine x_iinc (z := (6 : Int32)) rfl rfl (by decide) ?_
    refine x_in rfl rfl rfl ?_
    refine x_in rfl rfl rfl ?_
    refine x_in rfl rfl rfl ?_
    refine x_in rfl rfl rfl ?_
    refine x_top (show _ = Value.int ((6 : Int32)) from rfl) ?_
    refine x_in rfl rfl rfl ?_
    refine x_top (show _ = Value.int ((6 : Int32)) from congrArg Value.int (by decide)) ?_
    refine x_in rfl rfl rfl ?_
    refine x_top (show _ = Value.int ((0 : Int32)) from congrArg Value.int (by decide)) ?_
    refine x_in rfl rfl rfl ?_
    refine x_in rfl rfl rfl ?_
    refine x_top (show _ = Value.int ((1 : Int32)) from congrArg Value.int (by decide)) ?_
    refine x_ret rfl rfl ?_
    exact ⟨rfl, by decide, by decide⟩
set_option maxRecDepth 100000 in
set_option maxHeartbeats 4000000 in
theorem c_8 (n : Nat) (c a1 a2 a3 a4 a5 : Int32) : x_E (m_X [c, a1, a2, a3, a4, a5]) 60 181 193 11164 (n + 300) 490 [(3, .int 0), (2, .ref 170), (1, .ref 0), (0, .ref 1000000)] [] m_h0 lK := by
  refine x_in rfl rfl rfl ?_
  refine x_in rfl rfl rfl ?_
  refine x_in rfl rfl rfl ?_
  refine x_in rfl rfl rfl ?_
  refine x_top (show _ = Value.int ((1 : Int32)) from congrArg Value.int (by decide)) ?_
  refine x_in rfl rfl rfl ?_
  refine x_top (show _ = Value.int ((1 : Int32)) from congrArg Value.int (by decide)) ?_
  refine x_in rfl rfl rfl ?_
  refine x_cV rfl rfl rfl rfl ⟨rfl, (Nat.le_of_ble_eq_true rfl), (Nat.le_of_ble_eq_true rfl)⟩ (x_enter (Nat.le_of_ble_eq_true rfl) ?_)
  refine x_in rfl rfl rfl ?_
  refine x_in rfl rfl rfl ?_
  refine x_top (show _ = Value.int ((-1 : Int32)) from congrArg Value.int (by decide)) ?_
  refine x_br rfl rfl (fun c1 => ?_) (fun c1 => ?_)
  · have ec1 := (z_5 (-1) (by decide)).mp c1
    refine x_in rfl rfl rfl ?_
    refine x_in rfl rfl rfl ?_
    refine x_in rfl rfl rfl ?_
    refine x_top (show _ = Value.int ((0 : Int32)) from congrArg Value.int (by decide)) ?_
    refine x_in rfl rfl rfl ?_
    refine x_in rfl rfl rfl ?_
    refine x_top (show _ = Value.int ((0 : Int32)) from congrArg Value.int (by decide)) ?_
    refine x_ret rfl rfl ?_
    refine x_in rfl rfl rfl ?_
    refine x_in rfl rfl rfl ?_
    refine x_in rfl rfl rfl ?_
    refine x_in rfl rfl rfl ?_
    refine x_top (show _ = Value.int ((1 : Int32)) from congrArg Value.int (by decide)) ?_
    refine x_in rfl rfl rfl ?_
    refine x_top (show _ = Value.int ((1 : Int32)) from congrArg Value.int (by decide)) ?_
    refine x_in rfl rfl rfl ?_
    refine x_cV rfl rfl rfl rfl ⟨rfl, (Nat.le_of_ble_eq_true rfl), (Nat.le_of_ble_eq_true rfl)⟩ (x_enter (Nat.le_of_ble_eq_true rfl) ?_)
    refine x_in rfl rfl rfl ?_
    refine x_in rfl rfl rfl ?_
    refine x_top (show _ = Value.int ((-1 : Int32)) from congrArg Value.int (by decide)) ?_
    refine x_bT rfl rfl ((z_5 (-1) (by decide)).mpr (by omega)) ?_
    refine x_in rfl rfl rfl ?_
    refine x_in rfl rfl rfl ?_
    refine x_in rfl rfl rfl ?_
    refine x_top (show _ = Value.int ((2 : Int32)) from congrArg Value.int (by decide)) ?_
    refine x_in rfl rfl rfl ?_
    refine x_top (show _ = Value.int ((0 : Int32)) from congrArg Value.int (by decide)) ?_
    refine x_in rfl rfl rfl ?_
    refine x_in rfl rfl rfl ?_
    refine x_top (show _ = Value.int ((0 : Int32)) from congrArg Value.int (by decide)) ?_
    refine x_ret rfl rfl ?_
    refine x_in rfl rfl rfl ?_
    refine x_iinc (z := (6 : Int32)) rfl rfl (by decide) ?_
    refine x_in rfl rfl rfl ?_
    refine x_in rfl rfl rfl ?_
    refine x_in rfl rfl rfl ?_
    refine x_in rfl rfl rfl ?_
    refine x_top (show _ = Value.int ((6 : Int32)) from rfl) ?_
    refine x_in rfl rfl rfl ?_
    refine x_top (show _ = Value.int ((6 : Int32)) from congrArg Value.int (by decide)) ?_
    refine x_in rfl rfl rfl ?_
    refine x_top (show _ = Value.int ((0 : Int32)) from congrArg Value.int (by decide)) ?_
    refine x_in rfl rfl rfl ?_
    refine x_in rfl rfl rfl ?_
    refine x_top (show _ = Value.int ((1 : Int32)) from congrArg Value.int (by decide)) ?_
    refine x_ret rfl rfl ?_
    exact ⟨rfl, by decide, by decide⟩
  · have ec1 := mt (z_5 (-1) (by decide)).mpr c1
    refine x_in rfl rfl rfl ?_
    refine x_in rfl rfl rfl ?_
    refine x_in rfl rfl rfl ?_
    refine x_cV rfl rfl rfl rfl ⟨rfl, (Nat.le_of_ble_eq_true rfl), (Nat.le_of_ble_eq_true rfl)⟩ (x_enter (Nat.le_of_ble_eq_true rfl) ?_)
    refine x_in rfl rfl rfl ?_
    refine x_br rfl rfl (fun c2 => ?_) (fun c2 => ?_)
    · have ec2 := (z_1 (0) (by decide)).mp c2
      refine x_in rfl rfl rfl ?_
      refine x_ret rfl rfl ?_
      refine x_in rfl rfl rfl ?_
      refine x_in rfl rfl rfl ?_
      refine x_top (show _ = Value.int ((-1 : Int32)) from congrArg Value.int (by decide)) ?_
      refine x_ret rfl rfl ?_
      refine x_in rfl rfl rfl ?_
      refine x_in rfl rfl rfl ?_
      refine x_in rfl rfl rfl ?_
      refine x_in rfl rfl rfl ?_
      refine x_top (show _ = Value.int ((1 : Int32)) from congrArg Value.int (by decide)) ?_
      refine x_in rfl rfl rfl ?_
      refine x_top (show _ = Value.int ((1 : Int32)) from congrArg Value.int (by decide)) ?_
      refine x_in rfl rfl rfl ?_
      refine x_cV rfl rfl rfl rfl ⟨rfl, (Nat.le_of_ble_eq_true rfl), (Nat.le_of_ble_eq_true rfl)⟩ (x_enter (Nat.le_of_ble_eq_true rfl) ?_)
      refine x_in rfl rfl rfl ?_
      refine x_in rfl rfl rfl ?_
      refine x_top (show _ = Value.int ((-1 : Int32)) from congrArg Value.int (by decide)) ?_
      refine x_bF rfl rfl (mt (z_5 (-1) (by decide)).mp (by omega)) ?_
      refine x_in rfl rfl rfl ?_
      refine x_in rfl rfl rfl ?_
      refine x_cV rfl rfl rfl rfl ⟨rfl, (Nat.le_of_ble_eq_true rfl), (Nat.le_of_ble_eq_true rfl)⟩ (x_enter (Nat.le_of_ble_eq_true rfl) ?_)
      refine x_in rfl rfl rfl ?_
      refine x_in rfl rfl rfl ?_
      refine x_top (show _ = Value.int ((0 : Int32)) from congrArg Value.int (by decide)) ?_
      refine x_in rfl rfl rfl ?_
      refine x_in rfl rfl rfl ?_
      refine x_in rfl rfl rfl ?_
      refine x_top (show _ = Value.int ((1 : Int32)) from congrArg Value.int (by decide)) ?_
      refine x_in rfl rfl rfl ?_
      refine x_in rfl rfl rfl ?_
      refine x_top (show _ = Value.int ((1 : Int32)) from congrArg Value.int (by decide)) ?_
      refine x_in rfl rfl rfl ?_
      refine x_top (show _ = Value.int ((-1 : Int32)) from congrArg Value.int (by decide)) ?_
      refine x_cS rfl (by decide) rfl rfl ⟨(Nat.le_of_ble_eq_true rfl), (Nat.le_of_ble_eq_true rfl)⟩ (x_enter (Nat.le_of_ble_eq_true rfl) ?_)
      refine x_in rfl rfl rfl ?_
      refine x_in rfl rfl rfl ?_
      refine x_bT rfl rfl ((z_1 (0) (by decide)).mpr (by omega)) ?_
      refine x_in rfl rfl rfl ?_
      refine x_top (show _ = Value.int ((0 : Int32)) from congrArg Value.int (by decide)) ?_
      refine x_ret rfl rfl ?_
      refine x_ret rfl rfl ?_
      refine x_in rfl rfl rfl ?_
      refine x_in rfl rfl rfl ?_
      refine x_top (show _ = Value.int ((-1 : Int32)) from congrArg Value.int (by decide)) ?_
      refine x_ret rfl rfl ?_
      refine x_in rfl rfl rfl ?_
      refine x_iinc (z := (6 : Int32)) rfl rfl (by decide) ?_
      refine x_in rfl rfl rfl ?_
      refine x_in rfl rfl rfl ?_
      refine x_in rfl rfl rfl ?_
      refine x_in rfl rfl rfl ?_
      refine x_top (show _ = Value.int ((6 : Int32)) from rfl) ?_
      refine x_in rfl rfl rfl ?_
      refine x_top (show _ = Value.int ((6 : Int32)) from congrArg Value.int (by decide)) ?_
      refine x_in rfl rfl rfl ?_
      refine x_top (show _ = Value.int ((0 : Int32)) from congrArg Value.int (by decide)) ?_
      refine x_in rfl rfl rfl ?_
      refine x_in rfl rfl rfl ?_
      refine x_top (show _ = Value.int ((1 : Int32)) from congrArg Value.int (by decide)) ?_
      refine x_ret rfl rfl ?_
      exact ⟨rfl, by decide, by decide⟩
    · have ec2 := mt (z_1 (0) (by decide)).mpr c2
      refine x_in rfl rfl rfl ?_
      refine x_in rfl rfl rfl ?_
      refine x_in rfl rfl rfl ?_
      refine x_bT rfl rfl ((z_4 (0) (by decide)).mpr (by omega)) ?_
      refine x_in rfl rfl rfl ?_
      refine x_ret rfl rfl ?_
      refine x_in rfl rfl rfl ?_
      refine x_in rfl rfl rfl ?_
      refine x_top (show _ = Value.int ((-1 : Int32)) from congrArg Value.int (by decide)) ?_
      refine x_ret rfl rfl ?_
      refine x_in rfl rfl rfl ?_
      refine x_in rfl rfl rfl ?_
      refine x_in rfl rfl rfl ?_
      refine x_in rfl rfl rfl ?_
      refine x_top (show _ = Value.int ((1 : Int32)) from congrArg Value.int (by decide)) ?_
      refine x_in rfl rfl rfl ?_
      refine x_top (show _ = Value.int ((1 : Int32)) from congrArg Value.int (by decide)) ?_
      refine x_in rfl rfl rfl ?_
      refine x_cV rfl rfl rfl rfl ⟨rfl, (Nat.le_of_ble_eq_true rfl), (Nat.le_of_ble_eq_true rfl)⟩ (x_enter (Nat.le_of_ble_eq_true rfl) ?_)
      refine x_in rfl rfl rfl ?_
      refine x_in rfl rfl rfl ?_
      refine x_top (show _ = Value.int ((-1 : Int32)) from congrArg Value.int (by decide)) ?_
      refine x_bF rfl rfl (mt (z_5 (-1) (by decide)).mp (by omega)) ?_
      refine x_in rfl rfl rfl ?_
      refine x_in rfl rfl rfl ?_
      refine x_cV rfl rfl rfl rfl ⟨rfl, (Nat.le_of_ble_eq_true rfl), (Nat.le_of_ble_eq_true rfl)⟩ (x_enter (Nat.le_of_ble_eq_true rfl) ?_)
      refine x_in rfl rfl rfl ?_
      refine x_in rfl rfl rfl ?_
      refine x_top (show _ = Value.int ((0 : Int32)) from congrArg Value.int (by decide)) ?_
      refine x_in rfl rfl rfl ?_
      refine x_in rfl rfl rfl ?_
      refine x_in rfl rfl rfl ?_
      refine x_top (show _ = Value.int ((1 : Int32)) from congrArg Value.int (by decide)) ?_
      refine x_in rfl rfl rfl ?_
      refine x_in rfl rfl rfl ?_
      refine x_top (show _ = Value.int ((1 : Int32)) from congrArg Value.int (by decide)) ?_
      refine x_in rfl rfl rfl ?_
      refine x_top (show _ = Value.int ((-1 : Int32)) from congrArg Value.int (by decide)) ?_
      refine x_cS rfl (by decide) rfl rfl ⟨(Nat.le_of_ble_eq_true rfl), (Nat.le_of_ble_eq_true rfl)⟩ (x_enter (Nat.le_of_ble_eq_true rfl) ?_)
      refine x_in rfl rfl rfl ?_
      refine x_in rfl rfl rfl ?_
      refine x_bF rfl rfl (mt (z_1 (0) (by decide)).mp (by omega)) ?_
      refine x_in rfl rfl rfl ?_
      refine x_in rfl rfl rfl ?_
      refine x_bT rfl rfl ((z_2 (-1) (by decide)).mpr (by omega)) ?_
      refine x_in rfl rfl rfl ?_
      refine x_top (show _ = Value.int ((0 : Int32)) from congrArg Value.int (by decide)) ?_
      refine x_ret rfl rfl ?_
      refine x_ret rfl rfl ?_
      refine x_in rfl rfl rfl ?_
      refine x_in rfl rfl rfl ?_
      refine x_top (show _ = Value.int ((-1 : Int32)) from congrArg Value.int (by decide)) ?_
      refine x_ret rfl rfl ?_
      refine x_in rfl rfl rfl ?_
      refine x_iinc (z := (6 : Int32)) rfl rfl (by decide) ?_
      refine x_in rfl rfl rfl ?_
      refine x_in rfl rfl rfl ?_
      refine x_in rfl rfl rfl ?_
      refine x_in rfl rfl rfl ?_
      refine x_top (show _ = Value.int ((6 : Int32)) from rfl) ?_
      refine x_in rfl rfl rfl ?_
      refine x_top (show _ = Value.int ((6 : Int32)) from congrArg Value.int (by decide)) ?_
      refine x_in rfl rfl rfl ?_
      refine x_top (show _ = Value.int ((0 : Int32)) from congrArg Value.int (by decide)) ?_
      refine x_in rfl rfl rfl ?_
      refine x_in rfl rfl rfl ?_
      refine x_top (show _ = Value.int ((1 : Int32)) from congrArg Value.int (by decide)) ?_
      refine x_ret rfl rfl ?_
      exact ⟨rfl, by decide, by decide⟩
set_option maxRecDepth 100000 in
set_option maxHeartbeats 4000000 in
theorem c_10 (n : Nat) (c a1 a2 a3 a4 a5 : Int32) : x_E (m_X [c, a1, a2, a3, a4, a5]) 60 181 193 11164 (n + 300) 566 [(3, .int 0), (2, .ref 170), (1, .ref 0), (0, .ref 1000000)] [] m_h0 lK := by
  refine x_in rfl rfl rfl ?_
  refine x_in rfl rfl rfl ?_
  refine x_in rfl rfl rfl ?_
  refine x_in rfl rfl rfl ?_
  refine x_top (show _ = Value.int ((1 : Int32)) from congrArg Value.int (by decide)) ?_
  refine x_in rfl rfl rfl ?_
  refine x_top (show _ = Value.int ((1 : Int32)) from congrArg Value.int (by decide)) ?_
  refine x_in rfl rfl rfl ?_
  refine x_in rfl rfl rfl ?_
  refine x_in rfl rfl rfl ?_
  refine x_in rfl rfl rfl ?_
  refine x_top (show _ = Value.int ((2 : Int32)) from congrArg Value.int (by decide)) ?_
  refine x_in rfl rfl rfl ?_
  refine x_top (show _ = Value.int ((2 : Int32)) from congrArg Value.int (by decide)) ?_
  refine x_in rfl rfl rfl ?_
  refine x_in rfl rfl rfl ?_
  refine x_in rfl rfl rfl ?_
  refine x_in rfl rfl rfl ?_
  refine x_top (show _ = Value.int ((3 : Int32)) from congrArg Value.int (by decide)) ?_
  refine x_in rfl rfl rfl ?_
  refine x_top (show _ = Value.int ((3 : Int32)) from congrArg Value.int (by decide)) ?_
  refine x_in rfl rfl rfl ?_
  refine x_cV rfl rfl rfl rfl ⟨rfl, (Nat.le_of_ble_eq_true rfl), (Nat.le_of_ble_eq_true rfl)⟩ (x_enter (Nat.le_of_ble_eq_true rfl) ?_)
  refine x_in rfl rfl rfl ?_
  refine x_in rfl rfl rfl ?_
  refine x_in rfl rfl rfl ?_
  refine x_cV rfl rfl rfl rfl ⟨rfl, (Nat.le_of_ble_eq_true rfl), (Nat.le_of_ble_eq_true rfl)⟩ (x_enter (Nat.le_of_ble_eq_true rfl) ?_)
  refine x_in rfl rfl rfl ?_
  refine x_br rfl rfl (fun c1 => ?_) (fun c1 => ?_)
  · have ec1 := (z_1 (0) (by decide)).mp c1
    refine x_in rfl rfl rfl ?_
    refine x_ret rfl rfl ?_
    refine x_in rfl rfl rfl ?_
    refine x_in rfl rfl rfl ?_
    refine x_in rfl rfl rfl ?_
    refine x_in rfl rfl rfl ?_
    refine x_cV rfl rfl rfl rfl ⟨rfl, (Nat.le_of_ble_eq_true rfl), (Nat.le_of_ble_eq_true rfl)⟩ (x_enter (Nat.le_of_ble_eq_true rfl) ?_)
    refine x_in rfl rfl rfl ?_
    refine x_br rfl rfl (fun c2 => ?_) (fun c2 => ?_)
    · have ec2 := (z_1 (0) (by decide)).mp c2
      refine x_in rfl rfl rfl ?_
      refine x_ret rfl rfl ?_
      refine x_in rfl rfl rfl ?_
      refine x_in rfl rfl rfl ?_
      refine x_in rfl rfl rfl ?_
      refine x_in rfl rfl rfl ?_
      refine x_top (show _ = Value.int ((-1 : Int32)) from congrArg Value.int (by decide)) ?_
      refine x_ret rfl rfl ?_
      refine x_in rfl rfl rfl ?_
      refine x_in rfl rfl rfl ?_
      refine x_in rfl rfl rfl ?_
      refine x_in rfl rfl rfl ?_
      refine x_top (show _ = Value.int ((1 : Int32)) from congrArg Value.int (by decide)) ?_
      refine x_in rfl rfl rfl ?_
      refine x_top (show _ = Value.int ((1 : Int32)) from congrArg Value.int (by decide)) ?_
      refine x_in rfl rfl rfl ?_
      refine x_in rfl rfl rfl ?_
      refine x_in rfl rfl rfl ?_
      refine x_in rfl rfl rfl ?_
      refine x_top (show _ = Value.int ((2 : Int32)) from congrArg Value.int (by decide)) ?_
      refine x_in rfl rfl rfl ?_
      refine x_top (show _ = Value.int ((2 : Int32)) from congrArg Value.int (by decide)) ?_
      refine x_in rfl rfl rfl ?_
      refine x_in rfl rfl rfl ?_
      refine x_in rfl rfl rfl ?_
      refine x_in rfl rfl rfl ?_
      refine x_top (show _ = Value.int ((3 : Int32)) from congrArg Value.int (by decide)) ?_
      refine x_in rfl rfl rfl ?_
      refine x_top (show _ = Value.int ((3 : Int32)) from congrArg Value.int (by decide)) ?_
      refine x_in rfl rfl rfl ?_
      refine x_cV rfl rfl rfl rfl ⟨rfl, (Nat.le_of_ble_eq_true rfl), (Nat.le_of_ble_eq_true rfl)⟩ (x_enter (Nat.le_of_ble_eq_true rfl) ?_)
      refine x_in rfl rfl rfl ?_
      refine x_in rfl rfl rfl ?_
      refine x_cV rfl rfl rfl rfl ⟨rfl, (Nat.le_of_ble_eq_true rfl), (Nat.le_of_ble_eq_true rfl)⟩ (x_enter (Nat.le_of_ble_eq_true rfl) ?_)
      refine x_in rfl rfl rfl ?_
      refine x_in rfl rfl rfl ?_
      refine x_top (show _ = Value.int ((0 : Int32)) from congrArg Value.int (by decide)) ?_
      refine x_in rfl rfl rfl ?_
      refine x_in rfl rfl rfl ?_
      refine x_in rfl rfl rfl ?_
      refine x_top (show _ = Value.int ((1 : Int32)) from congrArg Value.int (by decide)) ?_
      refine x_in rfl rfl rfl ?_
      refine x_in rfl rfl rfl ?_
      refine x_top (show _ = Value.int ((1 : Int32)) from congrArg Value.int (by decide)) ?_
      refine x_in rfl rfl rfl ?_
      refine x_top (show _ = Value.int ((-1 : Int32)) from congrArg Value.int (by decide)) ?_
      refine x_cS rfl (by decide) rfl rfl ⟨(Nat.le_of_ble_eq_true rfl), (Nat.le_of_ble_eq_true rfl)⟩ (x_enter (Nat.le_of_ble_eq_true rfl) ?_)
      refine x_in rfl rfl rfl ?_
      refine x_in rfl rfl rfl ?_
      refine x_bT rfl rfl ((z_1 (0) (by decide)).mpr (by omega)) ?_
      refine x_in rfl rfl rfl ?_
      refine x_top (show _ = Value.int ((0 : Int32)) from congrArg Value.int (by decide)) ?_
      refine x_ret rfl rfl ?_
      refine x_ret rfl rfl ?_
      refine x_in rfl rfl rfl ?_
      refine x_in rfl rfl rfl ?_
      refine x_top (show _ = Value.int ((-1 : Int32)) from congrArg Value.int (by decide)) ?_
      refine x_ret rfl rfl ?_
      refine x_in rfl rfl rfl ?_
      refine x_iinc (z := (6 : Int32)) rfl rfl (by decide) ?_
      refine x_in rfl rfl rfl ?_
      refine x_in rfl rfl rfl ?_
      refine x_in rfl rfl rfl ?_
      refine x_in rfl rfl rfl ?_
      refine x_top (show _ = Value.int ((6 : Int32)) from rfl) ?_
      refine x_in rfl rfl rfl ?_
      refine x_top (show _ = Value.int ((6 : Int32)) from congrArg Value.int (by decide)) ?_
      refine x_in rfl rfl rfl ?_
      refine x_top (show _ = Value.int ((0 : Int32)) from congrArg Value.int (by decide)) ?_
      refine x_in rfl rfl rfl ?_
      refine x_in rfl rfl rfl ?_
      refine x_top (show _ = Value.int ((1 : Int32)) from congrArg Value.int (by decide)) ?_
      refine x_ret rfl rfl ?_
      exact ⟨rfl, by decide, by decide⟩
    · have ec2 := mt (z_1 (0) (by decide)).mpr c2
      refine x_in rfl rfl rfl ?_
      refine x_in rfl rfl rfl ?_
      refine x_in rfl rfl rfl ?_
      refine x_bT rfl rfl ((z_4 (0) (by decide)).mpr (by omega)) ?_
      refine x_in rfl rfl rfl ?_
      refine x_ret rfl rfl ?_
      refine x_in rfl rfl rfl ?_
      refine x_in rfl rfl rfl ?_
      refine x_in rfl rfl rfl ?_
      refine x_in rfl rfl rfl ?_
      refine x_top (show _ = Value.int ((-1 : Int32)) from congrArg Value.int (by decide)) ?_
      refine x_ret rfl rfl ?_
      refine x_in rfl rfl rfl ?_
      refine x_in rfl rfl rfl ?_
      refine x_in rfl rfl rfl ?_
      refine x_in rfl rfl rfl ?_
      refine x_top (show _ = Value.int ((1 : Int32)) from congrArg Value.int (by decide)) ?_
      refine x_in rfl rfl rfl ?_
      refine x_top (show _ = Value.int ((1 : Int32)) from congrArg Value.int (by decide)) ?_
      refine x_in rfl rfl rfl ?_
      refine x_in rfl rfl rfl ?_
      refine x_in rfl rfl rfl ?_
      refine x_in rfl rfl rfl ?_
      refine x_top (show _ = Value.int ((2 : Int32)) from congrArg Value.int (by decide)) ?_
      refine x_in rfl rfl rfl ?_
      refine x_top (show _ = Value.int ((2 : Int32)) from congrArg Value.int (by decide)) ?_
      refine x_in rfl rfl rfl ?_
      refine x_in rfl rfl rfl ?_
      refine x_in rfl rfl rfl ?_
      refine x_in rfl rfl rfl ?_
      refine x_top (show _ = Value.int ((3 : Int32)) from congrArg Value.int (by decide)) ?_
      refine x_in rfl rfl rfl ?_
      refine x_top (show _ = Value.int ((3 : Int32)) from congrArg Value.int (by decide)) ?_
      refine x_in rfl rfl rfl ?_
      refine x_cV rfl rfl rfl rfl ⟨rfl, (Nat.le_of_ble_eq_true rfl), (Nat.le_of_ble_eq_true rfl)⟩ (x_enter (Nat.le_of_ble_eq_true rfl) ?_)
      refine x_in rfl rfl rfl ?_
      refine x_in rfl rfl rfl ?_
      refine x_cV rfl rfl rfl rfl ⟨rfl, (Nat.le_of_ble_eq_true rfl), (Nat.le_of_ble_eq_true rfl)⟩ (x_enter (Nat.le_of_ble_eq_true rfl) ?_)
      refine x_in rfl rfl rfl ?_
      refine x_in rfl rfl rfl ?_
      refine x_top (show _ = Value.int ((0 : Int32)) from congrArg Value.int (by decide)) ?_
      refine x_in rfl rfl rfl ?_
      refine x_in rfl rfl rfl ?_
      refine x_in rfl rfl rfl ?_
      refine x_top (show _ = Value.int ((1 : Int32)) from congrArg Value.int (by decide)) ?_
      refine x_in rfl rfl rfl ?_
      refine x_in rfl rfl rfl ?_
      refine x_top (show _ = Value.int ((1 : Int32)) from congrArg Value.int (by decide)) ?_
      refine x_in rfl rfl rfl ?_
      refine x_top (show _ = Value.int ((-1 : Int32)) from congrArg Value.int (by decide)) ?_
      refine x_cS rfl (by decide) rfl rfl ⟨(Nat.le_of_ble_eq_true rfl), (Nat.le_of_ble_eq_true rfl)⟩ (x_enter (Nat.le_of_ble_eq_true rfl) ?_)
      refine x_in rfl rfl rfl ?_
      refine x_in rfl rfl rfl ?_
      refine x_bT rfl rfl ((z_1 (0) (by decide)).mpr (by omega)) ?_
      refine x_in rfl rfl rfl ?_
      refine x_top (show _ = Value.int ((0 : Int32)) from congrArg Value.int (by decide)) ?_
      refine x_ret rfl rfl ?_
      refine x_ret rfl rfl ?_
      refine x_in rfl rfl rfl ?_
      refine x_in rfl rfl rfl ?_
      refine x_top (show _ = Value.int ((-1 : Int32)) from congrArg Value.int (by decide)) ?_
      refine x_ret rfl rfl ?_
      refine x_in rfl rfl rfl ?_
      refine x_iinc (z := (6 : Int32)) rfl rfl (by decide) ?_
      refine x_in rfl rfl rfl ?_
      refine x_in rfl rfl rfl ?_
      refine x_in rfl rfl rfl ?_
      refine x_in rfl rfl rfl ?_
      refine x_top (show _ = Value.int ((6 : Int32)) from rfl) ?_
      refine x_in rfl rfl rfl ?_
      refine x_top (show _ = Value.int ((6 : Int32)) from congrArg Value.int (by decide)) ?_
      refine x_in rfl rfl rfl ?_
      refine x_top (show _ = Value.int ((0 : Int32)) from congrArg Value.int (by decide)) ?_
      refine x_in rfl rfl rfl ?_
      refine x_in rfl rfl rfl ?_
      refine x_top (show _ = Value.int ((1 : Int32)) from congrArg Value.int (by decide)) ?_
      refine x_ret rfl rfl ?_
      exact ⟨rfl, by decide, by decide⟩
  · have ec1 := mt (z_1 (0) (by decide)).mpr c1
    refine x_in rfl rfl rfl ?_
    refine x_in rfl rfl rfl ?_
    refine x_in rfl rfl rfl ?_
    refine x_bT rfl rfl ((z_4 (0) (by decide)).mpr (by omega)) ?_
    refine x_in rfl rfl rfl ?_
    refine x_ret rfl rfl ?_
    refine x_in rfl rfl rfl ?_
    refine x_in rfl rfl rfl ?_
    refine x_in rfl rfl rfl ?_
    refine x_in rfl rfl rfl ?_
    refine x_cV rfl rfl rfl rfl ⟨rfl, (Nat.le_of_ble_eq_true rfl), (Nat.le_of_ble_eq_true rfl)⟩ (x_enter (Nat.le_of_ble_eq_true rfl) ?_)
    refine x_in rfl rfl rfl ?_
    refine x_br rfl rfl (fun c3 => ?_) (fun c3 => ?_)
    · have ec3 := (z_1 (0) (by decide)).mp c3
      refine x_in rfl rfl rfl ?_
      refine x_ret rfl rfl ?_
      refine x_in rfl rfl rfl ?_
      refine x_in rfl rfl rfl ?_
      refine x_in rfl rfl rfl ?_
      refine x_in rfl rfl rfl ?_
      refine x_top (show _ = Value.int ((-1 : Int32)) from congrArg Value.int (by decide)) ?_
      refine x_ret rfl rfl ?_
      refine x_in rfl rfl rfl ?_
      refine x_in rfl rfl rfl ?_
      refine x_in rfl rfl rfl ?_
      refine x_in rfl rfl rfl ?_
      refine x_top (show _ = Value.int ((1 : Int32)) from congrArg Value.int (by decide)) ?_
      refine x_in rfl rfl rfl ?_
      refine x_top (show _ = Value.int ((1 : Int32)) from congrArg Value.int (by decide)) ?_
      refine x_in rfl rfl rfl ?_
      refine x_in rfl rfl rfl ?_
      refine x_in rfl rfl rfl ?_
      refine x_in rfl rfl rfl ?_
      refine x_top (show _ = Value.int ((2 : Int32)) from congrArg Value.int (by decide)) ?_
      refine x_in rfl rfl rfl ?_
      refine x_top (show _ = Value.int ((2 : Int32)) from congrArg Value.int (by decide)) ?_
      refine x_in rfl rfl rfl ?_
      refine x_in rfl rfl rfl ?_
      refine x_in rfl rfl rfl ?_
      refine x_in rfl rfl rfl ?_
      refine x_top (show _ = Value.int ((3 : Int32)) from congrArg Value.int (by decide)) ?_
      refine x_in rfl rfl rfl ?_
      refine x_top (show _ = Value.int ((3 : Int32)) from congrArg Value.int (by decide)) ?_
      refine x_in rfl rfl rfl ?_
      refine x_cV rfl rfl rfl rfl ⟨rfl, (Nat.le_of_ble_eq_true rfl), (Nat.le_of_ble_eq_true rfl)⟩ (x_enter (Nat.le_of_ble_eq_true rfl) ?_)
      refine x_in rfl rfl rfl ?_
      refine x_in rfl rfl rfl ?_
      refine x_cV rfl rfl rfl rfl ⟨rfl, (Nat.le_of_ble_eq_true rfl), (Nat.le_of_ble_eq_true rfl)⟩ (x_enter (Nat.le_of_ble_eq_true rfl) ?_)
      refine x_in rfl rfl rfl ?_
      refine x_in rfl rfl rfl ?_
      refine x_top (show _ = Value.int ((0 : Int32)) from congrArg Value.int (by decide)) ?_
      refine x_in rfl rfl rfl ?_
      refine x_in rfl rfl rfl ?_
      refine x_in rfl rfl rfl ?_
      refine x_top (show _ = Value.int ((1 : Int32)) from congrArg Value.int (by decide)) ?_
      refine x_in rfl rfl rfl ?_
      refine x_in rfl rfl rfl ?_
      refine x_top (show _ = Value.int ((1 : Int32)) from congrArg Value.int (by decide)) ?_
      refine x_in rfl rfl rfl ?_
      refine x_top (show _ = Value.int ((-1 : Int32)) from congrArg Value.int (by decide)) ?_
      refine x_cS rfl (by decide) rfl rfl ⟨(Nat.le_of_ble_eq_true rfl), (Nat.le_of_ble_eq_true rfl)⟩ (x_enter (Nat.le_of_ble_eq_true rfl) ?_)
      refine x_in rfl rfl rfl ?_
      refine x_in rfl rfl rfl ?_
      refine x_bF rfl rfl (mt (z_1 (0) (by decide)).mp (by omega)) ?_
      refine x_in rfl rfl rfl ?_
      refine x_in rfl rfl rfl ?_
      refine x_bT rfl rfl ((z_2 (-1) (by decide)).mpr (by omega)) ?_
      refine x_in rfl rfl rfl ?_
      refine x_top (show _ = Value.int ((0 : Int32)) from congrArg Value.int (by decide)) ?_
      refine x_ret rfl rfl ?_
      refine x_ret rfl rfl ?_
      refine x_in rfl rfl rfl ?_
      refine x_in rfl rfl rfl ?_
      refine x_top (show _ = Value.int ((-1 : Int32)) from congrArg Value.int (by decide)) ?_
      refine x_ret rfl rfl ?_
      refine x_in rfl rfl rfl ?_
      refine x_iinc (z := (6 : Int32)) rfl rfl (by decide) ?_
      refine x_in rfl rfl rfl ?_
      refine x_in rfl rfl rfl ?_
      refine x_in rfl rfl rfl ?_
      refine x_in rfl rfl rfl ?_
      refine x_top (show _ = Value.int ((6 : Int32)) from rfl) ?_
      refine x_in rfl rfl rfl ?_
      refine x_top (show _ = Value.int ((6 : Int32)) from congrArg Value.int (by decide)) ?_
      refine x_in rfl rfl rfl ?_
      refine x_top (show _ = Value.int ((0 : Int32)) from congrArg Value.int (by decide)) ?_
      refine x_in rfl rfl rfl ?_
      refine x_in rfl rfl rfl ?_
      refine x_top (show _ = Value.int ((1 : Int32)) from congrArg Value.int (by decide)) ?_
      refine x_ret rfl rfl ?_
      exact ⟨rfl, by decide, by decide⟩
    · have ec3 := mt (z_1 (0) (by decide)).mpr c3
      refine x_in rfl rfl rfl ?_
      refine x_in rfl rfl rfl ?_
      refine x_in rfl rfl rfl ?_
      refine x_bT rfl rfl ((z_4 (0) (by decide)).mpr (by omega)) ?_
      refine x_in rfl rfl rfl ?_
      refine x_ret rfl rfl ?_
      refine x_in rfl rfl rfl ?_
      refine x_in rfl rfl rfl ?_
      refine x_in rfl rfl rfl ?_
      refine x_in rfl rfl rfl ?_
      refine x_top (show _ = Value.int ((-1 : Int32)) from congrArg Value.int (by decide)) ?_
      refine x_ret rfl rfl ?_
      refine x_in rfl rfl rfl ?_
      refine x_in rfl rfl rfl ?_
      refine x_in rfl rfl rfl ?_
      refine x_in rfl rfl rfl ?_
      refine x_top (show _ = Value.int ((1 : Int32)) from congrArg Value.int (by decide)) ?_
      refine x_in rfl rfl rfl ?_
      refine x_top (show _ = Value.int ((1 : Int32)) from congrArg Value.int (by decide)) ?_
      refine x_in rfl rfl rfl ?_
      refine x_in rfl rfl rfl ?_
      refine x_in rfl rfl rfl ?_
      refine x_in rfl rfl rfl ?_
      refine x_top (show _ = Value.int ((2 : Int32)) from congrArg Value.int (by decide)) ?_
      refine x_in rfl rfl rfl ?_
      refine x_top (show _ = Value.int ((2 : Int32)) from congrArg Value.int (by decide)) ?_
      refine x_in rfl rfl rfl ?_
      refine x_in rfl rfl rfl ?_
      refine x_in rfl rfl rfl ?_
      refine x_in rfl rfl rfl ?_
      refine x_top (show _ = Value.int ((3 : Int32)) from congrArg Value.int (by decide)) ?_
      refine x_in rfl rfl rfl ?_
      refine x_top (show _ = Value.int ((3 : Int32)) from congrArg Value.int (by decide)) ?_
      refine x_in rfl rfl rfl ?_
      refine x_cV rfl rfl rfl rfl ⟨rfl, (Nat.le_of_ble_eq_true rfl), (Nat.le_of_ble_eq_true rfl)⟩ (x_enter (Nat.le_of_ble_eq_true rfl) ?_)
      refine x_in rfl rfl rfl ?_
      refine x_in rfl rfl rfl ?_
      refine x_cV rfl rfl rfl rfl ⟨rfl, (Nat.le_of_ble_eq_true rfl), (Nat.le_of_ble_eq_true rfl)⟩ (x_enter (Nat.le_of_ble_eq_true rfl) ?_)
      refine x_in rfl rfl rfl ?_
      refine x_in rfl rfl rfl ?_
      refine x_top (show _ = Value.int ((0 : Int32)) from congrArg Value.int (by decide)) ?_
      refine x_in rfl rfl rfl ?_
      refine x_in rfl rfl rfl ?_
      refine x_in rfl rfl rfl ?_
      refine x_top (show _ = Value.int ((1 : Int32)) from congrArg Value.int (by decide)) ?_
      refine x_in rfl rfl rfl ?_
      refine x_in rfl rfl rfl ?_
      refine x_top (show _ = Value.int ((1 : Int32)) from congrArg Value.int (by decide)) ?_
      refine x_in rfl rfl rfl ?_
      refine x_top (show _ = Value.int ((-1 : Int32)) from congrArg Value.int (by decide)) ?_
      refine x_cS rfl (by decide) rfl rfl ⟨(Nat.le_of_ble_eq_true rfl), (Nat.le_of_ble_eq_true rfl)⟩ (x_enter (Nat.le_of_ble_eq_true rfl) ?_)
      refine x_in rfl rfl rfl ?_
      refine x_in rfl rfl rfl ?_
      refine x_bF rfl rfl (mt (z_1 (0) (by decide)).mp (by omega)) ?_
      refine x_in rfl rfl rfl ?_
      refine x_in rfl rfl rfl ?_
      refine x_bT rfl rfl ((z_2 (-1) (by decide)).mpr (by omega)) ?_
      refine x_in rfl rfl rfl ?_
      refine x_top (show _ = Value.int ((0 : Int32)) from congrArg Value.int (by decide)) ?_
      refine x_ret rfl rfl ?_
      refine x_ret rfl rfl ?_
      refine x_in rfl rfl rfl ?_
      refine x_in rfl rfl rfl ?_
      refine x_top (show _ = Value.int ((-1 : Int32)) from congrArg Value.int (by decide)) ?_
      refine x_ret rfl rfl ?_
      refine x_in rfl rfl rfl ?_
      refine x_iinc (z := (6 : Int32)) rfl rfl (by decide) ?_
      refine x_in rfl rfl rfl ?_
      refine x_in rfl rfl rfl ?_
      refine x_in rfl rfl rfl ?_
      refine x_in rfl rfl rfl ?_
      refine x_top (show _ = Value.int ((6 : Int32)) from rfl) ?_
      refine x_in rfl rfl rfl ?_
      refine x_top (show _ = Value.int ((6 : Int32)) from congrArg Value.int (by decide)) ?_
      refine x_in rfl rfl rfl ?_
      refine x_top (show _ = Value.int ((0 : Int32)) from congrArg Value.int (by decide)) ?_
      refine x_in rfl rfl rfl ?_
      refine x_in rfl rfl rfl ?_
      refine x_top (show _ = Value.int ((1 : Int32)) from congrArg Value.int (by decide)) ?_
      refine x_ret rfl rfl ?_
      exact ⟨rfl, by decide, by decide⟩
set_option maxRecDepth 100000 in
set_option maxHeartbeats 4000000 in
theorem c_11 (n : Nat) (c a1 a2 a3 a4 a5 : Int32) : x_E (m_X [c, a1, a2, a3, a4, a5]) 60 181 193 11164 (n + 300) 609 [(3, .int 0), (2, .ref 170), (1, .ref 0), (0, .ref 1000000)] [] m_h0 lK := by
  refine x_in rfl rfl rfl ?_
  refine x_in rfl rfl rfl ?_
  refine x_in rfl rfl rfl ?_
  refine x_in rfl rfl rfl ?_
  refine x_top (show _ = Value.int ((1 : Int32)) from congrArg Value.int (by decide)) ?_
  refine x_in rfl rfl rfl ?_
  refine x_top (show _ = Value.int ((1 : Int32)) from congrArg Value.int (by decide)) ?_
  refine x_in rfl rfl rfl ?_
  refine x_in rfl rfl rfl ?_
  refine x_in rfl rfl rfl ?_
  refine x_in rfl rfl rfl ?_
  refine x_top (show _ = Value.int ((2 : Int32)) from congrArg Value.int (by decide)) ?_
  refine x_in rfl rfl rfl ?_
  refine x_top (show _ = Value.int ((2 : Int32)) from congrArg Value.int (by decide)) ?_
  refine x_in rfl rfl rfl ?_
  refine x_cV rfl rfl rfl rfl ⟨rfl, (Nat.le_of_ble_eq_true rfl), (Nat.le_of_ble_eq_true rfl)⟩ (x_enter (Nat.le_of_ble_eq_true rfl) ?_)
  refine x_in rfl rfl rfl ?_
  refine x_in rfl rfl rfl ?_
  refine x_in rfl rfl rfl ?_
  refine x_cV rfl rfl rfl rfl ⟨rfl, (Nat.le_of_ble_eq_true rfl), (Nat.le_of_ble_eq_true rfl)⟩ (x_enter (Nat.le_of_ble_eq_true rfl) ?_)
  refine x_in rfl rfl rfl ?_
  refine x_br rfl rfl (fun c1 => ?_) (fun c1 => ?_)
  · have ec1 := (z_1 (0) (by decide)).mp c1
    refine x_in rfl rfl rfl ?_
    refine x_ret rfl rfl ?_
    refine x_in rfl rfl rfl ?_
    refine x_in rfl rfl rfl ?_
    refine x_in rfl rfl rfl ?_
    refine x_in rfl rfl rfl ?_
    refine x_top (show _ = Value.int ((-1 : Int32)) from congrArg Value.int (by decide)) ?_
    refine x_in rfl rfl rfl ?_
    refine x_ret rfl rfl ?_
    refine x_in rfl rfl rfl ?_
    refine x_in rfl rfl rfl ?_
    refine x_in rfl rfl rfl ?_
    refine x_in rfl rfl rfl ?_
    refine x_top (show _ = Value.int ((1 : Int32)) from congrArg Value.int (by decide)) ?_
    refine x_in rfl rfl rfl ?_
    refine x_top (show _ = Value.int ((1 : Int32)) from congrArg Value.int (by decide)) ?_
    refine x_in rfl rfl rfl ?_
    refine x_in rfl rfl rfl ?_
    refine x_in rfl rfl rfl ?_
    refine x_in rfl rfl rfl ?_
    refine x_top (show _ = Value.int ((2 : Int32)) from congrArg Value.int (by decide)) ?_
    refine x_in rfl rfl rfl ?_
    refine x_top (show _ = Value.int ((2 : Int32)) from congrArg Value.int (by decide)) ?_
    refine x_in rfl rfl rfl ?_
    refine x_cV rfl rfl rfl rfl ⟨rfl, (Nat.le_of_ble_eq_true rfl), (Nat.le_of_ble_eq_true rfl)⟩ (x_enter (Nat.le_of_ble_eq_true rfl) ?_)
    refine x_in rfl rfl rfl ?_
    refine x_in rfl rfl rfl ?_
    refine x_cV rfl rfl rfl rfl ⟨rfl, (Nat.le_of_ble_eq_true rfl), (Nat.le_of_ble_eq_true rfl)⟩ (x_enter (Nat.le_of_ble_eq_true rfl) ?_)
    refine x_in rfl rfl rfl ?_
    refine x_in rfl rfl rfl ?_
    refine x_top (show _ = Value.int ((0 : Int32)) from congrArg Value.int (by decide)) ?_
    refine x_in rfl rfl rfl ?_
    refine x_in rfl rfl rfl ?_
    refine x_in rfl rfl rfl ?_
    refine x_top (show _ = Value.int ((1 : Int32)) from congrArg Value.int (by decide)) ?_
    refine x_in rfl rfl rfl ?_
    refine x_in rfl rfl rfl ?_
    refine x_top (show _ = Value.int ((1 : Int32)) from congrArg Value.int (by decide)) ?_
    refine x_in rfl rfl rfl ?_
    refine x_top (show _ = Value.int ((-1 : Int32)) from congrArg Value.int (by decide)) ?_
    refine x_cS rfl (by decide) rfl rfl ⟨(Nat.le_of_ble_eq_true rfl), (Nat.le_of_ble_eq_true rfl)⟩ (x_enter (Nat.le_of_ble_eq_true rfl) ?_)
    refine x_in rfl rfl rfl ?_
    refine x_in rfl rfl rfl ?_
    refine x_bT rfl rfl ((z_1 (0) (by decide)).mpr (by omega)) ?_
    refine x_in rfl rfl rfl ?_
    refine x_top (show _ = Value.int ((0 : Int32)) from congrArg Value.int (by decide)) ?_
    refine x_ret rfl rfl ?_
    refine x_ret rfl rfl ?_
    refine x_in rfl rfl rfl ?_
    refine x_in rfl rfl rfl ?_
    refine x_top (show _ = Value.int ((-1 : Int32)) from congrArg Value.int (by decide)) ?_
    refine x_ret rfl rfl ?_
    refine x_in rfl rfl rfl ?_
    refine x_iinc (z := (6 : Int32)) rfl rfl (by decide) ?_
    refine x_in rfl rfl rfl ?_
    refine x_in rfl rfl rfl ?_
    refine x_in rfl rfl rfl ?_
    refine x_in rfl rfl rfl ?_
    refine x_top (show _ = Value.int ((6 : Int32)) from rfl) ?_
    refine x_in rfl rfl rfl ?_
    refine x_top (show _ = Value.int ((6 : Int32)) from congrArg Value.int (by decide)) ?_
    refine x_in rfl rfl rfl ?_
    refine x_top (show _ = Value.int ((0 : Int32)) from congrArg Value.int (by decide)) ?_
    refine x_in rfl rfl rfl ?_
    refine x_in rfl rfl rfl ?_
    refine x_top (show _ = Value.int ((1 : Int32)) from congrArg Value.int (by decide)) ?_
    refine x_ret rfl rfl ?_
    exact ⟨rfl, by decide, by decide⟩
  · have ec1 := mt (z_1 (0) (by decide)).mpr c1
    refine x_in rfl rfl rfl ?_
    refine x_in rfl rfl rfl ?_
    refine x_in rfl rfl rfl ?_
    refine x_bT rfl rfl ((z_4 (0) (by decide)).mpr (by omega)) ?_
    refine x_in rfl rfl rfl ?_
    refine x_ret rfl rfl ?_
    refine x_in rfl rfl rfl ?_
    refine x_in rfl rfl rfl ?_
    refine x_in rfl rfl rfl ?_
    refine x_in rfl rfl rfl ?_
    refine x_top (show _ = Value.int ((-1 : Int32)) from congrArg Value.int (by decide)) ?_
    refine x_in rfl rfl rfl ?_
    refine x_ret rfl rfl ?_
    refine x_in rfl rfl rfl ?_
    refine x_in rfl rfl rfl ?_
    refine x_in rfl rfl rfl ?_
    refine x_in rfl rfl rfl ?_
    refine x_top (show _ = Value.int ((1 : Int32)) from congrArg Value.int (by decide)) ?_
    refine x_in rfl rfl rfl ?_
    refine x_top (show _ = Value.int ((1 : Int32)) from congrArg Value.int (by decide)) ?_
    refine x_in rfl rfl rfl ?_
    refine x_in rfl rfl rfl ?_
    refine x_in rfl rfl rfl ?_
    refine x_in rfl rfl rfl ?_
    refine x_top (show _ = Value.int ((2 : Int32)) from congrArg Value.int (by decide)) ?_
    refine x_in rfl rfl rfl ?_
    refine x_top (show _ = Value.int ((2 : Int32)) from congrArg Value.int (by decide)) ?_
    refine x_in rfl rfl rfl ?_
    refine x_cV rfl rfl rfl rfl ⟨rfl, (Nat.le_of_ble_eq_true rfl), (Nat.le_of_ble_eq_true rfl)⟩ (x_enter (Nat.le_of_ble_eq_true rfl) ?_)
    refine x_in rfl rfl rfl ?_
    refine x_in rfl rfl rfl ?_
    refine x_cV rfl rfl rfl rfl ⟨rfl, (Nat.le_of_ble_eq_true rfl), (Nat.le_of_ble_eq_true rfl)⟩ (x_enter (Nat.le_of_ble_eq_true rfl) ?_)
    refine x_in rfl rfl rfl ?_
    refine x_in rfl rfl rfl ?_
    refine x_top (show _ = Value.int ((0 : Int32)) from congrArg Value.int (by decide)) ?_
    refine x_in rfl rfl rfl ?_
    refine x_in rfl rfl rfl ?_
    refine x_in rfl rfl rfl ?_
    refine x_top (show _ = Value.int ((1 : Int32)) from congrArg Value.int (by decide)) ?_
    refine x_in rfl rfl rfl ?_
    refine x_in rfl rfl rfl ?_
    refine x_top (show _ = Value.int ((1 : Int32)) from congrArg Value.int (by decide)) ?_
    refine x_in rfl rfl rfl ?_
    refine x_top (show _ = Value.int ((-1 : Int32)) from congrArg Value.int (by decide)) ?_
    refine x_cS rfl (by decide) rfl rfl ⟨(Nat.le_of_ble_eq_true rfl), (Nat.le_of_ble_eq_true rfl)⟩ (x_enter (Nat.le_of_ble_eq_true rfl) ?_)
    refine x_in rfl rfl rfl ?_
    refine x_in rfl rfl rfl ?_
    refine x_bF rfl rfl (mt (z_1 (0) (by decide)).mp (by omega)) ?_
    refine x_in rfl rfl rfl ?_
    refine x_in rfl rfl rfl ?_
    refine x_bT rfl rfl ((z_2 (-1) (by decide)).mpr (by omega)) ?_
    refine x_in rfl rfl rfl ?_
    refine x_top (show _ = Value.int ((0 : Int32)) from congrArg Value.int (by decide)) ?_
    refine x_ret rfl rfl ?_
    refine x_ret rfl rfl ?_
    refine x_in rfl rfl rfl ?_
    refine x_in rfl rfl rfl ?_
    refine x_top (show _ = Value.int ((-1 : Int32)) from congrArg Value.int (by decide)) ?_
    refine x_ret rfl rfl ?_
    refine x_in rfl rfl rfl ?_
    refine x_iinc (z := (6 : Int32)) rfl rfl (by decide) ?_
    refine x_in rfl rfl rfl ?_
    refine x_in rfl rfl rfl ?_
    refine x_in rfl rfl rfl ?_
    refine x_in rfl rfl rfl ?_
    refine x_top (show _ = Value.int ((6 : Int32)) from rfl) ?_
    refine x_in rfl rfl rfl ?_
    refine x_top (show _ = Value.int ((6 : Int32)) from congrArg Value.int (by decide)) ?_
    refine x_in rfl rfl rfl ?_
    refine x_top (show _ = Value.int ((0 : Int32)) from congrArg Value.int (by decide)) ?_
    refine x_in rfl rfl rfl ?_
    refine x_in rfl rfl rfl ?_
    refine x_top (show _ = Value.int ((1 : Int32)) from congrArg Value.int (by decide)) ?_
    refine x_ret rfl rfl ?_
    exact ⟨rfl, by decide, by decide⟩
