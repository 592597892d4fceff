set_option maxRecDepth 100000 in
set_option maxHeartbeats 4000000 in
theorem c_9 (n : Nat) (c a1 a2 a3 a4 a5 : Int32) : x_E (m_X [c, a1, a2, a3, a4, a5]) 60 181 193 11164 (n + 300) 513 [(3, .int 0), (2, .ref 170), (1, .ref 0), (0, .ref 1000000)] [] m_h0 lK := by
  refine x_in rfl rfl rfl ?_
  refine x_in rfl rfl rfl ?_
  refine x_in rfl rfl rfl ?_
  refine x_in rfl rfl rfl ?_
  refine x_top (show _ = Value.int ((1 : Int32)) from congrArg Value.int (by decide)) ?_
  refine x_in rfl rfl rfl ?_
  refine x_top (show _ = Value.int ((1 : Int32)) from congrArg Value.int (by decide)) ?_
  refine x_in rfl rfl rfl ?_
  refine x_in rfl rfl rfl ?_
  refine x_in rfl rfl rfl ?_
  refine x_in rfl rfl rfl ?_
  refine x_top (show _ = Value.int ((2 : Int32)) from congrArg Value.int (by decide)) ?_
  refine x_in rfl rfl rfl ?_
  refine x_top (show _ = Value.int ((2 : Int32)) from congrArg Value.int (by decide)) ?_
  refine x_in rfl rfl rfl ?_
  refine x_in rfl rfl rfl ?_
  refine x_in rfl rfl rfl ?_
  refine x_in rfl rfl rfl ?_
  refine x_top (show _ = Value.int ((3 : Int32)) from congrArg Value.int (by decide)) ?_
  refine x_in rfl rfl rfl ?_
  refine x_top (show _ = Value.int ((3 : Int32)) from congrArg Value.int (by decide)) ?_
  refine x_in rfl rfl rfl ?_
  refine x_in rfl rfl rfl ?_
  refine x_in rfl rfl rfl ?_
  refine x_in rfl rfl rfl ?_
  refine x_top (show _ = Value.int ((4 : Int32)) from congrArg Value.int (by decide)) ?_
  refine x_in rfl rfl rfl ?_
  refine x_top (show _ = Value.int ((4 : Int32)) from congrArg Value.int (by decide)) ?_
  refine x_in rfl rfl rfl ?_
  refine x_cV rfl rfl rfl rfl ⟨rfl, (Nat.le_of_ble_eq_true rfl), (Nat.le_of_ble_eq_true rfl)⟩ (x_enter (Nat.le_of_ble_eq_true rfl) ?_)
  refine x_in rfl rfl rfl ?_
  refine x_in rfl rfl rfl ?_
  refine x_in rfl rfl rfl ?_
  refine x_in rfl rfl rfl ?_
  refine x_cS rfl (by decide) rfl rfl ⟨(Nat.le_of_ble_eq_true rfl), (Nat.le_of_ble_eq_true rfl)⟩ (x_enter (Nat.le_of_ble_eq_true rfl) ?_)
  refine x_in rfl rfl rfl ?_
  refine x_cS rfl (by decide) rfl rfl ⟨(Nat.le_of_ble_eq_true rfl), (Nat.le_of_ble_eq_true rfl)⟩ (x_enter (Nat.le_of_ble_eq_true rfl) ?_)
  refine x_in rfl rfl rfl ?_
  refine x_br rfl rfl (fun c1 => ?_) (fun c1 => ?_)
  · have ec1 := (z_1 (0) (by decide)).mp c1
    refine x_in rfl rfl rfl ?_
    refine x_top (show _ = Value.int ((0 : Int32)) from congrArg Value.int (by decide)) ?_
    refine x_ret rfl rfl ?_
    refine x_in rfl rfl rfl ?_
    refine x_in rfl rfl rfl ?_
    refine x_top (show _ = Value.int ((-1 : Int32)) from congrArg Value.int (by decide)) ?_
    refine x_ret rfl rfl ?_
    refine x_in rfl rfl rfl ?_
    refine x_in rfl rfl rfl ?_
    refine x_in rfl rfl rfl ?_
    refine x_in rfl rfl rfl ?_
    refine x_ret rfl rfl ?_
    refine x_in rfl rfl rfl ?_
    refine x_in rfl rfl rfl ?_
    refine x_in rfl rfl rfl ?_
    refine x_in rfl rfl rfl ?_
    refine x_top (show _ = Value.int ((1 : Int32)) from congrArg Value.int (by decide)) ?_
    refine x_in rfl rfl rfl ?_
    refine x_top (show _ = Value.int ((1 : Int32)) from congrArg Value.int (by decide)) ?_
    refine x_in rfl rfl rfl ?_
    refine x_in rfl rfl rfl ?_
    refine x_in rfl rfl rfl ?_
    refine x_in rfl rfl rfl ?_
    refine x_top (show _ = Value.int ((2 : Int32)) from congrArg Value.int (by decide)) ?_
    refine x_in rfl rfl rfl ?_
    refine x_top (show _ = Value.int ((2 : Int32)) from congrArg Value.int (by decide)) ?_
    refine x_in rfl rfl rfl ?_
    refine x_in rfl rfl rfl ?_
    refine x_in rfl rfl rfl ?_
    refine x_in rfl rfl rfl ?_
    refine x_top (show _ = Value.int ((3 : Int32)) from congrArg Value.int (by decide)) ?_
    refine x_in rfl rfl rfl ?_
    refine x_top (show _ = Value.int ((3 : Int32)) from congrArg Value.int (by decide)) ?_
    refine x_in rfl rfl rfl ?_
    refine x_in rfl rfl rfl ?_
    refine x_in rfl rfl rfl ?_
    refine x_in rfl rfl rfl ?_
    refine x_top (show _ = Value.int ((4 : Int32)) from congrArg Value.int (by decide)) ?_
    refine x_in rfl rfl rfl ?_
    refine x_top (show _ = Value.int ((4 : Int32)) from congrArg Value.int (by decide)) ?_
    refine x_in rfl rfl rfl ?_
    refine x_cV rfl rfl rfl rfl ⟨rfl, (Nat.le_of_ble_eq_true rfl), (Nat.le_of_ble_eq_true rfl)⟩ (x_enter (Nat.le_of_ble_eq_true rfl) ?_)
    refine x_in rfl rfl rfl ?_
    refine x_in rfl rfl rfl ?_
    refine x_in rfl rfl rfl ?_
    refine x_cS rfl (by decide) rfl rfl ⟨(Nat.le_of_ble_eq_true rfl), (Nat.le_of_ble_eq_true rfl)⟩ (x_enter (Nat.le_of_ble_eq_true rfl) ?_)
    refine x_in rfl rfl rfl ?_
    refine x_cS rfl (by decide) rfl rfl ⟨(Nat.le_of_ble_eq_true rfl), (Nat.le_of_ble_eq_true rfl)⟩ (x_enter (Nat.le_of_ble_eq_true rfl) ?_)
    refine x_in rfl rfl rfl ?_
    refine x_in rfl rfl rfl ?_
    refine x_top (show _ = Value.int ((0 : Int32)) from congrArg Value.int (by decide)) ?_
    refine x_in rfl rfl rfl ?_
    refine x_top (show _ = Value.int ((15 : Int32)) from congrArg Value.int (by decide)) ?_
    refine x_cS rfl (by decide) rfl rfl ⟨(Nat.le_of_ble_eq_true rfl), (Nat.le_of_ble_eq_true rfl)⟩ (x_enter (Nat.le_of_ble_eq_true rfl) ?_)
    refine x_in rfl rfl rfl ?_
    refine x_in rfl rfl rfl ?_
    refine x_bT rfl rfl ((z_1 (0) (by decide)).mpr (by omega)) ?_
    refine x_in rfl rfl rfl ?_
    refine x_top (show _ = Value.int ((0 : Int32)) from congrArg Value.int (by decide)) ?_
    refine x_ret rfl rfl ?_
    refine x_ret rfl rfl ?_
    refine x_in rfl rfl rfl ?_
    refine x_in rfl rfl rfl ?_
    refine x_top (show _ = Value.int ((0 : Int32)) from congrArg Value.int (by decide)) ?_
    refine x_ret rfl rfl ?_
    refine x_in rfl rfl rfl ?_
    refine x_in rfl rfl rfl ?_
    refine x_top (show _ = Value.int ((-1 : Int32)) from congrArg Value.int (by decide)) ?_
    refine x_ret rfl rfl ?_
    refine x_in rfl rfl rfl ?_
    refine x_iinc (z := (6 : Int32)) rfl rfl (by decide) ?_
    refine x_in rfl rfl rfl ?_
    refine x_in rfl rfl rfl ?_
    refine x_in rfl rfl rfl ?_
    refine x_in rfl rfl rfl ?_
    refine x_top (show _ = Value.int ((6 : Int32)) from rfl) ?_
    refine x_in rfl rfl rfl ?_
    refine x_top (show _ = Value.int ((6 : Int32)) from congrArg Value.int (by decide)) ?_
    refine x_in rfl rfl rfl ?_
    refine x_top (show _ = Value.int ((0 : Int32)) from congrArg Value.int (by decide)) ?_
    refine x_in rfl rfl rfl ?_
    refine x_in rfl rfl rfl ?_
    refine x_top (show _ = Value.int ((1 : Int32)) from congrArg Value.int (by decide)) ?_
    refine x_ret rfl rfl ?_
    exact ⟨rfl, by decide, by decide⟩
  · have ec1 := mt (z_1 (0) (by decide)).mpr c1
    refine x_in rfl rfl rfl ?_
    refine x_in rfl rfl rfl ?_
    refine x_top (show _ = Value.int ((16 : Int32)) from congrArg Value.int (by decide)) ?_
    refine x_br rfl rfl (fun c2 => ?_) (fun c2 => ?_)
    · have ec2 := (z_4 (16) (by decide)).mp c2
      refine x_in rfl rfl rfl ?_
      refine x_top (show _ = Value.int ((0 : Int32)) from congrArg Value.int (by decide)) ?_
      refine x_ret rfl rfl ?_
      refine x_in rfl rfl rfl ?_
      refine x_in rfl rfl rfl ?_
      refine x_top (show _ = Value.int ((-1 : Int32)) from congrArg Value.int (by decide)) ?_
      refine x_ret rfl rfl ?_
      refine x_in rfl rfl rfl ?_
      refine x_in rfl rfl rfl ?_
      refine x_in rfl rfl rfl ?_
      refine x_in rfl rfl rfl ?_
      refine x_ret rfl rfl ?_
      refine x_in rfl rfl rfl ?_
      refine x_in rfl rfl rfl ?_
      refine x_in rfl rfl rfl ?_
      refine x_in rfl rfl rfl ?_
      refine x_top (show _ = Value.int ((1 : Int32)) from congrArg Value.int (by decide)) ?_
      refine x_in rfl rfl rfl ?_
      refine x_top (show _ = Value.int ((1 : Int32)) from congrArg Value.int (by decide)) ?_
      refine x_in rfl rfl rfl ?_
      refine x_in rfl rfl rfl ?_
      refine x_in rfl rfl rfl ?_
      refine x_in rfl rfl rfl ?_
      refine x_top (show _ = Value.int ((2 : Int32)) from congrArg Value.int (by decide)) ?_
      refine x_in rfl rfl rfl ?_
      refine x_top (show _ = Value.int ((2 : Int32)) from congrArg Value.int (by decide)) ?_
      refine x_in rfl rfl rfl ?_
      refine x_in rfl rfl rfl ?_
      refine x_in rfl rfl rfl ?_
      refine x_in rfl rfl rfl ?_
      refine x_top (show _ = Value.int ((3 : Int32)) from congrArg Value.int (by decide)) ?_
      refine x_in rfl rfl rfl ?_
      refine x_top (show _ = Value.int ((3 : Int32)) from congrArg Value.int (by decide)) ?_
      refine x_in rfl rfl rfl ?_
      refine x_in rfl rfl rfl ?_
      refine x_in rfl rfl rfl ?_
      refine x_in rfl rfl rfl ?_
      refine x_top (show _ = Value.int ((4 : Int32)) from congrArg Value.int (by decide)) ?_
      refine x_in rfl rfl rfl ?_
      refine x_top (show _ = Value.int ((4 : Int32)) from congrArg Value.int (by decide)) ?_
      refine x_in rfl rfl rfl ?_
      refine x_cV rfl rfl rfl rfl ⟨rfl, (Nat.le_of_ble_eq_true rfl), (Nat.le_of_ble_eq_true rfl)⟩ (x_enter (Nat.le_of_ble_eq_true rfl) ?_)
      refine x_in rfl rfl rfl ?_
      refine x_in rfl rfl rfl ?_
      refine x_in rfl rfl rfl ?_
      refine x_cS rfl (by decide) rfl rfl ⟨(Nat.le_of_ble_eq_true rfl), (Nat.le_of_ble_eq_true rfl)⟩ (x_enter (Nat.le_of_ble_eq_true rfl) ?_)
      refine x_in rfl rfl rfl ?_
      refine x_cS rfl (by decide) rfl rfl ⟨(Nat.le_of_ble_eq_true rfl), (Nat.le_of_ble_eq_true rfl)⟩ (x_enter (Nat.le_of_ble_eq_true rfl) ?_)
      refine x_in rfl rfl rfl ?_
      refine x_in rfl rfl rfl ?_
      refine x_top (show _ = Value.int ((0 : Int32)) from congrArg Value.int (by decide)) ?_
      refine x_in rfl rfl rfl ?_
      refine x_top (show _ = Value.int ((15 : Int32)) from congrArg Value.int (by decide)) ?_
      refine x_cS rfl (by decide) rfl rfl ⟨(Nat.le_of_ble_eq_true rfl), (Nat.le_of_ble_eq_true rfl)⟩ (x_enter (Nat.le_of_ble_eq_true rfl) ?_)
      refine x_in rfl rfl rfl ?_
      refine x_in rfl rfl rfl ?_
      refine x_bF rfl rfl (mt (z_1 (0) (by decide)).mp (by omega)) ?_
      refine x_in rfl rfl rfl ?_
      refine x_in rfl rfl rfl ?_
      refine x_bT rfl rfl ((z_2 (15) (by decide)).mpr (by omega)) ?_
      refine x_in rfl rfl rfl ?_
      refine x_top (show _ = Value.int ((0 : Int32)) from congrArg Value.int (by decide)) ?_
      refine x_ret rfl rfl ?_
      refine x_ret rfl rfl ?_
      refine x_in rfl rfl rfl ?_
      refine x_in rfl rfl rfl ?_
      refine x_top (show _ = Value.int ((0 : Int32)) from congrArg Value.int (by decide)) ?_
      refine x_ret rfl rfl ?_
      refine x_in rfl rfl rfl ?_
      refine x_in rfl rfl rfl ?_
      refine x_top (show _ = Value.int ((-1 : Int32)) from congrArg Value.int (by decide)) ?_
      refine x_ret rfl rfl ?_
      refine x_in rfl rfl rfl ?_
      refine x_iinc (z := (6 : Int32)) rfl rfl (by decide) ?_
      refine x_in rfl rfl rfl ?_
      refine x_in rfl rfl rfl ?_
      refine x_in rfl rfl rfl ?_
      refine x_in rfl rfl rfl ?_
      refine x_top (show _ = Value.int ((6 : Int32)) from rfl) ?_
      refine x_in rfl rfl rfl ?_
      refine x_top (show _ = Value.int ((6 : Int32)) from congrArg Value.int (by decide)) ?_
      refine x_in rfl rfl rfl ?_
      refine x_top (show _ = Value.int ((0 : Int32)) from congrArg Value.int (by decide)) ?_
      refine x_in rfl rfl rfl ?_
      refine x_in rfl rfl rfl ?_
      refine x_top (show _ = Value.int ((1 : Int32)) from congrArg Value.int (by decide)) ?_
      refine x_ret rfl rfl ?_
      exact ⟨rfl, by decide, by decide⟩
    · have ec2 := mt (z_4 (16) (by decide)).mpr c2
      refine x_in rfl rfl rfl ?_
      refine x_top (show _ = Value.int ((1 : Int32)) from congrArg Value.int (by decide)) ?_
      refine x_in rfl rfl rfl ?_
      refine x_ret rfl rfl ?_
      refine x_in rfl rfl rfl ?_
      refine x_in rfl rfl rfl ?_
      refine x_br rfl rfl (fun c3 => ?_) (fun c3 => ?_)
      · have ec3 := (z_1 (0) (by decide)).mp c3
        refine x_in rfl rfl rfl ?_
        refine x_top (show _ = Value.int ((-1 : Int32)) from congrArg Value.int (by decide)) ?_
        refine x_ret rfl rfl ?_
        refine x_in rfl rfl rfl ?_
        refine x_in rfl rfl rfl ?_
        refine x_in rfl rfl rfl ?_
        refine x_in rfl rfl rfl ?_
        refine x_ret rfl rfl ?_
        refine x_in rfl rfl rfl ?_
        refine x_in rfl rfl rfl ?_
        refine x_in rfl rfl rfl ?_
        refine x_in rfl rfl rfl ?_
        refine x_top (show _ = Value.int ((1 : Int32)) from congrArg Value.int (by decide)) ?_
        refine x_in rfl rfl rfl ?_
        refine x_top (show _ = Value.int ((1 : Int32)) from congrArg Value.int (by decide)) ?_
        refine x_in rfl rfl rfl ?_
        refine x_in rfl rfl rfl ?_
        refine x_in rfl rfl rfl ?_
        refine x_in rfl rfl rfl ?_
        refine x_top (show _ = Value.int ((2 : Int32)) from congrArg Value.int (by decide)) ?_
        refine x_in rfl rfl rfl ?_
        refine x_top (show _ = Value.int ((2 : Int32)) from congrArg Value.int (by decide)) ?_
        refine x_in rfl rfl rfl ?_
        refine x_in rfl rfl rfl ?_
        refine x_in rfl rfl rfl ?_
        refine x_in rfl rfl rfl ?_
        refine x_top (show _ = Value.int ((3 : Int32)) from congrArg Value.int (by decide)) ?_
        refine x_in rfl rfl rfl ?_
        refine x_top (show _ = Value.int ((3 : Int32)) from congrArg Value.int (by decide)) ?_
        refine x_in rfl rfl rfl ?_
        refine x_in rfl rfl rfl ?_
        refine x_in rfl rfl rfl ?_
        refine x_in rfl rfl rfl ?_
        refine x_top (show _ = Value.int ((4 : Int32)) from congrArg Value.int (by decide)) ?_
        refine x_in rfl rfl rfl ?_
        refine x_top (show _ = Value.int ((4 : Int32)) from congrArg Value.int (by decide)) ?_
        refine x_in rfl rfl rfl ?_
        refine x_cV rfl rfl rfl rfl ⟨rfl, (Nat.le_of_ble_eq_true rfl), (Nat.le_of_ble_eq_true rfl)⟩ (x_enter (Nat.le_of_ble_eq_true rfl) ?_)
        refine x_in rfl rfl rfl ?_
        refine x_in rfl rfl rfl ?_
        refine x_in rfl rfl rfl ?_
        refine x_cS rfl (by decide) rfl rfl ⟨(Nat.le_of_ble_eq_true rfl), (Nat.le_of_ble_eq_true rfl)⟩ (x_enter (Nat.le_of_ble_eq_true rfl) ?_)
        refine x_in rfl rfl rfl ?_
        refine x_cS rfl (by decide) rfl rfl ⟨(Nat.le_of_ble_eq_true rfl), (Nat.le_of_ble_eq_true rfl)⟩ (x_enter (Nat.le_of_ble_eq_true rfl) ?_)
        refine x_in rfl rfl rfl ?_
        refine x_in rfl rfl rfl ?_
        refine x_top (show _ = Value.int ((0 : Int32)) from congrArg Value.int (by decide)) ?_
        refine x_in rfl rfl rfl ?_
        refine x_top (show _ = Value.int ((15 : Int32)) from congrArg Value.int (by decide)) ?_
        refine x_cS rfl (by decide) rfl rfl ⟨(Nat.le_of_ble_eq_true rfl), (Nat.le_of_ble_eq_true rfl)⟩ (x_enter (Nat.le_of_ble_eq_true rfl) ?_)
        refine x_in rfl rfl rfl ?_
        refine x_in rfl rfl rfl ?_
        refine x_bF rfl rfl (mt (z_1 (0) (by decide)).mp (by omega)) ?_
        refine x_in rfl rfl rfl ?_
        refine x_in rfl rfl rfl ?_
        refine x_bF rfl rfl (mt (z_2 (15) (by decide)).mp (by omega)) ?_
        refine x_in rfl rfl rfl ?_
        refine x_top (show _ = Value.int ((1 : Int32)) from congrArg Value.int (by decide)) ?_
        refine x_in rfl rfl rfl ?_
        refine x_ret rfl rfl ?_
        refine x_ret rfl rfl ?_
        refine x_in rfl rfl rfl ?_
        refine x_in rfl rfl rfl ?_
        refine x_cS rfl (by decide) rfl rfl ⟨(Nat.le_of_ble_eq_true rfl), (Nat.le_of_ble_eq_true rfl)⟩ (x_enter (Nat.le_of_ble_eq_true rfl) ?_)
        refine x_in rfl rfl rfl ?_
        refine x_in rfl rfl rfl ?_
        refine x_top (show _ = Value.int ((0 : Int32)) from congrArg Value.int (by decide)) ?_
        refine x_in rfl rfl rfl ?_
        refine x_top (show _ = Value.int ((3 : Int32)) from congrArg Value.int (by decide)) ?_
        refine x_cS rfl (by decide) rfl rfl ⟨(Nat.le_of_ble_eq_true rfl), (Nat.le_of_ble_eq_true rfl)⟩ (x_enter (Nat.le_of_ble_eq_true rfl) ?_)
        refine x_in rfl rfl rfl ?_
        refine x_in rfl rfl rfl ?_
        refine x_bT rfl rfl ((z_1 (0) (by decide)).mpr (by omega)) ?_
        refine x_in rfl rfl rfl ?_
        refine x_top (show _ = Value.int ((0 : Int32)) from congrArg Value.int (by decide)) ?_
        refine x_ret rfl rfl ?_
        refine x_ret rfl rfl ?_
        refine x_in rfl rfl rfl ?_
        refine x_in rfl rfl rfl ?_
        refine x_top (show _ = Value.int ((0 : Int32)) from congrArg Value.int (by decide)) ?_
        refine x_ret rfl rfl ?_
        refine x_in rfl rfl rfl ?_
        refine x_in rfl rfl rfl ?_
        refine x_top (show _ = Value.int ((-1 : Int32)) from congrArg Value.int (by decide)) ?_
        refine x_ret rfl rfl ?_
        refine x_in rfl rfl rfl ?_
        refine x_iinc (z := (6 : Int32)) rfl rfl (by decide) ?_
        refine x_in rfl rfl rfl ?_
        refine x_in rfl rfl rfl ?_
        refine x_in rfl rfl rfl ?_
        refine x_in rfl rfl rfl ?_
        refine x_top (show _ = Value.int ((6 : Int32)) from rfl) ?_
        refine x_in rfl rfl rfl ?_
        refine x_top (show _ = Value.int ((6 : Int32)) from congrArg Value.int (by decide)) ?_
        refine x_in rfl rfl rfl ?_
        refine x_top (show _ = Value.int ((0 : Int32)) from congrArg Value.int (by decide)) ?_
        refine x_in rfl rfl rfl ?_
        refine x_in rfl rfl rfl ?_
        refine x_top (show _ = Value.int ((1 : Int32)) from congrArg Value.int (by decide)) ?_
        refine x_ret rfl rfl ?_
        exact ⟨rfl, by decide, by decide⟩
      · have ec3 := mt (z_1 (0) (by decide)).mpr c3
        refine x_in rfl rfl rfl ?_
        refine x_in rfl rfl rfl ?_
        refine x_top (show _ = Value.int ((4 : Int32)) from congrArg Value.int (by decide)) ?_
        refine x_br rfl rfl (fun c4 => ?_) (fun c4 => ?_)
        · have ec4 := (z_4 (4) (by decide)).mp c4
          refine x_in rfl rfl rfl ?_
          refine x_top (show _ = Value.int ((-1 : Int32)) from congrArg Value.int (by decide)) ?_
          refine x_ret rfl rfl ?_
          refine x_in rfl rfl rfl ?_
          refine x_in rfl rfl rfl ?_
          refine x_in rfl rfl rfl ?_
          refine x_in rfl rfl rfl ?_
          refine x_ret rfl rfl ?_
          refine x_in rfl rfl rfl ?_
          refine x_in rfl rfl rfl ?_
          refine x_in rfl rfl rfl ?_
          refine x_in rfl rfl rfl ?_
          refine x_top (show _ = Value.int ((1 : Int32)) from congrArg Value.int (by decide)) ?_
          refine x_in rfl rfl rfl ?_
          refine x_top (show _ = Value.int ((1 : Int32)) from congrArg Value.int (by decide)) ?_
          refine x_in rfl rfl rfl ?_
          refine x_in rfl rfl rfl ?_
          refine x_in rfl rfl rfl ?_
          refine x_in rfl rfl rfl ?_
          refine x_top (show _ = Value.int ((2 : Int32)) from congrArg Value.int (by decide)) ?_
          refine x_in rfl rfl rfl ?_
          refine x_top (show _ = Value.int ((2 : Int32)) from congrArg Value.int (by decide)) ?_
          refine x_in rfl rfl rfl ?_
          refine x_in rfl rfl rfl ?_
          refine x_in rfl rfl rfl ?_
          refine x_in rfl rfl rfl ?_
          refine x_top (show _ = Value.int ((3 : Int32)) from congrArg Value.int (by decide)) ?_
          refine x_in rfl rfl rfl ?_
          refine x_top (show _ = Value.int ((3 : Int32)) from congrArg Value.int (by decide)) ?_
          refine x_in rfl rfl rfl ?_
          refine x_in rfl rfl rfl ?_
          refine x_in rfl rfl rfl ?_
          refine x_in rfl rfl rfl ?_
          refine x_top (show _ = Value.int ((4 : Int32)) from congrArg Value.int (by decide)) ?_
          refine x_in rfl rfl rfl ?_
          refine x_top (show _ = Value.int ((4 : Int32)) from congrArg Value.int (by decide)) ?_
          refine x_in rfl rfl rfl ?_
          refine x_cV rfl rfl rfl rfl ⟨rfl, (Nat.le_of_ble_eq_true rfl), (Nat.le_of_ble_eq_true rfl)⟩ (x_enter (Nat.le_of_ble_eq_true rfl) ?_)
          refine x_in rfl rfl rfl ?_
          refine x_in rfl rfl rfl ?_
          refine x_in rfl rfl rfl ?_
          refine x_cS rfl (by decide) rfl rfl ⟨(Nat.le_of_ble_eq_true rfl), (Nat.le_of_ble_eq_true rfl)⟩ (x_enter (Nat.le_of_ble_eq_true rfl) ?_)
          refine x_in rfl rfl rfl ?_
          refine x_cS rfl (by decide) rfl rfl ⟨(Nat.le_of_ble_eq_true rfl), (Nat.le_of_ble_eq_true rfl)⟩ (x_enter (Nat.le_of_ble_eq_true rfl) ?_)
          refine x_in rfl rfl rfl ?_
          refine x_in rfl rfl rfl ?_
          refine x_top (show _ = Value.int ((0 : Int32)) from congrArg Value.int (by decide)) ?_
          refine x_in rfl rfl rfl ?_
          refine x_top (show _ = Value.int ((15 : Int32)) from congrArg Value.int (by decide)) ?_
          refine x_cS rfl (by decide) rfl rfl ⟨(Nat.le_of_ble_eq_true rfl), (Nat.le_of_ble_eq_true rfl)⟩ (x_enter (Nat.le_of_ble_eq_true rfl) ?_)
          refine x_in rfl rfl rfl ?_
          refine x_in rfl rfl rfl ?_
          refine x_bF rfl rfl (mt (z_1 (0) (by decide)).mp (by omega)) ?_
          refine x_in rfl rfl rfl ?_
          refine x_in rfl rfl rfl ?_
          refine x_bF rfl rfl (mt (z_2 (15) (by decide)).mp (by omega)) ?_
          refine x_in rfl rfl rfl ?_
          refine x_top (show _ = Value.int ((1 : Int32)) from congrArg Value.int (by decide)) ?_
          refine x_in rfl rfl rfl ?_
          refine x_ret rfl rfl ?_
          refine x_ret rfl rfl ?_
          refine x_in rfl rfl rfl ?_
          refine x_in rfl rfl rfl ?_
          refine x_cS rfl (by decide) rfl rfl ⟨(Nat.le_of_ble_eq_true rfl), (Nat.le_of_ble_eq_true rfl)⟩ (x_enter (Nat.le_of_ble_eq_true rfl) ?_)
          refine x_in rfl rfl rfl ?_
          refine x_in rfl rfl rfl ?_
          refine x_top (show _ = Value.int ((0 : Int32)) from congrArg Value.int (by decide)) ?_
          refine x_in rfl rfl rfl ?_
          refine x_top (show _ = Value.int ((3 : Int32)) from congrArg Value.int (by decide)) ?_
          refine x_cS rfl (by decide) rfl rfl ⟨(Nat.le_of_ble_eq_true rfl), (Nat.le_of_ble_eq_true rfl)⟩ (x_enter (Nat.le_of_ble_eq_true rfl) ?_)
          refine x_in rfl rfl rfl ?_
          refine x_in rfl rfl rfl ?_
          refine x_bF rfl rfl (mt (z_1 (0) (by decide)).mp (by omega)) ?_
          refine x_in rfl rfl rfl ?_
          refine x_in rfl rfl rfl ?_
          refine x_bT rfl rfl ((z_2 (3) (by decide)).mpr (by omega)) ?_
          refine x_in rfl rfl rfl ?_
          refine x_top (show _ = Value.int ((0 : Int32)) from congrArg Value.int (by decide)) ?_
          refine x_ret rfl rfl ?_
          refine x_ret rfl rfl ?_
          refine x_in rfl rfl rfl ?_
          refine x_in rfl rfl rfl ?_
          refine x_top (show _ = Value.int ((0 : Int32)) from congrArg Value.int (by decide)) ?_
          refine x_ret rfl rfl ?_
          refine x_in rfl rfl rfl ?_
          refine x_in rfl rfl rfl ?_
          refine x_top (show _ = Value.int ((-1 : Int32)) from congrArg Value.int (by decide)) ?_
          refine x_ret rfl rfl ?_
          refine x_in rfl rfl rfl ?_
          refine x_iinc (z := (6 : Int32)) rfl rfl (by decide) ?_
          refine x_in rfl rfl rfl ?_
          refine x_in rfl rfl rfl ?_
          refine x_in rfl rfl rfl ?_
          refine x_in rfl rfl rfl ?_
          refine x_top (show _ = Value.int ((6 : Int32)) from rfl) ?_
          refine x_in rfl rfl rfl ?_
          refine x_top (show _ = Value.int ((6 : Int32)) from congrArg Value.int (by decide)) ?_
          refine x_in rfl rfl rfl ?_
          refine x_top (show _ = Value.int ((0 : Int32)) from congrArg Value.int (by decide)) ?_
          refine x_in rfl rfl rfl ?_
          refine x_in rfl rfl rfl ?_
          refine x_top (show _ = Value.int ((1 : Int32)) from congrArg Value.int (by decide)) ?_
          refine x_ret rfl rfl ?_
          exact ⟨rfl, by decide, by decide⟩
        · have ec4 := mt (z_4 (4) (by decide)).mpr c4
          refine x_in rfl rfl rfl ?_
          refine x_br rfl rfl (fun c5 => ?_) (fun c5 => ?_)
          · have ec5 := (z_1 (0) (by decide)).mp c5
            refine x_in rfl rfl rfl ?_
            refine x_top (show _ = Value.int ((-1 : Int32)) from congrArg Value.int (by decide)) ?_
            refine x_ret rfl rfl ?_
            refine x_in rfl rfl rfl ?_
            refine x_in rfl rfl rfl ?_
            refine x_in rfl rfl rfl ?_
            refine x_in rfl rfl rfl ?_
            refine x_ret rfl rfl ?_
            refine x_in rfl rfl rfl ?_
            refine x_in rfl rfl rfl ?_
            refine x_in rfl rfl rfl ?_
            refine x_in rfl rfl rfl ?_
            refine x_top (show _ = Value.int ((1 : Int32)) from congrArg Value.int (by decide)) ?_
            refine x_in rfl rfl rfl ?_
            refine x_top (show _ = Value.int ((1 : Int32)) from congrArg Value.int (by decide)) ?_
            refine x_in rfl rfl rfl ?_
            refine x_in rfl rfl rfl ?_
            refine x_in rfl rfl rfl ?_
            refine x_in rfl rfl rfl ?_
            refine x_top (show _ = Value.int ((2 : Int32)) from congrArg Value.int (by decide)) ?_
            refine x_in rfl rfl rfl ?_
            refine x_top (show _ = Value.int ((2 : Int32)) from congrArg Value.int (by decide)) ?_
            refine x_in rfl rfl rfl ?_
            refine x_in rfl rfl rfl ?_
            refine x_in rfl rfl rfl ?_
            refine x_in rfl rfl rfl ?_
            refine x_top (show _ = Value.int ((3 : Int32)) from congrArg Value.int (by decide)) ?_
            refine x_in rfl rfl rfl ?_
            refine x_top (show _ = Value.int ((3 : Int32)) from congrArg Value.int (by decide)) ?_
            refine x_in rfl rfl rfl ?_
            refine x_in rfl rfl rfl ?_
            refine x_in rfl rfl rfl ?_
            refine x_in rfl rfl rfl ?_
            refine x_top (show _ = Value.int ((4 : Int32)) from congrArg Value.int (by decide)) ?_
            refine x_in rfl rfl rfl ?_
            refine x_top (show _ = Value.int ((4 : Int32)) from congrArg Value.int (by decide)) ?_
            refine x_in rfl rfl rfl ?_
            refine x_cV rfl rfl rfl rfl ⟨rfl, (Nat.le_of_ble_eq_true rfl), (Nat.le_of_ble_eq_true rfl)⟩ (x_enter (Nat.le_of_ble_eq_true rfl) ?_)
            refine x_in rfl rfl rfl ?_
            refine x_in rfl rfl rfl ?_
            refine x_in rfl rfl rfl ?_
            refine x_cS rfl (by decide) rfl rfl ⟨(Nat.le_of_ble_eq_true rfl), (Nat.le_of_ble_eq_true rfl)⟩ (x_enter (Nat.le_of_ble_eq_true rfl) ?_)
            refine x_in rfl rfl rfl ?_
            refine x_cS rfl (by decide) rfl rfl ⟨(Nat.le_of_ble_eq_true rfl), (Nat.le_of_ble_eq_true rfl)⟩ (x_enter (Nat.le_of_ble_eq_true rfl) ?_)
            refine x_in rfl rfl rfl ?_
            refine x_in rfl rfl rfl ?_
            refine x_top (show _ = Value.int ((0 : Int32)) from congrArg Value.int (by decide)) ?_
            refine x_in rfl rfl rfl ?_
            refine x_top (show _ = Value.int ((15 : Int32)) from congrArg Value.int (by decide)) ?_
            refine x_cS rfl (by decide) rfl rfl ⟨(Nat.le_of_ble_eq_true rfl), (Nat.le_of_ble_eq_true rfl)⟩ (x_enter (Nat.le_of_ble_eq_true rfl) ?_)
            refine x_in rfl rfl rfl ?_
            refine x_in rfl rfl rfl ?_
            refine x_bF rfl rfl (mt (z_1 (0) (by decide)).mp (by omega)) ?_
            refine x_in rfl rfl rfl ?_
            refine x_in rfl rfl rfl ?_
            refine x_bF rfl rfl (mt (z_2 (15) (by decide)).mp (by omega)) ?_
            refine x_in rfl rfl rfl ?_
            refine x_top (show _ = Value.int ((1 : Int32)) from congrArg Value.int (by decide)) ?_
            refine x_in rfl rfl rfl ?_
            refine x_ret rfl rfl ?_
            refine x_ret rfl rfl ?_
            refine x_in rfl rfl rfl ?_
            refine x_in rfl rfl rfl ?_
            refine x_cS rfl (by decide) rfl rfl ⟨(Nat.le_of_ble_eq_true rfl), (Nat.le_of_ble_eq_true rfl)⟩ (x_enter (Nat.le_of_ble_eq_true rfl) ?_)
            refine x_in rfl rfl rfl ?_
            refine x_in rfl rfl rfl ?_
            refine x_top (show _ = Value.int ((0 : Int32)) from congrArg Value.int (by decide)) ?_
            refine x_in rfl rfl rfl ?_
            refine x_top (show _ = Value.int ((3 : Int32)) from congrArg Value.int (by decide)) ?_
            refine x_cS rfl (by decide) rfl rfl ⟨(Nat.le_of_ble_eq_true rfl), (Nat.le_of_ble_eq_true rfl)⟩ (x_enter (Nat.le_of_ble_eq_true rfl) ?_)
            refine x_in rfl rfl rfl ?_
            refine x_in rfl rfl rfl ?_
            refine x_bF rfl rfl (mt (z_1 (0) (by decide)).mp (by omega)) ?_
            refine x_in rfl rfl rfl ?_
            refine x_in rfl rfl rfl ?_
            refine x_bF rfl rfl (mt (z_2 (3) (by decide)).mp (by omega)) ?_
            refine x_in rfl rfl rfl ?_
            refine x_top (show _ = Value.int ((1 : Int32)) from congrArg Value.int (by decide)) ?_
            refine x_in rfl rfl rfl ?_
            refine x_ret rfl rfl ?_
            refine x_ret rfl rfl ?_
            refine x_in rfl rfl rfl ?_
            refine x_in rfl rfl rfl ?_
            refine x_cS rfl (by decide) rfl rfl ⟨(Nat.le_of_ble_eq_true rfl), (Nat.le_of_ble_eq_true rfl)⟩ (x_enter (Nat.le_of_ble_eq_true rfl) ?_)
            refine x_in rfl rfl rfl ?_
            refine x_in rfl rfl rfl ?_
            refine x_top (show _ = Value.int ((0 : Int32)) from congrArg Value.int (by decide)) ?_
            refine x_in rfl rfl rfl ?_
            refine x_top (show _ = Value.int ((3 : Int32)) from congrArg Value.int (by decide)) ?_
            refine x_cS rfl (by decide) rfl rfl ⟨(Nat.le_of_ble_eq_true rfl), (Nat.le_of_ble_eq_true rfl)⟩ (x_enter (Nat.le_of_ble_eq_true rfl) ?_)
            refine x_in rfl rfl rfl ?_
            refine x_in rfl rfl rfl ?_
            refine x_bT rfl rfl ((z_1 (0) (by decide)).mpr (by omega)) ?_
            refine x_in rfl rfl rfl ?_
            refine x_top (show _ = Value.int ((0 : Int32)) from congrArg Value.int (by decide)) ?_
            refine x_ret rfl rfl ?_
            refine x_ret rfl rfl ?_
            refine x_in rfl rfl rfl ?_
            refine x_in rfl rfl rfl ?_
            refine x_top (show _ = Value.int ((0 : Int32)) from congrArg Value.int (by decide)) ?_
            refine x_ret rfl rfl ?_
            refine x_in rfl rfl rfl ?_
            refine x_in rfl rfl rfl ?_
            refine x_top (show _ = Value.int ((-1 : Int32)) from congrArg Value.int (by decide)) ?_
            refine x_ret rfl rfl ?_
            refine x_in rfl rfl rfl ?_
            refine x_iinc (z := (6 : Int32)) rfl rfl (by decide) ?_
            refine x_in rfl rfl rfl ?_
            refine x_in rfl rfl rfl ?_
            refine x_in rfl rfl rfl ?_
            refine x_in rfl rfl rfl ?_
            refine x_top (show _ = Value.int ((6 : Int32)) from rfl) ?_
            refine x_in rfl rfl rfl ?_
            refine x_top (show _ = Value.int ((6 : Int32)) from congrArg Value.int (by decide)) ?_
            refine x_in rfl rfl rfl ?_
            refine x_top (show _ = Value.int ((0 : Int32)) from congrArg Value.int (by decide)) ?_
            refine x_in rfl rfl rfl ?_
            refine x_in rfl rfl rfl ?_
            refine x_top (show _ = Value.int ((1 : Int32)) from congrArg Value.int (by decide)) ?_
            refine x_ret rfl rfl ?_
            exact ⟨rfl, by decide, by decide⟩
          · have ec5 := mt (z_1 (0) (by decide)).mpr c5
            refine x_in rfl rfl rfl ?_
            refine x_in rfl rfl rfl ?_
            refine x_top (show _ = Value.int ((4 : Int32)) from congrArg Value.int (by decide)) ?_
            refine x_br rfl rfl (fun c6 => ?_) (fun c6 => ?_)
            · have ec6 := (z_1 (4) (by decide)).mp c6
              refine x_in rfl rfl rfl ?_
              refine x_cS rfl (by decide) rfl rfl ⟨(Nat.le_of_ble_eq_true rfl), (Nat.le_of_ble_eq_true rfl)⟩ (x_enter (Nat.le_of_ble_eq_true rfl) ?_)
              refine x_in rfl rfl rfl ?_
              refine x_br rfl rfl (fun c7 => ?_) (fun c7 => ?_)
              · have ec7 := (z_1 (0) (by decide)).mp c7
                refine x_in rfl rfl rfl ?_
                refine x_top (show _ = Value.int ((0 : Int32)) from congrArg Value.int (by decide)) ?_
                refine x_ret rfl rfl ?_
                refine x_in rfl rfl rfl ?_
                refine x_in rfl rfl rfl ?_
                refine x_top (show _ = Value.int ((-2 : Int32)) from congrArg Value.int (by decide)) ?_
                refine x_ret rfl rfl ?_
                refine x_in rfl rfl rfl ?_
                refine x_in rfl rfl rfl ?_
                refine x_in rfl rfl rfl ?_
                refine x_in rfl rfl rfl ?_
                refine x_ret rfl rfl ?_
                refine x_in rfl rfl rfl ?_
                refine x_in rfl rfl rfl ?_
                refine x_in rfl rfl rfl ?_
                refine x_in rfl rfl rfl ?_
                refine x_top (show _ = Value.int ((1 : Int32)) from congrArg Value.int (by decide)) ?_
                refine x_in rfl rfl rfl ?_
                refine x_top (show _ = Value.int ((1 : Int32)) from congrArg Value.int (by decide)) ?_
                refine x_in rfl rfl rfl ?_
                refine x_in rfl rfl rfl ?_
                refine x_in rfl rfl rfl ?_
                refine x_in rfl rfl rfl ?_
                refine x_top (show _ = Value.int ((2 : Int32)) from congrArg Value.int (by decide)) ?_
                refine x_in rfl rfl rfl ?_
                refine x_top (show _ = Value.int ((2 : Int32)) from congrArg Value.int (by decide)) ?_
                refine x_in rfl rfl rfl ?_
                refine x_in rfl rfl rfl ?_
                refine x_in rfl rfl rfl ?_
                refine x_in rfl rfl rfl ?_
                refine x_top (show _ = Value.int ((3 : Int32)) from congrArg Value.int (by decide)) ?_
                refine x_in rfl rfl rfl ?_
                refine x_top (show _ = Value.int ((3 : Int32)) from congrArg Value.int (by decide)) ?_
                refine x_in rfl rfl rfl ?_
                refine x_in rfl rfl rfl ?_
                refine x_in rfl rfl rfl ?_
                refine x_in rfl rfl rfl ?_
                refine x_top (show _ = Value.int ((4 : Int32)) from congrArg Value.int (by decide)) ?_
                refine x_in rfl rfl rfl ?_
                refine x_top (show _ = Value.int ((4 : Int32)) from congrArg Value.int (by decide)) ?_
                refine x_in rfl rfl rfl ?_
                refine x_cV rfl rfl rfl rfl ⟨rfl, (Nat.le_of_ble_eq_true rfl), (Nat.le_of_ble_eq_true rfl)⟩ (x_enter (Nat.le_of_ble_eq_true rfl) ?_)
                refine x_in rfl rfl rfl ?_
                refine x_in rfl rfl rfl ?_
                refine x_in rfl rfl rfl ?_
                refine x_cS rfl (by decide) rfl rfl ⟨(Nat.le_of_ble_eq_true rfl), (Nat.le_of_ble_eq_true rfl)⟩ (x_enter (Nat.le_of_ble_eq_true rfl) ?_)
                refine x_in rfl rfl rfl ?_
                refine x_cS rfl (by decide) rfl rfl ⟨(Nat.le_of_ble_eq_true rfl), (Nat.le_of_ble_eq_true rfl)⟩ (x_enter (Nat.le_of_ble_eq_true rfl) ?_)
                refine x_in rfl rfl rfl ?_
                refine x_in rfl rfl rfl ?_
                refine x_top (show _ = Value.int ((0 : Int32)) from congrArg Value.int (by decide)) ?_
                refine x_in rfl rfl rfl ?_
                refine x_top (show _ = Value.int ((15 : Int32)) from congrArg Value.int (by decide)) ?_
                refine x_cS rfl (by decide) rfl rfl ⟨(Nat.le_of_ble_eq_true rfl), (Nat.le_of_ble_eq_true rfl)⟩ (x_enter (Nat.le_of_ble_eq_true rfl) ?_)
                refine x_in rfl rfl rfl ?_
                refine x_in rfl rfl rfl ?_
                refine x_bF rfl rfl (mt (z_1 (0) (by decide)).mp (by omega)) ?_
                refine x_in rfl rfl rfl ?_
                refine x_in rfl rfl rfl ?_
                refine x_bF rfl rfl (mt (z_2 (15) (by decide)).mp (by omega)) ?_
                refine x_in rfl rfl rfl ?_
                refine x_top (show _ = Value.int ((1 : Int32)) from congrArg Value.int (by decide)) ?_
                refine x_in rfl rfl rfl ?_
                refine x_ret rfl rfl ?_
                refine x_ret rfl rfl ?_
                refine x_in rfl rfl rfl ?_
                refine x_in rfl rfl rfl ?_
                refine x_cS rfl (by decide) rfl rfl ⟨(Nat.le_of_ble_eq_true rfl), (Nat.le_of_ble_eq_true rfl)⟩ (x_enter (Nat.le_of_ble_eq_true rfl) ?_)
                refine x_in rfl rfl rfl ?_
                refine x_in rfl rfl rfl ?_
                refine x_top (show _ = Value.int ((0 : Int32)) from congrArg Value.int (by decide)) ?_
                refine x_in rfl rfl rfl ?_
                refine x_top (show _ = Value.int ((3 : Int32)) from congrArg Value.int (by decide)) ?_
                refine x_cS rfl (by decide) rfl rfl ⟨(Nat.le_of_ble_eq_true rfl), (Nat.le_of_ble_eq_true rfl)⟩ (x_enter (Nat.le_of_ble_eq_true rfl) ?_)
                refine x_in rfl rfl rfl ?_
                refine x_in rfl rfl rfl ?_
                refine x_bF rfl rfl (mt (z_1 (0) (by decide)).mp (by omega)) ?_
                refine x_in rfl rfl rfl ?_
                refine x_in rfl rfl rfl ?_
                refine x_bF rfl rfl (mt (z_2 (3) (by decide)).mp (by omega)) ?_
                refine x_in rfl rfl rfl ?_
                refine x_top (show _ = Value.int ((1 : Int32)) from congrArg Value.int (by decide)) ?_
                refine x_in rfl rfl rfl ?_
                refine x_ret rfl rfl ?_
                refine x_ret rfl rfl ?_
                refine x_in rfl rfl rfl ?_
                refine x_in rfl rfl rfl ?_
                refine x_cS rfl (by decide) rfl rfl ⟨(Nat.le_of_ble_eq_true rfl), (Nat.le_of_ble_eq_true rfl)⟩ (x_enter (Nat.le_of_ble_eq_true rfl) ?_)
                refine x_in rfl rfl rfl ?_
                refine x_in rfl rfl rfl ?_
                refine x_top (show _ = Value.int ((0 : Int32)) from congrArg Value.int (by decide)) ?_
                refine x_in rfl rfl rfl ?_
                refine x_top (show _ = Value.int ((3 : Int32)) from congrArg Value.int (by decide)) ?_
                refine x_cS rfl (by decide) rfl rfl ⟨(Nat.le_of_ble_eq_true rfl), (Nat.le_of_ble_eq_true rfl)⟩ (x_enter (Nat.le_of_ble_eq_true rfl) ?_)
                refine x_in rfl rfl rfl ?_
                refine x_in rfl rfl rfl ?_
                refine x_bF rfl rfl (mt (z_1 (0) (by decide)).mp (by omega)) ?_
                refine x_in rfl rfl rfl ?_
                refine x_in rfl rfl rfl ?_
                refine x_bF rfl rfl (mt (z_2 (3) (by decide)).mp (by omega)) ?_
                refine x_in rfl rfl rfl ?_
                refine x_top (show _ = Value.int ((1 : Int32)) from congrArg Value.int (by decide)) ?_
                refine x_in rfl rfl rfl ?_
                refine x_ret rfl rfl ?_
                refine x_ret rfl rfl ?_
                refine x_in rfl rfl rfl ?_
                refine x_in rfl rfl rfl ?_
                refine x_top (show _ = Value.int ((1 : Int32)) from congrArg Value.int (by decide)) ?_
                refine x_in rfl rfl rfl ?_
                refine x_ret rfl rfl ?_
                refine x_in rfl rfl rfl ?_
                refine x_in rfl rfl rfl ?_
                refine x_in rfl rfl rfl ?_
                refine x_top (show _ = Value.int ((0 : Int32)) from congrArg Value.int (by decide)) ?_
                refine x_in rfl rfl rfl ?_
                refine x_top (show _ = Value.int ((99 : Int32)) from congrArg Value.int (by decide)) ?_
                refine x_cS rfl (by decide) rfl rfl ⟨(Nat.le_of_ble_eq_true rfl), (Nat.le_of_ble_eq_true rfl)⟩ (x_enter (Nat.le_of_ble_eq_true rfl) ?_)
                refine x_in rfl rfl rfl ?_
                refine x_in rfl rfl rfl ?_
                refine x_bT rfl rfl ((z_1 (0) (by decide)).mpr (by omega)) ?_
                refine x_in rfl rfl rfl ?_
                refine x_top (show _ = Value.int ((0 : Int32)) from congrArg Value.int (by decide)) ?_
                refine x_ret rfl rfl ?_
                refine x_in rfl rfl rfl ?_
                refine x_in rfl rfl rfl ?_
                refine x_top (show _ = Value.int ((-2 : Int32)) from congrArg Value.int (by decide)) ?_
                refine x_ret rfl rfl ?_
                refine x_in rfl rfl rfl ?_
                refine x_iinc (z := (6 : Int32)) rfl rfl (by decide) ?_
                refine x_in rfl rfl rfl ?_
                refine x_in rfl rfl rfl ?_
                refine x_in rfl rfl rfl ?_
                refine x_in rfl rfl rfl ?_
                refine x_top (show _ = Value.int ((6 : Int32)) from rfl) ?_
                refine x_in rfl rfl rfl ?_
                refine x_top (show _ = Value.int ((6 : Int32)) from congrArg Value.int (by decide)) ?_
                refine x_in rfl rfl rfl ?_
                refine x_top (show _ = Value.int ((0 : Int32)) from congrArg Value.int (by decide)) ?_
                refine x_in rfl rfl rfl ?_
                refine x_in rfl rfl rfl ?_
                refine x_top (show _ = Value.int ((1 : Int32)) from congrArg Value.int (by decide)) ?_
                refine x_ret rfl rfl ?_
                exact ⟨rfl, by decide, by decide⟩
              · have ec7 := mt (z_1 (0) (by decide)).mpr c7
                refine x_in rfl rfl rfl ?_
                refine x_in rfl rfl rfl ?_
                refine x_top (show _ = Value.int ((99 : Int32)) from congrArg Value.int (by decide)) ?_
                refine x_br rfl rfl (fun c8 => ?_) (fun c8 => ?_)
                · have ec8 := (z_2 (99) (by decide)).mp c8
                  refine x_in rfl rfl rfl ?_
                  refine x_top (show _ = Value.int ((0 : Int32)) from congrArg Value.int (by decide)) ?_
                  refine x_ret rfl rfl ?_
                  refine x_in rfl rfl rfl ?_
                  refine x_in rfl rfl rfl ?_
                  refine x_top (show _ = Value.int ((-2 : Int32)) from congrArg Value.int (by decide)) ?_
                  refine x_ret rfl rfl ?_
                  refine x_in rfl rfl rfl ?_
                  refine x_in rfl rfl rfl ?_
                  refine x_in rfl rfl rfl ?_
                  refine x_in rfl rfl rfl ?_
                  refine x_ret rfl rfl ?_
                  refine x_in rfl rfl rfl ?_
                  refine x_in rfl rfl rfl ?_
                  refine x_in rfl rfl rfl ?_
                  refine x_in rfl rfl rfl ?_
                  refine x_top (show _ = Value.int ((1 : Int32)) from congrArg Value.int (by decide)) ?_
                  refine x_in rfl rfl rfl ?_
                  refine x_top (show _ = Value.int ((1 : Int32)) from congrArg Value.int (by decide)) ?_
                  refine x_in rfl rfl rfl ?_
                  refine x_in rfl rfl rfl ?_
                  refine x_in rfl rfl rfl ?_
                  refine x_in rfl rfl rfl ?_
                  refine x_top (show _ = Value.int ((2 : Int32)) from congrArg Value.int (by decide)) ?_
                  refine x_in rfl rfl rfl ?_
                  refine x_top (show _ = Value.int ((2 : Int32)) from congrArg Value.int (by decide)) ?_
                  refine x_in rfl rfl rfl ?_
                  refine x_in rfl rfl rfl ?_
                  refine x_in rfl rfl rfl ?_
                  refine x_in rfl rfl rfl ?_
                  refine x_top (show _ = Value.int ((3 : Int32)) from congrArg Value.int (by decide)) ?_
                  refine x_in rfl rfl rfl ?_
                  refine x_top (show _ = Value.int ((3 : Int32)) from congrArg Value.int (by decide)) ?_
                  refine x_in rfl rfl rfl ?_
                  refine x_in rfl rfl rfl ?_
                  refine x_in rfl rfl rfl ?_
                  refine x_in rfl rfl rfl ?_
                  refine x_top (show _ = Value.int ((4 : Int32)) from congrArg Value.int (by decide)) ?_
                  refine x_in rfl rfl rfl ?_
                  refine x_top (show _ = Value.int ((4 : Int32)) from congrArg Value.int (by decide)) ?_
                  refine x_in rfl rfl rfl ?_
                  refine x_cV rfl rfl rfl rfl ⟨rfl, (Nat.le_of_ble_eq_true rfl), (Nat.le_of_ble_eq_true rfl)⟩ (x_enter (Nat.le_of_ble_eq_true rfl) ?_)
                  refine x_in rfl rfl rfl ?_
                  refine x_in rfl rfl rfl ?_
                  refine x_in rfl rfl rfl ?_
                  refine x_cS rfl (by decide) rfl rfl ⟨(Nat.le_of_ble_eq_true rfl), (Nat.le_of_ble_eq_true rfl)⟩ (x_enter (Nat.le_of_ble_eq_true rfl) ?_)
                  refine x_in rfl rfl rfl ?_
                  refine x_cS rfl (by decide) rfl rfl ⟨(Nat.le_of_ble_eq_true rfl), (Nat.le_of_ble_eq_true rfl)⟩ (x_enter (Nat.le_of_ble_eq_true rfl) ?_)
                  refine x_in rfl rfl rfl ?_
                  refine x_in rfl rfl rfl ?_
                  refine x_top (show _ = Value.int ((0 : Int32)) from congrArg Value.int (by decide)) ?_
                  refine x_in rfl rfl rfl ?_
                  refine x_top (show _ = Value.int ((15 : Int32)) from congrArg Value.int (by decide)) ?_
                  refine x_cS rfl (by decide) rfl rfl ⟨(Nat.le_of_ble_eq_true rfl), (Nat.le_of_ble_eq_true rfl)⟩ (x_enter (Nat.le_of_ble_eq_true rfl) ?_)
                  refine x_in rfl rfl rfl ?_
                  refine x_in rfl rfl rfl ?_
                  refine x_bF rfl rfl (mt (z_1 (0) (by decide)).mp (by omega)) ?_
                  refine x_in rfl rfl rfl ?_
                  refine x_in rfl rfl rfl ?_
                  refine x_bF rfl rfl (mt (z_2 (15) (by decide)).mp (by omega)) ?_
                  refine x_in rfl rfl rfl ?_
                  refine x_top (show _ = Value.int ((1 : Int32)) from congrArg Value.int (by decide)) ?_
                  refine x_in rfl rfl rfl ?_
                  refine x_ret rfl rfl ?_
                  refine x_ret rfl rfl ?_
                  refine x_in rfl rfl rfl ?_
                  refine x_in rfl rfl rfl ?_
                  refine x_cS rfl (by decide) rfl rfl ⟨(Nat.le_of_ble_eq_true rfl), (Nat.le_of_ble_eq_true rfl)⟩ (x_enter (Nat.le_of_ble_eq_true rfl) ?_)
                  refine x_in rfl rfl rfl ?_
                  refine x_in rfl rfl rfl ?_
                  refine x_top (show _ = Value.int ((0 : Int32)) from congrArg Value.int (by decide)) ?_
                  refine x_in rfl rfl rfl ?_
                  refine x_top (show _ = Value.int ((3 : Int32)) from congrArg Value.int (by decide)) ?_
                  refine x_cS rfl (by decide) rfl rfl ⟨(Nat.le_of_ble_eq_true rfl), (Nat.le_of_ble_eq_true rfl)⟩ (x_enter (Nat.le_of_ble_eq_true rfl) ?_)
                  refine x_in rfl rfl rfl ?_
                  refine x_in rfl rfl rfl ?_
                  refine x_bF rfl rfl (mt (z_1 (0) (by decide)).mp (by omega)) ?_
                  refine x_in rfl rfl rfl ?_
                  refine x_in rfl rfl rfl ?_
                  refine x_bF rfl rfl (mt (z_2 (3) (by decide)).mp (by omega)) ?_
                  refine x_in rfl rfl rfl ?_
                  refine x_top (show _ = Value.int ((1 : Int32)) from congrArg Value.int (by decide)) ?_
                  refine x_in rfl rfl rfl ?_
                  refine x_ret rfl rfl ?_
                  refine x_ret rfl rfl ?_
                  refine x_in rfl rfl rfl ?_
                  refine x_in rfl rfl rfl ?_
                  refine x_cS rfl (by decide) rfl rfl ⟨(Nat.le_of_ble_eq_true rfl), (Nat.le_of_ble_eq_true rfl)⟩ (x_enter (Nat.le_of_ble_eq_true rfl) ?_)
                  refine x_in rfl rfl rfl ?_
                  refine x_in rfl rfl rfl ?_
                  refine x_top (show _ = Value.int ((0 : Int32)) from congrArg Value.int (by decide)) ?_
                  refine x_in rfl rfl rfl ?_
                  refine x_top (show _ = Value.int ((3 : Int32)) from congrArg Value.int (by decide)) ?_
                  refine x_cS rfl (by decide) rfl rfl ⟨(Nat.le_of_ble_eq_true rfl), (Nat.le_of_ble_eq_true rfl)⟩ (x_enter (Nat.le_of_ble_eq_true rfl) ?_)
                  refine x_in rfl rfl rfl ?_
                  refine x_in rfl rfl rfl ?_
                  refine x_bF rfl rfl (mt (z_1 (0) (by decide)).mp (by omega)) ?_
                  refine x_in rfl rfl rfl ?_
                  refine x_in rfl rfl rfl ?_
                  refine x_bF rfl rfl (mt (z_2 (3) (by decide)).mp (by omega)) ?_
                  refine x_in rfl rfl rfl ?_
                  refine x_top (show _ = Value.int ((1 : Int32)) from congrArg Value.int (by decide)) ?_
                  refine x_in rfl rfl rfl ?_
                  refine x_ret rfl rfl ?_
                  refine x_ret rfl rfl ?_
                  refine x_in rfl rfl rfl ?_
                  refine x_in rfl rfl rfl ?_
                  refine x_top (show _ = Value.int ((1 : Int32)) from congrArg Value.int (by decide)) ?_
                  refine x_in rfl rfl rfl ?_
                  refine x_ret rfl rfl ?_
                  refine x_in rfl rfl rfl ?_
                  refine x_in rfl rfl rfl ?_
                  refine x_in rfl rfl rfl ?_
                  refine x_top (show _ = Value.int ((0 : Int32)) from congrArg Value.int (by decide)) ?_
                  refine x_in rfl rfl rfl ?_
                  refine x_top (show _ = Value.int ((99 : Int32)) from congrArg Value.int (by decide)) ?_
                  refine x_cS rfl (by decide) rfl rfl ⟨(Nat.le_of_ble_eq_true rfl), (Nat.le_of_ble_eq_true rfl)⟩ (x_enter (Nat.le_of_ble_eq_true rfl) ?_)
                  refine x_in rfl rfl rfl ?_
                  refine x_in rfl rfl rfl ?_
                  refine x_bF rfl rfl (mt (z_1 (0) (by decide)).mp (by omega)) ?_
                  refine x_in rfl rfl rfl ?_
                  refine x_in rfl rfl rfl ?_
                  refine x_bT rfl rfl ((z_2 (99) (by decide)).mpr (by omega)) ?_
                  refine x_in rfl rfl rfl ?_
                  refine x_top (show _ = Value.int ((0 : Int32)) from congrArg Value.int (by decide)) ?_
                  refine x_ret rfl rfl ?_
                  refine x_in rfl rfl rfl ?_
                  refine x_in rfl rfl rfl ?_
                  refine x_top (show _ = Value.int ((-2 : Int32)) from congrArg Value.int (by decide)) ?_
                  refine x_ret rfl rfl ?_
                  refine x_in rfl rfl rfl ?_
                  refine x_iinc (z := (6 : Int32)) rfl rfl (by decide) ?_
                  refine x_in rfl rfl rfl ?_
                  refine x_in rfl rfl rfl ?_
                  refine x_in rfl rfl rfl ?_
                  refine x_in rfl rfl rfl ?_
                  refine x_top (show _ = Value.int ((6 : Int32)) from rfl) ?_
                  refine x_in rfl rfl rfl ?_
                  refine x_top (show _ = Value.int ((6 : Int32)) from congrArg Value.int (by decide)) ?_
                  refine x_in rfl rfl rfl ?_
                  refine x_top (show _ = Value.int ((0 : Int32)) from congrArg Value.int (by decide)) ?_
                  refine x_in rfl rfl rfl ?_
                  refine x_in rfl rfl rfl ?_
                  refine x_top (show _ = Value.int ((1 : Int32)) from congrArg Value.int (by decide)) ?_
                  refine x_ret rfl rfl ?_
                  exact ⟨rfl, by decide, by decide⟩
                · have ec8 := mt (z_2 (99) (by decide)).mpr c8
                  refine x_in rfl rfl rfl ?_
                  refine x_top (show _ = Value.int ((1 : Int32)) from congrArg Value.int (by decide)) ?_
                  refine x_in rfl rfl rfl ?_
                  refine x_ret rfl rfl ?_
                  refine x_in rfl rfl rfl ?_
                  refine x_in rfl rfl rfl ?_
                  refine x_top (show _ = Value.int ((0 : Int32)) from congrArg Value.int (by decide)) ?_
                  refine x_in rfl rfl rfl ?_
                  refine x_ret rfl rfl ?_
                  refine x_in rfl rfl rfl ?_
                  refine x_in rfl rfl rfl ?_
                  refine x_in rfl rfl rfl ?_
                  refine x_in rfl rfl rfl ?_
                  refine x_in rfl rfl rfl ?_
                  refine x_in rfl rfl rfl ?_
                  refine x_in rfl rfl rfl ?_
                  refine x_in rfl rfl rfl ?_
                  refine x_top (show _ = Value.int ((-3 : Int32)) from congrArg Value.int (by decide)) ?_
                  refine x_ret rfl rfl ?_
                  refine x_in rfl rfl rfl ?_
                  refine x_in rfl rfl rfl ?_
                  refine x_in rfl rfl rfl ?_
                  refine x_in rfl rfl rfl ?_
                  refine x_top (show _ = Value.int ((1 : Int32)) from congrArg Value.int (by decide)) ?_
                  refine x_in rfl rfl rfl ?_
                  refine x_top (show _ = Value.int ((1 : Int32)) from congrArg Value.int (by decide)) ?_
                  refine x_in rfl rfl rfl ?_
                  refine x_in rfl rfl rfl ?_
                  refine x_in rfl rfl rfl ?_
                  refine x_in rfl rfl rfl ?_
                  refine x_top (show _ = Value.int ((2 : Int32)) from congrArg Value.int (by decide)) ?_
                  refine x_in rfl rfl rfl ?_
                  refine x_top (show _ = Value.int ((2 : Int32)) from congrArg Value.int (by decide)) ?_
                  refine x_in rfl rfl rfl ?_
                  refine x_in rfl rfl rfl ?_
                  refine x_in rfl rfl rfl ?_
                  refine x_in rfl rfl rfl ?_
                  refine x_top (show _ = Value.int ((3 : Int32)) from congrArg Value.int (by decide)) ?_
                  refine x_in rfl rfl rfl ?_
                  refine x_top (show _ = Value.int ((3 : Int32)) from congrArg Value.int (by decide)) ?_
                  refine x_in rfl rfl rfl ?_
                  refine x_in rfl rfl rfl ?_
                  refine x_in rfl rfl rfl ?_
                  refine x_in rfl rfl rfl ?_
                  refine x_top (show _ = Value.int ((4 : Int32)) from congrArg Value.int (by decide)) ?_
                  refine x_in rfl rfl rfl ?_
                  refine x_top (show _ = Value.int ((4 : Int32)) from congrArg Value.int (by decide)) ?_
                  refine x_in rfl rfl rfl ?_
                  refine x_cV rfl rfl rfl rfl ⟨rfl, (Nat.le_of_ble_eq_true rfl), (Nat.le_of_ble_eq_true rfl)⟩ (x_enter (Nat.le_of_ble_eq_true rfl) ?_)
                  refine x_in rfl rfl rfl ?_
                  refine x_in rfl rfl rfl ?_
                  refine x_in rfl rfl rfl ?_
                  refine x_cS rfl (by decide) rfl rfl ⟨(Nat.le_of_ble_eq_true rfl), (Nat.le_of_ble_eq_true rfl)⟩ (x_enter (Nat.le_of_ble_eq_true rfl) ?_)
                  refine x_in rfl rfl rfl ?_
                  refine x_cS rfl (by decide) rfl rfl ⟨(Nat.le_of_ble_eq_true rfl), (Nat.le_of_ble_eq_true rfl)⟩ (x_enter (Nat.le_of_ble_eq_true rfl) ?_)
                  refine x_in rfl rfl rfl ?_
                  refine x_in rfl rfl rfl ?_
                  refine x_top (show _ = Value.int ((0 : Int32)) from congrArg Value.int (by decide)) ?_
                  refine x_in rfl rfl rfl ?_
                  refine x_top (show _ = Value.int ((15 : Int32)) from congrArg Value.int (by decide)) ?_
                  refine x_cS rfl (by decide) rfl rfl ⟨(Nat.le_of_ble_eq_true rfl), (Nat.le_of_ble_eq_true rfl)⟩ (x_enter (Nat.le_of_ble_eq_true rfl) ?_)
                  refine x_in rfl rfl rfl ?_
                  refine x_in rfl rfl rfl ?_
                  refine x_bF rfl rfl (mt (z_1 (0) (by decide)).mp (by omega)) ?_
                  refine x_in rfl rfl rfl ?_
                  refine x_in rfl rfl rfl ?_
                  refine x_bF rfl rfl (mt (z_2 (15) (by decide)).mp (by omega)) ?_
                  refine x_in rfl rfl rfl ?_
                  refine x_top (show _ = Value.int ((1 : Int32)) from congrArg Value.int (by decide)) ?_
                  refine x_in rfl rfl rfl ?_
                  refine x_ret rfl rfl ?_
                  refine x_ret rfl rfl ?_
                  refine x_in rfl rfl rfl ?_
                  refine x_in rfl rfl rfl ?_
                  refine x_cS rfl (by decide) rfl rfl ⟨(Nat.le_of_ble_eq_true rfl), (Nat.le_of_ble_eq_true rfl)⟩ (x_enter (Nat.le_of_ble_eq_true rfl) ?_)
                  refine x_in rfl rfl rfl ?_
                  refine x_in rfl rfl rfl ?_
                  refine x_top (show _ = Value.int ((0 : Int32)) from congrArg Value.int (by decide)) ?_
                  refine x_in rfl rfl rfl ?_
                  refine x_top (show _ = Value.int ((3 : Int32)) from congrArg Value.int (by decide)) ?_
                  refine x_cS rfl (by decide) rfl rfl ⟨(Nat.le_of_ble_eq_true rfl), (Nat.le_of_ble_eq_true rfl)⟩ (x_enter (Nat.le_of_ble_eq_true rfl) ?_)
                  refine x_in rfl rfl rfl ?_
                  refine x_in rfl rfl rfl ?_
                  refine x_bF rfl rfl (mt (z_1 (0) (by decide)).mp (by omega)) ?_
                  refine x_in rfl rfl rfl ?_
                  refine x_in rfl rfl rfl ?_
                  refine x_bF rfl rfl (mt (z_2 (3) (by decide)).mp (by omega)) ?_
                  refine x_in rfl rfl rfl ?_
                  refine x_top (show _ = Value.int ((1 : Int32)) from congrArg Value.int (by decide)) ?_
                  refine x_in rfl rfl rfl ?_
                  refine x_ret rfl rfl ?_
                  refine x_ret rfl rfl ?_
                  refine x_in rfl rfl rfl ?_
                  refine x_in rfl rfl rfl ?_
                  refine x_cS rfl (by decide) rfl rfl ⟨(Nat.le_of_ble_eq_true rfl), (Nat.le_of_ble_eq_true rfl)⟩ (x_enter (Nat.le_of_ble_eq_true rfl) ?_)
                  refine x_in rfl rfl rfl ?_
                  refine x_in rfl rfl rfl ?_
                  refine x_top (show _ = Value.int ((0 : Int32)) from congrArg Value.int (by decide)) ?_
                  refine x_in rfl rfl rfl ?_
                  refine x_top (show _ = Value.int ((3 : Int32)) from congrArg Value.int (by decide)) ?_
                  refine x_cS rfl (by decide) rfl rfl ⟨(Nat.le_of_ble_eq_true rfl), (Nat.le_of_ble_eq_true rfl)⟩ (x_enter (Nat.le_of_ble_eq_true rfl) ?_)
                  refine x_in rfl rfl rfl ?_
                  refine x_in rfl rfl rfl ?_
                  refine x_bF rfl rfl (mt (z_1 (0) (by decide)).mp (by omega)) ?_
                  refine x_in rfl rfl rfl ?_
                  refine x_in rfl rfl rfl ?_
                  refine x_bF rfl rfl (mt (z_2 (3) (by decide)).mp (by omega)) ?_
                  refine x_in rfl rfl rfl ?_
                  refine x_top (show _ = Value.int ((1 : Int32)) from congrArg Value.int (by decide)) ?_
                  refine x_in rfl rfl rfl ?_
                  refine x_ret rfl rfl ?_
                  refine x_ret rfl rfl ?_
                  refine x_in rfl rfl rfl ?_
                  refine x_in rfl rfl rfl ?_
                  refine x_top (show _ = Value.int ((1 : Int32)) from congrArg Value.int (by decide)) ?_
                  refine x_in rfl rfl rfl ?_
                  refine x_ret rfl rfl ?_
                  refine x_in rfl rfl rfl ?_
                  refine x_in rfl rfl rfl ?_
                  refine x_in rfl rfl rfl ?_
                  refine x_top (show _ = Value.int ((0 : Int32)) from congrArg Value.int (by decide)) ?_
                  refine x_in rfl rfl rfl ?_
                  refine x_top (show _ = Value.int ((99 : Int32)) from congrArg Value.int (by decide)) ?_
                  refine x_cS rfl (by decide) rfl rfl ⟨(Nat.le_of_ble_eq_true rfl), (Nat.le_of_ble_eq_true rfl)⟩ (x_enter (Nat.le_of_ble_eq_true rfl) ?_)
                  refine x_in rfl rfl rfl ?_
                  refine x_in rfl rfl rfl ?_
                  refine x_bF rfl rfl (mt (z_1 (0) (by decide)).mp (by omega)) ?_
                  refine x_in rfl rfl rfl ?_
                  refine x_in rfl rfl rfl ?_
                  refine x_bF rfl rfl (mt (z_2 (99) (by decide)).mp (by omega)) ?_
                  refine x_in rfl rfl rfl ?_
                  refine x_top (show _ = Value.int ((1 : Int32)) from congrArg Value.int (by decide)) ?_
                  refine x_in rfl rfl rfl ?_
                  refine x_ret rfl rfl ?_
                  refine x_in rfl rfl rfl ?_
                  refine x_in rfl rfl rfl ?_
                  refine x_in rfl rfl rfl ?_
                  refine x_in rfl rfl rfl ?_
                  refine x_top (show _ = Value.int ((2 : Int32)) from congrArg Value.int (by decide)) ?_
                  refine x_in rfl rfl rfl ?_
                  refine x_in rfl rfl rfl ?_
                  refine x_in rfl rfl rfl ?_
                  refine x_top (show _ = Value.int ((-3 : Int32)) from congrArg Value.int (by decide)) ?_
                  refine x_ret rfl rfl ?_
                  refine x_in rfl rfl rfl ?_
                  refine x_iinc (z := (6 : Int32)) rfl rfl (by decide) ?_
                  refine x_in rfl rfl rfl ?_
                  refine x_in rfl rfl rfl ?_
                  refine x_in rfl rfl rfl ?_
                  refine x_in rfl rfl rfl ?_
                  refine x_top (show _ = Value.int ((6 : Int32)) from rfl) ?_
                  refine x_in rfl rfl rfl ?_
                  refine x_top (show _ = Value.int ((6 : Int32)) from congrArg Value.int (by decide)) ?_
                  refine x_in rfl rfl rfl ?_
                  refine x_top (show _ = Value.int ((0 : Int32)) from congrArg Value.int (by decide)) ?_
                  refine x_in rfl rfl rfl ?_
                  refine x_in rfl rfl rfl ?_
                  refine x_top (show _ = Value.int ((1 : Int32)) from congrArg Value.int (by decide)) ?_
                  refine x_ret rfl rfl ?_
                  exact ⟨rfl, by decide, by decide⟩
            · have ec6 := mt (z_1 (4) (by decide)).mpr c6
              refine x_in rfl rfl rfl ?_
              refine x_top (show _ = Value.int ((-1 : Int32)) from congrArg Value.int (by decide)) ?_
              refine x_ret rfl rfl ?_
              refine x_in rfl rfl rfl ?_
              refine x_in rfl rfl rfl ?_
              refine x_in rfl rfl rfl ?_
              refine x_in rfl rfl rfl ?_
              refine x_ret rfl rfl ?_
              refine x_in rfl rfl rfl ?_
              refine x_in rfl rfl rfl ?_
              refine x_in rfl rfl rfl ?_
              refine x_in rfl rfl rfl ?_
              refine x_top (show _ = Value.int ((1 : Int32)) from congrArg Value.int (by decide)) ?_
              refine x_in rfl rfl rfl ?_
              refine x_top (show _ = Value.int ((1 : Int32)) from congrArg Value.int (by decide)) ?_
              refine x_in rfl rfl rfl ?_
              refine x_in rfl rfl rfl ?_
              refine x_in rfl rfl rfl ?_
              refine x_in rfl rfl rfl ?_
              refine x_top (show _ = Value.int ((2 : Int32)) from congrArg Value.int (by decide)) ?_
              refine x_in rfl rfl rfl ?_
              refine x_top (show _ = Value.int ((2 : Int32)) from congrArg Value.int (by decide)) ?_
              refine x_in rfl rfl rfl ?_
              refine x_in rfl rfl rfl ?_
              refine x_in rfl rfl rfl ?_
              refine x_in rfl rfl rfl ?_
              refine x_top (show _ = Value.int ((3 : Int32)) from congrArg Value.int (by decide)) ?_
              refine x_in rfl rfl rfl ?_
              refine x_top (show _ = Value.int ((3 : Int32)) from congrArg Value.int (by decide)) ?_
              refine x_in rfl rfl rfl ?_
              refine x_in rfl rfl rfl ?_
              refine x_in rfl rfl rfl ?_
              refine x_in rfl rfl rfl ?_
              refine x_top (show _ = Value.int ((4 : Int32)) from congrArg Value.int (by decide)) ?_
              refine x_in rfl rfl rfl ?_
              refine x_top (show _ = Value.int ((4 : Int32)) from congrArg Value.int (by decide)) ?_
              refine x_in rfl rfl rfl ?_
              refine x_cV rfl rfl rfl rfl ⟨rfl, (Nat.le_of_ble_eq_true rfl), (Nat.le_of_ble_eq_true rfl)⟩ (x_enter (Nat.le_of_ble_eq_true rfl) ?_)
              refine x_in rfl rfl rfl ?_
              refine x_in rfl rfl rfl ?_
              refine x_in rfl rfl rfl ?_
              refine x_cS rfl (by decide) rfl rfl ⟨(Nat.le_of_ble_eq_true rfl), (Nat.le_of_ble_eq_true rfl)⟩ (x_enter (Nat.le_of_ble_eq_true rfl) ?_)
              refine x_in rfl rfl rfl ?_
              refine x_cS rfl (by decide) rfl rfl ⟨(Nat.le_of_ble_eq_true rfl), (Nat.le_of_ble_eq_true rfl)⟩ (x_enter (Nat.le_of_ble_eq_true rfl) ?_)
              refine x_in rfl rfl rfl ?_
              refine x_in rfl rfl rfl ?_
              refine x_top (show _ = Value.int ((0 : Int32)) from congrArg Value.int (by decide)) ?_
              refine x_in rfl rfl rfl ?_
              refine x_top (show _ = Value.int ((15 : Int32)) from congrArg Value.int (by decide)) ?_
              refine x_cS rfl (by decide) rfl rfl ⟨(Nat.le_of_ble_eq_true rfl), (Nat.le_of_ble_eq_true rfl)⟩ (x_enter (Nat.le_of_ble_eq_true rfl) ?_)
              refine x_in rfl rfl rfl ?_
              refine x_in rfl rfl rfl ?_
              refine x_bF rfl rfl (mt (z_1 (0) (by decide)).mp (by omega)) ?_
              refine x_in rfl rfl rfl ?_
              refine x_in rfl rfl rfl ?_
              refine x_bF rfl rfl (mt (z_2 (15) (by decide)).mp (by omega)) ?_
              refine x_in rfl rfl rfl ?_
              refine x_top (show _ = Value.int ((1 : Int32)) from congrArg Value.int (by decide)) ?_
              refine x_in rfl rfl rfl ?_
              refine x_ret rfl rfl ?_
              refine x_ret rfl rfl ?_
              refine x_in rfl rfl rfl ?_
              refine x_in rfl rfl rfl ?_
              refine x_cS rfl (by decide) rfl rfl ⟨(Nat.le_of_ble_eq_true rfl), (Nat.le_of_ble_eq_true rfl)⟩ (x_enter (Nat.le_of_ble_eq_true rfl) ?_)
              refine x_in rfl rfl rfl ?_
              refine x_in rfl rfl rfl ?_
              refine x_top (show _ = Value.int ((0 : Int32)) from congrArg Value.int (by decide)) ?_
              refine x_in rfl rfl rfl ?_
              refine x_top (show _ = Value.int ((3 : Int32)) from congrArg Value.int (by decide)) ?_
              refine x_cS rfl (by decide) rfl rfl ⟨(Nat.le_of_ble_eq_true rfl), (Nat.le_of_ble_eq_true rfl)⟩ (x_enter (Nat.le_of_ble_eq_true rfl) ?_)
              refine x_in rfl rfl rfl ?_
              refine x_in rfl rfl rfl ?_
              refine x_bF rfl rfl (mt (z_1 (0) (by decide)).mp (by omega)) ?_
              refine x_in rfl rfl rfl ?_
              refine x_in rfl rfl rfl ?_
              refine x_bF rfl rfl (mt (z_2 (3) (by decide)).mp (by omega)) ?_
              refine x_in rfl rfl rfl ?_
              refine x_top (show _ = Value.int ((1 : Int32)) from congrArg Value.int (by decide)) ?_
              refine x_in rfl rfl rfl ?_
              refine x_ret rfl rfl ?_
              refine x_ret rfl rfl ?_
              refine x_in rfl rfl rfl ?_
              refine x_in rfl rfl rfl ?_
              refine x_cS rfl (by decide) rfl rfl ⟨(Nat.le_of_ble_eq_true rfl), (Nat.le_of_ble_eq_true rfl)⟩ (x_enter (Nat.le_of_ble_eq_true rfl) ?_)
              refine x_in rfl rfl rfl ?_
              refine x_in rfl rfl rfl ?_
              refine x_top (show _ = Value.int ((0 : Int32)) from congrArg Value.int (by decide)) ?_
              refine x_in rfl rfl rfl ?_
              refine x_top (show _ = Value.int ((3 : Int32)) from congrArg Value.int (by decide)) ?_
              refine x_cS rfl (by decide) rfl rfl ⟨(Nat.le_of_ble_eq_true rfl), (Nat.le_of_ble_eq_true rfl)⟩ (x_enter (Nat.le_of_ble_eq_true rfl) ?_)
              refine x_in rfl rfl rfl ?_
              refine x_in rfl rfl rfl ?_
              refine x_bF rfl rfl (mt (z_1 (0) (by decide)).mp (by omega)) ?_
              refine x_in rfl rfl rfl ?_
              refine x_in rfl rfl rfl ?_
              refine x_bT rfl rfl ((z_2 (3) (by decide)).mpr (by omega)) ?_
              refine x_in rfl rfl rfl ?_
              refine x_top (show _ = Value.int ((0 : Int32)) from congrArg Value.int (by decide)) ?_
              refine x_ret rfl rfl ?_
              refine x_ret rfl rfl ?_
              refine x_in rfl rfl rfl ?_
              refine x_in rfl rfl rfl ?_
              refine x_top (show _ = Value.int ((0 : Int32)) from congrArg Value.int (by decide)) ?_
              refine x_ret rfl rfl ?_
              refine x_in rfl rfl rfl ?_
              refine x_in rfl rfl rfl ?_
              refine x_top (show _ = Value.int ((-1 : Int32)) from congrArg Value.int (by decide)) ?_
              refine x_ret rfl rfl ?_
              refine x_in rfl rfl rfl ?_
              refine x_iinc (z := (6 : Int32)) rfl rfl (by decide) ?_
              refine x_in rfl rfl rfl ?_
              refine x_in rfl rfl rfl ?_
              refine x_in rfl rfl rfl ?_
              refine x_in rfl rfl rfl ?_
              refine x_top (show _ = Value.int ((6 : Int32)) from rfl) ?_
              refine x_in rfl rfl rfl ?_
              refine x_top (show _ = Value.int ((6 : Int32)) from congrArg Value.int (by decide)) ?_
              refine x_in rfl rfl rfl ?_
              refine x_top (show _ = Value.int ((0 : Int32)) from congrArg Value.int (by decide)) ?_
              refine x_in rfl rfl rfl ?_
              refine x_in rfl rfl rfl ?_
              refine x_top (show _ = Value.int ((1 : Int32)) from congrArg Value.int (by decide)) ?_
              refine x_ret rfl rfl ?_
              exact ⟨rfl, by decide, by decide⟩
set_option maxRecDepth 100000 in
set_option maxHeartbeats 4000000 in
theorem c_13 (n : Nat) (c a1 a2 a3 a4 a5 : Int32) : x_E (m_X [c, a1, a2, a3, a4, a5]) 60 181 193 11164 (n + 300) 665 [(3, .int 0), (2, .ref 170), (1, .ref 0), (0, .ref 1000000)] [] m_h0 lK := by
  refine x_in rfl rfl rfl ?_
  refine x_cV rfl rfl rfl rfl ⟨rfl, (Nat.le_of_ble_eq_true rfl), (Nat.le_of_ble_eq_true rfl)⟩ (x_enter (Nat.le_of_ble_eq_true rfl) ?_)
  refine x_in rfl rfl rfl ?_
  refine x_in rfl rfl rfl ?_
  refine x_in rfl rfl rfl ?_
  refine x_in rfl rfl rfl ?_
  refine x_in rfl rfl rfl ?_
  refine x_in rfl rfl rfl ?_
  refine x_in rfl rfl rfl ?_
  refine x_in rfl rfl rfl ?_
  refine x_in rfl rfl rfl ?_
  refine x_in rfl rfl rfl ?_
  refine x_in rfl rfl rfl ?_
  refine x_in rfl rfl rfl ?_
  refine x_in rfl rfl rfl ?_
  refine x_in rfl rfl rfl ?_
  refine x_in rfl rfl rfl ?_
  refine x_top (show _ = Value.int ((0 : Int32)) from congrArg Value.int (by decide)) ?_
  refine x_in rfl rfl rfl ?_
  refine x_in rfl rfl rfl ?_
  refine x_in rfl rfl rfl ?_
  refine x_in rfl rfl rfl ?_
  refine x_top (show _ = Value.int ((0 : Int32)) from congrArg Value.int (by decide)) ?_
  refine x_in rfl rfl rfl ?_
  refine x_hs0 ?_
  refine x_in rfl rfl rfl ?_
  refine x_top (show _ = Value.int ((0 : Int32)) from congrArg Value.int (by decide)) ?_
  refine x_in rfl rfl rfl ?_
  refine x_in rfl rfl rfl ?_
  refine x_in rfl rfl rfl ?_
  refine x_in rfl rfl rfl ?_
  refine x_in rfl rfl rfl ?_
  refine x_ret rfl rfl ?_
  refine x_in rfl rfl rfl ?_
  refine x_cV rfl rfl rfl rfl ⟨rfl, (Nat.le_of_ble_eq_true rfl), (Nat.le_of_ble_eq_true rfl)⟩ (x_enter (Nat.le_of_ble_eq_true rfl) ?_)
  refine x_in rfl rfl rfl ?_
  refine x_in rfl rfl rfl ?_
  refine x_in rfl rfl rfl ?_
  refine x_top (show _ = Value.int ((3 : Int32)) from congrArg Value.int (by decide)) ?_
  refine x_in rfl rfl rfl ?_
  refine x_in rfl rfl rfl ?_
  refine x_in rfl rfl rfl ?_
  refine x_in rfl rfl rfl ?_
  refine x_in rfl rfl rfl ?_
  refine x_top (show _ = Value.int ((2 : Int32)) from congrArg Value.int (by decide)) ?_
  refine x_in rfl rfl rfl ?_
  refine x_in rfl rfl rfl ?_
  refine x_in rfl rfl rfl ?_
  refine x_in rfl rfl rfl ?_
  refine x_in rfl rfl rfl ?_
  refine x_in rfl rfl rfl ?_
  refine x_in rfl rfl rfl ?_
  refine x_top (show _ = Value.int ((4 : Int32)) from congrArg Value.int (by decide)) ?_
  refine x_in rfl rfl rfl ?_
  refine x_top (show _ = Value.int ((0 : Int32)) from congrArg Value.int (by decide)) ?_
  refine x_in rfl rfl rfl ?_
  refine x_in rfl rfl rfl ?_
  refine x_in rfl rfl rfl ?_
  refine x_in rfl rfl rfl ?_
  refine x_top (show _ = Value.int ((3 : Int32)) from congrArg Value.int (by decide)) ?_
  refine x_in rfl rfl rfl ?_
  refine x_top (show _ = Value.int ((0 : Int32)) from congrArg Value.int (by decide)) ?_
  refine x_in rfl rfl rfl ?_
  refine x_hs0 ?_
  refine x_in rfl rfl rfl ?_
  refine x_top (show _ = Value.int ((0 : Int32)) from congrArg Value.int (by decide)) ?_
  refine x_in rfl rfl rfl ?_
  refine x_in rfl rfl rfl ?_
  refine x_in rfl rfl rfl ?_
  refine x_in rfl rfl rfl ?_
  refine x_in rfl rfl rfl ?_
  refine x_ret rfl rfl ?_
  refine x_in rfl rfl rfl ?_
  refine x_iinc (z := (6 : Int32)) rfl rfl (by decide) ?_
  refine x_in rfl rfl rfl ?_
  refine x_in rfl rfl rfl ?_
  refine x_in rfl rfl rfl ?_
  refine x_in rfl rfl rfl ?_
  refine x_top (show _ = Value.int ((6 : Int32)) from rfl) ?_
  refine x_in rfl rfl rfl ?_
  refine x_top (show _ = Value.int ((6 : Int32)) from congrArg Value.int (by decide)) ?_
  refine x_in rfl rfl rfl ?_
  refine x_top (show _ = Value.int ((0 : Int32)) from congrArg Value.int (by decide)) ?_
  refine x_in rfl rfl rfl ?_
  refine x_in rfl rfl rfl ?_
  refine x_top (show _ = Value.int ((1 : Int32)) from congrArg Value.int (by decide)) ?_
  refine x_ret rfl rfl ?_
  exact ⟨rfl, by decide, by decide⟩
set_option maxRecDepth 100000 in
set_option maxHeartbeats 4000000 in
theorem c_14 (n : Nat) (c a1 a2 a3 a4 a5 : Int32) : x_E (m_X [c, a1, a2, a3, a4, a5]) 60 181 193 11164 (n + 300) 678 [(3, .int 0), (2, .ref 170), (1, .ref 0), (0, .ref 1000000)] [] m_h0 lK := by
  refine x_in rfl rfl rfl ?_
  refine x_in rfl rfl rfl ?_
  refine x_in rfl rfl rfl ?_
  refine x_in rfl rfl rfl ?_
  refine x_top (show _ = Value.int ((1 : Int32)) from congrArg Value.int (by decide)) ?_
  refine x_in rfl rfl rfl ?_
  refine x_top (show _ = Value.int ((1 : Int32)) from congrArg Value.int (by decide)) ?_
  refine x_in rfl rfl rfl ?_
  refine x_in rfl rfl rfl ?_
  refine x_in rfl rfl rfl ?_
  refine x_in rfl rfl rfl ?_
  refine x_top (show _ = Value.int ((2 : Int32)) from congrArg Value.int (by decide)) ?_
  refine x_in rfl rfl rfl ?_
  refine x_top (show _ = Value.int ((2 : Int32)) from congrArg Value.int (by decide)) ?_
  refine x_in rfl rfl rfl ?_
  refine x_in rfl rfl rfl ?_
  refine x_in rfl rfl rfl ?_
  refine x_in rfl rfl rfl ?_
  refine x_top (show _ = Value.int ((3 : Int32)) from congrArg Value.int (by decide)) ?_
  refine x_in rfl rfl rfl ?_
  refine x_top (show _ = Value.int ((3 : Int32)) from congrArg Value.int (by decide)) ?_
  refine x_in rfl rfl rfl ?_
  refine x_cV rfl rfl rfl rfl ⟨rfl, (Nat.le_of_ble_eq_true rfl), (Nat.le_of_ble_eq_true rfl)⟩ (x_enter (Nat.le_of_ble_eq_true rfl) ?_)
  refine x_in rfl rfl rfl ?_
  refine x_in rfl rfl rfl ?_
  refine x_in rfl rfl rfl ?_
  refine x_cV rfl rfl rfl rfl ⟨rfl, (Nat.le_of_ble_eq_true rfl), (Nat.le_of_ble_eq_true rfl)⟩ (x_enter (Nat.le_of_ble_eq_true rfl) ?_)
  refine x_in rfl rfl rfl ?_
  refine x_br rfl rfl (fun c1 => ?_) (fun c1 => ?_)
  · have ec1 := (z_1 (0) (by decide)).mp c1
    refine x_in rfl rfl rfl ?_
    refine x_ret rfl rfl ?_
    refine x_in rfl rfl rfl ?_
    refine x_in rfl rfl rfl ?_
    refine x_in rfl rfl rfl ?_
    refine x_in rfl rfl rfl ?_
    refine x_cV rfl rfl rfl rfl ⟨rfl, (Nat.le_of_ble_eq_true rfl), (Nat.le_of_ble_eq_true rfl)⟩ (x_enter (Nat.le_of_ble_eq_true rfl) ?_)
    refine x_in rfl rfl rfl ?_
    refine x_br rfl rfl (fun c2 => ?_) (fun c2 => ?_)
    · have ec2 := (z_1 (0) (by decide)).mp c2
      refine x_in rfl rfl rfl ?_
      refine x_ret rfl rfl ?_
      refine x_in rfl rfl rfl ?_
      refine x_in rfl rfl rfl ?_
      refine x_in rfl rfl rfl ?_
      refine x_in rfl rfl rfl ?_
      refine x_cV rfl rfl rfl rfl ⟨rfl, (Nat.le_of_ble_eq_true rfl), (Nat.le_of_ble_eq_true rfl)⟩ (x_enter (Nat.le_of_ble_eq_true rfl) ?_)
      refine x_in rfl rfl rfl ?_
      refine x_br rfl rfl (fun c3 => ?_) (fun c3 => ?_)
      · have ec3 := (z_1 (0) (by decide)).mp c3
        refine x_in rfl rfl rfl ?_
        refine x_ret rfl rfl ?_
        refine x_in rfl rfl rfl ?_
        refine x_in rfl rfl rfl ?_
        refine x_in rfl rfl rfl ?_
        refine x_in rfl rfl rfl ?_
        refine x_top (show _ = Value.int ((-1 : Int32)) from congrArg Value.int (by decide)) ?_
        refine x_ret rfl rfl ?_
        refine x_in rfl rfl rfl ?_
        refine x_in rfl rfl rfl ?_
        refine x_in rfl rfl rfl ?_
        refine x_in rfl rfl rfl ?_
        refine x_top (show _ = Value.int ((1 : Int32)) from congrArg Value.int (by decide)) ?_
        refine x_in rfl rfl rfl ?_
        refine x_top (show _ = Value.int ((1 : Int32)) from congrArg Value.int (by decide)) ?_
        refine x_in rfl rfl rfl ?_
        refine x_in rfl rfl rfl ?_
        refine x_in rfl rfl rfl ?_
        refine x_in rfl rfl rfl ?_
        refine x_top (show _ = Value.int ((2 : Int32)) from congrArg Value.int (by decide)) ?_
        refine x_in rfl rfl rfl ?_
        refine x_top (show _ = Value.int ((2 : Int32)) from congrArg Value.int (by decide)) ?_
        refine x_in rfl rfl rfl ?_
        refine x_in rfl rfl rfl ?_
        refine x_in rfl rfl rfl ?_
        refine x_in rfl rfl rfl ?_
        refine x_top (show _ = Value.int ((3 : Int32)) from congrArg Value.int (by decide)) ?_
        refine x_in rfl rfl rfl ?_
        refine x_top (show _ = Value.int ((3 : Int32)) from congrArg Value.int (by decide)) ?_
        refine x_in rfl rfl rfl ?_
        refine x_cV rfl rfl rfl rfl ⟨rfl, (Nat.le_of_ble_eq_true rfl), (Nat.le_of_ble_eq_true rfl)⟩ (x_enter (Nat.le_of_ble_eq_true rfl) ?_)
        refine x_in rfl rfl rfl ?_
        refine x_in rfl rfl rfl ?_
        refine x_cV rfl rfl rfl rfl ⟨rfl, (Nat.le_of_ble_eq_true rfl), (Nat.le_of_ble_eq_true rfl)⟩ (x_enter (Nat.le_of_ble_eq_true rfl) ?_)
        refine x_in rfl rfl rfl ?_
        refine x_in rfl rfl rfl ?_
        refine x_top (show _ = Value.int ((0 : Int32)) from congrArg Value.int (by decide)) ?_
        refine x_in rfl rfl rfl ?_
        refine x_in rfl rfl rfl ?_
        refine x_in rfl rfl rfl ?_
        refine x_top (show _ = Value.int ((1 : Int32)) from congrArg Value.int (by decide)) ?_
        refine x_in rfl rfl rfl ?_
        refine x_in rfl rfl rfl ?_
        refine x_top (show _ = Value.int ((1 : Int32)) from congrArg Value.int (by decide)) ?_
        refine x_in rfl rfl rfl ?_
        refine x_top (show _ = Value.int ((-1 : Int32)) from congrArg Value.int (by decide)) ?_
        refine x_cS rfl (by decide) rfl rfl ⟨(Nat.le_of_ble_eq_true rfl), (Nat.le_of_ble_eq_true rfl)⟩ (x_enter (Nat.le_of_ble_eq_true rfl) ?_)
        refine x_in rfl rfl rfl ?_
        refine x_in rfl rfl rfl ?_
        refine x_bT rfl rfl ((z_1 (0) (by decide)).mpr (by omega)) ?_
        refine x_in rfl rfl rfl ?_
        refine x_top (show _ = Value.int ((0 : Int32)) from congrArg Value.int (by decide)) ?_
        refine x_ret rfl rfl ?_
        refine x_ret rfl rfl ?_
        refine x_in rfl rfl rfl ?_
        refine x_in rfl rfl rfl ?_
        refine x_top (show _ = Value.int ((-1 : Int32)) from congrArg Value.int (by decide)) ?_
        refine x_ret rfl rfl ?_
        refine x_in rfl rfl rfl ?_
        refine x_iinc (z := (6 : Int32)) rfl rfl (by decide) ?_
        refine x_in rfl rfl rfl ?_
        refine x_in rfl rfl rfl ?_
        refine x_in rfl rfl rfl ?_
        refine x_in rfl rfl rfl ?_
        refine x_top (show _ = Value.int ((6 : Int32)) from rfl) ?_
        refine x_in rfl rfl rfl ?_
        refine x_top (show _ = Value.int ((6 : Int32)) from congrArg Value.int (by decide)) ?_
        refine x_in rfl rfl rfl ?_
        refine x_top (show _ = Value.int ((0 : Int32)) from congrArg Value.int (by decide)) ?_
        refine x_in rfl rfl rfl ?_
        refine x_in rfl rfl rfl ?_
        refine x_top (show _ = Value.int ((1 : Int32)) from congrArg Value.int (by decide)) ?_
        refine x_ret rfl rfl ?_
        exact ⟨rfl, by decide, by decide⟩
      · have ec3 := mt (z_1 (0) (by decide)).mpr c3
        refine x_in rfl rfl rfl ?_
        refine x_in rfl rfl rfl ?_
        refine x_in rfl rfl rfl ?_
        refine x_bT rfl rfl ((z_4 (0) (by decide)).mpr (by omega)) ?_
        refine x_in rfl rfl rfl ?_
        refine x_ret rfl rfl ?_
        refine x_in rfl rfl rfl ?_
        refine x_in rfl rfl rfl ?_
        refine x_in rfl rfl rfl ?_
        refine x_in rfl rfl rfl ?_
        refine x_top (show _ = Value.int ((-1 : Int32)) from congrArg Value.int (by decide)) ?_
        refine x_ret rfl rfl ?_
        refine x_in rfl rfl rfl ?_
        refine x_in rfl rfl rfl ?_
        refine x_in rfl rfl rfl ?_
        refine x_in rfl rfl rfl ?_
        refine x_top (show _ = Value.int ((1 : Int32)) from congrArg Value.int (by decide)) ?_
        refine x_in rfl rfl rfl ?_
        refine x_top (show _ = Value.int ((1 : Int32)) from congrArg Value.int (by decide)) ?_
        refine x_in rfl rfl rfl ?_
        refine x_in rfl rfl rfl ?_
        refine x_in rfl rfl rfl ?_
        refine x_in rfl rfl rfl ?_
        refine x_top (show _ = Value.int ((2 : Int32)) from congrArg Value.int (by decide)) ?_
        refine x_in rfl rfl rfl ?_
        refine x_top (show _ = Value.int ((2 : Int32)) from congrArg Value.int (by decide)) ?_
        refine x_in rfl rfl rfl ?_
        refine x_in rfl rfl rfl ?_
        refine x_in rfl rfl rfl ?_
        refine x_in rfl rfl rfl ?_
        refine x_top (show _ = Value.int ((3 : Int32)) from congrArg Value.int (by decide)) ?_
        refine x_in rfl rfl rfl ?_
        refine x_top (show _ = Value.int ((3 : Int32)) from congrArg Value.int (by decide)) ?_
        refine x_in rfl rfl rfl ?_
        refine x_cV rfl rfl rfl rfl ⟨rfl, (Nat.le_of_ble_eq_true rfl), (Nat.le_of_ble_eq_true rfl)⟩ (x_enter (Nat.le_of_ble_eq_true rfl) ?_)
        refine x_in rfl rfl rfl ?_
        refine x_in rfl rfl rfl ?_
        refine x_cV rfl rfl rfl rfl ⟨rfl, (Nat.le_of_ble_eq_true rfl), (Nat.le_of_ble_eq_true rfl)⟩ (x_enter (Nat.le_of_ble_eq_true rfl) ?_)
        refine x_in rfl rfl rfl ?_
        refine x_in rfl rfl rfl ?_
        refine x_top (show _ = Value.int ((0 : Int32)) from congrArg Value.int (by decide)) ?_
        refine x_in rfl rfl rfl ?_
        refine x_in rfl rfl rfl ?_
        refine x_in rfl rfl rfl ?_
        refine x_top (show _ = Value.int ((1 : Int32)) from congrArg Value.int (by decide)) ?_
        refine x_in rfl rfl rfl ?_
        refine x_in rfl rfl rfl ?_
        refine x_top (show _ = Value.int ((1 : Int32)) from congrArg Value.int (by decide)) ?_
        refine x_in rfl rfl rfl ?_
        refine x_top (show _ = Value.int ((-1 : Int32)) from congrArg Value.int (by decide)) ?_
        refine x_cS rfl (by decide) rfl rfl ⟨(Nat.le_of_ble_eq_true rfl), (Nat.le_of_ble_eq_true rfl)⟩ (x_enter (Nat.le_of_ble_eq_true rfl) ?_)
        refine x_in rfl rfl rfl ?_
        refine x_in rfl rfl rfl ?_
        refine x_bT rfl rfl ((z_1 (0) (by decide)).mpr (by omega)) ?_
        refine x_in rfl rfl rfl ?_
        refine x_top (show _ = Value.int ((0 : Int32)) from congrArg Value.int (by decide)) ?_
        refine x_ret rfl rfl ?_
        refine x_ret rfl rfl ?_
        refine x_in rfl rfl rfl ?_
        refine x_in rfl rfl rfl ?_
        refine x_top (show _ = Value.int ((-1 : Int32)) from congrArg Value.int (by decide)) ?_
        refine x_ret rfl rfl ?_
        refine x_in rfl rfl rfl ?_
        refine x_iinc (z := (6 : Int32)) rfl rfl (by decide) ?_
        refine x_in rfl rfl rfl ?_
        refine x_in rfl rfl rfl ?_
        refine x_in rfl rfl rfl ?_
        refine x_in rfl rfl rfl ?_
        refine x_top (show _ = Value.int ((6 : Int32)) from rfl) ?_
        refine x_in rfl rfl rfl ?_
        refine x_top (show _ = Value.int ((6 : Int32)) from congrArg Value.int (by decide)) ?_
        refine x_in rfl rfl rfl ?_
        refine x_top (show _ = Value.int ((0 : Int32)) from congrArg Value.int (by decide)) ?_
        refine x_in rfl rfl rfl ?_
        refine x_in rfl rfl rfl ?_
        refine x_top (show _ = Value.int ((1 : Int32)) from congrArg Value.int (by decide)) ?_
        refine x_ret rfl rfl ?_
        exact ⟨rfl, by decide, by decide⟩
    · have ec2 := mt (z_1 (0) (by decide)).mpr c2
      refine x_in rfl rfl rfl ?_
      refine x_in rfl rfl rfl ?_
      refine x_in rfl rfl rfl ?_
      refine x_bT rfl rfl ((z_4 (0) (by decide)).mpr (by omega)) ?_
      refine x_in rfl rfl rfl ?_
      refine x_ret rfl rfl ?_
      refine x_in rfl rfl rfl ?_
      refine x_in rfl rfl rfl ?_
      refine x_in rfl rfl rfl ?_
      refine x_in rfl rfl rfl ?_
      refine x_cV rfl rfl rfl rfl ⟨rfl, (Nat.le_of_ble_eq_true rfl), (Nat.le_of_ble_eq_true rfl)⟩ (x_enter (Nat.le_of_ble_eq_true rfl) ?_)
      refine x_in rfl rfl rfl ?_
      refine x_br rfl rfl (fun c4 => ?_) (fun c4 => ?_)
      · have ec4 := (z_1 (0) (by decide)).mp c4
        refine x_in rfl rfl rfl ?_
        refine x_ret rfl rfl ?_
        refine x_in rfl rfl rfl ?_
        refine x_in rfl rfl rfl ?_
        refine x_in rfl rfl rfl ?_
        refine x_in rfl rfl rfl ?_
        refine x_top (show _ = Value.int ((-1 : Int32)) from congrArg Value.int (by decide)) ?_
        refine x_ret rfl rfl ?_
        refine x_in rfl rfl rfl ?_
        refine x_in rfl rfl rfl ?_
        refine x_in rfl rfl rfl ?_
        refine x_in rfl rfl rfl ?_
        refine x_top (show _ = Value.int ((1 : Int32)) from congrArg Value.int (by decide)) ?_
        refine x_in rfl rfl rfl ?_
        refine x_top (show _ = Value.int ((1 : Int32)) from congrArg Value.int (by decide)) ?_
        refine x_in rfl rfl rfl ?_
        refine x_in rfl rfl rfl ?_
        refine x_in rfl rfl rfl ?_
        refine x_in rfl rfl rfl ?_
        refine x_top (show _ = Value.int ((2 : Int32)) from congrArg Value.int (by decide)) ?_
        refine x_in rfl rfl rfl ?_
        refine x_top (show _ = Value.int ((2 : Int32)) from congrArg Value.int (by decide)) ?_
        refine x_in rfl rfl rfl ?_
        refine x_in rfl rfl rfl ?_
        refine x_in rfl rfl rfl ?_
        refine x_in rfl rfl rfl ?_
        refine x_top (show _ = Value.int ((3 : Int32)) from congrArg Value.int (by decide)) ?_
        refine x_in rfl rfl rfl ?_
        refine x_top (show _ = Value.int ((3 : Int32)) from congrArg Value.int (by decide)) ?_
        refine x_in rfl rfl rfl ?_
        refine x_cV rfl rfl rfl rfl ⟨rfl, (Nat.le_of_ble_eq_true rfl), (Nat.le_of_ble_eq_true rfl)⟩ (x_enter (Nat.le_of_ble_eq_true rfl) ?_)
        refine x_in rfl rfl rfl ?_
        refine x_in rfl rfl rfl ?_
        refine x_cV rfl rfl rfl rfl ⟨rfl, (Nat.le_of_ble_eq_true rfl), (Nat.le_of_ble_eq_true rfl)⟩ (x_enter (Nat.le_of_ble_eq_true rfl) ?_)
        refine x_in rfl rfl rfl ?_
        refine x_in rfl rfl rfl ?_
        refine x_top (show _ = Value.int ((0 : Int32)) from congrArg Value.int (by decide)) ?_
        refine x_in rfl rfl rfl ?_
        refine x_in rfl rfl rfl ?_
        refine x_in rfl rfl rfl ?_
        refine x_top (show _ = Value.int ((1 : Int32)) from congrArg Value.int (by decide)) ?_
        refine x_in rfl rfl rfl ?_
        refine x_in rfl rfl rfl ?_
        refine x_top (show _ = Value.int ((1 : Int32)) from congrArg Value.int (by decide)) ?_
        refine x_in rfl rfl rfl ?_
        refine x_top (show _ = Value.int ((-1 : Int32)) from congrArg Value.int (by decide)) ?_
        refine x_cS rfl (by decide) rfl rfl ⟨(Nat.le_of_ble_eq_true rfl), (Nat.le_of_ble_eq_true rfl)⟩ (x_enter (Nat.le_of_ble_eq_true rfl) ?_)
        refine x_in rfl rfl rfl ?_
        refine x_in rfl rfl rfl ?_
        refine x_bT rfl rfl ((z_1 (0) (by decide)).mpr (by omega)) ?_
        refine x_in rfl rfl rfl ?_
        refine x_top (show _ = Value.int ((0 : Int32)) from congrArg Value.int (by decide)) ?_
        refine x_ret rfl rfl ?_
        refine x_ret rfl rfl ?_
        refine x_in rfl rfl rfl ?_
        refine x_in rfl rfl rfl ?_
        refine x_top (show _ = Value.int ((-1 : Int32)) from congrArg Value.int (by decide)) ?_
        refine x_ret rfl rfl ?_
        refine x_in rfl rfl rfl ?_
        refine x_iinc (z := (6 : Int32)) rfl rfl (by decide) ?_
        refine x_in rfl rfl rfl ?_
        refine x_in rfl rfl rfl ?_
        refine x_in rfl rfl rfl ?_
        refine x_in rfl rfl rfl ?_
        refine x_top (show _ = Value.int ((6 : Int32)) from rfl) ?_
        refine x_in rfl rfl rfl ?_
        refine x_top (show _ = Value.int ((6 : Int32)) from congrArg Value.int (by decide)) ?_
        refine x_in rfl rfl rfl ?_
        refine x_top (show _ = Value.int ((0 : Int32)) from congrArg Value.int (by decide)) ?_
        refine x_in rfl rfl rfl ?_
        refine x_in rfl rfl rfl ?_
        refine x_top (show _ = Value.int ((1 : Int32)) from congrArg Value.int (by decide)) ?_
        refine x_ret rfl rfl ?_
        exact ⟨rfl, by decide, by decide⟩
      · have ec4 := mt (z_1 (0) (by decide)).mpr c4
        refine x_in rfl rfl rfl ?_
        refine x_in rfl rfl rfl ?_
        refine x_in rfl rfl rfl ?_
        refine x_bT rfl rfl ((z_4 (0) (by decide)).mpr (by omega)) ?_
        refine x_in rfl rfl rfl ?_
        refine x_ret rfl rfl ?_
        refine x_in rfl rfl rfl ?_
        refine x_in rfl rfl rfl ?_
        refine x_in rfl rfl rfl ?_
        refine x_in rfl rfl rfl ?_
        refine x_top (show _ = Value.int ((-1 : Int32)) from congrArg Value.int (by decide)) ?_
        refine x_ret rfl rfl ?_
        refine x_in rfl rfl rfl ?_
        refine x_in rfl rfl rfl ?_
        refine x_in rfl rfl rfl ?_
        refine x_in rfl rfl rfl ?_
        refine x_top (show _ = Value.int ((1 : Int32)) from congrArg Value.int (by decide)) ?_
        refine x_in rfl rfl rfl ?_
        refine x_top (show _ = Value.int ((1 : Int32)) from congrArg Value.int (by decide)) ?_
        refine x_in rfl rfl rfl ?_
        refine x_in rfl rfl rfl ?_
        refine x_in rfl rfl rfl ?_
        refine x_in rfl rfl rfl ?_
        refine x_top (show _ = Value.int ((2 : Int32)) from congrArg Value.int (by decide)) ?_
        refine x_in rfl rfl rfl ?_
        refine x_top (show _ = Value.int ((2 : Int32)) from congrArg Value.int (by decide)) ?_
        refine x_in rfl rfl rfl ?_
        refine x_in rfl rfl rfl ?_
        refine x_in rfl rfl rfl ?_
        refine x_in rfl rfl rfl ?_
        refine x_top (show _ = Value.int ((3 : Int32)) from congrArg Value.int (by decide)) ?_
        refine x_in rfl rfl rfl ?_
        refine x_top (show _ = Value.int ((3 : Int32)) from congrArg Value.int (by decide)) ?_
        refine x_in rfl rfl rfl ?_
        refine x_cV rfl rfl rfl rfl ⟨rfl, (Nat.le_of_ble_eq_true rfl), (Nat.le_of_ble_eq_true rfl)⟩ (x_enter (Nat.le_of_ble_eq_true rfl) ?_)
        refine x_in rfl rfl rfl ?_
        refine x_in rfl rfl rfl ?_
        refine x_cV rfl rfl rfl rfl ⟨rfl, (Nat.le_of_ble_eq_true rfl), (Nat.le_of_ble_eq_true rfl)⟩ (x_enter (Nat.le_of_ble_eq_true rfl) ?_)
        refine x_in rfl rfl rfl ?_
        refine x_in rfl rfl rfl ?_
        refine x_top (show _ = Value.int ((0 : Int32)) from congrArg Value.int (by decide)) ?_
        refine x_in rfl rfl rfl ?_
        refine x_in rfl rfl rfl ?_
        refine x_in rfl rfl rfl ?_
        refine x_top (show _ = Value.int ((1 : Int32)) from congrArg Value.int (by decide)) ?_
        refine x_in rfl rfl rfl ?_
        refine x_in rfl rfl rfl ?_
        refine x_top (show _ = Value.int ((1 : Int32)) from congrArg Value.int (by decide)) ?_
        refine x_in rfl rfl rfl ?_
        refine x_top (show _ = Value.int ((-1 : Int32)) from congrArg Value.int (by decide)) ?_
        refine x_cS rfl (by decide) rfl rfl ⟨(Nat.le_of_ble_eq_true rfl), (Nat.le_of_ble_eq_true rfl)⟩ (x_enter (Nat.le_of_ble_eq_true rfl) ?_)
        refine x_in rfl rfl rfl ?_
        refine x_in rfl rfl rfl ?_
        refine x_bT rfl rfl ((z_1 (0) (by decide)).mpr (by omega)) ?_
        refine x_in rfl rfl rfl ?_
        refine x_top (show _ = Value.int ((0 : Int32)) from congrArg Value.int (by decide)) ?_
        refine x_ret rfl rfl ?_
        refine x_ret rfl rfl ?_
        refine x_in rfl rfl rfl ?_
        refine x_in rfl rfl rfl ?_
        refine x_top (show _ = Value.int ((-1 : Int32)) from congrArg Value.int (by decide)) ?_
        refine x_ret rfl rfl ?_
        refine x_in rfl rfl rfl ?_
        refine x_iinc (z := (6 : Int32)) rfl rfl (by decide) ?_
        refine x_in rfl rfl rfl ?_
        refine x_in rfl rfl rfl ?_
        refine x_in rfl rfl rfl ?_
        refine x_in rfl rfl rfl ?_
        refine x_top (show _ = Value.int ((6 : Int32)) from rfl) ?_
        refine x_in rfl rfl rfl ?_
        refine x_top (show _ = Value.int ((6 : Int32)) from congrArg Value.int (by decide)) ?_
        refine x_in rfl rfl rfl ?_
        refine x_top (show _ = Value.int ((0 : Int32)) from congrArg Value.int (by decide)) ?_
        refine x_in rfl rfl rfl ?_
        refine x_in rfl rfl rfl ?_
        refine x_top (show _ = Value.int ((1 : Int32)) from congrArg Value.int (by decide)) ?_
        refine x_ret rfl rfl ?_
        exact ⟨rfl, by decide, by decide⟩
  · have ec1 := mt (z_1 (0) (by decide)).mpr c1
    refine x_in rfl rfl rfl ?_
    refine x_in rfl rfl rfl ?_
    refine x_in rfl rfl rfl ?_
    refine x_bT rfl rfl ((z_4 (0) (by decide)).mpr (by omega)) ?_
    refine x_in rfl rfl rfl ?_
    refine x_ret rfl rfl ?_
    refine x_in rfl rfl rfl ?_
    refine x_in rfl rfl rfl ?_
    refine x_in rfl rfl rfl ?_
    refine x_in rfl rfl rfl ?_
    refine x_cV rfl rfl rfl rfl ⟨rfl, (Nat.le_of_ble_eq_true rfl), (Nat.le_of_ble_eq_true rfl)⟩ (x_enter (Nat.le_of_ble_eq_true rfl) ?_)
    refine x_in rfl rfl rfl ?_
    refine x_br rfl rfl (fun c5 => ?_) (fun c5 => ?_)
    · have ec5 := (z_1 (0) (by decide)).mp c5
      refine x_in rfl rfl rfl ?_
      refine x_ret rfl rfl ?_
      refine x_in rfl rfl rfl ?_
      refine x_in rfl rfl rfl ?_
      refine x_in rfl rfl rfl ?_
      refine x_in rfl rfl rfl ?_
      refine x_cV rfl rfl rfl rfl ⟨rfl, (Nat.le_of_ble_eq_true rfl), (Nat.le_of_ble_eq_true rfl)⟩ (x_enter (Nat.le_of_ble_eq_true rfl) ?_)
      refine x_in rfl rfl rfl ?_
      refine x_br rfl rfl (fun c6 => ?_) (fun c6 => ?_)
      · have ec6 := (z_1 (0) (by decide)).mp c6
        refine x_in rfl rfl rfl ?_
        refine x_ret rfl rfl ?_
        refine x_in rfl rfl rfl ?_
        refine x_in rfl rfl rfl ?_
        refine x_in rfl rfl rfl ?_
        refine x_in rfl rfl rfl ?_
        refine x_top (show _ = Value.int ((-1 : Int32)) from congrArg Value.int (by decide)) ?_
        refine x_ret rfl rfl ?_
        refine x_in rfl rfl rfl ?_
        refine x_in rfl rfl rfl ?_
        refine x_in rfl rfl rfl ?_
        refine x_in rfl rfl rfl ?_
        refine x_top (show _ = Value.int ((1 : Int32)) from congrArg Value.int (by decide)) ?_
        refine x_in rfl rfl rfl ?_
        refine x_top (show _ = Value.int ((1 : Int32)) from congrArg Value.int (by decide)) ?_
        refine x_in rfl rfl rfl ?_
        refine x_in rfl rfl rfl ?_
        refine x_in rfl rfl rfl ?_
        refine x_in rfl rfl rfl ?_
        refine x_top (show _ = Value.int ((2 : Int32)) from congrArg Value.int (by decide)) ?_
        refine x_in rfl rfl rfl ?_
        refine x_top (show _ = Value.int ((2 : Int32)) from congrArg Value.int (by decide)) ?_
        refine x_in rfl rfl rfl ?_
        refine x_in rfl rfl rfl ?_
        refine x_in rfl rfl rfl ?_
        refine x_in rfl rfl rfl ?_
        refine x_top (show _ = Value.int ((3 : Int32)) from congrArg Value.int (by decide)) ?_
        refine x_in rfl rfl rfl ?_
        refine x_top (show _ = Value.int ((3 : Int32)) from congrArg Value.int (by decide)) ?_
        refine x_in rfl rfl rfl ?_
        refine x_cV rfl rfl rfl rfl ⟨rfl, (Nat.le_of_ble_eq_true rfl), (Nat.le_of_ble_eq_true rfl)⟩ (x_enter (Nat.le_of_ble_eq_true rfl) ?_)
        refine x_in rfl rfl rfl ?_
        refine x_in rfl rfl rfl ?_
        refine x_cV rfl rfl rfl rfl ⟨rfl, (Nat.le_of_ble_eq_true rfl), (Nat.le_of_ble_eq_true rfl)⟩ (x_enter (Nat.le_of_ble_eq_true rfl) ?_)
        refine x_in rfl rfl rfl ?_
        refine x_in rfl rfl rfl ?_
        refine x_top (show _ = Value.int ((0 : Int32)) from congrArg Value.int (by decide)) ?_
        refine x_in rfl rfl rfl ?_
        refine x_in rfl rfl rfl ?_
        refine x_in rfl rfl rfl ?_
        refine x_top (show _ = Value.int ((1 : Int32)) from congrArg Value.int (by decide)) ?_
        refine x_in rfl rfl rfl ?_
        refine x_in rfl rfl rfl ?_
        refine x_top (show _ = Value.int ((1 : Int32)) from congrArg Value.int (by decide)) ?_
        refine x_in rfl rfl rfl ?_
        refine x_top (show _ = Value.int ((-1 : Int32)) from congrArg Value.int (by decide)) ?_
        refine x_cS rfl (by decide) rfl rfl ⟨(Nat.le_of_ble_eq_true rfl), (Nat.le_of_ble_eq_true rfl)⟩ (x_enter (Nat.le_of_ble_eq_true rfl) ?_)
        refine x_in rfl rfl rfl ?_
        refine x_in rfl rfl rfl ?_
        refine x_bF rfl rfl (mt (z_1 (0) (by decide)).mp (by omega)) ?_
        refine x_in rfl rfl rfl ?_
        refine x_in rfl rfl rfl ?_
        refine x_bT rfl rfl ((z_2 (-1) (by decide)).mpr (by omega)) ?_
        refine x_in rfl rfl rfl ?_
        refine x_top (show _ = Value.int ((0 : Int32)) from congrArg Value.int (by decide)) ?_
        refine x_ret rfl rfl ?_
        refine x_ret rfl rfl ?_
        refine x_in rfl rfl rfl ?_
        refine x_in rfl rfl rfl ?_
        refine x_top (show _ = Value.int ((-1 : Int32)) from congrArg Value.int (by decide)) ?_
        refine x_ret rfl rfl ?_
        refine x_in rfl rfl rfl ?_
        refine x_iinc (z := (6 : Int32)) rfl rfl (by decide) ?_
        refine x_in rfl rfl rfl ?_
        refine x_in rfl rfl rfl ?_
        refine x_in rfl rfl rfl ?_
        refine x_in rfl rfl rfl ?_
        refine x_top (show _ = Value.int ((6 : Int32)) from rfl) ?_
        refine x_in rfl rfl rfl ?_
        refine x_top (show _ = Value.int ((6 : Int32)) from congrArg Value.int (by decide)) ?_
        refine x_in rfl rfl rfl ?_
        refine x_top (show _ = Value.int ((0 : Int32)) from congrArg Value.int (by decide)) ?_
        refine x_in rfl rfl rfl ?_
        refine x_in rfl rfl rfl ?_
        refine x_top (show _ = Value.int ((1 : Int32)) from congrArg Value.int (by decide)) ?_
        refine x_ret rfl rfl ?_
        exact ⟨rfl, by decide, by decide⟩
      · have ec6 := mt (z_1 (0) (by decide)).mpr c6
        refine x_in rfl rfl rfl ?_
        refine x_in rfl rfl rfl ?_
        refine x_in rfl rfl rfl ?_
        refine x_bT rfl rfl ((z_4 (0) (by decide)).mpr (by omega)) ?_
        refine x_in rfl rfl rfl ?_
        refine x_ret rfl rfl ?_
        refine x_in rfl rfl rfl ?_
        refine x_in rfl rfl rfl ?_
        refine x_in rfl rfl rfl ?_
        refine x_in rfl rfl rfl ?_
        refine x_top (show _ = Value.int ((-1 : Int32)) from congrArg Value.int (by decide)) ?_
        refine x_ret rfl rfl ?_
        refine x_in rfl rfl rfl ?_
        refine x_in rfl rfl rfl ?_
        refine x_in rfl rfl rfl ?_
        refine x_in rfl rfl rfl ?_
        refine x_top (show _ = Value.int ((1 : Int32)) from congrArg Value.int (by decide)) ?_
        refine x_in rfl rfl rfl ?_
        refine x_top (show _ = Value.int ((1 : Int32)) from congrArg Value.int (by decide)) ?_
        refine x_in rfl rfl rfl ?_
        refine x_in rfl rfl rfl ?_
        refine x_in rfl rfl rfl ?_
        refine x_in rfl rfl rfl ?_
        refine x_top (show _ = Value.int ((2 : Int32)) from congrArg Value.int (by decide)) ?_
        refine x_in rfl rfl rfl ?_
        refine x_top (show _ = Value.int ((2 : Int32)) from congrArg Value.int (by decide)) ?_
        refine x_in rfl rfl rfl ?_
        refine x_in rfl rfl rfl ?_
        refine x_in rfl rfl rfl ?_
        refine x_in rfl rfl rfl ?_
        refine x_top (show _ = Value.int ((3 : Int32)) from congrArg Value.int (by decide)) ?_
        refine x_in rfl rfl rfl ?_
        refine x_top (show _ = Value.int ((3 : Int32)) from congrArg Value.int (by decide)) ?_
        refine x_in rfl rfl rfl ?_
        refine x_cV rfl rfl rfl rfl ⟨rfl, (Nat.le_of_ble_eq_true rfl), (Nat.le_of_ble_eq_true rfl)⟩ (x_enter (Nat.le_of_ble_eq_true rfl) ?_)
        refine x_in rfl rfl rfl ?_
        refine x_in rfl rfl rfl ?_
        refine x_cV rfl rfl rfl rfl ⟨rfl, (Nat.le_of_ble_eq_true rfl), (Nat.le_of_ble_eq_true rfl)⟩ (x_enter (Nat.le_of_ble_eq_true rfl) ?_)
        refine x_in rfl rfl rfl ?_
        refine x_in rfl rfl rfl ?_
        refine x_top (show _ = Value.int ((0 : Int32)) from congrArg Value.int (by decide)) ?_
        refine x_in rfl rfl rfl ?_
        refine x_in rfl rfl rfl ?_
        refine x_in rfl rfl rfl ?_
        refine x_top (show _ = Value.int ((1 : Int32)) from congrArg Value.int (by decide)) ?_
        refine x_in rfl rfl rfl ?_
        refine x_in rfl rfl rfl ?_
        refine x_top (show _ = Value.int ((1 : Int32)) from congrArg Value.int (by decide)) ?_
        refine x_in rfl rfl rfl ?_
        refine x_top (show _ = Value.int ((-1 : Int32)) from congrArg Value.int (by decide)) ?_
        refine x_cS rfl (by decide) rfl rfl ⟨(Nat.le_of_ble_eq_true rfl), (Nat.le_of_ble_eq_true rfl)⟩ (x_enter (Nat.le_of_ble_eq_true rfl) ?_)
        refine x_in rfl rfl rfl ?_
        refine x_in rfl rfl rfl ?_
        refine x_bF rfl rfl (mt (z_1 (0) (by decide)).mp (by omega)) ?_
        refine x_in rfl rfl rfl ?_
        refine x_in rfl rfl rfl ?_
        refine x_bT rfl rfl ((z_2 (-1) (by decide)).mpr (by omega)) ?_
        refine x_in rfl rfl rfl ?_
        refine x_top (show _ = Value.int ((0 : Int32)) from congrArg Value.int (by decide)) ?_
        refine x_ret rfl rfl ?_
        refine x_ret rfl rfl ?_
        refine x_in rfl rfl rfl ?_
        refine x_in rfl rfl rfl ?_
        refine x_top (show _ = Value.int ((-1 : Int32)) from congrArg Value.int (by decide)) ?_
        refine x_ret rfl rfl ?_
        refine x_in rfl rfl rfl ?_
        refine x_iinc (z := (6 : Int32)) rfl rfl (by decide) ?_
        refine x_in rfl rfl rfl ?_
        refine x_in rfl rfl rfl ?_
        refine x_in rfl rfl rfl ?_
        refine x_in rfl rfl rfl ?_
        refine x_top (show _ = Value.int ((6 : Int32)) from rfl) ?_
        refine x_in rfl rfl rfl ?_
        refine x_top (show _ = Value.int ((6 : Int32)) from congrArg Value.int (by decide)) ?_
        refine x_in rfl rfl rfl ?_
        refine x_top (show _ = Value.int ((0 : Int32)) from congrArg Value.int (by decide)) ?_
        refine x_in rfl rfl rfl ?_
        refine x_in rfl rfl rfl ?_
        refine x_top (show _ = Value.int ((1 : Int32)) from congrArg Value.int (by decide)) ?_
        refine x_ret rfl rfl ?_
        exact ⟨rfl, by decide, by decide⟩
    · have ec5 := mt (z_1 (0) (by decide)).mpr c5
      refine x_in rfl rfl rfl ?_
      refine x_in rfl rfl rfl ?_
      refine x_in rfl rfl rfl ?_
      refine x_bT rfl rfl ((z_4 (0) (by decide)).mpr (by omega)) ?_
      refine x_in rfl rfl rfl ?_
      refine x_ret rfl rfl ?_
      refine x_in rfl rfl rfl ?_
      refine x_in rfl rfl rfl ?_
      refine x_in rfl rfl rfl ?_
      refine x_in rfl rfl rfl ?_
      refine x_cV rfl rfl rfl rfl ⟨rfl, (Nat.le_of_ble_eq_true rfl), (Nat.le_of_ble_eq_true rfl)⟩ (x_enter (Nat.le_of_ble_eq_true rfl) ?_)
      refine x_in rfl rfl rfl ?_
      refine x_br rfl rfl (fun c7 => ?_) (fun c7 => ?_)
      · have ec7 := (z_1 (0) (by decide)).mp c7
        refine x_in rfl rfl rfl ?_
        refine x_ret rfl rfl ?_
        refine x_in rfl rfl rfl ?_
        refine x_in rfl rfl rfl ?_
        refine x_in rfl rfl rfl ?_
        refine x_in rfl rfl rfl ?_
        refine x_top (show _ = Value.int ((-1 : Int32)) from congrArg Value.int (by decide)) ?_
        refine x_ret rfl rfl ?_
        refine x_in rfl rfl rfl ?_
        refine x_in rfl rfl rfl ?_
        refine x_in rfl rfl rfl ?_
        refine x_in rfl rfl rfl ?_
        refine x_top (show _ = Value.int ((1 : Int32)) from congrArg Value.int (by decide)) ?_
        refine x_in rfl rfl rfl ?_
        refine x_top (show _ = Value.int ((1 : Int32)) from congrArg Value.int (by decide)) ?_
        refine x_in rfl rfl rfl ?_
        refine x_in rfl rfl rfl ?_
        refine x_in rfl rfl rfl ?_
        refine x_in rfl rfl rfl ?_
        refine x_top (show _ = Value.int ((2 : Int32)) from congrArg Value.int (by decide)) ?_
        refine x_in rfl rfl rfl ?_
        refine x_top (show _ = Value.int ((2 : Int32)) from congrArg Value.int (by decide)) ?_
        refine x_in rfl rfl rfl ?_
        refine x_in rfl rfl rfl ?_
        refine x_in rfl rfl rfl ?_
        refine x_in rfl rfl rfl ?_
        refine x_top (show _ = Value.int ((3 : Int32)) from congrArg Value.int (by decide)) ?_
        refine x_in rfl rfl rfl ?_
        refine x_top (show _ = Value.int ((3 : Int32)) from congrArg Value.int (by decide)) ?_
        refine x_in rfl rfl rfl ?_
        refine x_cV rfl rfl rfl rfl ⟨rfl, (Nat.le_of_ble_eq_true rfl), (Nat.le_of_ble_eq_true rfl)⟩ (x_enter (Nat.le_of_ble_eq_true rfl) ?_)
        refine x_in rfl rfl rfl ?_
        refine x_in rfl rfl rfl ?_
        refine x_cV rfl rfl rfl rfl ⟨rfl, (Nat.le_of_ble_eq_true rfl), (Nat.le_of_ble_eq_true rfl)⟩ (x_enter (Nat.le_of_ble_eq_true rfl) ?_)
        refine x_in rfl rfl rfl ?_
        refine x_in rfl rfl rfl ?_
        refine x_top (show _ = Value.int ((0 : Int32)) from congrArg Value.int (by decide)) ?_
        refine x_in rfl rfl rfl ?_
        refine x_in rfl rfl rfl ?_
        refine x_in rfl rfl rfl ?_
        refine x_top (show _ = Value.int ((1 : Int32)) from congrArg Value.int (by decide)) ?_
        refine x_in rfl rfl rfl ?_
        refine x_in rfl rfl rfl ?_
        refine x_top (show _ = Value.int ((1 : Int32)) from congrArg Value.int (by decide)) ?_
        refine x_in rfl rfl rfl ?_
        refine x_top (show _ = Value.int ((-1 : Int32)) from congrArg Value.int (by decide)) ?_
        refine x_cS rfl (by decide) rfl rfl ⟨(Nat.le_of_ble_eq_true rfl), (Nat.le_of_ble_eq_true rfl)⟩ (x_enter (Nat.le_of_ble_eq_true rfl) ?_)
        refine x_in rfl rfl rfl ?_
        refine x_in rfl rfl rfl ?_
        refine x_bF rfl rfl (mt (z_1 (0) (by decide)).mp (by omega)) ?_
        refine x_in rfl rfl rfl ?_
        refine x_in rfl rfl rfl ?_
        refine x_bT rfl rfl ((z_2 (-1) (by decide)).mpr (by omega)) ?_
        refine x_in rfl rfl rfl ?_
        refine x_top (show _ = Value.int ((0 : Int32)) from congrArg Value.int (by decide)) ?_
        refine x_ret rfl rfl ?_
        refine x_ret rfl rfl ?_
        refine x_in rfl rfl rfl ?_
        refine x_in rfl rfl rfl ?_
        refine x_top (show _ = Value.int ((-1 : Int32)) from congrArg Value.int (by decide)) ?_
        refine x_ret rfl rfl ?_
        refine x_in rfl rfl rfl ?_
        refine x_iinc (z := (6 : Int32)) rfl rfl (by decide) ?_
        refine x_in rfl rfl rfl ?_
        refine x_in rfl rfl rfl ?_
        refine x_in rfl rfl rfl ?_
        refine x_in rfl rfl rfl ?_
        refine x_top (show _ = Value.int ((6 : Int32)) from rfl) ?_
        refine x_in rfl rfl rfl ?_
        refine x_top (show _ = Value.int ((6 : Int32)) from congrArg Value.int (by decide)) ?_
        refine x_in rfl rfl rfl ?_
        refine x_top (show _ = Value.int ((0 : Int32)) from congrArg Value.int (by decide)) ?_
        refine x_in rfl rfl rfl ?_
        refine x_in rfl rfl rfl ?_
        refine x_top (show _ = Value.int ((1 : Int32)) from congrArg Value.int (by decide)) ?_
        refine x_ret rfl rfl ?_
        exact ⟨rfl, by decide, by decide⟩
      · have ec7 := mt (z_1 (0) (by decide)).mpr c7
        refine x_in rfl rfl rfl ?_
        refine x_in rfl rfl rfl ?_
        refine x_in rfl rfl rfl ?_
        refine x_bT rfl rfl ((z_4 (0) (by decide)).mpr (by omega)) ?_
        refine x_in rfl rfl rfl ?_
        refine x_ret rfl rfl ?_
        refine x_in rfl rfl rfl ?_
        refine x_in rfl rfl rfl ?_
        refine x_in rfl rfl rfl ?_
        refine x_in rfl rfl rfl ?_
        refine x_top (show _ = Value.int ((-1 : Int32)) from congrArg Value.int (by decide)) ?_
        refine x_ret rfl rfl ?_
        refine x_in rfl rfl rfl ?_
        refine x_in rfl rfl rfl ?_
        refine x_in rfl rfl rfl ?_
        refine x_in rfl rfl rfl ?_
        refine x_top (show _ = Value.int ((1 : Int32)) from congrArg Value.int (by decide)) ?_
        refine x_in rfl rfl rfl ?_
        refine x_top (show _ = Value.int ((1 : Int32)) from congrArg Value.int (by decide)) ?_
        refine x_in rfl rfl rfl ?_
        refine x_in rfl rfl rfl ?_
        refine x_in rfl rfl rfl ?_
        refine x_in rfl rfl rfl ?_
        refine x_top (show _ = Value.int ((2 : Int32)) from congrArg Value.int (by decide)) ?_
        refine x_in rfl rfl rfl ?_
        refine x_top (show _ = Value.int ((2 : Int32)) from congrArg Value.int (by decide)) ?_
        refine x_in rfl rfl rfl ?_
        refine x_in rfl rfl rfl ?_
        refine x_in rfl rfl rfl ?_
        refine x_in rfl rfl rfl ?_
        refine x_top (show _ = Value.int ((3 : Int32)) from congrArg Value.int (by decide)) ?_
        refine x_in rfl rfl rfl ?_
        refine x_top (show _ = Value.int ((3 : Int32)) from congrArg Value.int (by decide)) ?_
        refine x_in rfl rfl rfl ?_
        refine x_cV rfl rfl rfl rfl ⟨rfl, (Nat.le_of_ble_eq_true rfl), (Nat.le_of_ble_eq_true rfl)⟩ (x_enter (Nat.le_of_ble_eq_true rfl) ?_)
        refine x_in rfl rfl rfl ?_
        refine x_in rfl rfl rfl ?_
        refine x_cV rfl rfl rfl rfl ⟨rfl, (Nat.le_of_ble_eq_true rfl), (Nat.le_of_ble_eq_true rfl)⟩ (x_enter (Nat.le_of_ble_eq_true rfl) ?_)
        refine x_in rfl rfl rfl ?_
        refine x_in rfl rfl rfl ?_
        refine x_top (show _ = Value.int ((0 : Int32)) from congrArg Value.int (by decide)) ?_
        refine x_in rfl rfl rfl ?_
        refine x_in rfl rfl rfl ?_
        refine x_in rfl rfl rfl ?_
        refine x_top (show _ = Value.int ((1 : Int32)) from congrArg Value.int (by decide)) ?_
        refine x_in rfl rfl rfl ?_
        refine x_in rfl rfl rfl ?_
        refine x_top (show _ = Value.int ((1 : Int32)) from congrArg Value.int (by decide)) ?_
        refine x_in rfl rfl rfl ?_
        refine x_top (show _ = Value.int ((-1 : Int32)) from congrArg Value.int (by decide)) ?_
        refine x_cS rfl (by decide) rfl rfl ⟨(Nat.le_of_ble_eq_true rfl), (Nat.le_of_ble_eq_true rfl)⟩ (x_enter (Nat.le_of_ble_eq_true rfl) ?_)
        refine x_in rfl rfl rfl ?_
        refine x_in rfl rfl rfl ?_
        refine x_bF rfl rfl (mt (z_1 (0) (by decide)).mp (by omega)) ?_
        refine x_in rfl rfl rfl ?_
        refine x_in rfl rfl rfl ?_
        refine x_bT rfl rfl ((z_2 (-1) (by decide)).mpr (by omega)) ?_
        refine x_in rfl rfl rfl ?_
        refine x_top (show _ = Value.int ((0 : Int32)) from congrArg Value.int (by decide)) ?_
        refine x_ret rfl rfl ?_
        refine x_ret rfl rfl ?_
        refine x_in rfl rfl rfl ?_
        refine x_in rfl rfl rfl ?_
        refine x_top (show _ = Value.int ((-1 : Int32)) from congrArg Value.int (by decide)) ?_
        refine x_ret rfl rfl ?_
        refine x_in rfl rfl rfl ?_
        refine x_iinc (z := (6 : Int32)) rfl rfl (by decide) ?_
        refine x_in rfl rfl rfl ?_
        refine x_in rfl rfl rfl ?_
        refine x_in rfl rfl rfl ?_
        refine x_in rfl rfl rfl ?_
        refine x_top (show _ = Value.int ((6 : Int32)) from rfl) ?_
        refine x_in rfl rfl rfl ?_
        refine x_top (show _ = Value.int ((6 : Int32)) from congrArg Value.int (by decide)) ?_
        refine x_in rfl rfl rfl ?_
        refine x_top (show _ = Value.int ((0 : Int32)) from congrArg Value.int (by decide)) ?_
        refine x_in rfl rfl rfl ?_
        refine x_in rfl rfl rfl ?_
        refine x_top (show _ = Value.int ((1 : Int32)) from congrArg Value.int (by decide)) ?_
        refine x_ret rfl rfl ?_
        exact ⟨rfl, by decide, by decide⟩
set_option maxRecDepth 100000 in
set_option maxHeartbeats 4000000 in
theorem c_15 (n : Nat) (c a1 a2 a3 a4 a5 : Int32) : x_E (m_X [c, a1, a2, a3, a4, a5]) 60 181 193 11164 (n + 300) 721 [(3, .int 0), (2, .ref 170), (1, .ref 0), (0, .ref 1000000)] [] m_h0 lK := by
  refine x_in rfl rfl rfl ?_
  refine x_in rfl rfl rfl ?_
  refine x_in rfl rfl rfl ?_
  refine x_in rfl rfl rfl ?_
  refine x_top (show _ = Value.int ((1 : Int32)) from congrArg Value.int (by decide)) ?_
  refine x_in rfl rfl rfl ?_
  refine x_top (show _ = Value.int ((1 : Int32)) from congrArg Value.int (by decide)) ?_
  refine x_in rfl rfl rfl ?_
  refine x_cV rfl rfl rfl rfl ⟨rfl, (Nat.le_of_ble_eq_true rfl), (Nat.le_of_ble_eq_true rfl)⟩ (x_enter (Nat.le_of_ble_eq_true rfl) ?_)
  refine x_in rfl rfl rfl ?_
  refine x_in rfl rfl rfl ?_
  refine x_in rfl rfl rfl ?_
  refine x_cV rfl rfl rfl rfl ⟨rfl, (Nat.le_of_ble_eq_true rfl), (Nat.le_of_ble_eq_true rfl)⟩ (x_enter (Nat.le_of_ble_eq_true rfl) ?_)
  refine x_in rfl rfl rfl ?_
  refine x_br rfl rfl (fun c1 => ?_) (fun c1 => ?_)
  · have ec1 := (z_1 (0) (by decide)).mp c1
    refine x_in rfl rfl rfl ?_
    refine x_ret rfl rfl ?_
    refine x_in rfl rfl rfl ?_
    refine x_in rfl rfl rfl ?_
    refine x_in rfl rfl rfl ?_
    refine x_in rfl rfl rfl ?_
    refine x_top (show _ = Value.int ((-1 : Int32)) from congrArg Value.int (by decide)) ?_
    refine x_ret rfl rfl ?_
    refine x_in rfl rfl rfl ?_
    refine x_in rfl rfl rfl ?_
    refine x_in rfl rfl rfl ?_
    refine x_in rfl rfl rfl ?_
    refine x_top (show _ = Value.int ((1 : Int32)) from congrArg Value.int (by decide)) ?_
    refine x_in rfl rfl rfl ?_
    refine x_top (show _ = Value.int ((1 : Int32)) from congrArg Value.int (by decide)) ?_
    refine x_in rfl rfl rfl ?_
    refine x_cV rfl rfl rfl rfl ⟨rfl, (Nat.le_of_ble_eq_true rfl), (Nat.le_of_ble_eq_true rfl)⟩ (x_enter (Nat.le_of_ble_eq_true rfl) ?_)
    refine x_in rfl rfl rfl ?_
    refine x_in rfl rfl rfl ?_
    refine x_cV rfl rfl rfl rfl ⟨rfl, (Nat.le_of_ble_eq_true rfl), (Nat.le_of_ble_eq_true rfl)⟩ (x_enter (Nat.le_of_ble_eq_true rfl) ?_)
    refine x_in rfl rfl rfl ?_
    refine x_in rfl rfl rfl ?_
    refine x_top (show _ = Value.int ((0 : Int32)) from congrArg Value.int (by decide)) ?_
    refine x_in rfl rfl rfl ?_
    refine x_in rfl rfl rfl ?_
    refine x_in rfl rfl rfl ?_
    refine x_top (show _ = Value.int ((1 : Int32)) from congrArg Value.int (by decide)) ?_
    refine x_in rfl rfl rfl ?_
    refine x_in rfl rfl rfl ?_
    refine x_top (show _ = Value.int ((1 : Int32)) from congrArg Value.int (by decide)) ?_
    refine x_in rfl rfl rfl ?_
    refine x_top (show _ = Value.int ((-1 : Int32)) from congrArg Value.int (by decide)) ?_
    refine x_cS rfl (by decide) rfl rfl ⟨(Nat.le_of_ble_eq_true rfl), (Nat.le_of_ble_eq_true rfl)⟩ (x_enter (Nat.le_of_ble_eq_true rfl) ?_)
    refine x_in rfl rfl rfl ?_
    refine x_in rfl rfl rfl ?_
    refine x_bT rfl rfl ((z_1 (0) (by decide)).mpr (by omega)) ?_
    refine x_in rfl rfl rfl ?_
    refine x_top (show _ = Value.int ((0 : Int32)) from congrArg Value.int (by decide)) ?_
    refine x_ret rfl rfl ?_
    refine x_ret rfl rfl ?_
    refine x_in rfl rfl rfl ?_
    refine x_in rfl rfl rfl ?_
    refine x_top (show _ = Value.int ((-1 : Int32)) from congrArg Value.int (by decide)) ?_
    refine x_ret rfl rfl ?_
    refine x_in rfl rfl rfl ?_
    refine x_iinc (z := (6 : Int32)) rfl rfl (by decide) ?_
    refine x_in rfl rfl rfl ?_
    refine x_in rfl rfl rfl ?_
    refine x_in rfl rfl rfl ?_
    refine x_in rfl rfl rfl ?_
    refine x_top (show _ = Value.int ((6 : Int32)) from rfl) ?_
    refine x_in rfl rfl rfl ?_
    refine x_top (show _ = Value.int ((6 : Int32)) from congrArg Value.int (by decide)) ?_
    refine x_in rfl rfl rfl ?_
    refine x_top (show _ = Value.int ((0 : Int32)) from congrArg Value.int (by decide)) ?_
    refine x_in rfl rfl rfl ?_
    refine x_in rfl rfl rfl ?_
    refine x_top (show _ = Value.int ((1 : Int32)) from congrArg Value.int (by decide)) ?_
    refine x_ret rfl rfl ?_
    exact ⟨rfl, by decide, by decide⟩
  · have ec1 := mt (z_1 (0) (by decide)).mpr c1
    refine x_in rfl rfl rfl ?_
    refine x_in rfl rfl rfl ?_
    refine x_in rfl rfl rfl ?_
    refine x_bT rfl rfl ((z_4 (0) (by decide)).mpr (by omega)) ?_
    refine x_in rfl rfl rfl ?_
    refine x_ret rfl rfl ?_
    refine x_in rfl rfl rfl ?_
    refine x_in rfl rfl rfl ?_
    refine x_in rfl rfl rfl ?_
    refine x_in rfl rfl rfl ?_
    refine x_top (show _ = Value.int ((-1 : Int32)) from congrArg Value.int (by decide)) ?_
    refine x_ret rfl rfl ?_
    refine x_in rfl rfl rfl ?_
    refine x_in rfl rfl rfl ?_
    refine x_in rfl rfl rfl ?_
    refine x_in rfl rfl rfl ?_
    refine x_top (show _ = Value.int ((1 : Int32)) from congrArg Value.int (by decide)) ?_
    refine x_in rfl rfl rfl ?_
    refine x_top (show _ = Value.int ((1 : Int32)) from congrArg Value.int (by decide)) ?_
    refine x_in rfl rfl rfl ?_
    refine x_cV rfl rfl rfl rfl ⟨rfl, (Nat.le_of_ble_eq_true rfl), (Nat.le_of_ble_eq_true rfl)⟩ (x_enter (Nat.le_of_ble_eq_true rfl) ?_)
    refine x_in rfl rfl rfl ?_
    refine x_in rfl rfl rfl ?_
    refine x_cV rfl rfl rfl rfl ⟨rfl, (Nat.le_of_ble_eq_true rfl), (Nat.le_of_ble_eq_true rfl)⟩ (x_enter (Nat.le_of_ble_eq_true rfl) ?_)
    refine x_in rfl rfl rfl ?_
    refine x_in rfl rfl rfl ?_
    refine x_top (show _ = Value.int ((0 : Int32)) from congrArg Value.int (by decide)) ?_
    refine x_in rfl rfl rfl ?_
    refine x_in rfl rfl rfl ?_
    refine x_in rfl rfl rfl ?_
    refine x_top (show _ = Value.int ((1 : Int32)) from congrArg Value.int (by decide)) ?_
    refine x_in rfl rfl rfl ?_
    refine x_in rfl rfl rfl ?_
    refine x_top (show _ = Value.int ((1 : Int32)) from congrArg Value.int (by decide)) ?_
    refine x_in rfl rfl rfl ?_
    refine x_top (show _ = Value.int ((-1 : Int32)) from congrArg Value.int (by decide)) ?_
    refine x_cS rfl (by decide) rfl rfl ⟨(Nat.le_of_ble_eq_true rfl), (Nat.le_of_ble_eq_true rfl)⟩ (x_enter (Nat.le_of_ble_eq_true rfl) ?_)
    refine x_in rfl rfl rfl ?_
    refine x_in rfl rfl rfl ?_
    refine x_bF rfl rfl (mt (z_1 (0) (by decide)).mp (by omega)) ?_
    refine x_in rfl rfl rfl ?_
    refine x_in rfl rfl rfl ?_
    refine x_bT rfl rfl ((z_2 (-1) (by decide)).mpr (by omega)) ?_
    refine x_in rfl rfl rfl ?_
    refine x_top (show _ = Value.int ((0 : Int32)) from congrArg Value.int (by decide)) ?_
    refine x_ret rfl rfl ?_
    refine x_ret rfl rfl ?_
    refine x_in rfl rfl rfl ?_
    refine x_in rfl rfl rfl ?_
    refine x_top (show _ = Value.int ((-1 : Int32)) from congrArg Value.int (by decide)) ?_
    refine x_ret rfl rfl ?_
    refine x_in rfl rfl rfl ?_
    refine x_iinc (z := (6 : Int32)) rfl rfl (by decide) ?_
    refine x_in rfl rfl rfl ?_
    refine x_in rfl rfl rfl ?_
    refine x_in rfl rfl rfl ?_
    refine x_in rfl rfl rfl ?_
    refine x_top (show _ = Value.int ((6 : Int32)) from rfl) ?_
    refine x_in rfl rfl rfl ?_
    refine x_top (show _ = Value.int ((6 : Int32)) from congrArg Value.int (by decide)) ?_
    refine x_in rfl rfl rfl ?_
    refine x_top (show _ = Value.int ((0 : Int32)) from congrArg Value.int (by decide)) ?_
    refine x_in rfl rfl rfl ?_
    refine x_in rfl rfl rfl ?_
    refine x_top (show _ = Value.int ((1 : Int32)) from congrArg Value.int (by decide)) ?_
    refine x_ret rfl rfl ?_
    exact ⟨rfl, by decide, by decide⟩
set_option maxRecDepth 100000 in
set_option maxHeartbeats 4000000 in
theorem c_16 (n : Nat) (c a1 a2 a3 a4 a5 : Int32) : x_E (m_X [c, a1, a2, a3, a4, a5]) 60 181 193 11164 (n + 300) 744 [(3, .int 0), (2, .ref 170), (1, .ref 0), (0, .ref 1000000)] [] m_h0 lK := by
  refine x_in rfl rfl rfl ?_
  refine x_in rfl rfl rfl ?_
  refine x_in rfl rfl rfl ?_
  refine x_in rfl rfl rfl ?_
  refine x_top (show _ = Value.int ((1 : Int32)) from congrArg Value.int (by decide)) ?_
  refine x_in rfl rfl rfl ?_
  refine x_top (show _ = Value.int ((1 : Int32)) from congrArg Value.int (by decide)) ?_
  refine x_in rfl rfl rfl ?_
  refine x_cV rfl rfl rfl rfl ⟨rfl, (Nat.le_of_ble_eq_true rfl), (Nat.le_of_ble_eq_true rfl)⟩ (x_enter (Nat.le_of_ble_eq_true rfl) ?_)
  refine x_in rfl rfl rfl ?_
  refine x_in rfl rfl rfl ?_
  refine x_in rfl rfl rfl ?_
  refine x_cV rfl rfl rfl rfl ⟨rfl, (Nat.le_of_ble_eq_true rfl), (Nat.le_of_ble_eq_true rfl)⟩ (x_enter (Nat.le_of_ble_eq_true rfl) ?_)
  refine x_in rfl rfl rfl ?_
  refine x_br rfl rfl (fun c1 => ?_) (fun c1 => ?_)
  · have ec1 := (z_1 (0) (by decide)).mp c1
    refine x_in rfl rfl rfl ?_
    refine x_ret rfl rfl ?_
    refine x_in rfl rfl rfl ?_
    refine x_in rfl rfl rfl ?_
    refine x_in rfl rfl rfl ?_
    refine x_in rfl rfl rfl ?_
    refine x_top (show _ = Value.int ((-1 : Int32)) from congrArg Value.int (by decide)) ?_
    refine x_ret rfl rfl ?_
    refine x_in rfl rfl rfl ?_
    refine x_in rfl rfl rfl ?_
    refine x_in rfl rfl rfl ?_
    refine x_in rfl rfl rfl ?_
    refine x_top (show _ = Value.int ((1 : Int32)) from congrArg Value.int (by decide)) ?_
    refine x_in rfl rfl rfl ?_
    refine x_top (show _ = Value.int ((1 : Int32)) from congrArg Value.int (by decide)) ?_
    refine x_in rfl rfl rfl ?_
    refine x_cV rfl rfl rfl rfl ⟨rfl, (Nat.le_of_ble_eq_true rfl), (Nat.le_of_ble_eq_true rfl)⟩ (x_enter (Nat.le_of_ble_eq_true rfl) ?_)
    refine x_in rfl rfl rfl ?_
    refine x_in rfl rfl rfl ?_
    refine x_cV rfl rfl rfl rfl ⟨rfl, (Nat.le_of_ble_eq_true rfl), (Nat.le_of_ble_eq_true rfl)⟩ (x_enter (Nat.le_of_ble_eq_true rfl) ?_)
    refine x_in rfl rfl rfl ?_
    refine x_in rfl rfl rfl ?_
    refine x_top (show _ = Value.int ((0 : Int32)) from congrArg Value.int (by decide)) ?_
    refine x_in rfl rfl rfl ?_
    refine x_in rfl rfl rfl ?_
    refine x_in rfl rfl rfl ?_
    refine x_top (show _ = Value.int ((1 : Int32)) from congrArg Value.int (by decide)) ?_
    refine x_in rfl rfl rfl ?_
    refine x_in rfl rfl rfl ?_
    refine x_top (show _ = Value.int ((1 : Int32)) from congrArg Value.int (by decide)) ?_
    refine x_in rfl rfl rfl ?_
    refine x_top (show _ = Value.int ((-1 : Int32)) from congrArg Value.int (by decide)) ?_
    refine x_cS rfl (by decide) rfl rfl ⟨(Nat.le_of_ble_eq_true rfl), (Nat.le_of_ble_eq_true rfl)⟩ (x_enter (Nat.le_of_ble_eq_true rfl) ?_)
    refine x_in rfl rfl rfl ?_
    refine x_in rfl rfl rfl ?_
    refine x_bT rfl rfl ((z_1 (0) (by decide)).mpr (by omega)) ?_
    refine x_in rfl rfl rfl ?_
    refine x_top (show _ = Value.int ((0 : Int32)) from congrArg Value.int (by decide)) ?_
    refine x_ret rfl rfl ?_
    refine x_ret rfl rfl ?_
    refine x_in rfl rfl rfl ?_
    refine x_in rfl rfl rfl ?_
    refine x_top (show _ = Value.int ((-1 : Int32)) from congrArg Value.int (by decide)) ?_
    refine x_ret rfl rfl ?_
    refine x_in rfl rfl rfl ?_
    refine x_iinc (z := (6 : Int32)) rfl rfl (by decide) ?_
    refine x_in rfl rfl rfl ?_
    refine x_in rfl rfl rfl ?_
    refine x_in rfl rfl rfl ?_
    refine x_in rfl rfl rfl ?_
    refine x_top (show _ = Value.int ((6 : Int32)) from rfl) ?_
    refine x_in rfl rfl rfl ?_
    refine x_top (show _ = Value.int ((6 : Int32)) from congrArg Value.int (by decide)) ?_
    refine x_in rfl rfl rfl ?_
    refine x_top (show _ = Value.int ((0 : Int32)) from congrArg Value.int (by decide)) ?_
    refine x_in rfl rfl rfl ?_
    refine x_in rfl rfl rfl ?_
    refine x_top (show _ = Value.int ((1 : Int32)) from congrArg Value.int (by decide)) ?_
    refine x_ret rfl rfl ?_
    exact ⟨rfl, by decide, by decide⟩
  · have ec1 := mt (z_1 (0) (by decide)).mpr c1
    refine x_in rfl rfl rfl ?_
    refine x_in rfl rfl rfl ?_
    refine x_in rfl rfl rfl ?_
    refine x_bT rfl rfl ((z_4 (0) (by decide)).mpr (by omega)) ?_
    refine x_in rfl rfl rfl ?_
    refine x_ret rfl rfl ?_
    refine x_in rfl rfl rfl ?_
    refine x_in rfl rfl rfl ?_
    refine x_in rfl rfl rfl ?_
    refine x_in rfl rfl rfl ?_
    refine x_top (show _ = Value.int ((-1 : Int32)) from congrArg Value.int (by decide)) ?_
    refine x_ret rfl rfl ?_
    refine x_in rfl rfl rfl ?_
    refine x_in rfl rfl rfl ?_
    refine x_in rfl rfl rfl ?_
    refine x_in rfl rfl rfl ?_
    refine x_top (show _ = Value.int ((1 : Int32)) from congrArg Value.int (by decide)) ?_
    refine x_in rfl rfl rfl ?_
    refine x_top (show _ = Value.int ((1 : Int32)) from congrArg Value.int (by decide)) ?_
    refine x_in rfl rfl rfl ?_
    refine x_cV rfl rfl rfl rfl ⟨rfl, (Nat.le_of_ble_eq_true rfl), (Nat.le_of_ble_eq_true rfl)⟩ (x_enter (Nat.le_of_ble_eq_true rfl) ?_)
    refine x_in rfl rfl rfl ?_
    refine x_in rfl rfl rfl ?_
    refine x_cV rfl rfl rfl rfl ⟨rfl, (Nat.le_of_ble_eq_true rfl), (Nat.le_of_ble_eq_true rfl)⟩ (x_enter (Nat.le_of_ble_eq_true rfl) ?_)
    refine x_in rfl rfl rfl ?_
    refine x_in rfl rfl rfl ?_
    refine x_top (show _ = Value.int ((0 : Int32)) from congrArg Value.int (by decide)) ?_
    refine x_in rfl rfl rfl ?_
    refine x_in rfl rfl rfl ?_
    refine x_in rfl rfl rfl ?_
    refine x_top (show _ = Value.int ((1 : Int32)) from congrArg Value.int (by decide)) ?_
    refine x_in rfl rfl rfl ?_
    refine x_in rfl rfl rfl ?_
    refine x_top (show _ = Value.int ((1 : Int32)) from congrArg Value.int (by decide)) ?_
    refine x_in rfl rfl rfl ?_
    refine x_top (show _ = Value.int ((-1 : Int32)) from congrArg Value.int (by decide)) ?_
    refine x_cS rfl (by decide) rfl rfl ⟨(Nat.le_of_ble_eq_true rfl), (Nat.le_of_ble_eq_true rfl)⟩ (x_enter (Nat.le_of_ble_eq_true rfl) ?_)
    refine x_in rfl rfl rfl ?_
    refine x_in rfl rfl rfl ?_
    refine x_bF rfl rfl (mt (z_1 (0) (by decide)).mp (by omega)) ?_
    refine x_in rfl rfl rfl ?_
    refine x_in rfl rfl rfl ?_
    refine x_bT rfl rfl ((z_2 (-1) (by decide)).mpr (by omega)) ?_
    refine x_in rfl rfl rfl ?_
    refine x_top (show _ = Value.int ((0 : Int32)) from congrArg Value.int (by decide)) ?_
    refine x_ret rfl rfl ?_
    refine x_ret rfl rfl ?_
    refine x_in rfl rfl rfl ?_
    refine x_in rfl rfl rfl ?_
    refine x_top (show _ = Value.int ((-1 : Int32)) from congrArg Value.int (by decide)) ?_
    refine x_ret rfl rfl ?_
    refine x_in rfl rfl rfl ?_
    refine x_iinc (z := (6 : Int32)) rfl rfl (by decide) ?_
    refine x_in rfl rfl rfl ?_
    refine x_in rfl rfl rfl ?_
    refine x_in rfl rfl rfl ?_
    refine x_in rfl rfl rfl ?_
    refine x_top (show _ = Value.int ((6 : Int32)) from rfl) ?_
    refine x_in rfl rfl rfl ?_
    refine x_top (show _ = Value.int ((6 : Int32)) from congrArg Value.int (by decide)) ?_
    refine x_in rfl rfl rfl ?_
    refine x_top (show _ = Value.int ((0 : Int32)) from congrArg Value.int (by decide)) ?_
    refine x_in rfl rfl rfl ?_
    refine x_in rfl rfl rfl ?_
    refine x_top (show _ = Value.int ((1 : Int32)) from congrArg Value.int (by decide)) ?_
    refine x_ret rfl rfl ?_
    exact ⟨rfl, by decide, by decide⟩
