set_option maxRecDepth 100000 in
set_option maxHeartbeats 4000000 in
theorem c_0_5 (n : Nat) (c a1 a2 a4 a5 : Int32) : x_E (m_X [c, a1, a2, 5, a4, a5]) 60 181 193 11164 (n + 300) 156 [(3, .int 0), (2, .ref 170), (1, .ref 0), (0, .ref 1000000)] [] m_h0 lK := by
  refine x_in rfl rfl rfl ?_
  refine x_in rfl rfl rfl ?_
  refine x_in rfl rfl rfl ?_
  refine x_in rfl rfl rfl ?_
  refine x_top (show _ = Value.int ((1 : Int32)) from congrArg Value.int (by decide)) ?_
  refine x_in rfl rfl rfl ?_
  refine x_top (show _ = Value.int ((1 : Int32)) from congrArg Value.int (by decide)) ?_
  refine x_in rfl rfl rfl ?_
  refine x_in rfl rfl rfl ?_
  refine x_in rfl rfl rfl ?_
  refine x_top (show _ = Value.int ((32 : Int32)) from congrArg Value.int (by decide)) ?_
  refine x_in rfl rfl rfl ?_
  refine x_in rfl rfl rfl ?_
  refine x_in rfl rfl rfl ?_
  refine x_in rfl rfl rfl ?_
  refine x_top (show _ = Value.int ((2 : Int32)) from congrArg Value.int (by decide)) ?_
  refine x_in rfl rfl rfl ?_
  refine x_top (show _ = Value.int ((2 : Int32)) from congrArg Value.int (by decide)) ?_
  refine x_in rfl rfl rfl ?_
  refine x_in rfl rfl rfl ?_
  refine x_in rfl rfl rfl ?_
  refine x_in rfl rfl rfl ?_
  refine x_in rfl rfl rfl ?_
  refine x_in rfl rfl rfl ?_
  refine x_in rfl rfl rfl ?_
  refine x_in rfl rfl rfl ?_
  refine x_top (show _ = Value.int ((3 : Int32)) from congrArg Value.int (by decide)) ?_
  refine x_in rfl rfl rfl ?_
  refine x_top (show _ = Value.int ((3 : Int32)) from congrArg Value.int (by decide)) ?_
  refine x_in rfl rfl rfl ?_
  refine x_cV rfl rfl rfl rfl ⟨rfl, (Nat.le_of_ble_eq_true rfl), (Nat.le_of_ble_eq_true rfl)⟩ (x_enter (Nat.le_of_ble_eq_true rfl) ?_)
  refine x_in rfl rfl rfl ?_
  refine x_in rfl rfl rfl ?_
  refine x_top (show _ = Value.int ((1 : Int32)) from congrArg Value.int (by decide)) ?_
  refine x_in rfl rfl rfl ?_
  refine x_in rfl rfl rfl ?_
  refine x_in rfl rfl rfl ?_
  refine x_top (show _ = Value.int ((8 : Int32)) from congrArg Value.int (by decide)) ?_
  refine x_in rfl rfl rfl ?_
  refine x_in rfl rfl rfl ?_
  refine x_in rfl rfl rfl ?_
  refine x_in rfl rfl rfl ?_
  refine x_in rfl rfl rfl ?_
  refine x_in rfl rfl rfl ?_
  refine x_top (show _ = Value.int ((5 : Int32)) from congrArg Value.int (by decide)) ?_
  refine x_in rfl rfl rfl ?_
  refine x_top (show _ = Value.int ((160 : Int32)) from congrArg Value.int (by decide)) ?_
  refine x_in rfl rfl rfl ?_
  refine x_in rfl rfl rfl ?_
  refine x_in rfl rfl rfl ?_
  refine x_top (show _ = Value.int ((1 : Int32)) from congrArg Value.int (by decide)) ?_
  refine x_in rfl rfl rfl ?_
  refine x_top (show _ = Value.int ((4 : Int32)) from congrArg Value.int (by decide)) ?_
  refine x_in rfl rfl rfl ?_
  refine x_in rfl rfl rfl ?_
  refine x_in rfl rfl rfl ?_
  refine x_in rfl rfl rfl ?_
  refine x_in rfl rfl rfl ?_
  refine x_in rfl rfl rfl ?_
  refine x_in rfl rfl rfl ?_
  refine x_in rfl rfl rfl ?_
  refine x_in rfl rfl rfl ?_
  refine x_in rfl rfl rfl ?_
  refine x_in rfl rfl rfl ?_
  refine x_top (show _ = Value.int ((8 : Int32)) from congrArg Value.int (by decide)) ?_
  refine x_in rfl rfl rfl ?_
  refine x_in rfl rfl rfl ?_
  refine x_top (show _ = Value.int ((32 : Int32)) from congrArg Value.int (by decide)) ?_
  refine x_in rfl rfl rfl ?_
  refine x_in rfl rfl rfl ?_
  refine x_gen (fun v1 => ?_)
  refine x_in rfl rfl rfl ?_
  refine x_top (show _ = Value.int ((255 : Int32)) from congrArg Value.int (by decide)) ?_
  refine x_in rfl rfl rfl ?_
  refine x_in rfl rfl rfl ?_
  refine x_in rfl rfl rfl ?_
  refine x_in rfl rfl rfl ?_
  refine x_in rfl rfl rfl ?_
  refine x_in rfl rfl rfl ?_
  refine x_in rfl rfl rfl ?_
  refine x_top (show _ = Value.int ((1 : Int32)) from congrArg Value.int (by decide)) ?_
  refine x_in rfl rfl rfl ?_
  refine x_top (show _ = Value.int ((1 : Int32)) from congrArg Value.int (by decide)) ?_
  refine x_in rfl rfl rfl ?_
  refine x_iinc (z := (3 : Int32)) rfl rfl (by decide) ?_
  refine x_in rfl rfl rfl ?_
  refine x_in rfl rfl rfl ?_
  refine x_in rfl rfl rfl ?_
  refine x_in rfl rfl rfl ?_
  refine x_in rfl rfl rfl ?_
  refine x_in rfl rfl rfl ?_
  refine x_in rfl rfl rfl ?_
  refine x_in rfl rfl rfl ?_
  refine x_in rfl rfl rfl ?_
  refine x_in rfl rfl rfl ?_
  refine x_in rfl rfl rfl ?_
  refine x_top (show _ = Value.int ((8 : Int32)) from congrArg Value.int (by decide)) ?_
  refine x_in rfl rfl rfl ?_
  refine x_in rfl rfl rfl ?_
  refine x_top (show _ = Value.int ((24 : Int32)) from congrArg Value.int (by decide)) ?_
  refine x_in rfl rfl rfl ?_
  refine x_in rfl rfl rfl ?_
  refine x_gen (fun v2 => ?_)
  refine x_in rfl rfl rfl ?_
  refine x_top (show _ = Value.int ((255 : Int32)) from congrArg Value.int (by decide)) ?_
  refine x_in rfl rfl rfl ?_
  refine x_in rfl rfl rfl ?_
  refine x_hs1 (by decide) ?_
  refine x_in rfl rfl rfl ?_
  refine x_in rfl rfl rfl ?_
  refine x_in rfl rfl rfl ?_
  refine x_in rfl rfl rfl ?_
  refine x_in rfl rfl rfl ?_
  refine x_top (show _ = Value.int ((1 : Int32)) from congrArg Value.int (by decide)) ?_
  refine x_in rfl rfl rfl ?_
  refine x_top (show _ = Value.int ((2 : Int32)) from congrArg Value.int (by decide)) ?_
  refine x_in rfl rfl rfl ?_
  refine x_hs0 ?_
  refine x_iinc (z := (2 : Int32)) rfl rfl (by decide) ?_
  refine x_in rfl rfl rfl ?_
  refine x_in rfl rfl rfl ?_
  refine x_in rfl rfl rfl ?_
  refine x_in rfl rfl rfl ?_
  refine x_in rfl rfl rfl ?_
  refine x_in rfl rfl rfl ?_
  refine x_in rfl rfl rfl ?_
  refine x_in rfl rfl rfl ?_
  refine x_in rfl rfl rfl ?_
  refine x_in rfl rfl rfl ?_
  refine x_in rfl rfl rfl ?_
  refine x_top (show _ = Value.int ((8 : Int32)) from congrArg Value.int (by decide)) ?_
  refine x_in rfl rfl rfl ?_
  refine x_in rfl rfl rfl ?_
  refine x_top (show _ = Value.int ((16 : Int32)) from congrArg Value.int (by decide)) ?_
  refine x_in rfl rfl rfl ?_
  refine x_in rfl rfl rfl ?_
  refine x_gen (fun v3 => ?_)
  refine x_in rfl rfl rfl ?_
  refine x_top (show _ = Value.int ((255 : Int32)) from congrArg Value.int (by decide)) ?_
  refine x_in rfl rfl rfl ?_
  refine x_in rfl rfl rfl ?_
  refine x_hs1 (by decide) ?_
  refine x_in rfl rfl rfl ?_
  refine x_in rfl rfl rfl ?_
  refine x_in rfl rfl rfl ?_
  refine x_in rfl rfl rfl ?_
  refine x_in rfl rfl rfl ?_
  refine x_top (show _ = Value.int ((1 : Int32)) from congrArg Value.int (by decide)) ?_
  refine x_in rfl rfl rfl ?_
  refine x_top (show _ = Value.int ((3 : Int32)) from congrArg Value.int (by decide)) ?_
  refine x_in rfl rfl rfl ?_
  refine x_hs0 ?_
  refine x_iinc (z := (1 : Int32)) rfl rfl (by decide) ?_
  refine x_in rfl rfl rfl ?_
  refine x_in rfl rfl rfl ?_
  refine x_in rfl rfl rfl ?_
  refine x_in rfl rfl rfl ?_
  refine x_in rfl rfl rfl ?_
  refine x_in rfl rfl rfl ?_
  refine x_in rfl rfl rfl ?_
  refine x_in rfl rfl rfl ?_
  refine x_in rfl rfl rfl ?_
  refine x_in rfl rfl rfl ?_
  refine x_in rfl rfl rfl ?_
  refine x_top (show _ = Value.int ((8 : Int32)) from congrArg Value.int (by decide)) ?_
  refine x_in rfl rfl rfl ?_
  refine x_in rfl rfl rfl ?_
  refine x_top (show _ = Value.int ((8 : Int32)) from congrArg Value.int (by decide)) ?_
  refine x_in rfl rfl rfl ?_
  refine x_in rfl rfl rfl ?_
  refine x_gen (fun v4 => ?_)
  refine x_in rfl rfl rfl ?_
  refine x_top (show _ = Value.int ((255 : Int32)) from congrArg Value.int (by decide)) ?_
  refine x_in rfl rfl rfl ?_
  refine x_in rfl rfl rfl ?_
  refine x_hs1 (by decide) ?_
  refine x_in rfl rfl rfl ?_
  refine x_in rfl rfl rfl ?_
  refine x_in rfl rfl rfl ?_
  refine x_in rfl rfl rfl ?_
  refine x_in rfl rfl rfl ?_
  refine x_top (show _ = Value.int ((1 : Int32)) from congrArg Value.int (by decide)) ?_
  refine x_in rfl rfl rfl ?_
  refine x_top (show _ = Value.int ((4 : Int32)) from congrArg Value.int (by decide)) ?_
  refine x_in rfl rfl rfl ?_
  refine x_hs0 ?_
  refine x_iinc (z := (0 : Int32)) rfl rfl (by decide) ?_
  refine x_in rfl rfl rfl ?_
  refine x_in rfl rfl rfl ?_
  refine x_in rfl rfl rfl ?_
  refine x_in rfl rfl rfl ?_
  refine x_in rfl rfl rfl ?_
  refine x_in rfl rfl rfl ?_
  refine x_in rfl rfl rfl ?_
  refine x_in rfl rfl rfl ?_
  refine x_in rfl rfl rfl ?_
  refine x_in rfl rfl rfl ?_
  refine x_in rfl rfl rfl ?_
  refine x_top (show _ = Value.int ((8 : Int32)) from congrArg Value.int (by decide)) ?_
  refine x_in rfl rfl rfl ?_
  refine x_in rfl rfl rfl ?_
  refine x_top (show _ = Value.int ((0 : Int32)) from congrArg Value.int (by decide)) ?_
  refine x_in rfl rfl rfl ?_
  refine x_in rfl rfl rfl ?_
  refine x_gen (fun v5 => ?_)
  refine x_in rfl rfl rfl ?_
  refine x_top (show _ = Value.int ((255 : Int32)) from congrArg Value.int (by decide)) ?_
  refine x_in rfl rfl rfl ?_
  refine x_in rfl rfl rfl ?_
  refine x_hs1 (by decide) ?_
  refine x_in rfl rfl rfl ?_
  refine x_in rfl rfl rfl ?_
  refine x_in rfl rfl rfl ?_
  refine x_in rfl rfl rfl ?_
  refine x_in rfl rfl rfl ?_
  refine x_top (show _ = Value.int ((1 : Int32)) from congrArg Value.int (by decide)) ?_
  refine x_in rfl rfl rfl ?_
  refine x_top (show _ = Value.int ((5 : Int32)) from congrArg Value.int (by decide)) ?_
  refine x_in rfl rfl rfl ?_
  refine x_hs0 ?_
  refine x_iinc (z := (-1 : Int32)) rfl rfl (by decide) ?_
  refine x_in rfl rfl rfl ?_
  refine x_in rfl rfl rfl ?_
  refine x_in rfl rfl rfl ?_
  refine x_in rfl rfl rfl ?_
  refine x_in rfl rfl rfl ?_
  refine x_in rfl rfl rfl ?_
  refine x_ret rfl rfl ?_
  refine x_in rfl rfl rfl ?_
  refine x_in rfl rfl rfl ?_
  refine x_in rfl rfl rfl ?_
  refine x_in rfl rfl rfl ?_
  refine x_top (show _ = Value.int ((1 : Int32)) from congrArg Value.int (by decide)) ?_
  refine x_in rfl rfl rfl ?_
  refine x_top (show _ = Value.int ((1 : Int32)) from congrArg Value.int (by decide)) ?_
  refine x_in rfl rfl rfl ?_
  refine x_in rfl rfl rfl ?_
  refine x_in rfl rfl rfl ?_
  refine x_top (show _ = Value.int ((32 : Int32)) from congrArg Value.int (by decide)) ?_
  refine x_in rfl rfl rfl ?_
  refine x_in rfl rfl rfl ?_
  refine x_in rfl rfl rfl ?_
  refine x_in rfl rfl rfl ?_
  refine x_top (show _ = Value.int ((2 : Int32)) from congrArg Value.int (by decide)) ?_
  refine x_in rfl rfl rfl ?_
  refine x_top (show _ = Value.int ((2 : Int32)) from congrArg Value.int (by decide)) ?_
  refine x_in rfl rfl rfl ?_
  refine x_in rfl rfl rfl ?_
  refine x_in rfl rfl rfl ?_
  refine x_in rfl rfl rfl ?_
  refine x_in rfl rfl rfl ?_
  refine x_in rfl rfl rfl ?_
  refine x_in rfl rfl rfl ?_
  refine x_in rfl rfl rfl ?_
  refine x_top (show _ = Value.int ((3 : Int32)) from congrArg Value.int (by decide)) ?_
  refine x_in rfl rfl rfl ?_
  refine x_top (show _ = Value.int ((3 : Int32)) from congrArg Value.int (by decide)) ?_
  refine x_in rfl rfl rfl ?_
  refine x_cV rfl rfl rfl rfl ⟨rfl, (Nat.le_of_ble_eq_true rfl), (Nat.le_of_ble_eq_true rfl)⟩ (x_enter (Nat.le_of_ble_eq_true rfl) ?_)
  refine x_in rfl rfl rfl ?_
  refine x_in rfl rfl rfl ?_
  refine x_top (show _ = Value.int ((1 : Int32)) from congrArg Value.int (by decide)) ?_
  refine x_in rfl rfl rfl ?_
  refine x_top (show _ = Value.int ((8 : Int32)) from congrArg Value.int (by decide)) ?_
  refine x_cS rfl (by decide) rfl rfl ⟨(Nat.le_of_ble_eq_true rfl), (Nat.le_of_ble_eq_true rfl)⟩ (x_enter (Nat.le_of_ble_eq_true rfl) ?_)
  refine x_in rfl rfl rfl ?_
  refine x_in rfl rfl rfl ?_
  refine x_in rfl rfl rfl ?_
  refine x_in rfl rfl rfl ?_
  refine x_in rfl rfl rfl ?_
  refine x_in rfl rfl rfl ?_
  refine x_in rfl rfl rfl ?_
  refine x_top (show _ = Value.int ((1 : Int32)) from congrArg Value.int (by decide)) ?_
  refine x_in rfl rfl rfl ?_
  refine x_ret rfl rfl ?_
  refine x_in rfl rfl rfl ?_
  refine x_in rfl rfl rfl ?_
  refine x_in rfl rfl rfl ?_
  refine x_in rfl rfl rfl ?_
  refine x_top (show _ = Value.int ((6 : Int32)) from congrArg Value.int (by decide)) ?_
  refine x_in rfl rfl rfl ?_
  refine x_in rfl rfl rfl ?_
  refine x_in rfl rfl rfl ?_
  refine x_top (show _ = Value.int ((5 : Int32)) from congrArg Value.int (by decide)) ?_
  refine x_in rfl rfl rfl ?_
  refine x_top (show _ = Value.int ((160 : Int32)) from congrArg Value.int (by decide)) ?_
  refine x_in rfl rfl rfl ?_
  refine x_in rfl rfl rfl ?_
  refine x_in rfl rfl rfl ?_
  refine x_top (show _ = Value.int ((1 : Int32)) from congrArg Value.int (by decide)) ?_
  refine x_in rfl rfl rfl ?_
  refine x_top (show _ = Value.int ((4 : Int32)) from congrArg Value.int (by decide)) ?_
  refine x_in rfl rfl rfl ?_
  refine x_in rfl rfl rfl ?_
  refine x_in rfl rfl rfl ?_
  refine x_in rfl rfl rfl ?_
  refine x_in rfl rfl rfl ?_
  refine x_in rfl rfl rfl ?_
  refine x_top (show _ = Value.int ((10 : Int32)) from congrArg Value.int (by decide)) ?_
  refine x_in rfl rfl rfl ?_
  refine x_in rfl rfl rfl ?_
  refine x_in rfl rfl rfl ?_
  refine x_top (show _ = Value.int ((6 : Int32)) from congrArg Value.int (by decide)) ?_
  refine x_in rfl rfl rfl ?_
  refine x_in rfl rfl rfl ?_
  refine x_top (show _ = Value.int ((10 : Int32)) from congrArg Value.int (by decide)) ?_
  refine x_in rfl rfl rfl ?_
  refine x_in rfl rfl rfl ?_
  refine x_top (show _ = Value.int ((8 : Int32)) from congrArg Value.int (by decide)) ?_
  refine x_in rfl rfl rfl ?_
  refine x_in rfl rfl rfl ?_
  refine x_top (show _ = Value.int ((32 : Int32)) from congrArg Value.int (by decide)) ?_
  refine x_in rfl rfl rfl ?_
  refine x_in rfl rfl rfl ?_
  refine x_in rfl rfl rfl ?_
  refine x_in rfl rfl rfl ?_
  refine x_gen (fun v6 => ?_)
  refine x_in rfl rfl rfl ?_
  refine x_in rfl rfl rfl ?_
  refine x_in rfl rfl rfl ?_
  refine x_in rfl rfl rfl ?_
  refine x_top (show _ = Value.int ((6 : Int32)) from congrArg Value.int (by decide)) ?_
  refine x_in rfl rfl rfl ?_
  refine x_in rfl rfl rfl ?_
  refine x_in rfl rfl rfl ?_
  refine x_top (show _ = Value.int ((1 : Int32)) from congrArg Value.int (by decide)) ?_
  refine x_in rfl rfl rfl ?_
  refine x_top (show _ = Value.int ((1 : Int32)) from congrArg Value.int (by decide)) ?_
  refine x_in rfl rfl rfl ?_
  refine x_hs0 ?_
  refine x_iinc (z := (3 : Int32)) rfl rfl (by decide) ?_
  refine x_in rfl rfl rfl ?_
  refine x_in rfl rfl rfl ?_
  refine x_in rfl rfl rfl ?_
  refine x_in rfl rfl rfl ?_
  refine x_in rfl rfl rfl ?_
  refine x_in rfl rfl rfl ?_
  refine x_top (show _ = Value.int ((10 : Int32)) from congrArg Value.int (by decide)) ?_
  refine x_in rfl rfl rfl ?_
  refine x_in rfl rfl rfl ?_
  refine x_in rfl rfl rfl ?_
  refine x_top (show _ = Value.int ((6 : Int32)) from congrArg Value.int (by decide)) ?_
  refine x_in rfl rfl rfl ?_
  refine x_in rfl rfl rfl ?_
  refine x_top (show _ = Value.int ((11 : Int32)) from congrArg Value.int (by decide)) ?_
  refine x_in rfl rfl rfl ?_
  refine x_in rfl rfl rfl ?_
  refine x_top (show _ = Value.int ((8 : Int32)) from congrArg Value.int (by decide)) ?_
  refine x_in rfl rfl rfl ?_
  refine x_in rfl rfl rfl ?_
  refine x_top (show _ = Value.int ((24 : Int32)) from congrArg Value.int (by decide)) ?_
  refine x_in rfl rfl rfl ?_
  refine x_in rfl rfl rfl ?_
  refine x_in rfl rfl rfl ?_
  refine x_in rfl rfl rfl ?_
  refine x_gen (fun v7 => ?_)
  refine x_in rfl rfl rfl ?_
  refine x_hs0 ?_
  refine x_in rfl rfl rfl ?_
  refine x_in rfl rfl rfl ?_
  refine x_in rfl rfl rfl ?_
  refine x_top (show _ = Value.int ((6 : Int32)) from congrArg Value.int (by decide)) ?_
  refine x_in rfl rfl rfl ?_
  refine x_in rfl rfl rfl ?_
  refine x_in rfl rfl rfl ?_
  refine x_top (show _ = Value.int ((1 : Int32)) from congrArg Value.int (by decide)) ?_
  refine x_in rfl rfl rfl ?_
  refine x_top (show _ = Value.int ((2 : Int32)) from congrArg Value.int (by decide)) ?_
  refine x_in rfl rfl rfl ?_
  refine x_hs0 ?_
  refine x_iinc (z := (2 : Int32)) rfl rfl (by decide) ?_
  refine x_in rfl rfl rfl ?_
  refine x_in rfl rfl rfl ?_
  refine x_in rfl rfl rfl ?_
  refine x_in rfl rfl rfl ?_
  refine x_in rfl rfl rfl ?_
  refine x_in rfl rfl rfl ?_
  refine x_top (show _ = Value.int ((10 : Int32)) from congrArg Value.int (by decide)) ?_
  refine x_in rfl rfl rfl ?_
  refine x_in rfl rfl rfl ?_
  refine x_in rfl rfl rfl ?_
  refine x_top (show _ = Value.int ((6 : Int32)) from congrArg Value.int (by decide)) ?_
  refine x_in rfl rfl rfl ?_
  refine x_in rfl rfl rfl ?_
  refine x_top (show _ = Value.int ((12 : Int32)) from congrArg Value.int (by decide)) ?_
  refine x_in rfl rfl rfl ?_
  refine x_in rfl rfl rfl ?_
  refine x_top (show _ = Value.int ((8 : Int32)) from congrArg Value.int (by decide)) ?_
  refine x_in rfl rfl rfl ?_
  refine x_in rfl rfl rfl ?_
  refine x_top (show _ = Value.int ((16 : Int32)) from congrArg Value.int (by decide)) ?_
  refine x_in rfl rfl rfl ?_
  refine x_in rfl rfl rfl ?_
  refine x_in rfl rfl rfl ?_
  refine x_in rfl rfl rfl ?_
  refine x_gen (fun v8 => ?_)
  refine x_in rfl rfl rfl ?_
  refine x_hs0 ?_
  refine x_in rfl rfl rfl ?_
  refine x_in rfl rfl rfl ?_
  refine x_in rfl rfl rfl ?_
  refine x_top (show _ = Value.int ((6 : Int32)) from congrArg Value.int (by decide)) ?_
  refine x_in rfl rfl rfl ?_
  refine x_in rfl rfl rfl ?_
  refine x_in rfl rfl rfl ?_
  refine x_top (show _ = Value.int ((1 : Int32)) from congrArg Value.int (by decide)) ?_
  refine x_in rfl rfl rfl ?_
  refine x_top (show _ = Value.int ((3 : Int32)) from congrArg Value.int (by decide)) ?_
  refine x_in rfl rfl rfl ?_
  refine x_hs0 ?_
  refine x_iinc (z := (1 : Int32)) rfl rfl (by decide) ?_
  refine x_in rfl rfl rfl ?_
  refine x_in rfl rfl rfl ?_
  refine x_in rfl rfl rfl ?_
  refine x_in rfl rfl rfl ?_
  refine x_in rfl rfl rfl ?_
  refine x_in rfl rfl rfl ?_
  refine x_top (show _ = Value.int ((10 : Int32)) from congrArg Value.int (by decide)) ?_
  refine x_in rfl rfl rfl ?_
  refine x_in rfl rfl rfl ?_
  refine x_in rfl rfl rfl ?_
  refine x_top (show _ = Value.int ((6 : Int32)) from congrArg Value.int (by decide)) ?_
  refine x_in rfl rfl rfl ?_
  refine x_in rfl rfl rfl ?_
  refine x_top (show _ = Value.int ((13 : Int32)) from congrArg Value.int (by decide)) ?_
  refine x_in rfl rfl rfl ?_
  refine x_in rfl rfl rfl ?_
  refine x_top (show _ = Value.int ((8 : Int32)) from congrArg Value.int (by decide)) ?_
  refine x_in rfl rfl rfl ?_
  refine x_in rfl rfl rfl ?_
  refine x_top (show _ = Value.int ((8 : Int32)) from congrArg Value.int (by decide)) ?_
  refine x_in rfl rfl rfl ?_
  refine x_in rfl rfl rfl ?_
  refine x_in rfl rfl rfl ?_
  refine x_in rfl rfl rfl ?_
  refine x_gen (fun v9 => ?_)
  refine x_in rfl rfl rfl ?_
  refine x_hs0 ?_
  refine x_in rfl rfl rfl ?_
  refine x_in rfl rfl rfl ?_
  refine x_in rfl rfl rfl ?_
  refine x_top (show _ = Value.int ((6 : Int32)) from congrArg Value.int (by decide)) ?_
  refine x_in rfl rfl rfl ?_
  refine x_in rfl rfl rfl ?_
  refine x_in rfl rfl rfl ?_
  refine x_top (show _ = Value.int ((1 : Int32)) from congrArg Value.int (by decide)) ?_
  refine x_in rfl rfl rfl ?_
  refine x_top (show _ = Value.int ((4 : Int32)) from congrArg Value.int (by decide)) ?_
  refine x_in rfl rfl rfl ?_
  refine x_hs0 ?_
  refine x_iinc (z := (0 : Int32)) rfl rfl (by decide) ?_
  refine x_in rfl rfl rfl ?_
  refine x_in rfl rfl rfl ?_
  refine x_in rfl rfl rfl ?_
  refine x_in rfl rfl rfl ?_
  refine x_in rfl rfl rfl ?_
  refine x_in rfl rfl rfl ?_
  refine x_top (show _ = Value.int ((10 : Int32)) from congrArg Value.int (by decide)) ?_
  refine x_in rfl rfl rfl ?_
  refine x_in rfl rfl rfl ?_
  refine x_in rfl rfl rfl ?_
  refine x_top (show _ = Value.int ((6 : Int32)) from congrArg Value.int (by decide)) ?_
  refine x_in rfl rfl rfl ?_
  refine x_in rfl rfl rfl ?_
  refine x_top (show _ = Value.int ((14 : Int32)) from congrArg Value.int (by decide)) ?_
  refine x_in rfl rfl rfl ?_
  refine x_in rfl rfl rfl ?_
  refine x_top (show _ = Value.int ((8 : Int32)) from congrArg Value.int (by decide)) ?_
  refine x_in rfl rfl rfl ?_
  refine x_in rfl rfl rfl ?_
  refine x_top (show _ = Value.int ((0 : Int32)) from congrArg Value.int (by decide)) ?_
  refine x_in rfl rfl rfl ?_
  refine x_in rfl rfl rfl ?_
  refine x_in rfl rfl rfl ?_
  refine x_in rfl rfl rfl ?_
  refine x_gen (fun v10 => ?_)
  refine x_in rfl rfl rfl ?_
  refine x_hs0 ?_
  refine x_in rfl rfl rfl ?_
  refine x_in rfl rfl rfl ?_
  refine x_in rfl rfl rfl ?_
  refine x_top (show _ = Value.int ((6 : Int32)) from congrArg Value.int (by decide)) ?_
  refine x_in rfl rfl rfl ?_
  refine x_in rfl rfl rfl ?_
  refine x_in rfl rfl rfl ?_
  refine x_top (show _ = Value.int ((1 : Int32)) from congrArg Value.int (by decide)) ?_
  refine x_in rfl rfl rfl ?_
  refine x_top (show _ = Value.int ((5 : Int32)) from congrArg Value.int (by decide)) ?_
  refine x_in rfl rfl rfl ?_
  refine x_hs0 ?_
  refine x_iinc (z := (-1 : Int32)) rfl rfl (by decide) ?_
  refine x_in rfl rfl rfl ?_
  refine x_in rfl rfl rfl ?_
  refine x_in rfl rfl rfl ?_
  refine x_in rfl rfl rfl ?_
  refine x_in rfl rfl rfl ?_
  refine x_in rfl rfl rfl ?_
  refine x_top (show _ = Value.int ((6 : Int32)) from congrArg Value.int (by decide)) ?_
  refine x_in rfl rfl rfl ?_
  refine x_ret rfl rfl ?_
  refine x_in rfl rfl rfl ?_
  refine x_iinc (z := (6 : Int32)) rfl rfl (by decide) ?_
  refine x_in rfl rfl rfl ?_
  refine x_in rfl rfl rfl ?_
  refine x_in rfl rfl rfl ?_
  refine x_in rfl rfl rfl ?_
  refine x_top (show _ = Value.int ((6 : Int32)) from rfl) ?_
  refine x_in rfl rfl rfl ?_
  refine x_top (show _ = Value.int ((6 : Int32)) from congrArg Value.int (by decide)) ?_
  refine x_in rfl rfl rfl ?_
  refine x_top (show _ = Value.int ((0 : Int32)) from congrArg Value.int (by decide)) ?_
  refine x_in rfl rfl rfl ?_
  refine x_in rfl rfl rfl ?_
  refine x_top (show _ = Value.int ((1 : Int32)) from congrArg Value.int (by decide)) ?_
  refine x_ret rfl rfl ?_
  exact ⟨rfl, by decide, by decide⟩
set_option maxRecDepth 100000 in
set_option maxHeartbeats 4000000 in
theorem c_0_6 (n : Nat) (c a1 a2 a4 a5 : Int32) : x_E (m_X [c, a1, a2, 6, a4, a5]) 60 181 193 11164 (n + 300) 156 [(3, .int 0), (2, .ref 170), (1, .ref 0), (0, .ref 1000000)] [] m_h0 lK := by
  refine x_in rfl rfl rfl ?_
  refine x_in rfl rfl rfl ?_
  refine x_in rfl rfl rfl ?_
  refine x_in rfl rfl rfl ?_
  refine x_top (show _ = Value.int ((1 : Int32)) from congrArg Value.int (by decide)) ?_
  refine x_in rfl rfl rfl ?_
  refine x_top (show _ = Value.int ((1 : Int32)) from congrArg Value.int (by decide)) ?_
  refine x_in rfl rfl rfl ?_
  refine x_in rfl rfl rfl ?_
  refine x_in rfl rfl rfl ?_
  refine x_top (show _ = Value.int ((32 : Int32)) from congrArg Value.int (by decide)) ?_
  refine x_in rfl rfl rfl ?_
  refine x_in rfl rfl rfl ?_
  refine x_in rfl rfl rfl ?_
  refine x_in rfl rfl rfl ?_
  refine x_top (show _ = Value.int ((2 : Int32)) from congrArg Value.int (by decide)) ?_
  refine x_in rfl rfl rfl ?_
  refine x_top (show _ = Value.int ((2 : Int32)) from congrArg Value.int (by decide)) ?_
  refine x_in rfl rfl rfl ?_
  refine x_in rfl rfl rfl ?_
  refine x_in rfl rfl rfl ?_
  refine x_in rfl rfl rfl ?_
  refine x_in rfl rfl rfl ?_
  refine x_in rfl rfl rfl ?_
  refine x_in rfl rfl rfl ?_
  refine x_in rfl rfl rfl ?_
  refine x_top (show _ = Value.int ((3 : Int32)) from congrArg Value.int (by decide)) ?_
  refine x_in rfl rfl rfl ?_
  refine x_top (show _ = Value.int ((3 : Int32)) from congrArg Value.int (by decide)) ?_
  refine x_in rfl rfl rfl ?_
  refine x_cV rfl rfl rfl rfl ⟨rfl, (Nat.le_of_ble_eq_true rfl), (Nat.le_of_ble_eq_true rfl)⟩ (x_enter (Nat.le_of_ble_eq_true rfl) ?_)
  refine x_in rfl rfl rfl ?_
  refine x_in rfl rfl rfl ?_
  refine x_top (show _ = Value.int ((1 : Int32)) from congrArg Value.int (by decide)) ?_
  refine x_in rfl rfl rfl ?_
  refine x_in rfl rfl rfl ?_
  refine x_in rfl rfl rfl ?_
  refine x_top (show _ = Value.int ((8 : Int32)) from congrArg Value.int (by decide)) ?_
  refine x_in rfl rfl rfl ?_
  refine x_in rfl rfl rfl ?_
  refine x_in rfl rfl rfl ?_
  refine x_in rfl rfl rfl ?_
  refine x_in rfl rfl rfl ?_
  refine x_in rfl rfl rfl ?_
  refine x_top (show _ = Value.int ((6 : Int32)) from congrArg Value.int (by decide)) ?_
  refine x_in rfl rfl rfl ?_
  refine x_top (show _ = Value.int ((160 : Int32)) from congrArg Value.int (by decide)) ?_
  refine x_in rfl rfl rfl ?_
  refine x_in rfl rfl rfl ?_
  refine x_in rfl rfl rfl ?_
  refine x_top (show _ = Value.int ((1 : Int32)) from congrArg Value.int (by decide)) ?_
  refine x_in rfl rfl rfl ?_
  refine x_top (show _ = Value.int ((5 : Int32)) from congrArg Value.int (by decide)) ?_
  refine x_in rfl rfl rfl ?_
  refine x_in rfl rfl rfl ?_
  refine x_in rfl rfl rfl ?_
  refine x_in rfl rfl rfl ?_
  refine x_in rfl rfl rfl ?_
  refine x_in rfl rfl rfl ?_
  refine x_in rfl rfl rfl ?_
  refine x_in rfl rfl rfl ?_
  refine x_in rfl rfl rfl ?_
  refine x_in rfl rfl rfl ?_
  refine x_in rfl rfl rfl ?_
  refine x_top (show _ = Value.int ((8 : Int32)) from congrArg Value.int (by decide)) ?_
  refine x_in rfl rfl rfl ?_
  refine x_in rfl rfl rfl ?_
  refine x_top (show _ = Value.int ((40 : Int32)) from congrArg Value.int (by decide)) ?_
  refine x_in rfl rfl rfl ?_
  refine x_in rfl rfl rfl ?_
  refine x_gen (fun v1 => ?_)
  refine x_in rfl rfl rfl ?_
  refine x_top (show _ = Value.int ((255 : Int32)) from congrArg Value.int (by decide)) ?_
  refine x_in rfl rfl rfl ?_
  refine x_in rfl rfl rfl ?_
  refine x_in rfl rfl rfl ?_
  refine x_in rfl rfl rfl ?_
  refine x_in rfl rfl rfl ?_
  refine x_in rfl rfl rfl ?_
  refine x_in rfl rfl rfl ?_
  refine x_top (show _ = Value.int ((1 : Int32)) from congrArg Value.int (by decide)) ?_
  refine x_in rfl rfl rfl ?_
  refine x_top (show _ = Value.int ((1 : Int32)) from congrArg Value.int (by decide)) ?_
  refine x_in rfl rfl rfl ?_
  refine x_iinc (z := (4 : Int32)) rfl rfl (by decide) ?_
  refine x_in rfl rfl rfl ?_
  refine x_in rfl rfl rfl ?_
  refine x_in rfl rfl rfl ?_
  refine x_in rfl rfl rfl ?_
  refine x_in rfl rfl rfl ?_
  refine x_in rfl rfl rfl ?_
  refine x_in rfl rfl rfl ?_
  refine x_in rfl rfl rfl ?_
  refine x_in rfl rfl rfl ?_
  refine x_in rfl rfl rfl ?_
  refine x_in rfl rfl rfl ?_
  refine x_top (show _ = Value.int ((8 : Int32)) from congrArg Value.int (by decide)) ?_
  refine x_in rfl rfl rfl ?_
  refine x_in rfl rfl rfl ?_
  refine x_top (show _ = Value.int ((32 : Int32)) from congrArg Value.int (by decide)) ?_
  refine x_in rfl rfl rfl ?_
  refine x_in rfl rfl rfl ?_
  refine x_gen (fun v2 => ?_)
  refine x_in rfl rfl rfl ?_
  refine x_top (show _ = Value.int ((255 : Int32)) from congrArg Value.int (by decide)) ?_
  refine x_in rfl rfl rfl ?_
  refine x_in rfl rfl rfl ?_
  refine x_hs1 (by decide) ?_
  refine x_in rfl rfl rfl ?_
  refine x_in rfl rfl rfl ?_
  refine x_in rfl rfl rfl ?_
  refine x_in rfl rfl rfl ?_
  refine x_in rfl rfl rfl ?_
  refine x_top (show _ = Value.int ((1 : Int32)) from congrArg Value.int (by decide)) ?_
  refine x_in rfl rfl rfl ?_
  refine x_top (show _ = Value.int ((2 : Int32)) from congrArg Value.int (by decide)) ?_
  refine x_in rfl rfl rfl ?_
  refine x_hs0 ?_
  refine x_iinc (z := (3 : Int32)) rfl rfl (by decide) ?_
  refine x_in rfl rfl rfl ?_
  refine x_in rfl rfl rfl ?_
  refine x_in rfl rfl rfl ?_
  refine x_in rfl rfl rfl ?_
  refine x_in rfl rfl rfl ?_
  refine x_in rfl rfl rfl ?_
  refine x_in rfl rfl rfl ?_
  refine x_in rfl rfl rfl ?_
  refine x_in rfl rfl rfl ?_
  refine x_in rfl rfl rfl ?_
  refine x_in rfl rfl rfl ?_
  refine x_top (show _ = Value.int ((8 : Int32)) from congrArg Value.int (by decide)) ?_
  refine x_in rfl rfl rfl ?_
  refine x_in rfl rfl rfl ?_
  refine x_top (show _ = Value.int ((24 : Int32)) from congrArg Value.int (by decide)) ?_
  refine x_in rfl rfl rfl ?_
  refine x_in rfl rfl rfl ?_
  refine x_gen (fun v3 => ?_)
  refine x_in rfl rfl rfl ?_
  refine x_top (show _ = Value.int ((255 : Int32)) from congrArg Value.int (by decide)) ?_
  refine x_in rfl rfl rfl ?_
  refine x_in rfl rfl rfl ?_
  refine x_hs1 (by decide) ?_
  refine x_in rfl rfl rfl ?_
  refine x_in rfl rfl rfl ?_
  refine x_in rfl rfl rfl ?_
  refine x_in rfl rfl rfl ?_
  refine x_in rfl rfl rfl ?_
  refine x_top (show _ = Value.int ((1 : Int32)) from congrArg Value.int (by decide)) ?_
  refine x_in rfl rfl rfl ?_
  refine x_top (show _ = Value.int ((3 : Int32)) from congrArg Value.int (by decide)) ?_
  refine x_in rfl rfl rfl ?_
  refine x_hs0 ?_
  refine x_iinc (z := (2 : Int32)) rfl rfl (by decide) ?_
  refine x_in rfl rfl rfl ?_
  refine x_in rfl rfl rfl ?_
  refine x_in rfl rfl rfl ?_
  refine x_in rfl rfl rfl ?_
  refine x_in rfl rfl rfl ?_
  refine x_in rfl rfl rfl ?_
  refine x_in rfl rfl rfl ?_
  refine x_in rfl rfl rfl ?_
  refine x_in rfl rfl rfl ?_
  refine x_in rfl rfl rfl ?_
  refine x_in rfl rfl rfl ?_
  refine x_top (show _ = Value.int ((8 : Int32)) from congrArg Value.int (by decide)) ?_
  refine x_in rfl rfl rfl ?_
  refine x_in rfl rfl rfl ?_
  refine x_top (show _ = Value.int ((16 : Int32)) from congrArg Value.int (by decide)) ?_
  refine x_in rfl rfl rfl ?_
  refine x_in rfl rfl rfl ?_
  refine x_gen (fun v4 => ?_)
  refine x_in rfl rfl rfl ?_
  refine x_top (show _ = Value.int ((255 : Int32)) from congrArg Value.int (by decide)) ?_
  refine x_in rfl rfl rfl ?_
  refine x_in rfl rfl rfl ?_
  refine x_hs1 (by decide) ?_
  refine x_in rfl rfl rfl ?_
  refine x_in rfl rfl rfl ?_
  refine x_in rfl rfl rfl ?_
  refine x_in rfl rfl rfl ?_
  refine x_in rfl rfl rfl ?_
  refine x_top (show _ = Value.int ((1 : Int32)) from congrArg Value.int (by decide)) ?_
  refine x_in rfl rfl rfl ?_
  refine x_top (show _ = Value.int ((4 : Int32)) from congrArg Value.int (by decide)) ?_
  refine x_in rfl rfl rfl ?_
  refine x_hs0 ?_
  refine x_iinc (z := (1 : Int32)) rfl rfl (by decide) ?_
  refine x_in rfl rfl rfl ?_
  refine x_in rfl rfl rfl ?_
  refine x_in rfl rfl rfl ?_
  refine x_in rfl rfl rfl ?_
  refine x_in rfl rfl rfl ?_
  refine x_in rfl rfl rfl ?_
  refine x_in rfl rfl rfl ?_
  refine x_in rfl rfl rfl ?_
  refine x_in rfl rfl rfl ?_
  refine x_in rfl rfl rfl ?_
  refine x_in rfl rfl rfl ?_
  refine x_top (show _ = Value.int ((8 : Int32)) from congrArg Value.int (by decide)) ?_
  refine x_in rfl rfl rfl ?_
  refine x_in rfl rfl rfl ?_
  refine x_top (show _ = Value.int ((8 : Int32)) from congrArg Value.int (by decide)) ?_
  refine x_in rfl rfl rfl ?_
  refine x_in rfl rfl rfl ?_
  refine x_gen (fun v5 => ?_)
  refine x_in rfl rfl rfl ?_
  refine x_top (show _ = Value.int ((255 : Int32)) from congrArg Value.int (by decide)) ?_
  refine x_in rfl rfl rfl ?_
  refine x_in rfl rfl rfl ?_
  refine x_hs1 (by decide) ?_
  refine x_in rfl rfl rfl ?_
  refine x_in rfl rfl rfl ?_
  refine x_in rfl rfl rfl ?_
  refine x_in rfl rfl rfl ?_
  refine x_in rfl rfl rfl ?_
  refine x_top (show _ = Value.int ((1 : Int32)) from congrArg Value.int (by decide)) ?_
  refine x_in rfl rfl rfl ?_
  refine x_top (show _ = Value.int ((5 : Int32)) from congrArg Value.int (by decide)) ?_
  refine x_in rfl rfl rfl ?_
  refine x_hs0 ?_
  refine x_iinc (z := (0 : Int32)) rfl rfl (by decide) ?_
  refine x_in rfl rfl rfl ?_
  refine x_in rfl rfl rfl ?_
  refine x_in rfl rfl rfl ?_
  refine x_in rfl rfl rfl ?_
  refine x_in rfl rfl rfl ?_
  refine x_in rfl rfl rfl ?_
  refine x_in rfl rfl rfl ?_
  refine x_in rfl rfl rfl ?_
  refine x_in rfl rfl rfl ?_
  refine x_in rfl rfl rfl ?_
  refine x_in rfl rfl rfl ?_
  refine x_top (show _ = Value.int ((8 : Int32)) from congrArg Value.int (by decide)) ?_
  refine x_in rfl rfl rfl ?_
  refine x_in rfl rfl rfl ?_
  refine x_top (show _ = Value.int ((0 : Int32)) from congrArg Value.int (by decide)) ?_
  refine x_in rfl rfl rfl ?_
  refine x_in rfl rfl rfl ?_
  refine x_gen (fun v6 => ?_)
  refine x_in rfl rfl rfl ?_
  refine x_top (show _ = Value.int ((255 : Int32)) from congrArg Value.int (by decide)) ?_
  refine x_in rfl rfl rfl ?_
  refine x_in rfl rfl rfl ?_
  refine x_hs1 (by decide) ?_
  refine x_in rfl rfl rfl ?_
  refine x_in rfl rfl rfl ?_
  refine x_in rfl rfl rfl ?_
  refine x_in rfl rfl rfl ?_
  refine x_in rfl rfl rfl ?_
  refine x_top (show _ = Value.int ((1 : Int32)) from congrArg Value.int (by decide)) ?_
  refine x_in rfl rfl rfl ?_
  refine x_top (show _ = Value.int ((6 : Int32)) from congrArg Value.int (by decide)) ?_
  refine x_in rfl rfl rfl ?_
  refine x_hs0 ?_
  refine x_iinc (z := (-1 : Int32)) rfl rfl (by decide) ?_
  refine x_in rfl rfl rfl ?_
  refine x_in rfl rfl rfl ?_
  refine x_in rfl rfl rfl ?_
  refine x_in rfl rfl rfl ?_
  refine x_in rfl rfl rfl ?_
  refine x_in rfl rfl rfl ?_
  refine x_ret rfl rfl ?_
  refine x_in rfl rfl rfl ?_
  refine x_in rfl rfl rfl ?_
  refine x_in rfl rfl rfl ?_
  refine x_in rfl rfl rfl ?_
  refine x_top (show _ = Value.int ((1 : Int32)) from congrArg Value.int (by decide)) ?_
  refine x_in rfl rfl rfl ?_
  refine x_top (show _ = Value.int ((1 : Int32)) from congrArg Value.int (by decide)) ?_
  refine x_in rfl rfl rfl ?_
  refine x_in rfl rfl rfl ?_
  refine x_in rfl rfl rfl ?_
  refine x_top (show _ = Value.int ((32 : Int32)) from congrArg Value.int (by decide)) ?_
  refine x_in rfl rfl rfl ?_
  refine x_in rfl rfl rfl ?_
  refine x_in rfl rfl rfl ?_
  refine x_in rfl rfl rfl ?_
  refine x_top (show _ = Value.int ((2 : Int32)) from congrArg Value.int (by decide)) ?_
  refine x_in rfl rfl rfl ?_
  refine x_top (show _ = Value.int ((2 : Int32)) from congrArg Value.int (by decide)) ?_
  refine x_in rfl rfl rfl ?_
  refine x_in rfl rfl rfl ?_
  refine x_in rfl rfl rfl ?_
  refine x_in rfl rfl rfl ?_
  refine x_in rfl rfl rfl ?_
  refine x_in rfl rfl rfl ?_
  refine x_in rfl rfl rfl ?_
  refine x_in rfl rfl rfl ?_
  refine x_top (show _ = Value.int ((3 : Int32)) from congrArg Value.int (by decide)) ?_
  refine x_in rfl rfl rfl ?_
  refine x_top (show _ = Value.int ((3 : Int32)) from congrArg Value.int (by decide)) ?_
  refine x_in rfl rfl rfl ?_
  refine x_cV rfl rfl rfl rfl ⟨rfl, (Nat.le_of_ble_eq_true rfl), (Nat.le_of_ble_eq_true rfl)⟩ (x_enter (Nat.le_of_ble_eq_true rfl) ?_)
  refine x_in rfl rfl rfl ?_
  refine x_in rfl rfl rfl ?_
  refine x_top (show _ = Value.int ((1 : Int32)) from congrArg Value.int (by decide)) ?_
  refine x_in rfl rfl rfl ?_
  refine x_top (show _ = Value.int ((8 : Int32)) from congrArg Value.int (by decide)) ?_
  refine x_cS rfl (by decide) rfl rfl ⟨(Nat.le_of_ble_eq_true rfl), (Nat.le_of_ble_eq_true rfl)⟩ (x_enter (Nat.le_of_ble_eq_true rfl) ?_)
  refine x_in rfl rfl rfl ?_
  refine x_in rfl rfl rfl ?_
  refine x_in rfl rfl rfl ?_
  refine x_in rfl rfl rfl ?_
  refine x_in rfl rfl rfl ?_
  refine x_in rfl rfl rfl ?_
  refine x_in rfl rfl rfl ?_
  refine x_top (show _ = Value.int ((1 : Int32)) from congrArg Value.int (by decide)) ?_
  refine x_in rfl rfl rfl ?_
  refine x_ret rfl rfl ?_
  refine x_in rfl rfl rfl ?_
  refine x_in rfl rfl rfl ?_
  refine x_in rfl rfl rfl ?_
  refine x_in rfl rfl rfl ?_
  refine x_top (show _ = Value.int ((6 : Int32)) from congrArg Value.int (by decide)) ?_
  refine x_in rfl rfl rfl ?_
  refine x_in rfl rfl rfl ?_
  refine x_in rfl rfl rfl ?_
  refine x_top (show _ = Value.int ((6 : Int32)) from congrArg Value.int (by decide)) ?_
  refine x_in rfl rfl rfl ?_
  refine x_top (show _ = Value.int ((160 : Int32)) from congrArg Value.int (by decide)) ?_
  refine x_in rfl rfl rfl ?_
  refine x_in rfl rfl rfl ?_
  refine x_in rfl rfl rfl ?_
  refine x_top (show _ = Value.int ((1 : Int32)) from congrArg Value.int (by decide)) ?_
  refine x_in rfl rfl rfl ?_
  refine x_top (show _ = Value.int ((5 : Int32)) from congrArg Value.int (by decide)) ?_
  refine x_in rfl rfl rfl ?_
  refine x_in rfl rfl rfl ?_
  refine x_in rfl rfl rfl ?_
  refine x_in rfl rfl rfl ?_
  refine x_in rfl rfl rfl ?_
  refine x_in rfl rfl rfl ?_
  refine x_top (show _ = Value.int ((10 : Int32)) from congrArg Value.int (by decide)) ?_
  refine x_in rfl rfl rfl ?_
  refine x_in rfl rfl rfl ?_
  refine x_in rfl rfl rfl ?_
  refine x_top (show _ = Value.int ((6 : Int32)) from congrArg Value.int (by decide)) ?_
  refine x_in rfl rfl rfl ?_
  refine x_in rfl rfl rfl ?_
  refine x_top (show _ = Value.int ((10 : Int32)) from congrArg Value.int (by decide)) ?_
  refine x_in rfl rfl rfl ?_
  refine x_in rfl rfl rfl ?_
  refine x_top (show _ = Value.int ((8 : Int32)) from congrArg Value.int (by decide)) ?_
  refine x_in rfl rfl rfl ?_
  refine x_in rfl rfl rfl ?_
  refine x_top (show _ = Value.int ((40 : Int32)) from congrArg Value.int (by decide)) ?_
  refine x_in rfl rfl rfl ?_
  refine x_in rfl rfl rfl ?_
  refine x_in rfl rfl rfl ?_
  refine x_in rfl rfl rfl ?_
  refine x_gen (fun v7 => ?_)
  refine x_in rfl rfl rfl ?_
  refine x_in rfl rfl rfl ?_
  refine x_in rfl rfl rfl ?_
  refine x_in rfl rfl rfl ?_
  refine x_top (show _ = Value.int ((6 : Int32)) from congrArg Value.int (by decide)) ?_
  refine x_in rfl rfl rfl ?_
  refine x_in rfl rfl rfl ?_
  refine x_in rfl rfl rfl ?_
  refine x_top (show _ = Value.int ((1 : Int32)) from congrArg Value.int (by decide)) ?_
  refine x_in rfl rfl rfl ?_
  refine x_top (show _ = Value.int ((1 : Int32)) from congrArg Value.int (by decide)) ?_
  refine x_in rfl rfl rfl ?_
  refine x_hs0 ?_
  refine x_iinc (z := (4 : Int32)) rfl rfl (by decide) ?_
  refine x_in rfl rfl rfl ?_
  refine x_in rfl rfl rfl ?_
  refine x_in rfl rfl rfl ?_
  refine x_in rfl rfl rfl ?_
  refine x_in rfl rfl rfl ?_
  refine x_in rfl rfl rfl ?_
  refine x_top (show _ = Value.int ((10 : Int32)) from congrArg Value.int (by decide)) ?_
  refine x_in rfl rfl rfl ?_
  refine x_in rfl rfl rfl ?_
  refine x_in rfl rfl rfl ?_
  refine x_top (show _ = Value.int ((6 : Int32)) from congrArg Value.int (by decide)) ?_
  refine x_in rfl rfl rfl ?_
  refine x_in rfl rfl rfl ?_
  refine x_top (show _ = Value.int ((11 : Int32)) from congrArg Value.int (by decide)) ?_
  refine x_in rfl rfl rfl ?_
  refine x_in rfl rfl rfl ?_
  refine x_top (show _ = Value.int ((8 : Int32)) from congrArg Value.int (by decide)) ?_
  refine x_in rfl rfl rfl ?_
  refine x_in rfl rfl rfl ?_
  refine x_top (show _ = Value.int ((32 : Int32)) from congrArg Value.int (by decide)) ?_
  refine x_in rfl rfl rfl ?_
  refine x_in rfl rfl rfl ?_
  refine x_in rfl rfl rfl ?_
  refine x_in rfl rfl rfl ?_
  refine x_gen (fun v8 => ?_)
  refine x_in rfl rfl rfl ?_
  refine x_hs0 ?_
  refine x_in rfl rfl rfl ?_
  refine x_in rfl rfl rfl ?_
  refine x_in rfl rfl rfl ?_
  refine x_top (show _ = Value.int ((6 : Int32)) from congrArg Value.int (by decide)) ?_
  refine x_in rfl rfl rfl ?_
  refine x_in rfl rfl rfl ?_
  refine x_in rfl rfl rfl ?_
  refine x_top (show _ = Value.int ((1 : Int32)) from congrArg Value.int (by decide)) ?_
  refine x_in rfl rfl rfl ?_
  refine x_top (show _ = Value.int ((2 : Int32)) from congrArg Value.int (by decide)) ?_
  refine x_in rfl rfl rfl ?_
  refine x_hs0 ?_
  refine x_iinc (z := (3 : Int32)) rfl rfl (by decide) ?_
  refine x_in rfl rfl rfl ?_
  refine x_in rfl rfl rfl ?_
  refine x_in rfl rfl rfl ?_
  refine x_in rfl rfl rfl ?_
  refine x_in rfl rfl rfl ?_
  refine x_in rfl rfl rfl ?_
  refine x_top (show _ = Value.int ((10 : Int32)) from congrArg Value.int (by decide)) ?_
  refine x_in rfl rfl rfl ?_
  refine x_in rfl rfl rfl ?_
  refine x_in rfl rfl rfl ?_
  refine x_top (show _ = Value.int ((6 : Int32)) from congrArg Value.int (by decide)) ?_
  refine x_in rfl rfl rfl ?_
  refine x_in rfl rfl rfl ?_
  refine x_top (show _ = Value.int ((12 : Int32)) from congrArg Value.int (by decide)) ?_
  refine x_in rfl rfl rfl ?_
  refine x_in rfl rfl rfl ?_
  refine x_top (show _ = Value.int ((8 : Int32)) from congrArg Value.int (by decide)) ?_
  refine x_in rfl rfl rfl ?_
  refine x_in rfl rfl rfl ?_
  refine x_top (show _ = Value.int ((24 : Int32)) from congrArg Value.int (by decide)) ?_
  refine x_in rfl rfl rfl ?_
  refine x_in rfl rfl rfl ?_
  refine x_in rfl rfl rfl ?_
  refine x_in rfl rfl rfl ?_
  refine x_gen (fun v9 => ?_)
  refine x_in rfl rfl rfl ?_
  refine x_hs0 ?_
  refine x_in rfl rfl rfl ?_
  refine x_in rfl rfl rfl ?_
  refine x_in rfl rfl rfl ?_
  refine x_top (show _ = Value.int ((6 : Int32)) from congrArg Value.int (by decide)) ?_
  refine x_in rfl rfl rfl ?_
  refine x_in rfl rfl rfl ?_
  refine x_in rfl rfl rfl ?_
  refine x_top (show _ = Value.int ((1 : Int32)) from congrArg Value.int (by decide)) ?_
  refine x_in rfl rfl rfl ?_
  refine x_top (show _ = Value.int ((3 : Int32)) from congrArg Value.int (by decide)) ?_
  refine x_in rfl rfl rfl ?_
  refine x_hs0 ?_
  refine x_iinc (z := (2 : Int32)) rfl rfl (by decide) ?_
  refine x_in rfl rfl rfl ?_
  refine x_in rfl rfl rfl ?_
  refine x_in rfl rfl rfl ?_
  refine x_in rfl rfl rfl ?_
  refine x_in rfl rfl rfl ?_
  refine x_in rfl rfl rfl ?_
  refine x_top (show _ = Value.int ((10 : Int32)) from congrArg Value.int (by decide)) ?_
  refine x_in rfl rfl rfl ?_
  refine x_in rfl rfl rfl ?_
  refine x_in rfl rfl rfl ?_
  refine x_top (show _ = Value.int ((6 : Int32)) from congrArg Value.int (by decide)) ?_
  refine x_in rfl rfl rfl ?_
  refine x_in rfl rfl rfl ?_
  refine x_top (show _ = Value.int ((13 : Int32)) from congrArg Value.int (by decide)) ?_
  refine x_in rfl rfl rfl ?_
  refine x_in rfl rfl rfl ?_
  refine x_top (show _ = Value.int ((8 : Int32)) from congrArg Value.int (by decide)) ?_
  refine x_in rfl rfl rfl ?_
  refine x_in rfl rfl rfl ?_
  refine x_top (show _ = Value.int ((16 : Int32)) from congrArg Value.int (by decide)) ?_
  refine x_in rfl rfl rfl ?_
  refine x_in rfl rfl rfl ?_
  refine x_in rfl rfl rfl ?_
  refine x_in rfl rfl rfl ?_
  refine x_gen (fun v10 => ?_)
  refine x_in rfl rfl rfl ?_
  refine x_hs0 ?_
  refine x_in rfl rfl rfl ?_
  refine x_in rfl rfl rfl ?_
  refine x_in rfl rfl rfl ?_
  refine x_top (show _ = Value.int ((6 : Int32)) from congrArg Value.int (by decide)) ?_
  refine x_in rfl rfl rfl ?_
  refine x_in rfl rfl rfl ?_
  refine x_in rfl rfl rfl ?_
  refine x_top (show _ = Value.int ((1 : Int32)) from congrArg Value.int (by decide)) ?_
  refine x_in rfl rfl rfl ?_
  refine x_top (show _ = Value.int ((4 : Int32)) from congrArg Value.int (by decide)) ?_
  refine x_in rfl rfl rfl ?_
  refine x_hs0 ?_
  refine x_iinc (z := (1 : Int32)) rfl rfl (by decide) ?_
  refine x_in rfl rfl rfl ?_
  refine x_in rfl rfl rfl ?_
  refine x_in rfl rfl rfl ?_
  refine x_in rfl rfl rfl ?_
  refine x_in rfl rfl rfl ?_
  refine x_in rfl rfl rfl ?_
  refine x_top (show _ = Value.int ((10 : Int32)) from congrArg Value.int (by decide)) ?_
  refine x_in rfl rfl rfl ?_
  refine x_in rfl rfl rfl ?_
  refine x_in rfl rfl rfl ?_
  refine x_top (show _ = Value.int ((6 : Int32)) from congrArg Value.int (by decide)) ?_
  refine x_in rfl rfl rfl ?_
  refine x_in rfl rfl rfl ?_
  refine x_top (show _ = Value.int ((14 : Int32)) from congrArg Value.int (by decide)) ?_
  refine x_in rfl rfl rfl ?_
  refine x_in rfl rfl rfl ?_
  refine x_top (show _ = Value.int ((8 : Int32)) from congrArg Value.int (by decide)) ?_
  refine x_in rfl rfl rfl ?_
  refine x_in rfl rfl rfl ?_
  refine x_top (show _ = Value.int ((8 : Int32)) from congrArg Value.int (by decide)) ?_
  refine x_in rfl rfl rfl ?_
  refine x_in rfl rfl rfl ?_
  refine x_in rfl rfl rfl ?_
  refine x_in rfl rfl rfl ?_
  refine x_gen (fun v11 => ?_)
  refine x_in rfl rfl rfl ?_
  refine x_hs0 ?_
  refine x_in rfl rfl rfl ?_
  refine x_in rfl rfl rfl ?_
  refine x_in rfl rfl rfl ?_
  refine x_top (show _ = Value.int ((6 : Int32)) from congrArg Value.int (by decide)) ?_
  refine x_in rfl rfl rfl ?_
  refine x_in rfl rfl rfl ?_
  refine x_in rfl rfl rfl ?_
  refine x_top (show _ = Value.int ((1 : Int32)) from congrArg Value.int (by decide)) ?_
  refine x_in rfl rfl rfl ?_
  refine x_top (show _ = Value.int ((5 : Int32)) from congrArg Value.int (by decide)) ?_
  refine x_in rfl rfl rfl ?_
  refine x_hs0 ?_
  refine x_iinc (z := (0 : Int32)) rfl rfl (by decide) ?_
  refine x_in rfl rfl rfl ?_
  refine x_in rfl rfl rfl ?_
  refine x_in rfl rfl rfl ?_
  refine x_in rfl rfl rfl ?_
  refine x_in rfl rfl rfl ?_
  refine x_in rfl rfl rfl ?_
  refine x_top (show _ = Value.int ((10 : Int32)) from congrArg Value.int (by decide)) ?_
  refine x_in rfl rfl rfl ?_
  refine x_in rfl rfl rfl ?_
  refine x_in rfl rfl rfl ?_
  refine x_top (show _ = Value.int ((6 : Int32)) from congrArg Value.int (by decide)) ?_
  refine x_in rfl rfl rfl ?_
  refine x_in rfl rfl rfl ?_
  refine x_top (show _ = Value.int ((15 : Int32)) from congrArg Value.int (by decide)) ?_
  refine x_in rfl rfl rfl ?_
  refine x_in rfl rfl rfl ?_
  refine x_top (show _ = Value.int ((8 : Int32)) from congrArg Value.int (by decide)) ?_
  refine x_in rfl rfl rfl ?_
  refine x_in rfl rfl rfl ?_
  refine x_top (show _ = Value.int ((0 : Int32)) from congrArg Value.int (by decide)) ?_
  refine x_in rfl rfl rfl ?_
  refine x_in rfl rfl rfl ?_
  refine x_in rfl rfl rfl ?_
  refine x_in rfl rfl rfl ?_
  refine x_gen (fun v12 => ?_)
  refine x_in rfl rfl rfl ?_
  refine x_hs0 ?_
  refine x_in rfl rfl rfl ?_
  refine x_in rfl rfl rfl ?_
  refine x_in rfl rfl rfl ?_
  refine x_top (show _ = Value.int ((6 : Int32)) from congrArg Value.int (by decide)) ?_
  refine x_in rfl rfl rfl ?_
  refine x_in rfl rfl rfl ?_
  refine x_in rfl rfl rfl ?_
  refine x_top (show _ = Value.int ((1 : Int32)) from congrArg Value.int (by decide)) ?_
  refine x_in rfl rfl rfl ?_
  refine x_top (show _ = Value.int ((6 : Int32)) from congrArg Value.int (by decide)) ?_
  refine x_in rfl rfl rfl ?_
  refine x_hs0 ?_
  refine x_iinc (z := (-1 : Int32)) rfl rfl (by decide) ?_
  refine x_in rfl rfl rfl ?_
  refine x_in rfl rfl rfl ?_
  refine x_in rfl rfl rfl ?_
  refine x_in rfl rfl rfl ?_
  refine x_in rfl rfl rfl ?_
  refine x_in rfl rfl rfl ?_
  refine x_top (show _ = Value.int ((6 : Int32)) from congrArg Value.int (by decide)) ?_
  refine x_in rfl rfl rfl ?_
  refine x_ret rfl rfl ?_
  refine x_in rfl rfl rfl ?_
  refine x_iinc (z := (6 : Int32)) rfl rfl (by decide) ?_
  refine x_in rfl rfl rfl ?_
  refine x_in rfl rfl rfl ?_
  refine x_in rfl rfl rfl ?_
  refine x_in rfl rfl rfl ?_
  refine x_top (show _ = Value.int ((6 : Int32)) from rfl) ?_
  refine x_in rfl rfl rfl ?_
  refine x_top (show _ = Value.int ((6 : Int32)) from congrArg Value.int (by decide)) ?_
  refine x_in rfl rfl rfl ?_
  refine x_top (show _ = Value.int ((0 : Int32)) from congrArg Value.int (by decide)) ?_
  refine x_in rfl rfl rfl ?_
  refine x_in rfl rfl rfl ?_
  refine x_top (show _ = Value.int ((1 : Int32)) from congrArg Value.int (by decide)) ?_
  refine x_ret rfl rfl ?_
  exact ⟨rfl, by decide, by decide⟩
