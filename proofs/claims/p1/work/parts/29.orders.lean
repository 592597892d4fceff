/-! how many bits, where it does not matter, and of none -/
set_option maxRecDepth 100000 in
set_option maxHeartbeats 40000000 in
theorem c_bc {X : Nat → List Int32} {d u w : Nat} {x : Int32} {h : m_H} {K : Nat → Nat → m_R → Prop} (k : ∀ v : Int32, K u w (some (.int v), h)) : x_R X (d + 1) 179 u w [.int x] h K := by
  refine x_enter (Nat.le_of_ble_eq_true rfl) ?_
  refine x_in rfl rfl rfl ?_
  refine x_in rfl rfl rfl ?_
  refine x_in rfl rfl rfl ?_
  refine x_top (show _ = Value.int ((1 : Int32)) from congrArg Value.int (by decide)) ?_
  refine x_in rfl rfl rfl ?_
  refine x_in rfl rfl rfl ?_
  refine x_top (show _ = Value.int ((1431655765 : Int32)) from congrArg Value.int (by decide)) ?_
  refine x_in rfl rfl rfl ?_
  refine x_in rfl rfl rfl ?_
  refine x_in rfl rfl rfl ?_
  refine x_in rfl rfl rfl ?_
  refine x_in rfl rfl rfl ?_
  refine x_top (show _ = Value.int ((858993459 : Int32)) from congrArg Value.int (by decide)) ?_
  refine x_in rfl rfl rfl ?_
  refine x_in rfl rfl rfl ?_
  refine x_in rfl rfl rfl ?_
  refine x_top (show _ = Value.int ((2 : Int32)) from congrArg Value.int (by decide)) ?_
  refine x_in rfl rfl rfl ?_
  refine x_in rfl rfl rfl ?_
  refine x_top (show _ = Value.int ((858993459 : Int32)) from congrArg Value.int (by decide)) ?_
  refine x_in rfl rfl rfl ?_
  refine x_in rfl rfl rfl ?_
  refine x_in rfl rfl rfl ?_
  refine x_in rfl rfl rfl ?_
  refine x_in rfl rfl rfl ?_
  refine x_in rfl rfl rfl ?_
  refine x_top (show _ = Value.int ((4 : Int32)) from congrArg Value.int (by decide)) ?_
  refine x_in rfl rfl rfl ?_
  refine x_in rfl rfl rfl ?_
  refine x_in rfl rfl rfl ?_
  refine x_top (show _ = Value.int ((252645135 : Int32)) from congrArg Value.int (by decide)) ?_
  refine x_in rfl rfl rfl ?_
  refine x_in rfl rfl rfl ?_
  refine x_in rfl rfl rfl ?_
  refine x_in rfl rfl rfl ?_
  refine x_in rfl rfl rfl ?_
  refine x_top (show _ = Value.int ((8 : Int32)) from congrArg Value.int (by decide)) ?_
  refine x_in rfl rfl rfl ?_
  refine x_in rfl rfl rfl ?_
  refine x_in rfl rfl rfl ?_
  refine x_in rfl rfl rfl ?_
  refine x_in rfl rfl rfl ?_
  refine x_in rfl rfl rfl ?_
  refine x_top (show _ = Value.int ((16 : Int32)) from congrArg Value.int (by decide)) ?_
  refine x_in rfl rfl rfl ?_
  refine x_in rfl rfl rfl ?_
  refine x_in rfl rfl rfl ?_
  refine x_in rfl rfl rfl ?_
  refine x_in rfl rfl rfl ?_
  refine x_top (show _ = Value.int ((63 : Int32)) from congrArg Value.int (by decide)) ?_
  refine x_in rfl rfl rfl ?_
  refine x_gen (fun v => ?_)
  refine x_ret rfl rfl ?_
  exact k v
set_option maxRecDepth 100000 in
set_option maxHeartbeats 40000000 in
theorem c_bc0 {X : Nat → List Int32} {d u w : Nat} {h : m_H} {K : Nat → Nat → m_R → Prop} (k : K u w (some (.int 0), h)) : x_R X (d + 1) 179 u w [.int 0] h K := by
  refine x_enter (Nat.le_of_ble_eq_true rfl) ?_
  refine x_in rfl rfl rfl ?_
  refine x_in rfl rfl rfl ?_
  refine x_in rfl rfl rfl ?_
  refine x_top (show _ = Value.int ((1 : Int32)) from congrArg Value.int (by decide)) ?_
  refine x_in rfl rfl rfl ?_
  refine x_top (show _ = Value.int ((0 : Int32)) from congrArg Value.int (by decide)) ?_
  refine x_in rfl rfl rfl ?_
  refine x_top (show _ = Value.int ((1431655765 : Int32)) from congrArg Value.int (by decide)) ?_
  refine x_in rfl rfl rfl ?_
  refine x_top (show _ = Value.int ((0 : Int32)) from congrArg Value.int (by decide)) ?_
  refine x_in rfl rfl rfl ?_
  refine x_top (show _ = Value.int ((0 : Int32)) from congrArg Value.int (by decide)) ?_
  refine x_in rfl rfl rfl ?_
  refine x_in rfl rfl rfl ?_
  refine x_in rfl rfl rfl ?_
  refine x_top (show _ = Value.int ((858993459 : Int32)) from congrArg Value.int (by decide)) ?_
  refine x_in rfl rfl rfl ?_
  refine x_top (show _ = Value.int ((0 : Int32)) from congrArg Value.int (by decide)) ?_
  refine x_in rfl rfl rfl ?_
  refine x_in rfl rfl rfl ?_
  refine x_top (show _ = Value.int ((2 : Int32)) from congrArg Value.int (by decide)) ?_
  refine x_in rfl rfl rfl ?_
  refine x_top (show _ = Value.int ((0 : Int32)) from congrArg Value.int (by decide)) ?_
  refine x_in rfl rfl rfl ?_
  refine x_top (show _ = Value.int ((858993459 : Int32)) from congrArg Value.int (by decide)) ?_
  refine x_in rfl rfl rfl ?_
  refine x_top (show _ = Value.int ((0 : Int32)) from congrArg Value.int (by decide)) ?_
  refine x_in rfl rfl rfl ?_
  refine x_top (show _ = Value.int ((0 : Int32)) from congrArg Value.int (by decide)) ?_
  refine x_in rfl rfl rfl ?_
  refine x_in rfl rfl rfl ?_
  refine x_in rfl rfl rfl ?_
  refine x_in rfl rfl rfl ?_
  refine x_top (show _ = Value.int ((4 : Int32)) from congrArg Value.int (by decide)) ?_
  refine x_in rfl rfl rfl ?_
  refine x_top (show _ = Value.int ((0 : Int32)) from congrArg Value.int (by decide)) ?_
  refine x_in rfl rfl rfl ?_
  refine x_top (show _ = Value.int ((0 : Int32)) from congrArg Value.int (by decide)) ?_
  refine x_in rfl rfl rfl ?_
  refine x_top (show _ = Value.int ((252645135 : Int32)) from congrArg Value.int (by decide)) ?_
  refine x_in rfl rfl rfl ?_
  refine x_top (show _ = Value.int ((0 : Int32)) from congrArg Value.int (by decide)) ?_
  refine x_in rfl rfl rfl ?_
  refine x_in rfl rfl rfl ?_
  refine x_in rfl rfl rfl ?_
  refine x_in rfl rfl rfl ?_
  refine x_top (show _ = Value.int ((8 : Int32)) from congrArg Value.int (by decide)) ?_
  refine x_in rfl rfl rfl ?_
  refine x_top (show _ = Value.int ((0 : Int32)) from congrArg Value.int (by decide)) ?_
  refine x_in rfl rfl rfl ?_
  refine x_top (show _ = Value.int ((0 : Int32)) from congrArg Value.int (by decide)) ?_
  refine x_in rfl rfl rfl ?_
  refine x_in rfl rfl rfl ?_
  refine x_in rfl rfl rfl ?_
  refine x_in rfl rfl rfl ?_
  refine x_top (show _ = Value.int ((16 : Int32)) from congrArg Value.int (by decide)) ?_
  refine x_in rfl rfl rfl ?_
  refine x_top (show _ = Value.int ((0 : Int32)) from congrArg Value.int (by decide)) ?_
  refine x_in rfl rfl rfl ?_
  refine x_top (show _ = Value.int ((0 : Int32)) from congrArg Value.int (by decide)) ?_
  refine x_in rfl rfl rfl ?_
  refine x_in rfl rfl rfl ?_
  refine x_in rfl rfl rfl ?_
  refine x_top (show _ = Value.int ((63 : Int32)) from congrArg Value.int (by decide)) ?_
  refine x_in rfl rfl rfl ?_
  refine x_top (show _ = Value.int ((0 : Int32)) from congrArg Value.int (by decide)) ?_
  refine x_ret rfl rfl ?_
  exact k
set_option maxRecDepth 100000 in
set_option maxHeartbeats 40000000 in
theorem c_c10 {X : Nat → List Int32} {d u w : Nat} {h : m_H} {K : Nat → Nat → m_R → Prop} (k : K u w (some (.int 0), h)) : x_R X (d + 1) 110 u w [.int 0] h K := by
  refine x_enter (Nat.le_of_ble_eq_true rfl) ?_
  refine x_in rfl rfl rfl ?_
  refine x_top (show _ = Value.int ((0 : Int32)) from congrArg Value.int (by decide)) ?_
  refine x_in rfl rfl rfl ?_
  refine x_in rfl rfl rfl ?_
  refine x_top (show _ = Value.int ((0 : Int32)) from congrArg Value.int (by decide)) ?_
  refine x_in rfl rfl rfl ?_
  refine x_in rfl rfl rfl ?_
  refine x_in rfl rfl rfl ?_
  refine x_top (show _ = Value.int ((16 : Int32)) from congrArg Value.int (by decide)) ?_
  refine x_in rfl rfl rfl ?_
  refine x_in rfl rfl rfl ?_
  refine x_in rfl rfl rfl ?_
  refine x_in rfl rfl rfl ?_
  refine x_in rfl rfl rfl ?_
  refine x_top (show _ = Value.int ((0 : Int32)) from congrArg Value.int (by decide)) ?_
  refine x_in rfl rfl rfl ?_
  refine x_top (show _ = Value.int ((1 : Int32)) from congrArg Value.int (by decide)) ?_
  refine x_in rfl rfl rfl ?_
  refine x_top (show _ = Value.int ((0 : Int32)) from congrArg Value.int (by decide)) ?_
  refine x_in rfl rfl rfl ?_
  refine x_top (show _ = Value.int ((0 : Int32)) from congrArg Value.int (by decide)) ?_
  refine x_in rfl rfl rfl ?_
  refine x_iinc (z := (1 : Int32)) rfl rfl (by decide) ?_
  refine x_in rfl rfl rfl ?_
  refine x_in rfl rfl rfl ?_
  refine x_in rfl rfl rfl ?_
  refine x_top (show _ = Value.int ((16 : Int32)) from congrArg Value.int (by decide)) ?_
  refine x_in rfl rfl rfl ?_
  refine x_in rfl rfl rfl ?_
  refine x_in rfl rfl rfl ?_
  refine x_in rfl rfl rfl ?_
  refine x_in rfl rfl rfl ?_
  refine x_top (show _ = Value.int ((0 : Int32)) from congrArg Value.int (by decide)) ?_
  refine x_in rfl rfl rfl ?_
  refine x_top (show _ = Value.int ((1 : Int32)) from congrArg Value.int (by decide)) ?_
  refine x_in rfl rfl rfl ?_
  refine x_top (show _ = Value.int ((0 : Int32)) from congrArg Value.int (by decide)) ?_
  refine x_in rfl rfl rfl ?_
  refine x_top (show _ = Value.int ((0 : Int32)) from congrArg Value.int (by decide)) ?_
  refine x_in rfl rfl rfl ?_
  refine x_iinc (z := (2 : Int32)) rfl rfl (by decide) ?_
  refine x_in rfl rfl rfl ?_
  refine x_in rfl rfl rfl ?_
  refine x_in rfl rfl rfl ?_
  refine x_top (show _ = Value.int ((16 : Int32)) from congrArg Value.int (by decide)) ?_
  refine x_in rfl rfl rfl ?_
  refine x_in rfl rfl rfl ?_
  refine x_in rfl rfl rfl ?_
  refine x_in rfl rfl rfl ?_
  refine x_in rfl rfl rfl ?_
  refine x_top (show _ = Value.int ((0 : Int32)) from congrArg Value.int (by decide)) ?_
  refine x_in rfl rfl rfl ?_
  refine x_top (show _ = Value.int ((1 : Int32)) from congrArg Value.int (by decide)) ?_
  refine x_in rfl rfl rfl ?_
  refine x_top (show _ = Value.int ((0 : Int32)) from congrArg Value.int (by decide)) ?_
  refine x_in rfl rfl rfl ?_
  refine x_top (show _ = Value.int ((0 : Int32)) from congrArg Value.int (by decide)) ?_
  refine x_in rfl rfl rfl ?_
  refine x_iinc (z := (3 : Int32)) rfl rfl (by decide) ?_
  refine x_in rfl rfl rfl ?_
  refine x_in rfl rfl rfl ?_
  refine x_in rfl rfl rfl ?_
  refine x_top (show _ = Value.int ((16 : Int32)) from congrArg Value.int (by decide)) ?_
  refine x_in rfl rfl rfl ?_
  refine x_in rfl rfl rfl ?_
  refine x_in rfl rfl rfl ?_
  refine x_in rfl rfl rfl ?_
  refine x_in rfl rfl rfl ?_
  refine x_top (show _ = Value.int ((0 : Int32)) from congrArg Value.int (by decide)) ?_
  refine x_in rfl rfl rfl ?_
  refine x_top (show _ = Value.int ((1 : Int32)) from congrArg Value.int (by decide)) ?_
  refine x_in rfl rfl rfl ?_
  refine x_top (show _ = Value.int ((0 : Int32)) from congrArg Value.int (by decide)) ?_
  refine x_in rfl rfl rfl ?_
  refine x_top (show _ = Value.int ((0 : Int32)) from congrArg Value.int (by decide)) ?_
  refine x_in rfl rfl rfl ?_
  refine x_iinc (z := (4 : Int32)) rfl rfl (by decide) ?_
  refine x_in rfl rfl rfl ?_
  refine x_in rfl rfl rfl ?_
  refine x_in rfl rfl rfl ?_
  refine x_top (show _ = Value.int ((16 : Int32)) from congrArg Value.int (by decide)) ?_
  refine x_in rfl rfl rfl ?_
  refine x_in rfl rfl rfl ?_
  refine x_in rfl rfl rfl ?_
  refine x_in rfl rfl rfl ?_
  refine x_in rfl rfl rfl ?_
  refine x_top (show _ = Value.int ((0 : Int32)) from congrArg Value.int (by decide)) ?_
  refine x_in rfl rfl rfl ?_
  refine x_top (show _ = Value.int ((1 : Int32)) from congrArg Value.int (by decide)) ?_
  refine x_in rfl rfl rfl ?_
  refine x_top (show _ = Value.int ((0 : Int32)) from congrArg Value.int (by decide)) ?_
  refine x_in rfl rfl rfl ?_
  refine x_top (show _ = Value.int ((0 : Int32)) from congrArg Value.int (by decide)) ?_
  refine x_in rfl rfl rfl ?_
  refine x_iinc (z := (5 : Int32)) rfl rfl (by decide) ?_
  refine x_in rfl rfl rfl ?_
  refine x_in rfl rfl rfl ?_
  refine x_in rfl rfl rfl ?_
  refine x_top (show _ = Value.int ((16 : Int32)) from congrArg Value.int (by decide)) ?_
  refine x_in rfl rfl rfl ?_
  refine x_in rfl rfl rfl ?_
  refine x_in rfl rfl rfl ?_
  refine x_in rfl rfl rfl ?_
  refine x_in rfl rfl rfl ?_
  refine x_top (show _ = Value.int ((0 : Int32)) from congrArg Value.int (by decide)) ?_
  refine x_in rfl rfl rfl ?_
  refine x_top (show _ = Value.int ((1 : Int32)) from congrArg Value.int (by decide)) ?_
  refine x_in rfl rfl rfl ?_
  refine x_top (show _ = Value.int ((0 : Int32)) from congrArg Value.int (by decide)) ?_
  refine x_in rfl rfl rfl ?_
  refine x_top (show _ = Value.int ((0 : Int32)) from congrArg Value.int (by decide)) ?_
  refine x_in rfl rfl rfl ?_
  refine x_iinc (z := (6 : Int32)) rfl rfl (by decide) ?_
  refine x_in rfl rfl rfl ?_
  refine x_in rfl rfl rfl ?_
  refine x_in rfl rfl rfl ?_
  refine x_top (show _ = Value.int ((16 : Int32)) from congrArg Value.int (by decide)) ?_
  refine x_in rfl rfl rfl ?_
  refine x_in rfl rfl rfl ?_
  refine x_in rfl rfl rfl ?_
  refine x_in rfl rfl rfl ?_
  refine x_in rfl rfl rfl ?_
  refine x_top (show _ = Value.int ((0 : Int32)) from congrArg Value.int (by decide)) ?_
  refine x_in rfl rfl rfl ?_
  refine x_top (show _ = Value.int ((1 : Int32)) from congrArg Value.int (by decide)) ?_
  refine x_in rfl rfl rfl ?_
  refine x_top (show _ = Value.int ((0 : Int32)) from congrArg Value.int (by decide)) ?_
  refine x_in rfl rfl rfl ?_
  refine x_top (show _ = Value.int ((0 : Int32)) from congrArg Value.int (by decide)) ?_
  refine x_in rfl rfl rfl ?_
  refine x_iinc (z := (7 : Int32)) rfl rfl (by decide) ?_
  refine x_in rfl rfl rfl ?_
  refine x_in rfl rfl rfl ?_
  refine x_in rfl rfl rfl ?_
  refine x_top (show _ = Value.int ((16 : Int32)) from congrArg Value.int (by decide)) ?_
  refine x_in rfl rfl rfl ?_
  refine x_in rfl rfl rfl ?_
  refine x_in rfl rfl rfl ?_
  refine x_in rfl rfl rfl ?_
  refine x_in rfl rfl rfl ?_
  refine x_top (show _ = Value.int ((0 : Int32)) from congrArg Value.int (by decide)) ?_
  refine x_in rfl rfl rfl ?_
  refine x_top (show _ = Value.int ((1 : Int32)) from congrArg Value.int (by decide)) ?_
  refine x_in rfl rfl rfl ?_
  refine x_top (show _ = Value.int ((0 : Int32)) from congrArg Value.int (by decide)) ?_
  refine x_in rfl rfl rfl ?_
  refine x_top (show _ = Value.int ((0 : Int32)) from congrArg Value.int (by decide)) ?_
  refine x_in rfl rfl rfl ?_
  refine x_iinc (z := (8 : Int32)) rfl rfl (by decide) ?_
  refine x_in rfl rfl rfl ?_
  refine x_in rfl rfl rfl ?_
  refine x_in rfl rfl rfl ?_
  refine x_top (show _ = Value.int ((16 : Int32)) from congrArg Value.int (by decide)) ?_
  refine x_in rfl rfl rfl ?_
  refine x_in rfl rfl rfl ?_
  refine x_in rfl rfl rfl ?_
  refine x_in rfl rfl rfl ?_
  refine x_in rfl rfl rfl ?_
  refine x_top (show _ = Value.int ((0 : Int32)) from congrArg Value.int (by decide)) ?_
  refine x_in rfl rfl rfl ?_
  refine x_top (show _ = Value.int ((1 : Int32)) from congrArg Value.int (by decide)) ?_
  refine x_in rfl rfl rfl ?_
  refine x_top (show _ = Value.int ((0 : Int32)) from congrArg Value.int (by decide)) ?_
  refine x_in rfl rfl rfl ?_
  refine x_top (show _ = Value.int ((0 : Int32)) from congrArg Value.int (by decide)) ?_
  refine x_in rfl rfl rfl ?_
  refine x_iinc (z := (9 : Int32)) rfl rfl (by decide) ?_
  refine x_in rfl rfl rfl ?_
  refine x_in rfl rfl rfl ?_
  refine x_in rfl rfl rfl ?_
  refine x_top (show _ = Value.int ((16 : Int32)) from congrArg Value.int (by decide)) ?_
  refine x_in rfl rfl rfl ?_
  refine x_in rfl rfl rfl ?_
  refine x_in rfl rfl rfl ?_
  refine x_in rfl rfl rfl ?_
  refine x_in rfl rfl rfl ?_
  refine x_top (show _ = Value.int ((0 : Int32)) from congrArg Value.int (by decide)) ?_
  refine x_in rfl rfl rfl ?_
  refine x_top (show _ = Value.int ((1 : Int32)) from congrArg Value.int (by decide)) ?_
  refine x_in rfl rfl rfl ?_
  refine x_top (show _ = Value.int ((0 : Int32)) from congrArg Value.int (by decide)) ?_
  refine x_in rfl rfl rfl ?_
  refine x_top (show _ = Value.int ((0 : Int32)) from congrArg Value.int (by decide)) ?_
  refine x_in rfl rfl rfl ?_
  refine x_iinc (z := (10 : Int32)) rfl rfl (by decide) ?_
  refine x_in rfl rfl rfl ?_
  refine x_in rfl rfl rfl ?_
  refine x_in rfl rfl rfl ?_
  refine x_top (show _ = Value.int ((16 : Int32)) from congrArg Value.int (by decide)) ?_
  refine x_in rfl rfl rfl ?_
  refine x_in rfl rfl rfl ?_
  refine x_in rfl rfl rfl ?_
  refine x_in rfl rfl rfl ?_
  refine x_in rfl rfl rfl ?_
  refine x_top (show _ = Value.int ((0 : Int32)) from congrArg Value.int (by decide)) ?_
  refine x_in rfl rfl rfl ?_
  refine x_top (show _ = Value.int ((1 : Int32)) from congrArg Value.int (by decide)) ?_
  refine x_in rfl rfl rfl ?_
  refine x_top (show _ = Value.int ((0 : Int32)) from congrArg Value.int (by decide)) ?_
  refine x_in rfl rfl rfl ?_
  refine x_top (show _ = Value.int ((0 : Int32)) from congrArg Value.int (by decide)) ?_
  refine x_in rfl rfl rfl ?_
  refine x_iinc (z := (11 : Int32)) rfl rfl (by decide) ?_
  refine x_in rfl rfl rfl ?_
  refine x_in rfl rfl rfl ?_
  refine x_in rfl rfl rfl ?_
  refine x_top (show _ = Value.int ((16 : Int32)) from congrArg Value.int (by decide)) ?_
  refine x_in rfl rfl rfl ?_
  refine x_in rfl rfl rfl ?_
  refine x_in rfl rfl rfl ?_
  refine x_in rfl rfl rfl ?_
  refine x_in rfl rfl rfl ?_
  refine x_top (show _ = Value.int ((0 : Int32)) from congrArg Value.int (by decide)) ?_
  refine x_in rfl rfl rfl ?_
  refine x_top (show _ = Value.int ((1 : Int32)) from congrArg Value.int (by decide)) ?_
  refine x_in rfl rfl rfl ?_
  refine x_top (show _ = Value.int ((0 : Int32)) from congrArg Value.int (by decide)) ?_
  refine x_in rfl rfl rfl ?_
  refine x_top (show _ = Value.int ((0 : Int32)) from congrArg Value.int (by decide)) ?_
  refine x_in rfl rfl rfl ?_
  refine x_iinc (z := (12 : Int32)) rfl rfl (by decide) ?_
  refine x_in rfl rfl rfl ?_
  refine x_in rfl rfl rfl ?_
  refine x_in rfl rfl rfl ?_
  refine x_top (show _ = Value.int ((16 : Int32)) from congrArg Value.int (by decide)) ?_
  refine x_in rfl rfl rfl ?_
  refine x_in rfl rfl rfl ?_
  refine x_in rfl rfl rfl ?_
  refine x_in rfl rfl rfl ?_
  refine x_in rfl rfl rfl ?_
  refine x_top (show _ = Value.int ((0 : Int32)) from congrArg Value.int (by decide)) ?_
  refine x_in rfl rfl rfl ?_
  refine x_top (show _ = Value.int ((1 : Int32)) from congrArg Value.int (by decide)) ?_
  refine x_in rfl rfl rfl ?_
  refine x_top (show _ = Value.int ((0 : Int32)) from congrArg Value.int (by decide)) ?_
  refine x_in rfl rfl rfl ?_
  refine x_top (show _ = Value.int ((0 : Int32)) from congrArg Value.int (by decide)) ?_
  refine x_in rfl rfl rfl ?_
  refine x_iinc (z := (13 : Int32)) rfl rfl (by decide) ?_
  refine x_in rfl rfl rfl ?_
  refine x_in rfl rfl rfl ?_
  refine x_in rfl rfl rfl ?_
  refine x_top (show _ = Value.int ((16 : Int32)) from congrArg Value.int (by decide)) ?_
  refine x_in rfl rfl rfl ?_
  refine x_in rfl rfl rfl ?_
  refine x_in rfl rfl rfl ?_
  refine x_in rfl rfl rfl ?_
  refine x_in rfl rfl rfl ?_
  refine x_top (show _ = Value.int ((0 : Int32)) from congrArg Value.int (by decide)) ?_
  refine x_in rfl rfl rfl ?_
  refine x_top (show _ = Value.int ((1 : Int32)) from congrArg Value.int (by decide)) ?_
  refine x_in rfl rfl rfl ?_
  refine x_top (show _ = Value.int ((0 : Int32)) from congrArg Value.int (by decide)) ?_
  refine x_in rfl rfl rfl ?_
  refine x_top (show _ = Value.int ((0 : Int32)) from congrArg Value.int (by decide)) ?_
  refine x_in rfl rfl rfl ?_
  refine x_iinc (z := (14 : Int32)) rfl rfl (by decide) ?_
  refine x_in rfl rfl rfl ?_
  refine x_in rfl rfl rfl ?_
  refine x_in rfl rfl rfl ?_
  refine x_top (show _ = Value.int ((16 : Int32)) from congrArg Value.int (by decide)) ?_
  refine x_in rfl rfl rfl ?_
  refine x_in rfl rfl rfl ?_
  refine x_in rfl rfl rfl ?_
  refine x_in rfl rfl rfl ?_
  refine x_in rfl rfl rfl ?_
  refine x_top (show _ = Value.int ((0 : Int32)) from congrArg Value.int (by decide)) ?_
  refine x_in rfl rfl rfl ?_
  refine x_top (show _ = Value.int ((1 : Int32)) from congrArg Value.int (by decide)) ?_
  refine x_in rfl rfl rfl ?_
  refine x_top (show _ = Value.int ((0 : Int32)) from congrArg Value.int (by decide)) ?_
  refine x_in rfl rfl rfl ?_
  refine x_top (show _ = Value.int ((0 : Int32)) from congrArg Value.int (by decide)) ?_
  refine x_in rfl rfl rfl ?_
  refine x_iinc (z := (15 : Int32)) rfl rfl (by decide) ?_
  refine x_in rfl rfl rfl ?_
  refine x_in rfl rfl rfl ?_
  refine x_in rfl rfl rfl ?_
  refine x_top (show _ = Value.int ((16 : Int32)) from congrArg Value.int (by decide)) ?_
  refine x_in rfl rfl rfl ?_
  refine x_in rfl rfl rfl ?_
  refine x_in rfl rfl rfl ?_
  refine x_in rfl rfl rfl ?_
  refine x_in rfl rfl rfl ?_
  refine x_top (show _ = Value.int ((0 : Int32)) from congrArg Value.int (by decide)) ?_
  refine x_in rfl rfl rfl ?_
  refine x_top (show _ = Value.int ((1 : Int32)) from congrArg Value.int (by decide)) ?_
  refine x_in rfl rfl rfl ?_
  refine x_top (show _ = Value.int ((0 : Int32)) from congrArg Value.int (by decide)) ?_
  refine x_in rfl rfl rfl ?_
  refine x_top (show _ = Value.int ((0 : Int32)) from congrArg Value.int (by decide)) ?_
  refine x_in rfl rfl rfl ?_
  refine x_iinc (z := (16 : Int32)) rfl rfl (by decide) ?_
  refine x_in rfl rfl rfl ?_
  refine x_in rfl rfl rfl ?_
  refine x_in rfl rfl rfl ?_
  refine x_top (show _ = Value.int ((16 : Int32)) from congrArg Value.int (by decide)) ?_
  refine x_in rfl rfl rfl ?_
  refine x_in rfl rfl rfl ?_
  refine x_ret rfl rfl ?_
  exact k
set_option maxRecDepth 100000 in
set_option maxHeartbeats 4000000 in
theorem c_20_0 (n : Nat) (c a2 a3 a4 a5 : Int32) : x_E (m_X [c, 0, a2, a3, a4, a5]) 60 181 193 11164 (n + 300) 936 [(3, .int 0), (2, .ref 170), (1, .ref 0), (0, .ref 1000000)] [] m_h0 lK := by
  refine x_in rfl rfl rfl ?_
  refine x_in rfl rfl rfl ?_
  refine x_in rfl rfl rfl ?_
  refine x_in rfl rfl rfl ?_
  refine x_top (show _ = Value.int ((1 : Int32)) from congrArg Value.int (by decide)) ?_
  refine x_in rfl rfl rfl ?_
  refine x_top (show _ = Value.int ((1 : Int32)) from congrArg Value.int (by decide)) ?_
  refine x_in rfl rfl rfl ?_
  refine x_in rfl rfl rfl ?_
  refine x_in rfl rfl rfl ?_
  refine x_in rfl rfl rfl ?_
  refine x_top (show _ = Value.int ((2 : Int32)) from congrArg Value.int (by decide)) ?_
  refine x_in rfl rfl rfl ?_
  refine x_top (show _ = Value.int ((2 : Int32)) from congrArg Value.int (by decide)) ?_
  refine x_in rfl rfl rfl ?_
  refine x_in rfl rfl rfl ?_
  refine x_in rfl rfl rfl ?_
  refine x_in rfl rfl rfl ?_
  refine x_top (show _ = Value.int ((3 : Int32)) from congrArg Value.int (by decide)) ?_
  refine x_in rfl rfl rfl ?_
  refine x_top (show _ = Value.int ((3 : Int32)) from congrArg Value.int (by decide)) ?_
  refine x_in rfl rfl rfl ?_
  refine x_in rfl rfl rfl ?_
  refine x_in rfl rfl rfl ?_
  refine x_in rfl rfl rfl ?_
  refine x_top (show _ = Value.int ((4 : Int32)) from congrArg Value.int (by decide)) ?_
  refine x_in rfl rfl rfl ?_
  refine x_top (show _ = Value.int ((4 : Int32)) from congrArg Value.int (by decide)) ?_
  refine x_in rfl rfl rfl ?_
  refine x_in rfl rfl rfl ?_
  refine x_in rfl rfl rfl ?_
  refine x_in rfl rfl rfl ?_
  refine x_top (show _ = Value.int ((5 : Int32)) from congrArg Value.int (by decide)) ?_
  refine x_in rfl rfl rfl ?_
  refine x_top (show _ = Value.int ((5 : Int32)) from congrArg Value.int (by decide)) ?_
  refine x_in rfl rfl rfl ?_
  refine x_cV rfl rfl rfl rfl ⟨rfl, (Nat.le_of_ble_eq_true rfl), (Nat.le_of_ble_eq_true rfl)⟩ (x_enter (Nat.le_of_ble_eq_true rfl) ?_)
  refine x_in rfl rfl rfl ?_
  refine x_cS rfl (by decide) rfl rfl ⟨(Nat.le_of_ble_eq_true rfl), (Nat.le_of_ble_eq_true rfl)⟩ (x_enter (Nat.le_of_ble_eq_true rfl) ?_)
  refine x_in rfl rfl rfl ?_
  refine x_br rfl rfl (fun c1 => ?_) (fun c1 => ?_)
  · have ec1 := (z_1 (0) (by decide)).mp c1
    refine x_in rfl rfl rfl ?_
    refine x_top (show _ = Value.int ((0 : Int32)) from congrArg Value.int (by decide)) ?_
    refine x_ret rfl rfl ?_
    refine x_in rfl rfl rfl ?_
    refine x_in rfl rfl rfl ?_
    refine x_top (show _ = Value.int ((-1 : Int32)) from congrArg Value.int (by decide)) ?_
    refine x_ret rfl rfl ?_
    refine x_in rfl rfl rfl ?_
    refine x_in rfl rfl rfl ?_
    refine x_in rfl rfl rfl ?_
    refine x_in rfl rfl rfl ?_
    refine x_top (show _ = Value.int ((1 : Int32)) from congrArg Value.int (by decide)) ?_
    refine x_in rfl rfl rfl ?_
    refine x_top (show _ = Value.int ((1 : Int32)) from congrArg Value.int (by decide)) ?_
    refine x_in rfl rfl rfl ?_
    refine x_in rfl rfl rfl ?_
    refine x_in rfl rfl rfl ?_
    refine x_in rfl rfl rfl ?_
    refine x_top (show _ = Value.int ((2 : Int32)) from congrArg Value.int (by decide)) ?_
    refine x_in rfl rfl rfl ?_
    refine x_top (show _ = Value.int ((2 : Int32)) from congrArg Value.int (by decide)) ?_
    refine x_in rfl rfl rfl ?_
    refine x_in rfl rfl rfl ?_
    refine x_in rfl rfl rfl ?_
    refine x_in rfl rfl rfl ?_
    refine x_top (show _ = Value.int ((3 : Int32)) from congrArg Value.int (by decide)) ?_
    refine x_in rfl rfl rfl ?_
    refine x_top (show _ = Value.int ((3 : Int32)) from congrArg Value.int (by decide)) ?_
    refine x_in rfl rfl rfl ?_
    refine x_in rfl rfl rfl ?_
    refine x_in rfl rfl rfl ?_
    refine x_in rfl rfl rfl ?_
    refine x_top (show _ = Value.int ((4 : Int32)) from congrArg Value.int (by decide)) ?_
    refine x_in rfl rfl rfl ?_
    refine x_top (show _ = Value.int ((4 : Int32)) from congrArg Value.int (by decide)) ?_
    refine x_in rfl rfl rfl ?_
    refine x_in rfl rfl rfl ?_
    refine x_in rfl rfl rfl ?_
    refine x_in rfl rfl rfl ?_
    refine x_top (show _ = Value.int ((5 : Int32)) from congrArg Value.int (by decide)) ?_
    refine x_in rfl rfl rfl ?_
    refine x_top (show _ = Value.int ((5 : Int32)) from congrArg Value.int (by decide)) ?_
    refine x_in rfl rfl rfl ?_
    refine x_cV rfl rfl rfl rfl ⟨rfl, (Nat.le_of_ble_eq_true rfl), (Nat.le_of_ble_eq_true rfl)⟩ (x_enter (Nat.le_of_ble_eq_true rfl) ?_)
    refine x_in rfl rfl rfl ?_
    refine x_in rfl rfl rfl ?_
    refine x_top (show _ = Value.int ((0 : Int32)) from congrArg Value.int (by decide)) ?_
    refine x_in rfl rfl rfl ?_
    refine x_top (show _ = Value.int ((4 : Int32)) from congrArg Value.int (by decide)) ?_
    refine x_cS rfl (by decide) rfl rfl ⟨(Nat.le_of_ble_eq_true rfl), (Nat.le_of_ble_eq_true rfl)⟩ (x_enter (Nat.le_of_ble_eq_true rfl) ?_)
    refine x_in rfl rfl rfl ?_
    refine x_in rfl rfl rfl ?_
    refine x_bT rfl rfl ((z_1 (0) (by decide)).mpr (by omega)) ?_
    refine x_in rfl rfl rfl ?_
    refine x_top (show _ = Value.int ((0 : Int32)) from congrArg Value.int (by decide)) ?_
    refine x_ret rfl rfl ?_
    refine x_in rfl rfl rfl ?_
    refine x_in rfl rfl rfl ?_
    refine x_top (show _ = Value.int ((-1 : Int32)) from congrArg Value.int (by decide)) ?_
    refine x_ret rfl rfl ?_
    refine x_in rfl rfl rfl ?_
    refine x_iinc (z := (6 : Int32)) rfl rfl (by decide) ?_
    refine x_in rfl rfl rfl ?_
    refine x_in rfl rfl rfl ?_
    refine x_in rfl rfl rfl ?_
    refine x_in rfl rfl rfl ?_
    refine x_top (show _ = Value.int ((6 : Int32)) from rfl) ?_
    refine x_in rfl rfl rfl ?_
    refine x_top (show _ = Value.int ((6 : Int32)) from congrArg Value.int (by decide)) ?_
    refine x_in rfl rfl rfl ?_
    refine x_top (show _ = Value.int ((0 : Int32)) from congrArg Value.int (by decide)) ?_
    refine x_in rfl rfl rfl ?_
    refine x_in rfl rfl rfl ?_
    refine x_top (show _ = Value.int ((1 : Int32)) from congrArg Value.int (by decide)) ?_
    refine x_ret rfl rfl ?_
    exact ⟨rfl, by decide, by decide⟩
  · have ec1 := mt (z_1 (0) (by decide)).mpr c1
    refine x_in rfl rfl rfl ?_
    refine x_in rfl rfl rfl ?_
    refine x_top (show _ = Value.int ((5 : Int32)) from congrArg Value.int (by decide)) ?_
    refine x_br rfl rfl (fun c2 => ?_) (fun c2 => ?_)
    · have ec2 := (z_4 (5) (by decide)).mp c2
      refine x_in rfl rfl rfl ?_
      refine x_top (show _ = Value.int ((0 : Int32)) from congrArg Value.int (by decide)) ?_
      refine x_ret rfl rfl ?_
      refine x_in rfl rfl rfl ?_
      refine x_in rfl rfl rfl ?_
      refine x_top (show _ = Value.int ((-1 : Int32)) from congrArg Value.int (by decide)) ?_
      refine x_ret rfl rfl ?_
      refine x_in rfl rfl rfl ?_
      refine x_in rfl rfl rfl ?_
      refine x_in rfl rfl rfl ?_
      refine x_in rfl rfl rfl ?_
      refine x_top (show _ = Value.int ((1 : Int32)) from congrArg Value.int (by decide)) ?_
      refine x_in rfl rfl rfl ?_
      refine x_top (show _ = Value.int ((1 : Int32)) from congrArg Value.int (by decide)) ?_
      refine x_in rfl rfl rfl ?_
      refine x_in rfl rfl rfl ?_
      refine x_in rfl rfl rfl ?_
      refine x_in rfl rfl rfl ?_
      refine x_top (show _ = Value.int ((2 : Int32)) from congrArg Value.int (by decide)) ?_
      refine x_in rfl rfl rfl ?_
      refine x_top (show _ = Value.int ((2 : Int32)) from congrArg Value.int (by decide)) ?_
      refine x_in rfl rfl rfl ?_
      refine x_in rfl rfl rfl ?_
      refine x_in rfl rfl rfl ?_
      refine x_in rfl rfl rfl ?_
      refine x_top (show _ = Value.int ((3 : Int32)) from congrArg Value.int (by decide)) ?_
      refine x_in rfl rfl rfl ?_
      refine x_top (show _ = Value.int ((3 : Int32)) from congrArg Value.int (by decide)) ?_
      refine x_in rfl rfl rfl ?_
      refine x_in rfl rfl rfl ?_
      refine x_in rfl rfl rfl ?_
      refine x_in rfl rfl rfl ?_
      refine x_top (show _ = Value.int ((4 : Int32)) from congrArg Value.int (by decide)) ?_
      refine x_in rfl rfl rfl ?_
      refine x_top (show _ = Value.int ((4 : Int32)) from congrArg Value.int (by decide)) ?_
      refine x_in rfl rfl rfl ?_
      refine x_in rfl rfl rfl ?_
      refine x_in rfl rfl rfl ?_
      refine x_in rfl rfl rfl ?_
      refine x_top (show _ = Value.int ((5 : Int32)) from congrArg Value.int (by decide)) ?_
      refine x_in rfl rfl rfl ?_
      refine x_top (show _ = Value.int ((5 : Int32)) from congrArg Value.int (by decide)) ?_
      refine x_in rfl rfl rfl ?_
      refine x_cV rfl rfl rfl rfl ⟨rfl, (Nat.le_of_ble_eq_true rfl), (Nat.le_of_ble_eq_true rfl)⟩ (x_enter (Nat.le_of_ble_eq_true rfl) ?_)
      refine x_in rfl rfl rfl ?_
      refine x_in rfl rfl rfl ?_
      refine x_top (show _ = Value.int ((0 : Int32)) from congrArg Value.int (by decide)) ?_
      refine x_in rfl rfl rfl ?_
      refine x_top (show _ = Value.int ((4 : Int32)) from congrArg Value.int (by decide)) ?_
      refine x_cS rfl (by decide) rfl rfl ⟨(Nat.le_of_ble_eq_true rfl), (Nat.le_of_ble_eq_true rfl)⟩ (x_enter (Nat.le_of_ble_eq_true rfl) ?_)
      refine x_in rfl rfl rfl ?_
      refine x_in rfl rfl rfl ?_
      refine x_bF rfl rfl (mt (z_1 (0) (by decide)).mp (by omega)) ?_
      refine x_in rfl rfl rfl ?_
      refine x_in rfl rfl rfl ?_
      refine x_bT rfl rfl ((z_2 (4) (by decide)).mpr (by omega)) ?_
      refine x_in rfl rfl rfl ?_
      refine x_top (show _ = Value.int ((0 : Int32)) from congrArg Value.int (by decide)) ?_
      refine x_ret rfl rfl ?_
      refine x_in rfl rfl rfl ?_
      refine x_in rfl rfl rfl ?_
      refine x_top (show _ = Value.int ((-1 : Int32)) from congrArg Value.int (by decide)) ?_
      refine x_ret rfl rfl ?_
      refine x_in rfl rfl rfl ?_
      refine x_iinc (z := (6 : Int32)) rfl rfl (by decide) ?_
      refine x_in rfl rfl rfl ?_
      refine x_in rfl rfl rfl ?_
      refine x_in rfl rfl rfl ?_
      refine x_in rfl rfl rfl ?_
      refine x_top (show _ = Value.int ((6 : Int32)) from rfl) ?_
      refine x_in rfl rfl rfl ?_
      refine x_top (show _ = Value.int ((6 : Int32)) from congrArg Value.int (by decide)) ?_
      refine x_in rfl rfl rfl ?_
      refine x_top (show _ = Value.int ((0 : Int32)) from congrArg Value.int (by decide)) ?_
      refine x_in rfl rfl rfl ?_
      refine x_in rfl rfl rfl ?_
      refine x_top (show _ = Value.int ((1 : Int32)) from congrArg Value.int (by decide)) ?_
      refine x_ret rfl rfl ?_
      exact ⟨rfl, by decide, by decide⟩
    · have ec2 := mt (z_4 (5) (by decide)).mpr c2
      refine x_in rfl rfl rfl ?_
      refine x_top (show _ = Value.int ((1 : Int32)) from congrArg Value.int (by decide)) ?_
      refine x_in rfl rfl rfl ?_
      refine x_ret rfl rfl ?_
      refine x_in rfl rfl rfl ?_
      refine x_in rfl rfl rfl ?_
      refine x_in rfl rfl rfl ?_
      refine x_top (show _ = Value.int ((-1 : Int32)) from congrArg Value.int (by decide)) ?_
      refine x_br rfl rfl (fun c3 => ?_) (fun c3 => ?_)
      · have ec3 := (z_4 (-1) (by decide)).mp c3
        refine x_in rfl rfl rfl ?_
        refine x_cS rfl (by decide) rfl rfl ⟨(Nat.le_of_ble_eq_true rfl), (Nat.le_of_ble_eq_true rfl)⟩ (c_bc0 ?_)
        refine x_in rfl rfl rfl ?_
        refine x_in rfl rfl rfl ?_
        refine x_in rfl rfl rfl ?_
        refine x_in rfl rfl rfl ?_
        refine x_in rfl rfl rfl ?_
        refine x_in rfl rfl rfl ?_
        refine x_top (show _ = Value.int ((0 : Int32)) from congrArg Value.int (by decide)) ?_
        refine x_in rfl rfl rfl ?_
        refine x_in rfl rfl rfl ?_
        refine x_in rfl rfl rfl ?_
        refine x_top (show _ = Value.int ((2 : Int32)) from congrArg Value.int (by decide)) ?_
        refine x_in rfl rfl rfl ?_
        refine x_in rfl rfl rfl ?_
        refine x_top (show _ = Value.int ((-2 : Int32)) from congrArg Value.int (by decide)) ?_
        refine x_ret rfl rfl ?_
        refine x_in rfl rfl rfl ?_
        refine x_in rfl rfl rfl ?_
        refine x_in rfl rfl rfl ?_
        refine x_in rfl rfl rfl ?_
        refine x_top (show _ = Value.int ((1 : Int32)) from congrArg Value.int (by decide)) ?_
        refine x_in rfl rfl rfl ?_
        refine x_top (show _ = Value.int ((1 : Int32)) from congrArg Value.int (by decide)) ?_
        refine x_in rfl rfl rfl ?_
        refine x_in rfl rfl rfl ?_
        refine x_in rfl rfl rfl ?_
        refine x_in rfl rfl rfl ?_
        refine x_top (show _ = Value.int ((2 : Int32)) from congrArg Value.int (by decide)) ?_
        refine x_in rfl rfl rfl ?_
        refine x_top (show _ = Value.int ((2 : Int32)) from congrArg Value.int (by decide)) ?_
        refine x_in rfl rfl rfl ?_
        refine x_in rfl rfl rfl ?_
        refine x_in rfl rfl rfl ?_
        refine x_in rfl rfl rfl ?_
        refine x_top (show _ = Value.int ((3 : Int32)) from congrArg Value.int (by decide)) ?_
        refine x_in rfl rfl rfl ?_
        refine x_top (show _ = Value.int ((3 : Int32)) from congrArg Value.int (by decide)) ?_
        refine x_in rfl rfl rfl ?_
        refine x_in rfl rfl rfl ?_
        refine x_in rfl rfl rfl ?_
        refine x_in rfl rfl rfl ?_
        refine x_top (show _ = Value.int ((4 : Int32)) from congrArg Value.int (by decide)) ?_
        refine x_in rfl rfl rfl ?_
        refine x_top (show _ = Value.int ((4 : Int32)) from congrArg Value.int (by decide)) ?_
        refine x_in rfl rfl rfl ?_
        refine x_in rfl rfl rfl ?_
        refine x_in rfl rfl rfl ?_
        refine x_in rfl rfl rfl ?_
        refine x_top (show _ = Value.int ((5 : Int32)) from congrArg Value.int (by decide)) ?_
        refine x_in rfl rfl rfl ?_
        refine x_top (show _ = Value.int ((5 : Int32)) from congrArg Value.int (by decide)) ?_
        refine x_in rfl rfl rfl ?_
        refine x_cV rfl rfl rfl rfl ⟨rfl, (Nat.le_of_ble_eq_true rfl), (Nat.le_of_ble_eq_true rfl)⟩ (x_enter (Nat.le_of_ble_eq_true rfl) ?_)
        refine x_in rfl rfl rfl ?_
        refine x_in rfl rfl rfl ?_
        refine x_top (show _ = Value.int ((0 : Int32)) from congrArg Value.int (by decide)) ?_
        refine x_in rfl rfl rfl ?_
        refine x_top (show _ = Value.int ((4 : Int32)) from congrArg Value.int (by decide)) ?_
        refine x_cS rfl (by decide) rfl rfl ⟨(Nat.le_of_ble_eq_true rfl), (Nat.le_of_ble_eq_true rfl)⟩ (x_enter (Nat.le_of_ble_eq_true rfl) ?_)
        refine x_in rfl rfl rfl ?_
        refine x_in rfl rfl rfl ?_
        refine x_bF rfl rfl (mt (z_1 (0) (by decide)).mp (by omega)) ?_
        refine x_in rfl rfl rfl ?_
        refine x_in rfl rfl rfl ?_
        refine x_bF rfl rfl (mt (z_2 (4) (by decide)).mp (by omega)) ?_
        refine x_in rfl rfl rfl ?_
        refine x_top (show _ = Value.int ((1 : Int32)) from congrArg Value.int (by decide)) ?_
        refine x_in rfl rfl rfl ?_
        refine x_ret rfl rfl ?_
        refine x_in rfl rfl rfl ?_
        refine x_in rfl rfl rfl ?_
        refine x_in rfl rfl rfl ?_
        refine x_top (show _ = Value.int ((-1 : Int32)) from congrArg Value.int (by decide)) ?_
        refine x_bT rfl rfl ((z_4 (-1) (by decide)).mpr (by omega)) ?_
        refine x_in rfl rfl rfl ?_
        refine x_in rfl rfl rfl ?_
        refine x_top (show _ = Value.int ((0 : Int32)) from congrArg Value.int (by decide)) ?_
        refine x_in rfl rfl rfl ?_
        refine x_top (show _ = Value.int ((1 : Int32)) from congrArg Value.int (by decide)) ?_
        refine x_in rfl rfl rfl ?_
        refine x_in rfl rfl rfl ?_
        refine x_in rfl rfl rfl ?_
        refine x_top (show _ = Value.int ((1 : Int32)) from congrArg Value.int (by decide)) ?_
        refine x_in rfl rfl rfl ?_
        refine x_in rfl rfl rfl ?_
        refine x_top (show _ = Value.int ((1 : Int32)) from congrArg Value.int (by decide)) ?_
        refine x_in rfl rfl rfl ?_
        refine x_top (show _ = Value.int ((1 : Int32)) from congrArg Value.int (by decide)) ?_
        refine x_in rfl rfl rfl ?_
        refine x_top (show _ = Value.int ((0 : Int32)) from congrArg Value.int (by decide)) ?_
        refine x_cS rfl (by decide) rfl rfl ⟨(Nat.le_of_ble_eq_true rfl), (Nat.le_of_ble_eq_true rfl)⟩ (x_enter (Nat.le_of_ble_eq_true rfl) ?_)
        refine x_in rfl rfl rfl ?_
        refine x_in rfl rfl rfl ?_
        refine x_in rfl rfl rfl ?_
        refine x_in rfl rfl rfl ?_
        refine x_in rfl rfl rfl ?_
        refine x_in rfl rfl rfl ?_
        refine x_in rfl rfl rfl ?_
        refine x_top (show _ = Value.int ((1 : Int32)) from congrArg Value.int (by decide)) ?_
        refine x_in rfl rfl rfl ?_
        refine x_ret rfl rfl ?_
        refine x_in rfl rfl rfl ?_
        refine x_in rfl rfl rfl ?_
        refine x_cS rfl (by decide) rfl rfl ⟨(Nat.le_of_ble_eq_true rfl), (Nat.le_of_ble_eq_true rfl)⟩ (c_c10 ?_)
        refine x_in rfl rfl rfl ?_
        refine x_top (show _ = Value.int ((2 : Int32)) from congrArg Value.int (by decide)) ?_
        refine x_in rfl rfl rfl ?_
        refine x_top (show _ = Value.int ((4 : Int32)) from congrArg Value.int (by decide)) ?_
        refine x_cS rfl (by decide) rfl rfl ⟨(Nat.le_of_ble_eq_true rfl), (Nat.le_of_ble_eq_true rfl)⟩ (x_enter (Nat.le_of_ble_eq_true rfl) ?_)
        refine x_in rfl rfl rfl ?_
        refine x_in rfl rfl rfl ?_
        refine x_in rfl rfl rfl ?_
        refine x_in rfl rfl rfl ?_
        refine x_top (show _ = Value.int ((0 : Int32)) from congrArg Value.int (by decide)) ?_
        refine x_ret rfl rfl ?_
        refine x_in rfl rfl rfl ?_
        refine x_in rfl rfl rfl ?_
        refine x_top (show _ = Value.int ((-2 : Int32)) from congrArg Value.int (by decide)) ?_
        refine x_ret rfl rfl ?_
        refine x_in rfl rfl rfl ?_
        refine x_iinc (z := (6 : Int32)) rfl rfl (by decide) ?_
        refine x_in rfl rfl rfl ?_
        refine x_in rfl rfl rfl ?_
        refine x_in rfl rfl rfl ?_
        refine x_in rfl rfl rfl ?_
        refine x_top (show _ = Value.int ((6 : Int32)) from rfl) ?_
        refine x_in rfl rfl rfl ?_
        refine x_top (show _ = Value.int ((6 : Int32)) from congrArg Value.int (by decide)) ?_
        refine x_in rfl rfl rfl ?_
        refine x_top (show _ = Value.int ((0 : Int32)) from congrArg Value.int (by decide)) ?_
        refine x_in rfl rfl rfl ?_
        refine x_in rfl rfl rfl ?_
        refine x_top (show _ = Value.int ((1 : Int32)) from congrArg Value.int (by decide)) ?_
        refine x_ret rfl rfl ?_
        exact ⟨rfl, by decide, by decide⟩
      · have ec3 := mt (z_4 (-1) (by decide)).mpr c3
        refine x_in rfl rfl rfl ?_
        refine x_top (show _ = Value.int ((-1 : Int32)) from congrArg Value.int (by decide)) ?_
        refine x_ret rfl rfl ?_
        refine x_in rfl rfl rfl ?_
        refine x_in rfl rfl rfl ?_
        refine x_in rfl rfl rfl ?_
        refine x_in rfl rfl rfl ?_
        refine x_top (show _ = Value.int ((1 : Int32)) from congrArg Value.int (by decide)) ?_
        refine x_in rfl rfl rfl ?_
        refine x_top (show _ = Value.int ((1 : Int32)) from congrArg Value.int (by decide)) ?_
        refine x_in rfl rfl rfl ?_
        refine x_in rfl rfl rfl ?_
        refine x_in rfl rfl rfl ?_
        refine x_in rfl rfl rfl ?_
        refine x_top (show _ = Value.int ((2 : Int32)) from congrArg Value.int (by decide)) ?_
        refine x_in rfl rfl rfl ?_
        refine x_top (show _ = Value.int ((2 : Int32)) from congrArg Value.int (by decide)) ?_
        refine x_in rfl rfl rfl ?_
        refine x_in rfl rfl rfl ?_
        refine x_in rfl rfl rfl ?_
        refine x_in rfl rfl rfl ?_
        refine x_top (show _ = Value.int ((3 : Int32)) from congrArg Value.int (by decide)) ?_
        refine x_in rfl rfl rfl ?_
        refine x_top (show _ = Value.int ((3 : Int32)) from congrArg Value.int (by decide)) ?_
        refine x_in rfl rfl rfl ?_
        refine x_in rfl rfl rfl ?_
        refine x_in rfl rfl rfl ?_
        refine x_in rfl rfl rfl ?_
        refine x_top (show _ = Value.int ((4 : Int32)) from congrArg Value.int (by decide)) ?_
        refine x_in rfl rfl rfl ?_
        refine x_top (show _ = Value.int ((4 : Int32)) from congrArg Value.int (by decide)) ?_
        refine x_in rfl rfl rfl ?_
        refine x_in rfl rfl rfl ?_
        refine x_in rfl rfl rfl ?_
        refine x_in rfl rfl rfl ?_
        refine x_top (show _ = Value.int ((5 : Int32)) from congrArg Value.int (by decide)) ?_
        refine x_in rfl rfl rfl ?_
        refine x_top (show _ = Value.int ((5 : Int32)) from congrArg Value.int (by decide)) ?_
        refine x_in rfl rfl rfl ?_
        refine x_cV rfl rfl rfl rfl ⟨rfl, (Nat.le_of_ble_eq_true rfl), (Nat.le_of_ble_eq_true rfl)⟩ (x_enter (Nat.le_of_ble_eq_true rfl) ?_)
        refine x_in rfl rfl rfl ?_
        refine x_in rfl rfl rfl ?_
        refine x_top (show _ = Value.int ((0 : Int32)) from congrArg Value.int (by decide)) ?_
        refine x_in rfl rfl rfl ?_
        refine x_top (show _ = Value.int ((4 : Int32)) from congrArg Value.int (by decide)) ?_
        refine x_cS rfl (by decide) rfl rfl ⟨(Nat.le_of_ble_eq_true rfl), (Nat.le_of_ble_eq_true rfl)⟩ (x_enter (Nat.le_of_ble_eq_true rfl) ?_)
        refine x_in rfl rfl rfl ?_
        refine x_in rfl rfl rfl ?_
        refine x_bF rfl rfl (mt (z_1 (0) (by decide)).mp (by omega)) ?_
        refine x_in rfl rfl rfl ?_
        refine x_in rfl rfl rfl ?_
        refine x_bF rfl rfl (mt (z_2 (4) (by decide)).mp (by omega)) ?_
        refine x_in rfl rfl rfl ?_
        refine x_top (show _ = Value.int ((1 : Int32)) from congrArg Value.int (by decide)) ?_
        refine x_in rfl rfl rfl ?_
        refine x_ret rfl rfl ?_
        refine x_in rfl rfl rfl ?_
        refine x_in rfl rfl rfl ?_
        refine x_in rfl rfl rfl ?_
        refine x_top (show _ = Value.int ((-1 : Int32)) from congrArg Value.int (by decide)) ?_
        refine x_bF rfl rfl (mt (z_4 (-1) (by decide)).mp (by omega)) ?_
        refine x_in rfl rfl rfl ?_
        refine x_top (show _ = Value.int ((-1 : Int32)) from congrArg Value.int (by decide)) ?_
        refine x_ret rfl rfl ?_
        refine x_in rfl rfl rfl ?_
        refine x_iinc (z := (6 : Int32)) rfl rfl (by decide) ?_
        refine x_in rfl rfl rfl ?_
        refine x_in rfl rfl rfl ?_
        refine x_in rfl rfl rfl ?_
        refine x_in rfl rfl rfl ?_
        refine x_top (show _ = Value.int ((6 : Int32)) from rfl) ?_
        refine x_in rfl rfl rfl ?_
        refine x_top (show _ = Value.int ((6 : Int32)) from congrArg Value.int (by decide)) ?_
        refine x_in rfl rfl rfl ?_
        refine x_top (show _ = Value.int ((0 : Int32)) from congrArg Value.int (by decide)) ?_
        refine x_in rfl rfl rfl ?_
        refine x_in rfl rfl rfl ?_
        refine x_top (show _ = Value.int ((1 : Int32)) from congrArg Value.int (by decide)) ?_
        refine x_ret rfl rfl ?_
        exact ⟨rfl, by decide, by decide⟩
set_option maxRecDepth 100000 in
set_option maxHeartbeats 4000000 in
theorem c_20_n (n : Nat) (c a1 a2 a3 a4 a5 : Int32) (ha : ¬ a1 = 0) (hb : ¬ a1.toInt = 0) : x_E (m_X [c, a1, a2, a3, a4, a5]) 60 181 193 11164 (n + 300) 936 [(3, .int 0), (2, .ref 170), (1, .ref 0), (0, .ref 1000000)] [] m_h0 lK := by
  refine x_in rfl rfl rfl ?_
  refine x_in rfl rfl rfl ?_
  refine x_in rfl rfl rfl ?_
  refine x_in rfl rfl rfl ?_
  refine x_top (show _ = Value.int ((1 : Int32)) from congrArg Value.int (by decide)) ?_
  refine x_in rfl rfl rfl ?_
  refine x_top (show _ = Value.int ((1 : Int32)) from congrArg Value.int (by decide)) ?_
  refine x_in rfl rfl rfl ?_
  refine x_in rfl rfl rfl ?_
  refine x_in rfl rfl rfl ?_
  refine x_in rfl rfl rfl ?_
  refine x_top (show _ = Value.int ((2 : Int32)) from congrArg Value.int (by decide)) ?_
  refine x_in rfl rfl rfl ?_
  refine x_top (show _ = Value.int ((2 : Int32)) from congrArg Value.int (by decide)) ?_
  refine x_in rfl rfl rfl ?_
  refine x_in rfl rfl rfl ?_
  refine x_in rfl rfl rfl ?_
  refine x_in rfl rfl rfl ?_
  refine x_top (show _ = Value.int ((3 : Int32)) from congrArg Value.int (by decide)) ?_
  refine x_in rfl rfl rfl ?_
  refine x_top (show _ = Value.int ((3 : Int32)) from congrArg Value.int (by decide)) ?_
  refine x_in rfl rfl rfl ?_
  refine x_in rfl rfl rfl ?_
  refine x_in rfl rfl rfl ?_
  refine x_in rfl rfl rfl ?_
  refine x_top (show _ = Value.int ((4 : Int32)) from congrArg Value.int (by decide)) ?_
  refine x_in rfl rfl rfl ?_
  refine x_top (show _ = Value.int ((4 : Int32)) from congrArg Value.int (by decide)) ?_
  refine x_in rfl rfl rfl ?_
  refine x_in rfl rfl rfl ?_
  refine x_in rfl rfl rfl ?_
  refine x_in rfl rfl rfl ?_
  refine x_top (show _ = Value.int ((5 : Int32)) from congrArg Value.int (by decide)) ?_
  refine x_in rfl rfl rfl ?_
  refine x_top (show _ = Value.int ((5 : Int32)) from congrArg Value.int (by decide)) ?_
  refine x_in rfl rfl rfl ?_
  refine x_cV rfl rfl rfl rfl ⟨rfl, (Nat.le_of_ble_eq_true rfl), (Nat.le_of_ble_eq_true rfl)⟩ (x_enter (Nat.le_of_ble_eq_true rfl) ?_)
  refine x_in rfl rfl rfl ?_
  refine x_cS rfl (by decide) rfl rfl ⟨(Nat.le_of_ble_eq_true rfl), (Nat.le_of_ble_eq_true rfl)⟩ (x_enter (Nat.le_of_ble_eq_true rfl) ?_)
  refine x_in rfl rfl rfl ?_
  refine x_br rfl rfl (fun c1 => ?_) (fun c1 => ?_)
  · have ec1 := (z_1 (0) (by decide)).mp c1
    refine x_in rfl rfl rfl ?_
    refine x_top (show _ = Value.int ((0 : Int32)) from congrArg Value.int (by decide)) ?_
    refine x_ret rfl rfl ?_
    refine x_in rfl rfl rfl ?_
    refine x_in rfl rfl rfl ?_
    refine x_top (show _ = Value.int ((-1 : Int32)) from congrArg Value.int (by decide)) ?_
    refine x_ret rfl rfl ?_
    refine x_in rfl rfl rfl ?_
    refine x_in rfl rfl rfl ?_
    refine x_in rfl rfl rfl ?_
    refine x_in rfl rfl rfl ?_
    refine x_top (show _ = Value.int ((1 : Int32)) from congrArg Value.int (by decide)) ?_
    refine x_in rfl rfl rfl ?_
    refine x_top (show _ = Value.int ((1 : Int32)) from congrArg Value.int (by decide)) ?_
    refine x_in rfl rfl rfl ?_
    refine x_in rfl rfl rfl ?_
    refine x_in rfl rfl rfl ?_
    refine x_in rfl rfl rfl ?_
    refine x_top (show _ = Value.int ((2 : Int32)) from congrArg Value.int (by decide)) ?_
    refine x_in rfl rfl rfl ?_
    refine x_top (show _ = Value.int ((2 : Int32)) from congrArg Value.int (by decide)) ?_
    refine x_in rfl rfl rfl ?_
    refine x_in rfl rfl rfl ?_
    refine x_in rfl rfl rfl ?_
    refine x_in rfl rfl rfl ?_
    refine x_top (show _ = Value.int ((3 : Int32)) from congrArg Value.int (by decide)) ?_
    refine x_in rfl rfl rfl ?_
    refine x_top (show _ = Value.int ((3 : Int32)) from congrArg Value.int (by decide)) ?_
    refine x_in rfl rfl rfl ?_
    refine x_in rfl rfl rfl ?_
    refine x_in rfl rfl rfl ?_
    refine x_in rfl rfl rfl ?_
    refine x_top (show _ = Value.int ((4 : Int32)) from congrArg Value.int (by decide)) ?_
    refine x_in rfl rfl rfl ?_
    refine x_top (show _ = Value.int ((4 : Int32)) from congrArg Value.int (by decide)) ?_
    refine x_in rfl rfl rfl ?_
    refine x_in rfl rfl rfl ?_
    refine x_in rfl rfl rfl ?_
    refine x_in rfl rfl rfl ?_
    refine x_top (show _ = Value.int ((5 : Int32)) from congrArg Value.int (by decide)) ?_
    refine x_in rfl rfl rfl ?_
    refine x_top (show _ = Value.int ((5 : Int32)) from congrArg Value.int (by decide)) ?_
    refine x_in rfl rfl rfl ?_
    refine x_cV rfl rfl rfl rfl ⟨rfl, (Nat.le_of_ble_eq_true rfl), (Nat.le_of_ble_eq_true rfl)⟩ (x_enter (Nat.le_of_ble_eq_true rfl) ?_)
    refine x_in rfl rfl rfl ?_
    refine x_in rfl rfl rfl ?_
    refine x_top (show _ = Value.int ((0 : Int32)) from congrArg Value.int (by decide)) ?_
    refine x_in rfl rfl rfl ?_
    refine x_top (show _ = Value.int ((4 : Int32)) from congrArg Value.int (by decide)) ?_
    refine x_cS rfl (by decide) rfl rfl ⟨(Nat.le_of_ble_eq_true rfl), (Nat.le_of_ble_eq_true rfl)⟩ (x_enter (Nat.le_of_ble_eq_true rfl) ?_)
    refine x_in rfl rfl rfl ?_
    refine x_in rfl rfl rfl ?_
    refine x_bT rfl rfl ((z_1 (0) (by decide)).mpr (by omega)) ?_
    refine x_in rfl rfl rfl ?_
    refine x_top (show _ = Value.int ((0 : Int32)) from congrArg Value.int (by decide)) ?_
    refine x_ret rfl rfl ?_
    refine x_in rfl rfl rfl ?_
    refine x_in rfl rfl rfl ?_
    refine x_top (show _ = Value.int ((-1 : Int32)) from congrArg Value.int (by decide)) ?_
    refine x_ret rfl rfl ?_
    refine x_in rfl rfl rfl ?_
    refine x_iinc (z := (6 : Int32)) rfl rfl (by decide) ?_
    refine x_in rfl rfl rfl ?_
    refine x_in rfl rfl rfl ?_
    refine x_in rfl rfl rfl ?_
    refine x_in rfl rfl rfl ?_
    refine x_top (show _ = Value.int ((6 : Int32)) from rfl) ?_
    refine x_in rfl rfl rfl ?_
    refine x_top (show _ = Value.int ((6 : Int32)) from congrArg Value.int (by decide)) ?_
    refine x_in rfl rfl rfl ?_
    refine x_top (show _ = Value.int ((0 : Int32)) from congrArg Value.int (by decide)) ?_
    refine x_in rfl rfl rfl ?_
    refine x_in rfl rfl rfl ?_
    refine x_top (show _ = Value.int ((1 : Int32)) from congrArg Value.int (by decide)) ?_
    refine x_ret rfl rfl ?_
    exact ⟨rfl, by decide, by decide⟩
  · have ec1 := mt (z_1 (0) (by decide)).mpr c1
    refine x_in rfl rfl rfl ?_
    refine x_in rfl rfl rfl ?_
    refine x_top (show _ = Value.int ((5 : Int32)) from congrArg Value.int (by decide)) ?_
    refine x_br rfl rfl (fun c2 => ?_) (fun c2 => ?_)
    · have ec2 := (z_4 (5) (by decide)).mp c2
      refine x_in rfl rfl rfl ?_
      refine x_top (show _ = Value.int ((0 : Int32)) from congrArg Value.int (by decide)) ?_
      refine x_ret rfl rfl ?_
      refine x_in rfl rfl rfl ?_
      refine x_in rfl rfl rfl ?_
      refine x_top (show _ = Value.int ((-1 : Int32)) from congrArg Value.int (by decide)) ?_
      refine x_ret rfl rfl ?_
      refine x_in rfl rfl rfl ?_
      refine x_in rfl rfl rfl ?_
      refine x_in rfl rfl rfl ?_
      refine x_in rfl rfl rfl ?_
      refine x_top (show _ = Value.int ((1 : Int32)) from congrArg Value.int (by decide)) ?_
      refine x_in rfl rfl rfl ?_
      refine x_top (show _ = Value.int ((1 : Int32)) from congrArg Value.int (by decide)) ?_
      refine x_in rfl rfl rfl ?_
      refine x_in rfl rfl rfl ?_
      refine x_in rfl rfl rfl ?_
      refine x_in rfl rfl rfl ?_
      refine x_top (show _ = Value.int ((2 : Int32)) from congrArg Value.int (by decide)) ?_
      refine x_in rfl rfl rfl ?_
      refine x_top (show _ = Value.int ((2 : Int32)) from congrArg Value.int (by decide)) ?_
      refine x_in rfl rfl rfl ?_
      refine x_in rfl rfl rfl ?_
      refine x_in rfl rfl rfl ?_
      refine x_in rfl rfl rfl ?_
      refine x_top (show _ = Value.int ((3 : Int32)) from congrArg Value.int (by decide)) ?_
      refine x_in rfl rfl rfl ?_
      refine x_top (show _ = Value.int ((3 : Int32)) from congrArg Value.int (by decide)) ?_
      refine x_in rfl rfl rfl ?_
      refine x_in rfl rfl rfl ?_
      refine x_in rfl rfl rfl ?_
      refine x_in rfl rfl rfl ?_
      refine x_top (show _ = Value.int ((4 : Int32)) from congrArg Value.int (by decide)) ?_
      refine x_in rfl rfl rfl ?_
      refine x_top (show _ = Value.int ((4 : Int32)) from congrArg Value.int (by decide)) ?_
      refine x_in rfl rfl rfl ?_
      refine x_in rfl rfl rfl ?_
      refine x_in rfl rfl rfl ?_
      refine x_in rfl rfl rfl ?_
      refine x_top (show _ = Value.int ((5 : Int32)) from congrArg Value.int (by decide)) ?_
      refine x_in rfl rfl rfl ?_
      refine x_top (show _ = Value.int ((5 : Int32)) from congrArg Value.int (by decide)) ?_
      refine x_in rfl rfl rfl ?_
      refine x_cV rfl rfl rfl rfl ⟨rfl, (Nat.le_of_ble_eq_true rfl), (Nat.le_of_ble_eq_true rfl)⟩ (x_enter (Nat.le_of_ble_eq_true rfl) ?_)
      refine x_in rfl rfl rfl ?_
      refine x_in rfl rfl rfl ?_
      refine x_top (show _ = Value.int ((0 : Int32)) from congrArg Value.int (by decide)) ?_
      refine x_in rfl rfl rfl ?_
      refine x_top (show _ = Value.int ((4 : Int32)) from congrArg Value.int (by decide)) ?_
      refine x_cS rfl (by decide) rfl rfl ⟨(Nat.le_of_ble_eq_true rfl), (Nat.le_of_ble_eq_true rfl)⟩ (x_enter (Nat.le_of_ble_eq_true rfl) ?_)
      refine x_in rfl rfl rfl ?_
      refine x_in rfl rfl rfl ?_
      refine x_bF rfl rfl (mt (z_1 (0) (by decide)).mp (by omega)) ?_
      refine x_in rfl rfl rfl ?_
      refine x_in rfl rfl rfl ?_
      refine x_bT rfl rfl ((z_2 (4) (by decide)).mpr (by omega)) ?_
      refine x_in rfl rfl rfl ?_
      refine x_top (show _ = Value.int ((0 : Int32)) from congrArg Value.int (by decide)) ?_
      refine x_ret rfl rfl ?_
      refine x_in rfl rfl rfl ?_
      refine x_in rfl rfl rfl ?_
      refine x_top (show _ = Value.int ((-1 : Int32)) from congrArg Value.int (by decide)) ?_
      refine x_ret rfl rfl ?_
      refine x_in rfl rfl rfl ?_
      refine x_iinc (z := (6 : Int32)) rfl rfl (by decide) ?_
      refine x_in rfl rfl rfl ?_
      refine x_in rfl rfl rfl ?_
      refine x_in rfl rfl rfl ?_
      refine x_in rfl rfl rfl ?_
      refine x_top (show _ = Value.int ((6 : Int32)) from rfl) ?_
      refine x_in rfl rfl rfl ?_
      refine x_top (show _ = Value.int ((6 : Int32)) from congrArg Value.int (by decide)) ?_
      refine x_in rfl rfl rfl ?_
      refine x_top (show _ = Value.int ((0 : Int32)) from congrArg Value.int (by decide)) ?_
      refine x_in rfl rfl rfl ?_
      refine x_in rfl rfl rfl ?_
      refine x_top (show _ = Value.int ((1 : Int32)) from congrArg Value.int (by decide)) ?_
      refine x_ret rfl rfl ?_
      exact ⟨rfl, by decide, by decide⟩
    · have ec2 := mt (z_4 (5) (by decide)).mpr c2
      refine x_in rfl rfl rfl ?_
      refine x_top (show _ = Value.int ((1 : Int32)) from congrArg Value.int (by decide)) ?_
      refine x_in rfl rfl rfl ?_
      refine x_ret rfl rfl ?_
      refine x_in rfl rfl rfl ?_
      refine x_in rfl rfl rfl ?_
      refine x_in rfl rfl rfl ?_
      refine x_top (show _ = Value.int ((-1 : Int32)) from congrArg Value.int (by decide)) ?_
      refine x_br rfl rfl (fun c3 => ?_) (fun c3 => ?_)
      · have ec3 := (z_4 (-1) (by decide)).mp c3
        refine x_in rfl rfl rfl ?_
        refine x_cS rfl (by decide) rfl rfl ⟨(Nat.le_of_ble_eq_true rfl), (Nat.le_of_ble_eq_true rfl)⟩ (c_bc (fun v4 => ?_))
        refine x_in rfl rfl rfl ?_
        refine x_in rfl rfl rfl ?_
        refine x_in rfl rfl rfl ?_
        refine x_in rfl rfl rfl ?_
        refine x_in rfl rfl rfl ?_
        refine x_in rfl rfl rfl ?_
        refine x_bF rfl rfl (fun q => ha (by rw [z_ush0] at q; exact q)) ?_
        refine x_in rfl rfl rfl ?_
        refine x_top (show _ = Value.int ((-2 : Int32)) from congrArg Value.int (by decide)) ?_
        refine x_ret rfl rfl ?_
        refine x_in rfl rfl rfl ?_
        refine x_in rfl rfl rfl ?_
        refine x_in rfl rfl rfl ?_
        refine x_in rfl rfl rfl ?_
        refine x_top (show _ = Value.int ((1 : Int32)) from congrArg Value.int (by decide)) ?_
        refine x_in rfl rfl rfl ?_
        refine x_top (show _ = Value.int ((1 : Int32)) from congrArg Value.int (by decide)) ?_
        refine x_in rfl rfl rfl ?_
        refine x_in rfl rfl rfl ?_
        refine x_in rfl rfl rfl ?_
        refine x_in rfl rfl rfl ?_
        refine x_top (show _ = Value.int ((2 : Int32)) from congrArg Value.int (by decide)) ?_
        refine x_in rfl rfl rfl ?_
        refine x_top (show _ = Value.int ((2 : Int32)) from congrArg Value.int (by decide)) ?_
        refine x_in rfl rfl rfl ?_
        refine x_in rfl rfl rfl ?_
        refine x_in rfl rfl rfl ?_
        refine x_in rfl rfl rfl ?_
        refine x_top (show _ = Value.int ((3 : Int32)) from congrArg Value.int (by decide)) ?_
        refine x_in rfl rfl rfl ?_
        refine x_top (show _ = Value.int ((3 : Int32)) from congrArg Value.int (by decide)) ?_
        refine x_in rfl rfl rfl ?_
        refine x_in rfl rfl rfl ?_
        refine x_in rfl rfl rfl ?_
        refine x_in rfl rfl rfl ?_
        refine x_top (show _ = Value.int ((4 : Int32)) from congrArg Value.int (by decide)) ?_
        refine x_in rfl rfl rfl ?_
        refine x_top (show _ = Value.int ((4 : Int32)) from congrArg Value.int (by decide)) ?_
        refine x_in rfl rfl rfl ?_
        refine x_in rfl rfl rfl ?_
        refine x_in rfl rfl rfl ?_
        refine x_in rfl rfl rfl ?_
        refine x_top (show _ = Value.int ((5 : Int32)) from congrArg Value.int (by decide)) ?_
        refine x_in rfl rfl rfl ?_
        refine x_top (show _ = Value.int ((5 : Int32)) from congrArg Value.int (by decide)) ?_
        refine x_in rfl rfl rfl ?_
        refine x_cV rfl rfl rfl rfl ⟨rfl, (Nat.le_of_ble_eq_true rfl), (Nat.le_of_ble_eq_true rfl)⟩ (x_enter (Nat.le_of_ble_eq_true rfl) ?_)
        refine x_in rfl rfl rfl ?_
        refine x_in rfl rfl rfl ?_
        refine x_top (show _ = Value.int ((0 : Int32)) from congrArg Value.int (by decide)) ?_
        refine x_in rfl rfl rfl ?_
        refine x_top (show _ = Value.int ((4 : Int32)) from congrArg Value.int (by decide)) ?_
        refine x_cS rfl (by decide) rfl rfl ⟨(Nat.le_of_ble_eq_true rfl), (Nat.le_of_ble_eq_true rfl)⟩ (x_enter (Nat.le_of_ble_eq_true rfl) ?_)
        refine x_in rfl rfl rfl ?_
        refine x_in rfl rfl rfl ?_
        refine x_bF rfl rfl (mt (z_1 (0) (by decide)).mp (by omega)) ?_
        refine x_in rfl rfl rfl ?_
        refine x_in rfl rfl rfl ?_
        refine x_bF rfl rfl (mt (z_2 (4) (by decide)).mp (by omega)) ?_
        refine x_in rfl rfl rfl ?_
        refine x_top (show _ = Value.int ((1 : Int32)) from congrArg Value.int (by decide)) ?_
        refine x_in rfl rfl rfl ?_
        refine x_ret rfl rfl ?_
        refine x_in rfl rfl rfl ?_
        refine x_in rfl rfl rfl ?_
        refine x_in rfl rfl rfl ?_
        refine x_top (show _ = Value.int ((-1 : Int32)) from congrArg Value.int (by decide)) ?_
        refine x_bT rfl rfl ((z_4 (-1) (by decide)).mpr (by omega)) ?_
        refine x_in rfl rfl rfl ?_
        refine x_in rfl rfl rfl ?_
        refine x_top (show _ = Value.int ((0 : Int32)) from congrArg Value.int (by decide)) ?_
        refine x_in rfl rfl rfl ?_
        refine x_top (show _ = Value.int ((1 : Int32)) from congrArg Value.int (by decide)) ?_
        refine x_in rfl rfl rfl ?_
        refine x_in rfl rfl rfl ?_
        refine x_in rfl rfl rfl ?_
        refine x_top (show _ = Value.int ((1 : Int32)) from congrArg Value.int (by decide)) ?_
        refine x_in rfl rfl rfl ?_
        refine x_in rfl rfl rfl ?_
        refine x_top (show _ = Value.int ((1 : Int32)) from congrArg Value.int (by decide)) ?_
        refine x_in rfl rfl rfl ?_
        refine x_top (show _ = Value.int ((1 : Int32)) from congrArg Value.int (by decide)) ?_
        refine x_in rfl rfl rfl ?_
        refine x_top (show _ = Value.int ((0 : Int32)) from congrArg Value.int (by decide)) ?_
        refine x_cS rfl (by decide) rfl rfl ⟨(Nat.le_of_ble_eq_true rfl), (Nat.le_of_ble_eq_true rfl)⟩ (x_enter (Nat.le_of_ble_eq_true rfl) ?_)
        refine x_in rfl rfl rfl ?_
        refine x_in rfl rfl rfl ?_
        refine x_br rfl rfl (fun c5 => ?_) (fun c5 => ?_)
        · have ec5 := (z_1 (0) (by decide)).mp c5
          refine x_in rfl rfl rfl ?_
          refine x_top (show _ = Value.int ((0 : Int32)) from congrArg Value.int (by decide)) ?_
          refine x_ret rfl rfl ?_
          refine x_in rfl rfl rfl ?_
          refine x_in rfl rfl rfl ?_
          refine x_top (show _ = Value.int ((-2 : Int32)) from congrArg Value.int (by decide)) ?_
          refine x_ret rfl rfl ?_
          refine x_in rfl rfl rfl ?_
          refine x_iinc (z := (6 : Int32)) rfl rfl (by decide) ?_
          refine x_in rfl rfl rfl ?_
          refine x_in rfl rfl rfl ?_
          refine x_in rfl rfl rfl ?_
          refine x_in rfl rfl rfl ?_
          refine x_top (show _ = Value.int ((6 : Int32)) from rfl) ?_
          refine x_in rfl rfl rfl ?_
          refine x_top (show _ = Value.int ((6 : Int32)) from congrArg Value.int (by decide)) ?_
          refine x_in rfl rfl rfl ?_
          refine x_top (show _ = Value.int ((0 : Int32)) from congrArg Value.int (by decide)) ?_
          refine x_in rfl rfl rfl ?_
          refine x_in rfl rfl rfl ?_
          refine x_top (show _ = Value.int ((1 : Int32)) from congrArg Value.int (by decide)) ?_
          refine x_ret rfl rfl ?_
          exact ⟨rfl, by decide, by decide⟩
        · have ec5 := mt (z_1 (0) (by decide)).mpr c5
          refine x_in rfl rfl rfl ?_
          refine x_in rfl rfl rfl ?_
          refine x_br rfl rfl (fun c6 => ?_) (fun c6 => ?_)
          · have ec6 := (z_2 (0) (by decide)).mp c6
            refine x_in rfl rfl rfl ?_
            refine x_top (show _ = Value.int ((0 : Int32)) from congrArg Value.int (by decide)) ?_
            refine x_ret rfl rfl ?_
            refine x_in rfl rfl rfl ?_
            refine x_in rfl rfl rfl ?_
            refine x_top (show _ = Value.int ((-2 : Int32)) from congrArg Value.int (by decide)) ?_
            refine x_ret rfl rfl ?_
            refine x_in rfl rfl rfl ?_
            refine x_iinc (z := (6 : Int32)) rfl rfl (by decide) ?_
            refine x_in rfl rfl rfl ?_
            refine x_in rfl rfl rfl ?_
            refine x_in rfl rfl rfl ?_
            refine x_in rfl rfl rfl ?_
            refine x_top (show _ = Value.int ((6 : Int32)) from rfl) ?_
            refine x_in rfl rfl rfl ?_
            refine x_top (show _ = Value.int ((6 : Int32)) from congrArg Value.int (by decide)) ?_
            refine x_in rfl rfl rfl ?_
            refine x_top (show _ = Value.int ((0 : Int32)) from congrArg Value.int (by decide)) ?_
            refine x_in rfl rfl rfl ?_
            refine x_in rfl rfl rfl ?_
            refine x_top (show _ = Value.int ((1 : Int32)) from congrArg Value.int (by decide)) ?_
            refine x_ret rfl rfl ?_
            exact ⟨rfl, by decide, by decide⟩
          · have ec6 := mt (z_2 (0) (by decide)).mpr c6
            exfalso
            omega
      · have ec3 := mt (z_4 (-1) (by decide)).mpr c3
        refine x_in rfl rfl rfl ?_
        refine x_top (show _ = Value.int ((-1 : Int32)) from congrArg Value.int (by decide)) ?_
        refine x_ret rfl rfl ?_
        refine x_in rfl rfl rfl ?_
        refine x_in rfl rfl rfl ?_
        refine x_in rfl rfl rfl ?_
        refine x_in rfl rfl rfl ?_
        refine x_top (show _ = Value.int ((1 : Int32)) from congrArg Value.int (by decide)) ?_
        refine x_in rfl rfl rfl ?_
        refine x_top (show _ = Value.int ((1 : Int32)) from congrArg Value.int (by decide)) ?_
        refine x_in rfl rfl rfl ?_
        refine x_in rfl rfl rfl ?_
        refine x_in rfl rfl rfl ?_
        refine x_in rfl rfl rfl ?_
        refine x_top (show _ = Value.int ((2 : Int32)) from congrArg Value.int (by decide)) ?_
        refine x_in rfl rfl rfl ?_
        refine x_top (show _ = Value.int ((2 : Int32)) from congrArg Value.int (by decide)) ?_
        refine x_in rfl rfl rfl ?_
        refine x_in rfl rfl rfl ?_
        refine x_in rfl rfl rfl ?_
        refine x_in rfl rfl rfl ?_
        refine x_top (show _ = Value.int ((3 : Int32)) from congrArg Value.int (by decide)) ?_
        refine x_in rfl rfl rfl ?_
        refine x_top (show _ = Value.int ((3 : Int32)) from congrArg Value.int (by decide)) ?_
        refine x_in rfl rfl rfl ?_
        refine x_in rfl rfl rfl ?_
        refine x_in rfl rfl rfl ?_
        refine x_in rfl rfl rfl ?_
        refine x_top (show _ = Value.int ((4 : Int32)) from congrArg Value.int (by decide)) ?_
        refine x_in rfl rfl rfl ?_
        refine x_top (show _ = Value.int ((4 : Int32)) from congrArg Value.int (by decide)) ?_
        refine x_in rfl rfl rfl ?_
        refine x_in rfl rfl rfl ?_
        refine x_in rfl rfl rfl ?_
        refine x_in rfl rfl rfl ?_
        refine x_top (show _ = Value.int ((5 : Int32)) from congrArg Value.int (by decide)) ?_
        refine x_in rfl rfl rfl ?_
        refine x_top (show _ = Value.int ((5 : Int32)) from congrArg Value.int (by decide)) ?_
        refine x_in rfl rfl rfl ?_
        refine x_cV rfl rfl rfl rfl ⟨rfl, (Nat.le_of_ble_eq_true rfl), (Nat.le_of_ble_eq_true rfl)⟩ (x_enter (Nat.le_of_ble_eq_true rfl) ?_)
        refine x_in rfl rfl rfl ?_
        refine x_in rfl rfl rfl ?_
        refine x_top (show _ = Value.int ((0 : Int32)) from congrArg Value.int (by decide)) ?_
        refine x_in rfl rfl rfl ?_
        refine x_top (show _ = Value.int ((4 : Int32)) from congrArg Value.int (by decide)) ?_
        refine x_cS rfl (by decide) rfl rfl ⟨(Nat.le_of_ble_eq_true rfl), (Nat.le_of_ble_eq_true rfl)⟩ (x_enter (Nat.le_of_ble_eq_true rfl) ?_)
        refine x_in rfl rfl rfl ?_
        refine x_in rfl rfl rfl ?_
        refine x_bF rfl rfl (mt (z_1 (0) (by decide)).mp (by omega)) ?_
        refine x_in rfl rfl rfl ?_
        refine x_in rfl rfl rfl ?_
        refine x_bF rfl rfl (mt (z_2 (4) (by decide)).mp (by omega)) ?_
        refine x_in rfl rfl rfl ?_
        refine x_top (show _ = Value.int ((1 : Int32)) from congrArg Value.int (by decide)) ?_
        refine x_in rfl rfl rfl ?_
        refine x_ret rfl rfl ?_
        refine x_in rfl rfl rfl ?_
        refine x_in rfl rfl rfl ?_
        refine x_in rfl rfl rfl ?_
        refine x_top (show _ = Value.int ((-1 : Int32)) from congrArg Value.int (by decide)) ?_
        refine x_bF rfl rfl (mt (z_4 (-1) (by decide)).mp (by omega)) ?_
        refine x_in rfl rfl rfl ?_
        refine x_top (show _ = Value.int ((-1 : Int32)) from congrArg Value.int (by decide)) ?_
        refine x_ret rfl rfl ?_
        refine x_in rfl rfl rfl ?_
        refine x_iinc (z := (6 : Int32)) rfl rfl (by decide) ?_
        refine x_in rfl rfl rfl ?_
        refine x_in rfl rfl rfl ?_
        refine x_in rfl rfl rfl ?_
        refine x_in rfl rfl rfl ?_
        refine x_top (show _ = Value.int ((6 : Int32)) from rfl) ?_
        refine x_in rfl rfl rfl ?_
        refine x_top (show _ = Value.int ((6 : Int32)) from congrArg Value.int (by decide)) ?_
        refine x_in rfl rfl rfl ?_
        refine x_top (show _ = Value.int ((0 : Int32)) from congrArg Value.int (by decide)) ?_
        refine x_in rfl rfl rfl ?_
        refine x_in rfl rfl rfl ?_
        refine x_top (show _ = Value.int ((1 : Int32)) from congrArg Value.int (by decide)) ?_
        refine x_ret rfl rfl ?_
        exact ⟨rfl, by decide, by decide⟩
theorem c_20 (n : Nat) (c a1 a2 a3 a4 a5 : Int32) : x_E (m_X [c, a1, a2, a3, a4, a5]) 60 181 193 11164 (n + 300) 936 [(3, .int 0), (2, .ref 170), (1, .ref 0), (0, .ref 1000000)] [] m_h0 lK := by
  by_cases h1 : a1 = 0
  · subst h1
    exact c_20_0 n c a2 a3 a4 a5
  · exact c_20_n n c a1 a2 a3 a4 a5 h1 (mt (z_5 (0) (by decide)).mpr h1)
