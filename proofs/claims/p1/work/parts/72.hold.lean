set_option maxRecDepth 100000 in
set_option maxHeartbeats 4000000 in
theorem c_12 (n : Nat) (c a1 a2 a3 a4 a5 : Int32) : x_E (m_X [c, a1, a2, a3, a4, a5]) 60 181 193 11164 (n + 300) 642 [(3, .int 0), (2, .ref 170), (1, .ref 0), (0, .ref 1000000)] [] m_h0 lK := by
  refine y_toX (F := 300) (K := fun u w v _ _ => v = some (.int 1) ∧ u ≤ 600000 ∧ w ≤ 7302250) ?_ (by omega) (fun _ _ _ _ _ h => h)
  refine y_lv (l' := [(3, iv 0), (2, .ref 170), (1, .ref 0), (0, .ref 1000000)]) rfl ⟨rfl, rfl, rfl, rfl, trivial⟩ ?_
  by_cases hr : 0 ≤ a1.toInt ∧ a1.toInt ≤ 65535
  · refine y_ld (x := .ref 0) rfl rfl (fun d => rfl) ?_
    refine y_ld (x := .ref 1000000) rfl rfl (fun d => rfl) ?_
    refine y_ld (x := iv 0) rfl rfl (fun d => rfl) ?_
    refine y_ic rfl rfl ?_
    refine y_add (z := 1) rfl rfl rfl ?_
    refine y_in rfl rfl (fun d => rfl) ?_
    refine y_top (v_oi a1).symm ?_
    refine y_cV (as := [.ref 0, iv a1.toInt]) rfl rfl rfl rfl rfl (v_C0 0 _ _ rfl) ⟨rfl, (Nat.le_of_ble_eq_true rfl), (Nat.le_of_ble_eq_true rfl)⟩ (by decide) (cc_hold v_C0 (by have := a1.le_toInt; have := a1.toInt_lt; omega) ⟨Int.le_refl 0, (by decide : (0 : Int) ≤ 65535)⟩ ?_)
    refine y_nv ?_
    refine y_top (v' := iv (v_bs (v_oI 0 a1.toInt) 16)) ((if_pos hr).trans (congrArg Value.int (z_bc_eq (v_oI_lt ⟨Int.le_refl 0, by decide⟩ hr)))) ?_
    refine y_V (V' := v_up v_V0 1 10 (v_oI 0 a1.toInt)) (if_pos hr) ?_
    refine y_ld (x := .ref 170) rfl rfl (fun d => rfl) ?_
    refine y_ld (x := .ref 1000000) rfl rfl (fun d => rfl) ?_
    refine y_ld (x := iv 0) rfl rfl (fun d => rfl) ?_
    refine y_ic rfl rfl ?_
    refine y_add (z := 1) rfl rfl rfl ?_
    refine y_in rfl rfl (fun d => rfl) ?_
    refine y_top (v_oi a1).symm ?_
    refine y_cV (as := [.ref 170, iv a1.toInt]) rfl rfl rfl rfl rfl (md170 v_M0) ⟨rfl, (Nat.le_of_ble_eq_true rfl), (Nat.le_of_ble_eq_true rfl)⟩ (by decide) (ct_hold v_M0 (by have := a1.le_toInt; have := a1.toInt_lt; omega) ⟨Int.le_refl 0, (by decide : (0 : Int) ≤ 65535)⟩ ?_)
    refine y_nv ?_
    refine y_top (v' := iv (v_bs (v_oI 0 a1.toInt) 16)) (if_pos hr) ?_
    refine y_jeq rfl rfl rfl (by have := v_bs_le (v_oI 0 a1.toInt) 16; omega) (fun g1 => ?_) (fun g1 => absurd rfl g1)
    refine y_inc (z := 6) (lv' := [(3, iv 6), (2, .ref 170), (1, .ref 0), (0, .ref 1000000)]) rfl rfl rfl rfl rfl ?_
    refine y_go rfl rfl ?_
    refine y_ld (x := iv 6) rfl rfl (fun d => rfl) ?_
    refine y_ld (x := .ref 1000000) rfl rfl (fun d => rfl) ?_
    refine y_in rfl rfl (fun d => rfl) ?_
    refine y_top (v' := iv 6) (show Value.int (Int32.ofNat 6) = iv 6 from congrArg Value.int (by decide)) ?_
    refine y_bi rfl rfl (by decide) ?_
    refine y_sub (z := 0) rfl rfl rfl ?_
    refine y_jgt rfl rfl rfl (by decide) (fun g2 => ?_) (fun g2 => absurd g2 (by decide))
    refine y_ic rfl rfl ?_
    refine y_rI rfl (by decide) ?_
    exact ⟨rfl, by decide, by decide⟩
  · refine y_ld (x := .ref 0) rfl rfl (fun d => rfl) ?_
    refine y_ld (x := .ref 1000000) rfl rfl (fun d => rfl) ?_
    refine y_ld (x := iv 0) rfl rfl (fun d => rfl) ?_
    refine y_ic rfl rfl ?_
    refine y_add (z := 1) rfl rfl rfl ?_
    refine y_in rfl rfl (fun d => rfl) ?_
    refine y_top (v_oi a1).symm ?_
    refine y_cV (as := [.ref 0, iv a1.toInt]) rfl rfl rfl rfl rfl (v_C0 0 _ _ rfl) ⟨rfl, (Nat.le_of_ble_eq_true rfl), (Nat.le_of_ble_eq_true rfl)⟩ (by decide) (cc_hold v_C0 (by have := a1.le_toInt; have := a1.toInt_lt; omega) ⟨Int.le_refl 0, (by decide : (0 : Int) ≤ 65535)⟩ ?_)
    refine y_nv ?_
    refine y_top (v' := iv (-2)) (if_neg hr) ?_
    refine y_V (V' := v_V0) (if_neg hr) ?_
    refine y_ld (x := .ref 170) rfl rfl (fun d => rfl) ?_
    refine y_ld (x := .ref 1000000) rfl rfl (fun d => rfl) ?_
    refine y_ld (x := iv 0) rfl rfl (fun d => rfl) ?_
    refine y_ic rfl rfl ?_
    refine y_add (z := 1) rfl rfl rfl ?_
    refine y_in rfl rfl (fun d => rfl) ?_
    refine y_top (v_oi a1).symm ?_
    refine y_cV (as := [.ref 170, iv a1.toInt]) rfl rfl rfl rfl rfl (md170 v_M0) ⟨rfl, (Nat.le_of_ble_eq_true rfl), (Nat.le_of_ble_eq_true rfl)⟩ (by decide) (ct_hold v_M0 (by have := a1.le_toInt; have := a1.toInt_lt; omega) ⟨Int.le_refl 0, (by decide : (0 : Int) ≤ 65535)⟩ ?_)
    refine y_nv ?_
    refine y_top (v' := iv (-2)) (if_neg hr) ?_
    refine y_jeq rfl rfl rfl (by decide) (fun g1 => ?_) (fun g1 => absurd g1 (by decide))
    refine y_inc (z := 6) (lv' := [(3, iv 6), (2, .ref 170), (1, .ref 0), (0, .ref 1000000)]) rfl rfl rfl rfl rfl ?_
    refine y_go rfl rfl ?_
    refine y_ld (x := iv 6) rfl rfl (fun d => rfl) ?_
    refine y_ld (x := .ref 1000000) rfl rfl (fun d => rfl) ?_
    refine y_in rfl rfl (fun d => rfl) ?_
    refine y_top (v' := iv 6) (show Value.int (Int32.ofNat 6) = iv 6 from congrArg Value.int (by decide)) ?_
    refine y_bi rfl rfl (by decide) ?_
    refine y_sub (z := 0) rfl rfl rfl ?_
    refine y_jgt rfl rfl rfl (by decide) (fun g2 => ?_) (fun g2 => absurd g2 (by decide))
    refine y_ic rfl rfl ?_
    refine y_rI rfl (by decide) ?_
    exact ⟨rfl, by decide, by decide⟩
