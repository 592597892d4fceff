/-! the law on any script of at most six ints, in the small machine -/
theorem x_hX_ln : m_hX.length = 170 ∧ m_hX.length ≤ 170 ∧ m_sz m_hX ≤ 5222 := by decide +kernel
theorem x_h0b : m_h0.length ≤ 193 ∧ m_sz m_h0 ≤ 11164 := by decide +kernel
set_option maxRecDepth 100000 in
set_option maxHeartbeats 4000000 in
theorem law_pre (xs : List Int32) (n : Nat) (K : Nat → Nat → m_R → Prop) (k : x_E (m_X xs) 60 181 193 11164 n 18 [(3, .int 0), (2, .ref 170), (1, .ref 0), (0, .ref 1000000)] [] m_h0 K) : x_E (m_X xs) 60 181 0 0 (n + 10) 0 [(0, .ref 1000000)] [] [] K := by
  refine x_new (L := 0) (z := 5) rfl rfl (by decide) rfl ?_
  refine x_in rfl rfl rfl ?_
  refine x_cI rfl (by decide) rfl rfl ⟨(Nat.le_of_ble_eq_true rfl), (Nat.le_of_ble_eq_true rfl), (Nat.le_of_ble_eq_true rfl)⟩ (x_done (u' := 170) (w' := 5222) (x_run0 _ _ _ _ _ x_ctorX) (fun _ _ => x_hX_ln.2) ?_)
  refine x_in rfl rfl rfl ?_
  refine x_new (L := 170) (z := 44) rfl (show _ = 170 from x_hX_ln.1) (by decide) rfl ?_
  refine x_in rfl rfl rfl ?_
  refine x_cI rfl (by decide) rfl rfl ⟨(Nat.le_of_ble_eq_true rfl), (Nat.le_of_ble_eq_true rfl), (Nat.le_of_ble_eq_true rfl)⟩ (x_done (u' := 193) (w' := 11164) (x_run0 _ _ _ _ _ x_ctorM) (fun _ _ => x_h0b) ?_)
  refine x_in rfl rfl rfl ?_
  refine x_in rfl rfl rfl ?_
  refine x_top (show _ = Value.int (0 : Int32) from congrArg Value.int (by decide)) ?_
  refine x_in rfl rfl rfl ?_
  exact k
set_option maxRecDepth 100000 in
set_option maxHeartbeats 4000000 in
theorem law_s0 (n : Nat) : x_E (m_X []) 60 181 193 11164 (n + 20) 18 [(3, .int 0), (2, .ref 170), (1, .ref 0), (0, .ref 1000000)] [] m_h0 lK := by
  refine x_in rfl rfl rfl ?_
  refine x_in rfl rfl rfl ?_
  refine x_in rfl rfl rfl ?_
  refine x_top (show _ = Value.int (0 : Int32) from rfl) ?_
  refine x_in rfl rfl rfl ?_
  refine x_top (show _ = Value.int (6 : Int32) from congrArg Value.int (by decide)) ?_
  refine x_in rfl rfl rfl ?_
  refine x_top (show _ = Value.int (-6 : Int32) from congrArg Value.int (by decide)) ?_
  refine x_in rfl rfl rfl ?_
  refine x_in rfl rfl rfl ?_
  refine x_top (show _ = Value.int (1 : Int32) from congrArg Value.int (by decide)) ?_
  refine x_ret rfl rfl ?_
  exact ⟨rfl, by decide, by decide⟩
set_option maxRecDepth 100000 in
set_option maxHeartbeats 4000000 in
theorem law_s1 (n : Nat) (b0 : Int32) : x_E (m_X [b0]) 60 181 193 11164 (n + 20) 18 [(3, .int 0), (2, .ref 170), (1, .ref 0), (0, .ref 1000000)] [] m_h0 lK := by
  refine x_in rfl rfl rfl ?_
  refine x_in rfl rfl rfl ?_
  refine x_in rfl rfl rfl ?_
  refine x_top (show _ = Value.int (1 : Int32) from rfl) ?_
  refine x_in rfl rfl rfl ?_
  refine x_top (show _ = Value.int (6 : Int32) from congrArg Value.int (by decide)) ?_
  refine x_in rfl rfl rfl ?_
  refine x_top (show _ = Value.int (-5 : Int32) from congrArg Value.int (by decide)) ?_
  refine x_in rfl rfl rfl ?_
  refine x_in rfl rfl rfl ?_
  refine x_top (show _ = Value.int (1 : Int32) from congrArg Value.int (by decide)) ?_
  refine x_ret rfl rfl ?_
  exact ⟨rfl, by decide, by decide⟩
set_option maxRecDepth 100000 in
set_option maxHeartbeats 4000000 in
theorem law_s2 (n : Nat) (b0 b1 : Int32) : x_E (m_X [b0, b1]) 60 181 193 11164 (n + 20) 18 [(3, .int 0), (2, .ref 170), (1, .ref 0), (0, .ref 1000000)] [] m_h0 lK := by
  refine x_in rfl rfl rfl ?_
  refine x_in rfl rfl rfl ?_
  refine x_in rfl rfl rfl ?_
  refine x_top (show _ = Value.int (2 : Int32) from rfl) ?_
  refine x_in rfl rfl rfl ?_
  refine x_top (show _ = Value.int (6 : Int32) from congrArg Value.int (by decide)) ?_
  refine x_in rfl rfl rfl ?_
  refine x_top (show _ = Value.int (-4 : Int32) from congrArg Value.int (by decide)) ?_
  refine x_in rfl rfl rfl ?_
  refine x_in rfl rfl rfl ?_
  refine x_top (show _ = Value.int (1 : Int32) from congrArg Value.int (by decide)) ?_
  refine x_ret rfl rfl ?_
  exact ⟨rfl, by decide, by decide⟩
set_option maxRecDepth 100000 in
set_option maxHeartbeats 4000000 in
theorem law_s3 (n : Nat) (b0 b1 b2 : Int32) : x_E (m_X [b0, b1, b2]) 60 181 193 11164 (n + 20) 18 [(3, .int 0), (2, .ref 170), (1, .ref 0), (0, .ref 1000000)] [] m_h0 lK := by
  refine x_in rfl rfl rfl ?_
  refine x_in rfl rfl rfl ?_
  refine x_in rfl rfl rfl ?_
  refine x_top (show _ = Value.int (3 : Int32) from rfl) ?_
  refine x_in rfl rfl rfl ?_
  refine x_top (show _ = Value.int (6 : Int32) from congrArg Value.int (by decide)) ?_
  refine x_in rfl rfl rfl ?_
  refine x_top (show _ = Value.int (-3 : Int32) from congrArg Value.int (by decide)) ?_
  refine x_in rfl rfl rfl ?_
  refine x_in rfl rfl rfl ?_
  refine x_top (show _ = Value.int (1 : Int32) from congrArg Value.int (by decide)) ?_
  refine x_ret rfl rfl ?_
  exact ⟨rfl, by decide, by decide⟩
set_option maxRecDepth 100000 in
set_option maxHeartbeats 4000000 in
theorem law_s4 (n : Nat) (b0 b1 b2 b3 : Int32) : x_E (m_X [b0, b1, b2, b3]) 60 181 193 11164 (n + 20) 18 [(3, .int 0), (2, .ref 170), (1, .ref 0), (0, .ref 1000000)] [] m_h0 lK := by
  refine x_in rfl rfl rfl ?_
  refine x_in rfl rfl rfl ?_
  refine x_in rfl rfl rfl ?_
  refine x_top (show _ = Value.int (4 : Int32) from rfl) ?_
  refine x_in rfl rfl rfl ?_
  refine x_top (show _ = Value.int (6 : Int32) from congrArg Value.int (by decide)) ?_
  refine x_in rfl rfl rfl ?_
  refine x_top (show _ = Value.int (-2 : Int32) from congrArg Value.int (by decide)) ?_
  refine x_in rfl rfl rfl ?_
  refine x_in rfl rfl rfl ?_
  refine x_top (show _ = Value.int (1 : Int32) from congrArg Value.int (by decide)) ?_
  refine x_ret rfl rfl ?_
  exact ⟨rfl, by decide, by decide⟩
set_option maxRecDepth 100000 in
set_option maxHeartbeats 4000000 in
theorem law_s5 (n : Nat) (b0 b1 b2 b3 b4 : Int32) : x_E (m_X [b0, b1, b2, b3, b4]) 60 181 193 11164 (n + 20) 18 [(3, .int 0), (2, .ref 170), (1, .ref 0), (0, .ref 1000000)] [] m_h0 lK := by
  refine x_in rfl rfl rfl ?_
  refine x_in rfl rfl rfl ?_
  refine x_in rfl rfl rfl ?_
  refine x_top (show _ = Value.int (5 : Int32) from rfl) ?_
  refine x_in rfl rfl rfl ?_
  refine x_top (show _ = Value.int (6 : Int32) from congrArg Value.int (by decide)) ?_
  refine x_in rfl rfl rfl ?_
  refine x_top (show _ = Value.int (-1 : Int32) from congrArg Value.int (by decide)) ?_
  refine x_in rfl rfl rfl ?_
  refine x_in rfl rfl rfl ?_
  refine x_top (show _ = Value.int (1 : Int32) from congrArg Value.int (by decide)) ?_
  refine x_ret rfl rfl ?_
  exact ⟨rfl, by decide, by decide⟩
set_option maxRecDepth 100000 in
set_option maxHeartbeats 4000000 in
theorem law_6 (n : Nat) (c a1 a2 a3 a4 a5 : Int32) : x_E (m_X [c, a1, a2, a3, a4, a5]) 60 181 193 11164 (n + 312) 18 [(3, .int 0), (2, .ref 170), (1, .ref 0), (0, .ref 1000000)] [] m_h0 lK := by
  refine x_in rfl rfl rfl ?_
  refine x_in rfl rfl rfl ?_
  refine x_in rfl rfl rfl ?_
  refine x_top (show _ = Value.int (6 : Int32) from rfl) ?_
  refine x_in rfl rfl rfl ?_
  refine x_top (show _ = Value.int (6 : Int32) from congrArg Value.int (by decide)) ?_
  refine x_in rfl rfl rfl ?_
  refine x_top (show _ = Value.int (0 : Int32) from congrArg Value.int (by decide)) ?_
  refine x_in rfl rfl rfl ?_
  refine x_in rfl rfl rfl ?_
  refine x_in rfl rfl rfl ?_
  refine x_in rfl rfl rfl ?_
  refine x_in rfl rfl rfl ?_
  refine x_top (show _ = Value.int (31 : Int32) from congrArg Value.int (by decide)) ?_
  refine x_in rfl rfl rfl ?_
  obtain ⟨k, hk, e⟩ := pk_andE c (m := 31) 5 (by decide)
  refine x_top (show _ = Value.int (nI k) from congrArg Value.int e) ?_
  have hk : k = 0 ∨ k = 1 ∨ k = 2 ∨ k = 3 ∨ k = 4 ∨ k = 5 ∨ k = 6 ∨ k = 7 ∨ k = 8 ∨ k = 9 ∨ k = 10 ∨ k = 11 ∨ k = 12 ∨ k = 13 ∨ k = 14 ∨ k = 15 ∨ k = 16 ∨ k = 17 ∨ k = 18 ∨ k = 19 ∨ k = 20 ∨ k = 21 ∨ k = 22 ∨ k = 23 ∨ k = 24 ∨ k = 25 ∨ k = 26 ∨ k = 27 ∨ k = 28 ∨ k = 29 ∨ k = 30 ∨ k = 31 := by omega
  rcases hk with rfl | rfl | rfl | rfl | rfl | rfl | rfl | rfl | rfl | rfl | rfl | rfl | rfl | rfl | rfl | rfl | rfl | rfl | rfl | rfl | rfl | rfl | rfl | rfl | rfl | rfl | rfl | rfl | rfl | rfl | rfl | rfl
  · refine x_in rfl rfl rfl ?_
    exact c_0 _ c a1 a2 a3 a4 a5
  · refine x_in rfl rfl rfl ?_
    exact c_1 _ c a1 a2 a3 a4 a5
  · refine x_in rfl rfl rfl ?_
    exact c_2 _ c a1 a2 a3 a4 a5
  · refine x_in rfl rfl rfl ?_
    exact c_3 _ c a1 a2 a3 a4 a5
  · refine x_in rfl rfl rfl ?_
    exact c_4 _ c a1 a2 a3 a4 a5
  · refine x_in rfl rfl rfl ?_
    exact c_5 _ c a1 a2 a3 a4 a5
  · refine x_in rfl rfl rfl ?_
    exact c_6 _ c a1 a2 a3 a4 a5
  · refine x_in rfl rfl rfl ?_
    exact c_7 _ c a1 a2 a3 a4 a5
  · refine x_in rfl rfl rfl ?_
    exact c_8 _ c a1 a2 a3 a4 a5
  · refine x_in rfl rfl rfl ?_
    exact c_9 _ c a1 a2 a3 a4 a5
  · refine x_in rfl rfl rfl ?_
    exact c_10 _ c a1 a2 a3 a4 a5
  · refine x_in rfl rfl rfl ?_
    exact c_11 _ c a1 a2 a3 a4 a5
  · refine x_in rfl rfl rfl ?_
    exact c_12 _ c a1 a2 a3 a4 a5
  · refine x_in rfl rfl rfl ?_
    exact c_13 _ c a1 a2 a3 a4 a5
  · refine x_in rfl rfl rfl ?_
    exact c_14 _ c a1 a2 a3 a4 a5
  · refine x_in rfl rfl rfl ?_
    exact c_15 _ c a1 a2 a3 a4 a5
  · refine x_in rfl rfl rfl ?_
    exact c_16 _ c a1 a2 a3 a4 a5
  · refine x_in rfl rfl rfl ?_
    exact c_17 _ c a1 a2 a3 a4 a5
  · refine x_in rfl rfl rfl ?_
    exact c_18 _ c a1 a2 a3 a4 a5
  · refine x_in rfl rfl rfl ?_
    exact c_19 _ c a1 a2 a3 a4 a5
  · refine x_in rfl rfl rfl ?_
    exact c_20 _ c a1 a2 a3 a4 a5
  · refine x_in rfl rfl rfl ?_
    exact c_21 _ c a1 a2 a3 a4 a5
  · refine x_in rfl rfl rfl ?_
    exact c_22 _ c a1 a2 a3 a4 a5
  · refine x_in rfl rfl rfl ?_
    exact c_23 _ c a1 a2 a3 a4 a5
  · refine x_in rfl rfl rfl ?_
    exact c_24 _ c a1 a2 a3 a4 a5
  · refine x_in rfl rfl rfl ?_
    exact c_25 _ c a1 a2 a3 a4 a5
  · refine x_in rfl rfl rfl ?_
    exact c_26 _ c a1 a2 a3 a4 a5
  · refine x_in rfl rfl rfl ?_
    exact c_d _ c a1 a2 a3 a4 a5
  · refine x_in rfl rfl rfl ?_
    exact c_d _ c a1 a2 a3 a4 a5
  · refine x_in rfl rfl rfl ?_
    exact c_d _ c a1 a2 a3 a4 a5
  · refine x_in rfl rfl rfl ?_
    exact c_d _ c a1 a2 a3 a4 a5
  · refine x_in rfl rfl rfl ?_
    exact c_d _ c a1 a2 a3 a4 a5
theorem p1_ok (xs : List Int32) (h : xs.length ≤ 6) : m_Ok xs := by
  have key : x_E (m_X xs) 60 181 193 11164 999990 18 [(3, .int 0), (2, .ref 170), (1, .ref 0), (0, .ref 1000000)] [] m_h0 lK := by
    match xs, h with
    | [], _ => exact law_s0 999970
    | [b0], _ => exact law_s1 999970 b0
    | [b0, b1], _ => exact law_s2 999970 b0 b1
    | [b0, b1, b2], _ => exact law_s3 999970 b0 b1 b2
    | [b0, b1, b2, b3], _ => exact law_s4 999970 b0 b1 b2 b3
    | [b0, b1, b2, b3, b4], _ => exact law_s5 999970 b0 b1 b2 b3 b4
    | [c, a1, a2, a3, a4, a5], _ => exact law_6 999678 c a1 a2 a3 a4 a5
    | _ :: _ :: _ :: _ :: _ :: _ :: _ :: _, h => exact absurd h (by simp)
  obtain ⟨r, u, w, h1, h2, h3, h4, h5, h6⟩ := law_pre xs 999990 lK key (Nat.le_refl _) (Nat.le_refl _)
  refine ⟨r.2, ?_, Nat.le_trans h2 h5, Nat.le_trans h3 h6⟩
  rw [h1]
  show some (r.1, r.2) = _
  rw [h4]
