/-! the orders of BOXES: the class, all of them -/
section
variable {X : Nat → List Int32} {u w : Nat} {S : m_H} {V : v_V} {K : v_K}
set_option maxRecDepth 100000 in
set_option maxHeartbeats 4000000 in
theorem cs_turns {S0 : m_H} {V0 : v_V} {form N : Int} {al : Nat} {σ : Nat → Int} {m : Nat} (hm : 2 ≤ m ∧ m ≤ 4) (hI : SI S0 V0 form N al σ m S V) (k : ∀ r S2 V2, (r = 0 ∨ r = 1) → SI S0 V0 form N al σ m S2 V2 → K u w (some (iv r)) S2 V2) : y_R X 2 39 u w [.ref 116] S V K := by
  rcases (show m = 2 ∨ m = 3 ∨ m = 4 by omega) with rfl | rfl | rfl
  all_goals have hIc := hI
  all_goals obtain ⟨ts, hSr, h2, hX, h4, h5, hC, h7⟩ := hIc
  all_goals refine y_ent (lv' := [(0, .ref 116)]) (Nat.le_of_ble_eq_true rfl) rfl ?_
  · have o0 := h7 0 (by decide)
    have o1 := h7 1 (by decide)
    refine y_ld (x := .ref 116) rfl rfl (fun d => rfl) ?_
    refine y_gI (i := 4) (e := 2) rfl rfl rfl hSr.1 rfl hSr.2.1.1 ?_
    refine y_ic rfl rfl ?_
    refine y_sub (z := 0) rfl rfl rfl ?_
    refine y_st (lv' := [(1, iv 0), (0, .ref 116)]) rfl rfl (fun d => rfl) ?_
    refine y_ld (x := iv 0) rfl rfl (fun d => rfl) ?_
    refine y_zlt rfl rfl rfl (by decide) (fun g1 => absurd g1 (by decide)) (fun g1 => ?_)
    refine y_ld (x := .ref 116) rfl rfl (fun d => rfl) ?_
    refine y_gR (i := 3) rfl rfl rfl hSr.1 rfl ?_
    refine y_ld (x := iv 0) rfl rfl (fun d => rfl) ?_
    refine y_ild (x := (V 120 0)) (q := 0) rfl rfl (cl_ia hC (k := 120) (N := 4) rfl) (by decide) (by decide) rfl rfl ?_
    refine y_ld (x := .ref 116) rfl rfl (fun d => rfl) ?_
    refine y_gR (i := 3) rfl rfl rfl hSr.1 rfl ?_
    refine y_ld (x := iv 0) rfl rfl (fun d => rfl) ?_
    refine y_ic rfl rfl ?_
    refine y_add (z := 1) rfl rfl rfl ?_
    refine y_ild (x := (V 120 1)) (q := 1) rfl rfl (cl_ia hC (k := 120) (N := 4) rfl) (by decide) (by decide) rfl rfl ?_
    refine y_jle rfl rfl rfl (by omega) (fun g2 => ?_) (fun g2 => ?_)
    · refine y_ld (x := iv 0) rfl rfl (fun d => rfl) ?_
      refine y_zge rfl rfl rfl (by decide) (fun g3 => ?_) (fun g3 => absurd g3 (by decide))
      refine y_ld (x := .ref 116) rfl rfl (fun d => rfl) ?_
      refine y_gI (i := 4) (e := 2) rfl rfl rfl hSr.1 rfl hSr.2.1.1 ?_
      refine y_ic rfl rfl ?_
      refine y_sub (z := 1) rfl rfl rfl ?_
      refine y_st (lv' := [(2, iv 1), (1, iv 0), (0, .ref 116)]) rfl rfl (fun d => rfl) ?_
      refine y_ld (x := iv 1) rfl rfl (fun d => rfl) ?_
      refine y_ld (x := iv 0) rfl rfl (fun d => rfl) ?_
      refine y_jle rfl rfl rfl (by decide) (fun g4 => absurd g4 (by decide)) (fun g4 => ?_)
      refine y_ld (x := .ref 116) rfl rfl (fun d => rfl) ?_
      refine y_gR (i := 3) rfl rfl rfl hSr.1 rfl ?_
      refine y_ld (x := iv 1) rfl rfl (fun d => rfl) ?_
      refine y_ild (x := (V 120 1)) (q := 1) rfl rfl (cl_ia hC (k := 120) (N := 4) rfl) (by decide) (by decide) rfl rfl ?_
      refine y_ld (x := .ref 116) rfl rfl (fun d => rfl) ?_
      refine y_gR (i := 3) rfl rfl rfl hSr.1 rfl ?_
      refine y_ld (x := iv 0) rfl rfl (fun d => rfl) ?_
      refine y_ild (x := (V 120 0)) (q := 0) rfl rfl (cl_ia hC (k := 120) (N := 4) rfl) (by decide) (by decide) rfl rfl ?_
      refine y_jge rfl rfl rfl (by omega) (fun g5 => ?_) (fun g5 => ?_)
      · refine y_ld (x := .ref 116) rfl rfl (fun d => rfl) ?_
        refine y_ld (x := iv 0) rfl rfl (fun d => rfl) ?_
        refine y_ld (x := iv 1) rfl rfl (fun d => rfl) ?_
        refine y_cV (as := [.ref 116, iv 0, iv 1]) rfl rfl rfl rfl rfl hSr.1 ⟨rfl, (Nat.le_of_ble_eq_true rfl), (Nat.le_of_ble_eq_true rfl)⟩ (by decide) (cs_swap (by decide) hI (by decide) (by decide) (fun S11 V11 hI1 => ?_))
        have hI1c := hI1
        obtain ⟨ts1, hSr1, h21, hX1, h41, h51, hC1, h71⟩ := hI1c
        refine y_n0 ?_
        refine y_ld (x := iv 0) rfl rfl (fun d => rfl) ?_
        refine y_ic rfl rfl ?_
        refine y_add (z := 1) rfl rfl rfl ?_
        refine y_st (lv' := [(3, iv 1), (2, iv 1), (1, iv 0), (0, .ref 116)]) rfl rfl (fun d => rfl) ?_
        refine y_ld (x := .ref 116) rfl rfl (fun d => rfl) ?_
        refine y_gI (i := 4) (e := 2) rfl rfl rfl hSr1.1 rfl hSr1.2.1.1 ?_
        refine y_ic rfl rfl ?_
        refine y_sub (z := 1) rfl rfl rfl ?_
        refine y_st (lv' := [(4, iv 1), (3, iv 1), (2, iv 1), (1, iv 0), (0, .ref 116)]) rfl rfl (fun d => rfl) ?_
        refine y_ld (x := iv 1) rfl rfl (fun d => rfl) ?_
        refine y_ld (x := iv 1) rfl rfl (fun d => rfl) ?_
        refine y_jge rfl rfl rfl (by decide) (fun g6 => ?_) (fun g6 => absurd g6 (by decide))
        refine y_ic rfl rfl ?_
        refine y_rI rfl (by decide) ?_
        exact k 1 S11 V11 (by decide) hI1
      · refine y_inc (z := 0) (lv' := [(2, iv 0), (1, iv 0), (0, .ref 116)]) rfl rfl rfl rfl rfl ?_
        refine y_go rfl rfl ?_
        refine y_ld (x := iv 0) rfl rfl (fun d => rfl) ?_
        refine y_ld (x := iv 0) rfl rfl (fun d => rfl) ?_
        refine y_jle rfl rfl rfl (by decide) (fun g7 => ?_) (fun g7 => absurd g7 (by decide))
        refine y_ld (x := .ref 116) rfl rfl (fun d => rfl) ?_
        refine y_ld (x := iv 0) rfl rfl (fun d => rfl) ?_
        refine y_ld (x := iv 0) rfl rfl (fun d => rfl) ?_
        refine y_cV (as := [.ref 116, iv 0, iv 0]) rfl rfl rfl rfl rfl hSr.1 ⟨rfl, (Nat.le_of_ble_eq_true rfl), (Nat.le_of_ble_eq_true rfl)⟩ (by decide) (cs_swap (by decide) hI (by decide) (by decide) (fun S11 V11 hI1 => ?_))
        have hI1c := hI1
        obtain ⟨ts1, hSr1, h21, hX1, h41, h51, hC1, h71⟩ := hI1c
        refine y_n0 ?_
        refine y_ld (x := iv 0) rfl rfl (fun d => rfl) ?_
        refine y_ic rfl rfl ?_
        refine y_add (z := 1) rfl rfl rfl ?_
        refine y_st (lv' := [(3, iv 1), (2, iv 0), (1, iv 0), (0, .ref 116)]) rfl rfl (fun d => rfl) ?_
        refine y_ld (x := .ref 116) rfl rfl (fun d => rfl) ?_
        refine y_gI (i := 4) (e := 2) rfl rfl rfl hSr1.1 rfl hSr1.2.1.1 ?_
        refine y_ic rfl rfl ?_
        refine y_sub (z := 1) rfl rfl rfl ?_
        refine y_st (lv' := [(4, iv 1), (3, iv 1), (2, iv 0), (1, iv 0), (0, .ref 116)]) rfl rfl (fun d => rfl) ?_
        refine y_ld (x := iv 1) rfl rfl (fun d => rfl) ?_
        refine y_ld (x := iv 1) rfl rfl (fun d => rfl) ?_
        refine y_jge rfl rfl rfl (by decide) (fun g8 => ?_) (fun g8 => absurd g8 (by decide))
        refine y_ic rfl rfl ?_
        refine y_rI rfl (by decide) ?_
        exact k 1 S11 V11 (by decide) hI1
    · refine y_inc (z := (-1)) (lv' := [(1, iv (-1)), (0, .ref 116)]) rfl rfl rfl rfl rfl ?_
      refine y_go rfl rfl ?_
      refine y_ld (x := iv (-1)) rfl rfl (fun d => rfl) ?_
      refine y_zlt rfl rfl rfl (by decide) (fun g9 => ?_) (fun g9 => absurd g9 (by decide))
      refine y_ld (x := iv (-1)) rfl rfl (fun d => rfl) ?_
      refine y_zge rfl rfl rfl (by decide) (fun g10 => absurd g10 (by decide)) (fun g10 => ?_)
      refine y_ic rfl rfl ?_
      refine y_rI rfl (by decide) ?_
      exact k 0 S V (by decide) hI
  · have o0 := h7 0 (by decide)
    have o1 := h7 1 (by decide)
    have o2 := h7 2 (by decide)
    refine y_ld (x := .ref 116) rfl rfl (fun d => rfl) ?_
    refine y_gI (i := 4) (e := 3) rfl rfl rfl hSr.1 rfl hSr.2.1.1 ?_
    refine y_ic rfl rfl ?_
    refine y_sub (z := 1) rfl rfl rfl ?_
    refine y_st (lv' := [(1, iv 1), (0, .ref 116)]) rfl rfl (fun d => rfl) ?_
    refine y_ld (x := iv 1) rfl rfl (fun d => rfl) ?_
    refine y_zlt rfl rfl rfl (by decide) (fun g11 => absurd g11 (by decide)) (fun g11 => ?_)
    refine y_ld (x := .ref 116) rfl rfl (fun d => rfl) ?_
    refine y_gR (i := 3) rfl rfl rfl hSr.1 rfl ?_
    refine y_ld (x := iv 1) rfl rfl (fun d => rfl) ?_
    refine y_ild (x := (V 120 1)) (q := 1) rfl rfl (cl_ia hC (k := 120) (N := 4) rfl) (by decide) (by decide) rfl rfl ?_
    refine y_ld (x := .ref 116) rfl rfl (fun d => rfl) ?_
    refine y_gR (i := 3) rfl rfl rfl hSr.1 rfl ?_
    refine y_ld (x := iv 1) rfl rfl (fun d => rfl) ?_
    refine y_ic rfl rfl ?_
    refine y_add (z := 2) rfl rfl rfl ?_
    refine y_ild (x := (V 120 2)) (q := 2) rfl rfl (cl_ia hC (k := 120) (N := 4) rfl) (by decide) (by decide) rfl rfl ?_
    refine y_jle rfl rfl rfl (by omega) (fun g12 => ?_) (fun g12 => ?_)
    · refine y_ld (x := iv 1) rfl rfl (fun d => rfl) ?_
      refine y_zge rfl rfl rfl (by decide) (fun g13 => ?_) (fun g13 => absurd g13 (by decide))
      refine y_ld (x := .ref 116) rfl rfl (fun d => rfl) ?_
      refine y_gI (i := 4) (e := 3) rfl rfl rfl hSr.1 rfl hSr.2.1.1 ?_
      refine y_ic rfl rfl ?_
      refine y_sub (z := 2) rfl rfl rfl ?_
      refine y_st (lv' := [(2, iv 2), (1, iv 1), (0, .ref 116)]) rfl rfl (fun d => rfl) ?_
      refine y_ld (x := iv 2) rfl rfl (fun d => rfl) ?_
      refine y_ld (x := iv 1) rfl rfl (fun d => rfl) ?_
      refine y_jle rfl rfl rfl (by decide) (fun g14 => absurd g14 (by decide)) (fun g14 => ?_)
      refine y_ld (x := .ref 116) rfl rfl (fun d => rfl) ?_
      refine y_gR (i := 3) rfl rfl rfl hSr.1 rfl ?_
      refine y_ld (x := iv 2) rfl rfl (fun d => rfl) ?_
      refine y_ild (x := (V 120 2)) (q := 2) rfl rfl (cl_ia hC (k := 120) (N := 4) rfl) (by decide) (by decide) rfl rfl ?_
      refine y_ld (x := .ref 116) rfl rfl (fun d => rfl) ?_
      refine y_gR (i := 3) rfl rfl rfl hSr.1 rfl ?_
      refine y_ld (x := iv 1) rfl rfl (fun d => rfl) ?_
      refine y_ild (x := (V 120 1)) (q := 1) rfl rfl (cl_ia hC (k := 120) (N := 4) rfl) (by decide) (by decide) rfl rfl ?_
      refine y_jge rfl rfl rfl (by omega) (fun g15 => ?_) (fun g15 => ?_)
      · refine y_ld (x := .ref 116) rfl rfl (fun d => rfl) ?_
        refine y_ld (x := iv 1) rfl rfl (fun d => rfl) ?_
        refine y_ld (x := iv 2) rfl rfl (fun d => rfl) ?_
        refine y_cV (as := [.ref 116, iv 1, iv 2]) rfl rfl rfl rfl rfl hSr.1 ⟨rfl, (Nat.le_of_ble_eq_true rfl), (Nat.le_of_ble_eq_true rfl)⟩ (by decide) (cs_swap (by decide) hI (by decide) (by decide) (fun S11 V11 hI1 => ?_))
        have hI1c := hI1
        obtain ⟨ts1, hSr1, h21, hX1, h41, h51, hC1, h71⟩ := hI1c
        refine y_n0 ?_
        refine y_ld (x := iv 1) rfl rfl (fun d => rfl) ?_
        refine y_ic rfl rfl ?_
        refine y_add (z := 2) rfl rfl rfl ?_
        refine y_st (lv' := [(3, iv 2), (2, iv 2), (1, iv 1), (0, .ref 116)]) rfl rfl (fun d => rfl) ?_
        refine y_ld (x := .ref 116) rfl rfl (fun d => rfl) ?_
        refine y_gI (i := 4) (e := 3) rfl rfl rfl hSr1.1 rfl hSr1.2.1.1 ?_
        refine y_ic rfl rfl ?_
        refine y_sub (z := 2) rfl rfl rfl ?_
        refine y_st (lv' := [(4, iv 2), (3, iv 2), (2, iv 2), (1, iv 1), (0, .ref 116)]) rfl rfl (fun d => rfl) ?_
        refine y_ld (x := iv 2) rfl rfl (fun d => rfl) ?_
        refine y_ld (x := iv 2) rfl rfl (fun d => rfl) ?_
        refine y_jge rfl rfl rfl (by decide) (fun g16 => ?_) (fun g16 => absurd g16 (by decide))
        refine y_ic rfl rfl ?_
        refine y_rI rfl (by decide) ?_
        exact k 1 S11 V11 (by decide) hI1
      · refine y_inc (z := 1) (lv' := [(2, iv 1), (1, iv 1), (0, .ref 116)]) rfl rfl rfl rfl rfl ?_
        refine y_go rfl rfl ?_
        refine y_ld (x := iv 1) rfl rfl (fun d => rfl) ?_
        refine y_ld (x := iv 1) rfl rfl (fun d => rfl) ?_
        refine y_jle rfl rfl rfl (by decide) (fun g17 => ?_) (fun g17 => absurd g17 (by decide))
        refine y_ld (x := .ref 116) rfl rfl (fun d => rfl) ?_
        refine y_ld (x := iv 1) rfl rfl (fun d => rfl) ?_
        refine y_ld (x := iv 1) rfl rfl (fun d => rfl) ?_
        refine y_cV (as := [.ref 116, iv 1, iv 1]) rfl rfl rfl rfl rfl hSr.1 ⟨rfl, (Nat.le_of_ble_eq_true rfl), (Nat.le_of_ble_eq_true rfl)⟩ (by decide) (cs_swap (by decide) hI (by decide) (by decide) (fun S11 V11 hI1 => ?_))
        have hI1c := hI1
        obtain ⟨ts1, hSr1, h21, hX1, h41, h51, hC1, h71⟩ := hI1c
        refine y_n0 ?_
        refine y_ld (x := iv 1) rfl rfl (fun d => rfl) ?_
        refine y_ic rfl rfl ?_
        refine y_add (z := 2) rfl rfl rfl ?_
        refine y_st (lv' := [(3, iv 2), (2, iv 1), (1, iv 1), (0, .ref 116)]) rfl rfl (fun d => rfl) ?_
        refine y_ld (x := .ref 116) rfl rfl (fun d => rfl) ?_
        refine y_gI (i := 4) (e := 3) rfl rfl rfl hSr1.1 rfl hSr1.2.1.1 ?_
        refine y_ic rfl rfl ?_
        refine y_sub (z := 2) rfl rfl rfl ?_
        refine y_st (lv' := [(4, iv 2), (3, iv 2), (2, iv 1), (1, iv 1), (0, .ref 116)]) rfl rfl (fun d => rfl) ?_
        refine y_ld (x := iv 2) rfl rfl (fun d => rfl) ?_
        refine y_ld (x := iv 2) rfl rfl (fun d => rfl) ?_
        refine y_jge rfl rfl rfl (by decide) (fun g18 => ?_) (fun g18 => absurd g18 (by decide))
        refine y_ic rfl rfl ?_
        refine y_rI rfl (by decide) ?_
        exact k 1 S11 V11 (by decide) hI1
    · refine y_inc (z := 0) (lv' := [(1, iv 0), (0, .ref 116)]) rfl rfl rfl rfl rfl ?_
      refine y_go rfl rfl ?_
      refine y_ld (x := iv 0) rfl rfl (fun d => rfl) ?_
      refine y_zlt rfl rfl rfl (by decide) (fun g19 => absurd g19 (by decide)) (fun g19 => ?_)
      refine y_ld (x := .ref 116) rfl rfl (fun d => rfl) ?_
      refine y_gR (i := 3) rfl rfl rfl hSr.1 rfl ?_
      refine y_ld (x := iv 0) rfl rfl (fun d => rfl) ?_
      refine y_ild (x := (V 120 0)) (q := 0) rfl rfl (cl_ia hC (k := 120) (N := 4) rfl) (by decide) (by decide) rfl rfl ?_
      refine y_ld (x := .ref 116) rfl rfl (fun d => rfl) ?_
      refine y_gR (i := 3) rfl rfl rfl hSr.1 rfl ?_
      refine y_ld (x := iv 0) rfl rfl (fun d => rfl) ?_
      refine y_ic rfl rfl ?_
      refine y_add (z := 1) rfl rfl rfl ?_
      refine y_ild (x := (V 120 1)) (q := 1) rfl rfl (cl_ia hC (k := 120) (N := 4) rfl) (by decide) (by decide) rfl rfl ?_
      refine y_jle rfl rfl rfl (by omega) (fun g20 => ?_) (fun g20 => ?_)
      · refine y_ld (x := iv 0) rfl rfl (fun d => rfl) ?_
        refine y_zge rfl rfl rfl (by decide) (fun g21 => ?_) (fun g21 => absurd g21 (by decide))
        refine y_ld (x := .ref 116) rfl rfl (fun d => rfl) ?_
        refine y_gI (i := 4) (e := 3) rfl rfl rfl hSr.1 rfl hSr.2.1.1 ?_
        refine y_ic rfl rfl ?_
        refine y_sub (z := 2) rfl rfl rfl ?_
        refine y_st (lv' := [(2, iv 2), (1, iv 0), (0, .ref 116)]) rfl rfl (fun d => rfl) ?_
        refine y_ld (x := iv 2) rfl rfl (fun d => rfl) ?_
        refine y_ld (x := iv 0) rfl rfl (fun d => rfl) ?_
        refine y_jle rfl rfl rfl (by decide) (fun g22 => absurd g22 (by decide)) (fun g22 => ?_)
        refine y_ld (x := .ref 116) rfl rfl (fun d => rfl) ?_
        refine y_gR (i := 3) rfl rfl rfl hSr.1 rfl ?_
        refine y_ld (x := iv 2) rfl rfl (fun d => rfl) ?_
        refine y_ild (x := (V 120 2)) (q := 2) rfl rfl (cl_ia hC (k := 120) (N := 4) rfl) (by decide) (by decide) rfl rfl ?_
        refine y_ld (x := .ref 116) rfl rfl (fun d => rfl) ?_
        refine y_gR (i := 3) rfl rfl rfl hSr.1 rfl ?_
        refine y_ld (x := iv 0) rfl rfl (fun d => rfl) ?_
        refine y_ild (x := (V 120 0)) (q := 0) rfl rfl (cl_ia hC (k := 120) (N := 4) rfl) (by decide) (by decide) rfl rfl ?_
        refine y_jge rfl rfl rfl (by omega) (fun g23 => ?_) (fun g23 => ?_)
        · refine y_ld (x := .ref 116) rfl rfl (fun d => rfl) ?_
          refine y_ld (x := iv 0) rfl rfl (fun d => rfl) ?_
          refine y_ld (x := iv 2) rfl rfl (fun d => rfl) ?_
          refine y_cV (as := [.ref 116, iv 0, iv 2]) rfl rfl rfl rfl rfl hSr.1 ⟨rfl, (Nat.le_of_ble_eq_true rfl), (Nat.le_of_ble_eq_true rfl)⟩ (by decide) (cs_swap (by decide) hI (by decide) (by decide) (fun S11 V11 hI1 => ?_))
          have hI1c := hI1
          obtain ⟨ts1, hSr1, h21, hX1, h41, h51, hC1, h71⟩ := hI1c
          refine y_n0 ?_
          refine y_ld (x := iv 0) rfl rfl (fun d => rfl) ?_
          refine y_ic rfl rfl ?_
          refine y_add (z := 1) rfl rfl rfl ?_
          refine y_st (lv' := [(3, iv 1), (2, iv 2), (1, iv 0), (0, .ref 116)]) rfl rfl (fun d => rfl) ?_
          refine y_ld (x := .ref 116) rfl rfl (fun d => rfl) ?_
          refine y_gI (i := 4) (e := 3) rfl rfl rfl hSr1.1 rfl hSr1.2.1.1 ?_
          refine y_ic rfl rfl ?_
          refine y_sub (z := 2) rfl rfl rfl ?_
          refine y_st (lv' := [(4, iv 2), (3, iv 1), (2, iv 2), (1, iv 0), (0, .ref 116)]) rfl rfl (fun d => rfl) ?_
          refine y_ld (x := iv 1) rfl rfl (fun d => rfl) ?_
          refine y_ld (x := iv 2) rfl rfl (fun d => rfl) ?_
          refine y_jge rfl rfl rfl (by decide) (fun g24 => absurd g24 (by decide)) (fun g24 => ?_)
          refine y_ld (x := .ref 116) rfl rfl (fun d => rfl) ?_
          refine y_ld (x := iv 1) rfl rfl (fun d => rfl) ?_
          refine y_ld (x := iv 2) rfl rfl (fun d => rfl) ?_
          refine y_cV (as := [.ref 116, iv 1, iv 2]) rfl rfl rfl rfl rfl hSr1.1 ⟨rfl, (Nat.le_of_ble_eq_true rfl), (Nat.le_of_ble_eq_true rfl)⟩ (by decide) (cs_swap (by decide) hI1 (by decide) (by decide) (fun S12 V12 hI2 => ?_))
          have hI2c := hI2
          obtain ⟨ts2, hSr2, h22, hX2, h42, h52, hC2, h72⟩ := hI2c
          refine y_n0 ?_
          refine y_inc (z := 2) (lv' := [(3, iv 2), (4, iv 2), (2, iv 2), (1, iv 0), (0, .ref 116)]) rfl rfl rfl rfl rfl ?_
          refine y_inc (z := 1) (lv' := [(4, iv 1), (3, iv 2), (2, iv 2), (1, iv 0), (0, .ref 116)]) rfl rfl rfl rfl rfl ?_
          refine y_go rfl rfl ?_
          refine y_ld (x := iv 2) rfl rfl (fun d => rfl) ?_
          refine y_ld (x := iv 1) rfl rfl (fun d => rfl) ?_
          refine y_jge rfl rfl rfl (by decide) (fun g25 => ?_) (fun g25 => absurd g25 (by decide))
          refine y_ic rfl rfl ?_
          refine y_rI rfl (by decide) ?_
          exact k 1 S12 V12 (by decide) hI2
        · refine y_inc (z := 1) (lv' := [(2, iv 1), (1, iv 0), (0, .ref 116)]) rfl rfl rfl rfl rfl ?_
          refine y_go rfl rfl ?_
          refine y_ld (x := iv 1) rfl rfl (fun d => rfl) ?_
          refine y_ld (x := iv 0) rfl rfl (fun d => rfl) ?_
          refine y_jle rfl rfl rfl (by decide) (fun g26 => absurd g26 (by decide)) (fun g26 => ?_)
          refine y_ld (x := .ref 116) rfl rfl (fun d => rfl) ?_
          refine y_gR (i := 3) rfl rfl rfl hSr.1 rfl ?_
          refine y_ld (x := iv 1) rfl rfl (fun d => rfl) ?_
          refine y_ild (x := (V 120 1)) (q := 1) rfl rfl (cl_ia hC (k := 120) (N := 4) rfl) (by decide) (by decide) rfl rfl ?_
          refine y_ld (x := .ref 116) rfl rfl (fun d => rfl) ?_
          refine y_gR (i := 3) rfl rfl rfl hSr.1 rfl ?_
          refine y_ld (x := iv 0) rfl rfl (fun d => rfl) ?_
          refine y_ild (x := (V 120 0)) (q := 0) rfl rfl (cl_ia hC (k := 120) (N := 4) rfl) (by decide) (by decide) rfl rfl ?_
          refine y_jge rfl rfl rfl (by omega) (fun g27 => ?_) (fun g27 => ?_)
          · refine y_ld (x := .ref 116) rfl rfl (fun d => rfl) ?_
            refine y_ld (x := iv 0) rfl rfl (fun d => rfl) ?_
            refine y_ld (x := iv 1) rfl rfl (fun d => rfl) ?_
            refine y_cV (as := [.ref 116, iv 0, iv 1]) rfl rfl rfl rfl rfl hSr.1 ⟨rfl, (Nat.le_of_ble_eq_true rfl), (Nat.le_of_ble_eq_true rfl)⟩ (by decide) (cs_swap (by decide) hI (by decide) (by decide) (fun S11 V11 hI1 => ?_))
            have hI1c := hI1
            obtain ⟨ts1, hSr1, h21, hX1, h41, h51, hC1, h71⟩ := hI1c
            refine y_n0 ?_
            refine y_ld (x := iv 0) rfl rfl (fun d => rfl) ?_
            refine y_ic rfl rfl ?_
            refine y_add (z := 1) rfl rfl rfl ?_
            refine y_st (lv' := [(3, iv 1), (2, iv 1), (1, iv 0), (0, .ref 116)]) rfl rfl (fun d => rfl) ?_
            refine y_ld (x := .ref 116) rfl rfl (fun d => rfl) ?_
            refine y_gI (i := 4) (e := 3) rfl rfl rfl hSr1.1 rfl hSr1.2.1.1 ?_
            refine y_ic rfl rfl ?_
            refine y_sub (z := 2) rfl rfl rfl ?_
            refine y_st (lv' := [(4, iv 2), (3, iv 1), (2, iv 1), (1, iv 0), (0, .ref 116)]) rfl rfl (fun d => rfl) ?_
            refine y_ld (x := iv 1) rfl rfl (fun d => rfl) ?_
            refine y_ld (x := iv 2) rfl rfl (fun d => rfl) ?_
            refine y_jge rfl rfl rfl (by decide) (fun g28 => absurd g28 (by decide)) (fun g28 => ?_)
            refine y_ld (x := .ref 116) rfl rfl (fun d => rfl) ?_
            refine y_ld (x := iv 1) rfl rfl (fun d => rfl) ?_
            refine y_ld (x := iv 2) rfl rfl (fun d => rfl) ?_
            refine y_cV (as := [.ref 116, iv 1, iv 2]) rfl rfl rfl rfl rfl hSr1.1 ⟨rfl, (Nat.le_of_ble_eq_true rfl), (Nat.le_of_ble_eq_true rfl)⟩ (by decide) (cs_swap (by decide) hI1 (by decide) (by decide) (fun S12 V12 hI2 => ?_))
            have hI2c := hI2
            obtain ⟨ts2, hSr2, h22, hX2, h42, h52, hC2, h72⟩ := hI2c
            refine y_n0 ?_
            refine y_inc (z := 2) (lv' := [(3, iv 2), (4, iv 2), (2, iv 1), (1, iv 0), (0, .ref 116)]) rfl rfl rfl rfl rfl ?_
            refine y_inc (z := 1) (lv' := [(4, iv 1), (3, iv 2), (2, iv 1), (1, iv 0), (0, .ref 116)]) rfl rfl rfl rfl rfl ?_
            refine y_go rfl rfl ?_
            refine y_ld (x := iv 2) rfl rfl (fun d => rfl) ?_
            refine y_ld (x := iv 1) rfl rfl (fun d => rfl) ?_
            refine y_jge rfl rfl rfl (by decide) (fun g29 => ?_) (fun g29 => absurd g29 (by decide))
            refine y_ic rfl rfl ?_
            refine y_rI rfl (by decide) ?_
            exact k 1 S12 V12 (by decide) hI2
          · refine y_inc (z := 0) (lv' := [(2, iv 0), (1, iv 0), (0, .ref 116)]) rfl rfl rfl rfl rfl ?_
            refine y_go rfl rfl ?_
            refine y_ld (x := iv 0) rfl rfl (fun d => rfl) ?_
            refine y_ld (x := iv 0) rfl rfl (fun d => rfl) ?_
            refine y_jle rfl rfl rfl (by decide) (fun g30 => ?_) (fun g30 => absurd g30 (by decide))
            refine y_ld (x := .ref 116) rfl rfl (fun d => rfl) ?_
            refine y_ld (x := iv 0) rfl rfl (fun d => rfl) ?_
            refine y_ld (x := iv 0) rfl rfl (fun d => rfl) ?_
            refine y_cV (as := [.ref 116, iv 0, iv 0]) rfl rfl rfl rfl rfl hSr.1 ⟨rfl, (Nat.le_of_ble_eq_true rfl), (Nat.le_of_ble_eq_true rfl)⟩ (by decide) (cs_swap (by decide) hI (by decide) (by decide) (fun S11 V11 hI1 => ?_))
            have hI1c := hI1
            obtain ⟨ts1, hSr1, h21, hX1, h41, h51, hC1, h71⟩ := hI1c
            refine y_n0 ?_
            refine y_ld (x := iv 0) rfl rfl (fun d => rfl) ?_
            refine y_ic rfl rfl ?_
            refine y_add (z := 1) rfl rfl rfl ?_
            refine y_st (lv' := [(3, iv 1), (2, iv 0), (1, iv 0), (0, .ref 116)]) rfl rfl (fun d => rfl) ?_
            refine y_ld (x := .ref 116) rfl rfl (fun d => rfl) ?_
            refine y_gI (i := 4) (e := 3) rfl rfl rfl hSr1.1 rfl hSr1.2.1.1 ?_
            refine y_ic rfl rfl ?_
            refine y_sub (z := 2) rfl rfl rfl ?_
            refine y_st (lv' := [(4, iv 2), (3, iv 1), (2, iv 0), (1, iv 0), (0, .ref 116)]) rfl rfl (fun d => rfl) ?_
            refine y_ld (x := iv 1) rfl rfl (fun d => rfl) ?_
            refine y_ld (x := iv 2) rfl rfl (fun d => rfl) ?_
            refine y_jge rfl rfl rfl (by decide) (fun g31 => absurd g31 (by decide)) (fun g31 => ?_)
            refine y_ld (x := .ref 116) rfl rfl (fun d => rfl) ?_
            refine y_ld (x := iv 1) rfl rfl (fun d => rfl) ?_
            refine y_ld (x := iv 2) rfl rfl (fun d => rfl) ?_
            refine y_cV (as := [.ref 116, iv 1, iv 2]) rfl rfl rfl rfl rfl hSr1.1 ⟨rfl, (Nat.le_of_ble_eq_true rfl), (Nat.le_of_ble_eq_true rfl)⟩ (by decide) (cs_swap (by decide) hI1 (by decide) (by decide) (fun S12 V12 hI2 => ?_))
            have hI2c := hI2
            obtain ⟨ts2, hSr2, h22, hX2, h42, h52, hC2, h72⟩ := hI2c
            refine y_n0 ?_
            refine y_inc (z := 2) (lv' := [(3, iv 2), (4, iv 2), (2, iv 0), (1, iv 0), (0, .ref 116)]) rfl rfl rfl rfl rfl ?_
            refine y_inc (z := 1) (lv' := [(4, iv 1), (3, iv 2), (2, iv 0), (1, iv 0), (0, .ref 116)]) rfl rfl rfl rfl rfl ?_
            refine y_go rfl rfl ?_
            refine y_ld (x := iv 2) rfl rfl (fun d => rfl) ?_
            refine y_ld (x := iv 1) rfl rfl (fun d => rfl) ?_
            refine y_jge rfl rfl rfl (by decide) (fun g32 => ?_) (fun g32 => absurd g32 (by decide))
            refine y_ic rfl rfl ?_
            refine y_rI rfl (by decide) ?_
            exact k 1 S12 V12 (by decide) hI2
      · refine y_inc (z := (-1)) (lv' := [(1, iv (-1)), (0, .ref 116)]) rfl rfl rfl rfl rfl ?_
        refine y_go rfl rfl ?_
        refine y_ld (x := iv (-1)) rfl rfl (fun d => rfl) ?_
        refine y_zlt rfl rfl rfl (by decide) (fun g33 => ?_) (fun g33 => absurd g33 (by decide))
        refine y_ld (x := iv (-1)) rfl rfl (fun d => rfl) ?_
        refine y_zge rfl rfl rfl (by decide) (fun g34 => absurd g34 (by decide)) (fun g34 => ?_)
        refine y_ic rfl rfl ?_
        refine y_rI rfl (by decide) ?_
        exact k 0 S V (by decide) hI
  · have o0 := h7 0 (by decide)
    have o1 := h7 1 (by decide)
    have o2 := h7 2 (by decide)
    have o3 := h7 3 (by decide)
    refine y_ld (x := .ref 116) rfl rfl (fun d => rfl) ?_
    refine y_gI (i := 4) (e := 4) rfl rfl rfl hSr.1 rfl hSr.2.1.1 ?_
    refine y_ic rfl rfl ?_
    refine y_sub (z := 2) rfl rfl rfl ?_
    refine y_st (lv' := [(1, iv 2), (0, .ref 116)]) rfl rfl (fun d => rfl) ?_
    refine y_ld (x := iv 2) rfl rfl (fun d => rfl) ?_
    refine y_zlt rfl rfl rfl (by decide) (fun g35 => absurd g35 (by decide)) (fun g35 => ?_)
    refine y_ld (x := .ref 116) rfl rfl (fun d => rfl) ?_
    refine y_gR (i := 3) rfl rfl rfl hSr.1 rfl ?_
    refine y_ld (x := iv 2) rfl rfl (fun d => rfl) ?_
    refine y_ild (x := (V 120 2)) (q := 2) rfl rfl (cl_ia hC (k := 120) (N := 4) rfl) (by decide) (by decide) rfl rfl ?_
    refine y_ld (x := .ref 116) rfl rfl (fun d => rfl) ?_
    refine y_gR (i := 3) rfl rfl rfl hSr.1 rfl ?_
    refine y_ld (x := iv 2) rfl rfl (fun d => rfl) ?_
    refine y_ic rfl rfl ?_
    refine y_add (z := 3) rfl rfl rfl ?_
    refine y_ild (x := (V 120 3)) (q := 3) rfl rfl (cl_ia hC (k := 120) (N := 4) rfl) (by decide) (by decide) rfl rfl ?_
    refine y_jle rfl rfl rfl (by omega) (fun g36 => ?_) (fun g36 => ?_)
    · refine y_ld (x := iv 2) rfl rfl (fun d => rfl) ?_
      refine y_zge rfl rfl rfl (by decide) (fun g37 => ?_) (fun g37 => absurd g37 (by decide))
      refine y_ld (x := .ref 116) rfl rfl (fun d => rfl) ?_
      refine y_gI (i := 4) (e := 4) rfl rfl rfl hSr.1 rfl hSr.2.1.1 ?_
      refine y_ic rfl rfl ?_
      refine y_sub (z := 3) rfl rfl rfl ?_
      refine y_st (lv' := [(2, iv 3), (1, iv 2), (0, .ref 116)]) rfl rfl (fun d => rfl) ?_
      refine y_ld (x := iv 3) rfl rfl (fun d => rfl) ?_
      refine y_ld (x := iv 2) rfl rfl (fun d => rfl) ?_
      refine y_jle rfl rfl rfl (by decide) (fun g38 => absurd g38 (by decide)) (fun g38 => ?_)
      refine y_ld (x := .ref 116) rfl rfl (fun d => rfl) ?_
      refine y_gR (i := 3) rfl rfl rfl hSr.1 rfl ?_
      refine y_ld (x := iv 3) rfl rfl (fun d => rfl) ?_
      refine y_ild (x := (V 120 3)) (q := 3) rfl rfl (cl_ia hC (k := 120) (N := 4) rfl) (by decide) (by decide) rfl rfl ?_
      refine y_ld (x := .ref 116) rfl rfl (fun d => rfl) ?_
      refine y_gR (i := 3) rfl rfl rfl hSr.1 rfl ?_
      refine y_ld (x := iv 2) rfl rfl (fun d => rfl) ?_
      refine y_ild (x := (V 120 2)) (q := 2) rfl rfl (cl_ia hC (k := 120) (N := 4) rfl) (by decide) (by decide) rfl rfl ?_
      refine y_jge rfl rfl rfl (by omega) (fun g39 => ?_) (fun g39 => ?_)
      · refine y_ld (x := .ref 116) rfl rfl (fun d => rfl) ?_
        refine y_ld (x := iv 2) rfl rfl (fun d => rfl) ?_
        refine y_ld (x := iv 3) rfl rfl (fun d => rfl) ?_
        refine y_cV (as := [.ref 116, iv 2, iv 3]) rfl rfl rfl rfl rfl hSr.1 ⟨rfl, (Nat.le_of_ble_eq_true rfl), (Nat.le_of_ble_eq_true rfl)⟩ (by decide) (cs_swap (by decide) hI (by decide) (by decide) (fun S11 V11 hI1 => ?_))
        have hI1c := hI1
        obtain ⟨ts1, hSr1, h21, hX1, h41, h51, hC1, h71⟩ := hI1c
        refine y_n0 ?_
        refine y_ld (x := iv 2) rfl rfl (fun d => rfl) ?_
        refine y_ic rfl rfl ?_
        refine y_add (z := 3) rfl rfl rfl ?_
        refine y_st (lv' := [(3, iv 3), (2, iv 3), (1, iv 2), (0, .ref 116)]) rfl rfl (fun d => rfl) ?_
        refine y_ld (x := .ref 116) rfl rfl (fun d => rfl) ?_
        refine y_gI (i := 4) (e := 4) rfl rfl rfl hSr1.1 rfl hSr1.2.1.1 ?_
        refine y_ic rfl rfl ?_
        refine y_sub (z := 3) rfl rfl rfl ?_
        refine y_st (lv' := [(4, iv 3), (3, iv 3), (2, iv 3), (1, iv 2), (0, .ref 116)]) rfl rfl (fun d => rfl) ?_
        refine y_ld (x := iv 3) rfl rfl (fun d => rfl) ?_
        refine y_ld (x := iv 3) rfl rfl (fun d => rfl) ?_
        refine y_jge rfl rfl rfl (by decide) (fun g40 => ?_) (fun g40 => absurd g40 (by decide))
        refine y_ic rfl rfl ?_
        refine y_rI rfl (by decide) ?_
        exact k 1 S11 V11 (by decide) hI1
      · refine y_inc (z := 2) (lv' := [(2, iv 2), (1, iv 2), (0, .ref 116)]) rfl rfl rfl rfl rfl ?_
        refine y_go rfl rfl ?_
        refine y_ld (x := iv 2) rfl rfl (fun d => rfl) ?_
        refine y_ld (x := iv 2) rfl rfl (fun d => rfl) ?_
        refine y_jle rfl rfl rfl (by decide) (fun g41 => ?_) (fun g41 => absurd g41 (by decide))
        refine y_ld (x := .ref 116) rfl rfl (fun d => rfl) ?_
        refine y_ld (x := iv 2) rfl rfl (fun d => rfl) ?_
        refine y_ld (x := iv 2) rfl rfl (fun d => rfl) ?_
        refine y_cV (as := [.ref 116, iv 2, iv 2]) rfl rfl rfl rfl rfl hSr.1 ⟨rfl, (Nat.le_of_ble_eq_true rfl), (Nat.le_of_ble_eq_true rfl)⟩ (by decide) (cs_swap (by decide) hI (by decide) (by decide) (fun S11 V11 hI1 => ?_))
        have hI1c := hI1
        obtain ⟨ts1, hSr1, h21, hX1, h41, h51, hC1, h71⟩ := hI1c
        refine y_n0 ?_
        refine y_ld (x := iv 2) rfl rfl (fun d => rfl) ?_
        refine y_ic rfl rfl ?_
        refine y_add (z := 3) rfl rfl rfl ?_
        refine y_st (lv' := [(3, iv 3), (2, iv 2), (1, iv 2), (0, .ref 116)]) rfl rfl (fun d => rfl) ?_
        refine y_ld (x := .ref 116) rfl rfl (fun d => rfl) ?_
        refine y_gI (i := 4) (e := 4) rfl rfl rfl hSr1.1 rfl hSr1.2.1.1 ?_
        refine y_ic rfl rfl ?_
        refine y_sub (z := 3) rfl rfl rfl ?_
        refine y_st (lv' := [(4, iv 3), (3, iv 3), (2, iv 2), (1, iv 2), (0, .ref 116)]) rfl rfl (fun d => rfl) ?_
        refine y_ld (x := iv 3) rfl rfl (fun d => rfl) ?_
        refine y_ld (x := iv 3) rfl rfl (fun d => rfl) ?_
        refine y_jge rfl rfl rfl (by decide) (fun g42 => ?_) (fun g42 => absurd g42 (by decide))
        refine y_ic rfl rfl ?_
        refine y_rI rfl (by decide) ?_
        exact k 1 S11 V11 (by decide) hI1
    · refine y_inc (z := 1) (lv' := [(1, iv 1), (0, .ref 116)]) rfl rfl rfl rfl rfl ?_
      refine y_go rfl rfl ?_
      refine y_ld (x := iv 1) rfl rfl (fun d => rfl) ?_
      refine y_zlt rfl rfl rfl (by decide) (fun g43 => absurd g43 (by decide)) (fun g43 => ?_)
      refine y_ld (x := .ref 116) rfl rfl (fun d => rfl) ?_
      refine y_gR (i := 3) rfl rfl rfl hSr.1 rfl ?_
      refine y_ld (x := iv 1) rfl rfl (fun d => rfl) ?_
      refine y_ild (x := (V 120 1)) (q := 1) rfl rfl (cl_ia hC (k := 120) (N := 4) rfl) (by decide) (by decide) rfl rfl ?_
      refine y_ld (x := .ref 116) rfl rfl (fun d => rfl) ?_
      refine y_gR (i := 3) rfl rfl rfl hSr.1 rfl ?_
      refine y_ld (x := iv 1) rfl rfl (fun d => rfl) ?_
      refine y_ic rfl rfl ?_
      refine y_add (z := 2) rfl rfl rfl ?_
      refine y_ild (x := (V 120 2)) (q := 2) rfl rfl (cl_ia hC (k := 120) (N := 4) rfl) (by decide) (by decide) rfl rfl ?_
      refine y_jle rfl rfl rfl (by omega) (fun g44 => ?_) (fun g44 => ?_)
      · refine y_ld (x := iv 1) rfl rfl (fun d => rfl) ?_
        refine y_zge rfl rfl rfl (by decide) (fun g45 => ?_) (fun g45 => absurd g45 (by decide))
        refine y_ld (x := .ref 116) rfl rfl (fun d => rfl) ?_
        refine y_gI (i := 4) (e := 4) rfl rfl rfl hSr.1 rfl hSr.2.1.1 ?_
        refine y_ic rfl rfl ?_
        refine y_sub (z := 3) rfl rfl rfl ?_
        refine y_st (lv' := [(2, iv 3), (1, iv 1), (0, .ref 116)]) rfl rfl (fun d => rfl) ?_
        refine y_ld (x := iv 3) rfl rfl (fun d => rfl) ?_
        refine y_ld (x := iv 1) rfl rfl (fun d => rfl) ?_
        refine y_jle rfl rfl rfl (by decide) (fun g46 => absurd g46 (by decide)) (fun g46 => ?_)
        refine y_ld (x := .ref 116) rfl rfl (fun d => rfl) ?_
        refine y_gR (i := 3) rfl rfl rfl hSr.1 rfl ?_
        refine y_ld (x := iv 3) rfl rfl (fun d => rfl) ?_
        refine y_ild (x := (V 120 3)) (q := 3) rfl rfl (cl_ia hC (k := 120) (N := 4) rfl) (by decide) (by decide) rfl rfl ?_
        refine y_ld (x := .ref 116) rfl rfl (fun d => rfl) ?_
        refine y_gR (i := 3) rfl rfl rfl hSr.1 rfl ?_
        refine y_ld (x := iv 1) rfl rfl (fun d => rfl) ?_
        refine y_ild (x := (V 120 1)) (q := 1) rfl rfl (cl_ia hC (k := 120) (N := 4) rfl) (by decide) (by decide) rfl rfl ?_
        refine y_jge rfl rfl rfl (by omega) (fun g47 => ?_) (fun g47 => ?_)
        · refine y_ld (x := .ref 116) rfl rfl (fun d => rfl) ?_
          refine y_ld (x := iv 1) rfl rfl (fun d => rfl) ?_
          refine y_ld (x := iv 3) rfl rfl (fun d => rfl) ?_
          refine y_cV (as := [.ref 116, iv 1, iv 3]) rfl rfl rfl rfl rfl hSr.1 ⟨rfl, (Nat.le_of_ble_eq_true rfl), (Nat.le_of_ble_eq_true rfl)⟩ (by decide) (cs_swap (by decide) hI (by decide) (by decide) (fun S11 V11 hI1 => ?_))
          have hI1c := hI1
          obtain ⟨ts1, hSr1, h21, hX1, h41, h51, hC1, h71⟩ := hI1c
          refine y_n0 ?_
          refine y_ld (x := iv 1) rfl rfl (fun d => rfl) ?_
          refine y_ic rfl rfl ?_
          refine y_add (z := 2) rfl rfl rfl ?_
          refine y_st (lv' := [(3, iv 2), (2, iv 3), (1, iv 1), (0, .ref 116)]) rfl rfl (fun d => rfl) ?_
          refine y_ld (x := .ref 116) rfl rfl (fun d => rfl) ?_
          refine y_gI (i := 4) (e := 4) rfl rfl rfl hSr1.1 rfl hSr1.2.1.1 ?_
          refine y_ic rfl rfl ?_
          refine y_sub (z := 3) rfl rfl rfl ?_
          refine y_st (lv' := [(4, iv 3), (3, iv 2), (2, iv 3), (1, iv 1), (0, .ref 116)]) rfl rfl (fun d => rfl) ?_
          refine y_ld (x := iv 2) rfl rfl (fun d => rfl) ?_
          refine y_ld (x := iv 3) rfl rfl (fun d => rfl) ?_
          refine y_jge rfl rfl rfl (by decide) (fun g48 => absurd g48 (by decide)) (fun g48 => ?_)
          refine y_ld (x := .ref 116) rfl rfl (fun d => rfl) ?_
          refine y_ld (x := iv 2) rfl rfl (fun d => rfl) ?_
          refine y_ld (x := iv 3) rfl rfl (fun d => rfl) ?_
          refine y_cV (as := [.ref 116, iv 2, iv 3]) rfl rfl rfl rfl rfl hSr1.1 ⟨rfl, (Nat.le_of_ble_eq_true rfl), (Nat.le_of_ble_eq_true rfl)⟩ (by decide) (cs_swap (by decide) hI1 (by decide) (by decide) (fun S12 V12 hI2 => ?_))
          have hI2c := hI2
          obtain ⟨ts2, hSr2, h22, hX2, h42, h52, hC2, h72⟩ := hI2c
          refine y_n0 ?_
          refine y_inc (z := 3) (lv' := [(3, iv 3), (4, iv 3), (2, iv 3), (1, iv 1), (0, .ref 116)]) rfl rfl rfl rfl rfl ?_
          refine y_inc (z := 2) (lv' := [(4, iv 2), (3, iv 3), (2, iv 3), (1, iv 1), (0, .ref 116)]) rfl rfl rfl rfl rfl ?_
          refine y_go rfl rfl ?_
          refine y_ld (x := iv 3) rfl rfl (fun d => rfl) ?_
          refine y_ld (x := iv 2) rfl rfl (fun d => rfl) ?_
          refine y_jge rfl rfl rfl (by decide) (fun g49 => ?_) (fun g49 => absurd g49 (by decide))
          refine y_ic rfl rfl ?_
          refine y_rI rfl (by decide) ?_
          exact k 1 S12 V12 (by decide) hI2
        · refine y_inc (z := 2) (lv' := [(2, iv 2), (1, iv 1), (0, .ref 116)]) rfl rfl rfl rfl rfl ?_
          refine y_go rfl rfl ?_
          refine y_ld (x := iv 2) rfl rfl (fun d => rfl) ?_
          refine y_ld (x := iv 1) rfl rfl (fun d => rfl) ?_
          refine y_jle rfl rfl rfl (by decide) (fun g50 => absurd g50 (by decide)) (fun g50 => ?_)
          refine y_ld (x := .ref 116) rfl rfl (fun d => rfl) ?_
          refine y_gR (i := 3) rfl rfl rfl hSr.1 rfl ?_
          refine y_ld (x := iv 2) rfl rfl (fun d => rfl) ?_
          refine y_ild (x := (V 120 2)) (q := 2) rfl rfl (cl_ia hC (k := 120) (N := 4) rfl) (by decide) (by decide) rfl rfl ?_
          refine y_ld (x := .ref 116) rfl rfl (fun d => rfl) ?_
          refine y_gR (i := 3) rfl rfl rfl hSr.1 rfl ?_
          refine y_ld (x := iv 1) rfl rfl (fun d => rfl) ?_
          refine y_ild (x := (V 120 1)) (q := 1) rfl rfl (cl_ia hC (k := 120) (N := 4) rfl) (by decide) (by decide) rfl rfl ?_
          refine y_jge rfl rfl rfl (by omega) (fun g51 => ?_) (fun g51 => ?_)
          · refine y_ld (x := .ref 116) rfl rfl (fun d => rfl) ?_
            refine y_ld (x := iv 1) rfl rfl (fun d => rfl) ?_
            refine y_ld (x := iv 2) rfl rfl (fun d => rfl) ?_
            refine y_cV (as := [.ref 116, iv 1, iv 2]) rfl rfl rfl rfl rfl hSr.1 ⟨rfl, (Nat.le_of_ble_eq_true rfl), (Nat.le_of_ble_eq_true rfl)⟩ (by decide) (cs_swap (by decide) hI (by decide) (by decide) (fun S11 V11 hI1 => ?_))
            have hI1c := hI1
            obtain ⟨ts1, hSr1, h21, hX1, h41, h51, hC1, h71⟩ := hI1c
            refine y_n0 ?_
            refine y_ld (x := iv 1) rfl rfl (fun d => rfl) ?_
            refine y_ic rfl rfl ?_
            refine y_add (z := 2) rfl rfl rfl ?_
            refine y_st (lv' := [(3, iv 2), (2, iv 2), (1, iv 1), (0, .ref 116)]) rfl rfl (fun d => rfl) ?_
            refine y_ld (x := .ref 116) rfl rfl (fun d => rfl) ?_
            refine y_gI (i := 4) (e := 4) rfl rfl rfl hSr1.1 rfl hSr1.2.1.1 ?_
            refine y_ic rfl rfl ?_
            refine y_sub (z := 3) rfl rfl rfl ?_
            refine y_st (lv' := [(4, iv 3), (3, iv 2), (2, iv 2), (1, iv 1), (0, .ref 116)]) rfl rfl (fun d => rfl) ?_
            refine y_ld (x := iv 2) rfl rfl (fun d => rfl) ?_
            refine y_ld (x := iv 3) rfl rfl (fun d => rfl) ?_
            refine y_jge rfl rfl rfl (by decide) (fun g52 => absurd g52 (by decide)) (fun g52 => ?_)
            refine y_ld (x := .ref 116) rfl rfl (fun d => rfl) ?_
            refine y_ld (x := iv 2) rfl rfl (fun d => rfl) ?_
            refine y_ld (x := iv 3) rfl rfl (fun d => rfl) ?_
            refine y_cV (as := [.ref 116, iv 2, iv 3]) rfl rfl rfl rfl rfl hSr1.1 ⟨rfl, (Nat.le_of_ble_eq_true rfl), (Nat.le_of_ble_eq_true rfl)⟩ (by decide) (cs_swap (by decide) hI1 (by decide) (by decide) (fun S12 V12 hI2 => ?_))
            have hI2c := hI2
            obtain ⟨ts2, hSr2, h22, hX2, h42, h52, hC2, h72⟩ := hI2c
            refine y_n0 ?_
            refine y_inc (z := 3) (lv' := [(3, iv 3), (4, iv 3), (2, iv 2), (1, iv 1), (0, .ref 116)]) rfl rfl rfl rfl rfl ?_
            refine y_inc (z := 2) (lv' := [(4, iv 2), (3, iv 3), (2, iv 2), (1, iv 1), (0, .ref 116)]) rfl rfl rfl rfl rfl ?_
            refine y_go rfl rfl ?_
            refine y_ld (x := iv 3) rfl rfl (fun d => rfl) ?_
            refine y_ld (x := iv 2) rfl rfl (fun d => rfl) ?_
            refine y_jge rfl rfl rfl (by decide) (fun g53 => ?_) (fun g53 => absurd g53 (by decide))
            refine y_ic rfl rfl ?_
            refine y_rI rfl (by decide) ?_
            exact k 1 S12 V12 (by decide) hI2
          · refine y_inc (z := 1) (lv' := [(2, iv 1), (1, iv 1), (0, .ref 116)]) rfl rfl rfl rfl rfl ?_
            refine y_go rfl rfl ?_
            refine y_ld (x := iv 1) rfl rfl (fun d => rfl) ?_
            refine y_ld (x := iv 1) rfl rfl (fun d => rfl) ?_
            refine y_jle rfl rfl rfl (by decide) (fun g54 => ?_) (fun g54 => absurd g54 (by decide))
            refine y_ld (x := .ref 116) rfl rfl (fun d => rfl) ?_
            refine y_ld (x := iv 1) rfl rfl (fun d => rfl) ?_
            refine y_ld (x := iv 1) rfl rfl (fun d => rfl) ?_
            refine y_cV (as := [.ref 116, iv 1, iv 1]) rfl rfl rfl rfl rfl hSr.1 ⟨rfl, (Nat.le_of_ble_eq_true rfl), (Nat.le_of_ble_eq_true rfl)⟩ (by decide) (cs_swap (by decide) hI (by decide) (by decide) (fun S11 V11 hI1 => ?_))
            have hI1c := hI1
            obtain ⟨ts1, hSr1, h21, hX1, h41, h51, hC1, h71⟩ := hI1c
            refine y_n0 ?_
            refine y_ld (x := iv 1) rfl rfl (fun d => rfl) ?_
            refine y_ic rfl rfl ?_
            refine y_add (z := 2) rfl rfl rfl ?_
            refine y_st (lv' := [(3, iv 2), (2, iv 1), (1, iv 1), (0, .ref 116)]) rfl rfl (fun d => rfl) ?_
            refine y_ld (x := .ref 116) rfl rfl (fun d => rfl) ?_
            refine y_gI (i := 4) (e := 4) rfl rfl rfl hSr1.1 rfl hSr1.2.1.1 ?_
            refine y_ic rfl rfl ?_
            refine y_sub (z := 3) rfl rfl rfl ?_
            refine y_st (lv' := [(4, iv 3), (3, iv 2), (2, iv 1), (1, iv 1), (0, .ref 116)]) rfl rfl (fun d => rfl) ?_
            refine y_ld (x := iv 2) rfl rfl (fun d => rfl) ?_
            refine y_ld (x := iv 3) rfl rfl (fun d => rfl) ?_
            refine y_jge rfl rfl rfl (by decide) (fun g55 => absurd g55 (by decide)) (fun g55 => ?_)
            refine y_ld (x := .ref 116) rfl rfl (fun d => rfl) ?_
            refine y_ld (x := iv 2) rfl rfl (fun d => rfl) ?_
            refine y_ld (x := iv 3) rfl rfl (fun d => rfl) ?_
            refine y_cV (as := [.ref 116, iv 2, iv 3]) rfl rfl rfl rfl rfl hSr1.1 ⟨rfl, (Nat.le_of_ble_eq_true rfl), (Nat.le_of_ble_eq_true rfl)⟩ (by decide) (cs_swap (by decide) hI1 (by decide) (by decide) (fun S12 V12 hI2 => ?_))
            have hI2c := hI2
            obtain ⟨ts2, hSr2, h22, hX2, h42, h52, hC2, h72⟩ := hI2c
            refine y_n0 ?_
            refine y_inc (z := 3) (lv' := [(3, iv 3), (4, iv 3), (2, iv 1), (1, iv 1), (0, .ref 116)]) rfl rfl rfl rfl rfl ?_
            refine y_inc (z := 2) (lv' := [(4, iv 2), (3, iv 3), (2, iv 1), (1, iv 1), (0, .ref 116)]) rfl rfl rfl rfl rfl ?_
            refine y_go rfl rfl ?_
            refine y_ld (x := iv 3) rfl rfl (fun d => rfl) ?_
            refine y_ld (x := iv 2) rfl rfl (fun d => rfl) ?_
            refine y_jge rfl rfl rfl (by decide) (fun g56 => ?_) (fun g56 => absurd g56 (by decide))
            refine y_ic rfl rfl ?_
            refine y_rI rfl (by decide) ?_
            exact k 1 S12 V12 (by decide) hI2
      · refine y_inc (z := 0) (lv' := [(1, iv 0), (0, .ref 116)]) rfl rfl rfl rfl rfl ?_
        refine y_go rfl rfl ?_
        refine y_ld (x := iv 0) rfl rfl (fun d => rfl) ?_
        refine y_zlt rfl rfl rfl (by decide) (fun g57 => absurd g57 (by decide)) (fun g57 => ?_)
        refine y_ld (x := .ref 116) rfl rfl (fun d => rfl) ?_
        refine y_gR (i := 3) rfl rfl rfl hSr.1 rfl ?_
        refine y_ld (x := iv 0) rfl rfl (fun d => rfl) ?_
        refine y_ild (x := (V 120 0)) (q := 0) rfl rfl (cl_ia hC (k := 120) (N := 4) rfl) (by decide) (by decide) rfl rfl ?_
        refine y_ld (x := .ref 116) rfl rfl (fun d => rfl) ?_
        refine y_gR (i := 3) rfl rfl rfl hSr.1 rfl ?_
        refine y_ld (x := iv 0) rfl rfl (fun d => rfl) ?_
        refine y_ic rfl rfl ?_
        refine y_add (z := 1) rfl rfl rfl ?_
        refine y_ild (x := (V 120 1)) (q := 1) rfl rfl (cl_ia hC (k := 120) (N := 4) rfl) (by decide) (by decide) rfl rfl ?_
        refine y_jle rfl rfl rfl (by omega) (fun g58 => ?_) (fun g58 => ?_)
        · refine y_ld (x := iv 0) rfl rfl (fun d => rfl) ?_
          refine y_zge rfl rfl rfl (by decide) (fun g59 => ?_) (fun g59 => absurd g59 (by decide))
          refine y_ld (x := .ref 116) rfl rfl (fun d => rfl) ?_
          refine y_gI (i := 4) (e := 4) rfl rfl rfl hSr.1 rfl hSr.2.1.1 ?_
          refine y_ic rfl rfl ?_
          refine y_sub (z := 3) rfl rfl rfl ?_
          refine y_st (lv' := [(2, iv 3), (1, iv 0), (0, .ref 116)]) rfl rfl (fun d => rfl) ?_
          refine y_ld (x := iv 3) rfl rfl (fun d => rfl) ?_
          refine y_ld (x := iv 0) rfl rfl (fun d => rfl) ?_
          refine y_jle rfl rfl rfl (by decide) (fun g60 => absurd g60 (by decide)) (fun g60 => ?_)
          refine y_ld (x := .ref 116) rfl rfl (fun d => rfl) ?_
          refine y_gR (i := 3) rfl rfl rfl hSr.1 rfl ?_
          refine y_ld (x := iv 3) rfl rfl (fun d => rfl) ?_
          refine y_ild (x := (V 120 3)) (q := 3) rfl rfl (cl_ia hC (k := 120) (N := 4) rfl) (by decide) (by decide) rfl rfl ?_
          refine y_ld (x := .ref 116) rfl rfl (fun d => rfl) ?_
          refine y_gR (i := 3) rfl rfl rfl hSr.1 rfl ?_
          refine y_ld (x := iv 0) rfl rfl (fun d => rfl) ?_
          refine y_ild (x := (V 120 0)) (q := 0) rfl rfl (cl_ia hC (k := 120) (N := 4) rfl) (by decide) (by decide) rfl rfl ?_
          refine y_jge rfl rfl rfl (by omega) (fun g61 => ?_) (fun g61 => ?_)
          · refine y_ld (x := .ref 116) rfl rfl (fun d => rfl) ?_
            refine y_ld (x := iv 0) rfl rfl (fun d => rfl) ?_
            refine y_ld (x := iv 3) rfl rfl (fun d => rfl) ?_
            refine y_cV (as := [.ref 116, iv 0, iv 3]) rfl rfl rfl rfl rfl hSr.1 ⟨rfl, (Nat.le_of_ble_eq_true rfl), (Nat.le_of_ble_eq_true rfl)⟩ (by decide) (cs_swap (by decide) hI (by decide) (by decide) (fun S11 V11 hI1 => ?_))
            have hI1c := hI1
            obtain ⟨ts1, hSr1, h21, hX1, h41, h51, hC1, h71⟩ := hI1c
            refine y_n0 ?_
            refine y_ld (x := iv 0) rfl rfl (fun d => rfl) ?_
            refine y_ic rfl rfl ?_
            refine y_add (z := 1) rfl rfl rfl ?_
            refine y_st (lv' := [(3, iv 1), (2, iv 3), (1, iv 0), (0, .ref 116)]) rfl rfl (fun d => rfl) ?_
            refine y_ld (x := .ref 116) rfl rfl (fun d => rfl) ?_
            refine y_gI (i := 4) (e := 4) rfl rfl rfl hSr1.1 rfl hSr1.2.1.1 ?_
            refine y_ic rfl rfl ?_
            refine y_sub (z := 3) rfl rfl rfl ?_
            refine y_st (lv' := [(4, iv 3), (3, iv 1), (2, iv 3), (1, iv 0), (0, .ref 116)]) rfl rfl (fun d => rfl) ?_
            refine y_ld (x := iv 1) rfl rfl (fun d => rfl) ?_
            refine y_ld (x := iv 3) rfl rfl (fun d => rfl) ?_
            refine y_jge rfl rfl rfl (by decide) (fun g62 => absurd g62 (by decide)) (fun g62 => ?_)
            refine y_ld (x := .ref 116) rfl rfl (fun d => rfl) ?_
            refine y_ld (x := iv 1) rfl rfl (fun d => rfl) ?_
            refine y_ld (x := iv 3) rfl rfl (fun d => rfl) ?_
            refine y_cV (as := [.ref 116, iv 1, iv 3]) rfl rfl rfl rfl rfl hSr1.1 ⟨rfl, (Nat.le_of_ble_eq_true rfl), (Nat.le_of_ble_eq_true rfl)⟩ (by decide) (cs_swap (by decide) hI1 (by decide) (by decide) (fun S12 V12 hI2 => ?_))
            have hI2c := hI2
            obtain ⟨ts2, hSr2, h22, hX2, h42, h52, hC2, h72⟩ := hI2c
            refine y_n0 ?_
            refine y_inc (z := 2) (lv' := [(3, iv 2), (4, iv 3), (2, iv 3), (1, iv 0), (0, .ref 116)]) rfl rfl rfl rfl rfl ?_
            refine y_inc (z := 2) (lv' := [(4, iv 2), (3, iv 2), (2, iv 3), (1, iv 0), (0, .ref 116)]) rfl rfl rfl rfl rfl ?_
            refine y_go rfl rfl ?_
            refine y_ld (x := iv 2) rfl rfl (fun d => rfl) ?_
            refine y_ld (x := iv 2) rfl rfl (fun d => rfl) ?_
            refine y_jge rfl rfl rfl (by decide) (fun g63 => ?_) (fun g63 => absurd g63 (by decide))
            refine y_ic rfl rfl ?_
            refine y_rI rfl (by decide) ?_
            exact k 1 S12 V12 (by decide) hI2
          · refine y_inc (z := 2) (lv' := [(2, iv 2), (1, iv 0), (0, .ref 116)]) rfl rfl rfl rfl rfl ?_
            refine y_go rfl rfl ?_
            refine y_ld (x := iv 2) rfl rfl (fun d => rfl) ?_
            refine y_ld (x := iv 0) rfl rfl (fun d => rfl) ?_
            refine y_jle rfl rfl rfl (by decide) (fun g64 => absurd g64 (by decide)) (fun g64 => ?_)
            refine y_ld (x := .ref 116) rfl rfl (fun d => rfl) ?_
            refine y_gR (i := 3) rfl rfl rfl hSr.1 rfl ?_
            refine y_ld (x := iv 2) rfl rfl (fun d => rfl) ?_
            refine y_ild (x := (V 120 2)) (q := 2) rfl rfl (cl_ia hC (k := 120) (N := 4) rfl) (by decide) (by decide) rfl rfl ?_
            refine y_ld (x := .ref 116) rfl rfl (fun d => rfl) ?_
            refine y_gR (i := 3) rfl rfl rfl hSr.1 rfl ?_
            refine y_ld (x := iv 0) rfl rfl (fun d => rfl) ?_
            refine y_ild (x := (V 120 0)) (q := 0) rfl rfl (cl_ia hC (k := 120) (N := 4) rfl) (by decide) (by decide) rfl rfl ?_
            refine y_jge rfl rfl rfl (by omega) (fun g65 => ?_) (fun g65 => ?_)
            · refine y_ld (x := .ref 116) rfl rfl (fun d => rfl) ?_
              refine y_ld (x := iv 0) rfl rfl (fun d => rfl) ?_
              refine y_ld (x := iv 2) rfl rfl (fun d => rfl) ?_
              refine y_cV (as := [.ref 116, iv 0, iv 2]) rfl rfl rfl rfl rfl hSr.1 ⟨rfl, (Nat.le_of_ble_eq_true rfl), (Nat.le_of_ble_eq_true rfl)⟩ (by decide) (cs_swap (by decide) hI (by decide) (by decide) (fun S11 V11 hI1 => ?_))
              have hI1c := hI1
              obtain ⟨ts1, hSr1, h21, hX1, h41, h51, hC1, h71⟩ := hI1c
              refine y_n0 ?_
              refine y_ld (x := iv 0) rfl rfl (fun d => rfl) ?_
              refine y_ic rfl rfl ?_
              refine y_add (z := 1) rfl rfl rfl ?_
              refine y_st (lv' := [(3, iv 1), (2, iv 2), (1, iv 0), (0, .ref 116)]) rfl rfl (fun d => rfl) ?_
              refine y_ld (x := .ref 116) rfl rfl (fun d => rfl) ?_
              refine y_gI (i := 4) (e := 4) rfl rfl rfl hSr1.1 rfl hSr1.2.1.1 ?_
              refine y_ic rfl rfl ?_
              refine y_sub (z := 3) rfl rfl rfl ?_
              refine y_st (lv' := [(4, iv 3), (3, iv 1), (2, iv 2), (1, iv 0), (0, .ref 116)]) rfl rfl (fun d => rfl) ?_
              refine y_ld (x := iv 1) rfl rfl (fun d => rfl) ?_
              refine y_ld (x := iv 3) rfl rfl (fun d => rfl) ?_
              refine y_jge rfl rfl rfl (by decide) (fun g66 => absurd g66 (by decide)) (fun g66 => ?_)
              refine y_ld (x := .ref 116) rfl rfl (fun d => rfl) ?_
              refine y_ld (x := iv 1) rfl rfl (fun d => rfl) ?_
              refine y_ld (x := iv 3) rfl rfl (fun d => rfl) ?_
              refine y_cV (as := [.ref 116, iv 1, iv 3]) rfl rfl rfl rfl rfl hSr1.1 ⟨rfl, (Nat.le_of_ble_eq_true rfl), (Nat.le_of_ble_eq_true rfl)⟩ (by decide) (cs_swap (by decide) hI1 (by decide) (by decide) (fun S12 V12 hI2 => ?_))
              have hI2c := hI2
              obtain ⟨ts2, hSr2, h22, hX2, h42, h52, hC2, h72⟩ := hI2c
              refine y_n0 ?_
              refine y_inc (z := 2) (lv' := [(3, iv 2), (4, iv 3), (2, iv 2), (1, iv 0), (0, .ref 116)]) rfl rfl rfl rfl rfl ?_
              refine y_inc (z := 2) (lv' := [(4, iv 2), (3, iv 2), (2, iv 2), (1, iv 0), (0, .ref 116)]) rfl rfl rfl rfl rfl ?_
              refine y_go rfl rfl ?_
              refine y_ld (x := iv 2) rfl rfl (fun d => rfl) ?_
              refine y_ld (x := iv 2) rfl rfl (fun d => rfl) ?_
              refine y_jge rfl rfl rfl (by decide) (fun g67 => ?_) (fun g67 => absurd g67 (by decide))
              refine y_ic rfl rfl ?_
              refine y_rI rfl (by decide) ?_
              exact k 1 S12 V12 (by decide) hI2
            · refine y_inc (z := 1) (lv' := [(2, iv 1), (1, iv 0), (0, .ref 116)]) rfl rfl rfl rfl rfl ?_
              refine y_go rfl rfl ?_
              refine y_ld (x := iv 1) rfl rfl (fun d => rfl) ?_
              refine y_ld (x := iv 0) rfl rfl (fun d => rfl) ?_
              refine y_jle rfl rfl rfl (by decide) (fun g68 => absurd g68 (by decide)) (fun g68 => ?_)
              refine y_ld (x := .ref 116) rfl rfl (fun d => rfl) ?_
              refine y_gR (i := 3) rfl rfl rfl hSr.1 rfl ?_
              refine y_ld (x := iv 1) rfl rfl (fun d => rfl) ?_
              refine y_ild (x := (V 120 1)) (q := 1) rfl rfl (cl_ia hC (k := 120) (N := 4) rfl) (by decide) (by decide) rfl rfl ?_
              refine y_ld (x := .ref 116) rfl rfl (fun d => rfl) ?_
              refine y_gR (i := 3) rfl rfl rfl hSr.1 rfl ?_
              refine y_ld (x := iv 0) rfl rfl (fun d => rfl) ?_
              refine y_ild (x := (V 120 0)) (q := 0) rfl rfl (cl_ia hC (k := 120) (N := 4) rfl) (by decide) (by decide) rfl rfl ?_
              refine y_jge rfl rfl rfl (by omega) (fun g69 => ?_) (fun g69 => ?_)
              · refine y_ld (x := .ref 116) rfl rfl (fun d => rfl) ?_
                refine y_ld (x := iv 0) rfl rfl (fun d => rfl) ?_
                refine y_ld (x := iv 1) rfl rfl (fun d => rfl) ?_
                refine y_cV (as := [.ref 116, iv 0, iv 1]) rfl rfl rfl rfl rfl hSr.1 ⟨rfl, (Nat.le_of_ble_eq_true rfl), (Nat.le_of_ble_eq_true rfl)⟩ (by decide) (cs_swap (by decide) hI (by decide) (by decide) (fun S11 V11 hI1 => ?_))
                have hI1c := hI1
                obtain ⟨ts1, hSr1, h21, hX1, h41, h51, hC1, h71⟩ := hI1c
                refine y_n0 ?_
                refine y_ld (x := iv 0) rfl rfl (fun d => rfl) ?_
                refine y_ic rfl rfl ?_
                refine y_add (z := 1) rfl rfl rfl ?_
                refine y_st (lv' := [(3, iv 1), (2, iv 1), (1, iv 0), (0, .ref 116)]) rfl rfl (fun d => rfl) ?_
                refine y_ld (x := .ref 116) rfl rfl (fun d => rfl) ?_
                refine y_gI (i := 4) (e := 4) rfl rfl rfl hSr1.1 rfl hSr1.2.1.1 ?_
                refine y_ic rfl rfl ?_
                refine y_sub (z := 3) rfl rfl rfl ?_
                refine y_st (lv' := [(4, iv 3), (3, iv 1), (2, iv 1), (1, iv 0), (0, .ref 116)]) rfl rfl (fun d => rfl) ?_
                refine y_ld (x := iv 1) rfl rfl (fun d => rfl) ?_
                refine y_ld (x := iv 3) rfl rfl (fun d => rfl) ?_
                refine y_jge rfl rfl rfl (by decide) (fun g70 => absurd g70 (by decide)) (fun g70 => ?_)
                refine y_ld (x := .ref 116) rfl rfl (fun d => rfl) ?_
                refine y_ld (x := iv 1) rfl rfl (fun d => rfl) ?_
                refine y_ld (x := iv 3) rfl rfl (fun d => rfl) ?_
                refine y_cV (as := [.ref 116, iv 1, iv 3]) rfl rfl rfl rfl rfl hSr1.1 ⟨rfl, (Nat.le_of_ble_eq_true rfl), (Nat.le_of_ble_eq_true rfl)⟩ (by decide) (cs_swap (by decide) hI1 (by decide) (by decide) (fun S12 V12 hI2 => ?_))
                have hI2c := hI2
                obtain ⟨ts2, hSr2, h22, hX2, h42, h52, hC2, h72⟩ := hI2c
                refine y_n0 ?_
                refine y_inc (z := 2) (lv' := [(3, iv 2), (4, iv 3), (2, iv 1), (1, iv 0), (0, .ref 116)]) rfl rfl rfl rfl rfl ?_
                refine y_inc (z := 2) (lv' := [(4, iv 2), (3, iv 2), (2, iv 1), (1, iv 0), (0, .ref 116)]) rfl rfl rfl rfl rfl ?_
                refine y_go rfl rfl ?_
                refine y_ld (x := iv 2) rfl rfl (fun d => rfl) ?_
                refine y_ld (x := iv 2) rfl rfl (fun d => rfl) ?_
                refine y_jge rfl rfl rfl (by decide) (fun g71 => ?_) (fun g71 => absurd g71 (by decide))
                refine y_ic rfl rfl ?_
                refine y_rI rfl (by decide) ?_
                exact k 1 S12 V12 (by decide) hI2
              · refine y_inc (z := 0) (lv' := [(2, iv 0), (1, iv 0), (0, .ref 116)]) rfl rfl rfl rfl rfl ?_
                refine y_go rfl rfl ?_
                refine y_ld (x := iv 0) rfl rfl (fun d => rfl) ?_
                refine y_ld (x := iv 0) rfl rfl (fun d => rfl) ?_
                refine y_jle rfl rfl rfl (by decide) (fun g72 => ?_) (fun g72 => absurd g72 (by decide))
                refine y_ld (x := .ref 116) rfl rfl (fun d => rfl) ?_
                refine y_ld (x := iv 0) rfl rfl (fun d => rfl) ?_
                refine y_ld (x := iv 0) rfl rfl (fun d => rfl) ?_
                refine y_cV (as := [.ref 116, iv 0, iv 0]) rfl rfl rfl rfl rfl hSr.1 ⟨rfl, (Nat.le_of_ble_eq_true rfl), (Nat.le_of_ble_eq_true rfl)⟩ (by decide) (cs_swap (by decide) hI (by decide) (by decide) (fun S11 V11 hI1 => ?_))
                have hI1c := hI1
                obtain ⟨ts1, hSr1, h21, hX1, h41, h51, hC1, h71⟩ := hI1c
                refine y_n0 ?_
                refine y_ld (x := iv 0) rfl rfl (fun d => rfl) ?_
                refine y_ic rfl rfl ?_
                refine y_add (z := 1) rfl rfl rfl ?_
                refine y_st (lv' := [(3, iv 1), (2, iv 0), (1, iv 0), (0, .ref 116)]) rfl rfl (fun d => rfl) ?_
                refine y_ld (x := .ref 116) rfl rfl (fun d => rfl) ?_
                refine y_gI (i := 4) (e := 4) rfl rfl rfl hSr1.1 rfl hSr1.2.1.1 ?_
                refine y_ic rfl rfl ?_
                refine y_sub (z := 3) rfl rfl rfl ?_
                refine y_st (lv' := [(4, iv 3), (3, iv 1), (2, iv 0), (1, iv 0), (0, .ref 116)]) rfl rfl (fun d => rfl) ?_
                refine y_ld (x := iv 1) rfl rfl (fun d => rfl) ?_
                refine y_ld (x := iv 3) rfl rfl (fun d => rfl) ?_
                refine y_jge rfl rfl rfl (by decide) (fun g73 => absurd g73 (by decide)) (fun g73 => ?_)
                refine y_ld (x := .ref 116) rfl rfl (fun d => rfl) ?_
                refine y_ld (x := iv 1) rfl rfl (fun d => rfl) ?_
                refine y_ld (x := iv 3) rfl rfl (fun d => rfl) ?_
                refine y_cV (as := [.ref 116, iv 1, iv 3]) rfl rfl rfl rfl rfl hSr1.1 ⟨rfl, (Nat.le_of_ble_eq_true rfl), (Nat.le_of_ble_eq_true rfl)⟩ (by decide) (cs_swap (by decide) hI1 (by decide) (by decide) (fun S12 V12 hI2 => ?_))
                have hI2c := hI2
                obtain ⟨ts2, hSr2, h22, hX2, h42, h52, hC2, h72⟩ := hI2c
                refine y_n0 ?_
                refine y_inc (z := 2) (lv' := [(3, iv 2), (4, iv 3), (2, iv 0), (1, iv 0), (0, .ref 116)]) rfl rfl rfl rfl rfl ?_
                refine y_inc (z := 2) (lv' := [(4, iv 2), (3, iv 2), (2, iv 0), (1, iv 0), (0, .ref 116)]) rfl rfl rfl rfl rfl ?_
                refine y_go rfl rfl ?_
                refine y_ld (x := iv 2) rfl rfl (fun d => rfl) ?_
                refine y_ld (x := iv 2) rfl rfl (fun d => rfl) ?_
                refine y_jge rfl rfl rfl (by decide) (fun g74 => ?_) (fun g74 => absurd g74 (by decide))
                refine y_ic rfl rfl ?_
                refine y_rI rfl (by decide) ?_
                exact k 1 S12 V12 (by decide) hI2
        · refine y_inc (z := (-1)) (lv' := [(1, iv (-1)), (0, .ref 116)]) rfl rfl rfl rfl rfl ?_
          refine y_go rfl rfl ?_
          refine y_ld (x := iv (-1)) rfl rfl (fun d => rfl) ?_
          refine y_zlt rfl rfl rfl (by decide) (fun g75 => ?_) (fun g75 => absurd g75 (by decide))
          refine y_ld (x := iv (-1)) rfl rfl (fun d => rfl) ?_
          refine y_zge rfl rfl rfl (by decide) (fun g76 => absurd g76 (by decide)) (fun g76 => ?_)
          refine y_ic rfl rfl ?_
          refine y_rI rfl (by decide) ?_
          exact k 0 S V (by decide) hI
set_option maxRecDepth 100000 in
set_option maxHeartbeats 4000000 in
theorem lp_ctold {S0 : m_H} {V0 : v_V} {tl : Nat → List p_Li} {cnt : Nat} {σ : Nat → Int} (hRS : RS S0 V0 1 σ tl) (hSO : SO cnt σ) (hTO : ∀ i : Nat, (i : Int) < σ 0 → TO (tl i)) {x y n d i : Int} {al : Nat} (hx0 : 0 ≤ x ∧ x < 256) (hbs : v_bs x 16 ≤ 4) {B : Nat} (hB : σ 1 = (B : Int)) {F : Nat} : ∀ (m : Nat) (j : Nat) (S2 : m_H) (W : v_V), B - j < m → (j ≤ B) → (SI S0 V0 y n al σ (v_bs x j).toNat S2 W) → (∀ (S2 : m_H) (W : v_V), SI S0 V0 y n al σ (v_bs x B).toNat S2 W → y_E X 15 90 F u w 148 [(0, .ref 0), (1, iv x), (2, iv y), (3, iv n), (4, iv d), (5, iv i), (6, iv (v_bs x 16))] [] S2 W K) → y_E X 15 90 (90 * m + F) u w 92 [(0, .ref 0), (1, iv x), (2, iv y), (3, iv n), (4, iv d), (5, iv i), (6, iv (v_bs x 16)), (7, iv (j : Int))] [] S2 W K := by
  intro m
  induction m with
  | zero => intros; omega
  | succ m ih =>
    intro j S2 W hm hI hI2 hx
    refine y_mono (F' := (90 * m + F) + 90) ?_ (by omega)
    have hsz := hSO.1
    have hI2c := hI2
    have hCW : ClF S2 := by obtain ⟨_, _, _, _, _, _, h, _⟩ := hI2; exact h
    have hWB : W 1 5 = (B : Int) := by
      obtain ⟨_, _, _, _, h4, h5, _, _⟩ := hI2
      rw [← hB]; exact (RS_2 hRS (Or.inl rfl) h4 h5).1.1.2.2.1
    refine y_ld (x := iv (j : Int)) rfl rfl (fun d => rfl) ?_
    refine y_ld (x := .ref 0) rfl rfl (fun d => rfl) ?_
    refine y_gR (i := 0) rfl rfl rfl (hCW 0 _ _ rfl) rfl ?_
    refine y_gI (i := 5) (e := (B : Int)) rfl rfl rfl (hCW 1 _ _ rfl) rfl (by exact hWB) ?_
    refine y_jge rfl rfl rfl (by omega) (fun g1 => ?_) (fun g1 => ?_)
    · obtain rfl : j = B := by omega
      refine y_lv (l' := [(0, .ref 0), (1, iv x), (2, iv y), (3, iv n), (4, iv d), (5, iv i), (6, iv (v_bs x 16))]) rfl ⟨rfl, rfl, rfl, rfl, rfl, rfl, rfl, trivial⟩ ?_
      exact y_mono (hx S2 W hI2c) (by omega)
    · have hb2 := z_b2 x hx0.1 j (by omega)
      have hle := v_bs_le x j
      have e1 : v_bs x (j + 1) = v_bs x j + x / 2 ^ j % 2 := rfl
      have hmo := v_bs_mono x (j + 1) 16 (by omega)
      obtain ⟨ts, hSr, h2, hX, h4, h5, hC, h7⟩ := hI2
      have hRS1 := RS_2 hRS (Or.inl rfl) h4 h5
      have n1 := hRS1.1.1
      have n4 := hRS1.1.2.2.2
      obtain ⟨ta, hT, hTt⟩ := TAx_RT hRS1.2.1 hRS1.1 hSO
      have b1 := n4 j (by omega)
      have htx := (hSO.2.2.1 j (by omega)).2.1
      have hty := htx.2.2 (by omega)
      obtain ⟨vs4, hb1, hb2x⟩ := bx_ref hC (i := j) (by omega)
      refine y_ld (x := iv x) rfl rfl (fun d => rfl) ?_
      refine y_ic rfl rfl ?_
      refine y_ld (x := iv (j : Int)) rfl rfl (fun d => rfl) ?_
      refine y_op (z := (2 ^ j)) rfl rfl (fun d => rfl) (v_shl1 (k := (j : Int)) (by omega)) ?_
      refine y_op (z := (2 ^ j * (x / 2 ^ j % 2))) rfl rfl (fun d => rfl) (v_and2 (by omega) (by omega)) ?_
      refine y_zeq rfl rfl rfl (by omega) (fun g2 => ?_) (fun g2 => ?_)
      · refine y_inc (z := ((j + 1 : Nat) : Int)) (lv' := [(7, iv ((j + 1 : Nat) : Int)), (0, .ref 0), (1, iv x), (2, iv y), (3, iv n), (4, iv d), (5, iv i), (6, iv (v_bs x 16))]) rfl rfl rfl (by omega) rfl ?_
        refine y_go rfl rfl ?_
        refine y_lv (l' := [(0, .ref 0), (1, iv x), (2, iv y), (3, iv n), (4, iv d), (5, iv i), (6, iv (v_bs x 16)), (7, iv ((j + 1 : Nat) : Int))]) rfl ⟨rfl, rfl, rfl, rfl, rfl, rfl, rfl, rfl, trivial⟩ ?_
        exact y_mono (ih (j + 1) S2 W (by omega) (by omega) (by rw [show (v_bs x (j + 1)).toNat = (v_bs x j).toNat by omega]; exact hI2c) hx) (by omega)
      · refine y_ld (x := .ref 0) rfl rfl (fun d => rfl) ?_
        refine y_gR (i := 4) rfl rfl rfl (hCW 0 _ _ rfl) rfl ?_
        refine y_ld (x := .ref 0) rfl rfl (fun d => rfl) ?_
        refine y_gR (i := 0) rfl rfl rfl (hCW 0 _ _ rfl) rfl ?_
        refine y_ld (x := .ref 0) rfl rfl (fun d => rfl) ?_
        refine y_gR (i := 0) rfl rfl rfl (hCW 0 _ _ rfl) rfl ?_
        refine y_gR (i := 4) rfl rfl rfl (hCW 1 _ _ rfl) rfl ?_
        refine y_ld (x := iv (j : Int)) rfl rfl (fun d => rfl) ?_
        refine y_rld (i := j) (x := 10 + 6 * j) rfl rfl hb1 (by decide) (by omega) (by omega) hb2x ?_
        refine y_gI (i := 2) (e := (σ (178 + j))) rfl rfl rfl (bx_ob hC (i := j) (by omega)) rfl b1.2.2.1 ?_
        refine y_cV (as := [.ref 1, iv (σ (178 + j))]) rfl rfl rfl rfl rfl (hCW 1 _ _ rfl) ⟨rfl, (Nat.le_of_ble_eq_true rfl), (Nat.le_of_ble_eq_true rfl)⟩ (by decide) (cb_textAt (x := σ (178 + j)) hC hT (by omega) (fun hno => absurd (show 0 ≤ σ (178 + j) ∧ σ (178 + j) < W 1 3 by omega) hno) (fun (t : Nat) gT ht1 ht2 ht3 => ?_))
        obtain ⟨-, -, hct⟩ := hTt _ t (by omega) ht1
        refine y_nv ?_
        refine y_ld (x := iv (j : Int)) rfl rfl (fun d => rfl) ?_
        refine y_cV (as := [.ref 116, .ref t, iv (j : Int)]) rfl rfl rfl rfl rfl hSr.1 ⟨rfl, (Nat.le_of_ble_eq_true rfl), (Nat.le_of_ble_eq_true rfl)⟩ (by decide) (cs_add (ts2 := fun q => if q = (v_bs x j).toNat then tl (σ (178 + j)).toNat else ts q) hC hSr hX (by omega) ht2 ht3 hct (if_pos rfl) (fun q hq => if_neg (by omega)) (fun S3 V3 hSr3 hX3 q3 f3 hC3 o3 => ?_))
        refine y_n0 ?_
        refine y_inc (z := ((j + 1 : Nat) : Int)) (lv' := [(7, iv ((j + 1 : Nat) : Int)), (0, .ref 0), (1, iv x), (2, iv y), (3, iv n), (4, iv d), (5, iv i), (6, iv (v_bs x 16))]) rfl rfl rfl (by omega) rfl ?_
        refine y_go rfl rfl ?_
        refine y_lv (l' := [(0, .ref 0), (1, iv x), (2, iv y), (3, iv n), (4, iv d), (5, iv i), (6, iv (v_bs x 16)), (7, iv ((j + 1 : Nat) : Int))]) rfl ⟨rfl, rfl, rfl, rfl, rfl, rfl, rfl, rfl, trivial⟩ ?_
        refine y_mono (ih (j + 1) S3 V3 (by omega) (by omega) ?_ hx) (by omega)
        rw [show (v_bs x (j + 1)).toNat = (v_bs x j).toNat + 1 by omega]
        refine ⟨_, hSr3, fun q hq => ?_, hX3, SQ2_tr h4 q3, FrV_tr h5 f3, hC3, fun q hq => ?_⟩
        · split
          · exact hTO _ (by omega)
          · exact h2 q (by omega)
        · rcases (show q = (v_bs x j).toNat ∨ q < (v_bs x j).toNat by omega) with h8 | h8
          · rw [h8, o3.1]; omega
          · rw [o3.2 q (by omega)]; exact h7 q h8
end
