/-! all rows, one behind the other: the reference -/
section
variable {X : Nat → List Int32} {u w : Nat} {S : m_H} {V : v_V} {K : v_K}
set_option maxRecDepth 100000 in
set_option maxHeartbeats 4000000 in
theorem ct_next (hM : MdS S) {L al v : Nat} (hL : 1 ≤ L ∧ L ≤ 3) (hal : 0 < al ∧ al ≤ 5) (h5 : V 171 5 = (al : Int)) (hv : v < al ^ L) (hWd : WdM V al L v) (kn : v + 1 < al ^ L → ∀ V2, WdM V2 al L (v + 1) → (∀ k, k ≠ 180 → V2 k = V k) → K u w (some (iv 1)) S V2) (k0 : v + 1 = al ^ L → ∀ V2, (∀ k, k ≠ 180 → V2 k = V k) → K u w (some (iv 0)) S V2) : y_R X 1 158 u w [.ref 170, iv (L : Int)] S V K := by
  refine y_ent (lv' := [(0, .ref 170), (1, iv (L : Int))]) (Nat.le_of_ble_eq_true rfl) rfl ?_
  rcases (show L = 1 ∨ L = 2 ∨ L = 3 by omega) with rfl | rfl | rfl
  · rcases (show al = 1 ∨ al = 2 ∨ al = 3 ∨ al = 4 ∨ al = 5 by omega) with rfl | rfl | rfl | rfl | rfl
    · refine y_lv (l' := [(0, .ref 170), (1, iv 1)]) rfl ⟨rfl, rfl, trivial⟩ ?_
      have w0 : V 180 0 = ((v / 1 % 1 : Nat) : Int) := hWd 0 (by decide)
      have hv2 : v < 1 := hv
      refine y_ld (x := iv 1) rfl rfl (fun d => rfl) ?_
      refine y_ic rfl rfl ?_
      refine y_sub (z := 0) rfl rfl rfl ?_
      refine y_st (lv' := [(2, iv 0), (0, .ref 170), (1, iv 1)]) rfl rfl (fun d => rfl) ?_
      refine y_ld (x := iv 0) rfl rfl (fun d => rfl) ?_
      refine y_zlt rfl rfl rfl (by decide) (fun g1 => absurd g1 (by decide)) (fun g1 => ?_)
      refine y_ld (x := .ref 170) rfl rfl (fun d => rfl) ?_
      refine y_gR (i := 24) rfl rfl rfl (md170 hM) rfl ?_
      refine y_ld (x := iv 0) rfl rfl (fun d => rfl) ?_
      refine y_ild (x := (V 180 0)) (q := 0) rfl rfl (md180 hM) (by decide) (by decide) rfl rfl ?_
      refine y_ld (x := .ref 170) rfl rfl (fun d => rfl) ?_
      refine y_gR (i := 1) rfl rfl rfl (md170 hM) rfl ?_
      refine y_ic rfl rfl ?_
      refine y_ild (x := 1) (q := 5) rfl rfl (md171 hM) (by decide) (by decide) rfl (by exact h5) ?_
      refine y_ic rfl rfl ?_
      refine y_sub (z := 0) rfl rfl rfl ?_
      refine y_jne rfl rfl rfl (by omega) (fun g2 => ?_) (fun g2 => ?_)
      · refine y_ld (x := iv 0) rfl rfl (fun d => rfl) ?_
        refine y_zlt rfl rfl rfl (by decide) (fun g3 => absurd g3 (by decide)) (fun g3 => ?_)
        refine y_ld (x := .ref 170) rfl rfl (fun d => rfl) ?_
        refine y_gR (i := 24) rfl rfl rfl (md170 hM) rfl ?_
        refine y_ld (x := iv 0) rfl rfl (fun d => rfl) ?_
        refine y_in rfl rfl (fun d => rfl) ?_
        refine y_ild (x := (V 180 0)) (q := 0) rfl rfl (md180 hM) (by decide) (by decide) rfl rfl ?_
        refine y_ic rfl rfl ?_
        refine y_add (z := ((V 180 0) + 1)) rfl rfl rfl ?_
        refine y_ist (q := 0) rfl rfl (md180 hM) (by decide) (by decide) rfl ?_
        refine y_ld (x := iv 0) rfl rfl (fun d => rfl) ?_
        refine y_zlt rfl rfl rfl (by decide) (fun g4 => absurd g4 (by decide)) (fun g4 => ?_)
        refine y_ic rfl rfl ?_
        refine y_go rfl rfl ?_
        refine y_rI rfl (by decide) ?_
        refine kn (show v + 1 < 1 by omega) _ (fun k hk => ?_) (fun k hk => by rw [v_up_ne hk])
        rcases (show k = 0 by omega) with rfl
        · show _ = (((v + 1) / 1 % 1 : Nat) : Int)
          rw [v_up_eq]; omega
      · refine y_ld (x := .ref 170) rfl rfl (fun d => rfl) ?_
        refine y_gR (i := 24) rfl rfl rfl (md170 hM) rfl ?_
        refine y_ld (x := iv 0) rfl rfl (fun d => rfl) ?_
        refine y_ic rfl rfl ?_
        refine y_ist (q := 0) rfl rfl (md180 hM) (by decide) (by decide) rfl ?_
        refine y_inc (z := (-1)) (lv' := [(2, iv (-1)), (0, .ref 170), (1, iv 1)]) rfl rfl rfl rfl rfl ?_
        refine y_go rfl rfl ?_
        refine y_ld (x := iv (-1)) rfl rfl (fun d => rfl) ?_
        refine y_zlt rfl rfl rfl (by decide) (fun g5 => ?_) (fun g5 => absurd g5 (by decide))
        refine y_ld (x := iv (-1)) rfl rfl (fun d => rfl) ?_
        refine y_zlt rfl rfl rfl (by decide) (fun g6 => ?_) (fun g6 => absurd g6 (by decide))
        refine y_ld (x := iv (-1)) rfl rfl (fun d => rfl) ?_
        refine y_zlt rfl rfl rfl (by decide) (fun g7 => ?_) (fun g7 => absurd g7 (by decide))
        refine y_ic rfl rfl ?_
        refine y_rI rfl (by decide) ?_
        exact k0 (show v + 1 = 1 by omega) _ (fun k hk => by rw [v_up_ne hk])
    · refine y_lv (l' := [(0, .ref 170), (1, iv 1)]) rfl ⟨rfl, rfl, trivial⟩ ?_
      have w0 : V 180 0 = ((v / 1 % 2 : Nat) : Int) := hWd 0 (by decide)
      have hv2 : v < 2 := hv
      refine y_ld (x := iv 1) rfl rfl (fun d => rfl) ?_
      refine y_ic rfl rfl ?_
      refine y_sub (z := 0) rfl rfl rfl ?_
      refine y_st (lv' := [(2, iv 0), (0, .ref 170), (1, iv 1)]) rfl rfl (fun d => rfl) ?_
      refine y_ld (x := iv 0) rfl rfl (fun d => rfl) ?_
      refine y_zlt rfl rfl rfl (by decide) (fun g8 => absurd g8 (by decide)) (fun g8 => ?_)
      refine y_ld (x := .ref 170) rfl rfl (fun d => rfl) ?_
      refine y_gR (i := 24) rfl rfl rfl (md170 hM) rfl ?_
      refine y_ld (x := iv 0) rfl rfl (fun d => rfl) ?_
      refine y_ild (x := (V 180 0)) (q := 0) rfl rfl (md180 hM) (by decide) (by decide) rfl rfl ?_
      refine y_ld (x := .ref 170) rfl rfl (fun d => rfl) ?_
      refine y_gR (i := 1) rfl rfl rfl (md170 hM) rfl ?_
      refine y_ic rfl rfl ?_
      refine y_ild (x := 2) (q := 5) rfl rfl (md171 hM) (by decide) (by decide) rfl (by exact h5) ?_
      refine y_ic rfl rfl ?_
      refine y_sub (z := 1) rfl rfl rfl ?_
      refine y_jne rfl rfl rfl (by omega) (fun g9 => ?_) (fun g9 => ?_)
      · refine y_ld (x := iv 0) rfl rfl (fun d => rfl) ?_
        refine y_zlt rfl rfl rfl (by decide) (fun g10 => absurd g10 (by decide)) (fun g10 => ?_)
        refine y_ld (x := .ref 170) rfl rfl (fun d => rfl) ?_
        refine y_gR (i := 24) rfl rfl rfl (md170 hM) rfl ?_
        refine y_ld (x := iv 0) rfl rfl (fun d => rfl) ?_
        refine y_in rfl rfl (fun d => rfl) ?_
        refine y_ild (x := (V 180 0)) (q := 0) rfl rfl (md180 hM) (by decide) (by decide) rfl rfl ?_
        refine y_ic rfl rfl ?_
        refine y_add (z := ((V 180 0) + 1)) rfl rfl rfl ?_
        refine y_ist (q := 0) rfl rfl (md180 hM) (by decide) (by decide) rfl ?_
        refine y_ld (x := iv 0) rfl rfl (fun d => rfl) ?_
        refine y_zlt rfl rfl rfl (by decide) (fun g11 => absurd g11 (by decide)) (fun g11 => ?_)
        refine y_ic rfl rfl ?_
        refine y_go rfl rfl ?_
        refine y_rI rfl (by decide) ?_
        refine kn (show v + 1 < 2 by omega) _ (fun k hk => ?_) (fun k hk => by rw [v_up_ne hk])
        rcases (show k = 0 by omega) with rfl
        · show _ = (((v + 1) / 1 % 2 : Nat) : Int)
          rw [v_up_eq]; omega
      · refine y_ld (x := .ref 170) rfl rfl (fun d => rfl) ?_
        refine y_gR (i := 24) rfl rfl rfl (md170 hM) rfl ?_
        refine y_ld (x := iv 0) rfl rfl (fun d => rfl) ?_
        refine y_ic rfl rfl ?_
        refine y_ist (q := 0) rfl rfl (md180 hM) (by decide) (by decide) rfl ?_
        refine y_inc (z := (-1)) (lv' := [(2, iv (-1)), (0, .ref 170), (1, iv 1)]) rfl rfl rfl rfl rfl ?_
        refine y_go rfl rfl ?_
        refine y_ld (x := iv (-1)) rfl rfl (fun d => rfl) ?_
        refine y_zlt rfl rfl rfl (by decide) (fun g12 => ?_) (fun g12 => absurd g12 (by decide))
        refine y_ld (x := iv (-1)) rfl rfl (fun d => rfl) ?_
        refine y_zlt rfl rfl rfl (by decide) (fun g13 => ?_) (fun g13 => absurd g13 (by decide))
        refine y_ld (x := iv (-1)) rfl rfl (fun d => rfl) ?_
        refine y_zlt rfl rfl rfl (by decide) (fun g14 => ?_) (fun g14 => absurd g14 (by decide))
        refine y_ic rfl rfl ?_
        refine y_rI rfl (by decide) ?_
        exact k0 (show v + 1 = 2 by omega) _ (fun k hk => by rw [v_up_ne hk])
    · refine y_lv (l' := [(0, .ref 170), (1, iv 1)]) rfl ⟨rfl, rfl, trivial⟩ ?_
      have w0 : V 180 0 = ((v / 1 % 3 : Nat) : Int) := hWd 0 (by decide)
      have hv2 : v < 3 := hv
      refine y_ld (x := iv 1) rfl rfl (fun d => rfl) ?_
      refine y_ic rfl rfl ?_
      refine y_sub (z := 0) rfl rfl rfl ?_
      refine y_st (lv' := [(2, iv 0), (0, .ref 170), (1, iv 1)]) rfl rfl (fun d => rfl) ?_
      refine y_ld (x := iv 0) rfl rfl (fun d => rfl) ?_
      refine y_zlt rfl rfl rfl (by decide) (fun g15 => absurd g15 (by decide)) (fun g15 => ?_)
      refine y_ld (x := .ref 170) rfl rfl (fun d => rfl) ?_
      refine y_gR (i := 24) rfl rfl rfl (md170 hM) rfl ?_
      refine y_ld (x := iv 0) rfl rfl (fun d => rfl) ?_
      refine y_ild (x := (V 180 0)) (q := 0) rfl rfl (md180 hM) (by decide) (by decide) rfl rfl ?_
      refine y_ld (x := .ref 170) rfl rfl (fun d => rfl) ?_
      refine y_gR (i := 1) rfl rfl rfl (md170 hM) rfl ?_
      refine y_ic rfl rfl ?_
      refine y_ild (x := 3) (q := 5) rfl rfl (md171 hM) (by decide) (by decide) rfl (by exact h5) ?_
      refine y_ic rfl rfl ?_
      refine y_sub (z := 2) rfl rfl rfl ?_
      refine y_jne rfl rfl rfl (by omega) (fun g16 => ?_) (fun g16 => ?_)
      · refine y_ld (x := iv 0) rfl rfl (fun d => rfl) ?_
        refine y_zlt rfl rfl rfl (by decide) (fun g17 => absurd g17 (by decide)) (fun g17 => ?_)
        refine y_ld (x := .ref 170) rfl rfl (fun d => rfl) ?_
        refine y_gR (i := 24) rfl rfl rfl (md170 hM) rfl ?_
        refine y_ld (x := iv 0) rfl rfl (fun d => rfl) ?_
        refine y_in rfl rfl (fun d => rfl) ?_
        refine y_ild (x := (V 180 0)) (q := 0) rfl rfl (md180 hM) (by decide) (by decide) rfl rfl ?_
        refine y_ic rfl rfl ?_
        refine y_add (z := ((V 180 0) + 1)) rfl rfl rfl ?_
        refine y_ist (q := 0) rfl rfl (md180 hM) (by decide) (by decide) rfl ?_
        refine y_ld (x := iv 0) rfl rfl (fun d => rfl) ?_
        refine y_zlt rfl rfl rfl (by decide) (fun g18 => absurd g18 (by decide)) (fun g18 => ?_)
        refine y_ic rfl rfl ?_
        refine y_go rfl rfl ?_
        refine y_rI rfl (by decide) ?_
        refine kn (show v + 1 < 3 by omega) _ (fun k hk => ?_) (fun k hk => by rw [v_up_ne hk])
        rcases (show k = 0 by omega) with rfl
        · show _ = (((v + 1) / 1 % 3 : Nat) : Int)
          rw [v_up_eq]; omega
      · refine y_ld (x := .ref 170) rfl rfl (fun d => rfl) ?_
        refine y_gR (i := 24) rfl rfl rfl (md170 hM) rfl ?_
        refine y_ld (x := iv 0) rfl rfl (fun d => rfl) ?_
        refine y_ic rfl rfl ?_
        refine y_ist (q := 0) rfl rfl (md180 hM) (by decide) (by decide) rfl ?_
        refine y_inc (z := (-1)) (lv' := [(2, iv (-1)), (0, .ref 170), (1, iv 1)]) rfl rfl rfl rfl rfl ?_
        refine y_go rfl rfl ?_
        refine y_ld (x := iv (-1)) rfl rfl (fun d => rfl) ?_
        refine y_zlt rfl rfl rfl (by decide) (fun g19 => ?_) (fun g19 => absurd g19 (by decide))
        refine y_ld (x := iv (-1)) rfl rfl (fun d => rfl) ?_
        refine y_zlt rfl rfl rfl (by decide) (fun g20 => ?_) (fun g20 => absurd g20 (by decide))
        refine y_ld (x := iv (-1)) rfl rfl (fun d => rfl) ?_
        refine y_zlt rfl rfl rfl (by decide) (fun g21 => ?_) (fun g21 => absurd g21 (by decide))
        refine y_ic rfl rfl ?_
        refine y_rI rfl (by decide) ?_
        exact k0 (show v + 1 = 3 by omega) _ (fun k hk => by rw [v_up_ne hk])
    · refine y_lv (l' := [(0, .ref 170), (1, iv 1)]) rfl ⟨rfl, rfl, trivial⟩ ?_
      have w0 : V 180 0 = ((v / 1 % 4 : Nat) : Int) := hWd 0 (by decide)
      have hv2 : v < 4 := hv
      refine y_ld (x := iv 1) rfl rfl (fun d => rfl) ?_
      refine y_ic rfl rfl ?_
      refine y_sub (z := 0) rfl rfl rfl ?_
      refine y_st (lv' := [(2, iv 0), (0, .ref 170), (1, iv 1)]) rfl rfl (fun d => rfl) ?_
      refine y_ld (x := iv 0) rfl rfl (fun d => rfl) ?_
      refine y_zlt rfl rfl rfl (by decide) (fun g22 => absurd g22 (by decide)) (fun g22 => ?_)
      refine y_ld (x := .ref 170) rfl rfl (fun d => rfl) ?_
      refine y_gR (i := 24) rfl rfl rfl (md170 hM) rfl ?_
      refine y_ld (x := iv 0) rfl rfl (fun d => rfl) ?_
      refine y_ild (x := (V 180 0)) (q := 0) rfl rfl (md180 hM) (by decide) (by decide) rfl rfl ?_
      refine y_ld (x := .ref 170) rfl rfl (fun d => rfl) ?_
      refine y_gR (i := 1) rfl rfl rfl (md170 hM) rfl ?_
      refine y_ic rfl rfl ?_
      refine y_ild (x := 4) (q := 5) rfl rfl (md171 hM) (by decide) (by decide) rfl (by exact h5) ?_
      refine y_ic rfl rfl ?_
      refine y_sub (z := 3) rfl rfl rfl ?_
      refine y_jne rfl rfl rfl (by omega) (fun g23 => ?_) (fun g23 => ?_)
      · refine y_ld (x := iv 0) rfl rfl (fun d => rfl) ?_
        refine y_zlt rfl rfl rfl (by decide) (fun g24 => absurd g24 (by decide)) (fun g24 => ?_)
        refine y_ld (x := .ref 170) rfl rfl (fun d => rfl) ?_
        refine y_gR (i := 24) rfl rfl rfl (md170 hM) rfl ?_
        refine y_ld (x := iv 0) rfl rfl (fun d => rfl) ?_
        refine y_in rfl rfl (fun d => rfl) ?_
        refine y_ild (x := (V 180 0)) (q := 0) rfl rfl (md180 hM) (by decide) (by decide) rfl rfl ?_
        refine y_ic rfl rfl ?_
        refine y_add (z := ((V 180 0) + 1)) rfl rfl rfl ?_
        refine y_ist (q := 0) rfl rfl (md180 hM) (by decide) (by decide) rfl ?_
        refine y_ld (x := iv 0) rfl rfl (fun d => rfl) ?_
        refine y_zlt rfl rfl rfl (by decide) (fun g25 => absurd g25 (by decide)) (fun g25 => ?_)
        refine y_ic rfl rfl ?_
        refine y_go rfl rfl ?_
        refine y_rI rfl (by decide) ?_
        refine kn (show v + 1 < 4 by omega) _ (fun k hk => ?_) (fun k hk => by rw [v_up_ne hk])
        rcases (show k = 0 by omega) with rfl
        · show _ = (((v + 1) / 1 % 4 : Nat) : Int)
          rw [v_up_eq]; omega
      · refine y_ld (x := .ref 170) rfl rfl (fun d => rfl) ?_
        refine y_gR (i := 24) rfl rfl rfl (md170 hM) rfl ?_
        refine y_ld (x := iv 0) rfl rfl (fun d => rfl) ?_
        refine y_ic rfl rfl ?_
        refine y_ist (q := 0) rfl rfl (md180 hM) (by decide) (by decide) rfl ?_
        refine y_inc (z := (-1)) (lv' := [(2, iv (-1)), (0, .ref 170), (1, iv 1)]) rfl rfl rfl rfl rfl ?_
        refine y_go rfl rfl ?_
        refine y_ld (x := iv (-1)) rfl rfl (fun d => rfl) ?_
        refine y_zlt rfl rfl rfl (by decide) (fun g26 => ?_) (fun g26 => absurd g26 (by decide))
        refine y_ld (x := iv (-1)) rfl rfl (fun d => rfl) ?_
        refine y_zlt rfl rfl rfl (by decide) (fun g27 => ?_) (fun g27 => absurd g27 (by decide))
        refine y_ld (x := iv (-1)) rfl rfl (fun d => rfl) ?_
        refine y_zlt rfl rfl rfl (by decide) (fun g28 => ?_) (fun g28 => absurd g28 (by decide))
        refine y_ic rfl rfl ?_
        refine y_rI rfl (by decide) ?_
        exact k0 (show v + 1 = 4 by omega) _ (fun k hk => by rw [v_up_ne hk])
    · refine y_lv (l' := [(0, .ref 170), (1, iv 1)]) rfl ⟨rfl, rfl, trivial⟩ ?_
      have w0 : V 180 0 = ((v / 1 % 5 : Nat) : Int) := hWd 0 (by decide)
      have hv2 : v < 5 := hv
      refine y_ld (x := iv 1) rfl rfl (fun d => rfl) ?_
      refine y_ic rfl rfl ?_
      refine y_sub (z := 0) rfl rfl rfl ?_
      refine y_st (lv' := [(2, iv 0), (0, .ref 170), (1, iv 1)]) rfl rfl (fun d => rfl) ?_
      refine y_ld (x := iv 0) rfl rfl (fun d => rfl) ?_
      refine y_zlt rfl rfl rfl (by decide) (fun g29 => absurd g29 (by decide)) (fun g29 => ?_)
      refine y_ld (x := .ref 170) rfl rfl (fun d => rfl) ?_
      refine y_gR (i := 24) rfl rfl rfl (md170 hM) rfl ?_
      refine y_ld (x := iv 0) rfl rfl (fun d => rfl) ?_
      refine y_ild (x := (V 180 0)) (q := 0) rfl rfl (md180 hM) (by decide) (by decide) rfl rfl ?_
      refine y_ld (x := .ref 170) rfl rfl (fun d => rfl) ?_
      refine y_gR (i := 1) rfl rfl rfl (md170 hM) rfl ?_
      refine y_ic rfl rfl ?_
      refine y_ild (x := 5) (q := 5) rfl rfl (md171 hM) (by decide) (by decide) rfl (by exact h5) ?_
      refine y_ic rfl rfl ?_
      refine y_sub (z := 4) rfl rfl rfl ?_
      refine y_jne rfl rfl rfl (by omega) (fun g30 => ?_) (fun g30 => ?_)
      · refine y_ld (x := iv 0) rfl rfl (fun d => rfl) ?_
        refine y_zlt rfl rfl rfl (by decide) (fun g31 => absurd g31 (by decide)) (fun g31 => ?_)
        refine y_ld (x := .ref 170) rfl rfl (fun d => rfl) ?_
        refine y_gR (i := 24) rfl rfl rfl (md170 hM) rfl ?_
        refine y_ld (x := iv 0) rfl rfl (fun d => rfl) ?_
        refine y_in rfl rfl (fun d => rfl) ?_
        refine y_ild (x := (V 180 0)) (q := 0) rfl rfl (md180 hM) (by decide) (by decide) rfl rfl ?_
        refine y_ic rfl rfl ?_
        refine y_add (z := ((V 180 0) + 1)) rfl rfl rfl ?_
        refine y_ist (q := 0) rfl rfl (md180 hM) (by decide) (by decide) rfl ?_
        refine y_ld (x := iv 0) rfl rfl (fun d => rfl) ?_
        refine y_zlt rfl rfl rfl (by decide) (fun g32 => absurd g32 (by decide)) (fun g32 => ?_)
        refine y_ic rfl rfl ?_
        refine y_go rfl rfl ?_
        refine y_rI rfl (by decide) ?_
        refine kn (show v + 1 < 5 by omega) _ (fun k hk => ?_) (fun k hk => by rw [v_up_ne hk])
        rcases (show k = 0 by omega) with rfl
        · show _ = (((v + 1) / 1 % 5 : Nat) : Int)
          rw [v_up_eq]; omega
      · refine y_ld (x := .ref 170) rfl rfl (fun d => rfl) ?_
        refine y_gR (i := 24) rfl rfl rfl (md170 hM) rfl ?_
        refine y_ld (x := iv 0) rfl rfl (fun d => rfl) ?_
        refine y_ic rfl rfl ?_
        refine y_ist (q := 0) rfl rfl (md180 hM) (by decide) (by decide) rfl ?_
        refine y_inc (z := (-1)) (lv' := [(2, iv (-1)), (0, .ref 170), (1, iv 1)]) rfl rfl rfl rfl rfl ?_
        refine y_go rfl rfl ?_
        refine y_ld (x := iv (-1)) rfl rfl (fun d => rfl) ?_
        refine y_zlt rfl rfl rfl (by decide) (fun g33 => ?_) (fun g33 => absurd g33 (by decide))
        refine y_ld (x := iv (-1)) rfl rfl (fun d => rfl) ?_
        refine y_zlt rfl rfl rfl (by decide) (fun g34 => ?_) (fun g34 => absurd g34 (by decide))
        refine y_ld (x := iv (-1)) rfl rfl (fun d => rfl) ?_
        refine y_zlt rfl rfl rfl (by decide) (fun g35 => ?_) (fun g35 => absurd g35 (by decide))
        refine y_ic rfl rfl ?_
        refine y_rI rfl (by decide) ?_
        exact k0 (show v + 1 = 5 by omega) _ (fun k hk => by rw [v_up_ne hk])
  · rcases (show al = 1 ∨ al = 2 ∨ al = 3 ∨ al = 4 ∨ al = 5 by omega) with rfl | rfl | rfl | rfl | rfl
    · refine y_lv (l' := [(0, .ref 170), (1, iv 2)]) rfl ⟨rfl, rfl, trivial⟩ ?_
      have w0 : V 180 0 = ((v / 1 % 1 : Nat) : Int) := hWd 0 (by decide)
      have w1 : V 180 1 = ((v / 1 % 1 : Nat) : Int) := hWd 1 (by decide)
      have hv2 : v < 1 := hv
      refine y_ld (x := iv 2) rfl rfl (fun d => rfl) ?_
      refine y_ic rfl rfl ?_
      refine y_sub (z := 1) rfl rfl rfl ?_
      refine y_st (lv' := [(2, iv 1), (0, .ref 170), (1, iv 2)]) rfl rfl (fun d => rfl) ?_
      refine y_ld (x := iv 1) rfl rfl (fun d => rfl) ?_
      refine y_zlt rfl rfl rfl (by decide) (fun g36 => absurd g36 (by decide)) (fun g36 => ?_)
      refine y_ld (x := .ref 170) rfl rfl (fun d => rfl) ?_
      refine y_gR (i := 24) rfl rfl rfl (md170 hM) rfl ?_
      refine y_ld (x := iv 1) rfl rfl (fun d => rfl) ?_
      refine y_ild (x := (V 180 1)) (q := 1) rfl rfl (md180 hM) (by decide) (by decide) rfl rfl ?_
      refine y_ld (x := .ref 170) rfl rfl (fun d => rfl) ?_
      refine y_gR (i := 1) rfl rfl rfl (md170 hM) rfl ?_
      refine y_ic rfl rfl ?_
      refine y_ild (x := 1) (q := 5) rfl rfl (md171 hM) (by decide) (by decide) rfl (by exact h5) ?_
      refine y_ic rfl rfl ?_
      refine y_sub (z := 0) rfl rfl rfl ?_
      refine y_jne rfl rfl rfl (by omega) (fun g37 => ?_) (fun g37 => ?_)
      · refine y_ld (x := iv 1) rfl rfl (fun d => rfl) ?_
        refine y_zlt rfl rfl rfl (by decide) (fun g38 => absurd g38 (by decide)) (fun g38 => ?_)
        refine y_ld (x := .ref 170) rfl rfl (fun d => rfl) ?_
        refine y_gR (i := 24) rfl rfl rfl (md170 hM) rfl ?_
        refine y_ld (x := iv 1) rfl rfl (fun d => rfl) ?_
        refine y_in rfl rfl (fun d => rfl) ?_
        refine y_ild (x := (V 180 1)) (q := 1) rfl rfl (md180 hM) (by decide) (by decide) rfl rfl ?_
        refine y_ic rfl rfl ?_
        refine y_add (z := ((V 180 1) + 1)) rfl rfl rfl ?_
        refine y_ist (q := 1) rfl rfl (md180 hM) (by decide) (by decide) rfl ?_
        refine y_ld (x := iv 1) rfl rfl (fun d => rfl) ?_
        refine y_zlt rfl rfl rfl (by decide) (fun g39 => absurd g39 (by decide)) (fun g39 => ?_)
        refine y_ic rfl rfl ?_
        refine y_go rfl rfl ?_
        refine y_rI rfl (by decide) ?_
        refine kn (show v + 1 < 1 by omega) _ (fun k hk => ?_) (fun k hk => by rw [v_up_ne hk])
        rcases (show k = 0 ∨ k = 1 by omega) with rfl | rfl
        · show _ = (((v + 1) / 1 % 1 : Nat) : Int)
          rw [v_up_ni (by decide)]; omega
        · show _ = (((v + 1) / 1 % 1 : Nat) : Int)
          rw [v_up_eq]; omega
      · refine y_ld (x := .ref 170) rfl rfl (fun d => rfl) ?_
        refine y_gR (i := 24) rfl rfl rfl (md170 hM) rfl ?_
        refine y_ld (x := iv 1) rfl rfl (fun d => rfl) ?_
        refine y_ic rfl rfl ?_
        refine y_ist (q := 1) rfl rfl (md180 hM) (by decide) (by decide) rfl ?_
        refine y_inc (z := 0) (lv' := [(2, iv 0), (0, .ref 170), (1, iv 2)]) rfl rfl rfl rfl rfl ?_
        refine y_go rfl rfl ?_
        refine y_ld (x := iv 0) rfl rfl (fun d => rfl) ?_
        refine y_zlt rfl rfl rfl (by decide) (fun g40 => absurd g40 (by decide)) (fun g40 => ?_)
        refine y_ld (x := .ref 170) rfl rfl (fun d => rfl) ?_
        refine y_gR (i := 24) rfl rfl rfl (md170 hM) rfl ?_
        refine y_ld (x := iv 0) rfl rfl (fun d => rfl) ?_
        refine y_ild (x := (V 180 0)) (q := 0) rfl rfl (md180 hM) (by decide) (by decide) rfl rfl ?_
        refine y_ld (x := .ref 170) rfl rfl (fun d => rfl) ?_
        refine y_gR (i := 1) rfl rfl rfl (md170 hM) rfl ?_
        refine y_ic rfl rfl ?_
        refine y_ild (x := 1) (q := 5) rfl rfl (md171 hM) (by decide) (by decide) rfl (by rw [v_up_ne (by decide)]; exact h5) ?_
        refine y_ic rfl rfl ?_
        refine y_sub (z := 0) rfl rfl rfl ?_
        refine y_jne rfl rfl rfl (by omega) (fun g41 => ?_) (fun g41 => ?_)
        · refine y_ld (x := iv 0) rfl rfl (fun d => rfl) ?_
          refine y_zlt rfl rfl rfl (by decide) (fun g42 => absurd g42 (by decide)) (fun g42 => ?_)
          refine y_ld (x := .ref 170) rfl rfl (fun d => rfl) ?_
          refine y_gR (i := 24) rfl rfl rfl (md170 hM) rfl ?_
          refine y_ld (x := iv 0) rfl rfl (fun d => rfl) ?_
          refine y_in rfl rfl (fun d => rfl) ?_
          refine y_ild (x := (V 180 0)) (q := 0) rfl rfl (md180 hM) (by decide) (by decide) rfl rfl ?_
          refine y_ic rfl rfl ?_
          refine y_add (z := ((V 180 0) + 1)) rfl rfl rfl ?_
          refine y_ist (q := 0) rfl rfl (md180 hM) (by decide) (by decide) rfl ?_
          refine y_ld (x := iv 0) rfl rfl (fun d => rfl) ?_
          refine y_zlt rfl rfl rfl (by decide) (fun g43 => absurd g43 (by decide)) (fun g43 => ?_)
          refine y_ic rfl rfl ?_
          refine y_go rfl rfl ?_
          refine y_rI rfl (by decide) ?_
          refine kn (show v + 1 < 1 by omega) _ (fun k hk => ?_) (fun k hk => by rw [v_up_ne hk, v_up_ne hk])
          rcases (show k = 0 ∨ k = 1 by omega) with rfl | rfl
          · show _ = (((v + 1) / 1 % 1 : Nat) : Int)
            rw [v_up_eq]; omega
          · show _ = (((v + 1) / 1 % 1 : Nat) : Int)
            rw [v_up_ni (by decide), v_up_eq]; omega
        · refine y_ld (x := .ref 170) rfl rfl (fun d => rfl) ?_
          refine y_gR (i := 24) rfl rfl rfl (md170 hM) rfl ?_
          refine y_ld (x := iv 0) rfl rfl (fun d => rfl) ?_
          refine y_ic rfl rfl ?_
          refine y_ist (q := 0) rfl rfl (md180 hM) (by decide) (by decide) rfl ?_
          refine y_inc (z := (-1)) (lv' := [(2, iv (-1)), (0, .ref 170), (1, iv 2)]) rfl rfl rfl rfl rfl ?_
          refine y_go rfl rfl ?_
          refine y_ld (x := iv (-1)) rfl rfl (fun d => rfl) ?_
          refine y_zlt rfl rfl rfl (by decide) (fun g44 => ?_) (fun g44 => absurd g44 (by decide))
          refine y_ld (x := iv (-1)) rfl rfl (fun d => rfl) ?_
          refine y_zlt rfl rfl rfl (by decide) (fun g45 => ?_) (fun g45 => absurd g45 (by decide))
          refine y_ld (x := iv (-1)) rfl rfl (fun d => rfl) ?_
          refine y_zlt rfl rfl rfl (by decide) (fun g46 => ?_) (fun g46 => absurd g46 (by decide))
          refine y_ic rfl rfl ?_
          refine y_rI rfl (by decide) ?_
          exact k0 (show v + 1 = 1 by omega) _ (fun k hk => by rw [v_up_ne hk, v_up_ne hk])
    · refine y_lv (l' := [(0, .ref 170), (1, iv 2)]) rfl ⟨rfl, rfl, trivial⟩ ?_
      have w0 : V 180 0 = ((v / 2 % 2 : Nat) : Int) := hWd 0 (by decide)
      have w1 : V 180 1 = ((v / 1 % 2 : Nat) : Int) := hWd 1 (by decide)
      have hv2 : v < 4 := hv
      refine y_ld (x := iv 2) rfl rfl (fun d => rfl) ?_
      refine y_ic rfl rfl ?_
      refine y_sub (z := 1) rfl rfl rfl ?_
      refine y_st (lv' := [(2, iv 1), (0, .ref 170), (1, iv 2)]) rfl rfl (fun d => rfl) ?_
      refine y_ld (x := iv 1) rfl rfl (fun d => rfl) ?_
      refine y_zlt rfl rfl rfl (by decide) (fun g47 => absurd g47 (by decide)) (fun g47 => ?_)
      refine y_ld (x := .ref 170) rfl rfl (fun d => rfl) ?_
      refine y_gR (i := 24) rfl rfl rfl (md170 hM) rfl ?_
      refine y_ld (x := iv 1) rfl rfl (fun d => rfl) ?_
      refine y_ild (x := (V 180 1)) (q := 1) rfl rfl (md180 hM) (by decide) (by decide) rfl rfl ?_
      refine y_ld (x := .ref 170) rfl rfl (fun d => rfl) ?_
      refine y_gR (i := 1) rfl rfl rfl (md170 hM) rfl ?_
      refine y_ic rfl rfl ?_
      refine y_ild (x := 2) (q := 5) rfl rfl (md171 hM) (by decide) (by decide) rfl (by exact h5) ?_
      refine y_ic rfl rfl ?_
      refine y_sub (z := 1) rfl rfl rfl ?_
      refine y_jne rfl rfl rfl (by omega) (fun g48 => ?_) (fun g48 => ?_)
      · refine y_ld (x := iv 1) rfl rfl (fun d => rfl) ?_
        refine y_zlt rfl rfl rfl (by decide) (fun g49 => absurd g49 (by decide)) (fun g49 => ?_)
        refine y_ld (x := .ref 170) rfl rfl (fun d => rfl) ?_
        refine y_gR (i := 24) rfl rfl rfl (md170 hM) rfl ?_
        refine y_ld (x := iv 1) rfl rfl (fun d => rfl) ?_
        refine y_in rfl rfl (fun d => rfl) ?_
        refine y_ild (x := (V 180 1)) (q := 1) rfl rfl (md180 hM) (by decide) (by decide) rfl rfl ?_
        refine y_ic rfl rfl ?_
        refine y_add (z := ((V 180 1) + 1)) rfl rfl rfl ?_
        refine y_ist (q := 1) rfl rfl (md180 hM) (by decide) (by decide) rfl ?_
        refine y_ld (x := iv 1) rfl rfl (fun d => rfl) ?_
        refine y_zlt rfl rfl rfl (by decide) (fun g50 => absurd g50 (by decide)) (fun g50 => ?_)
        refine y_ic rfl rfl ?_
        refine y_go rfl rfl ?_
        refine y_rI rfl (by decide) ?_
        refine kn (show v + 1 < 4 by omega) _ (fun k hk => ?_) (fun k hk => by rw [v_up_ne hk])
        rcases (show k = 0 ∨ k = 1 by omega) with rfl | rfl
        · show _ = (((v + 1) / 2 % 2 : Nat) : Int)
          rw [v_up_ni (by decide)]; omega
        · show _ = (((v + 1) / 1 % 2 : Nat) : Int)
          rw [v_up_eq]; omega
      · refine y_ld (x := .ref 170) rfl rfl (fun d => rfl) ?_
        refine y_gR (i := 24) rfl rfl rfl (md170 hM) rfl ?_
        refine y_ld (x := iv 1) rfl rfl (fun d => rfl) ?_
        refine y_ic rfl rfl ?_
        refine y_ist (q := 1) rfl rfl (md180 hM) (by decide) (by decide) rfl ?_
        refine y_inc (z := 0) (lv' := [(2, iv 0), (0, .ref 170), (1, iv 2)]) rfl rfl rfl rfl rfl ?_
        refine y_go rfl rfl ?_
        refine y_ld (x := iv 0) rfl rfl (fun d => rfl) ?_
        refine y_zlt rfl rfl rfl (by decide) (fun g51 => absurd g51 (by decide)) (fun g51 => ?_)
        refine y_ld (x := .ref 170) rfl rfl (fun d => rfl) ?_
        refine y_gR (i := 24) rfl rfl rfl (md170 hM) rfl ?_
        refine y_ld (x := iv 0) rfl rfl (fun d => rfl) ?_
        refine y_ild (x := (V 180 0)) (q := 0) rfl rfl (md180 hM) (by decide) (by decide) rfl rfl ?_
        refine y_ld (x := .ref 170) rfl rfl (fun d => rfl) ?_
        refine y_gR (i := 1) rfl rfl rfl (md170 hM) rfl ?_
        refine y_ic rfl rfl ?_
        refine y_ild (x := 2) (q := 5) rfl rfl (md171 hM) (by decide) (by decide) rfl (by rw [v_up_ne (by decide)]; exact h5) ?_
        refine y_ic rfl rfl ?_
        refine y_sub (z := 1) rfl rfl rfl ?_
        refine y_jne rfl rfl rfl (by omega) (fun g52 => ?_) (fun g52 => ?_)
        · refine y_ld (x := iv 0) rfl rfl (fun d => rfl) ?_
          refine y_zlt rfl rfl rfl (by decide) (fun g53 => absurd g53 (by decide)) (fun g53 => ?_)
          refine y_ld (x := .ref 170) rfl rfl (fun d => rfl) ?_
          refine y_gR (i := 24) rfl rfl rfl (md170 hM) rfl ?_
          refine y_ld (x := iv 0) rfl rfl (fun d => rfl) ?_
          refine y_in rfl rfl (fun d => rfl) ?_
          refine y_ild (x := (V 180 0)) (q := 0) rfl rfl (md180 hM) (by decide) (by decide) rfl rfl ?_
          refine y_ic rfl rfl ?_
          refine y_add (z := ((V 180 0) + 1)) rfl rfl rfl ?_
          refine y_ist (q := 0) rfl rfl (md180 hM) (by decide) (by decide) rfl ?_
          refine y_ld (x := iv 0) rfl rfl (fun d => rfl) ?_
          refine y_zlt rfl rfl rfl (by decide) (fun g54 => absurd g54 (by decide)) (fun g54 => ?_)
          refine y_ic rfl rfl ?_
          refine y_go rfl rfl ?_
          refine y_rI rfl (by decide) ?_
          refine kn (show v + 1 < 4 by omega) _ (fun k hk => ?_) (fun k hk => by rw [v_up_ne hk, v_up_ne hk])
          rcases (show k = 0 ∨ k = 1 by omega) with rfl | rfl
          · show _ = (((v + 1) / 2 % 2 : Nat) : Int)
            rw [v_up_eq]; omega
          · show _ = (((v + 1) / 1 % 2 : Nat) : Int)
            rw [v_up_ni (by decide), v_up_eq]; omega
        · refine y_ld (x := .ref 170) rfl rfl (fun d => rfl) ?_
          refine y_gR (i := 24) rfl rfl rfl (md170 hM) rfl ?_
          refine y_ld (x := iv 0) rfl rfl (fun d => rfl) ?_
          refine y_ic rfl rfl ?_
          refine y_ist (q := 0) rfl rfl (md180 hM) (by decide) (by decide) rfl ?_
          refine y_inc (z := (-1)) (lv' := [(2, iv (-1)), (0, .ref 170), (1, iv 2)]) rfl rfl rfl rfl rfl ?_
          refine y_go rfl rfl ?_
          refine y_ld (x := iv (-1)) rfl rfl (fun d => rfl) ?_
          refine y_zlt rfl rfl rfl (by decide) (fun g55 => ?_) (fun g55 => absurd g55 (by decide))
          refine y_ld (x := iv (-1)) rfl rfl (fun d => rfl) ?_
          refine y_zlt rfl rfl rfl (by decide) (fun g56 => ?_) (fun g56 => absurd g56 (by decide))
          refine y_ld (x := iv (-1)) rfl rfl (fun d => rfl) ?_
          refine y_zlt rfl rfl rfl (by decide) (fun g57 => ?_) (fun g57 => absurd g57 (by decide))
          refine y_ic rfl rfl ?_
          refine y_rI rfl (by decide) ?_
          exact k0 (show v + 1 = 4 by omega) _ (fun k hk => by rw [v_up_ne hk, v_up_ne hk])
    · refine y_lv (l' := [(0, .ref 170), (1, iv 2)]) rfl ⟨rfl, rfl, trivial⟩ ?_
      have w0 : V 180 0 = ((v / 3 % 3 : Nat) : Int) := hWd 0 (by decide)
      have w1 : V 180 1 = ((v / 1 % 3 : Nat) : Int) := hWd 1 (by decide)
      have hv2 : v < 9 := hv
      refine y_ld (x := iv 2) rfl rfl (fun d => rfl) ?_
      refine y_ic rfl rfl ?_
      refine y_sub (z := 1) rfl rfl rfl ?_
      refine y_st (lv' := [(2, iv 1), (0, .ref 170), (1, iv 2)]) rfl rfl (fun d => rfl) ?_
      refine y_ld (x := iv 1) rfl rfl (fun d => rfl) ?_
      refine y_zlt rfl rfl rfl (by decide) (fun g58 => absurd g58 (by decide)) (fun g58 => ?_)
      refine y_ld (x := .ref 170) rfl rfl (fun d => rfl) ?_
      refine y_gR (i := 24) rfl rfl rfl (md170 hM) rfl ?_
      refine y_ld (x := iv 1) rfl rfl (fun d => rfl) ?_
      refine y_ild (x := (V 180 1)) (q := 1) rfl rfl (md180 hM) (by decide) (by decide) rfl rfl ?_
      refine y_ld (x := .ref 170) rfl rfl (fun d => rfl) ?_
      refine y_gR (i := 1) rfl rfl rfl (md170 hM) rfl ?_
      refine y_ic rfl rfl ?_
      refine y_ild (x := 3) (q := 5) rfl rfl (md171 hM) (by decide) (by decide) rfl (by exact h5) ?_
      refine y_ic rfl rfl ?_
      refine y_sub (z := 2) rfl rfl rfl ?_
      refine y_jne rfl rfl rfl (by omega) (fun g59 => ?_) (fun g59 => ?_)
      · refine y_ld (x := iv 1) rfl rfl (fun d => rfl) ?_
        refine y_zlt rfl rfl rfl (by decide) (fun g60 => absurd g60 (by decide)) (fun g60 => ?_)
        refine y_ld (x := .ref 170) rfl rfl (fun d => rfl) ?_
        refine y_gR (i := 24) rfl rfl rfl (md170 hM) rfl ?_
        refine y_ld (x := iv 1) rfl rfl (fun d => rfl) ?_
        refine y_in rfl rfl (fun d => rfl) ?_
        refine y_ild (x := (V 180 1)) (q := 1) rfl rfl (md180 hM) (by decide) (by decide) rfl rfl ?_
        refine y_ic rfl rfl ?_
        refine y_add (z := ((V 180 1) + 1)) rfl rfl rfl ?_
        refine y_ist (q := 1) rfl rfl (md180 hM) (by decide) (by decide) rfl ?_
        refine y_ld (x := iv 1) rfl rfl (fun d => rfl) ?_
        refine y_zlt rfl rfl rfl (by decide) (fun g61 => absurd g61 (by decide)) (fun g61 => ?_)
        refine y_ic rfl rfl ?_
        refine y_go rfl rfl ?_
        refine y_rI rfl (by decide) ?_
        refine kn (show v + 1 < 9 by omega) _ (fun k hk => ?_) (fun k hk => by rw [v_up_ne hk])
        rcases (show k = 0 ∨ k = 1 by omega) with rfl | rfl
        · show _ = (((v + 1) / 3 % 3 : Nat) : Int)
          rw [v_up_ni (by decide)]; omega
        · show _ = (((v + 1) / 1 % 3 : Nat) : Int)
          rw [v_up_eq]; omega
      · refine y_ld (x := .ref 170) rfl rfl (fun d => rfl) ?_
        refine y_gR (i := 24) rfl rfl rfl (md170 hM) rfl ?_
        refine y_ld (x := iv 1) rfl rfl (fun d => rfl) ?_
        refine y_ic rfl rfl ?_
        refine y_ist (q := 1) rfl rfl (md180 hM) (by decide) (by decide) rfl ?_
        refine y_inc (z := 0) (lv' := [(2, iv 0), (0, .ref 170), (1, iv 2)]) rfl rfl rfl rfl rfl ?_
        refine y_go rfl rfl ?_
        refine y_ld (x := iv 0) rfl rfl (fun d => rfl) ?_
        refine y_zlt rfl rfl rfl (by decide) (fun g62 => absurd g62 (by decide)) (fun g62 => ?_)
        refine y_ld (x := .ref 170) rfl rfl (fun d => rfl) ?_
        refine y_gR (i := 24) rfl rfl rfl (md170 hM) rfl ?_
        refine y_ld (x := iv 0) rfl rfl (fun d => rfl) ?_
        refine y_ild (x := (V 180 0)) (q := 0) rfl rfl (md180 hM) (by decide) (by decide) rfl rfl ?_
        refine y_ld (x := .ref 170) rfl rfl (fun d => rfl) ?_
        refine y_gR (i := 1) rfl rfl rfl (md170 hM) rfl ?_
        refine y_ic rfl rfl ?_
        refine y_ild (x := 3) (q := 5) rfl rfl (md171 hM) (by decide) (by decide) rfl (by rw [v_up_ne (by decide)]; exact h5) ?_
        refine y_ic rfl rfl ?_
        refine y_sub (z := 2) rfl rfl rfl ?_
        refine y_jne rfl rfl rfl (by omega) (fun g63 => ?_) (fun g63 => ?_)
        · refine y_ld (x := iv 0) rfl rfl (fun d => rfl) ?_
          refine y_zlt rfl rfl rfl (by decide) (fun g64 => absurd g64 (by decide)) (fun g64 => ?_)
          refine y_ld (x := .ref 170) rfl rfl (fun d => rfl) ?_
          refine y_gR (i := 24) rfl rfl rfl (md170 hM) rfl ?_
          refine y_ld (x := iv 0) rfl rfl (fun d => rfl) ?_
          refine y_in rfl rfl (fun d => rfl) ?_
          refine y_ild (x := (V 180 0)) (q := 0) rfl rfl (md180 hM) (by decide) (by decide) rfl rfl ?_
          refine y_ic rfl rfl ?_
          refine y_add (z := ((V 180 0) + 1)) rfl rfl rfl ?_
          refine y_ist (q := 0) rfl rfl (md180 hM) (by decide) (by decide) rfl ?_
          refine y_ld (x := iv 0) rfl rfl (fun d => rfl) ?_
          refine y_zlt rfl rfl rfl (by decide) (fun g65 => absurd g65 (by decide)) (fun g65 => ?_)
          refine y_ic rfl rfl ?_
          refine y_go rfl rfl ?_
          refine y_rI rfl (by decide) ?_
          refine kn (show v + 1 < 9 by omega) _ (fun k hk => ?_) (fun k hk => by rw [v_up_ne hk, v_up_ne hk])
          rcases (show k = 0 ∨ k = 1 by omega) with rfl | rfl
          · show _ = (((v + 1) / 3 % 3 : Nat) : Int)
            rw [v_up_eq]; omega
          · show _ = (((v + 1) / 1 % 3 : Nat) : Int)
            rw [v_up_ni (by decide), v_up_eq]; omega
        · refine y_ld (x := .ref 170) rfl rfl (fun d => rfl) ?_
          refine y_gR (i := 24) rfl rfl rfl (md170 hM) rfl ?_
          refine y_ld (x := iv 0) rfl rfl (fun d => rfl) ?_
          refine y_ic rfl rfl ?_
          refine y_ist (q := 0) rfl rfl (md180 hM) (by decide) (by decide) rfl ?_
          refine y_inc (z := (-1)) (lv' := [(2, iv (-1)), (0, .ref 170), (1, iv 2)]) rfl rfl rfl rfl rfl ?_
          refine y_go rfl rfl ?_
          refine y_ld (x := iv (-1)) rfl rfl (fun d => rfl) ?_
          refine y_zlt rfl rfl rfl (by decide) (fun g66 => ?_) (fun g66 => absurd g66 (by decide))
          refine y_ld (x := iv (-1)) rfl rfl (fun d => rfl) ?_
          refine y_zlt rfl rfl rfl (by decide) (fun g67 => ?_) (fun g67 => absurd g67 (by decide))
          refine y_ld (x := iv (-1)) rfl rfl (fun d => rfl) ?_
          refine y_zlt rfl rfl rfl (by decide) (fun g68 => ?_) (fun g68 => absurd g68 (by decide))
          refine y_ic rfl rfl ?_
          refine y_rI rfl (by decide) ?_
          exact k0 (show v + 1 = 9 by omega) _ (fun k hk => by rw [v_up_ne hk, v_up_ne hk])
    · refine y_lv (l' := [(0, .ref 170), (1, iv 2)]) rfl ⟨rfl, rfl, trivial⟩ ?_
      have w0 : V 180 0 = ((v / 4 % 4 : Nat) : Int) := hWd 0 (by decide)
      have w1 : V 180 1 = ((v / 1 % 4 : Nat) : Int) := hWd 1 (by decide)
      have hv2 : v < 16 := hv
      refine y_ld (x := iv 2) rfl rfl (fun d => rfl) ?_
      refine y_ic rfl rfl ?_
      refine y_sub (z := 1) rfl rfl rfl ?_
      refine y_st (lv' := [(2, iv 1), (0, .ref 170), (1, iv 2)]) rfl rfl (fun d => rfl) ?_
      refine y_ld (x := iv 1) rfl rfl (fun d => rfl) ?_
      refine y_zlt rfl rfl rfl (by decide) (fun g69 => absurd g69 (by decide)) (fun g69 => ?_)
      refine y_ld (x := .ref 170) rfl rfl (fun d => rfl) ?_
      refine y_gR (i := 24) rfl rfl rfl (md170 hM) rfl ?_
      refine y_ld (x := iv 1) rfl rfl (fun d => rfl) ?_
      refine y_ild (x := (V 180 1)) (q := 1) rfl rfl (md180 hM) (by decide) (by decide) rfl rfl ?_
      refine y_ld (x := .ref 170) rfl rfl (fun d => rfl) ?_
      refine y_gR (i := 1) rfl rfl rfl (md170 hM) rfl ?_
      refine y_ic rfl rfl ?_
      refine y_ild (x := 4) (q := 5) rfl rfl (md171 hM) (by decide) (by decide) rfl (by exact h5) ?_
      refine y_ic rfl rfl ?_
      refine y_sub (z := 3) rfl rfl rfl ?_
      refine y_jne rfl rfl rfl (by omega) (fun g70 => ?_) (fun g70 => ?_)
      · refine y_ld (x := iv 1) rfl rfl (fun d => rfl) ?_
        refine y_zlt rfl rfl rfl (by decide) (fun g71 => absurd g71 (by decide)) (fun g71 => ?_)
        refine y_ld (x := .ref 170) rfl rfl (fun d => rfl) ?_
        refine y_gR (i := 24) rfl rfl rfl (md170 hM) rfl ?_
        refine y_ld (x := iv 1) rfl rfl (fun d => rfl) ?_
        refine y_in rfl rfl (fun d => rfl) ?_
        refine y_ild (x := (V 180 1)) (q := 1) rfl rfl (md180 hM) (by decide) (by decide) rfl rfl ?_
        refine y_ic rfl rfl ?_
        refine y_add (z := ((V 180 1) + 1)) rfl rfl rfl ?_
        refine y_ist (q := 1) rfl rfl (md180 hM) (by decide) (by decide) rfl ?_
        refine y_ld (x := iv 1) rfl rfl (fun d => rfl) ?_
        refine y_zlt rfl rfl rfl (by decide) (fun g72 => absurd g72 (by decide)) (fun g72 => ?_)
        refine y_ic rfl rfl ?_
        refine y_go rfl rfl ?_
        refine y_rI rfl (by decide) ?_
        refine kn (show v + 1 < 16 by omega) _ (fun k hk => ?_) (fun k hk => by rw [v_up_ne hk])
        rcases (show k = 0 ∨ k = 1 by omega) with rfl | rfl
        · show _ = (((v + 1) / 4 % 4 : Nat) : Int)
          rw [v_up_ni (by decide)]; omega
        · show _ = (((v + 1) / 1 % 4 : Nat) : Int)
          rw [v_up_eq]; omega
      · refine y_ld (x := .ref 170) rfl rfl (fun d => rfl) ?_
        refine y_gR (i := 24) rfl rfl rfl (md170 hM) rfl ?_
        refine y_ld (x := iv 1) rfl rfl (fun d => rfl) ?_
        refine y_ic rfl rfl ?_
        refine y_ist (q := 1) rfl rfl (md180 hM) (by decide) (by decide) rfl ?_
        refine y_inc (z := 0) (lv' := [(2, iv 0), (0, .ref 170), (1, iv 2)]) rfl rfl rfl rfl rfl ?_
        refine y_go rfl rfl ?_
        refine y_ld (x := iv 0) rfl rfl (fun d => rfl) ?_
        refine y_zlt rfl rfl rfl (by decide) (fun g73 => absurd g73 (by decide)) (fun g73 => ?_)
        refine y_ld (x := .ref 170) rfl rfl (fun d => rfl) ?_
        refine y_gR (i := 24) rfl rfl rfl (md170 hM) rfl ?_
        refine y_ld (x := iv 0) rfl rfl (fun d => rfl) ?_
        refine y_ild (x := (V 180 0)) (q := 0) rfl rfl (md180 hM) (by decide) (by decide) rfl rfl ?_
        refine y_ld (x := .ref 170) rfl rfl (fun d => rfl) ?_
        refine y_gR (i := 1) rfl rfl rfl (md170 hM) rfl ?_
        refine y_ic rfl rfl ?_
        refine y_ild (x := 4) (q := 5) rfl rfl (md171 hM) (by decide) (by decide) rfl (by rw [v_up_ne (by decide)]; exact h5) ?_
        refine y_ic rfl rfl ?_
        refine y_sub (z := 3) rfl rfl rfl ?_
        refine y_jne rfl rfl rfl (by omega) (fun g74 => ?_) (fun g74 => ?_)
        · refine y_ld (x := iv 0) rfl rfl (fun d => rfl) ?_
          refine y_zlt rfl rfl rfl (by decide) (fun g75 => absurd g75 (by decide)) (fun g75 => ?_)
          refine y_ld (x := .ref 170) rfl rfl (fun d => rfl) ?_
          refine y_gR (i := 24) rfl rfl rfl (md170 hM) rfl ?_
          refine y_ld (x := iv 0) rfl rfl (fun d => rfl) ?_
          refine y_in rfl rfl (fun d => rfl) ?_
          refine y_ild (x := (V 180 0)) (q := 0) rfl rfl (md180 hM) (by decide) (by decide) rfl rfl ?_
          refine y_ic rfl rfl ?_
          refine y_add (z := ((V 180 0) + 1)) rfl rfl rfl ?_
          refine y_ist (q := 0) rfl rfl (md180 hM) (by decide) (by decide) rfl ?_
          refine y_ld (x := iv 0) rfl rfl (fun d => rfl) ?_
          refine y_zlt rfl rfl rfl (by decide) (fun g76 => absurd g76 (by decide)) (fun g76 => ?_)
          refine y_ic rfl rfl ?_
          refine y_go rfl rfl ?_
          refine y_rI rfl (by decide) ?_
          refine kn (show v + 1 < 16 by omega) _ (fun k hk => ?_) (fun k hk => by rw [v_up_ne hk, v_up_ne hk])
          rcases (show k = 0 ∨ k = 1 by omega) with rfl | rfl
          · show _ = (((v + 1) / 4 % 4 : Nat) : Int)
            rw [v_up_eq]; omega
          · show _ = (((v + 1) / 1 % 4 : Nat) : Int)
            rw [v_up_ni (by decide), v_up_eq]; omega
        · refine y_ld (x := .ref 170) rfl rfl (fun d => rfl) ?_
          refine y_gR (i := 24) rfl rfl rfl (md170 hM) rfl ?_
          refine y_ld (x := iv 0) rfl rfl (fun d => rfl) ?_
          refine y_ic rfl rfl ?_
          refine y_ist (q := 0) rfl rfl (md180 hM) (by decide) (by decide) rfl ?_
          refine y_inc (z := (-1)) (lv' := [(2, iv (-1)), (0, .ref 170), (1, iv 2)]) rfl rfl rfl rfl rfl ?_
          refine y_go rfl rfl ?_
          refine y_ld (x := iv (-1)) rfl rfl (fun d => rfl) ?_
          refine y_zlt rfl rfl rfl (by decide) (fun g77 => ?_) (fun g77 => absurd g77 (by decide))
          refine y_ld (x := iv (-1)) rfl rfl (fun d => rfl) ?_
          refine y_zlt rfl rfl rfl (by decide) (fun g78 => ?_) (fun g78 => absurd g78 (by decide))
          refine y_ld (x := iv (-1)) rfl rfl (fun d => rfl) ?_
          refine y_zlt rfl rfl rfl (by decide) (fun g79 => ?_) (fun g79 => absurd g79 (by decide))
          refine y_ic rfl rfl ?_
          refine y_rI rfl (by decide) ?_
          exact k0 (show v + 1 = 16 by omega) _ (fun k hk => by rw [v_up_ne hk, v_up_ne hk])
    · refine y_lv (l' := [(0, .ref 170), (1, iv 2)]) rfl ⟨rfl, rfl, trivial⟩ ?_
      have w0 : V 180 0 = ((v / 5 % 5 : Nat) : Int) := hWd 0 (by decide)
      have w1 : V 180 1 = ((v / 1 % 5 : Nat) : Int) := hWd 1 (by decide)
      have hv2 : v < 25 := hv
      refine y_ld (x := iv 2) rfl rfl (fun d => rfl) ?_
      refine y_ic rfl rfl ?_
      refine y_sub (z := 1) rfl rfl rfl ?_
      refine y_st (lv' := [(2, iv 1), (0, .ref 170), (1, iv 2)]) rfl rfl (fun d => rfl) ?_
      refine y_ld (x := iv 1) rfl rfl (fun d => rfl) ?_
      refine y_zlt rfl rfl rfl (by decide) (fun g80 => absurd g80 (by decide)) (fun g80 => ?_)
      refine y_ld (x := .ref 170) rfl rfl (fun d => rfl) ?_
      refine y_gR (i := 24) rfl rfl rfl (md170 hM) rfl ?_
      refine y_ld (x := iv 1) rfl rfl (fun d => rfl) ?_
      refine y_ild (x := (V 180 1)) (q := 1) rfl rfl (md180 hM) (by decide) (by decide) rfl rfl ?_
      refine y_ld (x := .ref 170) rfl rfl (fun d => rfl) ?_
      refine y_gR (i := 1) rfl rfl rfl (md170 hM) rfl ?_
      refine y_ic rfl rfl ?_
      refine y_ild (x := 5) (q := 5) rfl rfl (md171 hM) (by decide) (by decide) rfl (by exact h5) ?_
      refine y_ic rfl rfl ?_
      refine y_sub (z := 4) rfl rfl rfl ?_
      refine y_jne rfl rfl rfl (by omega) (fun g81 => ?_) (fun g81 => ?_)
      · refine y_ld (x := iv 1) rfl rfl (fun d => rfl) ?_
        refine y_zlt rfl rfl rfl (by decide) (fun g82 => absurd g82 (by decide)) (fun g82 => ?_)
        refine y_ld (x := .ref 170) rfl rfl (fun d => rfl) ?_
        refine y_gR (i := 24) rfl rfl rfl (md170 hM) rfl ?_
        refine y_ld (x := iv 1) rfl rfl (fun d => rfl) ?_
        refine y_in rfl rfl (fun d => rfl) ?_
        refine y_ild (x := (V 180 1)) (q := 1) rfl rfl (md180 hM) (by decide) (by decide) rfl rfl ?_
        refine y_ic rfl rfl ?_
        refine y_add (z := ((V 180 1) + 1)) rfl rfl rfl ?_
        refine y_ist (q := 1) rfl rfl (md180 hM) (by decide) (by decide) rfl ?_
        refine y_ld (x := iv 1) rfl rfl (fun d => rfl) ?_
        refine y_zlt rfl rfl rfl (by decide) (fun g83 => absurd g83 (by decide)) (fun g83 => ?_)
        refine y_ic rfl rfl ?_
        refine y_go rfl rfl ?_
        refine y_rI rfl (by decide) ?_
        refine kn (show v + 1 < 25 by omega) _ (fun k hk => ?_) (fun k hk => by rw [v_up_ne hk])
        rcases (show k = 0 ∨ k = 1 by omega) with rfl | rfl
        · show _ = (((v + 1) / 5 % 5 : Nat) : Int)
          rw [v_up_ni (by decide)]; omega
        · show _ = (((v + 1) / 1 % 5 : Nat) : Int)
          rw [v_up_eq]; omega
      · refine y_ld (x := .ref 170) rfl rfl (fun d => rfl) ?_
        refine y_gR (i := 24) rfl rfl rfl (md170 hM) rfl ?_
        refine y_ld (x := iv 1) rfl rfl (fun d => rfl) ?_
        refine y_ic rfl rfl ?_
        refine y_ist (q := 1) rfl rfl (md180 hM) (by decide) (by decide) rfl ?_
        refine y_inc (z := 0) (lv' := [(2, iv 0), (0, .ref 170), (1, iv 2)]) rfl rfl rfl rfl rfl ?_
        refine y_go rfl rfl ?_
        refine y_ld (x := iv 0) rfl rfl (fun d => rfl) ?_
        refine y_zlt rfl rfl rfl (by decide) (fun g84 => absurd g84 (by decide)) (fun g84 => ?_)
        refine y_ld (x := .ref 170) rfl rfl (fun d => rfl) ?_
        refine y_gR (i := 24) rfl rfl rfl (md170 hM) rfl ?_
        refine y_ld (x := iv 0) rfl rfl (fun d => rfl) ?_
        refine y_ild (x := (V 180 0)) (q := 0) rfl rfl (md180 hM) (by decide) (by decide) rfl rfl ?_
        refine y_ld (x := .ref 170) rfl rfl (fun d => rfl) ?_
        refine y_gR (i := 1) rfl rfl rfl (md170 hM) rfl ?_
        refine y_ic rfl rfl ?_
        refine y_ild (x := 5) (q := 5) rfl rfl (md171 hM) (by decide) (by decide) rfl (by rw [v_up_ne (by decide)]; exact h5) ?_
        refine y_ic rfl rfl ?_
        refine y_sub (z := 4) rfl rfl rfl ?_
        refine y_jne rfl rfl rfl (by omega) (fun g85 => ?_) (fun g85 => ?_)
        · refine y_ld (x := iv 0) rfl rfl (fun d => rfl) ?_
          refine y_zlt rfl rfl rfl (by decide) (fun g86 => absurd g86 (by decide)) (fun g86 => ?_)
          refine y_ld (x := .ref 170) rfl rfl (fun d => rfl) ?_
          refine y_gR (i := 24) rfl rfl rfl (md170 hM) rfl ?_
          refine y_ld (x := iv 0) rfl rfl (fun d => rfl) ?_
          refine y_in rfl rfl (fun d => rfl) ?_
          refine y_ild (x := (V 180 0)) (q := 0) rfl rfl (md180 hM) (by decide) (by decide) rfl rfl ?_
          refine y_ic rfl rfl ?_
          refine y_add (z := ((V 180 0) + 1)) rfl rfl rfl ?_
          refine y_ist (q := 0) rfl rfl (md180 hM) (by decide) (by decide) rfl ?_
          refine y_ld (x := iv 0) rfl rfl (fun d => rfl) ?_
          refine y_zlt rfl rfl rfl (by decide) (fun g87 => absurd g87 (by decide)) (fun g87 => ?_)
          refine y_ic rfl rfl ?_
          refine y_go rfl rfl ?_
          refine y_rI rfl (by decide) ?_
          refine kn (show v + 1 < 25 by omega) _ (fun k hk => ?_) (fun k hk => by rw [v_up_ne hk, v_up_ne hk])
          rcases (show k = 0 ∨ k = 1 by omega) with rfl | rfl
          · show _ = (((v + 1) / 5 % 5 : Nat) : Int)
            rw [v_up_eq]; omega
          · show _ = (((v + 1) / 1 % 5 : Nat) : Int)
            rw [v_up_ni (by decide), v_up_eq]; omega
        · refine y_ld (x := .ref 170) rfl rfl (fun d => rfl) ?_
          refine y_gR (i := 24) rfl rfl rfl (md170 hM) rfl ?_
          refine y_ld (x := iv 0) rfl rfl (fun d => rfl) ?_
          refine y_ic rfl rfl ?_
          refine y_ist (q := 0) rfl rfl (md180 hM) (by decide) (by decide) rfl ?_
          refine y_inc (z := (-1)) (lv' := [(2, iv (-1)), (0, .ref 170), (1, iv 2)]) rfl rfl rfl rfl rfl ?_
          refine y_go rfl rfl ?_
          refine y_ld (x := iv (-1)) rfl rfl (fun d => rfl) ?_
          refine y_zlt rfl rfl rfl (by decide) (fun g88 => ?_) (fun g88 => absurd g88 (by decide))
          refine y_ld (x := iv (-1)) rfl rfl (fun d => rfl) ?_
          refine y_zlt rfl rfl rfl (by decide) (fun g89 => ?_) (fun g89 => absurd g89 (by decide))
          refine y_ld (x := iv (-1)) rfl rfl (fun d => rfl) ?_
          refine y_zlt rfl rfl rfl (by decide) (fun g90 => ?_) (fun g90 => absurd g90 (by decide))
          refine y_ic rfl rfl ?_
          refine y_rI rfl (by decide) ?_
          exact k0 (show v + 1 = 25 by omega) _ (fun k hk => by rw [v_up_ne hk, v_up_ne hk])
  · rcases (show al = 1 ∨ al = 2 ∨ al = 3 ∨ al = 4 ∨ al = 5 by omega) with rfl | rfl | rfl | rfl | rfl
    · refine y_lv (l' := [(0, .ref 170), (1, iv 3)]) rfl ⟨rfl, rfl, trivial⟩ ?_
      have w0 : V 180 0 = ((v / 1 % 1 : Nat) : Int) := hWd 0 (by decide)
      have w1 : V 180 1 = ((v / 1 % 1 : Nat) : Int) := hWd 1 (by decide)
      have w2 : V 180 2 = ((v / 1 % 1 : Nat) : Int) := hWd 2 (by decide)
      have hv2 : v < 1 := hv
      refine y_ld (x := iv 3) rfl rfl (fun d => rfl) ?_
      refine y_ic rfl rfl ?_
      refine y_sub (z := 2) rfl rfl rfl ?_
      refine y_st (lv' := [(2, iv 2), (0, .ref 170), (1, iv 3)]) rfl rfl (fun d => rfl) ?_
      refine y_ld (x := iv 2) rfl rfl (fun d => rfl) ?_
      refine y_zlt rfl rfl rfl (by decide) (fun g91 => absurd g91 (by decide)) (fun g91 => ?_)
      refine y_ld (x := .ref 170) rfl rfl (fun d => rfl) ?_
      refine y_gR (i := 24) rfl rfl rfl (md170 hM) rfl ?_
      refine y_ld (x := iv 2) rfl rfl (fun d => rfl) ?_
      refine y_ild (x := (V 180 2)) (q := 2) rfl rfl (md180 hM) (by decide) (by decide) rfl rfl ?_
      refine y_ld (x := .ref 170) rfl rfl (fun d => rfl) ?_
      refine y_gR (i := 1) rfl rfl rfl (md170 hM) rfl ?_
      refine y_ic rfl rfl ?_
      refine y_ild (x := 1) (q := 5) rfl rfl (md171 hM) (by decide) (by decide) rfl (by exact h5) ?_
      refine y_ic rfl rfl ?_
      refine y_sub (z := 0) rfl rfl rfl ?_
      refine y_jne rfl rfl rfl (by omega) (fun g92 => ?_) (fun g92 => ?_)
      · refine y_ld (x := iv 2) rfl rfl (fun d => rfl) ?_
        refine y_zlt rfl rfl rfl (by decide) (fun g93 => absurd g93 (by decide)) (fun g93 => ?_)
        refine y_ld (x := .ref 170) rfl rfl (fun d => rfl) ?_
        refine y_gR (i := 24) rfl rfl rfl (md170 hM) rfl ?_
        refine y_ld (x := iv 2) rfl rfl (fun d => rfl) ?_
        refine y_in rfl rfl (fun d => rfl) ?_
        refine y_ild (x := (V 180 2)) (q := 2) rfl rfl (md180 hM) (by decide) (by decide) rfl rfl ?_
        refine y_ic rfl rfl ?_
        refine y_add (z := ((V 180 2) + 1)) rfl rfl rfl ?_
        refine y_ist (q := 2) rfl rfl (md180 hM) (by decide) (by decide) rfl ?_
        refine y_ld (x := iv 2) rfl rfl (fun d => rfl) ?_
        refine y_zlt rfl rfl rfl (by decide) (fun g94 => absurd g94 (by decide)) (fun g94 => ?_)
        refine y_ic rfl rfl ?_
        refine y_go rfl rfl ?_
        refine y_rI rfl (by decide) ?_
        refine kn (show v + 1 < 1 by omega) _ (fun k hk => ?_) (fun k hk => by rw [v_up_ne hk])
        rcases (show k = 0 ∨ k = 1 ∨ k = 2 by omega) with rfl | rfl | rfl
        · show _ = (((v + 1) / 1 % 1 : Nat) : Int)
          rw [v_up_ni (by decide)]; omega
        · show _ = (((v + 1) / 1 % 1 : Nat) : Int)
          rw [v_up_ni (by decide)]; omega
        · show _ = (((v + 1) / 1 % 1 : Nat) : Int)
          rw [v_up_eq]; omega
      · refine y_ld (x := .ref 170) rfl rfl (fun d => rfl) ?_
        refine y_gR (i := 24) rfl rfl rfl (md170 hM) rfl ?_
        refine y_ld (x := iv 2) rfl rfl (fun d => rfl) ?_
        refine y_ic rfl rfl ?_
        refine y_ist (q := 2) rfl rfl (md180 hM) (by decide) (by decide) rfl ?_
        refine y_inc (z := 1) (lv' := [(2, iv 1), (0, .ref 170), (1, iv 3)]) rfl rfl rfl rfl rfl ?_
        refine y_go rfl rfl ?_
        refine y_ld (x := iv 1) rfl rfl (fun d => rfl) ?_
        refine y_zlt rfl rfl rfl (by decide) (fun g95 => absurd g95 (by decide)) (fun g95 => ?_)
        refine y_ld (x := .ref 170) rfl rfl (fun d => rfl) ?_
        refine y_gR (i := 24) rfl rfl rfl (md170 hM) rfl ?_
        refine y_ld (x := iv 1) rfl rfl (fun d => rfl) ?_
        refine y_ild (x := (V 180 1)) (q := 1) rfl rfl (md180 hM) (by decide) (by decide) rfl rfl ?_
        refine y_ld (x := .ref 170) rfl rfl (fun d => rfl) ?_
        refine y_gR (i := 1) rfl rfl rfl (md170 hM) rfl ?_
        refine y_ic rfl rfl ?_
        refine y_ild (x := 1) (q := 5) rfl rfl (md171 hM) (by decide) (by decide) rfl (by rw [v_up_ne (by decide)]; exact h5) ?_
        refine y_ic rfl rfl ?_
        refine y_sub (z := 0) rfl rfl rfl ?_
        refine y_jne rfl rfl rfl (by omega) (fun g96 => ?_) (fun g96 => ?_)
        · refine y_ld (x := iv 1) rfl rfl (fun d => rfl) ?_
          refine y_zlt rfl rfl rfl (by decide) (fun g97 => absurd g97 (by decide)) (fun g97 => ?_)
          refine y_ld (x := .ref 170) rfl rfl (fun d => rfl) ?_
          refine y_gR (i := 24) rfl rfl rfl (md170 hM) rfl ?_
          refine y_ld (x := iv 1) rfl rfl (fun d => rfl) ?_
          refine y_in rfl rfl (fun d => rfl) ?_
          refine y_ild (x := (V 180 1)) (q := 1) rfl rfl (md180 hM) (by decide) (by decide) rfl rfl ?_
          refine y_ic rfl rfl ?_
          refine y_add (z := ((V 180 1) + 1)) rfl rfl rfl ?_
          refine y_ist (q := 1) rfl rfl (md180 hM) (by decide) (by decide) rfl ?_
          refine y_ld (x := iv 1) rfl rfl (fun d => rfl) ?_
          refine y_zlt rfl rfl rfl (by decide) (fun g98 => absurd g98 (by decide)) (fun g98 => ?_)
          refine y_ic rfl rfl ?_
          refine y_go rfl rfl ?_
          refine y_rI rfl (by decide) ?_
          refine kn (show v + 1 < 1 by omega) _ (fun k hk => ?_) (fun k hk => by rw [v_up_ne hk, v_up_ne hk])
          rcases (show k = 0 ∨ k = 1 ∨ k = 2 by omega) with rfl | rfl | rfl
          · show _ = (((v + 1) / 1 % 1 : Nat) : Int)
            rw [v_up_ni (by decide), v_up_ni (by decide)]; omega
          · show _ = (((v + 1) / 1 % 1 : Nat) : Int)
            rw [v_up_eq]; omega
          · show _ = (((v + 1) / 1 % 1 : Nat) : Int)
            rw [v_up_ni (by decide), v_up_eq]; omega
        · refine y_ld (x := .ref 170) rfl rfl (fun d => rfl) ?_
          refine y_gR (i := 24) rfl rfl rfl (md170 hM) rfl ?_
          refine y_ld (x := iv 1) rfl rfl (fun d => rfl) ?_
          refine y_ic rfl rfl ?_
          refine y_ist (q := 1) rfl rfl (md180 hM) (by decide) (by decide) rfl ?_
          refine y_inc (z := 0) (lv' := [(2, iv 0), (0, .ref 170), (1, iv 3)]) rfl rfl rfl rfl rfl ?_
          refine y_go rfl rfl ?_
          refine y_ld (x := iv 0) rfl rfl (fun d => rfl) ?_
          refine y_zlt rfl rfl rfl (by decide) (fun g99 => absurd g99 (by decide)) (fun g99 => ?_)
          refine y_ld (x := .ref 170) rfl rfl (fun d => rfl) ?_
          refine y_gR (i := 24) rfl rfl rfl (md170 hM) rfl ?_
          refine y_ld (x := iv 0) rfl rfl (fun d => rfl) ?_
          refine y_ild (x := (V 180 0)) (q := 0) rfl rfl (md180 hM) (by decide) (by decide) rfl rfl ?_
          refine y_ld (x := .ref 170) rfl rfl (fun d => rfl) ?_
          refine y_gR (i := 1) rfl rfl rfl (md170 hM) rfl ?_
          refine y_ic rfl rfl ?_
          refine y_ild (x := 1) (q := 5) rfl rfl (md171 hM) (by decide) (by decide) rfl (by rw [v_up_ne (by decide), v_up_ne (by decide)]; exact h5) ?_
          refine y_ic rfl rfl ?_
          refine y_sub (z := 0) rfl rfl rfl ?_
          refine y_jne rfl rfl rfl (by omega) (fun g100 => ?_) (fun g100 => ?_)
          · refine y_ld (x := iv 0) rfl rfl (fun d => rfl) ?_
            refine y_zlt rfl rfl rfl (by decide) (fun g101 => absurd g101 (by decide)) (fun g101 => ?_)
            refine y_ld (x := .ref 170) rfl rfl (fun d => rfl) ?_
            refine y_gR (i := 24) rfl rfl rfl (md170 hM) rfl ?_
            refine y_ld (x := iv 0) rfl rfl (fun d => rfl) ?_
            refine y_in rfl rfl (fun d => rfl) ?_
            refine y_ild (x := (V 180 0)) (q := 0) rfl rfl (md180 hM) (by decide) (by decide) rfl rfl ?_
            refine y_ic rfl rfl ?_
            refine y_add (z := ((V 180 0) + 1)) rfl rfl rfl ?_
            refine y_ist (q := 0) rfl rfl (md180 hM) (by decide) (by decide) rfl ?_
            refine y_ld (x := iv 0) rfl rfl (fun d => rfl) ?_
            refine y_zlt rfl rfl rfl (by decide) (fun g102 => absurd g102 (by decide)) (fun g102 => ?_)
            refine y_ic rfl rfl ?_
            refine y_go rfl rfl ?_
            refine y_rI rfl (by decide) ?_
            refine kn (show v + 1 < 1 by omega) _ (fun k hk => ?_) (fun k hk => by rw [v_up_ne hk, v_up_ne hk, v_up_ne hk])
            rcases (show k = 0 ∨ k = 1 ∨ k = 2 by omega) with rfl | rfl | rfl
            · show _ = (((v + 1) / 1 % 1 : Nat) : Int)
              rw [v_up_eq]; omega
            · show _ = (((v + 1) / 1 % 1 : Nat) : Int)
              rw [v_up_ni (by decide), v_up_eq]; omega
            · show _ = (((v + 1) / 1 % 1 : Nat) : Int)
              rw [v_up_ni (by decide), v_up_ni (by decide), v_up_eq]; omega
          · refine y_ld (x := .ref 170) rfl rfl (fun d => rfl) ?_
            refine y_gR (i := 24) rfl rfl rfl (md170 hM) rfl ?_
            refine y_ld (x := iv 0) rfl rfl (fun d => rfl) ?_
            refine y_ic rfl rfl ?_
            refine y_ist (q := 0) rfl rfl (md180 hM) (by decide) (by decide) rfl ?_
            refine y_inc (z := (-1)) (lv' := [(2, iv (-1)), (0, .ref 170), (1, iv 3)]) rfl rfl rfl rfl rfl ?_
            refine y_go rfl rfl ?_
            refine y_ld (x := iv (-1)) rfl rfl (fun d => rfl) ?_
            refine y_zlt rfl rfl rfl (by decide) (fun g103 => ?_) (fun g103 => absurd g103 (by decide))
            refine y_ld (x := iv (-1)) rfl rfl (fun d => rfl) ?_
            refine y_zlt rfl rfl rfl (by decide) (fun g104 => ?_) (fun g104 => absurd g104 (by decide))
            refine y_ld (x := iv (-1)) rfl rfl (fun d => rfl) ?_
            refine y_zlt rfl rfl rfl (by decide) (fun g105 => ?_) (fun g105 => absurd g105 (by decide))
            refine y_ic rfl rfl ?_
            refine y_rI rfl (by decide) ?_
            exact k0 (show v + 1 = 1 by omega) _ (fun k hk => by rw [v_up_ne hk, v_up_ne hk, v_up_ne hk])
    · refine y_lv (l' := [(0, .ref 170), (1, iv 3)]) rfl ⟨rfl, rfl, trivial⟩ ?_
      have w0 : V 180 0 = ((v / 4 % 2 : Nat) : Int) := hWd 0 (by decide)
      have w1 : V 180 1 = ((v / 2 % 2 : Nat) : Int) := hWd 1 (by decide)
      have w2 : V 180 2 = ((v / 1 % 2 : Nat) : Int) := hWd 2 (by decide)
      have hv2 : v < 8 := hv
      refine y_ld (x := iv 3) rfl rfl (fun d => rfl) ?_
      refine y_ic rfl rfl ?_
      refine y_sub (z := 2) rfl rfl rfl ?_
      refine y_st (lv' := [(2, iv 2), (0, .ref 170), (1, iv 3)]) rfl rfl (fun d => rfl) ?_
      refine y_ld (x := iv 2) rfl rfl (fun d => rfl) ?_
      refine y_zlt rfl rfl rfl (by decide) (fun g106 => absurd g106 (by decide)) (fun g106 => ?_)
      refine y_ld (x := .ref 170) rfl rfl (fun d => rfl) ?_
      refine y_gR (i := 24) rfl rfl rfl (md170 hM) rfl ?_
      refine y_ld (x := iv 2) rfl rfl (fun d => rfl) ?_
      refine y_ild (x := (V 180 2)) (q := 2) rfl rfl (md180 hM) (by decide) (by decide) rfl rfl ?_
      refine y_ld (x := .ref 170) rfl rfl (fun d => rfl) ?_
      refine y_gR (i := 1) rfl rfl rfl (md170 hM) rfl ?_
      refine y_ic rfl rfl ?_
      refine y_ild (x := 2) (q := 5) rfl rfl (md171 hM) (by decide) (by decide) rfl (by exact h5) ?_
      refine y_ic rfl rfl ?_
      refine y_sub (z := 1) rfl rfl rfl ?_
      refine y_jne rfl rfl rfl (by omega) (fun g107 => ?_) (fun g107 => ?_)
      · refine y_ld (x := iv 2) rfl rfl (fun d => rfl) ?_
        refine y_zlt rfl rfl rfl (by decide) (fun g108 => absurd g108 (by decide)) (fun g108 => ?_)
        refine y_ld (x := .ref 170) rfl rfl (fun d => rfl) ?_
        refine y_gR (i := 24) rfl rfl rfl (md170 hM) rfl ?_
        refine y_ld (x := iv 2) rfl rfl (fun d => rfl) ?_
        refine y_in rfl rfl (fun d => rfl) ?_
        refine y_ild (x := (V 180 2)) (q := 2) rfl rfl (md180 hM) (by decide) (by decide) rfl rfl ?_
        refine y_ic rfl rfl ?_
        refine y_add (z := ((V 180 2) + 1)) rfl rfl rfl ?_
        refine y_ist (q := 2) rfl rfl (md180 hM) (by decide) (by decide) rfl ?_
        refine y_ld (x := iv 2) rfl rfl (fun d => rfl) ?_
        refine y_zlt rfl rfl rfl (by decide) (fun g109 => absurd g109 (by decide)) (fun g109 => ?_)
        refine y_ic rfl rfl ?_
        refine y_go rfl rfl ?_
        refine y_rI rfl (by decide) ?_
        refine kn (show v + 1 < 8 by omega) _ (fun k hk => ?_) (fun k hk => by rw [v_up_ne hk])
        rcases (show k = 0 ∨ k = 1 ∨ k = 2 by omega) with rfl | rfl | rfl
        · show _ = (((v + 1) / 4 % 2 : Nat) : Int)
          rw [v_up_ni (by decide)]; omega
        · show _ = (((v + 1) / 2 % 2 : Nat) : Int)
          rw [v_up_ni (by decide)]; omega
        · show _ = (((v + 1) / 1 % 2 : Nat) : Int)
          rw [v_up_eq]; omega
      · refine y_ld (x := .ref 170) rfl rfl (fun d => rfl) ?_
        refine y_gR (i := 24) rfl rfl rfl (md170 hM) rfl ?_
        refine y_ld (x := iv 2) rfl rfl (fun d => rfl) ?_
        refine y_ic rfl rfl ?_
        refine y_ist (q := 2) rfl rfl (md180 hM) (by decide) (by decide) rfl ?_
        refine y_inc (z := 1) (lv' := [(2, iv 1), (0, .ref 170), (1, iv 3)]) rfl rfl rfl rfl rfl ?_
        refine y_go rfl rfl ?_
        refine y_ld (x := iv 1) rfl rfl (fun d => rfl) ?_
        refine y_zlt rfl rfl rfl (by decide) (fun g110 => absurd g110 (by decide)) (fun g110 => ?_)
        refine y_ld (x := .ref 170) rfl rfl (fun d => rfl) ?_
        refine y_gR (i := 24) rfl rfl rfl (md170 hM) rfl ?_
        refine y_ld (x := iv 1) rfl rfl (fun d => rfl) ?_
        refine y_ild (x := (V 180 1)) (q := 1) rfl rfl (md180 hM) (by decide) (by decide) rfl rfl ?_
        refine y_ld (x := .ref 170) rfl rfl (fun d => rfl) ?_
        refine y_gR (i := 1) rfl rfl rfl (md170 hM) rfl ?_
        refine y_ic rfl rfl ?_
        refine y_ild (x := 2) (q := 5) rfl rfl (md171 hM) (by decide) (by decide) rfl (by rw [v_up_ne (by decide)]; exact h5) ?_
        refine y_ic rfl rfl ?_
        refine y_sub (z := 1) rfl rfl rfl ?_
        refine y_jne rfl rfl rfl (by omega) (fun g111 => ?_) (fun g111 => ?_)
        · refine y_ld (x := iv 1) rfl rfl (fun d => rfl) ?_
          refine y_zlt rfl rfl rfl (by decide) (fun g112 => absurd g112 (by decide)) (fun g112 => ?_)
          refine y_ld (x := .ref 170) rfl rfl (fun d => rfl) ?_
          refine y_gR (i := 24) rfl rfl rfl (md170 hM) rfl ?_
          refine y_ld (x := iv 1) rfl rfl (fun d => rfl) ?_
          refine y_in rfl rfl (fun d => rfl) ?_
          refine y_ild (x := (V 180 1)) (q := 1) rfl rfl (md180 hM) (by decide) (by decide) rfl rfl ?_
          refine y_ic rfl rfl ?_
          refine y_add (z := ((V 180 1) + 1)) rfl rfl rfl ?_
          refine y_ist (q := 1) rfl rfl (md180 hM) (by decide) (by decide) rfl ?_
          refine y_ld (x := iv 1) rfl rfl (fun d => rfl) ?_
          refine y_zlt rfl rfl rfl (by decide) (fun g113 => absurd g113 (by decide)) (fun g113 => ?_)
          refine y_ic rfl rfl ?_
          refine y_go rfl rfl ?_
          refine y_rI rfl (by decide) ?_
          refine kn (show v + 1 < 8 by omega) _ (fun k hk => ?_) (fun k hk => by rw [v_up_ne hk, v_up_ne hk])
          rcases (show k = 0 ∨ k = 1 ∨ k = 2 by omega) with rfl | rfl | rfl
          · show _ = (((v + 1) / 4 % 2 : Nat) : Int)
            rw [v_up_ni (by decide), v_up_ni (by decide)]; omega
          · show _ = (((v + 1) / 2 % 2 : Nat) : Int)
            rw [v_up_eq]; omega
          · show _ = (((v + 1) / 1 % 2 : Nat) : Int)
            rw [v_up_ni (by decide), v_up_eq]; omega
        · refine y_ld (x := .ref 170) rfl rfl (fun d => rfl) ?_
          refine y_gR (i := 24) rfl rfl rfl (md170 hM) rfl ?_
          refine y_ld (x := iv 1) rfl rfl (fun d => rfl) ?_
          refine y_ic rfl rfl ?_
          refine y_ist (q := 1) rfl rfl (md180 hM) (by decide) (by decide) rfl ?_
          refine y_inc (z := 0) (lv' := [(2, iv 0), (0, .ref 170), (1, iv 3)]) rfl rfl rfl rfl rfl ?_
          refine y_go rfl rfl ?_
          refine y_ld (x := iv 0) rfl rfl (fun d => rfl) ?_
          refine y_zlt rfl rfl rfl (by decide) (fun g114 => absurd g114 (by decide)) (fun g114 => ?_)
          refine y_ld (x := .ref 170) rfl rfl (fun d => rfl) ?_
          refine y_gR (i := 24) rfl rfl rfl (md170 hM) rfl ?_
          refine y_ld (x := iv 0) rfl rfl (fun d => rfl) ?_
          refine y_ild (x := (V 180 0)) (q := 0) rfl rfl (md180 hM) (by decide) (by decide) rfl rfl ?_
          refine y_ld (x := .ref 170) rfl rfl (fun d => rfl) ?_
          refine y_gR (i := 1) rfl rfl rfl (md170 hM) rfl ?_
          refine y_ic rfl rfl ?_
          refine y_ild (x := 2) (q := 5) rfl rfl (md171 hM) (by decide) (by decide) rfl (by rw [v_up_ne (by decide), v_up_ne (by decide)]; exact h5) ?_
          refine y_ic rfl rfl ?_
          refine y_sub (z := 1) rfl rfl rfl ?_
          refine y_jne rfl rfl rfl (by omega) (fun g115 => ?_) (fun g115 => ?_)
          · refine y_ld (x := iv 0) rfl rfl (fun d => rfl) ?_
            refine y_zlt rfl rfl rfl (by decide) (fun g116 => absurd g116 (by decide)) (fun g116 => ?_)
            refine y_ld (x := .ref 170) rfl rfl (fun d => rfl) ?_
            refine y_gR (i := 24) rfl rfl rfl (md170 hM) rfl ?_
            refine y_ld (x := iv 0) rfl rfl (fun d => rfl) ?_
            refine y_in rfl rfl (fun d => rfl) ?_
            refine y_ild (x := (V 180 0)) (q := 0) rfl rfl (md180 hM) (by decide) (by decide) rfl rfl ?_
            refine y_ic rfl rfl ?_
            refine y_add (z := ((V 180 0) + 1)) rfl rfl rfl ?_
            refine y_ist (q := 0) rfl rfl (md180 hM) (by decide) (by decide) rfl ?_
            refine y_ld (x := iv 0) rfl rfl (fun d => rfl) ?_
            refine y_zlt rfl rfl rfl (by decide) (fun g117 => absurd g117 (by decide)) (fun g117 => ?_)
            refine y_ic rfl rfl ?_
            refine y_go rfl rfl ?_
            refine y_rI rfl (by decide) ?_
            refine kn (show v + 1 < 8 by omega) _ (fun k hk => ?_) (fun k hk => by rw [v_up_ne hk, v_up_ne hk, v_up_ne hk])
            rcases (show k = 0 ∨ k = 1 ∨ k = 2 by omega) with rfl | rfl | rfl
            · show _ = (((v + 1) / 4 % 2 : Nat) : Int)
              rw [v_up_eq]; omega
            · show _ = (((v + 1) / 2 % 2 : Nat) : Int)
              rw [v_up_ni (by decide), v_up_eq]; omega
            · show _ = (((v + 1) / 1 % 2 : Nat) : Int)
              rw [v_up_ni (by decide), v_up_ni (by decide), v_up_eq]; omega
          · refine y_ld (x := .ref 170) rfl rfl (fun d => rfl) ?_
            refine y_gR (i := 24) rfl rfl rfl (md170 hM) rfl ?_
            refine y_ld (x := iv 0) rfl rfl (fun d => rfl) ?_
            refine y_ic rfl rfl ?_
            refine y_ist (q := 0) rfl rfl (md180 hM) (by decide) (by decide) rfl ?_
            refine y_inc (z := (-1)) (lv' := [(2, iv (-1)), (0, .ref 170), (1, iv 3)]) rfl rfl rfl rfl rfl ?_
            refine y_go rfl rfl ?_
            refine y_ld (x := iv (-1)) rfl rfl (fun d => rfl) ?_
            refine y_zlt rfl rfl rfl (by decide) (fun g118 => ?_) (fun g118 => absurd g118 (by decide))
            refine y_ld (x := iv (-1)) rfl rfl (fun d => rfl) ?_
            refine y_zlt rfl rfl rfl (by decide) (fun g119 => ?_) (fun g119 => absurd g119 (by decide))
            refine y_ld (x := iv (-1)) rfl rfl (fun d => rfl) ?_
            refine y_zlt rfl rfl rfl (by decide) (fun g120 => ?_) (fun g120 => absurd g120 (by decide))
            refine y_ic rfl rfl ?_
            refine y_rI rfl (by decide) ?_
            exact k0 (show v + 1 = 8 by omega) _ (fun k hk => by rw [v_up_ne hk, v_up_ne hk, v_up_ne hk])
    · refine y_lv (l' := [(0, .ref 170), (1, iv 3)]) rfl ⟨rfl, rfl, trivial⟩ ?_
      have w0 : V 180 0 = ((v / 9 % 3 : Nat) : Int) := hWd 0 (by decide)
      have w1 : V 180 1 = ((v / 3 % 3 : Nat) : Int) := hWd 1 (by decide)
      have w2 : V 180 2 = ((v / 1 % 3 : Nat) : Int) := hWd 2 (by decide)
      have hv2 : v < 27 := hv
      refine y_ld (x := iv 3) rfl rfl (fun d => rfl) ?_
      refine y_ic rfl rfl ?_
      refine y_sub (z := 2) rfl rfl rfl ?_
      refine y_st (lv' := [(2, iv 2), (0, .ref 170), (1, iv 3)]) rfl rfl (fun d => rfl) ?_
      refine y_ld (x := iv 2) rfl rfl (fun d => rfl) ?_
      refine y_zlt rfl rfl rfl (by decide) (fun g121 => absurd g121 (by decide)) (fun g121 => ?_)
      refine y_ld (x := .ref 170) rfl rfl (fun d => rfl) ?_
      refine y_gR (i := 24) rfl rfl rfl (md170 hM) rfl ?_
      refine y_ld (x := iv 2) rfl rfl (fun d => rfl) ?_
      refine y_ild (x := (V 180 2)) (q := 2) rfl rfl (md180 hM) (by decide) (by decide) rfl rfl ?_
      refine y_ld (x := .ref 170) rfl rfl (fun d => rfl) ?_
      refine y_gR (i := 1) rfl rfl rfl (md170 hM) rfl ?_
      refine y_ic rfl rfl ?_
      refine y_ild (x := 3) (q := 5) rfl rfl (md171 hM) (by decide) (by decide) rfl (by exact h5) ?_
      refine y_ic rfl rfl ?_
      refine y_sub (z := 2) rfl rfl rfl ?_
      refine y_jne rfl rfl rfl (by omega) (fun g122 => ?_) (fun g122 => ?_)
      · refine y_ld (x := iv 2) rfl rfl (fun d => rfl) ?_
        refine y_zlt rfl rfl rfl (by decide) (fun g123 => absurd g123 (by decide)) (fun g123 => ?_)
        refine y_ld (x := .ref 170) rfl rfl (fun d => rfl) ?_
        refine y_gR (i := 24) rfl rfl rfl (md170 hM) rfl ?_
        refine y_ld (x := iv 2) rfl rfl (fun d => rfl) ?_
        refine y_in rfl rfl (fun d => rfl) ?_
        refine y_ild (x := (V 180 2)) (q := 2) rfl rfl (md180 hM) (by decide) (by decide) rfl rfl ?_
        refine y_ic rfl rfl ?_
        refine y_add (z := ((V 180 2) + 1)) rfl rfl rfl ?_
        refine y_ist (q := 2) rfl rfl (md180 hM) (by decide) (by decide) rfl ?_
        refine y_ld (x := iv 2) rfl rfl (fun d => rfl) ?_
        refine y_zlt rfl rfl rfl (by decide) (fun g124 => absurd g124 (by decide)) (fun g124 => ?_)
        refine y_ic rfl rfl ?_
        refine y_go rfl rfl ?_
        refine y_rI rfl (by decide) ?_
        refine kn (show v + 1 < 27 by omega) _ (fun k hk => ?_) (fun k hk => by rw [v_up_ne hk])
        rcases (show k = 0 ∨ k = 1 ∨ k = 2 by omega) with rfl | rfl | rfl
        · show _ = (((v + 1) / 9 % 3 : Nat) : Int)
          rw [v_up_ni (by decide)]; omega
        · show _ = (((v + 1) / 3 % 3 : Nat) : Int)
          rw [v_up_ni (by decide)]; omega
        · show _ = (((v + 1) / 1 % 3 : Nat) : Int)
          rw [v_up_eq]; omega
      · refine y_ld (x := .ref 170) rfl rfl (fun d => rfl) ?_
        refine y_gR (i := 24) rfl rfl rfl (md170 hM) rfl ?_
        refine y_ld (x := iv 2) rfl rfl (fun d => rfl) ?_
        refine y_ic rfl rfl ?_
        refine y_ist (q := 2) rfl rfl (md180 hM) (by decide) (by decide) rfl ?_
        refine y_inc (z := 1) (lv' := [(2, iv 1), (0, .ref 170), (1, iv 3)]) rfl rfl rfl rfl rfl ?_
        refine y_go rfl rfl ?_
        refine y_ld (x := iv 1) rfl rfl (fun d => rfl) ?_
        refine y_zlt rfl rfl rfl (by decide) (fun g125 => absurd g125 (by decide)) (fun g125 => ?_)
        refine y_ld (x := .ref 170) rfl rfl (fun d => rfl) ?_
        refine y_gR (i := 24) rfl rfl rfl (md170 hM) rfl ?_
        refine y_ld (x := iv 1) rfl rfl (fun d => rfl) ?_
        refine y_ild (x := (V 180 1)) (q := 1) rfl rfl (md180 hM) (by decide) (by decide) rfl rfl ?_
        refine y_ld (x := .ref 170) rfl rfl (fun d => rfl) ?_
        refine y_gR (i := 1) rfl rfl rfl (md170 hM) rfl ?_
        refine y_ic rfl rfl ?_
        refine y_ild (x := 3) (q := 5) rfl rfl (md171 hM) (by decide) (by decide) rfl (by rw [v_up_ne (by decide)]; exact h5) ?_
        refine y_ic rfl rfl ?_
        refine y_sub (z := 2) rfl rfl rfl ?_
        refine y_jne rfl rfl rfl (by omega) (fun g126 => ?_) (fun g126 => ?_)
        · refine y_ld (x := iv 1) rfl rfl (fun d => rfl) ?_
          refine y_zlt rfl rfl rfl (by decide) (fun g127 => absurd g127 (by decide)) (fun g127 => ?_)
          refine y_ld (x := .ref 170) rfl rfl (fun d => rfl) ?_
          refine y_gR (i := 24) rfl rfl rfl (md170 hM) rfl ?_
          refine y_ld (x := iv 1) rfl rfl (fun d => rfl) ?_
          refine y_in rfl rfl (fun d => rfl) ?_
          refine y_ild (x := (V 180 1)) (q := 1) rfl rfl (md180 hM) (by decide) (by decide) rfl rfl ?_
          refine y_ic rfl rfl ?_
          refine y_add (z := ((V 180 1) + 1)) rfl rfl rfl ?_
          refine y_ist (q := 1) rfl rfl (md180 hM) (by decide) (by decide) rfl ?_
          refine y_ld (x := iv 1) rfl rfl (fun d => rfl) ?_
          refine y_zlt rfl rfl rfl (by decide) (fun g128 => absurd g128 (by decide)) (fun g128 => ?_)
          refine y_ic rfl rfl ?_
          refine y_go rfl rfl ?_
          refine y_rI rfl (by decide) ?_
          refine kn (show v + 1 < 27 by omega) _ (fun k hk => ?_) (fun k hk => by rw [v_up_ne hk, v_up_ne hk])
          rcases (show k = 0 ∨ k = 1 ∨ k = 2 by omega) with rfl | rfl | rfl
          · show _ = (((v + 1) / 9 % 3 : Nat) : Int)
            rw [v_up_ni (by decide), v_up_ni (by decide)]; omega
          · show _ = (((v + 1) / 3 % 3 : Nat) : Int)
            rw [v_up_eq]; omega
          · show _ = (((v + 1) / 1 % 3 : Nat) : Int)
            rw [v_up_ni (by decide), v_up_eq]; omega
        · refine y_ld (x := .ref 170) rfl rfl (fun d => rfl) ?_
          refine y_gR (i := 24) rfl rfl rfl (md170 hM) rfl ?_
          refine y_ld (x := iv 1) rfl rfl (fun d => rfl) ?_
          refine y_ic rfl rfl ?_
          refine y_ist (q := 1) rfl rfl (md180 hM) (by decide) (by decide) rfl ?_
          refine y_inc (z := 0) (lv' := [(2, iv 0), (0, .ref 170), (1, iv 3)]) rfl rfl rfl rfl rfl ?_
          refine y_go rfl rfl ?_
          refine y_ld (x := iv 0) rfl rfl (fun d => rfl) ?_
          refine y_zlt rfl rfl rfl (by decide) (fun g129 => absurd g129 (by decide)) (fun g129 => ?_)
          refine y_ld (x := .ref 170) rfl rfl (fun d => rfl) ?_
          refine y_gR (i := 24) rfl rfl rfl (md170 hM) rfl ?_
          refine y_ld (x := iv 0) rfl rfl (fun d => rfl) ?_
          refine y_ild (x := (V 180 0)) (q := 0) rfl rfl (md180 hM) (by decide) (by decide) rfl rfl ?_
          refine y_ld (x := .ref 170) rfl rfl (fun d => rfl) ?_
          refine y_gR (i := 1) rfl rfl rfl (md170 hM) rfl ?_
          refine y_ic rfl rfl ?_
          refine y_ild (x := 3) (q := 5) rfl rfl (md171 hM) (by decide) (by decide) rfl (by rw [v_up_ne (by decide), v_up_ne (by decide)]; exact h5) ?_
          refine y_ic rfl rfl ?_
          refine y_sub (z := 2) rfl rfl rfl ?_
          refine y_jne rfl rfl rfl (by omega) (fun g130 => ?_) (fun g130 => ?_)
          · refine y_ld (x := iv 0) rfl rfl (fun d => rfl) ?_
            refine y_zlt rfl rfl rfl (by decide) (fun g131 => absurd g131 (by decide)) (fun g131 => ?_)
            refine y_ld (x := .ref 170) rfl rfl (fun d => rfl) ?_
            refine y_gR (i := 24) rfl rfl rfl (md170 hM) rfl ?_
            refine y_ld (x := iv 0) rfl rfl (fun d => rfl) ?_
            refine y_in rfl rfl (fun d => rfl) ?_
            refine y_ild (x := (V 180 0)) (q := 0) rfl rfl (md180 hM) (by decide) (by decide) rfl rfl ?_
            refine y_ic rfl rfl ?_
            refine y_add (z := ((V 180 0) + 1)) rfl rfl rfl ?_
            refine y_ist (q := 0) rfl rfl (md180 hM) (by decide) (by decide) rfl ?_
            refine y_ld (x := iv 0) rfl rfl (fun d => rfl) ?_
            refine y_zlt rfl rfl rfl (by decide) (fun g132 => absurd g132 (by decide)) (fun g132 => ?_)
            refine y_ic rfl rfl ?_
            refine y_go rfl rfl ?_
            refine y_rI rfl (by decide) ?_
            refine kn (show v + 1 < 27 by omega) _ (fun k hk => ?_) (fun k hk => by rw [v_up_ne hk, v_up_ne hk, v_up_ne hk])
            rcases (show k = 0 ∨ k = 1 ∨ k = 2 by omega) with rfl | rfl | rfl
            · show _ = (((v + 1) / 9 % 3 : Nat) : Int)
              rw [v_up_eq]; omega
            · show _ = (((v + 1) / 3 % 3 : Nat) : Int)
              rw [v_up_ni (by decide), v_up_eq]; omega
            · show _ = (((v + 1) / 1 % 3 : Nat) : Int)
              rw [v_up_ni (by decide), v_up_ni (by decide), v_up_eq]; omega
          · refine y_ld (x := .ref 170) rfl rfl (fun d => rfl) ?_
            refine y_gR (i := 24) rfl rfl rfl (md170 hM) rfl ?_
            refine y_ld (x := iv 0) rfl rfl (fun d => rfl) ?_
            refine y_ic rfl rfl ?_
            refine y_ist (q := 0) rfl rfl (md180 hM) (by decide) (by decide) rfl ?_
            refine y_inc (z := (-1)) (lv' := [(2, iv (-1)), (0, .ref 170), (1, iv 3)]) rfl rfl rfl rfl rfl ?_
            refine y_go rfl rfl ?_
            refine y_ld (x := iv (-1)) rfl rfl (fun d => rfl) ?_
            refine y_zlt rfl rfl rfl (by decide) (fun g133 => ?_) (fun g133 => absurd g133 (by decide))
            refine y_ld (x := iv (-1)) rfl rfl (fun d => rfl) ?_
            refine y_zlt rfl rfl rfl (by decide) (fun g134 => ?_) (fun g134 => absurd g134 (by decide))
            refine y_ld (x := iv (-1)) rfl rfl (fun d => rfl) ?_
            refine y_zlt rfl rfl rfl (by decide) (fun g135 => ?_) (fun g135 => absurd g135 (by decide))
            refine y_ic rfl rfl ?_
            refine y_rI rfl (by decide) ?_
            exact k0 (show v + 1 = 27 by omega) _ (fun k hk => by rw [v_up_ne hk, v_up_ne hk, v_up_ne hk])
    · refine y_lv (l' := [(0, .ref 170), (1, iv 3)]) rfl ⟨rfl, rfl, trivial⟩ ?_
      have w0 : V 180 0 = ((v / 16 % 4 : Nat) : Int) := hWd 0 (by decide)
      have w1 : V 180 1 = ((v / 4 % 4 : Nat) : Int) := hWd 1 (by decide)
      have w2 : V 180 2 = ((v / 1 % 4 : Nat) : Int) := hWd 2 (by decide)
      have hv2 : v < 64 := hv
      refine y_ld (x := iv 3) rfl rfl (fun d => rfl) ?_
      refine y_ic rfl rfl ?_
      refine y_sub (z := 2) rfl rfl rfl ?_
      refine y_st (lv' := [(2, iv 2), (0, .ref 170), (1, iv 3)]) rfl rfl (fun d => rfl) ?_
      refine y_ld (x := iv 2) rfl rfl (fun d => rfl) ?_
      refine y_zlt rfl rfl rfl (by decide) (fun g136 => absurd g136 (by decide)) (fun g136 => ?_)
      refine y_ld (x := .ref 170) rfl rfl (fun d => rfl) ?_
      refine y_gR (i := 24) rfl rfl rfl (md170 hM) rfl ?_
      refine y_ld (x := iv 2) rfl rfl (fun d => rfl) ?_
      refine y_ild (x := (V 180 2)) (q := 2) rfl rfl (md180 hM) (by decide) (by decide) rfl rfl ?_
      refine y_ld (x := .ref 170) rfl rfl (fun d => rfl) ?_
      refine y_gR (i := 1) rfl rfl rfl (md170 hM) rfl ?_
      refine y_ic rfl rfl ?_
      refine y_ild (x := 4) (q := 5) rfl rfl (md171 hM) (by decide) (by decide) rfl (by exact h5) ?_
      refine y_ic rfl rfl ?_
      refine y_sub (z := 3) rfl rfl rfl ?_
      refine y_jne rfl rfl rfl (by omega) (fun g137 => ?_) (fun g137 => ?_)
      · refine y_ld (x := iv 2) rfl rfl (fun d => rfl) ?_
        refine y_zlt rfl rfl rfl (by decide) (fun g138 => absurd g138 (by decide)) (fun g138 => ?_)
        refine y_ld (x := .ref 170) rfl rfl (fun d => rfl) ?_
        refine y_gR (i := 24) rfl rfl rfl (md170 hM) rfl ?_
        refine y_ld (x := iv 2) rfl rfl (fun d => rfl) ?_
        refine y_in rfl rfl (fun d => rfl) ?_
        refine y_ild (x := (V 180 2)) (q := 2) rfl rfl (md180 hM) (by decide) (by decide) rfl rfl ?_
        refine y_ic rfl rfl ?_
        refine y_add (z := ((V 180 2) + 1)) rfl rfl rfl ?_
        refine y_ist (q := 2) rfl rfl (md180 hM) (by decide) (by decide) rfl ?_
        refine y_ld (x := iv 2) rfl rfl (fun d => rfl) ?_
        refine y_zlt rfl rfl rfl (by decide) (fun g139 => absurd g139 (by decide)) (fun g139 => ?_)
        refine y_ic rfl rfl ?_
        refine y_go rfl rfl ?_
        refine y_rI rfl (by decide) ?_
        refine kn (show v + 1 < 64 by omega) _ (fun k hk => ?_) (fun k hk => by rw [v_up_ne hk])
        rcases (show k = 0 ∨ k = 1 ∨ k = 2 by omega) with rfl | rfl | rfl
        · show _ = (((v + 1) / 16 % 4 : Nat) : Int)
          rw [v_up_ni (by decide)]; omega
        · show _ = (((v + 1) / 4 % 4 : Nat) : Int)
          rw [v_up_ni (by decide)]; omega
        · show _ = (((v + 1) / 1 % 4 : Nat) : Int)
          rw [v_up_eq]; omega
      · refine y_ld (x := .ref 170) rfl rfl (fun d => rfl) ?_
        refine y_gR (i := 24) rfl rfl rfl (md170 hM) rfl ?_
        refine y_ld (x := iv 2) rfl rfl (fun d => rfl) ?_
        refine y_ic rfl rfl ?_
        refine y_ist (q := 2) rfl rfl (md180 hM) (by decide) (by decide) rfl ?_
        refine y_inc (z := 1) (lv' := [(2, iv 1), (0, .ref 170), (1, iv 3)]) rfl rfl rfl rfl rfl ?_
        refine y_go rfl rfl ?_
        refine y_ld (x := iv 1) rfl rfl (fun d => rfl) ?_
        refine y_zlt rfl rfl rfl (by decide) (fun g140 => absurd g140 (by decide)) (fun g140 => ?_)
        refine y_ld (x := .ref 170) rfl rfl (fun d => rfl) ?_
        refine y_gR (i := 24) rfl rfl rfl (md170 hM) rfl ?_
        refine y_ld (x := iv 1) rfl rfl (fun d => rfl) ?_
        refine y_ild (x := (V 180 1)) (q := 1) rfl rfl (md180 hM) (by decide) (by decide) rfl rfl ?_
        refine y_ld (x := .ref 170) rfl rfl (fun d => rfl) ?_
        refine y_gR (i := 1) rfl rfl rfl (md170 hM) rfl ?_
        refine y_ic rfl rfl ?_
        refine y_ild (x := 4) (q := 5) rfl rfl (md171 hM) (by decide) (by decide) rfl (by rw [v_up_ne (by decide)]; exact h5) ?_
        refine y_ic rfl rfl ?_
        refine y_sub (z := 3) rfl rfl rfl ?_
        refine y_jne rfl rfl rfl (by omega) (fun g141 => ?_) (fun g141 => ?_)
        · refine y_ld (x := iv 1) rfl rfl (fun d => rfl) ?_
          refine y_zlt rfl rfl rfl (by decide) (fun g142 => absurd g142 (by decide)) (fun g142 => ?_)
          refine y_ld (x := .ref 170) rfl rfl (fun d => rfl) ?_
          refine y_gR (i := 24) rfl rfl rfl (md170 hM) rfl ?_
          refine y_ld (x := iv 1) rfl rfl (fun d => rfl) ?_
          refine y_in rfl rfl (fun d => rfl) ?_
          refine y_ild (x := (V 180 1)) (q := 1) rfl rfl (md180 hM) (by decide) (by decide) rfl rfl ?_
          refine y_ic rfl rfl ?_
          refine y_add (z := ((V 180 1) + 1)) rfl rfl rfl ?_
          refine y_ist (q := 1) rfl rfl (md180 hM) (by decide) (by decide) rfl ?_
          refine y_ld (x := iv 1) rfl rfl (fun d => rfl) ?_
          refine y_zlt rfl rfl rfl (by decide) (fun g143 => absurd g143 (by decide)) (fun g143 => ?_)
          refine y_ic rfl rfl ?_
          refine y_go rfl rfl ?_
          refine y_rI rfl (by decide) ?_
          refine kn (show v + 1 < 64 by omega) _ (fun k hk => ?_) (fun k hk => by rw [v_up_ne hk, v_up_ne hk])
          rcases (show k = 0 ∨ k = 1 ∨ k = 2 by omega) with rfl | rfl | rfl
          · show _ = (((v + 1) / 16 % 4 : Nat) : Int)
            rw [v_up_ni (by decide), v_up_ni (by decide)]; omega
          · show _ = (((v + 1) / 4 % 4 : Nat) : Int)
            rw [v_up_eq]; omega
          · show _ = (((v + 1) / 1 % 4 : Nat) : Int)
            rw [v_up_ni (by decide), v_up_eq]; omega
        · refine y_ld (x := .ref 170) rfl rfl (fun d => rfl) ?_
          refine y_gR (i := 24) rfl rfl rfl (md170 hM) rfl ?_
          refine y_ld (x := iv 1) rfl rfl (fun d => rfl) ?_
          refine y_ic rfl rfl ?_
          refine y_ist (q := 1) rfl rfl (md180 hM) (by decide) (by decide) rfl ?_
          refine y_inc (z := 0) (lv' := [(2, iv 0), (0, .ref 170), (1, iv 3)]) rfl rfl rfl rfl rfl ?_
          refine y_go rfl rfl ?_
          refine y_ld (x := iv 0) rfl rfl (fun d => rfl) ?_
          refine y_zlt rfl rfl rfl (by decide) (fun g144 => absurd g144 (by decide)) (fun g144 => ?_)
          refine y_ld (x := .ref 170) rfl rfl (fun d => rfl) ?_
          refine y_gR (i := 24) rfl rfl rfl (md170 hM) rfl ?_
          refine y_ld (x := iv 0) rfl rfl (fun d => rfl) ?_
          refine y_ild (x := (V 180 0)) (q := 0) rfl rfl (md180 hM) (by decide) (by decide) rfl rfl ?_
          refine y_ld (x := .ref 170) rfl rfl (fun d => rfl) ?_
          refine y_gR (i := 1) rfl rfl rfl (md170 hM) rfl ?_
          refine y_ic rfl rfl ?_
          refine y_ild (x := 4) (q := 5) rfl rfl (md171 hM) (by decide) (by decide) rfl (by rw [v_up_ne (by decide), v_up_ne (by decide)]; exact h5) ?_
          refine y_ic rfl rfl ?_
          refine y_sub (z := 3) rfl rfl rfl ?_
          refine y_jne rfl rfl rfl (by omega) (fun g145 => ?_) (fun g145 => ?_)
          · refine y_ld (x := iv 0) rfl rfl (fun d => rfl) ?_
            refine y_zlt rfl rfl rfl (by decide) (fun g146 => absurd g146 (by decide)) (fun g146 => ?_)
            refine y_ld (x := .ref 170) rfl rfl (fun d => rfl) ?_
            refine y_gR (i := 24) rfl rfl rfl (md170 hM) rfl ?_
            refine y_ld (x := iv 0) rfl rfl (fun d => rfl) ?_
            refine y_in rfl rfl (fun d => rfl) ?_
            refine y_ild (x := (V 180 0)) (q := 0) rfl rfl (md180 hM) (by decide) (by decide) rfl rfl ?_
            refine y_ic rfl rfl ?_
            refine y_add (z := ((V 180 0) + 1)) rfl rfl rfl ?_
            refine y_ist (q := 0) rfl rfl (md180 hM) (by decide) (by decide) rfl ?_
            refine y_ld (x := iv 0) rfl rfl (fun d => rfl) ?_
            refine y_zlt rfl rfl rfl (by decide) (fun g147 => absurd g147 (by decide)) (fun g147 => ?_)
            refine y_ic rfl rfl ?_
            refine y_go rfl rfl ?_
            refine y_rI rfl (by decide) ?_
            refine kn (show v + 1 < 64 by omega) _ (fun k hk => ?_) (fun k hk => by rw [v_up_ne hk, v_up_ne hk, v_up_ne hk])
            rcases (show k = 0 ∨ k = 1 ∨ k = 2 by omega) with rfl | rfl | rfl
            · show _ = (((v + 1) / 16 % 4 : Nat) : Int)
              rw [v_up_eq]; omega
            · show _ = (((v + 1) / 4 % 4 : Nat) : Int)
              rw [v_up_ni (by decide), v_up_eq]; omega
            · show _ = (((v + 1) / 1 % 4 : Nat) : Int)
              rw [v_up_ni (by decide), v_up_ni (by decide), v_up_eq]; omega
          · refine y_ld (x := .ref 170) rfl rfl (fun d => rfl) ?_
            refine y_gR (i := 24) rfl rfl rfl (md170 hM) rfl ?_
            refine y_ld (x := iv 0) rfl rfl (fun d => rfl) ?_
            refine y_ic rfl rfl ?_
            refine y_ist (q := 0) rfl rfl (md180 hM) (by decide) (by decide) rfl ?_
            refine y_inc (z := (-1)) (lv' := [(2, iv (-1)), (0, .ref 170), (1, iv 3)]) rfl rfl rfl rfl rfl ?_
            refine y_go rfl rfl ?_
            refine y_ld (x := iv (-1)) rfl rfl (fun d => rfl) ?_
            refine y_zlt rfl rfl rfl (by decide) (fun g148 => ?_) (fun g148 => absurd g148 (by decide))
            refine y_ld (x := iv (-1)) rfl rfl (fun d => rfl) ?_
            refine y_zlt rfl rfl rfl (by decide) (fun g149 => ?_) (fun g149 => absurd g149 (by decide))
            refine y_ld (x := iv (-1)) rfl rfl (fun d => rfl) ?_
            refine y_zlt rfl rfl rfl (by decide) (fun g150 => ?_) (fun g150 => absurd g150 (by decide))
            refine y_ic rfl rfl ?_
            refine y_rI rfl (by decide) ?_
            exact k0 (show v + 1 = 64 by omega) _ (fun k hk => by rw [v_up_ne hk, v_up_ne hk, v_up_ne hk])
    · refine y_lv (l' := [(0, .ref 170), (1, iv 3)]) rfl ⟨rfl, rfl, trivial⟩ ?_
      have w0 : V 180 0 = ((v / 25 % 5 : Nat) : Int) := hWd 0 (by decide)
      have w1 : V 180 1 = ((v / 5 % 5 : Nat) : Int) := hWd 1 (by decide)
      have w2 : V 180 2 = ((v / 1 % 5 : Nat) : Int) := hWd 2 (by decide)
      have hv2 : v < 125 := hv
      refine y_ld (x := iv 3) rfl rfl (fun d => rfl) ?_
      refine y_ic rfl rfl ?_
      refine y_sub (z := 2) rfl rfl rfl ?_
      refine y_st (lv' := [(2, iv 2), (0, .ref 170), (1, iv 3)]) rfl rfl (fun d => rfl) ?_
      refine y_ld (x := iv 2) rfl rfl (fun d => rfl) ?_
      refine y_zlt rfl rfl rfl (by decide) (fun g151 => absurd g151 (by decide)) (fun g151 => ?_)
      refine y_ld (x := .ref 170) rfl rfl (fun d => rfl) ?_
      refine y_gR (i := 24) rfl rfl rfl (md170 hM) rfl ?_
      refine y_ld (x := iv 2) rfl rfl (fun d => rfl) ?_
      refine y_ild (x := (V 180 2)) (q := 2) rfl rfl (md180 hM) (by decide) (by decide) rfl rfl ?_
      refine y_ld (x := .ref 170) rfl rfl (fun d => rfl) ?_
      refine y_gR (i := 1) rfl rfl rfl (md170 hM) rfl ?_
      refine y_ic rfl rfl ?_
      refine y_ild (x := 5) (q := 5) rfl rfl (md171 hM) (by decide) (by decide) rfl (by exact h5) ?_
      refine y_ic rfl rfl ?_
      refine y_sub (z := 4) rfl rfl rfl ?_
      refine y_jne rfl rfl rfl (by omega) (fun g152 => ?_) (fun g152 => ?_)
      · refine y_ld (x := iv 2) rfl rfl (fun d => rfl) ?_
        refine y_zlt rfl rfl rfl (by decide) (fun g153 => absurd g153 (by decide)) (fun g153 => ?_)
        refine y_ld (x := .ref 170) rfl rfl (fun d => rfl) ?_
        refine y_gR (i := 24) rfl rfl rfl (md170 hM) rfl ?_
        refine y_ld (x := iv 2) rfl rfl (fun d => rfl) ?_
        refine y_in rfl rfl (fun d => rfl) ?_
        refine y_ild (x := (V 180 2)) (q := 2) rfl rfl (md180 hM) (by decide) (by decide) rfl rfl ?_
        refine y_ic rfl rfl ?_
        refine y_add (z := ((V 180 2) + 1)) rfl rfl rfl ?_
        refine y_ist (q := 2) rfl rfl (md180 hM) (by decide) (by decide) rfl ?_
        refine y_ld (x := iv 2) rfl rfl (fun d => rfl) ?_
        refine y_zlt rfl rfl rfl (by decide) (fun g154 => absurd g154 (by decide)) (fun g154 => ?_)
        refine y_ic rfl rfl ?_
        refine y_go rfl rfl ?_
        refine y_rI rfl (by decide) ?_
        refine kn (show v + 1 < 125 by omega) _ (fun k hk => ?_) (fun k hk => by rw [v_up_ne hk])
        rcases (show k = 0 ∨ k = 1 ∨ k = 2 by omega) with rfl | rfl | rfl
        · show _ = (((v + 1) / 25 % 5 : Nat) : Int)
          rw [v_up_ni (by decide)]; omega
        · show _ = (((v + 1) / 5 % 5 : Nat) : Int)
          rw [v_up_ni (by decide)]; omega
        · show _ = (((v + 1) / 1 % 5 : Nat) : Int)
          rw [v_up_eq]; omega
      · refine y_ld (x := .ref 170) rfl rfl (fun d => rfl) ?_
        refine y_gR (i := 24) rfl rfl rfl (md170 hM) rfl ?_
        refine y_ld (x := iv 2) rfl rfl (fun d => rfl) ?_
        refine y_ic rfl rfl ?_
        refine y_ist (q := 2) rfl rfl (md180 hM) (by decide) (by decide) rfl ?_
        refine y_inc (z := 1) (lv' := [(2, iv 1), (0, .ref 170), (1, iv 3)]) rfl rfl rfl rfl rfl ?_
        refine y_go rfl rfl ?_
        refine y_ld (x := iv 1) rfl rfl (fun d => rfl) ?_
        refine y_zlt rfl rfl rfl (by decide) (fun g155 => absurd g155 (by decide)) (fun g155 => ?_)
        refine y_ld (x := .ref 170) rfl rfl (fun d => rfl) ?_
        refine y_gR (i := 24) rfl rfl rfl (md170 hM) rfl ?_
        refine y_ld (x := iv 1) rfl rfl (fun d => rfl) ?_
        refine y_ild (x := (V 180 1)) (q := 1) rfl rfl (md180 hM) (by decide) (by decide) rfl rfl ?_
        refine y_ld (x := .ref 170) rfl rfl (fun d => rfl) ?_
        refine y_gR (i := 1) rfl rfl rfl (md170 hM) rfl ?_
        refine y_ic rfl rfl ?_
        refine y_ild (x := 5) (q := 5) rfl rfl (md171 hM) (by decide) (by decide) rfl (by rw [v_up_ne (by decide)]; exact h5) ?_
        refine y_ic rfl rfl ?_
        refine y_sub (z := 4) rfl rfl rfl ?_
        refine y_jne rfl rfl rfl (by omega) (fun g156 => ?_) (fun g156 => ?_)
        · refine y_ld (x := iv 1) rfl rfl (fun d => rfl) ?_
          refine y_zlt rfl rfl rfl (by decide) (fun g157 => absurd g157 (by decide)) (fun g157 => ?_)
          refine y_ld (x := .ref 170) rfl rfl (fun d => rfl) ?_
          refine y_gR (i := 24) rfl rfl rfl (md170 hM) rfl ?_
          refine y_ld (x := iv 1) rfl rfl (fun d => rfl) ?_
          refine y_in rfl rfl (fun d => rfl) ?_
          refine y_ild (x := (V 180 1)) (q := 1) rfl rfl (md180 hM) (by decide) (by decide) rfl rfl ?_
          refine y_ic rfl rfl ?_
          refine y_add (z := ((V 180 1) + 1)) rfl rfl rfl ?_
          refine y_ist (q := 1) rfl rfl (md180 hM) (by decide) (by decide) rfl ?_
          refine y_ld (x := iv 1) rfl rfl (fun d => rfl) ?_
          refine y_zlt rfl rfl rfl (by decide) (fun g158 => absurd g158 (by decide)) (fun g158 => ?_)
          refine y_ic rfl rfl ?_
          refine y_go rfl rfl ?_
          refine y_rI rfl (by decide) ?_
          refine kn (show v + 1 < 125 by omega) _ (fun k hk => ?_) (fun k hk => by rw [v_up_ne hk, v_up_ne hk])
          rcases (show k = 0 ∨ k = 1 ∨ k = 2 by omega) with rfl | rfl | rfl
          · show _ = (((v + 1) / 25 % 5 : Nat) : Int)
            rw [v_up_ni (by decide), v_up_ni (by decide)]; omega
          · show _ = (((v + 1) / 5 % 5 : Nat) : Int)
            rw [v_up_eq]; omega
          · show _ = (((v + 1) / 1 % 5 : Nat) : Int)
            rw [v_up_ni (by decide), v_up_eq]; omega
        · refine y_ld (x := .ref 170) rfl rfl (fun d => rfl) ?_
          refine y_gR (i := 24) rfl rfl rfl (md170 hM) rfl ?_
          refine y_ld (x := iv 1) rfl rfl (fun d => rfl) ?_
          refine y_ic rfl rfl ?_
          refine y_ist (q := 1) rfl rfl (md180 hM) (by decide) (by decide) rfl ?_
          refine y_inc (z := 0) (lv' := [(2, iv 0), (0, .ref 170), (1, iv 3)]) rfl rfl rfl rfl rfl ?_
          refine y_go rfl rfl ?_
          refine y_ld (x := iv 0) rfl rfl (fun d => rfl) ?_
          refine y_zlt rfl rfl rfl (by decide) (fun g159 => absurd g159 (by decide)) (fun g159 => ?_)
          refine y_ld (x := .ref 170) rfl rfl (fun d => rfl) ?_
          refine y_gR (i := 24) rfl rfl rfl (md170 hM) rfl ?_
          refine y_ld (x := iv 0) rfl rfl (fun d => rfl) ?_
          refine y_ild (x := (V 180 0)) (q := 0) rfl rfl (md180 hM) (by decide) (by decide) rfl rfl ?_
          refine y_ld (x := .ref 170) rfl rfl (fun d => rfl) ?_
          refine y_gR (i := 1) rfl rfl rfl (md170 hM) rfl ?_
          refine y_ic rfl rfl ?_
          refine y_ild (x := 5) (q := 5) rfl rfl (md171 hM) (by decide) (by decide) rfl (by rw [v_up_ne (by decide), v_up_ne (by decide)]; exact h5) ?_
          refine y_ic rfl rfl ?_
          refine y_sub (z := 4) rfl rfl rfl ?_
          refine y_jne rfl rfl rfl (by omega) (fun g160 => ?_) (fun g160 => ?_)
          · refine y_ld (x := iv 0) rfl rfl (fun d => rfl) ?_
            refine y_zlt rfl rfl rfl (by decide) (fun g161 => absurd g161 (by decide)) (fun g161 => ?_)
            refine y_ld (x := .ref 170) rfl rfl (fun d => rfl) ?_
            refine y_gR (i := 24) rfl rfl rfl (md170 hM) rfl ?_
            refine y_ld (x := iv 0) rfl rfl (fun d => rfl) ?_
            refine y_in rfl rfl (fun d => rfl) ?_
            refine y_ild (x := (V 180 0)) (q := 0) rfl rfl (md180 hM) (by decide) (by decide) rfl rfl ?_
            refine y_ic rfl rfl ?_
            refine y_add (z := ((V 180 0) + 1)) rfl rfl rfl ?_
            refine y_ist (q := 0) rfl rfl (md180 hM) (by decide) (by decide) rfl ?_
            refine y_ld (x := iv 0) rfl rfl (fun d => rfl) ?_
            refine y_zlt rfl rfl rfl (by decide) (fun g162 => absurd g162 (by decide)) (fun g162 => ?_)
            refine y_ic rfl rfl ?_
            refine y_go rfl rfl ?_
            refine y_rI rfl (by decide) ?_
            refine kn (show v + 1 < 125 by omega) _ (fun k hk => ?_) (fun k hk => by rw [v_up_ne hk, v_up_ne hk, v_up_ne hk])
            rcases (show k = 0 ∨ k = 1 ∨ k = 2 by omega) with rfl | rfl | rfl
            · show _ = (((v + 1) / 25 % 5 : Nat) : Int)
              rw [v_up_eq]; omega
            · show _ = (((v + 1) / 5 % 5 : Nat) : Int)
              rw [v_up_ni (by decide), v_up_eq]; omega
            · show _ = (((v + 1) / 1 % 5 : Nat) : Int)
              rw [v_up_ni (by decide), v_up_ni (by decide), v_up_eq]; omega
          · refine y_ld (x := .ref 170) rfl rfl (fun d => rfl) ?_
            refine y_gR (i := 24) rfl rfl rfl (md170 hM) rfl ?_
            refine y_ld (x := iv 0) rfl rfl (fun d => rfl) ?_
            refine y_ic rfl rfl ?_
            refine y_ist (q := 0) rfl rfl (md180 hM) (by decide) (by decide) rfl ?_
            refine y_inc (z := (-1)) (lv' := [(2, iv (-1)), (0, .ref 170), (1, iv 3)]) rfl rfl rfl rfl rfl ?_
            refine y_go rfl rfl ?_
            refine y_ld (x := iv (-1)) rfl rfl (fun d => rfl) ?_
            refine y_zlt rfl rfl rfl (by decide) (fun g163 => ?_) (fun g163 => absurd g163 (by decide))
            refine y_ld (x := iv (-1)) rfl rfl (fun d => rfl) ?_
            refine y_zlt rfl rfl rfl (by decide) (fun g164 => ?_) (fun g164 => absurd g164 (by decide))
            refine y_ld (x := iv (-1)) rfl rfl (fun d => rfl) ?_
            refine y_zlt rfl rfl rfl (by decide) (fun g165 => ?_) (fun g165 => absurd g165 (by decide))
            refine y_ic rfl rfl ?_
            refine y_rI rfl (by decide) ?_
            exact k0 (show v + 1 = 125 by omega) _ (fun k hk => by rw [v_up_ne hk, v_up_ne hk, v_up_ne hk])
set_option maxRecDepth 100000 in
set_option maxHeartbeats 4000000 in
theorem lp_brl (hM : MdS S) {tm : Nat} (htl : tm ≤ 4) {ts : Nat → List p_Li} (hTO : ∀ i, i < tm → TO (ts i)) {al : Nat} (hal : 0 < al ∧ al ≤ 5) (hlt : ∀ q : Nat, q < al → pkO (V 171 (1770 + 4 * q)) (V 171 (1770 + 4 * q + 1)) (V 171 (1770 + 4 * q + 2)) (V 171 (1770 + 4 * q + 3))) {form N : Int} (hf : 0 ≤ form ∧ form ≤ 4) (hN : 0 ≤ N ∧ N ≤ 99)  (h5 : V 171 5 = (al : Int)) (hTh : ThM V tm ts) {l d : Nat} (hl1 : 1 ≤ l) (hl3 : l ≤ 3) {F : Nat} : ∀ (m : Nat) (v : Nat) (W : v_V), al ^ l - v < m → (v < al ^ l) → (FrB V W) → (WdM W al l v) → (∀ v2, v2 < v → ¬ brkV form N (V 171) ts tm al l v2) → (∀ v V2, v < al ^ l → brkV form N (V 171) ts tm al l v → (∀ v2, v2 < v → ¬ brkV form N (V 171) ts tm al l v2) → WdM V2 al l v → FrB V V2 → K u w (some (iv (l : Int))) S V2) → (∀ V2, (∀ v2, v2 < al ^ l → ¬ brkV form N (V 171) ts tm al l v2) → FrB V V2 → y_E X 9 159 F u w 74 [(0, .ref 170), (1, iv form), (2, iv N), (3, iv (d : Int)), (4, iv (l : Int))] [] S V2 K) → y_E X 9 159 (60 * m + F) u w 44 [(0, .ref 170), (1, iv form), (2, iv N), (3, iv (d : Int)), (4, iv (l : Int)), (5, iv 1)] [] S W K := by
  intro m
  induction m with
  | zero => intros; omega
  | succ m ih =>
    intro v W hm hv hF hWd hJ hx1 hx2
    refine y_mono (F' := (60 * m + F) + 60) ?_ (by omega)
    refine y_ld (x := iv 1) rfl rfl (fun d => rfl) ?_
    refine y_zeq rfl rfl rfl (by decide) (fun g1 => absurd g1 (by decide)) (fun g1 => ?_)
    refine y_ld (x := .ref 170) rfl rfl (fun d => rfl) ?_
    refine y_ld (x := iv (l : Int)) rfl rfl (fun d => rfl) ?_
    refine y_ld (x := iv form) rfl rfl (fun d => rfl) ?_
    refine y_ld (x := iv N) rfl rfl (fun d => rfl) ?_
    have e171 : W 171 = V 171 := hF.1 171 (by decide) (by decide) (by decide) (by decide) (by decide)
    refine y_cV (as := [.ref 170, iv (l : Int), iv form, iv N]) rfl rfl rfl rfl rfl (md170 hM) ⟨rfl, (Nat.le_of_ble_eq_true rfl), (Nat.le_of_ble_eq_true rfl)⟩ (by decide) (ct_keeps (V := W) hM htl hTO hal (by rw [e171]; exact hlt) hf hN (by omega) hWd (ThM_B hTh hF) (fun hb V2 f2 => ?_) (fun hb V2 f2 => ?_))
    · rw [e171] at hb
      refine y_nv ?_
      refine y_zne rfl rfl rfl (by decide) (fun g2 => ?_) (fun g2 => absurd g2 (by decide))
      refine y_ld (x := .ref 170) rfl rfl (fun d => rfl) ?_
      refine y_ld (x := iv (l : Int)) rfl rfl (fun d => rfl) ?_
      have hF2 := FrB_tr hF (FrB_K f2)
      have e5 : V2 171 5 = (al : Int) := by rw [hF2.1 171 (by decide) (by decide) (by decide) (by decide) (by decide)]; exact h5
      refine y_cV (as := [.ref 170, iv (l : Int)]) rfl rfl rfl rfl rfl (md170 hM) ⟨rfl, (Nat.le_of_ble_eq_true rfl), (Nat.le_of_ble_eq_true rfl)⟩ (by decide) (ct_next (v := v) hM ⟨hl1, hl3⟩ hal e5 hv (fun k hk => by rw [f2.1 180 (by decide) (by decide) (by decide) (by decide)]; exact hWd k hk) (fun hvn V3 w3 f3 => ?_) (fun hvn V3 f3 => ?_))
      · refine y_nv ?_
        refine y_st (lv' := [(5, iv 1), (0, .ref 170), (1, iv form), (2, iv N), (3, iv (d : Int)), (4, iv (l : Int))]) rfl rfl (fun d => rfl) ?_
        refine y_go rfl rfl ?_
        refine y_lv (l' := [(0, .ref 170), (1, iv form), (2, iv N), (3, iv (d : Int)), (4, iv (l : Int)), (5, iv 1)]) rfl ⟨rfl, rfl, rfl, rfl, rfl, rfl, trivial⟩ ?_
        refine y_mono (ih (v + 1) V3 (by omega) hvn (FrB_tr hF2 (FrB_w f3)) w3 (fun v2 h2 => ?_) hx1 hx2) (by omega)
        rcases (show v2 < v ∨ v2 = v by omega) with h7 | h7
        · exact hJ v2 h7
        · rw [h7]; exact hb
      · refine y_nv ?_
        refine y_st (lv' := [(5, iv 0), (0, .ref 170), (1, iv form), (2, iv N), (3, iv (d : Int)), (4, iv (l : Int))]) rfl rfl (fun d => rfl) ?_
        refine y_go rfl rfl ?_
        refine y_ld (x := iv 0) rfl rfl (fun d => rfl) ?_
        refine y_zeq rfl rfl rfl (by decide) (fun gz => ?_) (fun gz => absurd rfl gz)
        refine y_lv (l' := [(0, .ref 170), (1, iv form), (2, iv N), (3, iv (d : Int)), (4, iv (l : Int))]) rfl ⟨rfl, rfl, rfl, rfl, rfl, trivial⟩ ?_
        refine y_mono (hx2 V3 (fun v2 h2 => ?_) (FrB_tr hF2 (FrB_w f3))) (by omega)
        rcases (show v2 < v ∨ v2 = v by omega) with h7 | h7
        · exact hJ v2 h7
        · rw [h7]; exact hb
    · rw [e171] at hb
      refine y_nv ?_
      refine y_zne rfl rfl rfl (by decide) (fun g3 => absurd g3 (by decide)) (fun g3 => ?_)
      refine y_ld (x := iv (l : Int)) rfl rfl (fun d => rfl) ?_
      refine y_rI rfl (Or.inl rfl) ?_
      exact hx1 v V2 hv hb hJ (fun k hk => by rw [f2.1 180 (by decide) (by decide) (by decide) (by decide)]; exact hWd k hk) (FrB_tr hF (FrB_K f2))
set_option maxRecDepth 100000 in
set_option maxHeartbeats 4000000 in
theorem lp_breach (hM : MdS S) {tm : Nat} (htl : tm ≤ 4) {ts : Nat → List p_Li} (hTO : ∀ i, i < tm → TO (ts i)) {al : Nat} (hal5 : al ≤ 5) (hlt : ∀ q : Nat, q < al → pkO (V 171 (1770 + 4 * q)) (V 171 (1770 + 4 * q + 1)) (V 171 (1770 + 4 * q + 2)) (V 171 (1770 + 4 * q + 3))) {form N : Int} (hf : 0 ≤ form ∧ form ≤ 4) (hN : 0 ≤ N ∧ N ≤ 99)  (h5 : V 171 5 = (al : Int)) (hTh : ThM V tm ts) {d : Nat} (hd : d ≤ 3) {F : Nat} : ∀ (m : Nat) (l : Nat) (W : v_V), 4 - l < m → (1 ≤ l ∧ l ≤ 4) → (FrB V W) → (∀ l2, 1 ≤ l2 → l2 < l → ∀ v2, v2 < al ^ l2 → ¬ brkV form N (V 171) ts tm al l2 v2) → (∀ l v V2, l ≤ d → brP (brkV form N (V 171) ts tm al) al l v → WdM V2 al l v → FrB V V2 → K u w (some (iv (l : Int))) S V2) → (nbP (brkV form N (V 171) ts tm al) al d → ∀ V2, FrB V V2 → K u w (some (iv 0)) S V2) → y_E X 9 159 (20000 * m + F) u w 3 [(0, .ref 170), (1, iv form), (2, iv N), (3, iv (d : Int)), (4, iv (l : Int))] [] S W K := by
  intro m
  induction m with
  | zero => intros; omega
  | succ m ih =>
    intro l W hm hI hF hJ kS k0
    refine y_mono (F' := (20000 * m + F) + 20000) ?_ (by omega)
    refine y_ld (x := iv (l : Int)) rfl rfl (fun d => rfl) ?_
    refine y_ld (x := iv (d : Int)) rfl rfl (fun d => rfl) ?_
    refine y_jgt rfl rfl rfl (by omega) (fun g1 => ?_) (fun g1 => ?_)
    · refine y_ic rfl rfl ?_
      refine y_rI rfl (Or.inl rfl) ?_
      refine k0 (fun l2 h1 h2 v2 hv2 => ?_) W hF
      exact hJ l2 h1 (by omega) v2 hv2
    · refine y_ld (x := .ref 170) rfl rfl (fun d => rfl) ?_
      refine y_gR (i := 1) rfl rfl rfl (md170 hM) rfl ?_
      refine y_ic rfl rfl ?_
      refine y_ild (x := (al : Int)) (q := 5) rfl rfl (md171 hM) (by decide) (by decide) rfl (by rw [hF.1 171 (by decide) (by decide) (by decide) (by decide) (by decide)]; exact h5) ?_
      refine y_zle rfl rfl rfl (by omega) (fun g2 => ?_) (fun g2 => ?_)
      · refine y_ic rfl rfl ?_
        refine y_rI rfl (Or.inl rfl) ?_
        refine k0 (fun l2 h1 h2 v2 hv2 => ?_) W hF
        have ha0 : al = 0 := by omega
        rw [ha0, Nat.zero_pow (by omega)] at hv2
        exact absurd hv2 (by omega)
      · have hal0 : 0 < al ∧ al ≤ 5 := by omega
        have hdl : l ≤ 3 := by omega
        refine y_ic rfl rfl ?_
        refine y_st (lv' := [(5, iv 0), (0, .ref 170), (1, iv form), (2, iv N), (3, iv (d : Int)), (4, iv (l : Int))]) rfl rfl (fun d => rfl) ?_
        refine y_ld (x := iv 0) rfl rfl (fun d => rfl) ?_
        refine y_ic rfl rfl ?_
        refine y_jge rfl rfl rfl (by decide) (fun g3 => absurd g3 (by decide)) (fun g3 => ?_)
        refine y_ld (x := .ref 170) rfl rfl (fun d => rfl) ?_
        refine y_gR (i := 24) rfl rfl rfl (md170 hM) rfl ?_
        refine y_ld (x := iv 0) rfl rfl (fun d => rfl) ?_
        refine y_ic rfl rfl ?_
        refine y_ist (q := 0) rfl rfl (md180 hM) (by decide) (by decide) rfl ?_
        refine y_inc (z := 1) (lv' := [(5, iv 1), (0, .ref 170), (1, iv form), (2, iv N), (3, iv (d : Int)), (4, iv (l : Int))]) rfl rfl rfl rfl rfl ?_
        refine y_go rfl rfl ?_
        refine y_ld (x := iv 1) rfl rfl (fun d => rfl) ?_
        refine y_ic rfl rfl ?_
        refine y_jge rfl rfl rfl (by decide) (fun g4 => absurd g4 (by decide)) (fun g4 => ?_)
        refine y_ld (x := .ref 170) rfl rfl (fun d => rfl) ?_
        refine y_gR (i := 24) rfl rfl rfl (md170 hM) rfl ?_
        refine y_ld (x := iv 1) rfl rfl (fun d => rfl) ?_
        refine y_ic rfl rfl ?_
        refine y_ist (q := 1) rfl rfl (md180 hM) (by decide) (by decide) rfl ?_
        refine y_inc (z := 2) (lv' := [(5, iv 2), (0, .ref 170), (1, iv form), (2, iv N), (3, iv (d : Int)), (4, iv (l : Int))]) rfl rfl rfl rfl rfl ?_
        refine y_go rfl rfl ?_
        refine y_ld (x := iv 2) rfl rfl (fun d => rfl) ?_
        refine y_ic rfl rfl ?_
        refine y_jge rfl rfl rfl (by decide) (fun g5 => absurd g5 (by decide)) (fun g5 => ?_)
        refine y_ld (x := .ref 170) rfl rfl (fun d => rfl) ?_
        refine y_gR (i := 24) rfl rfl rfl (md170 hM) rfl ?_
        refine y_ld (x := iv 2) rfl rfl (fun d => rfl) ?_
        refine y_ic rfl rfl ?_
        refine y_ist (q := 2) rfl rfl (md180 hM) (by decide) (by decide) rfl ?_
        refine y_inc (z := 3) (lv' := [(5, iv 3), (0, .ref 170), (1, iv form), (2, iv N), (3, iv (d : Int)), (4, iv (l : Int))]) rfl rfl rfl rfl rfl ?_
        refine y_go rfl rfl ?_
        refine y_ld (x := iv 3) rfl rfl (fun d => rfl) ?_
        refine y_ic rfl rfl ?_
        refine y_jge rfl rfl rfl (by decide) (fun g6 => ?_) (fun g6 => absurd g6 (by decide))
        refine y_ic rfl rfl ?_
        refine y_st (lv' := [(5, iv 1), (0, .ref 170), (1, iv form), (2, iv N), (3, iv (d : Int)), (4, iv (l : Int))]) rfl rfl (fun d => rfl) ?_
        refine y_lv (l' := [(0, .ref 170), (1, iv form), (2, iv N), (3, iv (d : Int)), (4, iv (l : Int)), (5, iv 1)]) rfl ⟨rfl, rfl, rfl, rfl, rfl, rfl, trivial⟩ ?_
        have hfw : FrB W (v_up (v_up (v_up W 180 0 0) 180 1 0) 180 2 0) := FrB_w (fun k hk => by rw [v_up_ne hk, v_up_ne hk, v_up_ne hk])
        refine y_mono (lp_brl (V := V) (F := 20000 * m + F + 100) hM htl hTO hal0 hlt hf hN h5 hTh hI.1 hdl 200 0 (v_up (v_up (v_up W 180 0 0) 180 1 0) 180 2 0) ?_ (Nat.pow_pos hal0.1) (FrB_tr hF hfw) (fun k hk => ?_) (fun v2 h2 => absurd h2 (by omega)) (fun v V2 q1 q2 q3 q4 q5 => kS l v V2 (by omega) ⟨hI.1, q1, q2, hJ, q3⟩ q4 q5) (fun V2 q1 q2 => ?_)) (by omega)
        · have : al ^ l ≤ 125 := by
            rcases (show l = 1 ∨ l = 2 ∨ l = 3 by omega) with rfl | rfl | rfl <;> rcases (show al = 1 ∨ al = 2 ∨ al = 3 ∨ al = 4 ∨ al = 5 by omega) with rfl | rfl | rfl | rfl | rfl <;> decide
          omega
        · rw [Nat.zero_div, Nat.zero_mod]
          rcases (show k = 0 ∨ k = 1 ∨ k = 2 by omega) with rfl | rfl | rfl <;> rfl
        · refine y_inc (z := ((l + 1 : Nat) : Int)) (lv' := [(4, iv ((l + 1 : Nat) : Int)), (0, .ref 170), (1, iv form), (2, iv N), (3, iv (d : Int))]) rfl rfl rfl (by omega) rfl ?_
          refine y_go rfl rfl ?_
          refine y_lv (l' := [(0, .ref 170), (1, iv form), (2, iv N), (3, iv (d : Int)), (4, iv ((l + 1 : Nat) : Int))]) rfl ⟨rfl, rfl, rfl, rfl, rfl, trivial⟩ ?_
          refine y_mono (ih (l + 1) V2 (by omega) (by omega) q2 (fun l2 h1 h2 v2 hv2 => ?_) kS k0) (by omega)
          rcases (show l2 < l ∨ l2 = l by omega) with h7 | h7
          · exact hJ l2 h1 h7 v2 hv2
          · rw [h7] at hv2 ⊢; exact q1 v2 hv2
set_option maxRecDepth 100000 in
set_option maxHeartbeats 4000000 in
theorem ct_breach (hM : MdS S) {tm : Nat} (htl : tm ≤ 4) {ts : Nat → List p_Li} (hTO : ∀ i, i < tm → TO (ts i)) {al : Nat} (hal5 : al ≤ 5) (hlt : ∀ q : Nat, q < al → pkO (V 171 (1770 + 4 * q)) (V 171 (1770 + 4 * q + 1)) (V 171 (1770 + 4 * q + 2)) (V 171 (1770 + 4 * q + 3))) {form N : Int} (hf : 0 ≤ form ∧ form ≤ 4) (hN : 0 ≤ N ∧ N ≤ 99)  (h5 : V 171 5 = (al : Int)) (hTh : ThM V tm ts) {d : Nat} (hd : d ≤ 3) (kS : ∀ l v V2, l ≤ d → brP (brkV form N (V 171) ts tm al) al l v → WdM V2 al l v → FrB V V2 → K u w (some (iv (l : Int))) S V2) (k0 : nbP (brkV form N (V 171) ts tm al) al d → ∀ V2, FrB V V2 → K u w (some (iv 0)) S V2) : y_R X 10 159 u w [.ref 170, iv form, iv N, iv (d : Int)] S V K := by
  refine y_ent (lv' := [(0, .ref 170), (1, iv form), (2, iv N), (3, iv (d : Int))]) (Nat.le_of_ble_eq_true rfl) rfl ?_
  refine y_ic rfl rfl ?_
  refine y_st (lv' := [(4, iv 1), (0, .ref 170), (1, iv form), (2, iv N), (3, iv (d : Int))]) rfl rfl (fun d => rfl) ?_
  refine y_lv (l' := [(0, .ref 170), (1, iv form), (2, iv N), (3, iv (d : Int)), (4, iv ((1 : Nat) : Int))]) rfl ⟨rfl, rfl, rfl, rfl, rfl, trivial⟩ ?_
  exact y_mono (lp_breach (F := 100) hM htl hTO hal5 hlt hf hN h5 hTh hd 4 1 V (by omega) (by omega) (FrB_rf V) (fun l2 h1 h2 => absurd h2 (by omega)) kS k0) (by decide)
end
