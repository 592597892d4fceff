/-! act: the class -/
/-- what an ACT comes to: KIND, ACT, x, number, LINES -/
def acV : Nat → Nat → Int32 → Int → Int → Int32
  | 0, 0, x, nb, ln => x + (Int32.ofInt nb)
  | 0, 1, x, nb, ln => (x + (Int32.ofInt nb)) - (Int32.ofInt ln)
  | 0, 2, x, nb, ln => ((x + (Int32.ofInt nb)) - (Int32.ofInt ln)) * (Int32.ofInt 2)
  | 1, 0, x, nb, ln => x + (Int32.ofInt nb)
  | 1, 1, x, nb, ln => ((x * (Int32.ofInt 3)) + (Int32.ofInt nb)) - (Int32.ofInt ln)
  | 1, 2, x, nb, ln => (((x * (Int32.ofInt 3)) + (Int32.ofInt nb)) - (Int32.ofInt ln)) * (Int32.ofInt 2)
  | 2, 0, x, nb, ln => -(x + (Int32.ofInt nb))
  | 2, 1, x, nb, ln => (-(x + (Int32.ofInt nb))) - (Int32.ofInt ln)
  | 2, 2, x, nb, ln => ((-(x + (Int32.ofInt nb))) - (Int32.ofInt ln)) * (Int32.ofInt 2)
  | 3, 0, x, nb, ln => x + (Int32.ofInt nb)
  | 3, 1, x, nb, ln => (x + (Int32.ofInt nb)) - (Int32.ofInt ln)
  | 3, 2, x, nb, ln => (((x + (Int32.ofInt nb)) - (Int32.ofInt ln)) * (Int32.ofInt 2)) ^^^ (Int32.ofInt 5)
  | 4, 0, x, nb, ln => x + (Int32.ofInt nb)
  | 4, 1, x, nb, ln => ((x * (Int32.ofInt 3)) + (Int32.ofInt nb)) - (Int32.ofInt ln)
  | 4, 2, x, nb, ln => (((((x - (Int32.ofInt 1)) * (Int32.ofInt 3)) + (Int32.ofInt nb)) - (Int32.ofInt ln)) * (Int32.ofInt 2)) + (Int32.ofInt (2 + nb))
  | 5, 0, x, nb, ln => x + (Int32.ofInt nb)
  | 5, 1, x, nb, ln => ((x + (Int32.ofInt nb)) - (Int32.ofInt ln)) + (Int32.ofInt nb)
  | 5, 2, x, nb, ln => ((((x + (Int32.ofInt nb)) - (Int32.ofInt ln)) + (Int32.ofInt nb)) * (Int32.ofInt 2)) ^^^ (Int32.ofInt 5)
  | 6, 0, x, nb, ln => ((x + (Int32.ofInt 1)) + (Int32.ofInt nb)) ^^^ (Int32.ofInt 9)
  | 6, 1, x, nb, ln => (((x + (Int32.ofInt 1)) + (Int32.ofInt nb)) ^^^ (Int32.ofInt 9)) - (Int32.ofInt ln)
  | 6, 2, x, nb, ln => ((((x + (Int32.ofInt 1)) + (Int32.ofInt nb)) ^^^ (Int32.ofInt 9)) - (Int32.ofInt ln)) * (Int32.ofInt 2)
  | _, _, _, _, _ => 0
section
variable {X : Nat → List Int32} {u w : Nat} {S : m_H} {V : v_V} {K : v_K}
set_option maxRecDepth 100000 in
set_option maxHeartbeats 4000000 in
theorem ca_0_0 (hC : ClF S) (hXb : X 1 = m_bodies) (hXa : X 2 = m_above) (h3X : X 3 = []) {b : Nat} {nb ln : Int} {x : Int32} (hb : b < 8) (hk : V (10 + 6 * b) 1 = 0) (hn : V (10 + 6 * b) 0 = nb) (k : ∀ V2, (∀ k, k ≠ 8 → k ≠ 9 → V2 k = V k) → 0 ≤ V2 8 1 ∧ V2 8 1 ≤ 20 → K u w (some (.int (acV 0 0 x nb ln))) S V2) : y_R X 30 61 u w [.ref 8, .ref (10 + 6 * b), iv ln, iv 0, .int x] S (v_up V 8 1 0) K := by
  refine y_ent (lv' := [(0, .ref 8), (1, .ref (10 + 6 * b)), (2, iv ln), (3, iv 0), (4, .int x)]) (Nat.le_of_ble_eq_true rfl) rfl ?_
  refine y_ld (x := .ref 8) rfl rfl (fun d => rfl) ?_
  refine y_ld (x := .ref (10 + 6 * b)) rfl rfl (fun d => rfl) ?_
  refine y_gI (i := 1) (e := 0) rfl rfl rfl (bx_ob hC (i := b) (by omega)) rfl (by rw [v_up_ne (by omega)]; exact hk) ?_
  refine y_pI (i := 2) rfl rfl rfl (hC 8 _ _ rfl) rfl rfl ?_
  refine y_ld (x := .ref 8) rfl rfl (fun d => rfl) ?_
  refine y_ld (x := .ref (10 + 6 * b)) rfl rfl (fun d => rfl) ?_
  refine y_gI (i := 0) (e := nb) rfl rfl rfl (bx_ob hC (i := b) (by omega)) rfl (by rw [v_up_ne (by omega), v_up_ne (by omega)]; exact hn) ?_
  refine y_pI (i := 3) rfl rfl rfl (hC 8 _ _ rfl) rfl rfl ?_
  refine y_ld (x := .ref 8) rfl rfl (fun d => rfl) ?_
  refine y_ld (x := iv ln) rfl rfl (fun d => rfl) ?_
  refine y_pI (i := 4) rfl rfl rfl (hC 8 _ _ rfl) rfl rfl ?_
  refine y_ld (x := .ref 8) rfl rfl (fun d => rfl) ?_
  refine y_ld (x := .ref 8) rfl rfl (fun d => rfl) ?_
  refine y_gI (i := 2) (e := 0) rfl rfl rfl (hC 8 _ _ rfl) rfl rfl ?_
  refine y_ld (x := iv 0) rfl rfl (fun d => rfl) ?_
  refine y_ld (x := .int x) rfl rfl (fun d => rfl) ?_
  refine y_ic rfl rfl ?_
  refine y_cV (D' := 29) (as := [.ref 8, iv 0, iv 0, .int x, iv 0]) rfl rfl rfl rfl rfl (hC 8 _ _ rfl) ⟨rfl, (Nat.le_of_ble_eq_true rfl), (Nat.le_of_ble_eq_true rfl)⟩ (by decide) ?_
  refine y_ent (lv' := [(0, .ref 8), (1, iv 0), (2, iv 0), (3, .int x), (4, iv 0)]) (Nat.le_of_ble_eq_true rfl) rfl ?_
  refine y_ld (x := iv 0) rfl rfl (fun d => rfl) ?_
  refine y_zlt rfl rfl rfl (by decide) (fun g1 => absurd g1 (by decide)) (fun g1 => ?_)
  refine y_ld (x := iv 0) rfl rfl (fun d => rfl) ?_
  refine y_bi rfl rfl (by decide) ?_
  refine y_jge rfl rfl rfl (by decide) (fun g2 => absurd g2 (by decide)) (fun g2 => ?_)
  refine y_ld (x := iv 0) rfl rfl (fun d => rfl) ?_
  refine y_bi rfl rfl (by decide) ?_
  refine y_jle rfl rfl rfl (by decide) (fun g3 => ?_) (fun g3 => absurd g3 (by decide))
  refine y_ld (x := iv 0) rfl rfl (fun d => rfl) ?_
  refine y_st (lv' := [(5, iv 0), (0, .ref 8), (1, iv 0), (2, iv 0), (3, .int x), (4, iv 0)]) rfl rfl (fun d => rfl) ?_
  refine y_ic rfl rfl ?_
  refine y_st (lv' := [(6, iv 0), (5, iv 0), (0, .ref 8), (1, iv 0), (2, iv 0), (3, .int x), (4, iv 0)]) rfl rfl (fun d => rfl) ?_
  refine y_ld (x := iv 0) rfl rfl (fun d => rfl) ?_
  refine y_bi rfl rfl (by decide) ?_
  refine y_jge rfl rfl rfl (by decide) (fun g4 => absurd g4 (by decide)) (fun g4 => ?_)
  refine y_ld (x := iv 0) rfl rfl (fun d => rfl) ?_
  refine y_zle rfl rfl rfl (by decide) (fun g5 => ?_) (fun g5 => absurd g5 (by decide))
  refine y_in rfl rfl (fun d => rfl) ?_
  refine y_ld (x := iv 0) rfl rfl (fun d => rfl) ?_
  refine y_ic rfl rfl ?_
  refine y_mul (z := 0) rfl rfl rfl ?_
  refine y_ld (x := iv 0) rfl rfl (fun d => rfl) ?_
  refine y_add (z := 0) rfl rfl rfl ?_
  refine y_sti (n := 1) (i := 0) (f := 1) rfl rfl hXb h3X (by decide) rfl rfl ?_
  refine y_st (lv' := [(6, iv 1), (5, iv 0), (0, .ref 8), (1, iv 0), (2, iv 0), (3, .int x), (4, iv 0)]) rfl rfl (fun d => rfl) ?_
  refine y_ld (x := .ref 8) rfl rfl (fun d => rfl) ?_
  refine y_gI (i := 1) (e := 0) rfl rfl rfl (hC 8 _ _ rfl) rfl rfl ?_
  refine y_bi rfl rfl (by decide) ?_
  refine y_jge rfl rfl rfl (by decide) (fun g6 => absurd g6 (by decide)) (fun g6 => ?_)
  refine y_ld (x := .ref 8) rfl rfl (fun d => rfl) ?_
  refine y_gR (i := 0) rfl rfl rfl (hC 8 _ _ rfl) rfl ?_
  refine y_ld (x := .ref 8) rfl rfl (fun d => rfl) ?_
  refine y_gI (i := 1) (e := 0) rfl rfl rfl (hC 8 _ _ rfl) rfl rfl ?_
  refine y_ld (x := iv 1) rfl rfl (fun d => rfl) ?_
  refine y_ist (q := 0) rfl rfl (cl_ia hC (k := 9) (N := 20) rfl) (by decide) (by decide) rfl ?_
  refine y_ld (x := .ref 8) rfl rfl (fun d => rfl) ?_
  refine y_in rfl rfl (fun d => rfl) ?_
  refine y_gI (i := 1) (e := 0) rfl rfl rfl (hC 8 _ _ rfl) rfl rfl ?_
  refine y_ic rfl rfl ?_
  refine y_add (z := 1) rfl rfl rfl ?_
  refine y_pI (i := 1) rfl rfl rfl (hC 8 _ _ rfl) rfl rfl ?_
  refine y_ld (x := .ref 8) rfl rfl (fun d => rfl) ?_
  refine y_ld (x := iv 1) rfl rfl (fun d => rfl) ?_
  refine y_in rfl rfl (fun d => rfl) ?_
  refine y_ld (x := iv 0) rfl rfl (fun d => rfl) ?_
  refine y_sti (n := 2) (i := 0) (f := (-1)) rfl rfl hXa h3X (by decide) rfl rfl ?_
  refine y_ld (x := .int x) rfl rfl (fun d => rfl) ?_
  refine y_ld (x := iv 0) rfl rfl (fun d => rfl) ?_
  refine y_ic rfl rfl ?_
  refine y_add (z := 1) rfl rfl rfl ?_
  refine y_cV (D' := 28) (as := [.ref 8, iv 1, iv (-1), .int x, iv 1]) rfl rfl rfl rfl rfl (hC 8 _ _ rfl) ⟨rfl, (Nat.le_of_ble_eq_true rfl), (Nat.le_of_ble_eq_true rfl)⟩ (by decide) ?_
  refine y_ent (lv' := [(0, .ref 8), (1, iv 1), (2, iv (-1)), (3, .int x), (4, iv 1)]) (Nat.le_of_ble_eq_true rfl) rfl ?_
  refine y_ld (x := iv 1) rfl rfl (fun d => rfl) ?_
  refine y_in (pc' := 84) rfl rfl (fun d => rfl) ?_
  refine y_ld (x := .int x) rfl rfl (fun d => rfl) ?_
  refine y_ld (x := .ref 8) rfl rfl (fun d => rfl) ?_
  refine y_gI (i := 3) (e := nb) rfl rfl rfl (hC 8 _ _ rfl) rfl rfl ?_
  refine y_in rfl rfl (fun d => rfl) ?_
  refine y_ret rfl (fun d => rfl) ?_
  refine y_nv ?_
  refine y_ret rfl (fun d => rfl) ?_
  refine y_nv ?_
  refine y_ret rfl (fun d => rfl) ?_
  exact k _ (fun k h8 h9 => by rw [v_up_ne h8, v_up_ne h9, v_up_ne h8, v_up_ne h8, v_up_ne h8, v_up_ne h8]) ⟨by show (0 : Int) ≤ 1; decide, by show (1 : Int) ≤ 20; decide⟩
set_option maxRecDepth 100000 in
set_option maxHeartbeats 4000000 in
theorem ca_0_1 (hC : ClF S) (hXb : X 1 = m_bodies) (hXa : X 2 = m_above) (h3X : X 3 = []) {b : Nat} {nb ln : Int} {x : Int32} (hb : b < 8) (hk : V (10 + 6 * b) 1 = 0) (hn : V (10 + 6 * b) 0 = nb) (k : ∀ V2, (∀ k, k ≠ 8 → k ≠ 9 → V2 k = V k) → 0 ≤ V2 8 1 ∧ V2 8 1 ≤ 20 → K u w (some (.int (acV 0 1 x nb ln))) S V2) : y_R X 30 61 u w [.ref 8, .ref (10 + 6 * b), iv ln, iv 1, .int x] S (v_up V 8 1 0) K := by
  refine y_ent (lv' := [(0, .ref 8), (1, .ref (10 + 6 * b)), (2, iv ln), (3, iv 1), (4, .int x)]) (Nat.le_of_ble_eq_true rfl) rfl ?_
  refine y_ld (x := .ref 8) rfl rfl (fun d => rfl) ?_
  refine y_ld (x := .ref (10 + 6 * b)) rfl rfl (fun d => rfl) ?_
  refine y_gI (i := 1) (e := 0) rfl rfl rfl (bx_ob hC (i := b) (by omega)) rfl (by rw [v_up_ne (by omega)]; exact hk) ?_
  refine y_pI (i := 2) rfl rfl rfl (hC 8 _ _ rfl) rfl rfl ?_
  refine y_ld (x := .ref 8) rfl rfl (fun d => rfl) ?_
  refine y_ld (x := .ref (10 + 6 * b)) rfl rfl (fun d => rfl) ?_
  refine y_gI (i := 0) (e := nb) rfl rfl rfl (bx_ob hC (i := b) (by omega)) rfl (by rw [v_up_ne (by omega), v_up_ne (by omega)]; exact hn) ?_
  refine y_pI (i := 3) rfl rfl rfl (hC 8 _ _ rfl) rfl rfl ?_
  refine y_ld (x := .ref 8) rfl rfl (fun d => rfl) ?_
  refine y_ld (x := iv ln) rfl rfl (fun d => rfl) ?_
  refine y_pI (i := 4) rfl rfl rfl (hC 8 _ _ rfl) rfl rfl ?_
  refine y_ld (x := .ref 8) rfl rfl (fun d => rfl) ?_
  refine y_ld (x := .ref 8) rfl rfl (fun d => rfl) ?_
  refine y_gI (i := 2) (e := 0) rfl rfl rfl (hC 8 _ _ rfl) rfl rfl ?_
  refine y_ld (x := iv 1) rfl rfl (fun d => rfl) ?_
  refine y_ld (x := .int x) rfl rfl (fun d => rfl) ?_
  refine y_ic rfl rfl ?_
  refine y_cV (D' := 29) (as := [.ref 8, iv 0, iv 1, .int x, iv 0]) rfl rfl rfl rfl rfl (hC 8 _ _ rfl) ⟨rfl, (Nat.le_of_ble_eq_true rfl), (Nat.le_of_ble_eq_true rfl)⟩ (by decide) ?_
  refine y_ent (lv' := [(0, .ref 8), (1, iv 0), (2, iv 1), (3, .int x), (4, iv 0)]) (Nat.le_of_ble_eq_true rfl) rfl ?_
  refine y_ld (x := iv 0) rfl rfl (fun d => rfl) ?_
  refine y_zlt rfl rfl rfl (by decide) (fun g1 => absurd g1 (by decide)) (fun g1 => ?_)
  refine y_ld (x := iv 0) rfl rfl (fun d => rfl) ?_
  refine y_bi rfl rfl (by decide) ?_
  refine y_jge rfl rfl rfl (by decide) (fun g2 => absurd g2 (by decide)) (fun g2 => ?_)
  refine y_ld (x := iv 0) rfl rfl (fun d => rfl) ?_
  refine y_bi rfl rfl (by decide) ?_
  refine y_jle rfl rfl rfl (by decide) (fun g3 => ?_) (fun g3 => absurd g3 (by decide))
  refine y_ld (x := iv 0) rfl rfl (fun d => rfl) ?_
  refine y_st (lv' := [(5, iv 0), (0, .ref 8), (1, iv 0), (2, iv 1), (3, .int x), (4, iv 0)]) rfl rfl (fun d => rfl) ?_
  refine y_ic rfl rfl ?_
  refine y_st (lv' := [(6, iv 0), (5, iv 0), (0, .ref 8), (1, iv 0), (2, iv 1), (3, .int x), (4, iv 0)]) rfl rfl (fun d => rfl) ?_
  refine y_ld (x := iv 0) rfl rfl (fun d => rfl) ?_
  refine y_bi rfl rfl (by decide) ?_
  refine y_jge rfl rfl rfl (by decide) (fun g4 => absurd g4 (by decide)) (fun g4 => ?_)
  refine y_ld (x := iv 0) rfl rfl (fun d => rfl) ?_
  refine y_zle rfl rfl rfl (by decide) (fun g5 => ?_) (fun g5 => absurd g5 (by decide))
  refine y_in rfl rfl (fun d => rfl) ?_
  refine y_ld (x := iv 0) rfl rfl (fun d => rfl) ?_
  refine y_ic rfl rfl ?_
  refine y_mul (z := 0) rfl rfl rfl ?_
  refine y_ld (x := iv 1) rfl rfl (fun d => rfl) ?_
  refine y_add (z := 1) rfl rfl rfl ?_
  refine y_sti (n := 1) (i := 1) (f := 2) rfl rfl hXb h3X (by decide) rfl rfl ?_
  refine y_st (lv' := [(6, iv 2), (5, iv 0), (0, .ref 8), (1, iv 0), (2, iv 1), (3, .int x), (4, iv 0)]) rfl rfl (fun d => rfl) ?_
  refine y_ld (x := .ref 8) rfl rfl (fun d => rfl) ?_
  refine y_gI (i := 1) (e := 0) rfl rfl rfl (hC 8 _ _ rfl) rfl rfl ?_
  refine y_bi rfl rfl (by decide) ?_
  refine y_jge rfl rfl rfl (by decide) (fun g6 => absurd g6 (by decide)) (fun g6 => ?_)
  refine y_ld (x := .ref 8) rfl rfl (fun d => rfl) ?_
  refine y_gR (i := 0) rfl rfl rfl (hC 8 _ _ rfl) rfl ?_
  refine y_ld (x := .ref 8) rfl rfl (fun d => rfl) ?_
  refine y_gI (i := 1) (e := 0) rfl rfl rfl (hC 8 _ _ rfl) rfl rfl ?_
  refine y_ld (x := iv 2) rfl rfl (fun d => rfl) ?_
  refine y_ist (q := 0) rfl rfl (cl_ia hC (k := 9) (N := 20) rfl) (by decide) (by decide) rfl ?_
  refine y_ld (x := .ref 8) rfl rfl (fun d => rfl) ?_
  refine y_in rfl rfl (fun d => rfl) ?_
  refine y_gI (i := 1) (e := 0) rfl rfl rfl (hC 8 _ _ rfl) rfl rfl ?_
  refine y_ic rfl rfl ?_
  refine y_add (z := 1) rfl rfl rfl ?_
  refine y_pI (i := 1) rfl rfl rfl (hC 8 _ _ rfl) rfl rfl ?_
  refine y_ld (x := .ref 8) rfl rfl (fun d => rfl) ?_
  refine y_ld (x := iv 2) rfl rfl (fun d => rfl) ?_
  refine y_in rfl rfl (fun d => rfl) ?_
  refine y_ld (x := iv 0) rfl rfl (fun d => rfl) ?_
  refine y_sti (n := 2) (i := 0) (f := (-1)) rfl rfl hXa h3X (by decide) rfl rfl ?_
  refine y_ld (x := .int x) rfl rfl (fun d => rfl) ?_
  refine y_ld (x := iv 0) rfl rfl (fun d => rfl) ?_
  refine y_ic rfl rfl ?_
  refine y_add (z := 1) rfl rfl rfl ?_
  refine y_cV (D' := 28) (as := [.ref 8, iv 2, iv (-1), .int x, iv 1]) rfl rfl rfl rfl rfl (hC 8 _ _ rfl) ⟨rfl, (Nat.le_of_ble_eq_true rfl), (Nat.le_of_ble_eq_true rfl)⟩ (by decide) ?_
  refine y_ent (lv' := [(0, .ref 8), (1, iv 2), (2, iv (-1)), (3, .int x), (4, iv 1)]) (Nat.le_of_ble_eq_true rfl) rfl ?_
  refine y_ld (x := iv 2) rfl rfl (fun d => rfl) ?_
  refine y_in (pc' := 91) rfl rfl (fun d => rfl) ?_
  refine y_ld (x := .ref 8) rfl rfl (fun d => rfl) ?_
  refine y_ld (x := .ref 8) rfl rfl (fun d => rfl) ?_
  refine y_gI (i := 2) (e := 0) rfl rfl rfl (hC 8 _ _ rfl) rfl rfl ?_
  refine y_ic rfl rfl ?_
  refine y_ld (x := .int x) rfl rfl (fun d => rfl) ?_
  refine y_ld (x := iv 1) rfl rfl (fun d => rfl) ?_
  refine y_cV (D' := 27) (as := [.ref 8, iv 0, iv 0, .int x, iv 1]) rfl rfl rfl rfl rfl (hC 8 _ _ rfl) ⟨rfl, (Nat.le_of_ble_eq_true rfl), (Nat.le_of_ble_eq_true rfl)⟩ (by decide) ?_
  refine y_ent (lv' := [(0, .ref 8), (1, iv 0), (2, iv 0), (3, .int x), (4, iv 1)]) (Nat.le_of_ble_eq_true rfl) rfl ?_
  refine y_ld (x := iv 0) rfl rfl (fun d => rfl) ?_
  refine y_zlt rfl rfl rfl (by decide) (fun g7 => absurd g7 (by decide)) (fun g7 => ?_)
  refine y_ld (x := iv 0) rfl rfl (fun d => rfl) ?_
  refine y_bi rfl rfl (by decide) ?_
  refine y_jge rfl rfl rfl (by decide) (fun g8 => absurd g8 (by decide)) (fun g8 => ?_)
  refine y_ld (x := iv 1) rfl rfl (fun d => rfl) ?_
  refine y_bi rfl rfl (by decide) ?_
  refine y_jle rfl rfl rfl (by decide) (fun g9 => ?_) (fun g9 => absurd g9 (by decide))
  refine y_ld (x := iv 0) rfl rfl (fun d => rfl) ?_
  refine y_st (lv' := [(5, iv 0), (0, .ref 8), (1, iv 0), (2, iv 0), (3, .int x), (4, iv 1)]) rfl rfl (fun d => rfl) ?_
  refine y_ic rfl rfl ?_
  refine y_st (lv' := [(6, iv 0), (5, iv 0), (0, .ref 8), (1, iv 0), (2, iv 0), (3, .int x), (4, iv 1)]) rfl rfl (fun d => rfl) ?_
  refine y_ld (x := iv 0) rfl rfl (fun d => rfl) ?_
  refine y_bi rfl rfl (by decide) ?_
  refine y_jge rfl rfl rfl (by decide) (fun g10 => absurd g10 (by decide)) (fun g10 => ?_)
  refine y_ld (x := iv 0) rfl rfl (fun d => rfl) ?_
  refine y_zle rfl rfl rfl (by decide) (fun g11 => ?_) (fun g11 => absurd g11 (by decide))
  refine y_in rfl rfl (fun d => rfl) ?_
  refine y_ld (x := iv 0) rfl rfl (fun d => rfl) ?_
  refine y_ic rfl rfl ?_
  refine y_mul (z := 0) rfl rfl rfl ?_
  refine y_ld (x := iv 0) rfl rfl (fun d => rfl) ?_
  refine y_add (z := 0) rfl rfl rfl ?_
  refine y_sti (n := 1) (i := 0) (f := 1) rfl rfl hXb h3X (by decide) rfl rfl ?_
  refine y_st (lv' := [(6, iv 1), (5, iv 0), (0, .ref 8), (1, iv 0), (2, iv 0), (3, .int x), (4, iv 1)]) rfl rfl (fun d => rfl) ?_
  refine y_ld (x := .ref 8) rfl rfl (fun d => rfl) ?_
  refine y_gI (i := 1) (e := 1) rfl rfl rfl (hC 8 _ _ rfl) rfl rfl ?_
  refine y_bi rfl rfl (by decide) ?_
  refine y_jge rfl rfl rfl (by decide) (fun g12 => absurd g12 (by decide)) (fun g12 => ?_)
  refine y_ld (x := .ref 8) rfl rfl (fun d => rfl) ?_
  refine y_gR (i := 0) rfl rfl rfl (hC 8 _ _ rfl) rfl ?_
  refine y_ld (x := .ref 8) rfl rfl (fun d => rfl) ?_
  refine y_gI (i := 1) (e := 1) rfl rfl rfl (hC 8 _ _ rfl) rfl rfl ?_
  refine y_ld (x := iv 1) rfl rfl (fun d => rfl) ?_
  refine y_ist (q := 1) rfl rfl (cl_ia hC (k := 9) (N := 20) rfl) (by decide) (by decide) rfl ?_
  refine y_ld (x := .ref 8) rfl rfl (fun d => rfl) ?_
  refine y_in rfl rfl (fun d => rfl) ?_
  refine y_gI (i := 1) (e := 1) rfl rfl rfl (hC 8 _ _ rfl) rfl rfl ?_
  refine y_ic rfl rfl ?_
  refine y_add (z := 2) rfl rfl rfl ?_
  refine y_pI (i := 1) rfl rfl rfl (hC 8 _ _ rfl) rfl rfl ?_
  refine y_ld (x := .ref 8) rfl rfl (fun d => rfl) ?_
  refine y_ld (x := iv 1) rfl rfl (fun d => rfl) ?_
  refine y_in rfl rfl (fun d => rfl) ?_
  refine y_ld (x := iv 0) rfl rfl (fun d => rfl) ?_
  refine y_sti (n := 2) (i := 0) (f := (-1)) rfl rfl hXa h3X (by decide) rfl rfl ?_
  refine y_ld (x := .int x) rfl rfl (fun d => rfl) ?_
  refine y_ld (x := iv 1) rfl rfl (fun d => rfl) ?_
  refine y_ic rfl rfl ?_
  refine y_add (z := 2) rfl rfl rfl ?_
  refine y_cV (D' := 26) (as := [.ref 8, iv 1, iv (-1), .int x, iv 2]) rfl rfl rfl rfl rfl (hC 8 _ _ rfl) ⟨rfl, (Nat.le_of_ble_eq_true rfl), (Nat.le_of_ble_eq_true rfl)⟩ (by decide) ?_
  refine y_ent (lv' := [(0, .ref 8), (1, iv 1), (2, iv (-1)), (3, .int x), (4, iv 2)]) (Nat.le_of_ble_eq_true rfl) rfl ?_
  refine y_ld (x := iv 1) rfl rfl (fun d => rfl) ?_
  refine y_in (pc' := 84) rfl rfl (fun d => rfl) ?_
  refine y_ld (x := .int x) rfl rfl (fun d => rfl) ?_
  refine y_ld (x := .ref 8) rfl rfl (fun d => rfl) ?_
  refine y_gI (i := 3) (e := nb) rfl rfl rfl (hC 8 _ _ rfl) rfl rfl ?_
  refine y_in rfl rfl (fun d => rfl) ?_
  refine y_ret rfl (fun d => rfl) ?_
  refine y_nv ?_
  refine y_ret rfl (fun d => rfl) ?_
  refine y_nv ?_
  refine y_ld (x := .ref 8) rfl rfl (fun d => rfl) ?_
  refine y_gI (i := 4) (e := ln) rfl rfl rfl (hC 8 _ _ rfl) rfl rfl ?_
  refine y_in rfl rfl (fun d => rfl) ?_
  refine y_ret rfl (fun d => rfl) ?_
  refine y_nv ?_
  refine y_ret rfl (fun d => rfl) ?_
  refine y_nv ?_
  refine y_ret rfl (fun d => rfl) ?_
  exact k _ (fun k h8 h9 => by rw [v_up_ne h8, v_up_ne h9, v_up_ne h8, v_up_ne h9, v_up_ne h8, v_up_ne h8, v_up_ne h8, v_up_ne h8]) ⟨by show (0 : Int) ≤ 2; decide, by show (2 : Int) ≤ 20; decide⟩
set_option maxRecDepth 100000 in
set_option maxHeartbeats 4000000 in
theorem ca_0_2 (hC : ClF S) (hXb : X 1 = m_bodies) (hXa : X 2 = m_above) (h3X : X 3 = []) {b : Nat} {nb ln : Int} {x : Int32} (hb : b < 8) (hk : V (10 + 6 * b) 1 = 0) (hn : V (10 + 6 * b) 0 = nb) (k : ∀ V2, (∀ k, k ≠ 8 → k ≠ 9 → V2 k = V k) → 0 ≤ V2 8 1 ∧ V2 8 1 ≤ 20 → K u w (some (.int (acV 0 2 x nb ln))) S V2) : y_R X 30 61 u w [.ref 8, .ref (10 + 6 * b), iv ln, iv 2, .int x] S (v_up V 8 1 0) K := by
  refine y_ent (lv' := [(0, .ref 8), (1, .ref (10 + 6 * b)), (2, iv ln), (3, iv 2), (4, .int x)]) (Nat.le_of_ble_eq_true rfl) rfl ?_
  refine y_ld (x := .ref 8) rfl rfl (fun d => rfl) ?_
  refine y_ld (x := .ref (10 + 6 * b)) rfl rfl (fun d => rfl) ?_
  refine y_gI (i := 1) (e := 0) rfl rfl rfl (bx_ob hC (i := b) (by omega)) rfl (by rw [v_up_ne (by omega)]; exact hk) ?_
  refine y_pI (i := 2) rfl rfl rfl (hC 8 _ _ rfl) rfl rfl ?_
  refine y_ld (x := .ref 8) rfl rfl (fun d => rfl) ?_
  refine y_ld (x := .ref (10 + 6 * b)) rfl rfl (fun d => rfl) ?_
  refine y_gI (i := 0) (e := nb) rfl rfl rfl (bx_ob hC (i := b) (by omega)) rfl (by rw [v_up_ne (by omega), v_up_ne (by omega)]; exact hn) ?_
  refine y_pI (i := 3) rfl rfl rfl (hC 8 _ _ rfl) rfl rfl ?_
  refine y_ld (x := .ref 8) rfl rfl (fun d => rfl) ?_
  refine y_ld (x := iv ln) rfl rfl (fun d => rfl) ?_
  refine y_pI (i := 4) rfl rfl rfl (hC 8 _ _ rfl) rfl rfl ?_
  refine y_ld (x := .ref 8) rfl rfl (fun d => rfl) ?_
  refine y_ld (x := .ref 8) rfl rfl (fun d => rfl) ?_
  refine y_gI (i := 2) (e := 0) rfl rfl rfl (hC 8 _ _ rfl) rfl rfl ?_
  refine y_ld (x := iv 2) rfl rfl (fun d => rfl) ?_
  refine y_ld (x := .int x) rfl rfl (fun d => rfl) ?_
  refine y_ic rfl rfl ?_
  refine y_cV (D' := 29) (as := [.ref 8, iv 0, iv 2, .int x, iv 0]) rfl rfl rfl rfl rfl (hC 8 _ _ rfl) ⟨rfl, (Nat.le_of_ble_eq_true rfl), (Nat.le_of_ble_eq_true rfl)⟩ (by decide) ?_
  refine y_ent (lv' := [(0, .ref 8), (1, iv 0), (2, iv 2), (3, .int x), (4, iv 0)]) (Nat.le_of_ble_eq_true rfl) rfl ?_
  refine y_ld (x := iv 0) rfl rfl (fun d => rfl) ?_
  refine y_zlt rfl rfl rfl (by decide) (fun g1 => absurd g1 (by decide)) (fun g1 => ?_)
  refine y_ld (x := iv 0) rfl rfl (fun d => rfl) ?_
  refine y_bi rfl rfl (by decide) ?_
  refine y_jge rfl rfl rfl (by decide) (fun g2 => absurd g2 (by decide)) (fun g2 => ?_)
  refine y_ld (x := iv 0) rfl rfl (fun d => rfl) ?_
  refine y_bi rfl rfl (by decide) ?_
  refine y_jle rfl rfl rfl (by decide) (fun g3 => ?_) (fun g3 => absurd g3 (by decide))
  refine y_ld (x := iv 0) rfl rfl (fun d => rfl) ?_
  refine y_st (lv' := [(5, iv 0), (0, .ref 8), (1, iv 0), (2, iv 2), (3, .int x), (4, iv 0)]) rfl rfl (fun d => rfl) ?_
  refine y_ic rfl rfl ?_
  refine y_st (lv' := [(6, iv 0), (5, iv 0), (0, .ref 8), (1, iv 0), (2, iv 2), (3, .int x), (4, iv 0)]) rfl rfl (fun d => rfl) ?_
  refine y_ld (x := iv 0) rfl rfl (fun d => rfl) ?_
  refine y_bi rfl rfl (by decide) ?_
  refine y_jge rfl rfl rfl (by decide) (fun g4 => absurd g4 (by decide)) (fun g4 => ?_)
  refine y_ld (x := iv 0) rfl rfl (fun d => rfl) ?_
  refine y_zle rfl rfl rfl (by decide) (fun g5 => ?_) (fun g5 => absurd g5 (by decide))
  refine y_in rfl rfl (fun d => rfl) ?_
  refine y_ld (x := iv 0) rfl rfl (fun d => rfl) ?_
  refine y_ic rfl rfl ?_
  refine y_mul (z := 0) rfl rfl rfl ?_
  refine y_ld (x := iv 2) rfl rfl (fun d => rfl) ?_
  refine y_add (z := 2) rfl rfl rfl ?_
  refine y_sti (n := 1) (i := 2) (f := 3) rfl rfl hXb h3X (by decide) rfl rfl ?_
  refine y_st (lv' := [(6, iv 3), (5, iv 0), (0, .ref 8), (1, iv 0), (2, iv 2), (3, .int x), (4, iv 0)]) rfl rfl (fun d => rfl) ?_
  refine y_ld (x := .ref 8) rfl rfl (fun d => rfl) ?_
  refine y_gI (i := 1) (e := 0) rfl rfl rfl (hC 8 _ _ rfl) rfl rfl ?_
  refine y_bi rfl rfl (by decide) ?_
  refine y_jge rfl rfl rfl (by decide) (fun g6 => absurd g6 (by decide)) (fun g6 => ?_)
  refine y_ld (x := .ref 8) rfl rfl (fun d => rfl) ?_
  refine y_gR (i := 0) rfl rfl rfl (hC 8 _ _ rfl) rfl ?_
  refine y_ld (x := .ref 8) rfl rfl (fun d => rfl) ?_
  refine y_gI (i := 1) (e := 0) rfl rfl rfl (hC 8 _ _ rfl) rfl rfl ?_
  refine y_ld (x := iv 3) rfl rfl (fun d => rfl) ?_
  refine y_ist (q := 0) rfl rfl (cl_ia hC (k := 9) (N := 20) rfl) (by decide) (by decide) rfl ?_
  refine y_ld (x := .ref 8) rfl rfl (fun d => rfl) ?_
  refine y_in rfl rfl (fun d => rfl) ?_
  refine y_gI (i := 1) (e := 0) rfl rfl rfl (hC 8 _ _ rfl) rfl rfl ?_
  refine y_ic rfl rfl ?_
  refine y_add (z := 1) rfl rfl rfl ?_
  refine y_pI (i := 1) rfl rfl rfl (hC 8 _ _ rfl) rfl rfl ?_
  refine y_ld (x := .ref 8) rfl rfl (fun d => rfl) ?_
  refine y_ld (x := iv 3) rfl rfl (fun d => rfl) ?_
  refine y_in rfl rfl (fun d => rfl) ?_
  refine y_ld (x := iv 0) rfl rfl (fun d => rfl) ?_
  refine y_sti (n := 2) (i := 0) (f := (-1)) rfl rfl hXa h3X (by decide) rfl rfl ?_
  refine y_ld (x := .int x) rfl rfl (fun d => rfl) ?_
  refine y_ld (x := iv 0) rfl rfl (fun d => rfl) ?_
  refine y_ic rfl rfl ?_
  refine y_add (z := 1) rfl rfl rfl ?_
  refine y_cV (D' := 28) (as := [.ref 8, iv 3, iv (-1), .int x, iv 1]) rfl rfl rfl rfl rfl (hC 8 _ _ rfl) ⟨rfl, (Nat.le_of_ble_eq_true rfl), (Nat.le_of_ble_eq_true rfl)⟩ (by decide) ?_
  refine y_ent (lv' := [(0, .ref 8), (1, iv 3), (2, iv (-1)), (3, .int x), (4, iv 1)]) (Nat.le_of_ble_eq_true rfl) rfl ?_
  refine y_ld (x := iv 3) rfl rfl (fun d => rfl) ?_
  refine y_in (pc' := 109) rfl rfl (fun d => rfl) ?_
  refine y_ld (x := .ref 8) rfl rfl (fun d => rfl) ?_
  refine y_ld (x := .ref 8) rfl rfl (fun d => rfl) ?_
  refine y_gI (i := 2) (e := 0) rfl rfl rfl (hC 8 _ _ rfl) rfl rfl ?_
  refine y_ic rfl rfl ?_
  refine y_ld (x := .int x) rfl rfl (fun d => rfl) ?_
  refine y_ld (x := iv 1) rfl rfl (fun d => rfl) ?_
  refine y_cV (D' := 27) (as := [.ref 8, iv 0, iv 1, .int x, iv 1]) rfl rfl rfl rfl rfl (hC 8 _ _ rfl) ⟨rfl, (Nat.le_of_ble_eq_true rfl), (Nat.le_of_ble_eq_true rfl)⟩ (by decide) ?_
  refine y_ent (lv' := [(0, .ref 8), (1, iv 0), (2, iv 1), (3, .int x), (4, iv 1)]) (Nat.le_of_ble_eq_true rfl) rfl ?_
  refine y_ld (x := iv 0) rfl rfl (fun d => rfl) ?_
  refine y_zlt rfl rfl rfl (by decide) (fun g7 => absurd g7 (by decide)) (fun g7 => ?_)
  refine y_ld (x := iv 0) rfl rfl (fun d => rfl) ?_
  refine y_bi rfl rfl (by decide) ?_
  refine y_jge rfl rfl rfl (by decide) (fun g8 => absurd g8 (by decide)) (fun g8 => ?_)
  refine y_ld (x := iv 1) rfl rfl (fun d => rfl) ?_
  refine y_bi rfl rfl (by decide) ?_
  refine y_jle rfl rfl rfl (by decide) (fun g9 => ?_) (fun g9 => absurd g9 (by decide))
  refine y_ld (x := iv 0) rfl rfl (fun d => rfl) ?_
  refine y_st (lv' := [(5, iv 0), (0, .ref 8), (1, iv 0), (2, iv 1), (3, .int x), (4, iv 1)]) rfl rfl (fun d => rfl) ?_
  refine y_ic rfl rfl ?_
  refine y_st (lv' := [(6, iv 0), (5, iv 0), (0, .ref 8), (1, iv 0), (2, iv 1), (3, .int x), (4, iv 1)]) rfl rfl (fun d => rfl) ?_
  refine y_ld (x := iv 0) rfl rfl (fun d => rfl) ?_
  refine y_bi rfl rfl (by decide) ?_
  refine y_jge rfl rfl rfl (by decide) (fun g10 => absurd g10 (by decide)) (fun g10 => ?_)
  refine y_ld (x := iv 0) rfl rfl (fun d => rfl) ?_
  refine y_zle rfl rfl rfl (by decide) (fun g11 => ?_) (fun g11 => absurd g11 (by decide))
  refine y_in rfl rfl (fun d => rfl) ?_
  refine y_ld (x := iv 0) rfl rfl (fun d => rfl) ?_
  refine y_ic rfl rfl ?_
  refine y_mul (z := 0) rfl rfl rfl ?_
  refine y_ld (x := iv 1) rfl rfl (fun d => rfl) ?_
  refine y_add (z := 1) rfl rfl rfl ?_
  refine y_sti (n := 1) (i := 1) (f := 2) rfl rfl hXb h3X (by decide) rfl rfl ?_
  refine y_st (lv' := [(6, iv 2), (5, iv 0), (0, .ref 8), (1, iv 0), (2, iv 1), (3, .int x), (4, iv 1)]) rfl rfl (fun d => rfl) ?_
  refine y_ld (x := .ref 8) rfl rfl (fun d => rfl) ?_
  refine y_gI (i := 1) (e := 1) rfl rfl rfl (hC 8 _ _ rfl) rfl rfl ?_
  refine y_bi rfl rfl (by decide) ?_
  refine y_jge rfl rfl rfl (by decide) (fun g12 => absurd g12 (by decide)) (fun g12 => ?_)
  refine y_ld (x := .ref 8) rfl rfl (fun d => rfl) ?_
  refine y_gR (i := 0) rfl rfl rfl (hC 8 _ _ rfl) rfl ?_
  refine y_ld (x := .ref 8) rfl rfl (fun d => rfl) ?_
  refine y_gI (i := 1) (e := 1) rfl rfl rfl (hC 8 _ _ rfl) rfl rfl ?_
  refine y_ld (x := iv 2) rfl rfl (fun d => rfl) ?_
  refine y_ist (q := 1) rfl rfl (cl_ia hC (k := 9) (N := 20) rfl) (by decide) (by decide) rfl ?_
  refine y_ld (x := .ref 8) rfl rfl (fun d => rfl) ?_
  refine y_in rfl rfl (fun d => rfl) ?_
  refine y_gI (i := 1) (e := 1) rfl rfl rfl (hC 8 _ _ rfl) rfl rfl ?_
  refine y_ic rfl rfl ?_
  refine y_add (z := 2) rfl rfl rfl ?_
  refine y_pI (i := 1) rfl rfl rfl (hC 8 _ _ rfl) rfl rfl ?_
  refine y_ld (x := .ref 8) rfl rfl (fun d => rfl) ?_
  refine y_ld (x := iv 2) rfl rfl (fun d => rfl) ?_
  refine y_in rfl rfl (fun d => rfl) ?_
  refine y_ld (x := iv 0) rfl rfl (fun d => rfl) ?_
  refine y_sti (n := 2) (i := 0) (f := (-1)) rfl rfl hXa h3X (by decide) rfl rfl ?_
  refine y_ld (x := .int x) rfl rfl (fun d => rfl) ?_
  refine y_ld (x := iv 1) rfl rfl (fun d => rfl) ?_
  refine y_ic rfl rfl ?_
  refine y_add (z := 2) rfl rfl rfl ?_
  refine y_cV (D' := 26) (as := [.ref 8, iv 2, iv (-1), .int x, iv 2]) rfl rfl rfl rfl rfl (hC 8 _ _ rfl) ⟨rfl, (Nat.le_of_ble_eq_true rfl), (Nat.le_of_ble_eq_true rfl)⟩ (by decide) ?_
  refine y_ent (lv' := [(0, .ref 8), (1, iv 2), (2, iv (-1)), (3, .int x), (4, iv 2)]) (Nat.le_of_ble_eq_true rfl) rfl ?_
  refine y_ld (x := iv 2) rfl rfl (fun d => rfl) ?_
  refine y_in (pc' := 91) rfl rfl (fun d => rfl) ?_
  refine y_ld (x := .ref 8) rfl rfl (fun d => rfl) ?_
  refine y_ld (x := .ref 8) rfl rfl (fun d => rfl) ?_
  refine y_gI (i := 2) (e := 0) rfl rfl rfl (hC 8 _ _ rfl) rfl rfl ?_
  refine y_ic rfl rfl ?_
  refine y_ld (x := .int x) rfl rfl (fun d => rfl) ?_
  refine y_ld (x := iv 2) rfl rfl (fun d => rfl) ?_
  refine y_cV (D' := 25) (as := [.ref 8, iv 0, iv 0, .int x, iv 2]) rfl rfl rfl rfl rfl (hC 8 _ _ rfl) ⟨rfl, (Nat.le_of_ble_eq_true rfl), (Nat.le_of_ble_eq_true rfl)⟩ (by decide) ?_
  refine y_ent (lv' := [(0, .ref 8), (1, iv 0), (2, iv 0), (3, .int x), (4, iv 2)]) (Nat.le_of_ble_eq_true rfl) rfl ?_
  refine y_ld (x := iv 0) rfl rfl (fun d => rfl) ?_
  refine y_zlt rfl rfl rfl (by decide) (fun g13 => absurd g13 (by decide)) (fun g13 => ?_)
  refine y_ld (x := iv 0) rfl rfl (fun d => rfl) ?_
  refine y_bi rfl rfl (by decide) ?_
  refine y_jge rfl rfl rfl (by decide) (fun g14 => absurd g14 (by decide)) (fun g14 => ?_)
  refine y_ld (x := iv 2) rfl rfl (fun d => rfl) ?_
  refine y_bi rfl rfl (by decide) ?_
  refine y_jle rfl rfl rfl (by decide) (fun g15 => ?_) (fun g15 => absurd g15 (by decide))
  refine y_ld (x := iv 0) rfl rfl (fun d => rfl) ?_
  refine y_st (lv' := [(5, iv 0), (0, .ref 8), (1, iv 0), (2, iv 0), (3, .int x), (4, iv 2)]) rfl rfl (fun d => rfl) ?_
  refine y_ic rfl rfl ?_
  refine y_st (lv' := [(6, iv 0), (5, iv 0), (0, .ref 8), (1, iv 0), (2, iv 0), (3, .int x), (4, iv 2)]) rfl rfl (fun d => rfl) ?_
  refine y_ld (x := iv 0) rfl rfl (fun d => rfl) ?_
  refine y_bi rfl rfl (by decide) ?_
  refine y_jge rfl rfl rfl (by decide) (fun g16 => absurd g16 (by decide)) (fun g16 => ?_)
  refine y_ld (x := iv 0) rfl rfl (fun d => rfl) ?_
  refine y_zle rfl rfl rfl (by decide) (fun g17 => ?_) (fun g17 => absurd g17 (by decide))
  refine y_in rfl rfl (fun d => rfl) ?_
  refine y_ld (x := iv 0) rfl rfl (fun d => rfl) ?_
  refine y_ic rfl rfl ?_
  refine y_mul (z := 0) rfl rfl rfl ?_
  refine y_ld (x := iv 0) rfl rfl (fun d => rfl) ?_
  refine y_add (z := 0) rfl rfl rfl ?_
  refine y_sti (n := 1) (i := 0) (f := 1) rfl rfl hXb h3X (by decide) rfl rfl ?_
  refine y_st (lv' := [(6, iv 1), (5, iv 0), (0, .ref 8), (1, iv 0), (2, iv 0), (3, .int x), (4, iv 2)]) rfl rfl (fun d => rfl) ?_
  refine y_ld (x := .ref 8) rfl rfl (fun d => rfl) ?_
  refine y_gI (i := 1) (e := 2) rfl rfl rfl (hC 8 _ _ rfl) rfl rfl ?_
  refine y_bi rfl rfl (by decide) ?_
  refine y_jge rfl rfl rfl (by decide) (fun g18 => absurd g18 (by decide)) (fun g18 => ?_)
  refine y_ld (x := .ref 8) rfl rfl (fun d => rfl) ?_
  refine y_gR (i := 0) rfl rfl rfl (hC 8 _ _ rfl) rfl ?_
  refine y_ld (x := .ref 8) rfl rfl (fun d => rfl) ?_
  refine y_gI (i := 1) (e := 2) rfl rfl rfl (hC 8 _ _ rfl) rfl rfl ?_
  refine y_ld (x := iv 1) rfl rfl (fun d => rfl) ?_
  refine y_ist (q := 2) rfl rfl (cl_ia hC (k := 9) (N := 20) rfl) (by decide) (by decide) rfl ?_
  refine y_ld (x := .ref 8) rfl rfl (fun d => rfl) ?_
  refine y_in rfl rfl (fun d => rfl) ?_
  refine y_gI (i := 1) (e := 2) rfl rfl rfl (hC 8 _ _ rfl) rfl rfl ?_
  refine y_ic rfl rfl ?_
  refine y_add (z := 3) rfl rfl rfl ?_
  refine y_pI (i := 1) rfl rfl rfl (hC 8 _ _ rfl) rfl rfl ?_
  refine y_ld (x := .ref 8) rfl rfl (fun d => rfl) ?_
  refine y_ld (x := iv 1) rfl rfl (fun d => rfl) ?_
  refine y_in rfl rfl (fun d => rfl) ?_
  refine y_ld (x := iv 0) rfl rfl (fun d => rfl) ?_
  refine y_sti (n := 2) (i := 0) (f := (-1)) rfl rfl hXa h3X (by decide) rfl rfl ?_
  refine y_ld (x := .int x) rfl rfl (fun d => rfl) ?_
  refine y_ld (x := iv 2) rfl rfl (fun d => rfl) ?_
  refine y_ic rfl rfl ?_
  refine y_add (z := 3) rfl rfl rfl ?_
  refine y_cV (D' := 24) (as := [.ref 8, iv 1, iv (-1), .int x, iv 3]) rfl rfl rfl rfl rfl (hC 8 _ _ rfl) ⟨rfl, (Nat.le_of_ble_eq_true rfl), (Nat.le_of_ble_eq_true rfl)⟩ (by decide) ?_
  refine y_ent (lv' := [(0, .ref 8), (1, iv 1), (2, iv (-1)), (3, .int x), (4, iv 3)]) (Nat.le_of_ble_eq_true rfl) rfl ?_
  refine y_ld (x := iv 1) rfl rfl (fun d => rfl) ?_
  refine y_in (pc' := 84) rfl rfl (fun d => rfl) ?_
  refine y_ld (x := .int x) rfl rfl (fun d => rfl) ?_
  refine y_ld (x := .ref 8) rfl rfl (fun d => rfl) ?_
  refine y_gI (i := 3) (e := nb) rfl rfl rfl (hC 8 _ _ rfl) rfl rfl ?_
  refine y_in rfl rfl (fun d => rfl) ?_
  refine y_ret rfl (fun d => rfl) ?_
  refine y_nv ?_
  refine y_ret rfl (fun d => rfl) ?_
  refine y_nv ?_
  refine y_ld (x := .ref 8) rfl rfl (fun d => rfl) ?_
  refine y_gI (i := 4) (e := ln) rfl rfl rfl (hC 8 _ _ rfl) rfl rfl ?_
  refine y_in rfl rfl (fun d => rfl) ?_
  refine y_ret rfl (fun d => rfl) ?_
  refine y_nv ?_
  refine y_ret rfl (fun d => rfl) ?_
  refine y_nv ?_
  refine y_ic rfl rfl ?_
  refine y_in rfl rfl (fun d => rfl) ?_
  refine y_ret rfl (fun d => rfl) ?_
  refine y_nv ?_
  refine y_ret rfl (fun d => rfl) ?_
  refine y_nv ?_
  refine y_ret rfl (fun d => rfl) ?_
  exact k _ (fun k h8 h9 => by rw [v_up_ne h8, v_up_ne h9, v_up_ne h8, v_up_ne h9, v_up_ne h8, v_up_ne h9, v_up_ne h8, v_up_ne h8, v_up_ne h8, v_up_ne h8]) ⟨by show (0 : Int) ≤ 3; decide, by show (3 : Int) ≤ 20; decide⟩
set_option maxRecDepth 100000 in
set_option maxHeartbeats 4000000 in
theorem ca_1_0 (hC : ClF S) (hXb : X 1 = m_bodies) (hXa : X 2 = m_above) (h3X : X 3 = []) {b : Nat} {nb ln : Int} {x : Int32} (hb : b < 8) (hk : V (10 + 6 * b) 1 = 1) (hn : V (10 + 6 * b) 0 = nb) (k : ∀ V2, (∀ k, k ≠ 8 → k ≠ 9 → V2 k = V k) → 0 ≤ V2 8 1 ∧ V2 8 1 ≤ 20 → K u w (some (.int (acV 1 0 x nb ln))) S V2) : y_R X 30 61 u w [.ref 8, .ref (10 + 6 * b), iv ln, iv 0, .int x] S (v_up V 8 1 0) K := by
  refine y_ent (lv' := [(0, .ref 8), (1, .ref (10 + 6 * b)), (2, iv ln), (3, iv 0), (4, .int x)]) (Nat.le_of_ble_eq_true rfl) rfl ?_
  refine y_ld (x := .ref 8) rfl rfl (fun d => rfl) ?_
  refine y_ld (x := .ref (10 + 6 * b)) rfl rfl (fun d => rfl) ?_
  refine y_gI (i := 1) (e := 1) rfl rfl rfl (bx_ob hC (i := b) (by omega)) rfl (by rw [v_up_ne (by omega)]; exact hk) ?_
  refine y_pI (i := 2) rfl rfl rfl (hC 8 _ _ rfl) rfl rfl ?_
  refine y_ld (x := .ref 8) rfl rfl (fun d => rfl) ?_
  refine y_ld (x := .ref (10 + 6 * b)) rfl rfl (fun d => rfl) ?_
  refine y_gI (i := 0) (e := nb) rfl rfl rfl (bx_ob hC (i := b) (by omega)) rfl (by rw [v_up_ne (by omega), v_up_ne (by omega)]; exact hn) ?_
  refine y_pI (i := 3) rfl rfl rfl (hC 8 _ _ rfl) rfl rfl ?_
  refine y_ld (x := .ref 8) rfl rfl (fun d => rfl) ?_
  refine y_ld (x := iv ln) rfl rfl (fun d => rfl) ?_
  refine y_pI (i := 4) rfl rfl rfl (hC 8 _ _ rfl) rfl rfl ?_
  refine y_ld (x := .ref 8) rfl rfl (fun d => rfl) ?_
  refine y_ld (x := .ref 8) rfl rfl (fun d => rfl) ?_
  refine y_gI (i := 2) (e := 1) rfl rfl rfl (hC 8 _ _ rfl) rfl rfl ?_
  refine y_ld (x := iv 0) rfl rfl (fun d => rfl) ?_
  refine y_ld (x := .int x) rfl rfl (fun d => rfl) ?_
  refine y_ic rfl rfl ?_
  refine y_cV (D' := 29) (as := [.ref 8, iv 1, iv 0, .int x, iv 0]) rfl rfl rfl rfl rfl (hC 8 _ _ rfl) ⟨rfl, (Nat.le_of_ble_eq_true rfl), (Nat.le_of_ble_eq_true rfl)⟩ (by decide) ?_
  refine y_ent (lv' := [(0, .ref 8), (1, iv 1), (2, iv 0), (3, .int x), (4, iv 0)]) (Nat.le_of_ble_eq_true rfl) rfl ?_
  refine y_ld (x := iv 1) rfl rfl (fun d => rfl) ?_
  refine y_zlt rfl rfl rfl (by decide) (fun g1 => absurd g1 (by decide)) (fun g1 => ?_)
  refine y_ld (x := iv 1) rfl rfl (fun d => rfl) ?_
  refine y_bi rfl rfl (by decide) ?_
  refine y_jge rfl rfl rfl (by decide) (fun g2 => absurd g2 (by decide)) (fun g2 => ?_)
  refine y_ld (x := iv 0) rfl rfl (fun d => rfl) ?_
  refine y_bi rfl rfl (by decide) ?_
  refine y_jle rfl rfl rfl (by decide) (fun g3 => ?_) (fun g3 => absurd g3 (by decide))
  refine y_ld (x := iv 1) rfl rfl (fun d => rfl) ?_
  refine y_st (lv' := [(5, iv 1), (0, .ref 8), (1, iv 1), (2, iv 0), (3, .int x), (4, iv 0)]) rfl rfl (fun d => rfl) ?_
  refine y_ic rfl rfl ?_
  refine y_st (lv' := [(6, iv 0), (5, iv 1), (0, .ref 8), (1, iv 1), (2, iv 0), (3, .int x), (4, iv 0)]) rfl rfl (fun d => rfl) ?_
  refine y_ld (x := iv 0) rfl rfl (fun d => rfl) ?_
  refine y_bi rfl rfl (by decide) ?_
  refine y_jge rfl rfl rfl (by decide) (fun g4 => absurd g4 (by decide)) (fun g4 => ?_)
  refine y_ld (x := iv 1) rfl rfl (fun d => rfl) ?_
  refine y_zle rfl rfl rfl (by decide) (fun g5 => absurd g5 (by decide)) (fun g5 => ?_)
  refine y_in rfl rfl (fun d => rfl) ?_
  refine y_ld (x := iv 1) rfl rfl (fun d => rfl) ?_
  refine y_ic rfl rfl ?_
  refine y_mul (z := 3) rfl rfl rfl ?_
  refine y_ld (x := iv 0) rfl rfl (fun d => rfl) ?_
  refine y_add (z := 3) rfl rfl rfl ?_
  refine y_sti (n := 1) (i := 3) (f := 0) rfl rfl hXb h3X (by decide) rfl rfl ?_
  refine y_zeq rfl rfl rfl (by decide) (fun g6 => ?_) (fun g6 => absurd g6 (by decide))
  refine y_in rfl rfl (fun d => rfl) ?_
  refine y_ld (x := iv 1) rfl rfl (fun d => rfl) ?_
  refine y_sti (n := 2) (i := 1) (f := 0) rfl rfl hXa h3X (by decide) rfl rfl ?_
  refine y_st (lv' := [(5, iv 0), (6, iv 0), (0, .ref 8), (1, iv 1), (2, iv 0), (3, .int x), (4, iv 0)]) rfl rfl (fun d => rfl) ?_
  refine y_inc (z := 1) (lv' := [(6, iv 1), (5, iv 0), (0, .ref 8), (1, iv 1), (2, iv 0), (3, .int x), (4, iv 0)]) rfl rfl rfl rfl rfl ?_
  refine y_go rfl rfl ?_
  refine y_ld (x := iv 1) rfl rfl (fun d => rfl) ?_
  refine y_bi rfl rfl (by decide) ?_
  refine y_jge rfl rfl rfl (by decide) (fun g7 => absurd g7 (by decide)) (fun g7 => ?_)
  refine y_ld (x := iv 0) rfl rfl (fun d => rfl) ?_
  refine y_zle rfl rfl rfl (by decide) (fun g8 => ?_) (fun g8 => absurd g8 (by decide))
  refine y_in rfl rfl (fun d => rfl) ?_
  refine y_ld (x := iv 0) rfl rfl (fun d => rfl) ?_
  refine y_ic rfl rfl ?_
  refine y_mul (z := 0) rfl rfl rfl ?_
  refine y_ld (x := iv 0) rfl rfl (fun d => rfl) ?_
  refine y_add (z := 0) rfl rfl rfl ?_
  refine y_sti (n := 1) (i := 0) (f := 1) rfl rfl hXb h3X (by decide) rfl rfl ?_
  refine y_st (lv' := [(6, iv 1), (5, iv 0), (0, .ref 8), (1, iv 1), (2, iv 0), (3, .int x), (4, iv 0)]) rfl rfl (fun d => rfl) ?_
  refine y_ld (x := .ref 8) rfl rfl (fun d => rfl) ?_
  refine y_gI (i := 1) (e := 0) rfl rfl rfl (hC 8 _ _ rfl) rfl rfl ?_
  refine y_bi rfl rfl (by decide) ?_
  refine y_jge rfl rfl rfl (by decide) (fun g9 => absurd g9 (by decide)) (fun g9 => ?_)
  refine y_ld (x := .ref 8) rfl rfl (fun d => rfl) ?_
  refine y_gR (i := 0) rfl rfl rfl (hC 8 _ _ rfl) rfl ?_
  refine y_ld (x := .ref 8) rfl rfl (fun d => rfl) ?_
  refine y_gI (i := 1) (e := 0) rfl rfl rfl (hC 8 _ _ rfl) rfl rfl ?_
  refine y_ld (x := iv 1) rfl rfl (fun d => rfl) ?_
  refine y_ist (q := 0) rfl rfl (cl_ia hC (k := 9) (N := 20) rfl) (by decide) (by decide) rfl ?_
  refine y_ld (x := .ref 8) rfl rfl (fun d => rfl) ?_
  refine y_in rfl rfl (fun d => rfl) ?_
  refine y_gI (i := 1) (e := 0) rfl rfl rfl (hC 8 _ _ rfl) rfl rfl ?_
  refine y_ic rfl rfl ?_
  refine y_add (z := 1) rfl rfl rfl ?_
  refine y_pI (i := 1) rfl rfl rfl (hC 8 _ _ rfl) rfl rfl ?_
  refine y_ld (x := .ref 8) rfl rfl (fun d => rfl) ?_
  refine y_ld (x := iv 1) rfl rfl (fun d => rfl) ?_
  refine y_in rfl rfl (fun d => rfl) ?_
  refine y_ld (x := iv 0) rfl rfl (fun d => rfl) ?_
  refine y_sti (n := 2) (i := 0) (f := (-1)) rfl rfl hXa h3X (by decide) rfl rfl ?_
  refine y_ld (x := .int x) rfl rfl (fun d => rfl) ?_
  refine y_ld (x := iv 0) rfl rfl (fun d => rfl) ?_
  refine y_ic rfl rfl ?_
  refine y_add (z := 1) rfl rfl rfl ?_
  refine y_cV (D' := 28) (as := [.ref 8, iv 1, iv (-1), .int x, iv 1]) rfl rfl rfl rfl rfl (hC 8 _ _ rfl) ⟨rfl, (Nat.le_of_ble_eq_true rfl), (Nat.le_of_ble_eq_true rfl)⟩ (by decide) ?_
  refine y_ent (lv' := [(0, .ref 8), (1, iv 1), (2, iv (-1)), (3, .int x), (4, iv 1)]) (Nat.le_of_ble_eq_true rfl) rfl ?_
  refine y_ld (x := iv 1) rfl rfl (fun d => rfl) ?_
  refine y_in (pc' := 84) rfl rfl (fun d => rfl) ?_
  refine y_ld (x := .int x) rfl rfl (fun d => rfl) ?_
  refine y_ld (x := .ref 8) rfl rfl (fun d => rfl) ?_
  refine y_gI (i := 3) (e := nb) rfl rfl rfl (hC 8 _ _ rfl) rfl rfl ?_
  refine y_in rfl rfl (fun d => rfl) ?_
  refine y_ret rfl (fun d => rfl) ?_
  refine y_nv ?_
  refine y_ret rfl (fun d => rfl) ?_
  refine y_nv ?_
  refine y_ret rfl (fun d => rfl) ?_
  exact k _ (fun k h8 h9 => by rw [v_up_ne h8, v_up_ne h9, v_up_ne h8, v_up_ne h8, v_up_ne h8, v_up_ne h8]) ⟨by show (0 : Int) ≤ 1; decide, by show (1 : Int) ≤ 20; decide⟩
set_option maxRecDepth 100000 in
set_option maxHeartbeats 4000000 in
theorem ca_1_1 (hC : ClF S) (hXb : X 1 = m_bodies) (hXa : X 2 = m_above) (h3X : X 3 = []) {b : Nat} {nb ln : Int} {x : Int32} (hb : b < 8) (hk : V (10 + 6 * b) 1 = 1) (hn : V (10 + 6 * b) 0 = nb) (k : ∀ V2, (∀ k, k ≠ 8 → k ≠ 9 → V2 k = V k) → 0 ≤ V2 8 1 ∧ V2 8 1 ≤ 20 → K u w (some (.int (acV 1 1 x nb ln))) S V2) : y_R X 30 61 u w [.ref 8, .ref (10 + 6 * b), iv ln, iv 1, .int x] S (v_up V 8 1 0) K := by
  refine y_ent (lv' := [(0, .ref 8), (1, .ref (10 + 6 * b)), (2, iv ln), (3, iv 1), (4, .int x)]) (Nat.le_of_ble_eq_true rfl) rfl ?_
  refine y_ld (x := .ref 8) rfl rfl (fun d => rfl) ?_
  refine y_ld (x := .ref (10 + 6 * b)) rfl rfl (fun d => rfl) ?_
  refine y_gI (i := 1) (e := 1) rfl rfl rfl (bx_ob hC (i := b) (by omega)) rfl (by rw [v_up_ne (by omega)]; exact hk) ?_
  refine y_pI (i := 2) rfl rfl rfl (hC 8 _ _ rfl) rfl rfl ?_
  refine y_ld (x := .ref 8) rfl rfl (fun d => rfl) ?_
  refine y_ld (x := .ref (10 + 6 * b)) rfl rfl (fun d => rfl) ?_
  refine y_gI (i := 0) (e := nb) rfl rfl rfl (bx_ob hC (i := b) (by omega)) rfl (by rw [v_up_ne (by omega), v_up_ne (by omega)]; exact hn) ?_
  refine y_pI (i := 3) rfl rfl rfl (hC 8 _ _ rfl) rfl rfl ?_
  refine y_ld (x := .ref 8) rfl rfl (fun d => rfl) ?_
  refine y_ld (x := iv ln) rfl rfl (fun d => rfl) ?_
  refine y_pI (i := 4) rfl rfl rfl (hC 8 _ _ rfl) rfl rfl ?_
  refine y_ld (x := .ref 8) rfl rfl (fun d => rfl) ?_
  refine y_ld (x := .ref 8) rfl rfl (fun d => rfl) ?_
  refine y_gI (i := 2) (e := 1) rfl rfl rfl (hC 8 _ _ rfl) rfl rfl ?_
  refine y_ld (x := iv 1) rfl rfl (fun d => rfl) ?_
  refine y_ld (x := .int x) rfl rfl (fun d => rfl) ?_
  refine y_ic rfl rfl ?_
  refine y_cV (D' := 29) (as := [.ref 8, iv 1, iv 1, .int x, iv 0]) rfl rfl rfl rfl rfl (hC 8 _ _ rfl) ⟨rfl, (Nat.le_of_ble_eq_true rfl), (Nat.le_of_ble_eq_true rfl)⟩ (by decide) ?_
  refine y_ent (lv' := [(0, .ref 8), (1, iv 1), (2, iv 1), (3, .int x), (4, iv 0)]) (Nat.le_of_ble_eq_true rfl) rfl ?_
  refine y_ld (x := iv 1) rfl rfl (fun d => rfl) ?_
  refine y_zlt rfl rfl rfl (by decide) (fun g1 => absurd g1 (by decide)) (fun g1 => ?_)
  refine y_ld (x := iv 1) rfl rfl (fun d => rfl) ?_
  refine y_bi rfl rfl (by decide) ?_
  refine y_jge rfl rfl rfl (by decide) (fun g2 => absurd g2 (by decide)) (fun g2 => ?_)
  refine y_ld (x := iv 0) rfl rfl (fun d => rfl) ?_
  refine y_bi rfl rfl (by decide) ?_
  refine y_jle rfl rfl rfl (by decide) (fun g3 => ?_) (fun g3 => absurd g3 (by decide))
  refine y_ld (x := iv 1) rfl rfl (fun d => rfl) ?_
  refine y_st (lv' := [(5, iv 1), (0, .ref 8), (1, iv 1), (2, iv 1), (3, .int x), (4, iv 0)]) rfl rfl (fun d => rfl) ?_
  refine y_ic rfl rfl ?_
  refine y_st (lv' := [(6, iv 0), (5, iv 1), (0, .ref 8), (1, iv 1), (2, iv 1), (3, .int x), (4, iv 0)]) rfl rfl (fun d => rfl) ?_
  refine y_ld (x := iv 0) rfl rfl (fun d => rfl) ?_
  refine y_bi rfl rfl (by decide) ?_
  refine y_jge rfl rfl rfl (by decide) (fun g4 => absurd g4 (by decide)) (fun g4 => ?_)
  refine y_ld (x := iv 1) rfl rfl (fun d => rfl) ?_
  refine y_zle rfl rfl rfl (by decide) (fun g5 => absurd g5 (by decide)) (fun g5 => ?_)
  refine y_in rfl rfl (fun d => rfl) ?_
  refine y_ld (x := iv 1) rfl rfl (fun d => rfl) ?_
  refine y_ic rfl rfl ?_
  refine y_mul (z := 3) rfl rfl rfl ?_
  refine y_ld (x := iv 1) rfl rfl (fun d => rfl) ?_
  refine y_add (z := 4) rfl rfl rfl ?_
  refine y_sti (n := 1) (i := 4) (f := 11) rfl rfl hXb h3X (by decide) rfl rfl ?_
  refine y_zeq rfl rfl rfl (by decide) (fun g6 => absurd g6 (by decide)) (fun g6 => ?_)
  refine y_go rfl rfl ?_
  refine y_in rfl rfl (fun d => rfl) ?_
  refine y_ld (x := iv 1) rfl rfl (fun d => rfl) ?_
  refine y_ic rfl rfl ?_
  refine y_mul (z := 3) rfl rfl rfl ?_
  refine y_ld (x := iv 1) rfl rfl (fun d => rfl) ?_
  refine y_add (z := 4) rfl rfl rfl ?_
  refine y_sti (n := 1) (i := 4) (f := 11) rfl rfl hXb h3X (by decide) rfl rfl ?_
  refine y_st (lv' := [(6, iv 11), (5, iv 1), (0, .ref 8), (1, iv 1), (2, iv 1), (3, .int x), (4, iv 0)]) rfl rfl (fun d => rfl) ?_
  refine y_ld (x := .ref 8) rfl rfl (fun d => rfl) ?_
  refine y_gI (i := 1) (e := 0) rfl rfl rfl (hC 8 _ _ rfl) rfl rfl ?_
  refine y_bi rfl rfl (by decide) ?_
  refine y_jge rfl rfl rfl (by decide) (fun g7 => absurd g7 (by decide)) (fun g7 => ?_)
  refine y_ld (x := .ref 8) rfl rfl (fun d => rfl) ?_
  refine y_gR (i := 0) rfl rfl rfl (hC 8 _ _ rfl) rfl ?_
  refine y_ld (x := .ref 8) rfl rfl (fun d => rfl) ?_
  refine y_gI (i := 1) (e := 0) rfl rfl rfl (hC 8 _ _ rfl) rfl rfl ?_
  refine y_ld (x := iv 11) rfl rfl (fun d => rfl) ?_
  refine y_ist (q := 0) rfl rfl (cl_ia hC (k := 9) (N := 20) rfl) (by decide) (by decide) rfl ?_
  refine y_ld (x := .ref 8) rfl rfl (fun d => rfl) ?_
  refine y_in rfl rfl (fun d => rfl) ?_
  refine y_gI (i := 1) (e := 0) rfl rfl rfl (hC 8 _ _ rfl) rfl rfl ?_
  refine y_ic rfl rfl ?_
  refine y_add (z := 1) rfl rfl rfl ?_
  refine y_pI (i := 1) rfl rfl rfl (hC 8 _ _ rfl) rfl rfl ?_
  refine y_ld (x := .ref 8) rfl rfl (fun d => rfl) ?_
  refine y_ld (x := iv 11) rfl rfl (fun d => rfl) ?_
  refine y_in rfl rfl (fun d => rfl) ?_
  refine y_ld (x := iv 1) rfl rfl (fun d => rfl) ?_
  refine y_sti (n := 2) (i := 1) (f := 0) rfl rfl hXa h3X (by decide) rfl rfl ?_
  refine y_ld (x := .int x) rfl rfl (fun d => rfl) ?_
  refine y_ld (x := iv 0) rfl rfl (fun d => rfl) ?_
  refine y_ic rfl rfl ?_
  refine y_add (z := 1) rfl rfl rfl ?_
  refine y_cV (D' := 28) (as := [.ref 8, iv 11, iv 0, .int x, iv 1]) rfl rfl rfl rfl rfl (hC 8 _ _ rfl) ⟨rfl, (Nat.le_of_ble_eq_true rfl), (Nat.le_of_ble_eq_true rfl)⟩ (by decide) ?_
  refine y_ent (lv' := [(0, .ref 8), (1, iv 11), (2, iv 0), (3, .int x), (4, iv 1)]) (Nat.le_of_ble_eq_true rfl) rfl ?_
  refine y_ld (x := iv 11) rfl rfl (fun d => rfl) ?_
  refine y_in (pc' := 124) rfl rfl (fun d => rfl) ?_
  refine y_ld (x := .ref 8) rfl rfl (fun d => rfl) ?_
  refine y_ld (x := iv 0) rfl rfl (fun d => rfl) ?_
  refine y_ic rfl rfl ?_
  refine y_ld (x := .int x) rfl rfl (fun d => rfl) ?_
  refine y_ic rfl rfl ?_
  refine y_in rfl rfl (fun d => rfl) ?_
  refine y_ld (x := iv 1) rfl rfl (fun d => rfl) ?_
  refine y_cV (D' := 27) (as := [.ref 8, iv 0, iv 1, .int (x * (Int32.ofInt 3)), iv 1]) rfl rfl rfl rfl rfl (hC 8 _ _ rfl) ⟨rfl, (Nat.le_of_ble_eq_true rfl), (Nat.le_of_ble_eq_true rfl)⟩ (by decide) ?_
  refine y_ent (lv' := [(0, .ref 8), (1, iv 0), (2, iv 1), (3, .int (x * (Int32.ofInt 3))), (4, iv 1)]) (Nat.le_of_ble_eq_true rfl) rfl ?_
  refine y_ld (x := iv 0) rfl rfl (fun d => rfl) ?_
  refine y_zlt rfl rfl rfl (by decide) (fun g8 => absurd g8 (by decide)) (fun g8 => ?_)
  refine y_ld (x := iv 0) rfl rfl (fun d => rfl) ?_
  refine y_bi rfl rfl (by decide) ?_
  refine y_jge rfl rfl rfl (by decide) (fun g9 => absurd g9 (by decide)) (fun g9 => ?_)
  refine y_ld (x := iv 1) rfl rfl (fun d => rfl) ?_
  refine y_bi rfl rfl (by decide) ?_
  refine y_jle rfl rfl rfl (by decide) (fun g10 => ?_) (fun g10 => absurd g10 (by decide))
  refine y_ld (x := iv 0) rfl rfl (fun d => rfl) ?_
  refine y_st (lv' := [(5, iv 0), (0, .ref 8), (1, iv 0), (2, iv 1), (3, .int (x * (Int32.ofInt 3))), (4, iv 1)]) rfl rfl (fun d => rfl) ?_
  refine y_ic rfl rfl ?_
  refine y_st (lv' := [(6, iv 0), (5, iv 0), (0, .ref 8), (1, iv 0), (2, iv 1), (3, .int (x * (Int32.ofInt 3))), (4, iv 1)]) rfl rfl (fun d => rfl) ?_
  refine y_ld (x := iv 0) rfl rfl (fun d => rfl) ?_
  refine y_bi rfl rfl (by decide) ?_
  refine y_jge rfl rfl rfl (by decide) (fun g11 => absurd g11 (by decide)) (fun g11 => ?_)
  refine y_ld (x := iv 0) rfl rfl (fun d => rfl) ?_
  refine y_zle rfl rfl rfl (by decide) (fun g12 => ?_) (fun g12 => absurd g12 (by decide))
  refine y_in rfl rfl (fun d => rfl) ?_
  refine y_ld (x := iv 0) rfl rfl (fun d => rfl) ?_
  refine y_ic rfl rfl ?_
  refine y_mul (z := 0) rfl rfl rfl ?_
  refine y_ld (x := iv 1) rfl rfl (fun d => rfl) ?_
  refine y_add (z := 1) rfl rfl rfl ?_
  refine y_sti (n := 1) (i := 1) (f := 2) rfl rfl hXb h3X (by decide) rfl rfl ?_
  refine y_st (lv' := [(6, iv 2), (5, iv 0), (0, .ref 8), (1, iv 0), (2, iv 1), (3, .int (x * (Int32.ofInt 3))), (4, iv 1)]) rfl rfl (fun d => rfl) ?_
  refine y_ld (x := .ref 8) rfl rfl (fun d => rfl) ?_
  refine y_gI (i := 1) (e := 1) rfl rfl rfl (hC 8 _ _ rfl) rfl rfl ?_
  refine y_bi rfl rfl (by decide) ?_
  refine y_jge rfl rfl rfl (by decide) (fun g13 => absurd g13 (by decide)) (fun g13 => ?_)
  refine y_ld (x := .ref 8) rfl rfl (fun d => rfl) ?_
  refine y_gR (i := 0) rfl rfl rfl (hC 8 _ _ rfl) rfl ?_
  refine y_ld (x := .ref 8) rfl rfl (fun d => rfl) ?_
  refine y_gI (i := 1) (e := 1) rfl rfl rfl (hC 8 _ _ rfl) rfl rfl ?_
  refine y_ld (x := iv 2) rfl rfl (fun d => rfl) ?_
  refine y_ist (q := 1) rfl rfl (cl_ia hC (k := 9) (N := 20) rfl) (by decide) (by decide) rfl ?_
  refine y_ld (x := .ref 8) rfl rfl (fun d => rfl) ?_
  refine y_in rfl rfl (fun d => rfl) ?_
  refine y_gI (i := 1) (e := 1) rfl rfl rfl (hC 8 _ _ rfl) rfl rfl ?_
  refine y_ic rfl rfl ?_
  refine y_add (z := 2) rfl rfl rfl ?_
  refine y_pI (i := 1) rfl rfl rfl (hC 8 _ _ rfl) rfl rfl ?_
  refine y_ld (x := .ref 8) rfl rfl (fun d => rfl) ?_
  refine y_ld (x := iv 2) rfl rfl (fun d => rfl) ?_
  refine y_in rfl rfl (fun d => rfl) ?_
  refine y_ld (x := iv 0) rfl rfl (fun d => rfl) ?_
  refine y_sti (n := 2) (i := 0) (f := (-1)) rfl rfl hXa h3X (by decide) rfl rfl ?_
  refine y_ld (x := .int (x * (Int32.ofInt 3))) rfl rfl (fun d => rfl) ?_
  refine y_ld (x := iv 1) rfl rfl (fun d => rfl) ?_
  refine y_ic rfl rfl ?_
  refine y_add (z := 2) rfl rfl rfl ?_
  refine y_cV (D' := 26) (as := [.ref 8, iv 2, iv (-1), .int (x * (Int32.ofInt 3)), iv 2]) rfl rfl rfl rfl rfl (hC 8 _ _ rfl) ⟨rfl, (Nat.le_of_ble_eq_true rfl), (Nat.le_of_ble_eq_true rfl)⟩ (by decide) ?_
  refine y_ent (lv' := [(0, .ref 8), (1, iv 2), (2, iv (-1)), (3, .int (x * (Int32.ofInt 3))), (4, iv 2)]) (Nat.le_of_ble_eq_true rfl) rfl ?_
  refine y_ld (x := iv 2) rfl rfl (fun d => rfl) ?_
  refine y_in (pc' := 91) rfl rfl (fun d => rfl) ?_
  refine y_ld (x := .ref 8) rfl rfl (fun d => rfl) ?_
  refine y_ld (x := .ref 8) rfl rfl (fun d => rfl) ?_
  refine y_gI (i := 2) (e := 1) rfl rfl rfl (hC 8 _ _ rfl) rfl rfl ?_
  refine y_ic rfl rfl ?_
  refine y_ld (x := .int (x * (Int32.ofInt 3))) rfl rfl (fun d => rfl) ?_
  refine y_ld (x := iv 2) rfl rfl (fun d => rfl) ?_
  refine y_cV (D' := 25) (as := [.ref 8, iv 1, iv 0, .int (x * (Int32.ofInt 3)), iv 2]) rfl rfl rfl rfl rfl (hC 8 _ _ rfl) ⟨rfl, (Nat.le_of_ble_eq_true rfl), (Nat.le_of_ble_eq_true rfl)⟩ (by decide) ?_
  refine y_ent (lv' := [(0, .ref 8), (1, iv 1), (2, iv 0), (3, .int (x * (Int32.ofInt 3))), (4, iv 2)]) (Nat.le_of_ble_eq_true rfl) rfl ?_
  refine y_ld (x := iv 1) rfl rfl (fun d => rfl) ?_
  refine y_zlt rfl rfl rfl (by decide) (fun g14 => absurd g14 (by decide)) (fun g14 => ?_)
  refine y_ld (x := iv 1) rfl rfl (fun d => rfl) ?_
  refine y_bi rfl rfl (by decide) ?_
  refine y_jge rfl rfl rfl (by decide) (fun g15 => absurd g15 (by decide)) (fun g15 => ?_)
  refine y_ld (x := iv 2) rfl rfl (fun d => rfl) ?_
  refine y_bi rfl rfl (by decide) ?_
  refine y_jle rfl rfl rfl (by decide) (fun g16 => ?_) (fun g16 => absurd g16 (by decide))
  refine y_ld (x := iv 1) rfl rfl (fun d => rfl) ?_
  refine y_st (lv' := [(5, iv 1), (0, .ref 8), (1, iv 1), (2, iv 0), (3, .int (x * (Int32.ofInt 3))), (4, iv 2)]) rfl rfl (fun d => rfl) ?_
  refine y_ic rfl rfl ?_
  refine y_st (lv' := [(6, iv 0), (5, iv 1), (0, .ref 8), (1, iv 1), (2, iv 0), (3, .int (x * (Int32.ofInt 3))), (4, iv 2)]) rfl rfl (fun d => rfl) ?_
  refine y_ld (x := iv 0) rfl rfl (fun d => rfl) ?_
  refine y_bi rfl rfl (by decide) ?_
  refine y_jge rfl rfl rfl (by decide) (fun g17 => absurd g17 (by decide)) (fun g17 => ?_)
  refine y_ld (x := iv 1) rfl rfl (fun d => rfl) ?_
  refine y_zle rfl rfl rfl (by decide) (fun g18 => absurd g18 (by decide)) (fun g18 => ?_)
  refine y_in rfl rfl (fun d => rfl) ?_
  refine y_ld (x := iv 1) rfl rfl (fun d => rfl) ?_
  refine y_ic rfl rfl ?_
  refine y_mul (z := 3) rfl rfl rfl ?_
  refine y_ld (x := iv 0) rfl rfl (fun d => rfl) ?_
  refine y_add (z := 3) rfl rfl rfl ?_
  refine y_sti (n := 1) (i := 3) (f := 0) rfl rfl hXb h3X (by decide) rfl rfl ?_
  refine y_zeq rfl rfl rfl (by decide) (fun g19 => ?_) (fun g19 => absurd g19 (by decide))
  refine y_in rfl rfl (fun d => rfl) ?_
  refine y_ld (x := iv 1) rfl rfl (fun d => rfl) ?_
  refine y_sti (n := 2) (i := 1) (f := 0) rfl rfl hXa h3X (by decide) rfl rfl ?_
  refine y_st (lv' := [(5, iv 0), (6, iv 0), (0, .ref 8), (1, iv 1), (2, iv 0), (3, .int (x * (Int32.ofInt 3))), (4, iv 2)]) rfl rfl (fun d => rfl) ?_
  refine y_inc (z := 1) (lv' := [(6, iv 1), (5, iv 0), (0, .ref 8), (1, iv 1), (2, iv 0), (3, .int (x * (Int32.ofInt 3))), (4, iv 2)]) rfl rfl rfl rfl rfl ?_
  refine y_go rfl rfl ?_
  refine y_ld (x := iv 1) rfl rfl (fun d => rfl) ?_
  refine y_bi rfl rfl (by decide) ?_
  refine y_jge rfl rfl rfl (by decide) (fun g20 => absurd g20 (by decide)) (fun g20 => ?_)
  refine y_ld (x := iv 0) rfl rfl (fun d => rfl) ?_
  refine y_zle rfl rfl rfl (by decide) (fun g21 => ?_) (fun g21 => absurd g21 (by decide))
  refine y_in rfl rfl (fun d => rfl) ?_
  refine y_ld (x := iv 0) rfl rfl (fun d => rfl) ?_
  refine y_ic rfl rfl ?_
  refine y_mul (z := 0) rfl rfl rfl ?_
  refine y_ld (x := iv 0) rfl rfl (fun d => rfl) ?_
  refine y_add (z := 0) rfl rfl rfl ?_
  refine y_sti (n := 1) (i := 0) (f := 1) rfl rfl hXb h3X (by decide) rfl rfl ?_
  refine y_st (lv' := [(6, iv 1), (5, iv 0), (0, .ref 8), (1, iv 1), (2, iv 0), (3, .int (x * (Int32.ofInt 3))), (4, iv 2)]) rfl rfl (fun d => rfl) ?_
  refine y_ld (x := .ref 8) rfl rfl (fun d => rfl) ?_
  refine y_gI (i := 1) (e := 2) rfl rfl rfl (hC 8 _ _ rfl) rfl rfl ?_
  refine y_bi rfl rfl (by decide) ?_
  refine y_jge rfl rfl rfl (by decide) (fun g22 => absurd g22 (by decide)) (fun g22 => ?_)
  refine y_ld (x := .ref 8) rfl rfl (fun d => rfl) ?_
  refine y_gR (i := 0) rfl rfl rfl (hC 8 _ _ rfl) rfl ?_
  refine y_ld (x := .ref 8) rfl rfl (fun d => rfl) ?_
  refine y_gI (i := 1) (e := 2) rfl rfl rfl (hC 8 _ _ rfl) rfl rfl ?_
  refine y_ld (x := iv 1) rfl rfl (fun d => rfl) ?_
  refine y_ist (q := 2) rfl rfl (cl_ia hC (k := 9) (N := 20) rfl) (by decide) (by decide) rfl ?_
  refine y_ld (x := .ref 8) rfl rfl (fun d => rfl) ?_
  refine y_in rfl rfl (fun d => rfl) ?_
  refine y_gI (i := 1) (e := 2) rfl rfl rfl (hC 8 _ _ rfl) rfl rfl ?_
  refine y_ic rfl rfl ?_
  refine y_add (z := 3) rfl rfl rfl ?_
  refine y_pI (i := 1) rfl rfl rfl (hC 8 _ _ rfl) rfl rfl ?_
  refine y_ld (x := .ref 8) rfl rfl (fun d => rfl) ?_
  refine y_ld (x := iv 1) rfl rfl (fun d => rfl) ?_
  refine y_in rfl rfl (fun d => rfl) ?_
  refine y_ld (x := iv 0) rfl rfl (fun d => rfl) ?_
  refine y_sti (n := 2) (i := 0) (f := (-1)) rfl rfl hXa h3X (by decide) rfl rfl ?_
  refine y_ld (x := .int (x * (Int32.ofInt 3))) rfl rfl (fun d => rfl) ?_
  refine y_ld (x := iv 2) rfl rfl (fun d => rfl) ?_
  refine y_ic rfl rfl ?_
  refine y_add (z := 3) rfl rfl rfl ?_
  refine y_cV (D' := 24) (as := [.ref 8, iv 1, iv (-1), .int (x * (Int32.ofInt 3)), iv 3]) rfl rfl rfl rfl rfl (hC 8 _ _ rfl) ⟨rfl, (Nat.le_of_ble_eq_true rfl), (Nat.le_of_ble_eq_true rfl)⟩ (by decide) ?_
  refine y_ent (lv' := [(0, .ref 8), (1, iv 1), (2, iv (-1)), (3, .int (x * (Int32.ofInt 3))), (4, iv 3)]) (Nat.le_of_ble_eq_true rfl) rfl ?_
  refine y_ld (x := iv 1) rfl rfl (fun d => rfl) ?_
  refine y_in (pc' := 84) rfl rfl (fun d => rfl) ?_
  refine y_ld (x := .int (x * (Int32.ofInt 3))) rfl rfl (fun d => rfl) ?_
  refine y_ld (x := .ref 8) rfl rfl (fun d => rfl) ?_
  refine y_gI (i := 3) (e := nb) rfl rfl rfl (hC 8 _ _ rfl) rfl rfl ?_
  refine y_in rfl rfl (fun d => rfl) ?_
  refine y_ret rfl (fun d => rfl) ?_
  refine y_nv ?_
  refine y_ret rfl (fun d => rfl) ?_
  refine y_nv ?_
  refine y_ld (x := .ref 8) rfl rfl (fun d => rfl) ?_
  refine y_gI (i := 4) (e := ln) rfl rfl rfl (hC 8 _ _ rfl) rfl rfl ?_
  refine y_in rfl rfl (fun d => rfl) ?_
  refine y_ret rfl (fun d => rfl) ?_
  refine y_nv ?_
  refine y_ret rfl (fun d => rfl) ?_
  refine y_nv ?_
  refine y_ret rfl (fun d => rfl) ?_
  refine y_nv ?_
  refine y_ret rfl (fun d => rfl) ?_
  refine y_nv ?_
  refine y_ret rfl (fun d => rfl) ?_
  exact k _ (fun k h8 h9 => by rw [v_up_ne h8, v_up_ne h9, v_up_ne h8, v_up_ne h9, v_up_ne h8, v_up_ne h9, v_up_ne h8, v_up_ne h8, v_up_ne h8, v_up_ne h8]) ⟨by show (0 : Int) ≤ 3; decide, by show (3 : Int) ≤ 20; decide⟩
set_option maxRecDepth 100000 in
set_option maxHeartbeats 4000000 in
theorem ca_1_2 (hC : ClF S) (hXb : X 1 = m_bodies) (hXa : X 2 = m_above) (h3X : X 3 = []) {b : Nat} {nb ln : Int} {x : Int32} (hb : b < 8) (hk : V (10 + 6 * b) 1 = 1) (hn : V (10 + 6 * b) 0 = nb) (k : ∀ V2, (∀ k, k ≠ 8 → k ≠ 9 → V2 k = V k) → 0 ≤ V2 8 1 ∧ V2 8 1 ≤ 20 → K u w (some (.int (acV 1 2 x nb ln))) S V2) : y_R X 30 61 u w [.ref 8, .ref (10 + 6 * b), iv ln, iv 2, .int x] S (v_up V 8 1 0) K := by
  refine y_ent (lv' := [(0, .ref 8), (1, .ref (10 + 6 * b)), (2, iv ln), (3, iv 2), (4, .int x)]) (Nat.le_of_ble_eq_true rfl) rfl ?_
  refine y_ld (x := .ref 8) rfl rfl (fun d => rfl) ?_
  refine y_ld (x := .ref (10 + 6 * b)) rfl rfl (fun d => rfl) ?_
  refine y_gI (i := 1) (e := 1) rfl rfl rfl (bx_ob hC (i := b) (by omega)) rfl (by rw [v_up_ne (by omega)]; exact hk) ?_
  refine y_pI (i := 2) rfl rfl rfl (hC 8 _ _ rfl) rfl rfl ?_
  refine y_ld (x := .ref 8) rfl rfl (fun d => rfl) ?_
  refine y_ld (x := .ref (10 + 6 * b)) rfl rfl (fun d => rfl) ?_
  refine y_gI (i := 0) (e := nb) rfl rfl rfl (bx_ob hC (i := b) (by omega)) rfl (by rw [v_up_ne (by omega), v_up_ne (by omega)]; exact hn) ?_
  refine y_pI (i := 3) rfl rfl rfl (hC 8 _ _ rfl) rfl rfl ?_
  refine y_ld (x := .ref 8) rfl rfl (fun d => rfl) ?_
  refine y_ld (x := iv ln) rfl rfl (fun d => rfl) ?_
  refine y_pI (i := 4) rfl rfl rfl (hC 8 _ _ rfl) rfl rfl ?_
  refine y_ld (x := .ref 8) rfl rfl (fun d => rfl) ?_
  refine y_ld (x := .ref 8) rfl rfl (fun d => rfl) ?_
  refine y_gI (i := 2) (e := 1) rfl rfl rfl (hC 8 _ _ rfl) rfl rfl ?_
  refine y_ld (x := iv 2) rfl rfl (fun d => rfl) ?_
  refine y_ld (x := .int x) rfl rfl (fun d => rfl) ?_
  refine y_ic rfl rfl ?_
  refine y_cV (D' := 29) (as := [.ref 8, iv 1, iv 2, .int x, iv 0]) rfl rfl rfl rfl rfl (hC 8 _ _ rfl) ⟨rfl, (Nat.le_of_ble_eq_true rfl), (Nat.le_of_ble_eq_true rfl)⟩ (by decide) ?_
  refine y_ent (lv' := [(0, .ref 8), (1, iv 1), (2, iv 2), (3, .int x), (4, iv 0)]) (Nat.le_of_ble_eq_true rfl) rfl ?_
  refine y_ld (x := iv 1) rfl rfl (fun d => rfl) ?_
  refine y_zlt rfl rfl rfl (by decide) (fun g1 => absurd g1 (by decide)) (fun g1 => ?_)
  refine y_ld (x := iv 1) rfl rfl (fun d => rfl) ?_
  refine y_bi rfl rfl (by decide) ?_
  refine y_jge rfl rfl rfl (by decide) (fun g2 => absurd g2 (by decide)) (fun g2 => ?_)
  refine y_ld (x := iv 0) rfl rfl (fun d => rfl) ?_
  refine y_bi rfl rfl (by decide) ?_
  refine y_jle rfl rfl rfl (by decide) (fun g3 => ?_) (fun g3 => absurd g3 (by decide))
  refine y_ld (x := iv 1) rfl rfl (fun d => rfl) ?_
  refine y_st (lv' := [(5, iv 1), (0, .ref 8), (1, iv 1), (2, iv 2), (3, .int x), (4, iv 0)]) rfl rfl (fun d => rfl) ?_
  refine y_ic rfl rfl ?_
  refine y_st (lv' := [(6, iv 0), (5, iv 1), (0, .ref 8), (1, iv 1), (2, iv 2), (3, .int x), (4, iv 0)]) rfl rfl (fun d => rfl) ?_
  refine y_ld (x := iv 0) rfl rfl (fun d => rfl) ?_
  refine y_bi rfl rfl (by decide) ?_
  refine y_jge rfl rfl rfl (by decide) (fun g4 => absurd g4 (by decide)) (fun g4 => ?_)
  refine y_ld (x := iv 1) rfl rfl (fun d => rfl) ?_
  refine y_zle rfl rfl rfl (by decide) (fun g5 => absurd g5 (by decide)) (fun g5 => ?_)
  refine y_in rfl rfl (fun d => rfl) ?_
  refine y_ld (x := iv 1) rfl rfl (fun d => rfl) ?_
  refine y_ic rfl rfl ?_
  refine y_mul (z := 3) rfl rfl rfl ?_
  refine y_ld (x := iv 2) rfl rfl (fun d => rfl) ?_
  refine y_add (z := 5) rfl rfl rfl ?_
  refine y_sti (n := 1) (i := 5) (f := 0) rfl rfl hXb h3X (by decide) rfl rfl ?_
  refine y_zeq rfl rfl rfl (by decide) (fun g6 => ?_) (fun g6 => absurd g6 (by decide))
  refine y_in rfl rfl (fun d => rfl) ?_
  refine y_ld (x := iv 1) rfl rfl (fun d => rfl) ?_
  refine y_sti (n := 2) (i := 1) (f := 0) rfl rfl hXa h3X (by decide) rfl rfl ?_
  refine y_st (lv' := [(5, iv 0), (6, iv 0), (0, .ref 8), (1, iv 1), (2, iv 2), (3, .int x), (4, iv 0)]) rfl rfl (fun d => rfl) ?_
  refine y_inc (z := 1) (lv' := [(6, iv 1), (5, iv 0), (0, .ref 8), (1, iv 1), (2, iv 2), (3, .int x), (4, iv 0)]) rfl rfl rfl rfl rfl ?_
  refine y_go rfl rfl ?_
  refine y_ld (x := iv 1) rfl rfl (fun d => rfl) ?_
  refine y_bi rfl rfl (by decide) ?_
  refine y_jge rfl rfl rfl (by decide) (fun g7 => absurd g7 (by decide)) (fun g7 => ?_)
  refine y_ld (x := iv 0) rfl rfl (fun d => rfl) ?_
  refine y_zle rfl rfl rfl (by decide) (fun g8 => ?_) (fun g8 => absurd g8 (by decide))
  refine y_in rfl rfl (fun d => rfl) ?_
  refine y_ld (x := iv 0) rfl rfl (fun d => rfl) ?_
  refine y_ic rfl rfl ?_
  refine y_mul (z := 0) rfl rfl rfl ?_
  refine y_ld (x := iv 2) rfl rfl (fun d => rfl) ?_
  refine y_add (z := 2) rfl rfl rfl ?_
  refine y_sti (n := 1) (i := 2) (f := 3) rfl rfl hXb h3X (by decide) rfl rfl ?_
  refine y_st (lv' := [(6, iv 3), (5, iv 0), (0, .ref 8), (1, iv 1), (2, iv 2), (3, .int x), (4, iv 0)]) rfl rfl (fun d => rfl) ?_
  refine y_ld (x := .ref 8) rfl rfl (fun d => rfl) ?_
  refine y_gI (i := 1) (e := 0) rfl rfl rfl (hC 8 _ _ rfl) rfl rfl ?_
  refine y_bi rfl rfl (by decide) ?_
  refine y_jge rfl rfl rfl (by decide) (fun g9 => absurd g9 (by decide)) (fun g9 => ?_)
  refine y_ld (x := .ref 8) rfl rfl (fun d => rfl) ?_
  refine y_gR (i := 0) rfl rfl rfl (hC 8 _ _ rfl) rfl ?_
  refine y_ld (x := .ref 8) rfl rfl (fun d => rfl) ?_
  refine y_gI (i := 1) (e := 0) rfl rfl rfl (hC 8 _ _ rfl) rfl rfl ?_
  refine y_ld (x := iv 3) rfl rfl (fun d => rfl) ?_
  refine y_ist (q := 0) rfl rfl (cl_ia hC (k := 9) (N := 20) rfl) (by decide) (by decide) rfl ?_
  refine y_ld (x := .ref 8) rfl rfl (fun d => rfl) ?_
  refine y_in rfl rfl (fun d => rfl) ?_
  refine y_gI (i := 1) (e := 0) rfl rfl rfl (hC 8 _ _ rfl) rfl rfl ?_
  refine y_ic rfl rfl ?_
  refine y_add (z := 1) rfl rfl rfl ?_
  refine y_pI (i := 1) rfl rfl rfl (hC 8 _ _ rfl) rfl rfl ?_
  refine y_ld (x := .ref 8) rfl rfl (fun d => rfl) ?_
  refine y_ld (x := iv 3) rfl rfl (fun d => rfl) ?_
  refine y_in rfl rfl (fun d => rfl) ?_
  refine y_ld (x := iv 0) rfl rfl (fun d => rfl) ?_
  refine y_sti (n := 2) (i := 0) (f := (-1)) rfl rfl hXa h3X (by decide) rfl rfl ?_
  refine y_ld (x := .int x) rfl rfl (fun d => rfl) ?_
  refine y_ld (x := iv 0) rfl rfl (fun d => rfl) ?_
  refine y_ic rfl rfl ?_
  refine y_add (z := 1) rfl rfl rfl ?_
  refine y_cV (D' := 28) (as := [.ref 8, iv 3, iv (-1), .int x, iv 1]) rfl rfl rfl rfl rfl (hC 8 _ _ rfl) ⟨rfl, (Nat.le_of_ble_eq_true rfl), (Nat.le_of_ble_eq_true rfl)⟩ (by decide) ?_
  refine y_ent (lv' := [(0, .ref 8), (1, iv 3), (2, iv (-1)), (3, .int x), (4, iv 1)]) (Nat.le_of_ble_eq_true rfl) rfl ?_
  refine y_ld (x := iv 3) rfl rfl (fun d => rfl) ?_
  refine y_in (pc' := 109) rfl rfl (fun d => rfl) ?_
  refine y_ld (x := .ref 8) rfl rfl (fun d => rfl) ?_
  refine y_ld (x := .ref 8) rfl rfl (fun d => rfl) ?_
  refine y_gI (i := 2) (e := 1) rfl rfl rfl (hC 8 _ _ rfl) rfl rfl ?_
  refine y_ic rfl rfl ?_
  refine y_ld (x := .int x) rfl rfl (fun d => rfl) ?_
  refine y_ld (x := iv 1) rfl rfl (fun d => rfl) ?_
  refine y_cV (D' := 27) (as := [.ref 8, iv 1, iv 1, .int x, iv 1]) rfl rfl rfl rfl rfl (hC 8 _ _ rfl) ⟨rfl, (Nat.le_of_ble_eq_true rfl), (Nat.le_of_ble_eq_true rfl)⟩ (by decide) ?_
  refine y_ent (lv' := [(0, .ref 8), (1, iv 1), (2, iv 1), (3, .int x), (4, iv 1)]) (Nat.le_of_ble_eq_true rfl) rfl ?_
  refine y_ld (x := iv 1) rfl rfl (fun d => rfl) ?_
  refine y_zlt rfl rfl rfl (by decide) (fun g10 => absurd g10 (by decide)) (fun g10 => ?_)
  refine y_ld (x := iv 1) rfl rfl (fun d => rfl) ?_
  refine y_bi rfl rfl (by decide) ?_
  refine y_jge rfl rfl rfl (by decide) (fun g11 => absurd g11 (by decide)) (fun g11 => ?_)
  refine y_ld (x := iv 1) rfl rfl (fun d => rfl) ?_
  refine y_bi rfl rfl (by decide) ?_
  refine y_jle rfl rfl rfl (by decide) (fun g12 => ?_) (fun g12 => absurd g12 (by decide))
  refine y_ld (x := iv 1) rfl rfl (fun d => rfl) ?_
  refine y_st (lv' := [(5, iv 1), (0, .ref 8), (1, iv 1), (2, iv 1), (3, .int x), (4, iv 1)]) rfl rfl (fun d => rfl) ?_
  refine y_ic rfl rfl ?_
  refine y_st (lv' := [(6, iv 0), (5, iv 1), (0, .ref 8), (1, iv 1), (2, iv 1), (3, .int x), (4, iv 1)]) rfl rfl (fun d => rfl) ?_
  refine y_ld (x := iv 0) rfl rfl (fun d => rfl) ?_
  refine y_bi rfl rfl (by decide) ?_
  refine y_jge rfl rfl rfl (by decide) (fun g13 => absurd g13 (by decide)) (fun g13 => ?_)
  refine y_ld (x := iv 1) rfl rfl (fun d => rfl) ?_
  refine y_zle rfl rfl rfl (by decide) (fun g14 => absurd g14 (by decide)) (fun g14 => ?_)
  refine y_in rfl rfl (fun d => rfl) ?_
  refine y_ld (x := iv 1) rfl rfl (fun d => rfl) ?_
  refine y_ic rfl rfl ?_
  refine y_mul (z := 3) rfl rfl rfl ?_
  refine y_ld (x := iv 1) rfl rfl (fun d => rfl) ?_
  refine y_add (z := 4) rfl rfl rfl ?_
  refine y_sti (n := 1) (i := 4) (f := 11) rfl rfl hXb h3X (by decide) rfl rfl ?_
  refine y_zeq rfl rfl rfl (by decide) (fun g15 => absurd g15 (by decide)) (fun g15 => ?_)
  refine y_go rfl rfl ?_
  refine y_in rfl rfl (fun d => rfl) ?_
  refine y_ld (x := iv 1) rfl rfl (fun d => rfl) ?_
  refine y_ic rfl rfl ?_
  refine y_mul (z := 3) rfl rfl rfl ?_
  refine y_ld (x := iv 1) rfl rfl (fun d => rfl) ?_
  refine y_add (z := 4) rfl rfl rfl ?_
  refine y_sti (n := 1) (i := 4) (f := 11) rfl rfl hXb h3X (by decide) rfl rfl ?_
  refine y_st (lv' := [(6, iv 11), (5, iv 1), (0, .ref 8), (1, iv 1), (2, iv 1), (3, .int x), (4, iv 1)]) rfl rfl (fun d => rfl) ?_
  refine y_ld (x := .ref 8) rfl rfl (fun d => rfl) ?_
  refine y_gI (i := 1) (e := 1) rfl rfl rfl (hC 8 _ _ rfl) rfl rfl ?_
  refine y_bi rfl rfl (by decide) ?_
  refine y_jge rfl rfl rfl (by decide) (fun g16 => absurd g16 (by decide)) (fun g16 => ?_)
  refine y_ld (x := .ref 8) rfl rfl (fun d => rfl) ?_
  refine y_gR (i := 0) rfl rfl rfl (hC 8 _ _ rfl) rfl ?_
  refine y_ld (x := .ref 8) rfl rfl (fun d => rfl) ?_
  refine y_gI (i := 1) (e := 1) rfl rfl rfl (hC 8 _ _ rfl) rfl rfl ?_
  refine y_ld (x := iv 11) rfl rfl (fun d => rfl) ?_
  refine y_ist (q := 1) rfl rfl (cl_ia hC (k := 9) (N := 20) rfl) (by decide) (by decide) rfl ?_
  refine y_ld (x := .ref 8) rfl rfl (fun d => rfl) ?_
  refine y_in rfl rfl (fun d => rfl) ?_
  refine y_gI (i := 1) (e := 1) rfl rfl rfl (hC 8 _ _ rfl) rfl rfl ?_
  refine y_ic rfl rfl ?_
  refine y_add (z := 2) rfl rfl rfl ?_
  refine y_pI (i := 1) rfl rfl rfl (hC 8 _ _ rfl) rfl rfl ?_
  refine y_ld (x := .ref 8) rfl rfl (fun d => rfl) ?_
  refine y_ld (x := iv 11) rfl rfl (fun d => rfl) ?_
  refine y_in rfl rfl (fun d => rfl) ?_
  refine y_ld (x := iv 1) rfl rfl (fun d => rfl) ?_
  refine y_sti (n := 2) (i := 1) (f := 0) rfl rfl hXa h3X (by decide) rfl rfl ?_
  refine y_ld (x := .int x) rfl rfl (fun d => rfl) ?_
  refine y_ld (x := iv 1) rfl rfl (fun d => rfl) ?_
  refine y_ic rfl rfl ?_
  refine y_add (z := 2) rfl rfl rfl ?_
  refine y_cV (D' := 26) (as := [.ref 8, iv 11, iv 0, .int x, iv 2]) rfl rfl rfl rfl rfl (hC 8 _ _ rfl) ⟨rfl, (Nat.le_of_ble_eq_true rfl), (Nat.le_of_ble_eq_true rfl)⟩ (by decide) ?_
  refine y_ent (lv' := [(0, .ref 8), (1, iv 11), (2, iv 0), (3, .int x), (4, iv 2)]) (Nat.le_of_ble_eq_true rfl) rfl ?_
  refine y_ld (x := iv 11) rfl rfl (fun d => rfl) ?_
  refine y_in (pc' := 124) rfl rfl (fun d => rfl) ?_
  refine y_ld (x := .ref 8) rfl rfl (fun d => rfl) ?_
  refine y_ld (x := iv 0) rfl rfl (fun d => rfl) ?_
  refine y_ic rfl rfl ?_
  refine y_ld (x := .int x) rfl rfl (fun d => rfl) ?_
  refine y_ic rfl rfl ?_
  refine y_in rfl rfl (fun d => rfl) ?_
  refine y_ld (x := iv 2) rfl rfl (fun d => rfl) ?_
  refine y_cV (D' := 25) (as := [.ref 8, iv 0, iv 1, .int (x * (Int32.ofInt 3)), iv 2]) rfl rfl rfl rfl rfl (hC 8 _ _ rfl) ⟨rfl, (Nat.le_of_ble_eq_true rfl), (Nat.le_of_ble_eq_true rfl)⟩ (by decide) ?_
  refine y_ent (lv' := [(0, .ref 8), (1, iv 0), (2, iv 1), (3, .int (x * (Int32.ofInt 3))), (4, iv 2)]) (Nat.le_of_ble_eq_true rfl) rfl ?_
  refine y_ld (x := iv 0) rfl rfl (fun d => rfl) ?_
  refine y_zlt rfl rfl rfl (by decide) (fun g17 => absurd g17 (by decide)) (fun g17 => ?_)
  refine y_ld (x := iv 0) rfl rfl (fun d => rfl) ?_
  refine y_bi rfl rfl (by decide) ?_
  refine y_jge rfl rfl rfl (by decide) (fun g18 => absurd g18 (by decide)) (fun g18 => ?_)
  refine y_ld (x := iv 2) rfl rfl (fun d => rfl) ?_
  refine y_bi rfl rfl (by decide) ?_
  refine y_jle rfl rfl rfl (by decide) (fun g19 => ?_) (fun g19 => absurd g19 (by decide))
  refine y_ld (x := iv 0) rfl rfl (fun d => rfl) ?_
  refine y_st (lv' := [(5, iv 0), (0, .ref 8), (1, iv 0), (2, iv 1), (3, .int (x * (Int32.ofInt 3))), (4, iv 2)]) rfl rfl (fun d => rfl) ?_
  refine y_ic rfl rfl ?_
  refine y_st (lv' := [(6, iv 0), (5, iv 0), (0, .ref 8), (1, iv 0), (2, iv 1), (3, .int (x * (Int32.ofInt 3))), (4, iv 2)]) rfl rfl (fun d => rfl) ?_
  refine y_ld (x := iv 0) rfl rfl (fun d => rfl) ?_
  refine y_bi rfl rfl (by decide) ?_
  refine y_jge rfl rfl rfl (by decide) (fun g20 => absurd g20 (by decide)) (fun g20 => ?_)
  refine y_ld (x := iv 0) rfl rfl (fun d => rfl) ?_
  refine y_zle rfl rfl rfl (by decide) (fun g21 => ?_) (fun g21 => absurd g21 (by decide))
  refine y_in rfl rfl (fun d => rfl) ?_
  refine y_ld (x := iv 0) rfl rfl (fun d => rfl) ?_
  refine y_ic rfl rfl ?_
  refine y_mul (z := 0) rfl rfl rfl ?_
  refine y_ld (x := iv 1) rfl rfl (fun d => rfl) ?_
  refine y_add (z := 1) rfl rfl rfl ?_
  refine y_sti (n := 1) (i := 1) (f := 2) rfl rfl hXb h3X (by decide) rfl rfl ?_
  refine y_st (lv' := [(6, iv 2), (5, iv 0), (0, .ref 8), (1, iv 0), (2, iv 1), (3, .int (x * (Int32.ofInt 3))), (4, iv 2)]) rfl rfl (fun d => rfl) ?_
  refine y_ld (x := .ref 8) rfl rfl (fun d => rfl) ?_
  refine y_gI (i := 1) (e := 2) rfl rfl rfl (hC 8 _ _ rfl) rfl rfl ?_
  refine y_bi rfl rfl (by decide) ?_
  refine y_jge rfl rfl rfl (by decide) (fun g22 => absurd g22 (by decide)) (fun g22 => ?_)
  refine y_ld (x := .ref 8) rfl rfl (fun d => rfl) ?_
  refine y_gR (i := 0) rfl rfl rfl (hC 8 _ _ rfl) rfl ?_
  refine y_ld (x := .ref 8) rfl rfl (fun d => rfl) ?_
  refine y_gI (i := 1) (e := 2) rfl rfl rfl (hC 8 _ _ rfl) rfl rfl ?_
  refine y_ld (x := iv 2) rfl rfl (fun d => rfl) ?_
  refine y_ist (q := 2) rfl rfl (cl_ia hC (k := 9) (N := 20) rfl) (by decide) (by decide) rfl ?_
  refine y_ld (x := .ref 8) rfl rfl (fun d => rfl) ?_
  refine y_in rfl rfl (fun d => rfl) ?_
  refine y_gI (i := 1) (e := 2) rfl rfl rfl (hC 8 _ _ rfl) rfl rfl ?_
  refine y_ic rfl rfl ?_
  refine y_add (z := 3) rfl rfl rfl ?_
  refine y_pI (i := 1) rfl rfl rfl (hC 8 _ _ rfl) rfl rfl ?_
  refine y_ld (x := .ref 8) rfl rfl (fun d => rfl) ?_
  refine y_ld (x := iv 2) rfl rfl (fun d => rfl) ?_
  refine y_in rfl rfl (fun d => rfl) ?_
  refine y_ld (x := iv 0) rfl rfl (fun d => rfl) ?_
  refine y_sti (n := 2) (i := 0) (f := (-1)) rfl rfl hXa h3X (by decide) rfl rfl ?_
  refine y_ld (x := .int (x * (Int32.ofInt 3))) rfl rfl (fun d => rfl) ?_
  refine y_ld (x := iv 2) rfl rfl (fun d => rfl) ?_
  refine y_ic rfl rfl ?_
  refine y_add (z := 3) rfl rfl rfl ?_
  refine y_cV (D' := 24) (as := [.ref 8, iv 2, iv (-1), .int (x * (Int32.ofInt 3)), iv 3]) rfl rfl rfl rfl rfl (hC 8 _ _ rfl) ⟨rfl, (Nat.le_of_ble_eq_true rfl), (Nat.le_of_ble_eq_true rfl)⟩ (by decide) ?_
  refine y_ent (lv' := [(0, .ref 8), (1, iv 2), (2, iv (-1)), (3, .int (x * (Int32.ofInt 3))), (4, iv 3)]) (Nat.le_of_ble_eq_true rfl) rfl ?_
  refine y_ld (x := iv 2) rfl rfl (fun d => rfl) ?_
  refine y_in (pc' := 91) rfl rfl (fun d => rfl) ?_
  refine y_ld (x := .ref 8) rfl rfl (fun d => rfl) ?_
  refine y_ld (x := .ref 8) rfl rfl (fun d => rfl) ?_
  refine y_gI (i := 2) (e := 1) rfl rfl rfl (hC 8 _ _ rfl) rfl rfl ?_
  refine y_ic rfl rfl ?_
  refine y_ld (x := .int (x * (Int32.ofInt 3))) rfl rfl (fun d => rfl) ?_
  refine y_ld (x := iv 3) rfl rfl (fun d => rfl) ?_
  refine y_cV (D' := 23) (as := [.ref 8, iv 1, iv 0, .int (x * (Int32.ofInt 3)), iv 3]) rfl rfl rfl rfl rfl (hC 8 _ _ rfl) ⟨rfl, (Nat.le_of_ble_eq_true rfl), (Nat.le_of_ble_eq_true rfl)⟩ (by decide) ?_
  refine y_ent (lv' := [(0, .ref 8), (1, iv 1), (2, iv 0), (3, .int (x * (Int32.ofInt 3))), (4, iv 3)]) (Nat.le_of_ble_eq_true rfl) rfl ?_
  refine y_ld (x := iv 1) rfl rfl (fun d => rfl) ?_
  refine y_zlt rfl rfl rfl (by decide) (fun g23 => absurd g23 (by decide)) (fun g23 => ?_)
  refine y_ld (x := iv 1) rfl rfl (fun d => rfl) ?_
  refine y_bi rfl rfl (by decide) ?_
  refine y_jge rfl rfl rfl (by decide) (fun g24 => absurd g24 (by decide)) (fun g24 => ?_)
  refine y_ld (x := iv 3) rfl rfl (fun d => rfl) ?_
  refine y_bi rfl rfl (by decide) ?_
  refine y_jle rfl rfl rfl (by decide) (fun g25 => ?_) (fun g25 => absurd g25 (by decide))
  refine y_ld (x := iv 1) rfl rfl (fun d => rfl) ?_
  refine y_st (lv' := [(5, iv 1), (0, .ref 8), (1, iv 1), (2, iv 0), (3, .int (x * (Int32.ofInt 3))), (4, iv 3)]) rfl rfl (fun d => rfl) ?_
  refine y_ic rfl rfl ?_
  refine y_st (lv' := [(6, iv 0), (5, iv 1), (0, .ref 8), (1, iv 1), (2, iv 0), (3, .int (x * (Int32.ofInt 3))), (4, iv 3)]) rfl rfl (fun d => rfl) ?_
  refine y_ld (x := iv 0) rfl rfl (fun d => rfl) ?_
  refine y_bi rfl rfl (by decide) ?_
  refine y_jge rfl rfl rfl (by decide) (fun g26 => absurd g26 (by decide)) (fun g26 => ?_)
  refine y_ld (x := iv 1) rfl rfl (fun d => rfl) ?_
  refine y_zle rfl rfl rfl (by decide) (fun g27 => absurd g27 (by decide)) (fun g27 => ?_)
  refine y_in rfl rfl (fun d => rfl) ?_
  refine y_ld (x := iv 1) rfl rfl (fun d => rfl) ?_
  refine y_ic rfl rfl ?_
  refine y_mul (z := 3) rfl rfl rfl ?_
  refine y_ld (x := iv 0) rfl rfl (fun d => rfl) ?_
  refine y_add (z := 3) rfl rfl rfl ?_
  refine y_sti (n := 1) (i := 3) (f := 0) rfl rfl hXb h3X (by decide) rfl rfl ?_
  refine y_zeq rfl rfl rfl (by decide) (fun g28 => ?_) (fun g28 => absurd g28 (by decide))
  refine y_in rfl rfl (fun d => rfl) ?_
  refine y_ld (x := iv 1) rfl rfl (fun d => rfl) ?_
  refine y_sti (n := 2) (i := 1) (f := 0) rfl rfl hXa h3X (by decide) rfl rfl ?_
  refine y_st (lv' := [(5, iv 0), (6, iv 0), (0, .ref 8), (1, iv 1), (2, iv 0), (3, .int (x * (Int32.ofInt 3))), (4, iv 3)]) rfl rfl (fun d => rfl) ?_
  refine y_inc (z := 1) (lv' := [(6, iv 1), (5, iv 0), (0, .ref 8), (1, iv 1), (2, iv 0), (3, .int (x * (Int32.ofInt 3))), (4, iv 3)]) rfl rfl rfl rfl rfl ?_
  refine y_go rfl rfl ?_
  refine y_ld (x := iv 1) rfl rfl (fun d => rfl) ?_
  refine y_bi rfl rfl (by decide) ?_
  refine y_jge rfl rfl rfl (by decide) (fun g29 => absurd g29 (by decide)) (fun g29 => ?_)
  refine y_ld (x := iv 0) rfl rfl (fun d => rfl) ?_
  refine y_zle rfl rfl rfl (by decide) (fun g30 => ?_) (fun g30 => absurd g30 (by decide))
  refine y_in rfl rfl (fun d => rfl) ?_
  refine y_ld (x := iv 0) rfl rfl (fun d => rfl) ?_
  refine y_ic rfl rfl ?_
  refine y_mul (z := 0) rfl rfl rfl ?_
  refine y_ld (x := iv 0) rfl rfl (fun d => rfl) ?_
  refine y_add (z := 0) rfl rfl rfl ?_
  refine y_sti (n := 1) (i := 0) (f := 1) rfl rfl hXb h3X (by decide) rfl rfl ?_
  refine y_st (lv' := [(6, iv 1), (5, iv 0), (0, .ref 8), (1, iv 1), (2, iv 0), (3, .int (x * (Int32.ofInt 3))), (4, iv 3)]) rfl rfl (fun d => rfl) ?_
  refine y_ld (x := .ref 8) rfl rfl (fun d => rfl) ?_
  refine y_gI (i := 1) (e := 3) rfl rfl rfl (hC 8 _ _ rfl) rfl rfl ?_
  refine y_bi rfl rfl (by decide) ?_
  refine y_jge rfl rfl rfl (by decide) (fun g31 => absurd g31 (by decide)) (fun g31 => ?_)
  refine y_ld (x := .ref 8) rfl rfl (fun d => rfl) ?_
  refine y_gR (i := 0) rfl rfl rfl (hC 8 _ _ rfl) rfl ?_
  refine y_ld (x := .ref 8) rfl rfl (fun d => rfl) ?_
  refine y_gI (i := 1) (e := 3) rfl rfl rfl (hC 8 _ _ rfl) rfl rfl ?_
  refine y_ld (x := iv 1) rfl rfl (fun d => rfl) ?_
  refine y_ist (q := 3) rfl rfl (cl_ia hC (k := 9) (N := 20) rfl) (by decide) (by decide) rfl ?_
  refine y_ld (x := .ref 8) rfl rfl (fun d => rfl) ?_
  refine y_in rfl rfl (fun d => rfl) ?_
  refine y_gI (i := 1) (e := 3) rfl rfl rfl (hC 8 _ _ rfl) rfl rfl ?_
  refine y_ic rfl rfl ?_
  refine y_add (z := 4) rfl rfl rfl ?_
  refine y_pI (i := 1) rfl rfl rfl (hC 8 _ _ rfl) rfl rfl ?_
  refine y_ld (x := .ref 8) rfl rfl (fun d => rfl) ?_
  refine y_ld (x := iv 1) rfl rfl (fun d => rfl) ?_
  refine y_in rfl rfl (fun d => rfl) ?_
  refine y_ld (x := iv 0) rfl rfl (fun d => rfl) ?_
  refine y_sti (n := 2) (i := 0) (f := (-1)) rfl rfl hXa h3X (by decide) rfl rfl ?_
  refine y_ld (x := .int (x * (Int32.ofInt 3))) rfl rfl (fun d => rfl) ?_
  refine y_ld (x := iv 3) rfl rfl (fun d => rfl) ?_
  refine y_ic rfl rfl ?_
  refine y_add (z := 4) rfl rfl rfl ?_
  refine y_cV (D' := 22) (as := [.ref 8, iv 1, iv (-1), .int (x * (Int32.ofInt 3)), iv 4]) rfl rfl rfl rfl rfl (hC 8 _ _ rfl) ⟨rfl, (Nat.le_of_ble_eq_true rfl), (Nat.le_of_ble_eq_true rfl)⟩ (by decide) ?_
  refine y_ent (lv' := [(0, .ref 8), (1, iv 1), (2, iv (-1)), (3, .int (x * (Int32.ofInt 3))), (4, iv 4)]) (Nat.le_of_ble_eq_true rfl) rfl ?_
  refine y_ld (x := iv 1) rfl rfl (fun d => rfl) ?_
  refine y_in (pc' := 84) rfl rfl (fun d => rfl) ?_
  refine y_ld (x := .int (x * (Int32.ofInt 3))) rfl rfl (fun d => rfl) ?_
  refine y_ld (x := .ref 8) rfl rfl (fun d => rfl) ?_
  refine y_gI (i := 3) (e := nb) rfl rfl rfl (hC 8 _ _ rfl) rfl rfl ?_
  refine y_in rfl rfl (fun d => rfl) ?_
  refine y_ret rfl (fun d => rfl) ?_
  refine y_nv ?_
  refine y_ret rfl (fun d => rfl) ?_
  refine y_nv ?_
  refine y_ld (x := .ref 8) rfl rfl (fun d => rfl) ?_
  refine y_gI (i := 4) (e := ln) rfl rfl rfl (hC 8 _ _ rfl) rfl rfl ?_
  refine y_in rfl rfl (fun d => rfl) ?_
  refine y_ret rfl (fun d => rfl) ?_
  refine y_nv ?_
  refine y_ret rfl (fun d => rfl) ?_
  refine y_nv ?_
  refine y_ret rfl (fun d => rfl) ?_
  refine y_nv ?_
  refine y_ret rfl (fun d => rfl) ?_
  refine y_nv ?_
  refine y_ic rfl rfl ?_
  refine y_in rfl rfl (fun d => rfl) ?_
  refine y_ret rfl (fun d => rfl) ?_
  refine y_nv ?_
  refine y_ret rfl (fun d => rfl) ?_
  refine y_nv ?_
  refine y_ret rfl (fun d => rfl) ?_
  exact k _ (fun k h8 h9 => by rw [v_up_ne h8, v_up_ne h9, v_up_ne h8, v_up_ne h9, v_up_ne h8, v_up_ne h9, v_up_ne h8, v_up_ne h9, v_up_ne h8, v_up_ne h8, v_up_ne h8, v_up_ne h8]) ⟨by show (0 : Int) ≤ 4; decide, by show (4 : Int) ≤ 20; decide⟩
set_option maxRecDepth 100000 in
set_option maxHeartbeats 4000000 in
theorem ca_2_0 (hC : ClF S) (hXb : X 1 = m_bodies) (hXa : X 2 = m_above) (h3X : X 3 = []) {b : Nat} {nb ln : Int} {x : Int32} (hb : b < 8) (hk : V (10 + 6 * b) 1 = 2) (hn : V (10 + 6 * b) 0 = nb) (k : ∀ V2, (∀ k, k ≠ 8 → k ≠ 9 → V2 k = V k) → 0 ≤ V2 8 1 ∧ V2 8 1 ≤ 20 → K u w (some (.int (acV 2 0 x nb ln))) S V2) : y_R X 30 61 u w [.ref 8, .ref (10 + 6 * b), iv ln, iv 0, .int x] S (v_up V 8 1 0) K := by
  refine y_ent (lv' := [(0, .ref 8), (1, .ref (10 + 6 * b)), (2, iv ln), (3, iv 0), (4, .int x)]) (Nat.le_of_ble_eq_true rfl) rfl ?_
  refine y_ld (x := .ref 8) rfl rfl (fun d => rfl) ?_
  refine y_ld (x := .ref (10 + 6 * b)) rfl rfl (fun d => rfl) ?_
  refine y_gI (i := 1) (e := 2) rfl rfl rfl (bx_ob hC (i := b) (by omega)) rfl (by rw [v_up_ne (by omega)]; exact hk) ?_
  refine y_pI (i := 2) rfl rfl rfl (hC 8 _ _ rfl) rfl rfl ?_
  refine y_ld (x := .ref 8) rfl rfl (fun d => rfl) ?_
  refine y_ld (x := .ref (10 + 6 * b)) rfl rfl (fun d => rfl) ?_
  refine y_gI (i := 0) (e := nb) rfl rfl rfl (bx_ob hC (i := b) (by omega)) rfl (by rw [v_up_ne (by omega), v_up_ne (by omega)]; exact hn) ?_
  refine y_pI (i := 3) rfl rfl rfl (hC 8 _ _ rfl) rfl rfl ?_
  refine y_ld (x := .ref 8) rfl rfl (fun d => rfl) ?_
  refine y_ld (x := iv ln) rfl rfl (fun d => rfl) ?_
  refine y_pI (i := 4) rfl rfl rfl (hC 8 _ _ rfl) rfl rfl ?_
  refine y_ld (x := .ref 8) rfl rfl (fun d => rfl) ?_
  refine y_ld (x := .ref 8) rfl rfl (fun d => rfl) ?_
  refine y_gI (i := 2) (e := 2) rfl rfl rfl (hC 8 _ _ rfl) rfl rfl ?_
  refine y_ld (x := iv 0) rfl rfl (fun d => rfl) ?_
  refine y_ld (x := .int x) rfl rfl (fun d => rfl) ?_
  refine y_ic rfl rfl ?_
  refine y_cV (D' := 29) (as := [.ref 8, iv 2, iv 0, .int x, iv 0]) rfl rfl rfl rfl rfl (hC 8 _ _ rfl) ⟨rfl, (Nat.le_of_ble_eq_true rfl), (Nat.le_of_ble_eq_true rfl)⟩ (by decide) ?_
  refine y_ent (lv' := [(0, .ref 8), (1, iv 2), (2, iv 0), (3, .int x), (4, iv 0)]) (Nat.le_of_ble_eq_true rfl) rfl ?_
  refine y_ld (x := iv 2) rfl rfl (fun d => rfl) ?_
  refine y_zlt rfl rfl rfl (by decide) (fun g1 => absurd g1 (by decide)) (fun g1 => ?_)
  refine y_ld (x := iv 2) rfl rfl (fun d => rfl) ?_
  refine y_bi rfl rfl (by decide) ?_
  refine y_jge rfl rfl rfl (by decide) (fun g2 => absurd g2 (by decide)) (fun g2 => ?_)
  refine y_ld (x := iv 0) rfl rfl (fun d => rfl) ?_
  refine y_bi rfl rfl (by decide) ?_
  refine y_jle rfl rfl rfl (by decide) (fun g3 => ?_) (fun g3 => absurd g3 (by decide))
  refine y_ld (x := iv 2) rfl rfl (fun d => rfl) ?_
  refine y_st (lv' := [(5, iv 2), (0, .ref 8), (1, iv 2), (2, iv 0), (3, .int x), (4, iv 0)]) rfl rfl (fun d => rfl) ?_
  refine y_ic rfl rfl ?_
  refine y_st (lv' := [(6, iv 0), (5, iv 2), (0, .ref 8), (1, iv 2), (2, iv 0), (3, .int x), (4, iv 0)]) rfl rfl (fun d => rfl) ?_
  refine y_ld (x := iv 0) rfl rfl (fun d => rfl) ?_
  refine y_bi rfl rfl (by decide) ?_
  refine y_jge rfl rfl rfl (by decide) (fun g4 => absurd g4 (by decide)) (fun g4 => ?_)
  refine y_ld (x := iv 2) rfl rfl (fun d => rfl) ?_
  refine y_zle rfl rfl rfl (by decide) (fun g5 => absurd g5 (by decide)) (fun g5 => ?_)
  refine y_in rfl rfl (fun d => rfl) ?_
  refine y_ld (x := iv 2) rfl rfl (fun d => rfl) ?_
  refine y_ic rfl rfl ?_
  refine y_mul (z := 6) rfl rfl rfl ?_
  refine y_ld (x := iv 0) rfl rfl (fun d => rfl) ?_
  refine y_add (z := 6) rfl rfl rfl ?_
  refine y_sti (n := 1) (i := 6) (f := 21) rfl rfl hXb h3X (by decide) rfl rfl ?_
  refine y_zeq rfl rfl rfl (by decide) (fun g6 => absurd g6 (by decide)) (fun g6 => ?_)
  refine y_go rfl rfl ?_
  refine y_in rfl rfl (fun d => rfl) ?_
  refine y_ld (x := iv 2) rfl rfl (fun d => rfl) ?_
  refine y_ic rfl rfl ?_
  refine y_mul (z := 6) rfl rfl rfl ?_
  refine y_ld (x := iv 0) rfl rfl (fun d => rfl) ?_
  refine y_add (z := 6) rfl rfl rfl ?_
  refine y_sti (n := 1) (i := 6) (f := 21) rfl rfl hXb h3X (by decide) rfl rfl ?_
  refine y_st (lv' := [(6, iv 21), (5, iv 2), (0, .ref 8), (1, iv 2), (2, iv 0), (3, .int x), (4, iv 0)]) rfl rfl (fun d => rfl) ?_
  refine y_ld (x := .ref 8) rfl rfl (fun d => rfl) ?_
  refine y_gI (i := 1) (e := 0) rfl rfl rfl (hC 8 _ _ rfl) rfl rfl ?_
  refine y_bi rfl rfl (by decide) ?_
  refine y_jge rfl rfl rfl (by decide) (fun g7 => absurd g7 (by decide)) (fun g7 => ?_)
  refine y_ld (x := .ref 8) rfl rfl (fun d => rfl) ?_
  refine y_gR (i := 0) rfl rfl rfl (hC 8 _ _ rfl) rfl ?_
  refine y_ld (x := .ref 8) rfl rfl (fun d => rfl) ?_
  refine y_gI (i := 1) (e := 0) rfl rfl rfl (hC 8 _ _ rfl) rfl rfl ?_
  refine y_ld (x := iv 21) rfl rfl (fun d => rfl) ?_
  refine y_ist (q := 0) rfl rfl (cl_ia hC (k := 9) (N := 20) rfl) (by decide) (by decide) rfl ?_
  refine y_ld (x := .ref 8) rfl rfl (fun d => rfl) ?_
  refine y_in rfl rfl (fun d => rfl) ?_
  refine y_gI (i := 1) (e := 0) rfl rfl rfl (hC 8 _ _ rfl) rfl rfl ?_
  refine y_ic rfl rfl ?_
  refine y_add (z := 1) rfl rfl rfl ?_
  refine y_pI (i := 1) rfl rfl rfl (hC 8 _ _ rfl) rfl rfl ?_
  refine y_ld (x := .ref 8) rfl rfl (fun d => rfl) ?_
  refine y_ld (x := iv 21) rfl rfl (fun d => rfl) ?_
  refine y_in rfl rfl (fun d => rfl) ?_
  refine y_ld (x := iv 2) rfl rfl (fun d => rfl) ?_
  refine y_sti (n := 2) (i := 2) (f := 0) rfl rfl hXa h3X (by decide) rfl rfl ?_
  refine y_ld (x := .int x) rfl rfl (fun d => rfl) ?_
  refine y_ld (x := iv 0) rfl rfl (fun d => rfl) ?_
  refine y_ic rfl rfl ?_
  refine y_add (z := 1) rfl rfl rfl ?_
  refine y_cV (D' := 28) (as := [.ref 8, iv 21, iv 0, .int x, iv 1]) rfl rfl rfl rfl rfl (hC 8 _ _ rfl) ⟨rfl, (Nat.le_of_ble_eq_true rfl), (Nat.le_of_ble_eq_true rfl)⟩ (by decide) ?_
  refine y_ent (lv' := [(0, .ref 8), (1, iv 21), (2, iv 0), (3, .int x), (4, iv 1)]) (Nat.le_of_ble_eq_true rfl) rfl ?_
  refine y_ld (x := iv 21) rfl rfl (fun d => rfl) ?_
  refine y_in (pc' := 136) rfl rfl (fun d => rfl) ?_
  refine y_ld (x := .ref 8) rfl rfl (fun d => rfl) ?_
  refine y_ld (x := iv 0) rfl rfl (fun d => rfl) ?_
  refine y_ic rfl rfl ?_
  refine y_ld (x := .int x) rfl rfl (fun d => rfl) ?_
  refine y_ld (x := iv 1) rfl rfl (fun d => rfl) ?_
  refine y_cV (D' := 27) (as := [.ref 8, iv 0, iv 0, .int x, iv 1]) rfl rfl rfl rfl rfl (hC 8 _ _ rfl) ⟨rfl, (Nat.le_of_ble_eq_true rfl), (Nat.le_of_ble_eq_true rfl)⟩ (by decide) ?_
  refine y_ent (lv' := [(0, .ref 8), (1, iv 0), (2, iv 0), (3, .int x), (4, iv 1)]) (Nat.le_of_ble_eq_true rfl) rfl ?_
  refine y_ld (x := iv 0) rfl rfl (fun d => rfl) ?_
  refine y_zlt rfl rfl rfl (by decide) (fun g8 => absurd g8 (by decide)) (fun g8 => ?_)
  refine y_ld (x := iv 0) rfl rfl (fun d => rfl) ?_
  refine y_bi rfl rfl (by decide) ?_
  refine y_jge rfl rfl rfl (by decide) (fun g9 => absurd g9 (by decide)) (fun g9 => ?_)
  refine y_ld (x := iv 1) rfl rfl (fun d => rfl) ?_
  refine y_bi rfl rfl (by decide) ?_
  refine y_jle rfl rfl rfl (by decide) (fun g10 => ?_) (fun g10 => absurd g10 (by decide))
  refine y_ld (x := iv 0) rfl rfl (fun d => rfl) ?_
  refine y_st (lv' := [(5, iv 0), (0, .ref 8), (1, iv 0), (2, iv 0), (3, .int x), (4, iv 1)]) rfl rfl (fun d => rfl) ?_
  refine y_ic rfl rfl ?_
  refine y_st (lv' := [(6, iv 0), (5, iv 0), (0, .ref 8), (1, iv 0), (2, iv 0), (3, .int x), (4, iv 1)]) rfl rfl (fun d => rfl) ?_
  refine y_ld (x := iv 0) rfl rfl (fun d => rfl) ?_
  refine y_bi rfl rfl (by decide) ?_
  refine y_jge rfl rfl rfl (by decide) (fun g11 => absurd g11 (by decide)) (fun g11 => ?_)
  refine y_ld (x := iv 0) rfl rfl (fun d => rfl) ?_
  refine y_zle rfl rfl rfl (by decide) (fun g12 => ?_) (fun g12 => absurd g12 (by decide))
  refine y_in rfl rfl (fun d => rfl) ?_
  refine y_ld (x := iv 0) rfl rfl (fun d => rfl) ?_
  refine y_ic rfl rfl ?_
  refine y_mul (z := 0) rfl rfl rfl ?_
  refine y_ld (x := iv 0) rfl rfl (fun d => rfl) ?_
  refine y_add (z := 0) rfl rfl rfl ?_
  refine y_sti (n := 1) (i := 0) (f := 1) rfl rfl hXb h3X (by decide) rfl rfl ?_
  refine y_st (lv' := [(6, iv 1), (5, iv 0), (0, .ref 8), (1, iv 0), (2, iv 0), (3, .int x), (4, iv 1)]) rfl rfl (fun d => rfl) ?_
  refine y_ld (x := .ref 8) rfl rfl (fun d => rfl) ?_
  refine y_gI (i := 1) (e := 1) rfl rfl rfl (hC 8 _ _ rfl) rfl rfl ?_
  refine y_bi rfl rfl (by decide) ?_
  refine y_jge rfl rfl rfl (by decide) (fun g13 => absurd g13 (by decide)) (fun g13 => ?_)
  refine y_ld (x := .ref 8) rfl rfl (fun d => rfl) ?_
  refine y_gR (i := 0) rfl rfl rfl (hC 8 _ _ rfl) rfl ?_
  refine y_ld (x := .ref 8) rfl rfl (fun d => rfl) ?_
  refine y_gI (i := 1) (e := 1) rfl rfl rfl (hC 8 _ _ rfl) rfl rfl ?_
  refine y_ld (x := iv 1) rfl rfl (fun d => rfl) ?_
  refine y_ist (q := 1) rfl rfl (cl_ia hC (k := 9) (N := 20) rfl) (by decide) (by decide) rfl ?_
  refine y_ld (x := .ref 8) rfl rfl (fun d => rfl) ?_
  refine y_in rfl rfl (fun d => rfl) ?_
  refine y_gI (i := 1) (e := 1) rfl rfl rfl (hC 8 _ _ rfl) rfl rfl ?_
  refine y_ic rfl rfl ?_
  refine y_add (z := 2) rfl rfl rfl ?_
  refine y_pI (i := 1) rfl rfl rfl (hC 8 _ _ rfl) rfl rfl ?_
  refine y_ld (x := .ref 8) rfl rfl (fun d => rfl) ?_
  refine y_ld (x := iv 1) rfl rfl (fun d => rfl) ?_
  refine y_in rfl rfl (fun d => rfl) ?_
  refine y_ld (x := iv 0) rfl rfl (fun d => rfl) ?_
  refine y_sti (n := 2) (i := 0) (f := (-1)) rfl rfl hXa h3X (by decide) rfl rfl ?_
  refine y_ld (x := .int x) rfl rfl (fun d => rfl) ?_
  refine y_ld (x := iv 1) rfl rfl (fun d => rfl) ?_
  refine y_ic rfl rfl ?_
  refine y_add (z := 2) rfl rfl rfl ?_
  refine y_cV (D' := 26) (as := [.ref 8, iv 1, iv (-1), .int x, iv 2]) rfl rfl rfl rfl rfl (hC 8 _ _ rfl) ⟨rfl, (Nat.le_of_ble_eq_true rfl), (Nat.le_of_ble_eq_true rfl)⟩ (by decide) ?_
  refine y_ent (lv' := [(0, .ref 8), (1, iv 1), (2, iv (-1)), (3, .int x), (4, iv 2)]) (Nat.le_of_ble_eq_true rfl) rfl ?_
  refine y_ld (x := iv 1) rfl rfl (fun d => rfl) ?_
  refine y_in (pc' := 84) rfl rfl (fun d => rfl) ?_
  refine y_ld (x := .int x) rfl rfl (fun d => rfl) ?_
  refine y_ld (x := .ref 8) rfl rfl (fun d => rfl) ?_
  refine y_gI (i := 3) (e := nb) rfl rfl rfl (hC 8 _ _ rfl) rfl rfl ?_
  refine y_in rfl rfl (fun d => rfl) ?_
  refine y_ret rfl (fun d => rfl) ?_
  refine y_nv ?_
  refine y_ret rfl (fun d => rfl) ?_
  refine y_nv ?_
  refine y_in rfl rfl (fun d => rfl) ?_
  refine y_ret rfl (fun d => rfl) ?_
  refine y_nv ?_
  refine y_ret rfl (fun d => rfl) ?_
  refine y_nv ?_
  refine y_ret rfl (fun d => rfl) ?_
  exact k _ (fun k h8 h9 => by rw [v_up_ne h8, v_up_ne h9, v_up_ne h8, v_up_ne h9, v_up_ne h8, v_up_ne h8, v_up_ne h8, v_up_ne h8]) ⟨by show (0 : Int) ≤ 2; decide, by show (2 : Int) ≤ 20; decide⟩
set_option maxRecDepth 100000 in
set_option maxHeartbeats 4000000 in
theorem ca_2_1 (hC : ClF S) (hXb : X 1 = m_bodies) (hXa : X 2 = m_above) (h3X : X 3 = []) {b : Nat} {nb ln : Int} {x : Int32} (hb : b < 8) (hk : V (10 + 6 * b) 1 = 2) (hn : V (10 + 6 * b) 0 = nb) (k : ∀ V2, (∀ k, k ≠ 8 → k ≠ 9 → V2 k = V k) → 0 ≤ V2 8 1 ∧ V2 8 1 ≤ 20 → K u w (some (.int (acV 2 1 x nb ln))) S V2) : y_R X 30 61 u w [.ref 8, .ref (10 + 6 * b), iv ln, iv 1, .int x] S (v_up V 8 1 0) K := by
  refine y_ent (lv' := [(0, .ref 8), (1, .ref (10 + 6 * b)), (2, iv ln), (3, iv 1), (4, .int x)]) (Nat.le_of_ble_eq_true rfl) rfl ?_
  refine y_ld (x := .ref 8) rfl rfl (fun d => rfl) ?_
  refine y_ld (x := .ref (10 + 6 * b)) rfl rfl (fun d => rfl) ?_
  refine y_gI (i := 1) (e := 2) rfl rfl rfl (bx_ob hC (i := b) (by omega)) rfl (by rw [v_up_ne (by omega)]; exact hk) ?_
  refine y_pI (i := 2) rfl rfl rfl (hC 8 _ _ rfl) rfl rfl ?_
  refine y_ld (x := .ref 8) rfl rfl (fun d => rfl) ?_
  refine y_ld (x := .ref (10 + 6 * b)) rfl rfl (fun d => rfl) ?_
  refine y_gI (i := 0) (e := nb) rfl rfl rfl (bx_ob hC (i := b) (by omega)) rfl (by rw [v_up_ne (by omega), v_up_ne (by omega)]; exact hn) ?_
  refine y_pI (i := 3) rfl rfl rfl (hC 8 _ _ rfl) rfl rfl ?_
  refine y_ld (x := .ref 8) rfl rfl (fun d => rfl) ?_
  refine y_ld (x := iv ln) rfl rfl (fun d => rfl) ?_
  refine y_pI (i := 4) rfl rfl rfl (hC 8 _ _ rfl) rfl rfl ?_
  refine y_ld (x := .ref 8) rfl rfl (fun d => rfl) ?_
  refine y_ld (x := .ref 8) rfl rfl (fun d => rfl) ?_
  refine y_gI (i := 2) (e := 2) rfl rfl rfl (hC 8 _ _ rfl) rfl rfl ?_
  refine y_ld (x := iv 1) rfl rfl (fun d => rfl) ?_
  refine y_ld (x := .int x) rfl rfl (fun d => rfl) ?_
  refine y_ic rfl rfl ?_
  refine y_cV (D' := 29) (as := [.ref 8, iv 2, iv 1, .int x, iv 0]) rfl rfl rfl rfl rfl (hC 8 _ _ rfl) ⟨rfl, (Nat.le_of_ble_eq_true rfl), (Nat.le_of_ble_eq_true rfl)⟩ (by decide) ?_
  refine y_ent (lv' := [(0, .ref 8), (1, iv 2), (2, iv 1), (3, .int x), (4, iv 0)]) (Nat.le_of_ble_eq_true rfl) rfl ?_
  refine y_ld (x := iv 2) rfl rfl (fun d => rfl) ?_
  refine y_zlt rfl rfl rfl (by decide) (fun g1 => absurd g1 (by decide)) (fun g1 => ?_)
  refine y_ld (x := iv 2) rfl rfl (fun d => rfl) ?_
  refine y_bi rfl rfl (by decide) ?_
  refine y_jge rfl rfl rfl (by decide) (fun g2 => absurd g2 (by decide)) (fun g2 => ?_)
  refine y_ld (x := iv 0) rfl rfl (fun d => rfl) ?_
  refine y_bi rfl rfl (by decide) ?_
  refine y_jle rfl rfl rfl (by decide) (fun g3 => ?_) (fun g3 => absurd g3 (by decide))
  refine y_ld (x := iv 2) rfl rfl (fun d => rfl) ?_
  refine y_st (lv' := [(5, iv 2), (0, .ref 8), (1, iv 2), (2, iv 1), (3, .int x), (4, iv 0)]) rfl rfl (fun d => rfl) ?_
  refine y_ic rfl rfl ?_
  refine y_st (lv' := [(6, iv 0), (5, iv 2), (0, .ref 8), (1, iv 2), (2, iv 1), (3, .int x), (4, iv 0)]) rfl rfl (fun d => rfl) ?_
  refine y_ld (x := iv 0) rfl rfl (fun d => rfl) ?_
  refine y_bi rfl rfl (by decide) ?_
  refine y_jge rfl rfl rfl (by decide) (fun g4 => absurd g4 (by decide)) (fun g4 => ?_)
  refine y_ld (x := iv 2) rfl rfl (fun d => rfl) ?_
  refine y_zle rfl rfl rfl (by decide) (fun g5 => absurd g5 (by decide)) (fun g5 => ?_)
  refine y_in rfl rfl (fun d => rfl) ?_
  refine y_ld (x := iv 2) rfl rfl (fun d => rfl) ?_
  refine y_ic rfl rfl ?_
  refine y_mul (z := 6) rfl rfl rfl ?_
  refine y_ld (x := iv 1) rfl rfl (fun d => rfl) ?_
  refine y_add (z := 7) rfl rfl rfl ?_
  refine y_sti (n := 1) (i := 7) (f := 0) rfl rfl hXb h3X (by decide) rfl rfl ?_
  refine y_zeq rfl rfl rfl (by decide) (fun g6 => ?_) (fun g6 => absurd g6 (by decide))
  refine y_in rfl rfl (fun d => rfl) ?_
  refine y_ld (x := iv 2) rfl rfl (fun d => rfl) ?_
  refine y_sti (n := 2) (i := 2) (f := 0) rfl rfl hXa h3X (by decide) rfl rfl ?_
  refine y_st (lv' := [(5, iv 0), (6, iv 0), (0, .ref 8), (1, iv 2), (2, iv 1), (3, .int x), (4, iv 0)]) rfl rfl (fun d => rfl) ?_
  refine y_inc (z := 1) (lv' := [(6, iv 1), (5, iv 0), (0, .ref 8), (1, iv 2), (2, iv 1), (3, .int x), (4, iv 0)]) rfl rfl rfl rfl rfl ?_
  refine y_go rfl rfl ?_
  refine y_ld (x := iv 1) rfl rfl (fun d => rfl) ?_
  refine y_bi rfl rfl (by decide) ?_
  refine y_jge rfl rfl rfl (by decide) (fun g7 => absurd g7 (by decide)) (fun g7 => ?_)
  refine y_ld (x := iv 0) rfl rfl (fun d => rfl) ?_
  refine y_zle rfl rfl rfl (by decide) (fun g8 => ?_) (fun g8 => absurd g8 (by decide))
  refine y_in rfl rfl (fun d => rfl) ?_
  refine y_ld (x := iv 0) rfl rfl (fun d => rfl) ?_
  refine y_ic rfl rfl ?_
  refine y_mul (z := 0) rfl rfl rfl ?_
  refine y_ld (x := iv 1) rfl rfl (fun d => rfl) ?_
  refine y_add (z := 1) rfl rfl rfl ?_
  refine y_sti (n := 1) (i := 1) (f := 2) rfl rfl hXb h3X (by decide) rfl rfl ?_
  refine y_st (lv' := [(6, iv 2), (5, iv 0), (0, .ref 8), (1, iv 2), (2, iv 1), (3, .int x), (4, iv 0)]) rfl rfl (fun d => rfl) ?_
  refine y_ld (x := .ref 8) rfl rfl (fun d => rfl) ?_
  refine y_gI (i := 1) (e := 0) rfl rfl rfl (hC 8 _ _ rfl) rfl rfl ?_
  refine y_bi rfl rfl (by decide) ?_
  refine y_jge rfl rfl rfl (by decide) (fun g9 => absurd g9 (by decide)) (fun g9 => ?_)
  refine y_ld (x := .ref 8) rfl rfl (fun d => rfl) ?_
  refine y_gR (i := 0) rfl rfl rfl (hC 8 _ _ rfl) rfl ?_
  refine y_ld (x := .ref 8) rfl rfl (fun d => rfl) ?_
  refine y_gI (i := 1) (e := 0) rfl rfl rfl (hC 8 _ _ rfl) rfl rfl ?_
  refine y_ld (x := iv 2) rfl rfl (fun d => rfl) ?_
  refine y_ist (q := 0) rfl rfl (cl_ia hC (k := 9) (N := 20) rfl) (by decide) (by decide) rfl ?_
  refine y_ld (x := .ref 8) rfl rfl (fun d => rfl) ?_
  refine y_in rfl rfl (fun d => rfl) ?_
  refine y_gI (i := 1) (e := 0) rfl rfl rfl (hC 8 _ _ rfl) rfl rfl ?_
  refine y_ic rfl rfl ?_
  refine y_add (z := 1) rfl rfl rfl ?_
  refine y_pI (i := 1) rfl rfl rfl (hC 8 _ _ rfl) rfl rfl ?_
  refine y_ld (x := .ref 8) rfl rfl (fun d => rfl) ?_
  refine y_ld (x := iv 2) rfl rfl (fun d => rfl) ?_
  refine y_in rfl rfl (fun d => rfl) ?_
  refine y_ld (x := iv 0) rfl rfl (fun d => rfl) ?_
  refine y_sti (n := 2) (i := 0) (f := (-1)) rfl rfl hXa h3X (by decide) rfl rfl ?_
  refine y_ld (x := .int x) rfl rfl (fun d => rfl) ?_
  refine y_ld (x := iv 0) rfl rfl (fun d => rfl) ?_
  refine y_ic rfl rfl ?_
  refine y_add (z := 1) rfl rfl rfl ?_
  refine y_cV (D' := 28) (as := [.ref 8, iv 2, iv (-1), .int x, iv 1]) rfl rfl rfl rfl rfl (hC 8 _ _ rfl) ⟨rfl, (Nat.le_of_ble_eq_true rfl), (Nat.le_of_ble_eq_true rfl)⟩ (by decide) ?_
  refine y_ent (lv' := [(0, .ref 8), (1, iv 2), (2, iv (-1)), (3, .int x), (4, iv 1)]) (Nat.le_of_ble_eq_true rfl) rfl ?_
  refine y_ld (x := iv 2) rfl rfl (fun d => rfl) ?_
  refine y_in (pc' := 91) rfl rfl (fun d => rfl) ?_
  refine y_ld (x := .ref 8) rfl rfl (fun d => rfl) ?_
  refine y_ld (x := .ref 8) rfl rfl (fun d => rfl) ?_
  refine y_gI (i := 2) (e := 2) rfl rfl rfl (hC 8 _ _ rfl) rfl rfl ?_
  refine y_ic rfl rfl ?_
  refine y_ld (x := .int x) rfl rfl (fun d => rfl) ?_
  refine y_ld (x := iv 1) rfl rfl (fun d => rfl) ?_
  refine y_cV (D' := 27) (as := [.ref 8, iv 2, iv 0, .int x, iv 1]) rfl rfl rfl rfl rfl (hC 8 _ _ rfl) ⟨rfl, (Nat.le_of_ble_eq_true rfl), (Nat.le_of_ble_eq_true rfl)⟩ (by decide) ?_
  refine y_ent (lv' := [(0, .ref 8), (1, iv 2), (2, iv 0), (3, .int x), (4, iv 1)]) (Nat.le_of_ble_eq_true rfl) rfl ?_
  refine y_ld (x := iv 2) rfl rfl (fun d => rfl) ?_
  refine y_zlt rfl rfl rfl (by decide) (fun g10 => absurd g10 (by decide)) (fun g10 => ?_)
  refine y_ld (x := iv 2) rfl rfl (fun d => rfl) ?_
  refine y_bi rfl rfl (by decide) ?_
  refine y_jge rfl rfl rfl (by decide) (fun g11 => absurd g11 (by decide)) (fun g11 => ?_)
  refine y_ld (x := iv 1) rfl rfl (fun d => rfl) ?_
  refine y_bi rfl rfl (by decide) ?_
  refine y_jle rfl rfl rfl (by decide) (fun g12 => ?_) (fun g12 => absurd g12 (by decide))
  refine y_ld (x := iv 2) rfl rfl (fun d => rfl) ?_
  refine y_st (lv' := [(5, iv 2), (0, .ref 8), (1, iv 2), (2, iv 0), (3, .int x), (4, iv 1)]) rfl rfl (fun d => rfl) ?_
  refine y_ic rfl rfl ?_
  refine y_st (lv' := [(6, iv 0), (5, iv 2), (0, .ref 8), (1, iv 2), (2, iv 0), (3, .int x), (4, iv 1)]) rfl rfl (fun d => rfl) ?_
  refine y_ld (x := iv 0) rfl rfl (fun d => rfl) ?_
  refine y_bi rfl rfl (by decide) ?_
  refine y_jge rfl rfl rfl (by decide) (fun g13 => absurd g13 (by decide)) (fun g13 => ?_)
  refine y_ld (x := iv 2) rfl rfl (fun d => rfl) ?_
  refine y_zle rfl rfl rfl (by decide) (fun g14 => absurd g14 (by decide)) (fun g14 => ?_)
  refine y_in rfl rfl (fun d => rfl) ?_
  refine y_ld (x := iv 2) rfl rfl (fun d => rfl) ?_
  refine y_ic rfl rfl ?_
  refine y_mul (z := 6) rfl rfl rfl ?_
  refine y_ld (x := iv 0) rfl rfl (fun d => rfl) ?_
  refine y_add (z := 6) rfl rfl rfl ?_
  refine y_sti (n := 1) (i := 6) (f := 21) rfl rfl hXb h3X (by decide) rfl rfl ?_
  refine y_zeq rfl rfl rfl (by decide) (fun g15 => absurd g15 (by decide)) (fun g15 => ?_)
  refine y_go rfl rfl ?_
  refine y_in rfl rfl (fun d => rfl) ?_
  refine y_ld (x := iv 2) rfl rfl (fun d => rfl) ?_
  refine y_ic rfl rfl ?_
  refine y_mul (z := 6) rfl rfl rfl ?_
  refine y_ld (x := iv 0) rfl rfl (fun d => rfl) ?_
  refine y_add (z := 6) rfl rfl rfl ?_
  refine y_sti (n := 1) (i := 6) (f := 21) rfl rfl hXb h3X (by decide) rfl rfl ?_
  refine y_st (lv' := [(6, iv 21), (5, iv 2), (0, .ref 8), (1, iv 2), (2, iv 0), (3, .int x), (4, iv 1)]) rfl rfl (fun d => rfl) ?_
  refine y_ld (x := .ref 8) rfl rfl (fun d => rfl) ?_
  refine y_gI (i := 1) (e := 1) rfl rfl rfl (hC 8 _ _ rfl) rfl rfl ?_
  refine y_bi rfl rfl (by decide) ?_
  refine y_jge rfl rfl rfl (by decide) (fun g16 => absurd g16 (by decide)) (fun g16 => ?_)
  refine y_ld (x := .ref 8) rfl rfl (fun d => rfl) ?_
  refine y_gR (i := 0) rfl rfl rfl (hC 8 _ _ rfl) rfl ?_
  refine y_ld (x := .ref 8) rfl rfl (fun d => rfl) ?_
  refine y_gI (i := 1) (e := 1) rfl rfl rfl (hC 8 _ _ rfl) rfl rfl ?_
  refine y_ld (x := iv 21) rfl rfl (fun d => rfl) ?_
  refine y_ist (q := 1) rfl rfl (cl_ia hC (k := 9) (N := 20) rfl) (by decide) (by decide) rfl ?_
  refine y_ld (x := .ref 8) rfl rfl (fun d => rfl) ?_
  refine y_in rfl rfl (fun d => rfl) ?_
  refine y_gI (i := 1) (e := 1) rfl rfl rfl (hC 8 _ _ rfl) rfl rfl ?_
  refine y_ic rfl rfl ?_
  refine y_add (z := 2) rfl rfl rfl ?_
  refine y_pI (i := 1) rfl rfl rfl (hC 8 _ _ rfl) rfl rfl ?_
  refine y_ld (x := .ref 8) rfl rfl (fun d => rfl) ?_
  refine y_ld (x := iv 21) rfl rfl (fun d => rfl) ?_
  refine y_in rfl rfl (fun d => rfl) ?_
  refine y_ld (x := iv 2) rfl rfl (fun d => rfl) ?_
  refine y_sti (n := 2) (i := 2) (f := 0) rfl rfl hXa h3X (by decide) rfl rfl ?_
  refine y_ld (x := .int x) rfl rfl (fun d => rfl) ?_
  refine y_ld (x := iv 1) rfl rfl (fun d => rfl) ?_
  refine y_ic rfl rfl ?_
  refine y_add (z := 2) rfl rfl rfl ?_
  refine y_cV (D' := 26) (as := [.ref 8, iv 21, iv 0, .int x, iv 2]) rfl rfl rfl rfl rfl (hC 8 _ _ rfl) ⟨rfl, (Nat.le_of_ble_eq_true rfl), (Nat.le_of_ble_eq_true rfl)⟩ (by decide) ?_
  refine y_ent (lv' := [(0, .ref 8), (1, iv 21), (2, iv 0), (3, .int x), (4, iv 2)]) (Nat.le_of_ble_eq_true rfl) rfl ?_
  refine y_ld (x := iv 21) rfl rfl (fun d => rfl) ?_
  refine y_in (pc' := 136) rfl rfl (fun d => rfl) ?_
  refine y_ld (x := .ref 8) rfl rfl (fun d => rfl) ?_
  refine y_ld (x := iv 0) rfl rfl (fun d => rfl) ?_
  refine y_ic rfl rfl ?_
  refine y_ld (x := .int x) rfl rfl (fun d => rfl) ?_
  refine y_ld (x := iv 2) rfl rfl (fun d => rfl) ?_
  refine y_cV (D' := 25) (as := [.ref 8, iv 0, iv 0, .int x, iv 2]) rfl rfl rfl rfl rfl (hC 8 _ _ rfl) ⟨rfl, (Nat.le_of_ble_eq_true rfl), (Nat.le_of_ble_eq_true rfl)⟩ (by decide) ?_
  refine y_ent (lv' := [(0, .ref 8), (1, iv 0), (2, iv 0), (3, .int x), (4, iv 2)]) (Nat.le_of_ble_eq_true rfl) rfl ?_
  refine y_ld (x := iv 0) rfl rfl (fun d => rfl) ?_
  refine y_zlt rfl rfl rfl (by decide) (fun g17 => absurd g17 (by decide)) (fun g17 => ?_)
  refine y_ld (x := iv 0) rfl rfl (fun d => rfl) ?_
  refine y_bi rfl rfl (by decide) ?_
  refine y_jge rfl rfl rfl (by decide) (fun g18 => absurd g18 (by decide)) (fun g18 => ?_)
  refine y_ld (x := iv 2) rfl rfl (fun d => rfl) ?_
  refine y_bi rfl rfl (by decide) ?_
  refine y_jle rfl rfl rfl (by decide) (fun g19 => ?_) (fun g19 => absurd g19 (by decide))
  refine y_ld (x := iv 0) rfl rfl (fun d => rfl) ?_
  refine y_st (lv' := [(5, iv 0), (0, .ref 8), (1, iv 0), (2, iv 0), (3, .int x), (4, iv 2)]) rfl rfl (fun d => rfl) ?_
  refine y_ic rfl rfl ?_
  refine y_st (lv' := [(6, iv 0), (5, iv 0), (0, .ref 8), (1, iv 0), (2, iv 0), (3, .int x), (4, iv 2)]) rfl rfl (fun d => rfl) ?_
  refine y_ld (x := iv 0) rfl rfl (fun d => rfl) ?_
  refine y_bi rfl rfl (by decide) ?_
  refine y_jge rfl rfl rfl (by decide) (fun g20 => absurd g20 (by decide)) (fun g20 => ?_)
  refine y_ld (x := iv 0) rfl rfl (fun d => rfl) ?_
  refine y_zle rfl rfl rfl (by decide) (fun g21 => ?_) (fun g21 => absurd g21 (by decide))
  refine y_in rfl rfl (fun d => rfl) ?_
  refine y_ld (x := iv 0) rfl rfl (fun d => rfl) ?_
  refine y_ic rfl rfl ?_
  refine y_mul (z := 0) rfl rfl rfl ?_
  refine y_ld (x := iv 0) rfl rfl (fun d => rfl) ?_
  refine y_add (z := 0) rfl rfl rfl ?_
  refine y_sti (n := 1) (i := 0) (f := 1) rfl rfl hXb h3X (by decide) rfl rfl ?_
  refine y_st (lv' := [(6, iv 1), (5, iv 0), (0, .ref 8), (1, iv 0), (2, iv 0), (3, .int x), (4, iv 2)]) rfl rfl (fun d => rfl) ?_
  refine y_ld (x := .ref 8) rfl rfl (fun d => rfl) ?_
  refine y_gI (i := 1) (e := 2) rfl rfl rfl (hC 8 _ _ rfl) rfl rfl ?_
  refine y_bi rfl rfl (by decide) ?_
  refine y_jge rfl rfl rfl (by decide) (fun g22 => absurd g22 (by decide)) (fun g22 => ?_)
  refine y_ld (x := .ref 8) rfl rfl (fun d => rfl) ?_
  refine y_gR (i := 0) rfl rfl rfl (hC 8 _ _ rfl) rfl ?_
  refine y_ld (x := .ref 8) rfl rfl (fun d => rfl) ?_
  refine y_gI (i := 1) (e := 2) rfl rfl rfl (hC 8 _ _ rfl) rfl rfl ?_
  refine y_ld (x := iv 1) rfl rfl (fun d => rfl) ?_
  refine y_ist (q := 2) rfl rfl (cl_ia hC (k := 9) (N := 20) rfl) (by decide) (by decide) rfl ?_
  refine y_ld (x := .ref 8) rfl rfl (fun d => rfl) ?_
  refine y_in rfl rfl (fun d => rfl) ?_
  refine y_gI (i := 1) (e := 2) rfl rfl rfl (hC 8 _ _ rfl) rfl rfl ?_
  refine y_ic rfl rfl ?_
  refine y_add (z := 3) rfl rfl rfl ?_
  refine y_pI (i := 1) rfl rfl rfl (hC 8 _ _ rfl) rfl rfl ?_
  refine y_ld (x := .ref 8) rfl rfl (fun d => rfl) ?_
  refine y_ld (x := iv 1) rfl rfl (fun d => rfl) ?_
  refine y_in rfl rfl (fun d => rfl) ?_
  refine y_ld (x := iv 0) rfl rfl (fun d => rfl) ?_
  refine y_sti (n := 2) (i := 0) (f := (-1)) rfl rfl hXa h3X (by decide) rfl rfl ?_
  refine y_ld (x := .int x) rfl rfl (fun d => rfl) ?_
  refine y_ld (x := iv 2) rfl rfl (fun d => rfl) ?_
  refine y_ic rfl rfl ?_
  refine y_add (z := 3) rfl rfl rfl ?_
  refine y_cV (D' := 24) (as := [.ref 8, iv 1, iv (-1), .int x, iv 3]) rfl rfl rfl rfl rfl (hC 8 _ _ rfl) ⟨rfl, (Nat.le_of_ble_eq_true rfl), (Nat.le_of_ble_eq_true rfl)⟩ (by decide) ?_
  refine y_ent (lv' := [(0, .ref 8), (1, iv 1), (2, iv (-1)), (3, .int x), (4, iv 3)]) (Nat.le_of_ble_eq_true rfl) rfl ?_
  refine y_ld (x := iv 1) rfl rfl (fun d => rfl) ?_
  refine y_in (pc' := 84) rfl rfl (fun d => rfl) ?_
  refine y_ld (x := .int x) rfl rfl (fun d => rfl) ?_
  refine y_ld (x := .ref 8) rfl rfl (fun d => rfl) ?_
  refine y_gI (i := 3) (e := nb) rfl rfl rfl (hC 8 _ _ rfl) rfl rfl ?_
  refine y_in rfl rfl (fun d => rfl) ?_
  refine y_ret rfl (fun d => rfl) ?_
  refine y_nv ?_
  refine y_ret rfl (fun d => rfl) ?_
  refine y_nv ?_
  refine y_in rfl rfl (fun d => rfl) ?_
  refine y_ret rfl (fun d => rfl) ?_
  refine y_nv ?_
  refine y_ret rfl (fun d => rfl) ?_
  refine y_nv ?_
  refine y_ld (x := .ref 8) rfl rfl (fun d => rfl) ?_
  refine y_gI (i := 4) (e := ln) rfl rfl rfl (hC 8 _ _ rfl) rfl rfl ?_
  refine y_in rfl rfl (fun d => rfl) ?_
  refine y_ret rfl (fun d => rfl) ?_
  refine y_nv ?_
  refine y_ret rfl (fun d => rfl) ?_
  refine y_nv ?_
  refine y_ret rfl (fun d => rfl) ?_
  exact k _ (fun k h8 h9 => by rw [v_up_ne h8, v_up_ne h9, v_up_ne h8, v_up_ne h9, v_up_ne h8, v_up_ne h9, v_up_ne h8, v_up_ne h8, v_up_ne h8, v_up_ne h8]) ⟨by show (0 : Int) ≤ 3; decide, by show (3 : Int) ≤ 20; decide⟩
set_option maxRecDepth 100000 in
set_option maxHeartbeats 4000000 in
theorem ca_2_2 (hC : ClF S) (hXb : X 1 = m_bodies) (hXa : X 2 = m_above) (h3X : X 3 = []) {b : Nat} {nb ln : Int} {x : Int32} (hb : b < 8) (hk : V (10 + 6 * b) 1 = 2) (hn : V (10 + 6 * b) 0 = nb) (k : ∀ V2, (∀ k, k ≠ 8 → k ≠ 9 → V2 k = V k) → 0 ≤ V2 8 1 ∧ V2 8 1 ≤ 20 → K u w (some (.int (acV 2 2 x nb ln))) S V2) : y_R X 30 61 u w [.ref 8, .ref (10 + 6 * b), iv ln, iv 2, .int x] S (v_up V 8 1 0) K := by
  refine y_ent (lv' := [(0, .ref 8), (1, .ref (10 + 6 * b)), (2, iv ln), (3, iv 2), (4, .int x)]) (Nat.le_of_ble_eq_true rfl) rfl ?_
  refine y_ld (x := .ref 8) rfl rfl (fun d => rfl) ?_
  refine y_ld (x := .ref (10 + 6 * b)) rfl rfl (fun d => rfl) ?_
  refine y_gI (i := 1) (e := 2) rfl rfl rfl (bx_ob hC (i := b) (by omega)) rfl (by rw [v_up_ne (by omega)]; exact hk) ?_
  refine y_pI (i := 2) rfl rfl rfl (hC 8 _ _ rfl) rfl rfl ?_
  refine y_ld (x := .ref 8) rfl rfl (fun d => rfl) ?_
  refine y_ld (x := .ref (10 + 6 * b)) rfl rfl (fun d => rfl) ?_
  refine y_gI (i := 0) (e := nb) rfl rfl rfl (bx_ob hC (i := b) (by omega)) rfl (by rw [v_up_ne (by omega), v_up_ne (by omega)]; exact hn) ?_
  refine y_pI (i := 3) rfl rfl rfl (hC 8 _ _ rfl) rfl rfl ?_
  refine y_ld (x := .ref 8) rfl rfl (fun d => rfl) ?_
  refine y_ld (x := iv ln) rfl rfl (fun d => rfl) ?_
  refine y_pI (i := 4) rfl rfl rfl (hC 8 _ _ rfl) rfl rfl ?_
  refine y_ld (x := .ref 8) rfl rfl (fun d => rfl) ?_
  refine y_ld (x := .ref 8) rfl rfl (fun d => rfl) ?_
  refine y_gI (i := 2) (e := 2) rfl rfl rfl (hC 8 _ _ rfl) rfl rfl ?_
  refine y_ld (x := iv 2) rfl rfl (fun d => rfl) ?_
  refine y_ld (x := .int x) rfl rfl (fun d => rfl) ?_
  refine y_ic rfl rfl ?_
  refine y_cV (D' := 29) (as := [.ref 8, iv 2, iv 2, .int x, iv 0]) rfl rfl rfl rfl rfl (hC 8 _ _ rfl) ⟨rfl, (Nat.le_of_ble_eq_true rfl), (Nat.le_of_ble_eq_true rfl)⟩ (by decide) ?_
  refine y_ent (lv' := [(0, .ref 8), (1, iv 2), (2, iv 2), (3, .int x), (4, iv 0)]) (Nat.le_of_ble_eq_true rfl) rfl ?_
  refine y_ld (x := iv 2) rfl rfl (fun d => rfl) ?_
  refine y_zlt rfl rfl rfl (by decide) (fun g1 => absurd g1 (by decide)) (fun g1 => ?_)
  refine y_ld (x := iv 2) rfl rfl (fun d => rfl) ?_
  refine y_bi rfl rfl (by decide) ?_
  refine y_jge rfl rfl rfl (by decide) (fun g2 => absurd g2 (by decide)) (fun g2 => ?_)
  refine y_ld (x := iv 0) rfl rfl (fun d => rfl) ?_
  refine y_bi rfl rfl (by decide) ?_
  refine y_jle rfl rfl rfl (by decide) (fun g3 => ?_) (fun g3 => absurd g3 (by decide))
  refine y_ld (x := iv 2) rfl rfl (fun d => rfl) ?_
  refine y_st (lv' := [(5, iv 2), (0, .ref 8), (1, iv 2), (2, iv 2), (3, .int x), (4, iv 0)]) rfl rfl (fun d => rfl) ?_
  refine y_ic rfl rfl ?_
  refine y_st (lv' := [(6, iv 0), (5, iv 2), (0, .ref 8), (1, iv 2), (2, iv 2), (3, .int x), (4, iv 0)]) rfl rfl (fun d => rfl) ?_
  refine y_ld (x := iv 0) rfl rfl (fun d => rfl) ?_
  refine y_bi rfl rfl (by decide) ?_
  refine y_jge rfl rfl rfl (by decide) (fun g4 => absurd g4 (by decide)) (fun g4 => ?_)
  refine y_ld (x := iv 2) rfl rfl (fun d => rfl) ?_
  refine y_zle rfl rfl rfl (by decide) (fun g5 => absurd g5 (by decide)) (fun g5 => ?_)
  refine y_in rfl rfl (fun d => rfl) ?_
  refine y_ld (x := iv 2) rfl rfl (fun d => rfl) ?_
  refine y_ic rfl rfl ?_
  refine y_mul (z := 6) rfl rfl rfl ?_
  refine y_ld (x := iv 2) rfl rfl (fun d => rfl) ?_
  refine y_add (z := 8) rfl rfl rfl ?_
  refine y_sti (n := 1) (i := 8) (f := 0) rfl rfl hXb h3X (by decide) rfl rfl ?_
  refine y_zeq rfl rfl rfl (by decide) (fun g6 => ?_) (fun g6 => absurd g6 (by decide))
  refine y_in rfl rfl (fun d => rfl) ?_
  refine y_ld (x := iv 2) rfl rfl (fun d => rfl) ?_
  refine y_sti (n := 2) (i := 2) (f := 0) rfl rfl hXa h3X (by decide) rfl rfl ?_
  refine y_st (lv' := [(5, iv 0), (6, iv 0), (0, .ref 8), (1, iv 2), (2, iv 2), (3, .int x), (4, iv 0)]) rfl rfl (fun d => rfl) ?_
  refine y_inc (z := 1) (lv' := [(6, iv 1), (5, iv 0), (0, .ref 8), (1, iv 2), (2, iv 2), (3, .int x), (4, iv 0)]) rfl rfl rfl rfl rfl ?_
  refine y_go rfl rfl ?_
  refine y_ld (x := iv 1) rfl rfl (fun d => rfl) ?_
  refine y_bi rfl rfl (by decide) ?_
  refine y_jge rfl rfl rfl (by decide) (fun g7 => absurd g7 (by decide)) (fun g7 => ?_)
  refine y_ld (x := iv 0) rfl rfl (fun d => rfl) ?_
  refine y_zle rfl rfl rfl (by decide) (fun g8 => ?_) (fun g8 => absurd g8 (by decide))
  refine y_in rfl rfl (fun d => rfl) ?_
  refine y_ld (x := iv 0) rfl rfl (fun d => rfl) ?_
  refine y_ic rfl rfl ?_
  refine y_mul (z := 0) rfl rfl rfl ?_
  refine y_ld (x := iv 2) rfl rfl (fun d => rfl) ?_
  refine y_add (z := 2) rfl rfl rfl ?_
  refine y_sti (n := 1) (i := 2) (f := 3) rfl rfl hXb h3X (by decide) rfl rfl ?_
  refine y_st (lv' := [(6, iv 3), (5, iv 0), (0, .ref 8), (1, iv 2), (2, iv 2), (3, .int x), (4, iv 0)]) rfl rfl (fun d => rfl) ?_
  refine y_ld (x := .ref 8) rfl rfl (fun d => rfl) ?_
  refine y_gI (i := 1) (e := 0) rfl rfl rfl (hC 8 _ _ rfl) rfl rfl ?_
  refine y_bi rfl rfl (by decide) ?_
  refine y_jge rfl rfl rfl (by decide) (fun g9 => absurd g9 (by decide)) (fun g9 => ?_)
  refine y_ld (x := .ref 8) rfl rfl (fun d => rfl) ?_
  refine y_gR (i := 0) rfl rfl rfl (hC 8 _ _ rfl) rfl ?_
  refine y_ld (x := .ref 8) rfl rfl (fun d => rfl) ?_
  refine y_gI (i := 1) (e := 0) rfl rfl rfl (hC 8 _ _ rfl) rfl rfl ?_
  refine y_ld (x := iv 3) rfl rfl (fun d => rfl) ?_
  refine y_ist (q := 0) rfl rfl (cl_ia hC (k := 9) (N := 20) rfl) (by decide) (by decide) rfl ?_
  refine y_ld (x := .ref 8) rfl rfl (fun d => rfl) ?_
  refine y_in rfl rfl (fun d => rfl) ?_
  refine y_gI (i := 1) (e := 0) rfl rfl rfl (hC 8 _ _ rfl) rfl rfl ?_
  refine y_ic rfl rfl ?_
  refine y_add (z := 1) rfl rfl rfl ?_
  refine y_pI (i := 1) rfl rfl rfl (hC 8 _ _ rfl) rfl rfl ?_
  refine y_ld (x := .ref 8) rfl rfl (fun d => rfl) ?_
  refine y_ld (x := iv 3) rfl rfl (fun d => rfl) ?_
  refine y_in rfl rfl (fun d => rfl) ?_
  refine y_ld (x := iv 0) rfl rfl (fun d => rfl) ?_
  refine y_sti (n := 2) (i := 0) (f := (-1)) rfl rfl hXa h3X (by decide) rfl rfl ?_
  refine y_ld (x := .int x) rfl rfl (fun d => rfl) ?_
  refine y_ld (x := iv 0) rfl rfl (fun d => rfl) ?_
  refine y_ic rfl rfl ?_
  refine y_add (z := 1) rfl rfl rfl ?_
  refine y_cV (D' := 28) (as := [.ref 8, iv 3, iv (-1), .int x, iv 1]) rfl rfl rfl rfl rfl (hC 8 _ _ rfl) ⟨rfl, (Nat.le_of_ble_eq_true rfl), (Nat.le_of_ble_eq_true rfl)⟩ (by decide) ?_
  refine y_ent (lv' := [(0, .ref 8), (1, iv 3), (2, iv (-1)), (3, .int x), (4, iv 1)]) (Nat.le_of_ble_eq_true rfl) rfl ?_
  refine y_ld (x := iv 3) rfl rfl (fun d => rfl) ?_
  refine y_in (pc' := 109) rfl rfl (fun d => rfl) ?_
  refine y_ld (x := .ref 8) rfl rfl (fun d => rfl) ?_
  refine y_ld (x := .ref 8) rfl rfl (fun d => rfl) ?_
  refine y_gI (i := 2) (e := 2) rfl rfl rfl (hC 8 _ _ rfl) rfl rfl ?_
  refine y_ic rfl rfl ?_
  refine y_ld (x := .int x) rfl rfl (fun d => rfl) ?_
  refine y_ld (x := iv 1) rfl rfl (fun d => rfl) ?_
  refine y_cV (D' := 27) (as := [.ref 8, iv 2, iv 1, .int x, iv 1]) rfl rfl rfl rfl rfl (hC 8 _ _ rfl) ⟨rfl, (Nat.le_of_ble_eq_true rfl), (Nat.le_of_ble_eq_true rfl)⟩ (by decide) ?_
  refine y_ent (lv' := [(0, .ref 8), (1, iv 2), (2, iv 1), (3, .int x), (4, iv 1)]) (Nat.le_of_ble_eq_true rfl) rfl ?_
  refine y_ld (x := iv 2) rfl rfl (fun d => rfl) ?_
  refine y_zlt rfl rfl rfl (by decide) (fun g10 => absurd g10 (by decide)) (fun g10 => ?_)
  refine y_ld (x := iv 2) rfl rfl (fun d => rfl) ?_
  refine y_bi rfl rfl (by decide) ?_
  refine y_jge rfl rfl rfl (by decide) (fun g11 => absurd g11 (by decide)) (fun g11 => ?_)
  refine y_ld (x := iv 1) rfl rfl (fun d => rfl) ?_
  refine y_bi rfl rfl (by decide) ?_
  refine y_jle rfl rfl rfl (by decide) (fun g12 => ?_) (fun g12 => absurd g12 (by decide))
  refine y_ld (x := iv 2) rfl rfl (fun d => rfl) ?_
  refine y_st (lv' := [(5, iv 2), (0, .ref 8), (1, iv 2), (2, iv 1), (3, .int x), (4, iv 1)]) rfl rfl (fun d => rfl) ?_
  refine y_ic rfl rfl ?_
  refine y_st (lv' := [(6, iv 0), (5, iv 2), (0, .ref 8), (1, iv 2), (2, iv 1), (3, .int x), (4, iv 1)]) rfl rfl (fun d => rfl) ?_
  refine y_ld (x := iv 0) rfl rfl (fun d => rfl) ?_
  refine y_bi rfl rfl (by decide) ?_
  refine y_jge rfl rfl rfl (by decide) (fun g13 => absurd g13 (by decide)) (fun g13 => ?_)
  refine y_ld (x := iv 2) rfl rfl (fun d => rfl) ?_
  refine y_zle rfl rfl rfl (by decide) (fun g14 => absurd g14 (by decide)) (fun g14 => ?_)
  refine y_in rfl rfl (fun d => rfl) ?_
  refine y_ld (x := iv 2) rfl rfl (fun d => rfl) ?_
  refine y_ic rfl rfl ?_
  refine y_mul (z := 6) rfl rfl rfl ?_
  refine y_ld (x := iv 1) rfl rfl (fun d => rfl) ?_
  refine y_add (z := 7) rfl rfl rfl ?_
  refine y_sti (n := 1) (i := 7) (f := 0) rfl rfl hXb h3X (by decide) rfl rfl ?_
  refine y_zeq rfl rfl rfl (by decide) (fun g15 => ?_) (fun g15 => absurd g15 (by decide))
  refine y_in rfl rfl (fun d => rfl) ?_
  refine y_ld (x := iv 2) rfl rfl (fun d => rfl) ?_
  refine y_sti (n := 2) (i := 2) (f := 0) rfl rfl hXa h3X (by decide) rfl rfl ?_
  refine y_st (lv' := [(5, iv 0), (6, iv 0), (0, .ref 8), (1, iv 2), (2, iv 1), (3, .int x), (4, iv 1)]) rfl rfl (fun d => rfl) ?_
  refine y_inc (z := 1) (lv' := [(6, iv 1), (5, iv 0), (0, .ref 8), (1, iv 2), (2, iv 1), (3, .int x), (4, iv 1)]) rfl rfl rfl rfl rfl ?_
  refine y_go rfl rfl ?_
  refine y_ld (x := iv 1) rfl rfl (fun d => rfl) ?_
  refine y_bi rfl rfl (by decide) ?_
  refine y_jge rfl rfl rfl (by decide) (fun g16 => absurd g16 (by decide)) (fun g16 => ?_)
  refine y_ld (x := iv 0) rfl rfl (fun d => rfl) ?_
  refine y_zle rfl rfl rfl (by decide) (fun g17 => ?_) (fun g17 => absurd g17 (by decide))
  refine y_in rfl rfl (fun d => rfl) ?_
  refine y_ld (x := iv 0) rfl rfl (fun d => rfl) ?_
  refine y_ic rfl rfl ?_
  refine y_mul (z := 0) rfl rfl rfl ?_
  refine y_ld (x := iv 1) rfl rfl (fun d => rfl) ?_
  refine y_add (z := 1) rfl rfl rfl ?_
  refine y_sti (n := 1) (i := 1) (f := 2) rfl rfl hXb h3X (by decide) rfl rfl ?_
  refine y_st (lv' := [(6, iv 2), (5, iv 0), (0, .ref 8), (1, iv 2), (2, iv 1), (3, .int x), (4, iv 1)]) rfl rfl (fun d => rfl) ?_
  refine y_ld (x := .ref 8) rfl rfl (fun d => rfl) ?_
  refine y_gI (i := 1) (e := 1) rfl rfl rfl (hC 8 _ _ rfl) rfl rfl ?_
  refine y_bi rfl rfl (by decide) ?_
  refine y_jge rfl rfl rfl (by decide) (fun g18 => absurd g18 (by decide)) (fun g18 => ?_)
  refine y_ld (x := .ref 8) rfl rfl (fun d => rfl) ?_
  refine y_gR (i := 0) rfl rfl rfl (hC 8 _ _ rfl) rfl ?_
  refine y_ld (x := .ref 8) rfl rfl (fun d => rfl) ?_
  refine y_gI (i := 1) (e := 1) rfl rfl rfl (hC 8 _ _ rfl) rfl rfl ?_
  refine y_ld (x := iv 2) rfl rfl (fun d => rfl) ?_
  refine y_ist (q := 1) rfl rfl (cl_ia hC (k := 9) (N := 20) rfl) (by decide) (by decide) rfl ?_
  refine y_ld (x := .ref 8) rfl rfl (fun d => rfl) ?_
  refine y_in rfl rfl (fun d => rfl) ?_
  refine y_gI (i := 1) (e := 1) rfl rfl rfl (hC 8 _ _ rfl) rfl rfl ?_
  refine y_ic rfl rfl ?_
  refine y_add (z := 2) rfl rfl rfl ?_
  refine y_pI (i := 1) rfl rfl rfl (hC 8 _ _ rfl) rfl rfl ?_
  refine y_ld (x := .ref 8) rfl rfl (fun d => rfl) ?_
  refine y_ld (x := iv 2) rfl rfl (fun d => rfl) ?_
  refine y_in rfl rfl (fun d => rfl) ?_
  refine y_ld (x := iv 0) rfl rfl (fun d => rfl) ?_
  refine y_sti (n := 2) (i := 0) (f := (-1)) rfl rfl hXa h3X (by decide) rfl rfl ?_
  refine y_ld (x := .int x) rfl rfl (fun d => rfl) ?_
  refine y_ld (x := iv 1) rfl rfl (fun d => rfl) ?_
  refine y_ic rfl rfl ?_
  refine y_add (z := 2) rfl rfl rfl ?_
  refine y_cV (D' := 26) (as := [.ref 8, iv 2, iv (-1), .int x, iv 2]) rfl rfl rfl rfl rfl (hC 8 _ _ rfl) ⟨rfl, (Nat.le_of_ble_eq_true rfl), (Nat.le_of_ble_eq_true rfl)⟩ (by decide) ?_
  refine y_ent (lv' := [(0, .ref 8), (1, iv 2), (2, iv (-1)), (3, .int x), (4, iv 2)]) (Nat.le_of_ble_eq_true rfl) rfl ?_
  refine y_ld (x := iv 2) rfl rfl (fun d => rfl) ?_
  refine y_in (pc' := 91) rfl rfl (fun d => rfl) ?_
  refine y_ld (x := .ref 8) rfl rfl (fun d => rfl) ?_
  refine y_ld (x := .ref 8) rfl rfl (fun d => rfl) ?_
  refine y_gI (i := 2) (e := 2) rfl rfl rfl (hC 8 _ _ rfl) rfl rfl ?_
  refine y_ic rfl rfl ?_
  refine y_ld (x := .int x) rfl rfl (fun d => rfl) ?_
  refine y_ld (x := iv 2) rfl rfl (fun d => rfl) ?_
  refine y_cV (D' := 25) (as := [.ref 8, iv 2, iv 0, .int x, iv 2]) rfl rfl rfl rfl rfl (hC 8 _ _ rfl) ⟨rfl, (Nat.le_of_ble_eq_true rfl), (Nat.le_of_ble_eq_true rfl)⟩ (by decide) ?_
  refine y_ent (lv' := [(0, .ref 8), (1, iv 2), (2, iv 0), (3, .int x), (4, iv 2)]) (Nat.le_of_ble_eq_true rfl) rfl ?_
  refine y_ld (x := iv 2) rfl rfl (fun d => rfl) ?_
  refine y_zlt rfl rfl rfl (by decide) (fun g19 => absurd g19 (by decide)) (fun g19 => ?_)
  refine y_ld (x := iv 2) rfl rfl (fun d => rfl) ?_
  refine y_bi rfl rfl (by decide) ?_
  refine y_jge rfl rfl rfl (by decide) (fun g20 => absurd g20 (by decide)) (fun g20 => ?_)
  refine y_ld (x := iv 2) rfl rfl (fun d => rfl) ?_
  refine y_bi rfl rfl (by decide) ?_
  refine y_jle rfl rfl rfl (by decide) (fun g21 => ?_) (fun g21 => absurd g21 (by decide))
  refine y_ld (x := iv 2) rfl rfl (fun d => rfl) ?_
  refine y_st (lv' := [(5, iv 2), (0, .ref 8), (1, iv 2), (2, iv 0), (3, .int x), (4, iv 2)]) rfl rfl (fun d => rfl) ?_
  refine y_ic rfl rfl ?_
  refine y_st (lv' := [(6, iv 0), (5, iv 2), (0, .ref 8), (1, iv 2), (2, iv 0), (3, .int x), (4, iv 2)]) rfl rfl (fun d => rfl) ?_
  refine y_ld (x := iv 0) rfl rfl (fun d => rfl) ?_
  refine y_bi rfl rfl (by decide) ?_
  refine y_jge rfl rfl rfl (by decide) (fun g22 => absurd g22 (by decide)) (fun g22 => ?_)
  refine y_ld (x := iv 2) rfl rfl (fun d => rfl) ?_
  refine y_zle rfl rfl rfl (by decide) (fun g23 => absurd g23 (by decide)) (fun g23 => ?_)
  refine y_in rfl rfl (fun d => rfl) ?_
  refine y_ld (x := iv 2) rfl rfl (fun d => rfl) ?_
  refine y_ic rfl rfl ?_
  refine y_mul (z := 6) rfl rfl rfl ?_
  refine y_ld (x := iv 0) rfl rfl (fun d => rfl) ?_
  refine y_add (z := 6) rfl rfl rfl ?_
  refine y_sti (n := 1) (i := 6) (f := 21) rfl rfl hXb h3X (by decide) rfl rfl ?_
  refine y_zeq rfl rfl rfl (by decide) (fun g24 => absurd g24 (by decide)) (fun g24 => ?_)
  refine y_go rfl rfl ?_
  refine y_in rfl rfl (fun d => rfl) ?_
  refine y_ld (x := iv 2) rfl rfl (fun d => rfl) ?_
  refine y_ic rfl rfl ?_
  refine y_mul (z := 6) rfl rfl rfl ?_
  refine y_ld (x := iv 0) rfl rfl (fun d => rfl) ?_
  refine y_add (z := 6) rfl rfl rfl ?_
  refine y_sti (n := 1) (i := 6) (f := 21) rfl rfl hXb h3X (by decide) rfl rfl ?_
  refine y_st (lv' := [(6, iv 21), (5, iv 2), (0, .ref 8), (1, iv 2), (2, iv 0), (3, .int x), (4, iv 2)]) rfl rfl (fun d => rfl) ?_
  refine y_ld (x := .ref 8) rfl rfl (fun d => rfl) ?_
  refine y_gI (i := 1) (e := 2) rfl rfl rfl (hC 8 _ _ rfl) rfl rfl ?_
  refine y_bi rfl rfl (by decide) ?_
  refine y_jge rfl rfl rfl (by decide) (fun g25 => absurd g25 (by decide)) (fun g25 => ?_)
  refine y_ld (x := .ref 8) rfl rfl (fun d => rfl) ?_
  refine y_gR (i := 0) rfl rfl rfl (hC 8 _ _ rfl) rfl ?_
  refine y_ld (x := .ref 8) rfl rfl (fun d => rfl) ?_
  refine y_gI (i := 1) (e := 2) rfl rfl rfl (hC 8 _ _ rfl) rfl rfl ?_
  refine y_ld (x := iv 21) rfl rfl (fun d => rfl) ?_
  refine y_ist (q := 2) rfl rfl (cl_ia hC (k := 9) (N := 20) rfl) (by decide) (by decide) rfl ?_
  refine y_ld (x := .ref 8) rfl rfl (fun d => rfl) ?_
  refine y_in rfl rfl (fun d => rfl) ?_
  refine y_gI (i := 1) (e := 2) rfl rfl rfl (hC 8 _ _ rfl) rfl rfl ?_
  refine y_ic rfl rfl ?_
  refine y_add (z := 3) rfl rfl rfl ?_
  refine y_pI (i := 1) rfl rfl rfl (hC 8 _ _ rfl) rfl rfl ?_
  refine y_ld (x := .ref 8) rfl rfl (fun d => rfl) ?_
  refine y_ld (x := iv 21) rfl rfl (fun d => rfl) ?_
  refine y_in rfl rfl (fun d => rfl) ?_
  refine y_ld (x := iv 2) rfl rfl (fun d => rfl) ?_
  refine y_sti (n := 2) (i := 2) (f := 0) rfl rfl hXa h3X (by decide) rfl rfl ?_
  refine y_ld (x := .int x) rfl rfl (fun d => rfl) ?_
  refine y_ld (x := iv 2) rfl rfl (fun d => rfl) ?_
  refine y_ic rfl rfl ?_
  refine y_add (z := 3) rfl rfl rfl ?_
  refine y_cV (D' := 24) (as := [.ref 8, iv 21, iv 0, .int x, iv 3]) rfl rfl rfl rfl rfl (hC 8 _ _ rfl) ⟨rfl, (Nat.le_of_ble_eq_true rfl), (Nat.le_of_ble_eq_true rfl)⟩ (by decide) ?_
  refine y_ent (lv' := [(0, .ref 8), (1, iv 21), (2, iv 0), (3, .int x), (4, iv 3)]) (Nat.le_of_ble_eq_true rfl) rfl ?_
  refine y_ld (x := iv 21) rfl rfl (fun d => rfl) ?_
  refine y_in (pc' := 136) rfl rfl (fun d => rfl) ?_
  refine y_ld (x := .ref 8) rfl rfl (fun d => rfl) ?_
  refine y_ld (x := iv 0) rfl rfl (fun d => rfl) ?_
  refine y_ic rfl rfl ?_
  refine y_ld (x := .int x) rfl rfl (fun d => rfl) ?_
  refine y_ld (x := iv 3) rfl rfl (fun d => rfl) ?_
  refine y_cV (D' := 23) (as := [.ref 8, iv 0, iv 0, .int x, iv 3]) rfl rfl rfl rfl rfl (hC 8 _ _ rfl) ⟨rfl, (Nat.le_of_ble_eq_true rfl), (Nat.le_of_ble_eq_true rfl)⟩ (by decide) ?_
  refine y_ent (lv' := [(0, .ref 8), (1, iv 0), (2, iv 0), (3, .int x), (4, iv 3)]) (Nat.le_of_ble_eq_true rfl) rfl ?_
  refine y_ld (x := iv 0) rfl rfl (fun d => rfl) ?_
  refine y_zlt rfl rfl rfl (by decide) (fun g26 => absurd g26 (by decide)) (fun g26 => ?_)
  refine y_ld (x := iv 0) rfl rfl (fun d => rfl) ?_
  refine y_bi rfl rfl (by decide) ?_
  refine y_jge rfl rfl rfl (by decide) (fun g27 => absurd g27 (by decide)) (fun g27 => ?_)
  refine y_ld (x := iv 3) rfl rfl (fun d => rfl) ?_
  refine y_bi rfl rfl (by decide) ?_
  refine y_jle rfl rfl rfl (by decide) (fun g28 => ?_) (fun g28 => absurd g28 (by decide))
  refine y_ld (x := iv 0) rfl rfl (fun d => rfl) ?_
  refine y_st (lv' := [(5, iv 0), (0, .ref 8), (1, iv 0), (2, iv 0), (3, .int x), (4, iv 3)]) rfl rfl (fun d => rfl) ?_
  refine y_ic rfl rfl ?_
  refine y_st (lv' := [(6, iv 0), (5, iv 0), (0, .ref 8), (1, iv 0), (2, iv 0), (3, .int x), (4, iv 3)]) rfl rfl (fun d => rfl) ?_
  refine y_ld (x := iv 0) rfl rfl (fun d => rfl) ?_
  refine y_bi rfl rfl (by decide) ?_
  refine y_jge rfl rfl rfl (by decide) (fun g29 => absurd g29 (by decide)) (fun g29 => ?_)
  refine y_ld (x := iv 0) rfl rfl (fun d => rfl) ?_
  refine y_zle rfl rfl rfl (by decide) (fun g30 => ?_) (fun g30 => absurd g30 (by decide))
  refine y_in rfl rfl (fun d => rfl) ?_
  refine y_ld (x := iv 0) rfl rfl (fun d => rfl) ?_
  refine y_ic rfl rfl ?_
  refine y_mul (z := 0) rfl rfl rfl ?_
  refine y_ld (x := iv 0) rfl rfl (fun d => rfl) ?_
  refine y_add (z := 0) rfl rfl rfl ?_
  refine y_sti (n := 1) (i := 0) (f := 1) rfl rfl hXb h3X (by decide) rfl rfl ?_
  refine y_st (lv' := [(6, iv 1), (5, iv 0), (0, .ref 8), (1, iv 0), (2, iv 0), (3, .int x), (4, iv 3)]) rfl rfl (fun d => rfl) ?_
  refine y_ld (x := .ref 8) rfl rfl (fun d => rfl) ?_
  refine y_gI (i := 1) (e := 3) rfl rfl rfl (hC 8 _ _ rfl) rfl rfl ?_
  refine y_bi rfl rfl (by decide) ?_
  refine y_jge rfl rfl rfl (by decide) (fun g31 => absurd g31 (by decide)) (fun g31 => ?_)
  refine y_ld (x := .ref 8) rfl rfl (fun d => rfl) ?_
  refine y_gR (i := 0) rfl rfl rfl (hC 8 _ _ rfl) rfl ?_
  refine y_ld (x := .ref 8) rfl rfl (fun d => rfl) ?_
  refine y_gI (i := 1) (e := 3) rfl rfl rfl (hC 8 _ _ rfl) rfl rfl ?_
  refine y_ld (x := iv 1) rfl rfl (fun d => rfl) ?_
  refine y_ist (q := 3) rfl rfl (cl_ia hC (k := 9) (N := 20) rfl) (by decide) (by decide) rfl ?_
  refine y_ld (x := .ref 8) rfl rfl (fun d => rfl) ?_
  refine y_in rfl rfl (fun d => rfl) ?_
  refine y_gI (i := 1) (e := 3) rfl rfl rfl (hC 8 _ _ rfl) rfl rfl ?_
  refine y_ic rfl rfl ?_
  refine y_add (z := 4) rfl rfl rfl ?_
  refine y_pI (i := 1) rfl rfl rfl (hC 8 _ _ rfl) rfl rfl ?_
  refine y_ld (x := .ref 8) rfl rfl (fun d => rfl) ?_
  refine y_ld (x := iv 1) rfl rfl (fun d => rfl) ?_
  refine y_in rfl rfl (fun d => rfl) ?_
  refine y_ld (x := iv 0) rfl rfl (fun d => rfl) ?_
  refine y_sti (n := 2) (i := 0) (f := (-1)) rfl rfl hXa h3X (by decide) rfl rfl ?_
  refine y_ld (x := .int x) rfl rfl (fun d => rfl) ?_
  refine y_ld (x := iv 3) rfl rfl (fun d => rfl) ?_
  refine y_ic rfl rfl ?_
  refine y_add (z := 4) rfl rfl rfl ?_
  refine y_cV (D' := 22) (as := [.ref 8, iv 1, iv (-1), .int x, iv 4]) rfl rfl rfl rfl rfl (hC 8 _ _ rfl) ⟨rfl, (Nat.le_of_ble_eq_true rfl), (Nat.le_of_ble_eq_true rfl)⟩ (by decide) ?_
  refine y_ent (lv' := [(0, .ref 8), (1, iv 1), (2, iv (-1)), (3, .int x), (4, iv 4)]) (Nat.le_of_ble_eq_true rfl) rfl ?_
  refine y_ld (x := iv 1) rfl rfl (fun d => rfl) ?_
  refine y_in (pc' := 84) rfl rfl (fun d => rfl) ?_
  refine y_ld (x := .int x) rfl rfl (fun d => rfl) ?_
  refine y_ld (x := .ref 8) rfl rfl (fun d => rfl) ?_
  refine y_gI (i := 3) (e := nb) rfl rfl rfl (hC 8 _ _ rfl) rfl rfl ?_
  refine y_in rfl rfl (fun d => rfl) ?_
  refine y_ret rfl (fun d => rfl) ?_
  refine y_nv ?_
  refine y_ret rfl (fun d => rfl) ?_
  refine y_nv ?_
  refine y_in rfl rfl (fun d => rfl) ?_
  refine y_ret rfl (fun d => rfl) ?_
  refine y_nv ?_
  refine y_ret rfl (fun d => rfl) ?_
  refine y_nv ?_
  refine y_ld (x := .ref 8) rfl rfl (fun d => rfl) ?_
  refine y_gI (i := 4) (e := ln) rfl rfl rfl (hC 8 _ _ rfl) rfl rfl ?_
  refine y_in rfl rfl (fun d => rfl) ?_
  refine y_ret rfl (fun d => rfl) ?_
  refine y_nv ?_
  refine y_ret rfl (fun d => rfl) ?_
  refine y_nv ?_
  refine y_ic rfl rfl ?_
  refine y_in rfl rfl (fun d => rfl) ?_
  refine y_ret rfl (fun d => rfl) ?_
  refine y_nv ?_
  refine y_ret rfl (fun d => rfl) ?_
  refine y_nv ?_
  refine y_ret rfl (fun d => rfl) ?_
  exact k _ (fun k h8 h9 => by rw [v_up_ne h8, v_up_ne h9, v_up_ne h8, v_up_ne h9, v_up_ne h8, v_up_ne h9, v_up_ne h8, v_up_ne h9, v_up_ne h8, v_up_ne h8, v_up_ne h8, v_up_ne h8]) ⟨by show (0 : Int) ≤ 4; decide, by show (4 : Int) ≤ 20; decide⟩
set_option maxRecDepth 100000 in
set_option maxHeartbeats 4000000 in
theorem ca_3_0 (hC : ClF S) (hXb : X 1 = m_bodies) (hXa : X 2 = m_above) (h3X : X 3 = []) {b : Nat} {nb ln : Int} {x : Int32} (hb : b < 8) (hk : V (10 + 6 * b) 1 = 3) (hn : V (10 + 6 * b) 0 = nb) (k : ∀ V2, (∀ k, k ≠ 8 → k ≠ 9 → V2 k = V k) → 0 ≤ V2 8 1 ∧ V2 8 1 ≤ 20 → K u w (some (.int (acV 3 0 x nb ln))) S V2) : y_R X 30 61 u w [.ref 8, .ref (10 + 6 * b), iv ln, iv 0, .int x] S (v_up V 8 1 0) K := by
  refine y_ent (lv' := [(0, .ref 8), (1, .ref (10 + 6 * b)), (2, iv ln), (3, iv 0), (4, .int x)]) (Nat.le_of_ble_eq_true rfl) rfl ?_
  refine y_ld (x := .ref 8) rfl rfl (fun d => rfl) ?_
  refine y_ld (x := .ref (10 + 6 * b)) rfl rfl (fun d => rfl) ?_
  refine y_gI (i := 1) (e := 3) rfl rfl rfl (bx_ob hC (i := b) (by omega)) rfl (by rw [v_up_ne (by omega)]; exact hk) ?_
  refine y_pI (i := 2) rfl rfl rfl (hC 8 _ _ rfl) rfl rfl ?_
  refine y_ld (x := .ref 8) rfl rfl (fun d => rfl) ?_
  refine y_ld (x := .ref (10 + 6 * b)) rfl rfl (fun d => rfl) ?_
  refine y_gI (i := 0) (e := nb) rfl rfl rfl (bx_ob hC (i := b) (by omega)) rfl (by rw [v_up_ne (by omega), v_up_ne (by omega)]; exact hn) ?_
  refine y_pI (i := 3) rfl rfl rfl (hC 8 _ _ rfl) rfl rfl ?_
  refine y_ld (x := .ref 8) rfl rfl (fun d => rfl) ?_
  refine y_ld (x := iv ln) rfl rfl (fun d => rfl) ?_
  refine y_pI (i := 4) rfl rfl rfl (hC 8 _ _ rfl) rfl rfl ?_
  refine y_ld (x := .ref 8) rfl rfl (fun d => rfl) ?_
  refine y_ld (x := .ref 8) rfl rfl (fun d => rfl) ?_
  refine y_gI (i := 2) (e := 3) rfl rfl rfl (hC 8 _ _ rfl) rfl rfl ?_
  refine y_ld (x := iv 0) rfl rfl (fun d => rfl) ?_
  refine y_ld (x := .int x) rfl rfl (fun d => rfl) ?_
  refine y_ic rfl rfl ?_
  refine y_cV (D' := 29) (as := [.ref 8, iv 3, iv 0, .int x, iv 0]) rfl rfl rfl rfl rfl (hC 8 _ _ rfl) ⟨rfl, (Nat.le_of_ble_eq_true rfl), (Nat.le_of_ble_eq_true rfl)⟩ (by decide) ?_
  refine y_ent (lv' := [(0, .ref 8), (1, iv 3), (2, iv 0), (3, .int x), (4, iv 0)]) (Nat.le_of_ble_eq_true rfl) rfl ?_
  refine y_ld (x := iv 3) rfl rfl (fun d => rfl) ?_
  refine y_zlt rfl rfl rfl (by decide) (fun g1 => absurd g1 (by decide)) (fun g1 => ?_)
  refine y_ld (x := iv 3) rfl rfl (fun d => rfl) ?_
  refine y_bi rfl rfl (by decide) ?_
  refine y_jge rfl rfl rfl (by decide) (fun g2 => absurd g2 (by decide)) (fun g2 => ?_)
  refine y_ld (x := iv 0) rfl rfl (fun d => rfl) ?_
  refine y_bi rfl rfl (by decide) ?_
  refine y_jle rfl rfl rfl (by decide) (fun g3 => ?_) (fun g3 => absurd g3 (by decide))
  refine y_ld (x := iv 3) rfl rfl (fun d => rfl) ?_
  refine y_st (lv' := [(5, iv 3), (0, .ref 8), (1, iv 3), (2, iv 0), (3, .int x), (4, iv 0)]) rfl rfl (fun d => rfl) ?_
  refine y_ic rfl rfl ?_
  refine y_st (lv' := [(6, iv 0), (5, iv 3), (0, .ref 8), (1, iv 3), (2, iv 0), (3, .int x), (4, iv 0)]) rfl rfl (fun d => rfl) ?_
  refine y_ld (x := iv 0) rfl rfl (fun d => rfl) ?_
  refine y_bi rfl rfl (by decide) ?_
  refine y_jge rfl rfl rfl (by decide) (fun g4 => absurd g4 (by decide)) (fun g4 => ?_)
  refine y_ld (x := iv 3) rfl rfl (fun d => rfl) ?_
  refine y_zle rfl rfl rfl (by decide) (fun g5 => absurd g5 (by decide)) (fun g5 => ?_)
  refine y_in rfl rfl (fun d => rfl) ?_
  refine y_ld (x := iv 3) rfl rfl (fun d => rfl) ?_
  refine y_ic rfl rfl ?_
  refine y_mul (z := 9) rfl rfl rfl ?_
  refine y_ld (x := iv 0) rfl rfl (fun d => rfl) ?_
  refine y_add (z := 9) rfl rfl rfl ?_
  refine y_sti (n := 1) (i := 9) (f := 0) rfl rfl hXb h3X (by decide) rfl rfl ?_
  refine y_zeq rfl rfl rfl (by decide) (fun g6 => ?_) (fun g6 => absurd g6 (by decide))
  refine y_in rfl rfl (fun d => rfl) ?_
  refine y_ld (x := iv 3) rfl rfl (fun d => rfl) ?_
  refine y_sti (n := 2) (i := 3) (f := 0) rfl rfl hXa h3X (by decide) rfl rfl ?_
  refine y_st (lv' := [(5, iv 0), (6, iv 0), (0, .ref 8), (1, iv 3), (2, iv 0), (3, .int x), (4, iv 0)]) rfl rfl (fun d => rfl) ?_
  refine y_inc (z := 1) (lv' := [(6, iv 1), (5, iv 0), (0, .ref 8), (1, iv 3), (2, iv 0), (3, .int x), (4, iv 0)]) rfl rfl rfl rfl rfl ?_
  refine y_go rfl rfl ?_
  refine y_ld (x := iv 1) rfl rfl (fun d => rfl) ?_
  refine y_bi rfl rfl (by decide) ?_
  refine y_jge rfl rfl rfl (by decide) (fun g7 => absurd g7 (by decide)) (fun g7 => ?_)
  refine y_ld (x := iv 0) rfl rfl (fun d => rfl) ?_
  refine y_zle rfl rfl rfl (by decide) (fun g8 => ?_) (fun g8 => absurd g8 (by decide))
  refine y_in rfl rfl (fun d => rfl) ?_
  refine y_ld (x := iv 0) rfl rfl (fun d => rfl) ?_
  refine y_ic rfl rfl ?_
  refine y_mul (z := 0) rfl rfl rfl ?_
  refine y_ld (x := iv 0) rfl rfl (fun d => rfl) ?_
  refine y_add (z := 0) rfl rfl rfl ?_
  refine y_sti (n := 1) (i := 0) (f := 1) rfl rfl hXb h3X (by decide) rfl rfl ?_
  refine y_st (lv' := [(6, iv 1), (5, iv 0), (0, .ref 8), (1, iv 3), (2, iv 0), (3, .int x), (4, iv 0)]) rfl rfl (fun d => rfl) ?_
  refine y_ld (x := .ref 8) rfl rfl (fun d => rfl) ?_
  refine y_gI (i := 1) (e := 0) rfl rfl rfl (hC 8 _ _ rfl) rfl rfl ?_
  refine y_bi rfl rfl (by decide) ?_
  refine y_jge rfl rfl rfl (by decide) (fun g9 => absurd g9 (by decide)) (fun g9 => ?_)
  refine y_ld (x := .ref 8) rfl rfl (fun d => rfl) ?_
  refine y_gR (i := 0) rfl rfl rfl (hC 8 _ _ rfl) rfl ?_
  refine y_ld (x := .ref 8) rfl rfl (fun d => rfl) ?_
  refine y_gI (i := 1) (e := 0) rfl rfl rfl (hC 8 _ _ rfl) rfl rfl ?_
  refine y_ld (x := iv 1) rfl rfl (fun d => rfl) ?_
  refine y_ist (q := 0) rfl rfl (cl_ia hC (k := 9) (N := 20) rfl) (by decide) (by decide) rfl ?_
  refine y_ld (x := .ref 8) rfl rfl (fun d => rfl) ?_
  refine y_in rfl rfl (fun d => rfl) ?_
  refine y_gI (i := 1) (e := 0) rfl rfl rfl (hC 8 _ _ rfl) rfl rfl ?_
  refine y_ic rfl rfl ?_
  refine y_add (z := 1) rfl rfl rfl ?_
  refine y_pI (i := 1) rfl rfl rfl (hC 8 _ _ rfl) rfl rfl ?_
  refine y_ld (x := .ref 8) rfl rfl (fun d => rfl) ?_
  refine y_ld (x := iv 1) rfl rfl (fun d => rfl) ?_
  refine y_in rfl rfl (fun d => rfl) ?_
  refine y_ld (x := iv 0) rfl rfl (fun d => rfl) ?_
  refine y_sti (n := 2) (i := 0) (f := (-1)) rfl rfl hXa h3X (by decide) rfl rfl ?_
  refine y_ld (x := .int x) rfl rfl (fun d => rfl) ?_
  refine y_ld (x := iv 0) rfl rfl (fun d => rfl) ?_
  refine y_ic rfl rfl ?_
  refine y_add (z := 1) rfl rfl rfl ?_
  refine y_cV (D' := 28) (as := [.ref 8, iv 1, iv (-1), .int x, iv 1]) rfl rfl rfl rfl rfl (hC 8 _ _ rfl) ⟨rfl, (Nat.le_of_ble_eq_true rfl), (Nat.le_of_ble_eq_true rfl)⟩ (by decide) ?_
  refine y_ent (lv' := [(0, .ref 8), (1, iv 1), (2, iv (-1)), (3, .int x), (4, iv 1)]) (Nat.le_of_ble_eq_true rfl) rfl ?_
  refine y_ld (x := iv 1) rfl rfl (fun d => rfl) ?_
  refine y_in (pc' := 84) rfl rfl (fun d => rfl) ?_
  refine y_ld (x := .int x) rfl rfl (fun d => rfl) ?_
  refine y_ld (x := .ref 8) rfl rfl (fun d => rfl) ?_
  refine y_gI (i := 3) (e := nb) rfl rfl rfl (hC 8 _ _ rfl) rfl rfl ?_
  refine y_in rfl rfl (fun d => rfl) ?_
  refine y_ret rfl (fun d => rfl) ?_
  refine y_nv ?_
  refine y_ret rfl (fun d => rfl) ?_
  refine y_nv ?_
  refine y_ret rfl (fun d => rfl) ?_
  exact k _ (fun k h8 h9 => by rw [v_up_ne h8, v_up_ne h9, v_up_ne h8, v_up_ne h8, v_up_ne h8, v_up_ne h8]) ⟨by show (0 : Int) ≤ 1; decide, by show (1 : Int) ≤ 20; decide⟩
set_option maxRecDepth 100000 in
set_option maxHeartbeats 4000000 in
theorem ca_3_1 (hC : ClF S) (hXb : X 1 = m_bodies) (hXa : X 2 = m_above) (h3X : X 3 = []) {b : Nat} {nb ln : Int} {x : Int32} (hb : b < 8) (hk : V (10 + 6 * b) 1 = 3) (hn : V (10 + 6 * b) 0 = nb) (k : ∀ V2, (∀ k, k ≠ 8 → k ≠ 9 → V2 k = V k) → 0 ≤ V2 8 1 ∧ V2 8 1 ≤ 20 → K u w (some (.int (acV 3 1 x nb ln))) S V2) : y_R X 30 61 u w [.ref 8, .ref (10 + 6 * b), iv ln, iv 1, .int x] S (v_up V 8 1 0) K := by
  refine y_ent (lv' := [(0, .ref 8), (1, .ref (10 + 6 * b)), (2, iv ln), (3, iv 1), (4, .int x)]) (Nat.le_of_ble_eq_true rfl) rfl ?_
  refine y_ld (x := .ref 8) rfl rfl (fun d => rfl) ?_
  refine y_ld (x := .ref (10 + 6 * b)) rfl rfl (fun d => rfl) ?_
  refine y_gI (i := 1) (e := 3) rfl rfl rfl (bx_ob hC (i := b) (by omega)) rfl (by rw [v_up_ne (by omega)]; exact hk) ?_
  refine y_pI (i := 2) rfl rfl rfl (hC 8 _ _ rfl) rfl rfl ?_
  refine y_ld (x := .ref 8) rfl rfl (fun d => rfl) ?_
  refine y_ld (x := .ref (10 + 6 * b)) rfl rfl (fun d => rfl) ?_
  refine y_gI (i := 0) (e := nb) rfl rfl rfl (bx_ob hC (i := b) (by omega)) rfl (by rw [v_up_ne (by omega), v_up_ne (by omega)]; exact hn) ?_
  refine y_pI (i := 3) rfl rfl rfl (hC 8 _ _ rfl) rfl rfl ?_
  refine y_ld (x := .ref 8) rfl rfl (fun d => rfl) ?_
  refine y_ld (x := iv ln) rfl rfl (fun d => rfl) ?_
  refine y_pI (i := 4) rfl rfl rfl (hC 8 _ _ rfl) rfl rfl ?_
  refine y_ld (x := .ref 8) rfl rfl (fun d => rfl) ?_
  refine y_ld (x := .ref 8) rfl rfl (fun d => rfl) ?_
  refine y_gI (i := 2) (e := 3) rfl rfl rfl (hC 8 _ _ rfl) rfl rfl ?_
  refine y_ld (x := iv 1) rfl rfl (fun d => rfl) ?_
  refine y_ld (x := .int x) rfl rfl (fun d => rfl) ?_
  refine y_ic rfl rfl ?_
  refine y_cV (D' := 29) (as := [.ref 8, iv 3, iv 1, .int x, iv 0]) rfl rfl rfl rfl rfl (hC 8 _ _ rfl) ⟨rfl, (Nat.le_of_ble_eq_true rfl), (Nat.le_of_ble_eq_true rfl)⟩ (by decide) ?_
  refine y_ent (lv' := [(0, .ref 8), (1, iv 3), (2, iv 1), (3, .int x), (4, iv 0)]) (Nat.le_of_ble_eq_true rfl) rfl ?_
  refine y_ld (x := iv 3) rfl rfl (fun d => rfl) ?_
  refine y_zlt rfl rfl rfl (by decide) (fun g1 => absurd g1 (by decide)) (fun g1 => ?_)
  refine y_ld (x := iv 3) rfl rfl (fun d => rfl) ?_
  refine y_bi rfl rfl (by decide) ?_
  refine y_jge rfl rfl rfl (by decide) (fun g2 => absurd g2 (by decide)) (fun g2 => ?_)
  refine y_ld (x := iv 0) rfl rfl (fun d => rfl) ?_
  refine y_bi rfl rfl (by decide) ?_
  refine y_jle rfl rfl rfl (by decide) (fun g3 => ?_) (fun g3 => absurd g3 (by decide))
  refine y_ld (x := iv 3) rfl rfl (fun d => rfl) ?_
  refine y_st (lv' := [(5, iv 3), (0, .ref 8), (1, iv 3), (2, iv 1), (3, .int x), (4, iv 0)]) rfl rfl (fun d => rfl) ?_
  refine y_ic rfl rfl ?_
  refine y_st (lv' := [(6, iv 0), (5, iv 3), (0, .ref 8), (1, iv 3), (2, iv 1), (3, .int x), (4, iv 0)]) rfl rfl (fun d => rfl) ?_
  refine y_ld (x := iv 0) rfl rfl (fun d => rfl) ?_
  refine y_bi rfl rfl (by decide) ?_
  refine y_jge rfl rfl rfl (by decide) (fun g4 => absurd g4 (by decide)) (fun g4 => ?_)
  refine y_ld (x := iv 3) rfl rfl (fun d => rfl) ?_
  refine y_zle rfl rfl rfl (by decide) (fun g5 => absurd g5 (by decide)) (fun g5 => ?_)
  refine y_in rfl rfl (fun d => rfl) ?_
  refine y_ld (x := iv 3) rfl rfl (fun d => rfl) ?_
  refine y_ic rfl rfl ?_
  refine y_mul (z := 9) rfl rfl rfl ?_
  refine y_ld (x := iv 1) rfl rfl (fun d => rfl) ?_
  refine y_add (z := 10) rfl rfl rfl ?_
  refine y_sti (n := 1) (i := 10) (f := 0) rfl rfl hXb h3X (by decide) rfl rfl ?_
  refine y_zeq rfl rfl rfl (by decide) (fun g6 => ?_) (fun g6 => absurd g6 (by decide))
  refine y_in rfl rfl (fun d => rfl) ?_
  refine y_ld (x := iv 3) rfl rfl (fun d => rfl) ?_
  refine y_sti (n := 2) (i := 3) (f := 0) rfl rfl hXa h3X (by decide) rfl rfl ?_
  refine y_st (lv' := [(5, iv 0), (6, iv 0), (0, .ref 8), (1, iv 3), (2, iv 1), (3, .int x), (4, iv 0)]) rfl rfl (fun d => rfl) ?_
  refine y_inc (z := 1) (lv' := [(6, iv 1), (5, iv 0), (0, .ref 8), (1, iv 3), (2, iv 1), (3, .int x), (4, iv 0)]) rfl rfl rfl rfl rfl ?_
  refine y_go rfl rfl ?_
  refine y_ld (x := iv 1) rfl rfl (fun d => rfl) ?_
  refine y_bi rfl rfl (by decide) ?_
  refine y_jge rfl rfl rfl (by decide) (fun g7 => absurd g7 (by decide)) (fun g7 => ?_)
  refine y_ld (x := iv 0) rfl rfl (fun d => rfl) ?_
  refine y_zle rfl rfl rfl (by decide) (fun g8 => ?_) (fun g8 => absurd g8 (by decide))
  refine y_in rfl rfl (fun d => rfl) ?_
  refine y_ld (x := iv 0) rfl rfl (fun d => rfl) ?_
  refine y_ic rfl rfl ?_
  refine y_mul (z := 0) rfl rfl rfl ?_
  refine y_ld (x := iv 1) rfl rfl (fun d => rfl) ?_
  refine y_add (z := 1) rfl rfl rfl ?_
  refine y_sti (n := 1) (i := 1) (f := 2) rfl rfl hXb h3X (by decide) rfl rfl ?_
  refine y_st (lv' := [(6, iv 2), (5, iv 0), (0, .ref 8), (1, iv 3), (2, iv 1), (3, .int x), (4, iv 0)]) rfl rfl (fun d => rfl) ?_
  refine y_ld (x := .ref 8) rfl rfl (fun d => rfl) ?_
  refine y_gI (i := 1) (e := 0) rfl rfl rfl (hC 8 _ _ rfl) rfl rfl ?_
  refine y_bi rfl rfl (by decide) ?_
  refine y_jge rfl rfl rfl (by decide) (fun g9 => absurd g9 (by decide)) (fun g9 => ?_)
  refine y_ld (x := .ref 8) rfl rfl (fun d => rfl) ?_
  refine y_gR (i := 0) rfl rfl rfl (hC 8 _ _ rfl) rfl ?_
  refine y_ld (x := .ref 8) rfl rfl (fun d => rfl) ?_
  refine y_gI (i := 1) (e := 0) rfl rfl rfl (hC 8 _ _ rfl) rfl rfl ?_
  refine y_ld (x := iv 2) rfl rfl (fun d => rfl) ?_
  refine y_ist (q := 0) rfl rfl (cl_ia hC (k := 9) (N := 20) rfl) (by decide) (by decide) rfl ?_
  refine y_ld (x := .ref 8) rfl rfl (fun d => rfl) ?_
  refine y_in rfl rfl (fun d => rfl) ?_
  refine y_gI (i := 1) (e := 0) rfl rfl rfl (hC 8 _ _ rfl) rfl rfl ?_
  refine y_ic rfl rfl ?_
  refine y_add (z := 1) rfl rfl rfl ?_
  refine y_pI (i := 1) rfl rfl rfl (hC 8 _ _ rfl) rfl rfl ?_
  refine y_ld (x := .ref 8) rfl rfl (fun d => rfl) ?_
  refine y_ld (x := iv 2) rfl rfl (fun d => rfl) ?_
  refine y_in rfl rfl (fun d => rfl) ?_
  refine y_ld (x := iv 0) rfl rfl (fun d => rfl) ?_
  refine y_sti (n := 2) (i := 0) (f := (-1)) rfl rfl hXa h3X (by decide) rfl rfl ?_
  refine y_ld (x := .int x) rfl rfl (fun d => rfl) ?_
  refine y_ld (x := iv 0) rfl rfl (fun d => rfl) ?_
  refine y_ic rfl rfl ?_
  refine y_add (z := 1) rfl rfl rfl ?_
  refine y_cV (D' := 28) (as := [.ref 8, iv 2, iv (-1), .int x, iv 1]) rfl rfl rfl rfl rfl (hC 8 _ _ rfl) ⟨rfl, (Nat.le_of_ble_eq_true rfl), (Nat.le_of_ble_eq_true rfl)⟩ (by decide) ?_
  refine y_ent (lv' := [(0, .ref 8), (1, iv 2), (2, iv (-1)), (3, .int x), (4, iv 1)]) (Nat.le_of_ble_eq_true rfl) rfl ?_
  refine y_ld (x := iv 2) rfl rfl (fun d => rfl) ?_
  refine y_in (pc' := 91) rfl rfl (fun d => rfl) ?_
  refine y_ld (x := .ref 8) rfl rfl (fun d => rfl) ?_
  refine y_ld (x := .ref 8) rfl rfl (fun d => rfl) ?_
  refine y_gI (i := 2) (e := 3) rfl rfl rfl (hC 8 _ _ rfl) rfl rfl ?_
  refine y_ic rfl rfl ?_
  refine y_ld (x := .int x) rfl rfl (fun d => rfl) ?_
  refine y_ld (x := iv 1) rfl rfl (fun d => rfl) ?_
  refine y_cV (D' := 27) (as := [.ref 8, iv 3, iv 0, .int x, iv 1]) rfl rfl rfl rfl rfl (hC 8 _ _ rfl) ⟨rfl, (Nat.le_of_ble_eq_true rfl), (Nat.le_of_ble_eq_true rfl)⟩ (by decide) ?_
  refine y_ent (lv' := [(0, .ref 8), (1, iv 3), (2, iv 0), (3, .int x), (4, iv 1)]) (Nat.le_of_ble_eq_true rfl) rfl ?_
  refine y_ld (x := iv 3) rfl rfl (fun d => rfl) ?_
  refine y_zlt rfl rfl rfl (by decide) (fun g10 => absurd g10 (by decide)) (fun g10 => ?_)
  refine y_ld (x := iv 3) rfl rfl (fun d => rfl) ?_
  refine y_bi rfl rfl (by decide) ?_
  refine y_jge rfl rfl rfl (by decide) (fun g11 => absurd g11 (by decide)) (fun g11 => ?_)
  refine y_ld (x := iv 1) rfl rfl (fun d => rfl) ?_
  refine y_bi rfl rfl (by decide) ?_
  refine y_jle rfl rfl rfl (by decide) (fun g12 => ?_) (fun g12 => absurd g12 (by decide))
  refine y_ld (x := iv 3) rfl rfl (fun d => rfl) ?_
  refine y_st (lv' := [(5, iv 3), (0, .ref 8), (1, iv 3), (2, iv 0), (3, .int x), (4, iv 1)]) rfl rfl (fun d => rfl) ?_
  refine y_ic rfl rfl ?_
  refine y_st (lv' := [(6, iv 0), (5, iv 3), (0, .ref 8), (1, iv 3), (2, iv 0), (3, .int x), (4, iv 1)]) rfl rfl (fun d => rfl) ?_
  refine y_ld (x := iv 0) rfl rfl (fun d => rfl) ?_
  refine y_bi rfl rfl (by decide) ?_
  refine y_jge rfl rfl rfl (by decide) (fun g13 => absurd g13 (by decide)) (fun g13 => ?_)
  refine y_ld (x := iv 3) rfl rfl (fun d => rfl) ?_
  refine y_zle rfl rfl rfl (by decide) (fun g14 => absurd g14 (by decide)) (fun g14 => ?_)
  refine y_in rfl rfl (fun d => rfl) ?_
  refine y_ld (x := iv 3) rfl rfl (fun d => rfl) ?_
  refine y_ic rfl rfl ?_
  refine y_mul (z := 9) rfl rfl rfl ?_
  refine y_ld (x := iv 0) rfl rfl (fun d => rfl) ?_
  refine y_add (z := 9) rfl rfl rfl ?_
  refine y_sti (n := 1) (i := 9) (f := 0) rfl rfl hXb h3X (by decide) rfl rfl ?_
  refine y_zeq rfl rfl rfl (by decide) (fun g15 => ?_) (fun g15 => absurd g15 (by decide))
  refine y_in rfl rfl (fun d => rfl) ?_
  refine y_ld (x := iv 3) rfl rfl (fun d => rfl) ?_
  refine y_sti (n := 2) (i := 3) (f := 0) rfl rfl hXa h3X (by decide) rfl rfl ?_
  refine y_st (lv' := [(5, iv 0), (6, iv 0), (0, .ref 8), (1, iv 3), (2, iv 0), (3, .int x), (4, iv 1)]) rfl rfl (fun d => rfl) ?_
  refine y_inc (z := 1) (lv' := [(6, iv 1), (5, iv 0), (0, .ref 8), (1, iv 3), (2, iv 0), (3, .int x), (4, iv 1)]) rfl rfl rfl rfl rfl ?_
  refine y_go rfl rfl ?_
  refine y_ld (x := iv 1) rfl rfl (fun d => rfl) ?_
  refine y_bi rfl rfl (by decide) ?_
  refine y_jge rfl rfl rfl (by decide) (fun g16 => absurd g16 (by decide)) (fun g16 => ?_)
  refine y_ld (x := iv 0) rfl rfl (fun d => rfl) ?_
  refine y_zle rfl rfl rfl (by decide) (fun g17 => ?_) (fun g17 => absurd g17 (by decide))
  refine y_in rfl rfl (fun d => rfl) ?_
  refine y_ld (x := iv 0) rfl rfl (fun d => rfl) ?_
  refine y_ic rfl rfl ?_
  refine y_mul (z := 0) rfl rfl rfl ?_
  refine y_ld (x := iv 0) rfl rfl (fun d => rfl) ?_
  refine y_add (z := 0) rfl rfl rfl ?_
  refine y_sti (n := 1) (i := 0) (f := 1) rfl rfl hXb h3X (by decide) rfl rfl ?_
  refine y_st (lv' := [(6, iv 1), (5, iv 0), (0, .ref 8), (1, iv 3), (2, iv 0), (3, .int x), (4, iv 1)]) rfl rfl (fun d => rfl) ?_
  refine y_ld (x := .ref 8) rfl rfl (fun d => rfl) ?_
  refine y_gI (i := 1) (e := 1) rfl rfl rfl (hC 8 _ _ rfl) rfl rfl ?_
  refine y_bi rfl rfl (by decide) ?_
  refine y_jge rfl rfl rfl (by decide) (fun g18 => absurd g18 (by decide)) (fun g18 => ?_)
  refine y_ld (x := .ref 8) rfl rfl (fun d => rfl) ?_
  refine y_gR (i := 0) rfl rfl rfl (hC 8 _ _ rfl) rfl ?_
  refine y_ld (x := .ref 8) rfl rfl (fun d => rfl) ?_
  refine y_gI (i := 1) (e := 1) rfl rfl rfl (hC 8 _ _ rfl) rfl rfl ?_
  refine y_ld (x := iv 1) rfl rfl (fun d => rfl) ?_
  refine y_ist (q := 1) rfl rfl (cl_ia hC (k := 9) (N := 20) rfl) (by decide) (by decide) rfl ?_
  refine y_ld (x := .ref 8) rfl rfl (fun d => rfl) ?_
  refine y_in rfl rfl (fun d => rfl) ?_
  refine y_gI (i := 1) (e := 1) rfl rfl rfl (hC 8 _ _ rfl) rfl rfl ?_
  refine y_ic rfl rfl ?_
  refine y_add (z := 2) rfl rfl rfl ?_
  refine y_pI (i := 1) rfl rfl rfl (hC 8 _ _ rfl) rfl rfl ?_
  refine y_ld (x := .ref 8) rfl rfl (fun d => rfl) ?_
  refine y_ld (x := iv 1) rfl rfl (fun d => rfl) ?_
  refine y_in rfl rfl (fun d => rfl) ?_
  refine y_ld (x := iv 0) rfl rfl (fun d => rfl) ?_
  refine y_sti (n := 2) (i := 0) (f := (-1)) rfl rfl hXa h3X (by decide) rfl rfl ?_
  refine y_ld (x := .int x) rfl rfl (fun d => rfl) ?_
  refine y_ld (x := iv 1) rfl rfl (fun d => rfl) ?_
  refine y_ic rfl rfl ?_
  refine y_add (z := 2) rfl rfl rfl ?_
  refine y_cV (D' := 26) (as := [.ref 8, iv 1, iv (-1), .int x, iv 2]) rfl rfl rfl rfl rfl (hC 8 _ _ rfl) ⟨rfl, (Nat.le_of_ble_eq_true rfl), (Nat.le_of_ble_eq_true rfl)⟩ (by decide) ?_
  refine y_ent (lv' := [(0, .ref 8), (1, iv 1), (2, iv (-1)), (3, .int x), (4, iv 2)]) (Nat.le_of_ble_eq_true rfl) rfl ?_
  refine y_ld (x := iv 1) rfl rfl (fun d => rfl) ?_
  refine y_in (pc' := 84) rfl rfl (fun d => rfl) ?_
  refine y_ld (x := .int x) rfl rfl (fun d => rfl) ?_
  refine y_ld (x := .ref 8) rfl rfl (fun d => rfl) ?_
  refine y_gI (i := 3) (e := nb) rfl rfl rfl (hC 8 _ _ rfl) rfl rfl ?_
  refine y_in rfl rfl (fun d => rfl) ?_
  refine y_ret rfl (fun d => rfl) ?_
  refine y_nv ?_
  refine y_ret rfl (fun d => rfl) ?_
  refine y_nv ?_
  refine y_ld (x := .ref 8) rfl rfl (fun d => rfl) ?_
  refine y_gI (i := 4) (e := ln) rfl rfl rfl (hC 8 _ _ rfl) rfl rfl ?_
  refine y_in rfl rfl (fun d => rfl) ?_
  refine y_ret rfl (fun d => rfl) ?_
  refine y_nv ?_
  refine y_ret rfl (fun d => rfl) ?_
  refine y_nv ?_
  refine y_ret rfl (fun d => rfl) ?_
  exact k _ (fun k h8 h9 => by rw [v_up_ne h8, v_up_ne h9, v_up_ne h8, v_up_ne h9, v_up_ne h8, v_up_ne h8, v_up_ne h8, v_up_ne h8]) ⟨by show (0 : Int) ≤ 2; decide, by show (2 : Int) ≤ 20; decide⟩
set_option maxRecDepth 100000 in
set_option maxHeartbeats 4000000 in
theorem ca_3_2 (hC : ClF S) (hXb : X 1 = m_bodies) (hXa : X 2 = m_above) (h3X : X 3 = []) {b : Nat} {nb ln : Int} {x : Int32} (hb : b < 8) (hk : V (10 + 6 * b) 1 = 3) (hn : V (10 + 6 * b) 0 = nb) (k : ∀ V2, (∀ k, k ≠ 8 → k ≠ 9 → V2 k = V k) → 0 ≤ V2 8 1 ∧ V2 8 1 ≤ 20 → K u w (some (.int (acV 3 2 x nb ln))) S V2) : y_R X 30 61 u w [.ref 8, .ref (10 + 6 * b), iv ln, iv 2, .int x] S (v_up V 8 1 0) K := by
  refine y_ent (lv' := [(0, .ref 8), (1, .ref (10 + 6 * b)), (2, iv ln), (3, iv 2), (4, .int x)]) (Nat.le_of_ble_eq_true rfl) rfl ?_
  refine y_ld (x := .ref 8) rfl rfl (fun d => rfl) ?_
  refine y_ld (x := .ref (10 + 6 * b)) rfl rfl (fun d => rfl) ?_
  refine y_gI (i := 1) (e := 3) rfl rfl rfl (bx_ob hC (i := b) (by omega)) rfl (by rw [v_up_ne (by omega)]; exact hk) ?_
  refine y_pI (i := 2) rfl rfl rfl (hC 8 _ _ rfl) rfl rfl ?_
  refine y_ld (x := .ref 8) rfl rfl (fun d => rfl) ?_
  refine y_ld (x := .ref (10 + 6 * b)) rfl rfl (fun d => rfl) ?_
  refine y_gI (i := 0) (e := nb) rfl rfl rfl (bx_ob hC (i := b) (by omega)) rfl (by rw [v_up_ne (by omega), v_up_ne (by omega)]; exact hn) ?_
  refine y_pI (i := 3) rfl rfl rfl (hC 8 _ _ rfl) rfl rfl ?_
  refine y_ld (x := .ref 8) rfl rfl (fun d => rfl) ?_
  refine y_ld (x := iv ln) rfl rfl (fun d => rfl) ?_
  refine y_pI (i := 4) rfl rfl rfl (hC 8 _ _ rfl) rfl rfl ?_
  refine y_ld (x := .ref 8) rfl rfl (fun d => rfl) ?_
  refine y_ld (x := .ref 8) rfl rfl (fun d => rfl) ?_
  refine y_gI (i := 2) (e := 3) rfl rfl rfl (hC 8 _ _ rfl) rfl rfl ?_
  refine y_ld (x := iv 2) rfl rfl (fun d => rfl) ?_
  refine y_ld (x := .int x) rfl rfl (fun d => rfl) ?_
  refine y_ic rfl rfl ?_
  refine y_cV (D' := 29) (as := [.ref 8, iv 3, iv 2, .int x, iv 0]) rfl rfl rfl rfl rfl (hC 8 _ _ rfl) ⟨rfl, (Nat.le_of_ble_eq_true rfl), (Nat.le_of_ble_eq_true rfl)⟩ (by decide) ?_
  refine y_ent (lv' := [(0, .ref 8), (1, iv 3), (2, iv 2), (3, .int x), (4, iv 0)]) (Nat.le_of_ble_eq_true rfl) rfl ?_
  refine y_ld (x := iv 3) rfl rfl (fun d => rfl) ?_
  refine y_zlt rfl rfl rfl (by decide) (fun g1 => absurd g1 (by decide)) (fun g1 => ?_)
  refine y_ld (x := iv 3) rfl rfl (fun d => rfl) ?_
  refine y_bi rfl rfl (by decide) ?_
  refine y_jge rfl rfl rfl (by decide) (fun g2 => absurd g2 (by decide)) (fun g2 => ?_)
  refine y_ld (x := iv 0) rfl rfl (fun d => rfl) ?_
  refine y_bi rfl rfl (by decide) ?_
  refine y_jle rfl rfl rfl (by decide) (fun g3 => ?_) (fun g3 => absurd g3 (by decide))
  refine y_ld (x := iv 3) rfl rfl (fun d => rfl) ?_
  refine y_st (lv' := [(5, iv 3), (0, .ref 8), (1, iv 3), (2, iv 2), (3, .int x), (4, iv 0)]) rfl rfl (fun d => rfl) ?_
  refine y_ic rfl rfl ?_
  refine y_st (lv' := [(6, iv 0), (5, iv 3), (0, .ref 8), (1, iv 3), (2, iv 2), (3, .int x), (4, iv 0)]) rfl rfl (fun d => rfl) ?_
  refine y_ld (x := iv 0) rfl rfl (fun d => rfl) ?_
  refine y_bi rfl rfl (by decide) ?_
  refine y_jge rfl rfl rfl (by decide) (fun g4 => absurd g4 (by decide)) (fun g4 => ?_)
  refine y_ld (x := iv 3) rfl rfl (fun d => rfl) ?_
  refine y_zle rfl rfl rfl (by decide) (fun g5 => absurd g5 (by decide)) (fun g5 => ?_)
  refine y_in rfl rfl (fun d => rfl) ?_
  refine y_ld (x := iv 3) rfl rfl (fun d => rfl) ?_
  refine y_ic rfl rfl ?_
  refine y_mul (z := 9) rfl rfl rfl ?_
  refine y_ld (x := iv 2) rfl rfl (fun d => rfl) ?_
  refine y_add (z := 11) rfl rfl rfl ?_
  refine y_sti (n := 1) (i := 11) (f := 31) rfl rfl hXb h3X (by decide) rfl rfl ?_
  refine y_zeq rfl rfl rfl (by decide) (fun g6 => absurd g6 (by decide)) (fun g6 => ?_)
  refine y_go rfl rfl ?_
  refine y_in rfl rfl (fun d => rfl) ?_
  refine y_ld (x := iv 3) rfl rfl (fun d => rfl) ?_
  refine y_ic rfl rfl ?_
  refine y_mul (z := 9) rfl rfl rfl ?_
  refine y_ld (x := iv 2) rfl rfl (fun d => rfl) ?_
  refine y_add (z := 11) rfl rfl rfl ?_
  refine y_sti (n := 1) (i := 11) (f := 31) rfl rfl hXb h3X (by decide) rfl rfl ?_
  refine y_st (lv' := [(6, iv 31), (5, iv 3), (0, .ref 8), (1, iv 3), (2, iv 2), (3, .int x), (4, iv 0)]) rfl rfl (fun d => rfl) ?_
  refine y_ld (x := .ref 8) rfl rfl (fun d => rfl) ?_
  refine y_gI (i := 1) (e := 0) rfl rfl rfl (hC 8 _ _ rfl) rfl rfl ?_
  refine y_bi rfl rfl (by decide) ?_
  refine y_jge rfl rfl rfl (by decide) (fun g7 => absurd g7 (by decide)) (fun g7 => ?_)
  refine y_ld (x := .ref 8) rfl rfl (fun d => rfl) ?_
  refine y_gR (i := 0) rfl rfl rfl (hC 8 _ _ rfl) rfl ?_
  refine y_ld (x := .ref 8) rfl rfl (fun d => rfl) ?_
  refine y_gI (i := 1) (e := 0) rfl rfl rfl (hC 8 _ _ rfl) rfl rfl ?_
  refine y_ld (x := iv 31) rfl rfl (fun d => rfl) ?_
  refine y_ist (q := 0) rfl rfl (cl_ia hC (k := 9) (N := 20) rfl) (by decide) (by decide) rfl ?_
  refine y_ld (x := .ref 8) rfl rfl (fun d => rfl) ?_
  refine y_in rfl rfl (fun d => rfl) ?_
  refine y_gI (i := 1) (e := 0) rfl rfl rfl (hC 8 _ _ rfl) rfl rfl ?_
  refine y_ic rfl rfl ?_
  refine y_add (z := 1) rfl rfl rfl ?_
  refine y_pI (i := 1) rfl rfl rfl (hC 8 _ _ rfl) rfl rfl ?_
  refine y_ld (x := .ref 8) rfl rfl (fun d => rfl) ?_
  refine y_ld (x := iv 31) rfl rfl (fun d => rfl) ?_
  refine y_in rfl rfl (fun d => rfl) ?_
  refine y_ld (x := iv 3) rfl rfl (fun d => rfl) ?_
  refine y_sti (n := 2) (i := 3) (f := 0) rfl rfl hXa h3X (by decide) rfl rfl ?_
  refine y_ld (x := .int x) rfl rfl (fun d => rfl) ?_
  refine y_ld (x := iv 0) rfl rfl (fun d => rfl) ?_
  refine y_ic rfl rfl ?_
  refine y_add (z := 1) rfl rfl rfl ?_
  refine y_cV (D' := 28) (as := [.ref 8, iv 31, iv 0, .int x, iv 1]) rfl rfl rfl rfl rfl (hC 8 _ _ rfl) ⟨rfl, (Nat.le_of_ble_eq_true rfl), (Nat.le_of_ble_eq_true rfl)⟩ (by decide) ?_
  refine y_ent (lv' := [(0, .ref 8), (1, iv 31), (2, iv 0), (3, .int x), (4, iv 1)]) (Nat.le_of_ble_eq_true rfl) rfl ?_
  refine y_ld (x := iv 31) rfl rfl (fun d => rfl) ?_
  refine y_in (pc' := 147) rfl rfl (fun d => rfl) ?_
  refine y_ld (x := .ref 8) rfl rfl (fun d => rfl) ?_
  refine y_ld (x := iv 0) rfl rfl (fun d => rfl) ?_
  refine y_ic rfl rfl ?_
  refine y_ld (x := .int x) rfl rfl (fun d => rfl) ?_
  refine y_ld (x := iv 1) rfl rfl (fun d => rfl) ?_
  refine y_cV (D' := 27) (as := [.ref 8, iv 0, iv 2, .int x, iv 1]) rfl rfl rfl rfl rfl (hC 8 _ _ rfl) ⟨rfl, (Nat.le_of_ble_eq_true rfl), (Nat.le_of_ble_eq_true rfl)⟩ (by decide) ?_
  refine y_ent (lv' := [(0, .ref 8), (1, iv 0), (2, iv 2), (3, .int x), (4, iv 1)]) (Nat.le_of_ble_eq_true rfl) rfl ?_
  refine y_ld (x := iv 0) rfl rfl (fun d => rfl) ?_
  refine y_zlt rfl rfl rfl (by decide) (fun g8 => absurd g8 (by decide)) (fun g8 => ?_)
  refine y_ld (x := iv 0) rfl rfl (fun d => rfl) ?_
  refine y_bi rfl rfl (by decide) ?_
  refine y_jge rfl rfl rfl (by decide) (fun g9 => absurd g9 (by decide)) (fun g9 => ?_)
  refine y_ld (x := iv 1) rfl rfl (fun d => rfl) ?_
  refine y_bi rfl rfl (by decide) ?_
  refine y_jle rfl rfl rfl (by decide) (fun g10 => ?_) (fun g10 => absurd g10 (by decide))
  refine y_ld (x := iv 0) rfl rfl (fun d => rfl) ?_
  refine y_st (lv' := [(5, iv 0), (0, .ref 8), (1, iv 0), (2, iv 2), (3, .int x), (4, iv 1)]) rfl rfl (fun d => rfl) ?_
  refine y_ic rfl rfl ?_
  refine y_st (lv' := [(6, iv 0), (5, iv 0), (0, .ref 8), (1, iv 0), (2, iv 2), (3, .int x), (4, iv 1)]) rfl rfl (fun d => rfl) ?_
  refine y_ld (x := iv 0) rfl rfl (fun d => rfl) ?_
  refine y_bi rfl rfl (by decide) ?_
  refine y_jge rfl rfl rfl (by decide) (fun g11 => absurd g11 (by decide)) (fun g11 => ?_)
  refine y_ld (x := iv 0) rfl rfl (fun d => rfl) ?_
  refine y_zle rfl rfl rfl (by decide) (fun g12 => ?_) (fun g12 => absurd g12 (by decide))
  refine y_in rfl rfl (fun d => rfl) ?_
  refine y_ld (x := iv 0) rfl rfl (fun d => rfl) ?_
  refine y_ic rfl rfl ?_
  refine y_mul (z := 0) rfl rfl rfl ?_
  refine y_ld (x := iv 2) rfl rfl (fun d => rfl) ?_
  refine y_add (z := 2) rfl rfl rfl ?_
  refine y_sti (n := 1) (i := 2) (f := 3) rfl rfl hXb h3X (by decide) rfl rfl ?_
  refine y_st (lv' := [(6, iv 3), (5, iv 0), (0, .ref 8), (1, iv 0), (2, iv 2), (3, .int x), (4, iv 1)]) rfl rfl (fun d => rfl) ?_
  refine y_ld (x := .ref 8) rfl rfl (fun d => rfl) ?_
  refine y_gI (i := 1) (e := 1) rfl rfl rfl (hC 8 _ _ rfl) rfl rfl ?_
  refine y_bi rfl rfl (by decide) ?_
  refine y_jge rfl rfl rfl (by decide) (fun g13 => absurd g13 (by decide)) (fun g13 => ?_)
  refine y_ld (x := .ref 8) rfl rfl (fun d => rfl) ?_
  refine y_gR (i := 0) rfl rfl rfl (hC 8 _ _ rfl) rfl ?_
  refine y_ld (x := .ref 8) rfl rfl (fun d => rfl) ?_
  refine y_gI (i := 1) (e := 1) rfl rfl rfl (hC 8 _ _ rfl) rfl rfl ?_
  refine y_ld (x := iv 3) rfl rfl (fun d => rfl) ?_
  refine y_ist (q := 1) rfl rfl (cl_ia hC (k := 9) (N := 20) rfl) (by decide) (by decide) rfl ?_
  refine y_ld (x := .ref 8) rfl rfl (fun d => rfl) ?_
  refine y_in rfl rfl (fun d => rfl) ?_
  refine y_gI (i := 1) (e := 1) rfl rfl rfl (hC 8 _ _ rfl) rfl rfl ?_
  refine y_ic rfl rfl ?_
  refine y_add (z := 2) rfl rfl rfl ?_
  refine y_pI (i := 1) rfl rfl rfl (hC 8 _ _ rfl) rfl rfl ?_
  refine y_ld (x := .ref 8) rfl rfl (fun d => rfl) ?_
  refine y_ld (x := iv 3) rfl rfl (fun d => rfl) ?_
  refine y_in rfl rfl (fun d => rfl) ?_
  refine y_ld (x := iv 0) rfl rfl (fun d => rfl) ?_
  refine y_sti (n := 2) (i := 0) (f := (-1)) rfl rfl hXa h3X (by decide) rfl rfl ?_
  refine y_ld (x := .int x) rfl rfl (fun d => rfl) ?_
  refine y_ld (x := iv 1) rfl rfl (fun d => rfl) ?_
  refine y_ic rfl rfl ?_
  refine y_add (z := 2) rfl rfl rfl ?_
  refine y_cV (D' := 26) (as := [.ref 8, iv 3, iv (-1), .int x, iv 2]) rfl rfl rfl rfl rfl (hC 8 _ _ rfl) ⟨rfl, (Nat.le_of_ble_eq_true rfl), (Nat.le_of_ble_eq_true rfl)⟩ (by decide) ?_
  refine y_ent (lv' := [(0, .ref 8), (1, iv 3), (2, iv (-1)), (3, .int x), (4, iv 2)]) (Nat.le_of_ble_eq_true rfl) rfl ?_
  refine y_ld (x := iv 3) rfl rfl (fun d => rfl) ?_
  refine y_in (pc' := 109) rfl rfl (fun d => rfl) ?_
  refine y_ld (x := .ref 8) rfl rfl (fun d => rfl) ?_
  refine y_ld (x := .ref 8) rfl rfl (fun d => rfl) ?_
  refine y_gI (i := 2) (e := 3) rfl rfl rfl (hC 8 _ _ rfl) rfl rfl ?_
  refine y_ic rfl rfl ?_
  refine y_ld (x := .int x) rfl rfl (fun d => rfl) ?_
  refine y_ld (x := iv 2) rfl rfl (fun d => rfl) ?_
  refine y_cV (D' := 25) (as := [.ref 8, iv 3, iv 1, .int x, iv 2]) rfl rfl rfl rfl rfl (hC 8 _ _ rfl) ⟨rfl, (Nat.le_of_ble_eq_true rfl), (Nat.le_of_ble_eq_true rfl)⟩ (by decide) ?_
  refine y_ent (lv' := [(0, .ref 8), (1, iv 3), (2, iv 1), (3, .int x), (4, iv 2)]) (Nat.le_of_ble_eq_true rfl) rfl ?_
  refine y_ld (x := iv 3) rfl rfl (fun d => rfl) ?_
  refine y_zlt rfl rfl rfl (by decide) (fun g14 => absurd g14 (by decide)) (fun g14 => ?_)
  refine y_ld (x := iv 3) rfl rfl (fun d => rfl) ?_
  refine y_bi rfl rfl (by decide) ?_
  refine y_jge rfl rfl rfl (by decide) (fun g15 => absurd g15 (by decide)) (fun g15 => ?_)
  refine y_ld (x := iv 2) rfl rfl (fun d => rfl) ?_
  refine y_bi rfl rfl (by decide) ?_
  refine y_jle rfl rfl rfl (by decide) (fun g16 => ?_) (fun g16 => absurd g16 (by decide))
  refine y_ld (x := iv 3) rfl rfl (fun d => rfl) ?_
  refine y_st (lv' := [(5, iv 3), (0, .ref 8), (1, iv 3), (2, iv 1), (3, .int x), (4, iv 2)]) rfl rfl (fun d => rfl) ?_
  refine y_ic rfl rfl ?_
  refine y_st (lv' := [(6, iv 0), (5, iv 3), (0, .ref 8), (1, iv 3), (2, iv 1), (3, .int x), (4, iv 2)]) rfl rfl (fun d => rfl) ?_
  refine y_ld (x := iv 0) rfl rfl (fun d => rfl) ?_
  refine y_bi rfl rfl (by decide) ?_
  refine y_jge rfl rfl rfl (by decide) (fun g17 => absurd g17 (by decide)) (fun g17 => ?_)
  refine y_ld (x := iv 3) rfl rfl (fun d => rfl) ?_
  refine y_zle rfl rfl rfl (by decide) (fun g18 => absurd g18 (by decide)) (fun g18 => ?_)
  refine y_in rfl rfl (fun d => rfl) ?_
  refine y_ld (x := iv 3) rfl rfl (fun d => rfl) ?_
  refine y_ic rfl rfl ?_
  refine y_mul (z := 9) rfl rfl rfl ?_
  refine y_ld (x := iv 1) rfl rfl (fun d => rfl) ?_
  refine y_add (z := 10) rfl rfl rfl ?_
  refine y_sti (n := 1) (i := 10) (f := 0) rfl rfl hXb h3X (by decide) rfl rfl ?_
  refine y_zeq rfl rfl rfl (by decide) (fun g19 => ?_) (fun g19 => absurd g19 (by decide))
  refine y_in rfl rfl (fun d => rfl) ?_
  refine y_ld (x := iv 3) rfl rfl (fun d => rfl) ?_
  refine y_sti (n := 2) (i := 3) (f := 0) rfl rfl hXa h3X (by decide) rfl rfl ?_
  refine y_st (lv' := [(5, iv 0), (6, iv 0), (0, .ref 8), (1, iv 3), (2, iv 1), (3, .int x), (4, iv 2)]) rfl rfl (fun d => rfl) ?_
  refine y_inc (z := 1) (lv' := [(6, iv 1), (5, iv 0), (0, .ref 8), (1, iv 3), (2, iv 1), (3, .int x), (4, iv 2)]) rfl rfl rfl rfl rfl ?_
  refine y_go rfl rfl ?_
  refine y_ld (x := iv 1) rfl rfl (fun d => rfl) ?_
  refine y_bi rfl rfl (by decide) ?_
  refine y_jge rfl rfl rfl (by decide) (fun g20 => absurd g20 (by decide)) (fun g20 => ?_)
  refine y_ld (x := iv 0) rfl rfl (fun d => rfl) ?_
  refine y_zle rfl rfl rfl (by decide) (fun g21 => ?_) (fun g21 => absurd g21 (by decide))
  refine y_in rfl rfl (fun d => rfl) ?_
  refine y_ld (x := iv 0) rfl rfl (fun d => rfl) ?_
  refine y_ic rfl rfl ?_
  refine y_mul (z := 0) rfl rfl rfl ?_
  refine y_ld (x := iv 1) rfl rfl (fun d => rfl) ?_
  refine y_add (z := 1) rfl rfl rfl ?_
  refine y_sti (n := 1) (i := 1) (f := 2) rfl rfl hXb h3X (by decide) rfl rfl ?_
  refine y_st (lv' := [(6, iv 2), (5, iv 0), (0, .ref 8), (1, iv 3), (2, iv 1), (3, .int x), (4, iv 2)]) rfl rfl (fun d => rfl) ?_
  refine y_ld (x := .ref 8) rfl rfl (fun d => rfl) ?_
  refine y_gI (i := 1) (e := 2) rfl rfl rfl (hC 8 _ _ rfl) rfl rfl ?_
  refine y_bi rfl rfl (by decide) ?_
  refine y_jge rfl rfl rfl (by decide) (fun g22 => absurd g22 (by decide)) (fun g22 => ?_)
  refine y_ld (x := .ref 8) rfl rfl (fun d => rfl) ?_
  refine y_gR (i := 0) rfl rfl rfl (hC 8 _ _ rfl) rfl ?_
  refine y_ld (x := .ref 8) rfl rfl (fun d => rfl) ?_
  refine y_gI (i := 1) (e := 2) rfl rfl rfl (hC 8 _ _ rfl) rfl rfl ?_
  refine y_ld (x := iv 2) rfl rfl (fun d => rfl) ?_
  refine y_ist (q := 2) rfl rfl (cl_ia hC (k := 9) (N := 20) rfl) (by decide) (by decide) rfl ?_
  refine y_ld (x := .ref 8) rfl rfl (fun d => rfl) ?_
  refine y_in rfl rfl (fun d => rfl) ?_
  refine y_gI (i := 1) (e := 2) rfl rfl rfl (hC 8 _ _ rfl) rfl rfl ?_
  refine y_ic rfl rfl ?_
  refine y_add (z := 3) rfl rfl rfl ?_
  refine y_pI (i := 1) rfl rfl rfl (hC 8 _ _ rfl) rfl rfl ?_
  refine y_ld (x := .ref 8) rfl rfl (fun d => rfl) ?_
  refine y_ld (x := iv 2) rfl rfl (fun d => rfl) ?_
  refine y_in rfl rfl (fun d => rfl) ?_
  refine y_ld (x := iv 0) rfl rfl (fun d => rfl) ?_
  refine y_sti (n := 2) (i := 0) (f := (-1)) rfl rfl hXa h3X (by decide) rfl rfl ?_
  refine y_ld (x := .int x) rfl rfl (fun d => rfl) ?_
  refine y_ld (x := iv 2) rfl rfl (fun d => rfl) ?_
  refine y_ic rfl rfl ?_
  refine y_add (z := 3) rfl rfl rfl ?_
  refine y_cV (D' := 24) (as := [.ref 8, iv 2, iv (-1), .int x, iv 3]) rfl rfl rfl rfl rfl (hC 8 _ _ rfl) ⟨rfl, (Nat.le_of_ble_eq_true rfl), (Nat.le_of_ble_eq_true rfl)⟩ (by decide) ?_
  refine y_ent (lv' := [(0, .ref 8), (1, iv 2), (2, iv (-1)), (3, .int x), (4, iv 3)]) (Nat.le_of_ble_eq_true rfl) rfl ?_
  refine y_ld (x := iv 2) rfl rfl (fun d => rfl) ?_
  refine y_in (pc' := 91) rfl rfl (fun d => rfl) ?_
  refine y_ld (x := .ref 8) rfl rfl (fun d => rfl) ?_
  refine y_ld (x := .ref 8) rfl rfl (fun d => rfl) ?_
  refine y_gI (i := 2) (e := 3) rfl rfl rfl (hC 8 _ _ rfl) rfl rfl ?_
  refine y_ic rfl rfl ?_
  refine y_ld (x := .int x) rfl rfl (fun d => rfl) ?_
  refine y_ld (x := iv 3) rfl rfl (fun d => rfl) ?_
  refine y_cV (D' := 23) (as := [.ref 8, iv 3, iv 0, .int x, iv 3]) rfl rfl rfl rfl rfl (hC 8 _ _ rfl) ⟨rfl, (Nat.le_of_ble_eq_true rfl), (Nat.le_of_ble_eq_true rfl)⟩ (by decide) ?_
  refine y_ent (lv' := [(0, .ref 8), (1, iv 3), (2, iv 0), (3, .int x), (4, iv 3)]) (Nat.le_of_ble_eq_true rfl) rfl ?_
  refine y_ld (x := iv 3) rfl rfl (fun d => rfl) ?_
  refine y_zlt rfl rfl rfl (by decide) (fun g23 => absurd g23 (by decide)) (fun g23 => ?_)
  refine y_ld (x := iv 3) rfl rfl (fun d => rfl) ?_
  refine y_bi rfl rfl (by decide) ?_
  refine y_jge rfl rfl rfl (by decide) (fun g24 => absurd g24 (by decide)) (fun g24 => ?_)
  refine y_ld (x := iv 3) rfl rfl (fun d => rfl) ?_
  refine y_bi rfl rfl (by decide) ?_
  refine y_jle rfl rfl rfl (by decide) (fun g25 => ?_) (fun g25 => absurd g25 (by decide))
  refine y_ld (x := iv 3) rfl rfl (fun d => rfl) ?_
  refine y_st (lv' := [(5, iv 3), (0, .ref 8), (1, iv 3), (2, iv 0), (3, .int x), (4, iv 3)]) rfl rfl (fun d => rfl) ?_
  refine y_ic rfl rfl ?_
  refine y_st (lv' := [(6, iv 0), (5, iv 3), (0, .ref 8), (1, iv 3), (2, iv 0), (3, .int x), (4, iv 3)]) rfl rfl (fun d => rfl) ?_
  refine y_ld (x := iv 0) rfl rfl (fun d => rfl) ?_
  refine y_bi rfl rfl (by decide) ?_
  refine y_jge rfl rfl rfl (by decide) (fun g26 => absurd g26 (by decide)) (fun g26 => ?_)
  refine y_ld (x := iv 3) rfl rfl (fun d => rfl) ?_
  refine y_zle rfl rfl rfl (by decide) (fun g27 => absurd g27 (by decide)) (fun g27 => ?_)
  refine y_in rfl rfl (fun d => rfl) ?_
  refine y_ld (x := iv 3) rfl rfl (fun d => rfl) ?_
  refine y_ic rfl rfl ?_
  refine y_mul (z := 9) rfl rfl rfl ?_
  refine y_ld (x := iv 0) rfl rfl (fun d => rfl) ?_
  refine y_add (z := 9) rfl rfl rfl ?_
  refine y_sti (n := 1) (i := 9) (f := 0) rfl rfl hXb h3X (by decide) rfl rfl ?_
  refine y_zeq rfl rfl rfl (by decide) (fun g28 => ?_) (fun g28 => absurd g28 (by decide))
  refine y_in rfl rfl (fun d => rfl) ?_
  refine y_ld (x := iv 3) rfl rfl (fun d => rfl) ?_
  refine y_sti (n := 2) (i := 3) (f := 0) rfl rfl hXa h3X (by decide) rfl rfl ?_
  refine y_st (lv' := [(5, iv 0), (6, iv 0), (0, .ref 8), (1, iv 3), (2, iv 0), (3, .int x), (4, iv 3)]) rfl rfl (fun d => rfl) ?_
  refine y_inc (z := 1) (lv' := [(6, iv 1), (5, iv 0), (0, .ref 8), (1, iv 3), (2, iv 0), (3, .int x), (4, iv 3)]) rfl rfl rfl rfl rfl ?_
  refine y_go rfl rfl ?_
  refine y_ld (x := iv 1) rfl rfl (fun d => rfl) ?_
  refine y_bi rfl rfl (by decide) ?_
  refine y_jge rfl rfl rfl (by decide) (fun g29 => absurd g29 (by decide)) (fun g29 => ?_)
  refine y_ld (x := iv 0) rfl rfl (fun d => rfl) ?_
  refine y_zle rfl rfl rfl (by decide) (fun g30 => ?_) (fun g30 => absurd g30 (by decide))
  refine y_in rfl rfl (fun d => rfl) ?_
  refine y_ld (x := iv 0) rfl rfl (fun d => rfl) ?_
  refine y_ic rfl rfl ?_
  refine y_mul (z := 0) rfl rfl rfl ?_
  refine y_ld (x := iv 0) rfl rfl (fun d => rfl) ?_
  refine y_add (z := 0) rfl rfl rfl ?_
  refine y_sti (n := 1) (i := 0) (f := 1) rfl rfl hXb h3X (by decide) rfl rfl ?_
  refine y_st (lv' := [(6, iv 1), (5, iv 0), (0, .ref 8), (1, iv 3), (2, iv 0), (3, .int x), (4, iv 3)]) rfl rfl (fun d => rfl) ?_
  refine y_ld (x := .ref 8) rfl rfl (fun d => rfl) ?_
  refine y_gI (i := 1) (e := 3) rfl rfl rfl (hC 8 _ _ rfl) rfl rfl ?_
  refine y_bi rfl rfl (by decide) ?_
  refine y_jge rfl rfl rfl (by decide) (fun g31 => absurd g31 (by decide)) (fun g31 => ?_)
  refine y_ld (x := .ref 8) rfl rfl (fun d => rfl) ?_
  refine y_gR (i := 0) rfl rfl rfl (hC 8 _ _ rfl) rfl ?_
  refine y_ld (x := .ref 8) rfl rfl (fun d => rfl) ?_
  refine y_gI (i := 1) (e := 3) rfl rfl rfl (hC 8 _ _ rfl) rfl rfl ?_
  refine y_ld (x := iv 1) rfl rfl (fun d => rfl) ?_
  refine y_ist (q := 3) rfl rfl (cl_ia hC (k := 9) (N := 20) rfl) (by decide) (by decide) rfl ?_
  refine y_ld (x := .ref 8) rfl rfl (fun d => rfl) ?_
  refine y_in rfl rfl (fun d => rfl) ?_
  refine y_gI (i := 1) (e := 3) rfl rfl rfl (hC 8 _ _ rfl) rfl rfl ?_
  refine y_ic rfl rfl ?_
  refine y_add (z := 4) rfl rfl rfl ?_
  refine y_pI (i := 1) rfl rfl rfl (hC 8 _ _ rfl) rfl rfl ?_
  refine y_ld (x := .ref 8) rfl rfl (fun d => rfl) ?_
  refine y_ld (x := iv 1) rfl rfl (fun d => rfl) ?_
  refine y_in rfl rfl (fun d => rfl) ?_
  refine y_ld (x := iv 0) rfl rfl (fun d => rfl) ?_
  refine y_sti (n := 2) (i := 0) (f := (-1)) rfl rfl hXa h3X (by decide) rfl rfl ?_
  refine y_ld (x := .int x) rfl rfl (fun d => rfl) ?_
  refine y_ld (x := iv 3) rfl rfl (fun d => rfl) ?_
  refine y_ic rfl rfl ?_
  refine y_add (z := 4) rfl rfl rfl ?_
  refine y_cV (D' := 22) (as := [.ref 8, iv 1, iv (-1), .int x, iv 4]) rfl rfl rfl rfl rfl (hC 8 _ _ rfl) ⟨rfl, (Nat.le_of_ble_eq_true rfl), (Nat.le_of_ble_eq_true rfl)⟩ (by decide) ?_
  refine y_ent (lv' := [(0, .ref 8), (1, iv 1), (2, iv (-1)), (3, .int x), (4, iv 4)]) (Nat.le_of_ble_eq_true rfl) rfl ?_
  refine y_ld (x := iv 1) rfl rfl (fun d => rfl) ?_
  refine y_in (pc' := 84) rfl rfl (fun d => rfl) ?_
  refine y_ld (x := .int x) rfl rfl (fun d => rfl) ?_
  refine y_ld (x := .ref 8) rfl rfl (fun d => rfl) ?_
  refine y_gI (i := 3) (e := nb) rfl rfl rfl (hC 8 _ _ rfl) rfl rfl ?_
  refine y_in rfl rfl (fun d => rfl) ?_
  refine y_ret rfl (fun d => rfl) ?_
  refine y_nv ?_
  refine y_ret rfl (fun d => rfl) ?_
  refine y_nv ?_
  refine y_ld (x := .ref 8) rfl rfl (fun d => rfl) ?_
  refine y_gI (i := 4) (e := ln) rfl rfl rfl (hC 8 _ _ rfl) rfl rfl ?_
  refine y_in rfl rfl (fun d => rfl) ?_
  refine y_ret rfl (fun d => rfl) ?_
  refine y_nv ?_
  refine y_ret rfl (fun d => rfl) ?_
  refine y_nv ?_
  refine y_ic rfl rfl ?_
  refine y_in rfl rfl (fun d => rfl) ?_
  refine y_ret rfl (fun d => rfl) ?_
  refine y_nv ?_
  refine y_ret rfl (fun d => rfl) ?_
  refine y_nv ?_
  refine y_ic rfl rfl ?_
  refine y_in rfl rfl (fun d => rfl) ?_
  refine y_ret rfl (fun d => rfl) ?_
  refine y_nv ?_
  refine y_ret rfl (fun d => rfl) ?_
  refine y_nv ?_
  refine y_ret rfl (fun d => rfl) ?_
  exact k _ (fun k h8 h9 => by rw [v_up_ne h8, v_up_ne h9, v_up_ne h8, v_up_ne h9, v_up_ne h8, v_up_ne h9, v_up_ne h8, v_up_ne h9, v_up_ne h8, v_up_ne h8, v_up_ne h8, v_up_ne h8]) ⟨by show (0 : Int) ≤ 4; decide, by show (4 : Int) ≤ 20; decide⟩
set_option maxRecDepth 100000 in
set_option maxHeartbeats 4000000 in
theorem ca_4_0 (hC : ClF S) (hXb : X 1 = m_bodies) (hXa : X 2 = m_above) (h3X : X 3 = []) {b : Nat} {nb ln : Int} {x : Int32} (hb : b < 8) (hk : V (10 + 6 * b) 1 = 4) (hn : V (10 + 6 * b) 0 = nb) (k : ∀ V2, (∀ k, k ≠ 8 → k ≠ 9 → V2 k = V k) → 0 ≤ V2 8 1 ∧ V2 8 1 ≤ 20 → K u w (some (.int (acV 4 0 x nb ln))) S V2) : y_R X 30 61 u w [.ref 8, .ref (10 + 6 * b), iv ln, iv 0, .int x] S (v_up V 8 1 0) K := by
  refine y_ent (lv' := [(0, .ref 8), (1, .ref (10 + 6 * b)), (2, iv ln), (3, iv 0), (4, .int x)]) (Nat.le_of_ble_eq_true rfl) rfl ?_
  refine y_ld (x := .ref 8) rfl rfl (fun d => rfl) ?_
  refine y_ld (x := .ref (10 + 6 * b)) rfl rfl (fun d => rfl) ?_
  refine y_gI (i := 1) (e := 4) rfl rfl rfl (bx_ob hC (i := b) (by omega)) rfl (by rw [v_up_ne (by omega)]; exact hk) ?_
  refine y_pI (i := 2) rfl rfl rfl (hC 8 _ _ rfl) rfl rfl ?_
  refine y_ld (x := .ref 8) rfl rfl (fun d => rfl) ?_
  refine y_ld (x := .ref (10 + 6 * b)) rfl rfl (fun d => rfl) ?_
  refine y_gI (i := 0) (e := nb) rfl rfl rfl (bx_ob hC (i := b) (by omega)) rfl (by rw [v_up_ne (by omega), v_up_ne (by omega)]; exact hn) ?_
  refine y_pI (i := 3) rfl rfl rfl (hC 8 _ _ rfl) rfl rfl ?_
  refine y_ld (x := .ref 8) rfl rfl (fun d => rfl) ?_
  refine y_ld (x := iv ln) rfl rfl (fun d => rfl) ?_
  refine y_pI (i := 4) rfl rfl rfl (hC 8 _ _ rfl) rfl rfl ?_
  refine y_ld (x := .ref 8) rfl rfl (fun d => rfl) ?_
  refine y_ld (x := .ref 8) rfl rfl (fun d => rfl) ?_
  refine y_gI (i := 2) (e := 4) rfl rfl rfl (hC 8 _ _ rfl) rfl rfl ?_
  refine y_ld (x := iv 0) rfl rfl (fun d => rfl) ?_
  refine y_ld (x := .int x) rfl rfl (fun d => rfl) ?_
  refine y_ic rfl rfl ?_
  refine y_cV (D' := 29) (as := [.ref 8, iv 4, iv 0, .int x, iv 0]) rfl rfl rfl rfl rfl (hC 8 _ _ rfl) ⟨rfl, (Nat.le_of_ble_eq_true rfl), (Nat.le_of_ble_eq_true rfl)⟩ (by decide) ?_
  refine y_ent (lv' := [(0, .ref 8), (1, iv 4), (2, iv 0), (3, .int x), (4, iv 0)]) (Nat.le_of_ble_eq_true rfl) rfl ?_
  refine y_ld (x := iv 4) rfl rfl (fun d => rfl) ?_
  refine y_zlt rfl rfl rfl (by decide) (fun g1 => absurd g1 (by decide)) (fun g1 => ?_)
  refine y_ld (x := iv 4) rfl rfl (fun d => rfl) ?_
  refine y_bi rfl rfl (by decide) ?_
  refine y_jge rfl rfl rfl (by decide) (fun g2 => absurd g2 (by decide)) (fun g2 => ?_)
  refine y_ld (x := iv 0) rfl rfl (fun d => rfl) ?_
  refine y_bi rfl rfl (by decide) ?_
  refine y_jle rfl rfl rfl (by decide) (fun g3 => ?_) (fun g3 => absurd g3 (by decide))
  refine y_ld (x := iv 4) rfl rfl (fun d => rfl) ?_
  refine y_st (lv' := [(5, iv 4), (0, .ref 8), (1, iv 4), (2, iv 0), (3, .int x), (4, iv 0)]) rfl rfl (fun d => rfl) ?_
  refine y_ic rfl rfl ?_
  refine y_st (lv' := [(6, iv 0), (5, iv 4), (0, .ref 8), (1, iv 4), (2, iv 0), (3, .int x), (4, iv 0)]) rfl rfl (fun d => rfl) ?_
  refine y_ld (x := iv 0) rfl rfl (fun d => rfl) ?_
  refine y_bi rfl rfl (by decide) ?_
  refine y_jge rfl rfl rfl (by decide) (fun g4 => absurd g4 (by decide)) (fun g4 => ?_)
  refine y_ld (x := iv 4) rfl rfl (fun d => rfl) ?_
  refine y_zle rfl rfl rfl (by decide) (fun g5 => absurd g5 (by decide)) (fun g5 => ?_)
  refine y_in rfl rfl (fun d => rfl) ?_
  refine y_ld (x := iv 4) rfl rfl (fun d => rfl) ?_
  refine y_ic rfl rfl ?_
  refine y_mul (z := 12) rfl rfl rfl ?_
  refine y_ld (x := iv 0) rfl rfl (fun d => rfl) ?_
  refine y_add (z := 12) rfl rfl rfl ?_
  refine y_sti (n := 1) (i := 12) (f := 0) rfl rfl hXb h3X (by decide) rfl rfl ?_
  refine y_zeq rfl rfl rfl (by decide) (fun g6 => ?_) (fun g6 => absurd g6 (by decide))
  refine y_in rfl rfl (fun d => rfl) ?_
  refine y_ld (x := iv 4) rfl rfl (fun d => rfl) ?_
  refine y_sti (n := 2) (i := 4) (f := 1) rfl rfl hXa h3X (by decide) rfl rfl ?_
  refine y_st (lv' := [(5, iv 1), (6, iv 0), (0, .ref 8), (1, iv 4), (2, iv 0), (3, .int x), (4, iv 0)]) rfl rfl (fun d => rfl) ?_
  refine y_inc (z := 1) (lv' := [(6, iv 1), (5, iv 1), (0, .ref 8), (1, iv 4), (2, iv 0), (3, .int x), (4, iv 0)]) rfl rfl rfl rfl rfl ?_
  refine y_go rfl rfl ?_
  refine y_ld (x := iv 1) rfl rfl (fun d => rfl) ?_
  refine y_bi rfl rfl (by decide) ?_
  refine y_jge rfl rfl rfl (by decide) (fun g7 => absurd g7 (by decide)) (fun g7 => ?_)
  refine y_ld (x := iv 1) rfl rfl (fun d => rfl) ?_
  refine y_zle rfl rfl rfl (by decide) (fun g8 => absurd g8 (by decide)) (fun g8 => ?_)
  refine y_in rfl rfl (fun d => rfl) ?_
  refine y_ld (x := iv 1) rfl rfl (fun d => rfl) ?_
  refine y_ic rfl rfl ?_
  refine y_mul (z := 3) rfl rfl rfl ?_
  refine y_ld (x := iv 0) rfl rfl (fun d => rfl) ?_
  refine y_add (z := 3) rfl rfl rfl ?_
  refine y_sti (n := 1) (i := 3) (f := 0) rfl rfl hXb h3X (by decide) rfl rfl ?_
  refine y_zeq rfl rfl rfl (by decide) (fun g9 => ?_) (fun g9 => absurd g9 (by decide))
  refine y_in rfl rfl (fun d => rfl) ?_
  refine y_ld (x := iv 1) rfl rfl (fun d => rfl) ?_
  refine y_sti (n := 2) (i := 1) (f := 0) rfl rfl hXa h3X (by decide) rfl rfl ?_
  refine y_st (lv' := [(5, iv 0), (6, iv 1), (0, .ref 8), (1, iv 4), (2, iv 0), (3, .int x), (4, iv 0)]) rfl rfl (fun d => rfl) ?_
  refine y_inc (z := 2) (lv' := [(6, iv 2), (5, iv 0), (0, .ref 8), (1, iv 4), (2, iv 0), (3, .int x), (4, iv 0)]) rfl rfl rfl rfl rfl ?_
  refine y_go rfl rfl ?_
  refine y_ld (x := iv 2) rfl rfl (fun d => rfl) ?_
  refine y_bi rfl rfl (by decide) ?_
  refine y_jge rfl rfl rfl (by decide) (fun g10 => absurd g10 (by decide)) (fun g10 => ?_)
  refine y_ld (x := iv 0) rfl rfl (fun d => rfl) ?_
  refine y_zle rfl rfl rfl (by decide) (fun g11 => ?_) (fun g11 => absurd g11 (by decide))
  refine y_in rfl rfl (fun d => rfl) ?_
  refine y_ld (x := iv 0) rfl rfl (fun d => rfl) ?_
  refine y_ic rfl rfl ?_
  refine y_mul (z := 0) rfl rfl rfl ?_
  refine y_ld (x := iv 0) rfl rfl (fun d => rfl) ?_
  refine y_add (z := 0) rfl rfl rfl ?_
  refine y_sti (n := 1) (i := 0) (f := 1) rfl rfl hXb h3X (by decide) rfl rfl ?_
  refine y_st (lv' := [(6, iv 1), (5, iv 0), (0, .ref 8), (1, iv 4), (2, iv 0), (3, .int x), (4, iv 0)]) rfl rfl (fun d => rfl) ?_
  refine y_ld (x := .ref 8) rfl rfl (fun d => rfl) ?_
  refine y_gI (i := 1) (e := 0) rfl rfl rfl (hC 8 _ _ rfl) rfl rfl ?_
  refine y_bi rfl rfl (by decide) ?_
  refine y_jge rfl rfl rfl (by decide) (fun g12 => absurd g12 (by decide)) (fun g12 => ?_)
  refine y_ld (x := .ref 8) rfl rfl (fun d => rfl) ?_
  refine y_gR (i := 0) rfl rfl rfl (hC 8 _ _ rfl) rfl ?_
  refine y_ld (x := .ref 8) rfl rfl (fun d => rfl) ?_
  refine y_gI (i := 1) (e := 0) rfl rfl rfl (hC 8 _ _ rfl) rfl rfl ?_
  refine y_ld (x := iv 1) rfl rfl (fun d => rfl) ?_
  refine y_ist (q := 0) rfl rfl (cl_ia hC (k := 9) (N := 20) rfl) (by decide) (by decide) rfl ?_
  refine y_ld (x := .ref 8) rfl rfl (fun d => rfl) ?_
  refine y_in rfl rfl (fun d => rfl) ?_
  refine y_gI (i := 1) (e := 0) rfl rfl rfl (hC 8 _ _ rfl) rfl rfl ?_
  refine y_ic rfl rfl ?_
  refine y_add (z := 1) rfl rfl rfl ?_
  refine y_pI (i := 1) rfl rfl rfl (hC 8 _ _ rfl) rfl rfl ?_
  refine y_ld (x := .ref 8) rfl rfl (fun d => rfl) ?_
  refine y_ld (x := iv 1) rfl rfl (fun d => rfl) ?_
  refine y_in rfl rfl (fun d => rfl) ?_
  refine y_ld (x := iv 0) rfl rfl (fun d => rfl) ?_
  refine y_sti (n := 2) (i := 0) (f := (-1)) rfl rfl hXa h3X (by decide) rfl rfl ?_
  refine y_ld (x := .int x) rfl rfl (fun d => rfl) ?_
  refine y_ld (x := iv 0) rfl rfl (fun d => rfl) ?_
  refine y_ic rfl rfl ?_
  refine y_add (z := 1) rfl rfl rfl ?_
  refine y_cV (D' := 28) (as := [.ref 8, iv 1, iv (-1), .int x, iv 1]) rfl rfl rfl rfl rfl (hC 8 _ _ rfl) ⟨rfl, (Nat.le_of_ble_eq_true rfl), (Nat.le_of_ble_eq_true rfl)⟩ (by decide) ?_
  refine y_ent (lv' := [(0, .ref 8), (1, iv 1), (2, iv (-1)), (3, .int x), (4, iv 1)]) (Nat.le_of_ble_eq_true rfl) rfl ?_
  refine y_ld (x := iv 1) rfl rfl (fun d => rfl) ?_
  refine y_in (pc' := 84) rfl rfl (fun d => rfl) ?_
  refine y_ld (x := .int x) rfl rfl (fun d => rfl) ?_
  refine y_ld (x := .ref 8) rfl rfl (fun d => rfl) ?_
  refine y_gI (i := 3) (e := nb) rfl rfl rfl (hC 8 _ _ rfl) rfl rfl ?_
  refine y_in rfl rfl (fun d => rfl) ?_
  refine y_ret rfl (fun d => rfl) ?_
  refine y_nv ?_
  refine y_ret rfl (fun d => rfl) ?_
  refine y_nv ?_
  refine y_ret rfl (fun d => rfl) ?_
  exact k _ (fun k h8 h9 => by rw [v_up_ne h8, v_up_ne h9, v_up_ne h8, v_up_ne h8, v_up_ne h8, v_up_ne h8]) ⟨by show (0 : Int) ≤ 1; decide, by show (1 : Int) ≤ 20; decide⟩
set_option maxRecDepth 100000 in
set_option maxHeartbeats 4000000 in
theorem ca_4_1 (hC : ClF S) (hXb : X 1 = m_bodies) (hXa : X 2 = m_above) (h3X : X 3 = []) {b : Nat} {nb ln : Int} {x : Int32} (hb : b < 8) (hk : V (10 + 6 * b) 1 = 4) (hn : V (10 + 6 * b) 0 = nb) (k : ∀ V2, (∀ k, k ≠ 8 → k ≠ 9 → V2 k = V k) → 0 ≤ V2 8 1 ∧ V2 8 1 ≤ 20 → K u w (some (.int (acV 4 1 x nb ln))) S V2) : y_R X 30 61 u w [.ref 8, .ref (10 + 6 * b), iv ln, iv 1, .int x] S (v_up V 8 1 0) K := by
  refine y_ent (lv' := [(0, .ref 8), (1, .ref (10 + 6 * b)), (2, iv ln), (3, iv 1), (4, .int x)]) (Nat.le_of_ble_eq_true rfl) rfl ?_
  refine y_ld (x := .ref 8) rfl rfl (fun d => rfl) ?_
  refine y_ld (x := .ref (10 + 6 * b)) rfl rfl (fun d => rfl) ?_
  refine y_gI (i := 1) (e := 4) rfl rfl rfl (bx_ob hC (i := b) (by omega)) rfl (by rw [v_up_ne (by omega)]; exact hk) ?_
  refine y_pI (i := 2) rfl rfl rfl (hC 8 _ _ rfl) rfl rfl ?_
  refine y_ld (x := .ref 8) rfl rfl (fun d => rfl) ?_
  refine y_ld (x := .ref (10 + 6 * b)) rfl rfl (fun d => rfl) ?_
  refine y_gI (i := 0) (e := nb) rfl rfl rfl (bx_ob hC (i := b) (by omega)) rfl (by rw [v_up_ne (by omega), v_up_ne (by omega)]; exact hn) ?_
  refine y_pI (i := 3) rfl rfl rfl (hC 8 _ _ rfl) rfl rfl ?_
  refine y_ld (x := .ref 8) rfl rfl (fun d => rfl) ?_
  refine y_ld (x := iv ln) rfl rfl (fun d => rfl) ?_
  refine y_pI (i := 4) rfl rfl rfl (hC 8 _ _ rfl) rfl rfl ?_
  refine y_ld (x := .ref 8) rfl rfl (fun d => rfl) ?_
  refine y_ld (x := .ref 8) rfl rfl (fun d => rfl) ?_
  refine y_gI (i := 2) (e := 4) rfl rfl rfl (hC 8 _ _ rfl) rfl rfl ?_
  refine y_ld (x := iv 1) rfl rfl (fun d => rfl) ?_
  refine y_ld (x := .int x) rfl rfl (fun d => rfl) ?_
  refine y_ic rfl rfl ?_
  refine y_cV (D' := 29) (as := [.ref 8, iv 4, iv 1, .int x, iv 0]) rfl rfl rfl rfl rfl (hC 8 _ _ rfl) ⟨rfl, (Nat.le_of_ble_eq_true rfl), (Nat.le_of_ble_eq_true rfl)⟩ (by decide) ?_
  refine y_ent (lv' := [(0, .ref 8), (1, iv 4), (2, iv 1), (3, .int x), (4, iv 0)]) (Nat.le_of_ble_eq_true rfl) rfl ?_
  refine y_ld (x := iv 4) rfl rfl (fun d => rfl) ?_
  refine y_zlt rfl rfl rfl (by decide) (fun g1 => absurd g1 (by decide)) (fun g1 => ?_)
  refine y_ld (x := iv 4) rfl rfl (fun d => rfl) ?_
  refine y_bi rfl rfl (by decide) ?_
  refine y_jge rfl rfl rfl (by decide) (fun g2 => absurd g2 (by decide)) (fun g2 => ?_)
  refine y_ld (x := iv 0) rfl rfl (fun d => rfl) ?_
  refine y_bi rfl rfl (by decide) ?_
  refine y_jle rfl rfl rfl (by decide) (fun g3 => ?_) (fun g3 => absurd g3 (by decide))
  refine y_ld (x := iv 4) rfl rfl (fun d => rfl) ?_
  refine y_st (lv' := [(5, iv 4), (0, .ref 8), (1, iv 4), (2, iv 1), (3, .int x), (4, iv 0)]) rfl rfl (fun d => rfl) ?_
  refine y_ic rfl rfl ?_
  refine y_st (lv' := [(6, iv 0), (5, iv 4), (0, .ref 8), (1, iv 4), (2, iv 1), (3, .int x), (4, iv 0)]) rfl rfl (fun d => rfl) ?_
  refine y_ld (x := iv 0) rfl rfl (fun d => rfl) ?_
  refine y_bi rfl rfl (by decide) ?_
  refine y_jge rfl rfl rfl (by decide) (fun g4 => absurd g4 (by decide)) (fun g4 => ?_)
  refine y_ld (x := iv 4) rfl rfl (fun d => rfl) ?_
  refine y_zle rfl rfl rfl (by decide) (fun g5 => absurd g5 (by decide)) (fun g5 => ?_)
  refine y_in rfl rfl (fun d => rfl) ?_
  refine y_ld (x := iv 4) rfl rfl (fun d => rfl) ?_
  refine y_ic rfl rfl ?_
  refine y_mul (z := 12) rfl rfl rfl ?_
  refine y_ld (x := iv 1) rfl rfl (fun d => rfl) ?_
  refine y_add (z := 13) rfl rfl rfl ?_
  refine y_sti (n := 1) (i := 13) (f := 0) rfl rfl hXb h3X (by decide) rfl rfl ?_
  refine y_zeq rfl rfl rfl (by decide) (fun g6 => ?_) (fun g6 => absurd g6 (by decide))
  refine y_in rfl rfl (fun d => rfl) ?_
  refine y_ld (x := iv 4) rfl rfl (fun d => rfl) ?_
  refine y_sti (n := 2) (i := 4) (f := 1) rfl rfl hXa h3X (by decide) rfl rfl ?_
  refine y_st (lv' := [(5, iv 1), (6, iv 0), (0, .ref 8), (1, iv 4), (2, iv 1), (3, .int x), (4, iv 0)]) rfl rfl (fun d => rfl) ?_
  refine y_inc (z := 1) (lv' := [(6, iv 1), (5, iv 1), (0, .ref 8), (1, iv 4), (2, iv 1), (3, .int x), (4, iv 0)]) rfl rfl rfl rfl rfl ?_
  refine y_go rfl rfl ?_
  refine y_ld (x := iv 1) rfl rfl (fun d => rfl) ?_
  refine y_bi rfl rfl (by decide) ?_
  refine y_jge rfl rfl rfl (by decide) (fun g7 => absurd g7 (by decide)) (fun g7 => ?_)
  refine y_ld (x := iv 1) rfl rfl (fun d => rfl) ?_
  refine y_zle rfl rfl rfl (by decide) (fun g8 => absurd g8 (by decide)) (fun g8 => ?_)
  refine y_in rfl rfl (fun d => rfl) ?_
  refine y_ld (x := iv 1) rfl rfl (fun d => rfl) ?_
  refine y_ic rfl rfl ?_
  refine y_mul (z := 3) rfl rfl rfl ?_
  refine y_ld (x := iv 1) rfl rfl (fun d => rfl) ?_
  refine y_add (z := 4) rfl rfl rfl ?_
  refine y_sti (n := 1) (i := 4) (f := 11) rfl rfl hXb h3X (by decide) rfl rfl ?_
  refine y_zeq rfl rfl rfl (by decide) (fun g9 => absurd g9 (by decide)) (fun g9 => ?_)
  refine y_go rfl rfl ?_
  refine y_in rfl rfl (fun d => rfl) ?_
  refine y_ld (x := iv 1) rfl rfl (fun d => rfl) ?_
  refine y_ic rfl rfl ?_
  refine y_mul (z := 3) rfl rfl rfl ?_
  refine y_ld (x := iv 1) rfl rfl (fun d => rfl) ?_
  refine y_add (z := 4) rfl rfl rfl ?_
  refine y_sti (n := 1) (i := 4) (f := 11) rfl rfl hXb h3X (by decide) rfl rfl ?_
  refine y_st (lv' := [(6, iv 11), (5, iv 1), (0, .ref 8), (1, iv 4), (2, iv 1), (3, .int x), (4, iv 0)]) rfl rfl (fun d => rfl) ?_
  refine y_ld (x := .ref 8) rfl rfl (fun d => rfl) ?_
  refine y_gI (i := 1) (e := 0) rfl rfl rfl (hC 8 _ _ rfl) rfl rfl ?_
  refine y_bi rfl rfl (by decide) ?_
  refine y_jge rfl rfl rfl (by decide) (fun g10 => absurd g10 (by decide)) (fun g10 => ?_)
  refine y_ld (x := .ref 8) rfl rfl (fun d => rfl) ?_
  refine y_gR (i := 0) rfl rfl rfl (hC 8 _ _ rfl) rfl ?_
  refine y_ld (x := .ref 8) rfl rfl (fun d => rfl) ?_
  refine y_gI (i := 1) (e := 0) rfl rfl rfl (hC 8 _ _ rfl) rfl rfl ?_
  refine y_ld (x := iv 11) rfl rfl (fun d => rfl) ?_
  refine y_ist (q := 0) rfl rfl (cl_ia hC (k := 9) (N := 20) rfl) (by decide) (by decide) rfl ?_
  refine y_ld (x := .ref 8) rfl rfl (fun d => rfl) ?_
  refine y_in rfl rfl (fun d => rfl) ?_
  refine y_gI (i := 1) (e := 0) rfl rfl rfl (hC 8 _ _ rfl) rfl rfl ?_
  refine y_ic rfl rfl ?_
  refine y_add (z := 1) rfl rfl rfl ?_
  refine y_pI (i := 1) rfl rfl rfl (hC 8 _ _ rfl) rfl rfl ?_
  refine y_ld (x := .ref 8) rfl rfl (fun d => rfl) ?_
  refine y_ld (x := iv 11) rfl rfl (fun d => rfl) ?_
  refine y_in rfl rfl (fun d => rfl) ?_
  refine y_ld (x := iv 1) rfl rfl (fun d => rfl) ?_
  refine y_sti (n := 2) (i := 1) (f := 0) rfl rfl hXa h3X (by decide) rfl rfl ?_
  refine y_ld (x := .int x) rfl rfl (fun d => rfl) ?_
  refine y_ld (x := iv 0) rfl rfl (fun d => rfl) ?_
  refine y_ic rfl rfl ?_
  refine y_add (z := 1) rfl rfl rfl ?_
  refine y_cV (D' := 28) (as := [.ref 8, iv 11, iv 0, .int x, iv 1]) rfl rfl rfl rfl rfl (hC 8 _ _ rfl) ⟨rfl, (Nat.le_of_ble_eq_true rfl), (Nat.le_of_ble_eq_true rfl)⟩ (by decide) ?_
  refine y_ent (lv' := [(0, .ref 8), (1, iv 11), (2, iv 0), (3, .int x), (4, iv 1)]) (Nat.le_of_ble_eq_true rfl) rfl ?_
  refine y_ld (x := iv 11) rfl rfl (fun d => rfl) ?_
  refine y_in (pc' := 124) rfl rfl (fun d => rfl) ?_
  refine y_ld (x := .ref 8) rfl rfl (fun d => rfl) ?_
  refine y_ld (x := iv 0) rfl rfl (fun d => rfl) ?_
  refine y_ic rfl rfl ?_
  refine y_ld (x := .int x) rfl rfl (fun d => rfl) ?_
  refine y_ic rfl rfl ?_
  refine y_in rfl rfl (fun d => rfl) ?_
  refine y_ld (x := iv 1) rfl rfl (fun d => rfl) ?_
  refine y_cV (D' := 27) (as := [.ref 8, iv 0, iv 1, .int (x * (Int32.ofInt 3)), iv 1]) rfl rfl rfl rfl rfl (hC 8 _ _ rfl) ⟨rfl, (Nat.le_of_ble_eq_true rfl), (Nat.le_of_ble_eq_true rfl)⟩ (by decide) ?_
  refine y_ent (lv' := [(0, .ref 8), (1, iv 0), (2, iv 1), (3, .int (x * (Int32.ofInt 3))), (4, iv 1)]) (Nat.le_of_ble_eq_true rfl) rfl ?_
  refine y_ld (x := iv 0) rfl rfl (fun d => rfl) ?_
  refine y_zlt rfl rfl rfl (by decide) (fun g11 => absurd g11 (by decide)) (fun g11 => ?_)
  refine y_ld (x := iv 0) rfl rfl (fun d => rfl) ?_
  refine y_bi rfl rfl (by decide) ?_
  refine y_jge rfl rfl rfl (by decide) (fun g12 => absurd g12 (by decide)) (fun g12 => ?_)
  refine y_ld (x := iv 1) rfl rfl (fun d => rfl) ?_
  refine y_bi rfl rfl (by decide) ?_
  refine y_jle rfl rfl rfl (by decide) (fun g13 => ?_) (fun g13 => absurd g13 (by decide))
  refine y_ld (x := iv 0) rfl rfl (fun d => rfl) ?_
  refine y_st (lv' := [(5, iv 0), (0, .ref 8), (1, iv 0), (2, iv 1), (3, .int (x * (Int32.ofInt 3))), (4, iv 1)]) rfl rfl (fun d => rfl) ?_
  refine y_ic rfl rfl ?_
  refine y_st (lv' := [(6, iv 0), (5, iv 0), (0, .ref 8), (1, iv 0), (2, iv 1), (3, .int (x * (Int32.ofInt 3))), (4, iv 1)]) rfl rfl (fun d => rfl) ?_
  refine y_ld (x := iv 0) rfl rfl (fun d => rfl) ?_
  refine y_bi rfl rfl (by decide) ?_
  refine y_jge rfl rfl rfl (by decide) (fun g14 => absurd g14 (by decide)) (fun g14 => ?_)
  refine y_ld (x := iv 0) rfl rfl (fun d => rfl) ?_
  refine y_zle rfl rfl rfl (by decide) (fun g15 => ?_) (fun g15 => absurd g15 (by decide))
  refine y_in rfl rfl (fun d => rfl) ?_
  refine y_ld (x := iv 0) rfl rfl (fun d => rfl) ?_
  refine y_ic rfl rfl ?_
  refine y_mul (z := 0) rfl rfl rfl ?_
  refine y_ld (x := iv 1) rfl rfl (fun d => rfl) ?_
  refine y_add (z := 1) rfl rfl rfl ?_
  refine y_sti (n := 1) (i := 1) (f := 2) rfl rfl hXb h3X (by decide) rfl rfl ?_
  refine y_st (lv' := [(6, iv 2), (5, iv 0), (0, .ref 8), (1, iv 0), (2, iv 1), (3, .int (x * (Int32.ofInt 3))), (4, iv 1)]) rfl rfl (fun d => rfl) ?_
  refine y_ld (x := .ref 8) rfl rfl (fun d => rfl) ?_
  refine y_gI (i := 1) (e := 1) rfl rfl rfl (hC 8 _ _ rfl) rfl rfl ?_
  refine y_bi rfl rfl (by decide) ?_
  refine y_jge rfl rfl rfl (by decide) (fun g16 => absurd g16 (by decide)) (fun g16 => ?_)
  refine y_ld (x := .ref 8) rfl rfl (fun d => rfl) ?_
  refine y_gR (i := 0) rfl rfl rfl (hC 8 _ _ rfl) rfl ?_
  refine y_ld (x := .ref 8) rfl rfl (fun d => rfl) ?_
  refine y_gI (i := 1) (e := 1) rfl rfl rfl (hC 8 _ _ rfl) rfl rfl ?_
  refine y_ld (x := iv 2) rfl rfl (fun d => rfl) ?_
  refine y_ist (q := 1) rfl rfl (cl_ia hC (k := 9) (N := 20) rfl) (by decide) (by decide) rfl ?_
  refine y_ld (x := .ref 8) rfl rfl (fun d => rfl) ?_
  refine y_in rfl rfl (fun d => rfl) ?_
  refine y_gI (i := 1) (e := 1) rfl rfl rfl (hC 8 _ _ rfl) rfl rfl ?_
  refine y_ic rfl rfl ?_
  refine y_add (z := 2) rfl rfl rfl ?_
  refine y_pI (i := 1) rfl rfl rfl (hC 8 _ _ rfl) rfl rfl ?_
  refine y_ld (x := .ref 8) rfl rfl (fun d => rfl) ?_
  refine y_ld (x := iv 2) rfl rfl (fun d => rfl) ?_
  refine y_in rfl rfl (fun d => rfl) ?_
  refine y_ld (x := iv 0) rfl rfl (fun d => rfl) ?_
  refine y_sti (n := 2) (i := 0) (f := (-1)) rfl rfl hXa h3X (by decide) rfl rfl ?_
  refine y_ld (x := .int (x * (Int32.ofInt 3))) rfl rfl (fun d => rfl) ?_
  refine y_ld (x := iv 1) rfl rfl (fun d => rfl) ?_
  refine y_ic rfl rfl ?_
  refine y_add (z := 2) rfl rfl rfl ?_
  refine y_cV (D' := 26) (as := [.ref 8, iv 2, iv (-1), .int (x * (Int32.ofInt 3)), iv 2]) rfl rfl rfl rfl rfl (hC 8 _ _ rfl) ⟨rfl, (Nat.le_of_ble_eq_true rfl), (Nat.le_of_ble_eq_true rfl)⟩ (by decide) ?_
  refine y_ent (lv' := [(0, .ref 8), (1, iv 2), (2, iv (-1)), (3, .int (x * (Int32.ofInt 3))), (4, iv 2)]) (Nat.le_of_ble_eq_true rfl) rfl ?_
  refine y_ld (x := iv 2) rfl rfl (fun d => rfl) ?_
  refine y_in (pc' := 91) rfl rfl (fun d => rfl) ?_
  refine y_ld (x := .ref 8) rfl rfl (fun d => rfl) ?_
  refine y_ld (x := .ref 8) rfl rfl (fun d => rfl) ?_
  refine y_gI (i := 2) (e := 4) rfl rfl rfl (hC 8 _ _ rfl) rfl rfl ?_
  refine y_ic rfl rfl ?_
  refine y_ld (x := .int (x * (Int32.ofInt 3))) rfl rfl (fun d => rfl) ?_
  refine y_ld (x := iv 2) rfl rfl (fun d => rfl) ?_
  refine y_cV (D' := 25) (as := [.ref 8, iv 4, iv 0, .int (x * (Int32.ofInt 3)), iv 2]) rfl rfl rfl rfl rfl (hC 8 _ _ rfl) ⟨rfl, (Nat.le_of_ble_eq_true rfl), (Nat.le_of_ble_eq_true rfl)⟩ (by decide) ?_
  refine y_ent (lv' := [(0, .ref 8), (1, iv 4), (2, iv 0), (3, .int (x * (Int32.ofInt 3))), (4, iv 2)]) (Nat.le_of_ble_eq_true rfl) rfl ?_
  refine y_ld (x := iv 4) rfl rfl (fun d => rfl) ?_
  refine y_zlt rfl rfl rfl (by decide) (fun g17 => absurd g17 (by decide)) (fun g17 => ?_)
  refine y_ld (x := iv 4) rfl rfl (fun d => rfl) ?_
  refine y_bi rfl rfl (by decide) ?_
  refine y_jge rfl rfl rfl (by decide) (fun g18 => absurd g18 (by decide)) (fun g18 => ?_)
  refine y_ld (x := iv 2) rfl rfl (fun d => rfl) ?_
  refine y_bi rfl rfl (by decide) ?_
  refine y_jle rfl rfl rfl (by decide) (fun g19 => ?_) (fun g19 => absurd g19 (by decide))
  refine y_ld (x := iv 4) rfl rfl (fun d => rfl) ?_
  refine y_st (lv' := [(5, iv 4), (0, .ref 8), (1, iv 4), (2, iv 0), (3, .int (x * (Int32.ofInt 3))), (4, iv 2)]) rfl rfl (fun d => rfl) ?_
  refine y_ic rfl rfl ?_
  refine y_st (lv' := [(6, iv 0), (5, iv 4), (0, .ref 8), (1, iv 4), (2, iv 0), (3, .int (x * (Int32.ofInt 3))), (4, iv 2)]) rfl rfl (fun d => rfl) ?_
  refine y_ld (x := iv 0) rfl rfl (fun d => rfl) ?_
  refine y_bi rfl rfl (by decide) ?_
  refine y_jge rfl rfl rfl (by decide) (fun g20 => absurd g20 (by decide)) (fun g20 => ?_)
  refine y_ld (x := iv 4) rfl rfl (fun d => rfl) ?_
  refine y_zle rfl rfl rfl (by decide) (fun g21 => absurd g21 (by decide)) (fun g21 => ?_)
  refine y_in rfl rfl (fun d => rfl) ?_
  refine y_ld (x := iv 4) rfl rfl (fun d => rfl) ?_
  refine y_ic rfl rfl ?_
  refine y_mul (z := 12) rfl rfl rfl ?_
  refine y_ld (x := iv 0) rfl rfl (fun d => rfl) ?_
  refine y_add (z := 12) rfl rfl rfl ?_
  refine y_sti (n := 1) (i := 12) (f := 0) rfl rfl hXb h3X (by decide) rfl rfl ?_
  refine y_zeq rfl rfl rfl (by decide) (fun g22 => ?_) (fun g22 => absurd g22 (by decide))
  refine y_in rfl rfl (fun d => rfl) ?_
  refine y_ld (x := iv 4) rfl rfl (fun d => rfl) ?_
  refine y_sti (n := 2) (i := 4) (f := 1) rfl rfl hXa h3X (by decide) rfl rfl ?_
  refine y_st (lv' := [(5, iv 1), (6, iv 0), (0, .ref 8), (1, iv 4), (2, iv 0), (3, .int (x * (Int32.ofInt 3))), (4, iv 2)]) rfl rfl (fun d => rfl) ?_
  refine y_inc (z := 1) (lv' := [(6, iv 1), (5, iv 1), (0, .ref 8), (1, iv 4), (2, iv 0), (3, .int (x * (Int32.ofInt 3))), (4, iv 2)]) rfl rfl rfl rfl rfl ?_
  refine y_go rfl rfl ?_
  refine y_ld (x := iv 1) rfl rfl (fun d => rfl) ?_
  refine y_bi rfl rfl (by decide) ?_
  refine y_jge rfl rfl rfl (by decide) (fun g23 => absurd g23 (by decide)) (fun g23 => ?_)
  refine y_ld (x := iv 1) rfl rfl (fun d => rfl) ?_
  refine y_zle rfl rfl rfl (by decide) (fun g24 => absurd g24 (by decide)) (fun g24 => ?_)
  refine y_in rfl rfl (fun d => rfl) ?_
  refine y_ld (x := iv 1) rfl rfl (fun d => rfl) ?_
  refine y_ic rfl rfl ?_
  refine y_mul (z := 3) rfl rfl rfl ?_
  refine y_ld (x := iv 0) rfl rfl (fun d => rfl) ?_
  refine y_add (z := 3) rfl rfl rfl ?_
  refine y_sti (n := 1) (i := 3) (f := 0) rfl rfl hXb h3X (by decide) rfl rfl ?_
  refine y_zeq rfl rfl rfl (by decide) (fun g25 => ?_) (fun g25 => absurd g25 (by decide))
  refine y_in rfl rfl (fun d => rfl) ?_
  refine y_ld (x := iv 1) rfl rfl (fun d => rfl) ?_
  refine y_sti (n := 2) (i := 1) (f := 0) rfl rfl hXa h3X (by decide) rfl rfl ?_
  refine y_st (lv' := [(5, iv 0), (6, iv 1), (0, .ref 8), (1, iv 4), (2, iv 0), (3, .int (x * (Int32.ofInt 3))), (4, iv 2)]) rfl rfl (fun d => rfl) ?_
  refine y_inc (z := 2) (lv' := [(6, iv 2), (5, iv 0), (0, .ref 8), (1, iv 4), (2, iv 0), (3, .int (x * (Int32.ofInt 3))), (4, iv 2)]) rfl rfl rfl rfl rfl ?_
  refine y_go rfl rfl ?_
  refine y_ld (x := iv 2) rfl rfl (fun d => rfl) ?_
  refine y_bi rfl rfl (by decide) ?_
  refine y_jge rfl rfl rfl (by decide) (fun g26 => absurd g26 (by decide)) (fun g26 => ?_)
  refine y_ld (x := iv 0) rfl rfl (fun d => rfl) ?_
  refine y_zle rfl rfl rfl (by decide) (fun g27 => ?_) (fun g27 => absurd g27 (by decide))
  refine y_in rfl rfl (fun d => rfl) ?_
  refine y_ld (x := iv 0) rfl rfl (fun d => rfl) ?_
  refine y_ic rfl rfl ?_
  refine y_mul (z := 0) rfl rfl rfl ?_
  refine y_ld (x := iv 0) rfl rfl (fun d => rfl) ?_
  refine y_add (z := 0) rfl rfl rfl ?_
  refine y_sti (n := 1) (i := 0) (f := 1) rfl rfl hXb h3X (by decide) rfl rfl ?_
  refine y_st (lv' := [(6, iv 1), (5, iv 0), (0, .ref 8), (1, iv 4), (2, iv 0), (3, .int (x * (Int32.ofInt 3))), (4, iv 2)]) rfl rfl (fun d => rfl) ?_
  refine y_ld (x := .ref 8) rfl rfl (fun d => rfl) ?_
  refine y_gI (i := 1) (e := 2) rfl rfl rfl (hC 8 _ _ rfl) rfl rfl ?_
  refine y_bi rfl rfl (by decide) ?_
  refine y_jge rfl rfl rfl (by decide) (fun g28 => absurd g28 (by decide)) (fun g28 => ?_)
  refine y_ld (x := .ref 8) rfl rfl (fun d => rfl) ?_
  refine y_gR (i := 0) rfl rfl rfl (hC 8 _ _ rfl) rfl ?_
  refine y_ld (x := .ref 8) rfl rfl (fun d => rfl) ?_
  refine y_gI (i := 1) (e := 2) rfl rfl rfl (hC 8 _ _ rfl) rfl rfl ?_
  refine y_ld (x := iv 1) rfl rfl (fun d => rfl) ?_
  refine y_ist (q := 2) rfl rfl (cl_ia hC (k := 9) (N := 20) rfl) (by decide) (by decide) rfl ?_
  refine y_ld (x := .ref 8) rfl rfl (fun d => rfl) ?_
  refine y_in rfl rfl (fun d => rfl) ?_
  refine y_gI (i := 1) (e := 2) rfl rfl rfl (hC 8 _ _ rfl) rfl rfl ?_
  refine y_ic rfl rfl ?_
  refine y_add (z := 3) rfl rfl rfl ?_
  refine y_pI (i := 1) rfl rfl rfl (hC 8 _ _ rfl) rfl rfl ?_
  refine y_ld (x := .ref 8) rfl rfl (fun d => rfl) ?_
  refine y_ld (x := iv 1) rfl rfl (fun d => rfl) ?_
  refine y_in rfl rfl (fun d => rfl) ?_
  refine y_ld (x := iv 0) rfl rfl (fun d => rfl) ?_
  refine y_sti (n := 2) (i := 0) (f := (-1)) rfl rfl hXa h3X (by decide) rfl rfl ?_
  refine y_ld (x := .int (x * (Int32.ofInt 3))) rfl rfl (fun d => rfl) ?_
  refine y_ld (x := iv 2) rfl rfl (fun d => rfl) ?_
  refine y_ic rfl rfl ?_
  refine y_add (z := 3) rfl rfl rfl ?_
  refine y_cV (D' := 24) (as := [.ref 8, iv 1, iv (-1), .int (x * (Int32.ofInt 3)), iv 3]) rfl rfl rfl rfl rfl (hC 8 _ _ rfl) ⟨rfl, (Nat.le_of_ble_eq_true rfl), (Nat.le_of_ble_eq_true rfl)⟩ (by decide) ?_
  refine y_ent (lv' := [(0, .ref 8), (1, iv 1), (2, iv (-1)), (3, .int (x * (Int32.ofInt 3))), (4, iv 3)]) (Nat.le_of_ble_eq_true rfl) rfl ?_
  refine y_ld (x := iv 1) rfl rfl (fun d => rfl) ?_
  refine y_in (pc' := 84) rfl rfl (fun d => rfl) ?_
  refine y_ld (x := .int (x * (Int32.ofInt 3))) rfl rfl (fun d => rfl) ?_
  refine y_ld (x := .ref 8) rfl rfl (fun d => rfl) ?_
  refine y_gI (i := 3) (e := nb) rfl rfl rfl (hC 8 _ _ rfl) rfl rfl ?_
  refine y_in rfl rfl (fun d => rfl) ?_
  refine y_ret rfl (fun d => rfl) ?_
  refine y_nv ?_
  refine y_ret rfl (fun d => rfl) ?_
  refine y_nv ?_
  refine y_ld (x := .ref 8) rfl rfl (fun d => rfl) ?_
  refine y_gI (i := 4) (e := ln) rfl rfl rfl (hC 8 _ _ rfl) rfl rfl ?_
  refine y_in rfl rfl (fun d => rfl) ?_
  refine y_ret rfl (fun d => rfl) ?_
  refine y_nv ?_
  refine y_ret rfl (fun d => rfl) ?_
  refine y_nv ?_
  refine y_ret rfl (fun d => rfl) ?_
  refine y_nv ?_
  refine y_ret rfl (fun d => rfl) ?_
  refine y_nv ?_
  refine y_ret rfl (fun d => rfl) ?_
  exact k _ (fun k h8 h9 => by rw [v_up_ne h8, v_up_ne h9, v_up_ne h8, v_up_ne h9, v_up_ne h8, v_up_ne h9, v_up_ne h8, v_up_ne h8, v_up_ne h8, v_up_ne h8]) ⟨by show (0 : Int) ≤ 3; decide, by show (3 : Int) ≤ 20; decide⟩
set_option maxRecDepth 100000 in
set_option maxHeartbeats 4000000 in
theorem ca_4_2 (hC : ClF S) (hXb : X 1 = m_bodies) (hXa : X 2 = m_above) (h3X : X 3 = []) {b : Nat} {nb ln : Int} {x : Int32} (hb : b < 8) (hk : V (10 + 6 * b) 1 = 4) (hn : V (10 + 6 * b) 0 = nb) (k : ∀ V2, (∀ k, k ≠ 8 → k ≠ 9 → V2 k = V k) → 0 ≤ V2 8 1 ∧ V2 8 1 ≤ 20 → K u w (some (.int (acV 4 2 x nb ln))) S V2) : y_R X 30 61 u w [.ref 8, .ref (10 + 6 * b), iv ln, iv 2, .int x] S (v_up V 8 1 0) K := by
  refine y_ent (lv' := [(0, .ref 8), (1, .ref (10 + 6 * b)), (2, iv ln), (3, iv 2), (4, .int x)]) (Nat.le_of_ble_eq_true rfl) rfl ?_
  refine y_ld (x := .ref 8) rfl rfl (fun d => rfl) ?_
  refine y_ld (x := .ref (10 + 6 * b)) rfl rfl (fun d => rfl) ?_
  refine y_gI (i := 1) (e := 4) rfl rfl rfl (bx_ob hC (i := b) (by omega)) rfl (by rw [v_up_ne (by omega)]; exact hk) ?_
  refine y_pI (i := 2) rfl rfl rfl (hC 8 _ _ rfl) rfl rfl ?_
  refine y_ld (x := .ref 8) rfl rfl (fun d => rfl) ?_
  refine y_ld (x := .ref (10 + 6 * b)) rfl rfl (fun d => rfl) ?_
  refine y_gI (i := 0) (e := nb) rfl rfl rfl (bx_ob hC (i := b) (by omega)) rfl (by rw [v_up_ne (by omega), v_up_ne (by omega)]; exact hn) ?_
  refine y_pI (i := 3) rfl rfl rfl (hC 8 _ _ rfl) rfl rfl ?_
  refine y_ld (x := .ref 8) rfl rfl (fun d => rfl) ?_
  refine y_ld (x := iv ln) rfl rfl (fun d => rfl) ?_
  refine y_pI (i := 4) rfl rfl rfl (hC 8 _ _ rfl) rfl rfl ?_
  refine y_ld (x := .ref 8) rfl rfl (fun d => rfl) ?_
  refine y_ld (x := .ref 8) rfl rfl (fun d => rfl) ?_
  refine y_gI (i := 2) (e := 4) rfl rfl rfl (hC 8 _ _ rfl) rfl rfl ?_
  refine y_ld (x := iv 2) rfl rfl (fun d => rfl) ?_
  refine y_ld (x := .int x) rfl rfl (fun d => rfl) ?_
  refine y_ic rfl rfl ?_
  refine y_cV (D' := 29) (as := [.ref 8, iv 4, iv 2, .int x, iv 0]) rfl rfl rfl rfl rfl (hC 8 _ _ rfl) ⟨rfl, (Nat.le_of_ble_eq_true rfl), (Nat.le_of_ble_eq_true rfl)⟩ (by decide) ?_
  refine y_ent (lv' := [(0, .ref 8), (1, iv 4), (2, iv 2), (3, .int x), (4, iv 0)]) (Nat.le_of_ble_eq_true rfl) rfl ?_
  refine y_ld (x := iv 4) rfl rfl (fun d => rfl) ?_
  refine y_zlt rfl rfl rfl (by decide) (fun g1 => absurd g1 (by decide)) (fun g1 => ?_)
  refine y_ld (x := iv 4) rfl rfl (fun d => rfl) ?_
  refine y_bi rfl rfl (by decide) ?_
  refine y_jge rfl rfl rfl (by decide) (fun g2 => absurd g2 (by decide)) (fun g2 => ?_)
  refine y_ld (x := iv 0) rfl rfl (fun d => rfl) ?_
  refine y_bi rfl rfl (by decide) ?_
  refine y_jle rfl rfl rfl (by decide) (fun g3 => ?_) (fun g3 => absurd g3 (by decide))
  refine y_ld (x := iv 4) rfl rfl (fun d => rfl) ?_
  refine y_st (lv' := [(5, iv 4), (0, .ref 8), (1, iv 4), (2, iv 2), (3, .int x), (4, iv 0)]) rfl rfl (fun d => rfl) ?_
  refine y_ic rfl rfl ?_
  refine y_st (lv' := [(6, iv 0), (5, iv 4), (0, .ref 8), (1, iv 4), (2, iv 2), (3, .int x), (4, iv 0)]) rfl rfl (fun d => rfl) ?_
  refine y_ld (x := iv 0) rfl rfl (fun d => rfl) ?_
  refine y_bi rfl rfl (by decide) ?_
  refine y_jge rfl rfl rfl (by decide) (fun g4 => absurd g4 (by decide)) (fun g4 => ?_)
  refine y_ld (x := iv 4) rfl rfl (fun d => rfl) ?_
  refine y_zle rfl rfl rfl (by decide) (fun g5 => absurd g5 (by decide)) (fun g5 => ?_)
  refine y_in rfl rfl (fun d => rfl) ?_
  refine y_ld (x := iv 4) rfl rfl (fun d => rfl) ?_
  refine y_ic rfl rfl ?_
  refine y_mul (z := 12) rfl rfl rfl ?_
  refine y_ld (x := iv 2) rfl rfl (fun d => rfl) ?_
  refine y_add (z := 14) rfl rfl rfl ?_
  refine y_sti (n := 1) (i := 14) (f := 41) rfl rfl hXb h3X (by decide) rfl rfl ?_
  refine y_zeq rfl rfl rfl (by decide) (fun g6 => absurd g6 (by decide)) (fun g6 => ?_)
  refine y_go rfl rfl ?_
  refine y_in rfl rfl (fun d => rfl) ?_
  refine y_ld (x := iv 4) rfl rfl (fun d => rfl) ?_
  refine y_ic rfl rfl ?_
  refine y_mul (z := 12) rfl rfl rfl ?_
  refine y_ld (x := iv 2) rfl rfl (fun d => rfl) ?_
  refine y_add (z := 14) rfl rfl rfl ?_
  refine y_sti (n := 1) (i := 14) (f := 41) rfl rfl hXb h3X (by decide) rfl rfl ?_
  refine y_st (lv' := [(6, iv 41), (5, iv 4), (0, .ref 8), (1, iv 4), (2, iv 2), (3, .int x), (4, iv 0)]) rfl rfl (fun d => rfl) ?_
  refine y_ld (x := .ref 8) rfl rfl (fun d => rfl) ?_
  refine y_gI (i := 1) (e := 0) rfl rfl rfl (hC 8 _ _ rfl) rfl rfl ?_
  refine y_bi rfl rfl (by decide) ?_
  refine y_jge rfl rfl rfl (by decide) (fun g7 => absurd g7 (by decide)) (fun g7 => ?_)
  refine y_ld (x := .ref 8) rfl rfl (fun d => rfl) ?_
  refine y_gR (i := 0) rfl rfl rfl (hC 8 _ _ rfl) rfl ?_
  refine y_ld (x := .ref 8) rfl rfl (fun d => rfl) ?_
  refine y_gI (i := 1) (e := 0) rfl rfl rfl (hC 8 _ _ rfl) rfl rfl ?_
  refine y_ld (x := iv 41) rfl rfl (fun d => rfl) ?_
  refine y_ist (q := 0) rfl rfl (cl_ia hC (k := 9) (N := 20) rfl) (by decide) (by decide) rfl ?_
  refine y_ld (x := .ref 8) rfl rfl (fun d => rfl) ?_
  refine y_in rfl rfl (fun d => rfl) ?_
  refine y_gI (i := 1) (e := 0) rfl rfl rfl (hC 8 _ _ rfl) rfl rfl ?_
  refine y_ic rfl rfl ?_
  refine y_add (z := 1) rfl rfl rfl ?_
  refine y_pI (i := 1) rfl rfl rfl (hC 8 _ _ rfl) rfl rfl ?_
  refine y_ld (x := .ref 8) rfl rfl (fun d => rfl) ?_
  refine y_ld (x := iv 41) rfl rfl (fun d => rfl) ?_
  refine y_in rfl rfl (fun d => rfl) ?_
  refine y_ld (x := iv 4) rfl rfl (fun d => rfl) ?_
  refine y_sti (n := 2) (i := 4) (f := 1) rfl rfl hXa h3X (by decide) rfl rfl ?_
  refine y_ld (x := .int x) rfl rfl (fun d => rfl) ?_
  refine y_ld (x := iv 0) rfl rfl (fun d => rfl) ?_
  refine y_ic rfl rfl ?_
  refine y_add (z := 1) rfl rfl rfl ?_
  refine y_cV (D' := 28) (as := [.ref 8, iv 41, iv 1, .int x, iv 1]) rfl rfl rfl rfl rfl (hC 8 _ _ rfl) ⟨rfl, (Nat.le_of_ble_eq_true rfl), (Nat.le_of_ble_eq_true rfl)⟩ (by decide) ?_
  refine y_ent (lv' := [(0, .ref 8), (1, iv 41), (2, iv 1), (3, .int x), (4, iv 1)]) (Nat.le_of_ble_eq_true rfl) rfl ?_
  refine y_ld (x := iv 41) rfl rfl (fun d => rfl) ?_
  refine y_in (pc' := 159) rfl rfl (fun d => rfl) ?_
  refine y_ld (x := .ref 8) rfl rfl (fun d => rfl) ?_
  refine y_ld (x := iv 1) rfl rfl (fun d => rfl) ?_
  refine y_ic rfl rfl ?_
  refine y_ld (x := .int x) rfl rfl (fun d => rfl) ?_
  refine y_ic rfl rfl ?_
  refine y_in rfl rfl (fun d => rfl) ?_
  refine y_ld (x := iv 1) rfl rfl (fun d => rfl) ?_
  refine y_cV (D' := 27) (as := [.ref 8, iv 1, iv 2, .int (x - (Int32.ofInt 1)), iv 1]) rfl rfl rfl rfl rfl (hC 8 _ _ rfl) ⟨rfl, (Nat.le_of_ble_eq_true rfl), (Nat.le_of_ble_eq_true rfl)⟩ (by decide) ?_
  refine y_ent (lv' := [(0, .ref 8), (1, iv 1), (2, iv 2), (3, .int (x - (Int32.ofInt 1))), (4, iv 1)]) (Nat.le_of_ble_eq_true rfl) rfl ?_
  refine y_ld (x := iv 1) rfl rfl (fun d => rfl) ?_
  refine y_zlt rfl rfl rfl (by decide) (fun g8 => absurd g8 (by decide)) (fun g8 => ?_)
  refine y_ld (x := iv 1) rfl rfl (fun d => rfl) ?_
  refine y_bi rfl rfl (by decide) ?_
  refine y_jge rfl rfl rfl (by decide) (fun g9 => absurd g9 (by decide)) (fun g9 => ?_)
  refine y_ld (x := iv 1) rfl rfl (fun d => rfl) ?_
  refine y_bi rfl rfl (by decide) ?_
  refine y_jle rfl rfl rfl (by decide) (fun g10 => ?_) (fun g10 => absurd g10 (by decide))
  refine y_ld (x := iv 1) rfl rfl (fun d => rfl) ?_
  refine y_st (lv' := [(5, iv 1), (0, .ref 8), (1, iv 1), (2, iv 2), (3, .int (x - (Int32.ofInt 1))), (4, iv 1)]) rfl rfl (fun d => rfl) ?_
  refine y_ic rfl rfl ?_
  refine y_st (lv' := [(6, iv 0), (5, iv 1), (0, .ref 8), (1, iv 1), (2, iv 2), (3, .int (x - (Int32.ofInt 1))), (4, iv 1)]) rfl rfl (fun d => rfl) ?_
  refine y_ld (x := iv 0) rfl rfl (fun d => rfl) ?_
  refine y_bi rfl rfl (by decide) ?_
  refine y_jge rfl rfl rfl (by decide) (fun g11 => absurd g11 (by decide)) (fun g11 => ?_)
  refine y_ld (x := iv 1) rfl rfl (fun d => rfl) ?_
  refine y_zle rfl rfl rfl (by decide) (fun g12 => absurd g12 (by decide)) (fun g12 => ?_)
  refine y_in rfl rfl (fun d => rfl) ?_
  refine y_ld (x := iv 1) rfl rfl (fun d => rfl) ?_
  refine y_ic rfl rfl ?_
  refine y_mul (z := 3) rfl rfl rfl ?_
  refine y_ld (x := iv 2) rfl rfl (fun d => rfl) ?_
  refine y_add (z := 5) rfl rfl rfl ?_
  refine y_sti (n := 1) (i := 5) (f := 0) rfl rfl hXb h3X (by decide) rfl rfl ?_
  refine y_zeq rfl rfl rfl (by decide) (fun g13 => ?_) (fun g13 => absurd g13 (by decide))
  refine y_in rfl rfl (fun d => rfl) ?_
  refine y_ld (x := iv 1) rfl rfl (fun d => rfl) ?_
  refine y_sti (n := 2) (i := 1) (f := 0) rfl rfl hXa h3X (by decide) rfl rfl ?_
  refine y_st (lv' := [(5, iv 0), (6, iv 0), (0, .ref 8), (1, iv 1), (2, iv 2), (3, .int (x - (Int32.ofInt 1))), (4, iv 1)]) rfl rfl (fun d => rfl) ?_
  refine y_inc (z := 1) (lv' := [(6, iv 1), (5, iv 0), (0, .ref 8), (1, iv 1), (2, iv 2), (3, .int (x - (Int32.ofInt 1))), (4, iv 1)]) rfl rfl rfl rfl rfl ?_
  refine y_go rfl rfl ?_
  refine y_ld (x := iv 1) rfl rfl (fun d => rfl) ?_
  refine y_bi rfl rfl (by decide) ?_
  refine y_jge rfl rfl rfl (by decide) (fun g14 => absurd g14 (by decide)) (fun g14 => ?_)
  refine y_ld (x := iv 0) rfl rfl (fun d => rfl) ?_
  refine y_zle rfl rfl rfl (by decide) (fun g15 => ?_) (fun g15 => absurd g15 (by decide))
  refine y_in rfl rfl (fun d => rfl) ?_
  refine y_ld (x := iv 0) rfl rfl (fun d => rfl) ?_
  refine y_ic rfl rfl ?_
  refine y_mul (z := 0) rfl rfl rfl ?_
  refine y_ld (x := iv 2) rfl rfl (fun d => rfl) ?_
  refine y_add (z := 2) rfl rfl rfl ?_
  refine y_sti (n := 1) (i := 2) (f := 3) rfl rfl hXb h3X (by decide) rfl rfl ?_
  refine y_st (lv' := [(6, iv 3), (5, iv 0), (0, .ref 8), (1, iv 1), (2, iv 2), (3, .int (x - (Int32.ofInt 1))), (4, iv 1)]) rfl rfl (fun d => rfl) ?_
  refine y_ld (x := .ref 8) rfl rfl (fun d => rfl) ?_
  refine y_gI (i := 1) (e := 1) rfl rfl rfl (hC 8 _ _ rfl) rfl rfl ?_
  refine y_bi rfl rfl (by decide) ?_
  refine y_jge rfl rfl rfl (by decide) (fun g16 => absurd g16 (by decide)) (fun g16 => ?_)
  refine y_ld (x := .ref 8) rfl rfl (fun d => rfl) ?_
  refine y_gR (i := 0) rfl rfl rfl (hC 8 _ _ rfl) rfl ?_
  refine y_ld (x := .ref 8) rfl rfl (fun d => rfl) ?_
  refine y_gI (i := 1) (e := 1) rfl rfl rfl (hC 8 _ _ rfl) rfl rfl ?_
  refine y_ld (x := iv 3) rfl rfl (fun d => rfl) ?_
  refine y_ist (q := 1) rfl rfl (cl_ia hC (k := 9) (N := 20) rfl) (by decide) (by decide) rfl ?_
  refine y_ld (x := .ref 8) rfl rfl (fun d => rfl) ?_
  refine y_in rfl rfl (fun d => rfl) ?_
  refine y_gI (i := 1) (e := 1) rfl rfl rfl (hC 8 _ _ rfl) rfl rfl ?_
  refine y_ic rfl rfl ?_
  refine y_add (z := 2) rfl rfl rfl ?_
  refine y_pI (i := 1) rfl rfl rfl (hC 8 _ _ rfl) rfl rfl ?_
  refine y_ld (x := .ref 8) rfl rfl (fun d => rfl) ?_
  refine y_ld (x := iv 3) rfl rfl (fun d => rfl) ?_
  refine y_in rfl rfl (fun d => rfl) ?_
  refine y_ld (x := iv 0) rfl rfl (fun d => rfl) ?_
  refine y_sti (n := 2) (i := 0) (f := (-1)) rfl rfl hXa h3X (by decide) rfl rfl ?_
  refine y_ld (x := .int (x - (Int32.ofInt 1))) rfl rfl (fun d => rfl) ?_
  refine y_ld (x := iv 1) rfl rfl (fun d => rfl) ?_
  refine y_ic rfl rfl ?_
  refine y_add (z := 2) rfl rfl rfl ?_
  refine y_cV (D' := 26) (as := [.ref 8, iv 3, iv (-1), .int (x - (Int32.ofInt 1)), iv 2]) rfl rfl rfl rfl rfl (hC 8 _ _ rfl) ⟨rfl, (Nat.le_of_ble_eq_true rfl), (Nat.le_of_ble_eq_true rfl)⟩ (by decide) ?_
  refine y_ent (lv' := [(0, .ref 8), (1, iv 3), (2, iv (-1)), (3, .int (x - (Int32.ofInt 1))), (4, iv 2)]) (Nat.le_of_ble_eq_true rfl) rfl ?_
  refine y_ld (x := iv 3) rfl rfl (fun d => rfl) ?_
  refine y_in (pc' := 109) rfl rfl (fun d => rfl) ?_
  refine y_ld (x := .ref 8) rfl rfl (fun d => rfl) ?_
  refine y_ld (x := .ref 8) rfl rfl (fun d => rfl) ?_
  refine y_gI (i := 2) (e := 4) rfl rfl rfl (hC 8 _ _ rfl) rfl rfl ?_
  refine y_ic rfl rfl ?_
  refine y_ld (x := .int (x - (Int32.ofInt 1))) rfl rfl (fun d => rfl) ?_
  refine y_ld (x := iv 2) rfl rfl (fun d => rfl) ?_
  refine y_cV (D' := 25) (as := [.ref 8, iv 4, iv 1, .int (x - (Int32.ofInt 1)), iv 2]) rfl rfl rfl rfl rfl (hC 8 _ _ rfl) ⟨rfl, (Nat.le_of_ble_eq_true rfl), (Nat.le_of_ble_eq_true rfl)⟩ (by decide) ?_
  refine y_ent (lv' := [(0, .ref 8), (1, iv 4), (2, iv 1), (3, .int (x - (Int32.ofInt 1))), (4, iv 2)]) (Nat.le_of_ble_eq_true rfl) rfl ?_
  refine y_ld (x := iv 4) rfl rfl (fun d => rfl) ?_
  refine y_zlt rfl rfl rfl (by decide) (fun g17 => absurd g17 (by decide)) (fun g17 => ?_)
  refine y_ld (x := iv 4) rfl rfl (fun d => rfl) ?_
  refine y_bi rfl rfl (by decide) ?_
  refine y_jge rfl rfl rfl (by decide) (fun g18 => absurd g18 (by decide)) (fun g18 => ?_)
  refine y_ld (x := iv 2) rfl rfl (fun d => rfl) ?_
  refine y_bi rfl rfl (by decide) ?_
  refine y_jle rfl rfl rfl (by decide) (fun g19 => ?_) (fun g19 => absurd g19 (by decide))
  refine y_ld (x := iv 4) rfl rfl (fun d => rfl) ?_
  refine y_st (lv' := [(5, iv 4), (0, .ref 8), (1, iv 4), (2, iv 1), (3, .int (x - (Int32.ofInt 1))), (4, iv 2)]) rfl rfl (fun d => rfl) ?_
  refine y_ic rfl rfl ?_
  refine y_st (lv' := [(6, iv 0), (5, iv 4), (0, .ref 8), (1, iv 4), (2, iv 1), (3, .int (x - (Int32.ofInt 1))), (4, iv 2)]) rfl rfl (fun d => rfl) ?_
  refine y_ld (x := iv 0) rfl rfl (fun d => rfl) ?_
  refine y_bi rfl rfl (by decide) ?_
  refine y_jge rfl rfl rfl (by decide) (fun g20 => absurd g20 (by decide)) (fun g20 => ?_)
  refine y_ld (x := iv 4) rfl rfl (fun d => rfl) ?_
  refine y_zle rfl rfl rfl (by decide) (fun g21 => absurd g21 (by decide)) (fun g21 => ?_)
  refine y_in rfl rfl (fun d => rfl) ?_
  refine y_ld (x := iv 4) rfl rfl (fun d => rfl) ?_
  refine y_ic rfl rfl ?_
  refine y_mul (z := 12) rfl rfl rfl ?_
  refine y_ld (x := iv 1) rfl rfl (fun d => rfl) ?_
  refine y_add (z := 13) rfl rfl rfl ?_
  refine y_sti (n := 1) (i := 13) (f := 0) rfl rfl hXb h3X (by decide) rfl rfl ?_
  refine y_zeq rfl rfl rfl (by decide) (fun g22 => ?_) (fun g22 => absurd g22 (by decide))
  refine y_in rfl rfl (fun d => rfl) ?_
  refine y_ld (x := iv 4) rfl rfl (fun d => rfl) ?_
  refine y_sti (n := 2) (i := 4) (f := 1) rfl rfl hXa h3X (by decide) rfl rfl ?_
  refine y_st (lv' := [(5, iv 1), (6, iv 0), (0, .ref 8), (1, iv 4), (2, iv 1), (3, .int (x - (Int32.ofInt 1))), (4, iv 2)]) rfl rfl (fun d => rfl) ?_
  refine y_inc (z := 1) (lv' := [(6, iv 1), (5, iv 1), (0, .ref 8), (1, iv 4), (2, iv 1), (3, .int (x - (Int32.ofInt 1))), (4, iv 2)]) rfl rfl rfl rfl rfl ?_
  refine y_go rfl rfl ?_
  refine y_ld (x := iv 1) rfl rfl (fun d => rfl) ?_
  refine y_bi rfl rfl (by decide) ?_
  refine y_jge rfl rfl rfl (by decide) (fun g23 => absurd g23 (by decide)) (fun g23 => ?_)
  refine y_ld (x := iv 1) rfl rfl (fun d => rfl) ?_
  refine y_zle rfl rfl rfl (by decide) (fun g24 => absurd g24 (by decide)) (fun g24 => ?_)
  refine y_in rfl rfl (fun d => rfl) ?_
  refine y_ld (x := iv 1) rfl rfl (fun d => rfl) ?_
  refine y_ic rfl rfl ?_
  refine y_mul (z := 3) rfl rfl rfl ?_
  refine y_ld (x := iv 1) rfl rfl (fun d => rfl) ?_
  refine y_add (z := 4) rfl rfl rfl ?_
  refine y_sti (n := 1) (i := 4) (f := 11) rfl rfl hXb h3X (by decide) rfl rfl ?_
  refine y_zeq rfl rfl rfl (by decide) (fun g25 => absurd g25 (by decide)) (fun g25 => ?_)
  refine y_go rfl rfl ?_
  refine y_in rfl rfl (fun d => rfl) ?_
  refine y_ld (x := iv 1) rfl rfl (fun d => rfl) ?_
  refine y_ic rfl rfl ?_
  refine y_mul (z := 3) rfl rfl rfl ?_
  refine y_ld (x := iv 1) rfl rfl (fun d => rfl) ?_
  refine y_add (z := 4) rfl rfl rfl ?_
  refine y_sti (n := 1) (i := 4) (f := 11) rfl rfl hXb h3X (by decide) rfl rfl ?_
  refine y_st (lv' := [(6, iv 11), (5, iv 1), (0, .ref 8), (1, iv 4), (2, iv 1), (3, .int (x - (Int32.ofInt 1))), (4, iv 2)]) rfl rfl (fun d => rfl) ?_
  refine y_ld (x := .ref 8) rfl rfl (fun d => rfl) ?_
  refine y_gI (i := 1) (e := 2) rfl rfl rfl (hC 8 _ _ rfl) rfl rfl ?_
  refine y_bi rfl rfl (by decide) ?_
  refine y_jge rfl rfl rfl (by decide) (fun g26 => absurd g26 (by decide)) (fun g26 => ?_)
  refine y_ld (x := .ref 8) rfl rfl (fun d => rfl) ?_
  refine y_gR (i := 0) rfl rfl rfl (hC 8 _ _ rfl) rfl ?_
  refine y_ld (x := .ref 8) rfl rfl (fun d => rfl) ?_
  refine y_gI (i := 1) (e := 2) rfl rfl rfl (hC 8 _ _ rfl) rfl rfl ?_
  refine y_ld (x := iv 11) rfl rfl (fun d => rfl) ?_
  refine y_ist (q := 2) rfl rfl (cl_ia hC (k := 9) (N := 20) rfl) (by decide) (by decide) rfl ?_
  refine y_ld (x := .ref 8) rfl rfl (fun d => rfl) ?_
  refine y_in rfl rfl (fun d => rfl) ?_
  refine y_gI (i := 1) (e := 2) rfl rfl rfl (hC 8 _ _ rfl) rfl rfl ?_
  refine y_ic rfl rfl ?_
  refine y_add (z := 3) rfl rfl rfl ?_
  refine y_pI (i := 1) rfl rfl rfl (hC 8 _ _ rfl) rfl rfl ?_
  refine y_ld (x := .ref 8) rfl rfl (fun d => rfl) ?_
  refine y_ld (x := iv 11) rfl rfl (fun d => rfl) ?_
  refine y_in rfl rfl (fun d => rfl) ?_
  refine y_ld (x := iv 1) rfl rfl (fun d => rfl) ?_
  refine y_sti (n := 2) (i := 1) (f := 0) rfl rfl hXa h3X (by decide) rfl rfl ?_
  refine y_ld (x := .int (x - (Int32.ofInt 1))) rfl rfl (fun d => rfl) ?_
  refine y_ld (x := iv 2) rfl rfl (fun d => rfl) ?_
  refine y_ic rfl rfl ?_
  refine y_add (z := 3) rfl rfl rfl ?_
  refine y_cV (D' := 24) (as := [.ref 8, iv 11, iv 0, .int (x - (Int32.ofInt 1)), iv 3]) rfl rfl rfl rfl rfl (hC 8 _ _ rfl) ⟨rfl, (Nat.le_of_ble_eq_true rfl), (Nat.le_of_ble_eq_true rfl)⟩ (by decide) ?_
  refine y_ent (lv' := [(0, .ref 8), (1, iv 11), (2, iv 0), (3, .int (x - (Int32.ofInt 1))), (4, iv 3)]) (Nat.le_of_ble_eq_true rfl) rfl ?_
  refine y_ld (x := iv 11) rfl rfl (fun d => rfl) ?_
  refine y_in (pc' := 124) rfl rfl (fun d => rfl) ?_
  refine y_ld (x := .ref 8) rfl rfl (fun d => rfl) ?_
  refine y_ld (x := iv 0) rfl rfl (fun d => rfl) ?_
  refine y_ic rfl rfl ?_
  refine y_ld (x := .int (x - (Int32.ofInt 1))) rfl rfl (fun d => rfl) ?_
  refine y_ic rfl rfl ?_
  refine y_in rfl rfl (fun d => rfl) ?_
  refine y_ld (x := iv 3) rfl rfl (fun d => rfl) ?_
  refine y_cV (D' := 23) (as := [.ref 8, iv 0, iv 1, .int ((x - (Int32.ofInt 1)) * (Int32.ofInt 3)), iv 3]) rfl rfl rfl rfl rfl (hC 8 _ _ rfl) ⟨rfl, (Nat.le_of_ble_eq_true rfl), (Nat.le_of_ble_eq_true rfl)⟩ (by decide) ?_
  refine y_ent (lv' := [(0, .ref 8), (1, iv 0), (2, iv 1), (3, .int ((x - (Int32.ofInt 1)) * (Int32.ofInt 3))), (4, iv 3)]) (Nat.le_of_ble_eq_true rfl) rfl ?_
  refine y_ld (x := iv 0) rfl rfl (fun d => rfl) ?_
  refine y_zlt rfl rfl rfl (by decide) (fun g27 => absurd g27 (by decide)) (fun g27 => ?_)
  refine y_ld (x := iv 0) rfl rfl (fun d => rfl) ?_
  refine y_bi rfl rfl (by decide) ?_
  refine y_jge rfl rfl rfl (by decide) (fun g28 => absurd g28 (by decide)) (fun g28 => ?_)
  refine y_ld (x := iv 3) rfl rfl (fun d => rfl) ?_
  refine y_bi rfl rfl (by decide) ?_
  refine y_jle rfl rfl rfl (by decide) (fun g29 => ?_) (fun g29 => absurd g29 (by decide))
  refine y_ld (x := iv 0) rfl rfl (fun d => rfl) ?_
  refine y_st (lv' := [(5, iv 0), (0, .ref 8), (1, iv 0), (2, iv 1), (3, .int ((x - (Int32.ofInt 1)) * (Int32.ofInt 3))), (4, iv 3)]) rfl rfl (fun d => rfl) ?_
  refine y_ic rfl rfl ?_
  refine y_st (lv' := [(6, iv 0), (5, iv 0), (0, .ref 8), (1, iv 0), (2, iv 1), (3, .int ((x - (Int32.ofInt 1)) * (Int32.ofInt 3))), (4, iv 3)]) rfl rfl (fun d => rfl) ?_
  refine y_ld (x := iv 0) rfl rfl (fun d => rfl) ?_
  refine y_bi rfl rfl (by decide) ?_
  refine y_jge rfl rfl rfl (by decide) (fun g30 => absurd g30 (by decide)) (fun g30 => ?_)
  refine y_ld (x := iv 0) rfl rfl (fun d => rfl) ?_
  refine y_zle rfl rfl rfl (by decide) (fun g31 => ?_) (fun g31 => absurd g31 (by decide))
  refine y_in rfl rfl (fun d => rfl) ?_
  refine y_ld (x := iv 0) rfl rfl (fun d => rfl) ?_
  refine y_ic rfl rfl ?_
  refine y_mul (z := 0) rfl rfl rfl ?_
  refine y_ld (x := iv 1) rfl rfl (fun d => rfl) ?_
  refine y_add (z := 1) rfl rfl rfl ?_
  refine y_sti (n := 1) (i := 1) (f := 2) rfl rfl hXb h3X (by decide) rfl rfl ?_
  refine y_st (lv' := [(6, iv 2), (5, iv 0), (0, .ref 8), (1, iv 0), (2, iv 1), (3, .int ((x - (Int32.ofInt 1)) * (Int32.ofInt 3))), (4, iv 3)]) rfl rfl (fun d => rfl) ?_
  refine y_ld (x := .ref 8) rfl rfl (fun d => rfl) ?_
  refine y_gI (i := 1) (e := 3) rfl rfl rfl (hC 8 _ _ rfl) rfl rfl ?_
  refine y_bi rfl rfl (by decide) ?_
  refine y_jge rfl rfl rfl (by decide) (fun g32 => absurd g32 (by decide)) (fun g32 => ?_)
  refine y_ld (x := .ref 8) rfl rfl (fun d => rfl) ?_
  refine y_gR (i := 0) rfl rfl rfl (hC 8 _ _ rfl) rfl ?_
  refine y_ld (x := .ref 8) rfl rfl (fun d => rfl) ?_
  refine y_gI (i := 1) (e := 3) rfl rfl rfl (hC 8 _ _ rfl) rfl rfl ?_
  refine y_ld (x := iv 2) rfl rfl (fun d => rfl) ?_
  refine y_ist (q := 3) rfl rfl (cl_ia hC (k := 9) (N := 20) rfl) (by decide) (by decide) rfl ?_
  refine y_ld (x := .ref 8) rfl rfl (fun d => rfl) ?_
  refine y_in rfl rfl (fun d => rfl) ?_
  refine y_gI (i := 1) (e := 3) rfl rfl rfl (hC 8 _ _ rfl) rfl rfl ?_
  refine y_ic rfl rfl ?_
  refine y_add (z := 4) rfl rfl rfl ?_
  refine y_pI (i := 1) rfl rfl rfl (hC 8 _ _ rfl) rfl rfl ?_
  refine y_ld (x := .ref 8) rfl rfl (fun d => rfl) ?_
  refine y_ld (x := iv 2) rfl rfl (fun d => rfl) ?_
  refine y_in rfl rfl (fun d => rfl) ?_
  refine y_ld (x := iv 0) rfl rfl (fun d => rfl) ?_
  refine y_sti (n := 2) (i := 0) (f := (-1)) rfl rfl hXa h3X (by decide) rfl rfl ?_
  refine y_ld (x := .int ((x - (Int32.ofInt 1)) * (Int32.ofInt 3))) rfl rfl (fun d => rfl) ?_
  refine y_ld (x := iv 3) rfl rfl (fun d => rfl) ?_
  refine y_ic rfl rfl ?_
  refine y_add (z := 4) rfl rfl rfl ?_
  refine y_cV (D' := 22) (as := [.ref 8, iv 2, iv (-1), .int ((x - (Int32.ofInt 1)) * (Int32.ofInt 3)), iv 4]) rfl rfl rfl rfl rfl (hC 8 _ _ rfl) ⟨rfl, (Nat.le_of_ble_eq_true rfl), (Nat.le_of_ble_eq_true rfl)⟩ (by decide) ?_
  refine y_ent (lv' := [(0, .ref 8), (1, iv 2), (2, iv (-1)), (3, .int ((x - (Int32.ofInt 1)) * (Int32.ofInt 3))), (4, iv 4)]) (Nat.le_of_ble_eq_true rfl) rfl ?_
  refine y_ld (x := iv 2) rfl rfl (fun d => rfl) ?_
  refine y_in (pc' := 91) rfl rfl (fun d => rfl) ?_
  refine y_ld (x := .ref 8) rfl rfl (fun d => rfl) ?_
  refine y_ld (x := .ref 8) rfl rfl (fun d => rfl) ?_
  refine y_gI (i := 2) (e := 4) rfl rfl rfl (hC 8 _ _ rfl) rfl rfl ?_
  refine y_ic rfl rfl ?_
  refine y_ld (x := .int ((x - (Int32.ofInt 1)) * (Int32.ofInt 3))) rfl rfl (fun d => rfl) ?_
  refine y_ld (x := iv 4) rfl rfl (fun d => rfl) ?_
  refine y_cV (D' := 21) (as := [.ref 8, iv 4, iv 0, .int ((x - (Int32.ofInt 1)) * (Int32.ofInt 3)), iv 4]) rfl rfl rfl rfl rfl (hC 8 _ _ rfl) ⟨rfl, (Nat.le_of_ble_eq_true rfl), (Nat.le_of_ble_eq_true rfl)⟩ (by decide) ?_
  refine y_ent (lv' := [(0, .ref 8), (1, iv 4), (2, iv 0), (3, .int ((x - (Int32.ofInt 1)) * (Int32.ofInt 3))), (4, iv 4)]) (Nat.le_of_ble_eq_true rfl) rfl ?_
  refine y_ld (x := iv 4) rfl rfl (fun d => rfl) ?_
  refine y_zlt rfl rfl rfl (by decide) (fun g33 => absurd g33 (by decide)) (fun g33 => ?_)
  refine y_ld (x := iv 4) rfl rfl (fun d => rfl) ?_
  refine y_bi rfl rfl (by decide) ?_
  refine y_jge rfl rfl rfl (by decide) (fun g34 => absurd g34 (by decide)) (fun g34 => ?_)
  refine y_ld (x := iv 4) rfl rfl (fun d => rfl) ?_
  refine y_bi rfl rfl (by decide) ?_
  refine y_jle rfl rfl rfl (by decide) (fun g35 => ?_) (fun g35 => absurd g35 (by decide))
  refine y_ld (x := iv 4) rfl rfl (fun d => rfl) ?_
  refine y_st (lv' := [(5, iv 4), (0, .ref 8), (1, iv 4), (2, iv 0), (3, .int ((x - (Int32.ofInt 1)) * (Int32.ofInt 3))), (4, iv 4)]) rfl rfl (fun d => rfl) ?_
  refine y_ic rfl rfl ?_
  refine y_st (lv' := [(6, iv 0), (5, iv 4), (0, .ref 8), (1, iv 4), (2, iv 0), (3, .int ((x - (Int32.ofInt 1)) * (Int32.ofInt 3))), (4, iv 4)]) rfl rfl (fun d => rfl) ?_
  refine y_ld (x := iv 0) rfl rfl (fun d => rfl) ?_
  refine y_bi rfl rfl (by decide) ?_
  refine y_jge rfl rfl rfl (by decide) (fun g36 => absurd g36 (by decide)) (fun g36 => ?_)
  refine y_ld (x := iv 4) rfl rfl (fun d => rfl) ?_
  refine y_zle rfl rfl rfl (by decide) (fun g37 => absurd g37 (by decide)) (fun g37 => ?_)
  refine y_in rfl rfl (fun d => rfl) ?_
  refine y_ld (x := iv 4) rfl rfl (fun d => rfl) ?_
  refine y_ic rfl rfl ?_
  refine y_mul (z := 12) rfl rfl rfl ?_
  refine y_ld (x := iv 0) rfl rfl (fun d => rfl) ?_
  refine y_add (z := 12) rfl rfl rfl ?_
  refine y_sti (n := 1) (i := 12) (f := 0) rfl rfl hXb h3X (by decide) rfl rfl ?_
  refine y_zeq rfl rfl rfl (by decide) (fun g38 => ?_) (fun g38 => absurd g38 (by decide))
  refine y_in rfl rfl (fun d => rfl) ?_
  refine y_ld (x := iv 4) rfl rfl (fun d => rfl) ?_
  refine y_sti (n := 2) (i := 4) (f := 1) rfl rfl hXa h3X (by decide) rfl rfl ?_
  refine y_st (lv' := [(5, iv 1), (6, iv 0), (0, .ref 8), (1, iv 4), (2, iv 0), (3, .int ((x - (Int32.ofInt 1)) * (Int32.ofInt 3))), (4, iv 4)]) rfl rfl (fun d => rfl) ?_
  refine y_inc (z := 1) (lv' := [(6, iv 1), (5, iv 1), (0, .ref 8), (1, iv 4), (2, iv 0), (3, .int ((x - (Int32.ofInt 1)) * (Int32.ofInt 3))), (4, iv 4)]) rfl rfl rfl rfl rfl ?_
  refine y_go rfl rfl ?_
  refine y_ld (x := iv 1) rfl rfl (fun d => rfl) ?_
  refine y_bi rfl rfl (by decide) ?_
  refine y_jge rfl rfl rfl (by decide) (fun g39 => absurd g39 (by decide)) (fun g39 => ?_)
  refine y_ld (x := iv 1) rfl rfl (fun d => rfl) ?_
  refine y_zle rfl rfl rfl (by decide) (fun g40 => absurd g40 (by decide)) (fun g40 => ?_)
  refine y_in rfl rfl (fun d => rfl) ?_
  refine y_ld (x := iv 1) rfl rfl (fun d => rfl) ?_
  refine y_ic rfl rfl ?_
  refine y_mul (z := 3) rfl rfl rfl ?_
  refine y_ld (x := iv 0) rfl rfl (fun d => rfl) ?_
  refine y_add (z := 3) rfl rfl rfl ?_
  refine y_sti (n := 1) (i := 3) (f := 0) rfl rfl hXb h3X (by decide) rfl rfl ?_
  refine y_zeq rfl rfl rfl (by decide) (fun g41 => ?_) (fun g41 => absurd g41 (by decide))
  refine y_in rfl rfl (fun d => rfl) ?_
  refine y_ld (x := iv 1) rfl rfl (fun d => rfl) ?_
  refine y_sti (n := 2) (i := 1) (f := 0) rfl rfl hXa h3X (by decide) rfl rfl ?_
  refine y_st (lv' := [(5, iv 0), (6, iv 1), (0, .ref 8), (1, iv 4), (2, iv 0), (3, .int ((x - (Int32.ofInt 1)) * (Int32.ofInt 3))), (4, iv 4)]) rfl rfl (fun d => rfl) ?_
  refine y_inc (z := 2) (lv' := [(6, iv 2), (5, iv 0), (0, .ref 8), (1, iv 4), (2, iv 0), (3, .int ((x - (Int32.ofInt 1)) * (Int32.ofInt 3))), (4, iv 4)]) rfl rfl rfl rfl rfl ?_
  refine y_go rfl rfl ?_
  refine y_ld (x := iv 2) rfl rfl (fun d => rfl) ?_
  refine y_bi rfl rfl (by decide) ?_
  refine y_jge rfl rfl rfl (by decide) (fun g42 => absurd g42 (by decide)) (fun g42 => ?_)
  refine y_ld (x := iv 0) rfl rfl (fun d => rfl) ?_
  refine y_zle rfl rfl rfl (by decide) (fun g43 => ?_) (fun g43 => absurd g43 (by decide))
  refine y_in rfl rfl (fun d => rfl) ?_
  refine y_ld (x := iv 0) rfl rfl (fun d => rfl) ?_
  refine y_ic rfl rfl ?_
  refine y_mul (z := 0) rfl rfl rfl ?_
  refine y_ld (x := iv 0) rfl rfl (fun d => rfl) ?_
  refine y_add (z := 0) rfl rfl rfl ?_
  refine y_sti (n := 1) (i := 0) (f := 1) rfl rfl hXb h3X (by decide) rfl rfl ?_
  refine y_st (lv' := [(6, iv 1), (5, iv 0), (0, .ref 8), (1, iv 4), (2, iv 0), (3, .int ((x - (Int32.ofInt 1)) * (Int32.ofInt 3))), (4, iv 4)]) rfl rfl (fun d => rfl) ?_
  refine y_ld (x := .ref 8) rfl rfl (fun d => rfl) ?_
  refine y_gI (i := 1) (e := 4) rfl rfl rfl (hC 8 _ _ rfl) rfl rfl ?_
  refine y_bi rfl rfl (by decide) ?_
  refine y_jge rfl rfl rfl (by decide) (fun g44 => absurd g44 (by decide)) (fun g44 => ?_)
  refine y_ld (x := .ref 8) rfl rfl (fun d => rfl) ?_
  refine y_gR (i := 0) rfl rfl rfl (hC 8 _ _ rfl) rfl ?_
  refine y_ld (x := .ref 8) rfl rfl (fun d => rfl) ?_
  refine y_gI (i := 1) (e := 4) rfl rfl rfl (hC 8 _ _ rfl) rfl rfl ?_
  refine y_ld (x := iv 1) rfl rfl (fun d => rfl) ?_
  refine y_ist (q := 4) rfl rfl (cl_ia hC (k := 9) (N := 20) rfl) (by decide) (by decide) rfl ?_
  refine y_ld (x := .ref 8) rfl rfl (fun d => rfl) ?_
  refine y_in rfl rfl (fun d => rfl) ?_
  refine y_gI (i := 1) (e := 4) rfl rfl rfl (hC 8 _ _ rfl) rfl rfl ?_
  refine y_ic rfl rfl ?_
  refine y_add (z := 5) rfl rfl rfl ?_
  refine y_pI (i := 1) rfl rfl rfl (hC 8 _ _ rfl) rfl rfl ?_
  refine y_ld (x := .ref 8) rfl rfl (fun d => rfl) ?_
  refine y_ld (x := iv 1) rfl rfl (fun d => rfl) ?_
  refine y_in rfl rfl (fun d => rfl) ?_
  refine y_ld (x := iv 0) rfl rfl (fun d => rfl) ?_
  refine y_sti (n := 2) (i := 0) (f := (-1)) rfl rfl hXa h3X (by decide) rfl rfl ?_
  refine y_ld (x := .int ((x - (Int32.ofInt 1)) * (Int32.ofInt 3))) rfl rfl (fun d => rfl) ?_
  refine y_ld (x := iv 4) rfl rfl (fun d => rfl) ?_
  refine y_ic rfl rfl ?_
  refine y_add (z := 5) rfl rfl rfl ?_
  refine y_cV (D' := 20) (as := [.ref 8, iv 1, iv (-1), .int ((x - (Int32.ofInt 1)) * (Int32.ofInt 3)), iv 5]) rfl rfl rfl rfl rfl (hC 8 _ _ rfl) ⟨rfl, (Nat.le_of_ble_eq_true rfl), (Nat.le_of_ble_eq_true rfl)⟩ (by decide) ?_
  refine y_ent (lv' := [(0, .ref 8), (1, iv 1), (2, iv (-1)), (3, .int ((x - (Int32.ofInt 1)) * (Int32.ofInt 3))), (4, iv 5)]) (Nat.le_of_ble_eq_true rfl) rfl ?_
  refine y_ld (x := iv 1) rfl rfl (fun d => rfl) ?_
  refine y_in (pc' := 84) rfl rfl (fun d => rfl) ?_
  refine y_ld (x := .int ((x - (Int32.ofInt 1)) * (Int32.ofInt 3))) rfl rfl (fun d => rfl) ?_
  refine y_ld (x := .ref 8) rfl rfl (fun d => rfl) ?_
  refine y_gI (i := 3) (e := nb) rfl rfl rfl (hC 8 _ _ rfl) rfl rfl ?_
  refine y_in rfl rfl (fun d => rfl) ?_
  refine y_ret rfl (fun d => rfl) ?_
  refine y_nv ?_
  refine y_ret rfl (fun d => rfl) ?_
  refine y_nv ?_
  refine y_ld (x := .ref 8) rfl rfl (fun d => rfl) ?_
  refine y_gI (i := 4) (e := ln) rfl rfl rfl (hC 8 _ _ rfl) rfl rfl ?_
  refine y_in rfl rfl (fun d => rfl) ?_
  refine y_ret rfl (fun d => rfl) ?_
  refine y_nv ?_
  refine y_ret rfl (fun d => rfl) ?_
  refine y_nv ?_
  refine y_ret rfl (fun d => rfl) ?_
  refine y_nv ?_
  refine y_ret rfl (fun d => rfl) ?_
  refine y_nv ?_
  refine y_ic rfl rfl ?_
  refine y_in rfl rfl (fun d => rfl) ?_
  refine y_ret rfl (fun d => rfl) ?_
  refine y_nv ?_
  refine y_ret rfl (fun d => rfl) ?_
  refine y_nv ?_
  refine y_ld (x := .ref 8) rfl rfl (fun d => rfl) ?_
  refine y_ld (x := .ref 8) rfl rfl (fun d => rfl) ?_
  refine y_gI (i := 2) (e := 4) rfl rfl rfl (hC 8 _ _ rfl) rfl rfl ?_
  refine y_ic rfl rfl ?_
  refine y_ic rfl rfl ?_
  refine y_ld (x := iv 1) rfl rfl (fun d => rfl) ?_
  refine y_cV (D' := 27) (as := [.ref 8, iv 4, iv 0, iv 2, iv 1]) rfl rfl rfl rfl rfl (hC 8 _ _ rfl) ⟨rfl, (Nat.le_of_ble_eq_true rfl), (Nat.le_of_ble_eq_true rfl)⟩ (by decide) ?_
  refine y_ent (lv' := [(0, .ref 8), (1, iv 4), (2, iv 0), (3, iv 2), (4, iv 1)]) (Nat.le_of_ble_eq_true rfl) rfl ?_
  refine y_ld (x := iv 4) rfl rfl (fun d => rfl) ?_
  refine y_zlt rfl rfl rfl (by decide) (fun g45 => absurd g45 (by decide)) (fun g45 => ?_)
  refine y_ld (x := iv 4) rfl rfl (fun d => rfl) ?_
  refine y_bi rfl rfl (by decide) ?_
  refine y_jge rfl rfl rfl (by decide) (fun g46 => absurd g46 (by decide)) (fun g46 => ?_)
  refine y_ld (x := iv 1) rfl rfl (fun d => rfl) ?_
  refine y_bi rfl rfl (by decide) ?_
  refine y_jle rfl rfl rfl (by decide) (fun g47 => ?_) (fun g47 => absurd g47 (by decide))
  refine y_ld (x := iv 4) rfl rfl (fun d => rfl) ?_
  refine y_st (lv' := [(5, iv 4), (0, .ref 8), (1, iv 4), (2, iv 0), (3, iv 2), (4, iv 1)]) rfl rfl (fun d => rfl) ?_
  refine y_ic rfl rfl ?_
  refine y_st (lv' := [(6, iv 0), (5, iv 4), (0, .ref 8), (1, iv 4), (2, iv 0), (3, iv 2), (4, iv 1)]) rfl rfl (fun d => rfl) ?_
  refine y_ld (x := iv 0) rfl rfl (fun d => rfl) ?_
  refine y_bi rfl rfl (by decide) ?_
  refine y_jge rfl rfl rfl (by decide) (fun g48 => absurd g48 (by decide)) (fun g48 => ?_)
  refine y_ld (x := iv 4) rfl rfl (fun d => rfl) ?_
  refine y_zle rfl rfl rfl (by decide) (fun g49 => absurd g49 (by decide)) (fun g49 => ?_)
  refine y_in rfl rfl (fun d => rfl) ?_
  refine y_ld (x := iv 4) rfl rfl (fun d => rfl) ?_
  refine y_ic rfl rfl ?_
  refine y_mul (z := 12) rfl rfl rfl ?_
  refine y_ld (x := iv 0) rfl rfl (fun d => rfl) ?_
  refine y_add (z := 12) rfl rfl rfl ?_
  refine y_sti (n := 1) (i := 12) (f := 0) rfl rfl hXb h3X (by decide) rfl rfl ?_
  refine y_zeq rfl rfl rfl (by decide) (fun g50 => ?_) (fun g50 => absurd g50 (by decide))
  refine y_in rfl rfl (fun d => rfl) ?_
  refine y_ld (x := iv 4) rfl rfl (fun d => rfl) ?_
  refine y_sti (n := 2) (i := 4) (f := 1) rfl rfl hXa h3X (by decide) rfl rfl ?_
  refine y_st (lv' := [(5, iv 1), (6, iv 0), (0, .ref 8), (1, iv 4), (2, iv 0), (3, iv 2), (4, iv 1)]) rfl rfl (fun d => rfl) ?_
  refine y_inc (z := 1) (lv' := [(6, iv 1), (5, iv 1), (0, .ref 8), (1, iv 4), (2, iv 0), (3, iv 2), (4, iv 1)]) rfl rfl rfl rfl rfl ?_
  refine y_go rfl rfl ?_
  refine y_ld (x := iv 1) rfl rfl (fun d => rfl) ?_
  refine y_bi rfl rfl (by decide) ?_
  refine y_jge rfl rfl rfl (by decide) (fun g51 => absurd g51 (by decide)) (fun g51 => ?_)
  refine y_ld (x := iv 1) rfl rfl (fun d => rfl) ?_
  refine y_zle rfl rfl rfl (by decide) (fun g52 => absurd g52 (by decide)) (fun g52 => ?_)
  refine y_in rfl rfl (fun d => rfl) ?_
  refine y_ld (x := iv 1) rfl rfl (fun d => rfl) ?_
  refine y_ic rfl rfl ?_
  refine y_mul (z := 3) rfl rfl rfl ?_
  refine y_ld (x := iv 0) rfl rfl (fun d => rfl) ?_
  refine y_add (z := 3) rfl rfl rfl ?_
  refine y_sti (n := 1) (i := 3) (f := 0) rfl rfl hXb h3X (by decide) rfl rfl ?_
  refine y_zeq rfl rfl rfl (by decide) (fun g53 => ?_) (fun g53 => absurd g53 (by decide))
  refine y_in rfl rfl (fun d => rfl) ?_
  refine y_ld (x := iv 1) rfl rfl (fun d => rfl) ?_
  refine y_sti (n := 2) (i := 1) (f := 0) rfl rfl hXa h3X (by decide) rfl rfl ?_
  refine y_st (lv' := [(5, iv 0), (6, iv 1), (0, .ref 8), (1, iv 4), (2, iv 0), (3, iv 2), (4, iv 1)]) rfl rfl (fun d => rfl) ?_
  refine y_inc (z := 2) (lv' := [(6, iv 2), (5, iv 0), (0, .ref 8), (1, iv 4), (2, iv 0), (3, iv 2), (4, iv 1)]) rfl rfl rfl rfl rfl ?_
  refine y_go rfl rfl ?_
  refine y_ld (x := iv 2) rfl rfl (fun d => rfl) ?_
  refine y_bi rfl rfl (by decide) ?_
  refine y_jge rfl rfl rfl (by decide) (fun g54 => absurd g54 (by decide)) (fun g54 => ?_)
  refine y_ld (x := iv 0) rfl rfl (fun d => rfl) ?_
  refine y_zle rfl rfl rfl (by decide) (fun g55 => ?_) (fun g55 => absurd g55 (by decide))
  refine y_in rfl rfl (fun d => rfl) ?_
  refine y_ld (x := iv 0) rfl rfl (fun d => rfl) ?_
  refine y_ic rfl rfl ?_
  refine y_mul (z := 0) rfl rfl rfl ?_
  refine y_ld (x := iv 0) rfl rfl (fun d => rfl) ?_
  refine y_add (z := 0) rfl rfl rfl ?_
  refine y_sti (n := 1) (i := 0) (f := 1) rfl rfl hXb h3X (by decide) rfl rfl ?_
  refine y_st (lv' := [(6, iv 1), (5, iv 0), (0, .ref 8), (1, iv 4), (2, iv 0), (3, iv 2), (4, iv 1)]) rfl rfl (fun d => rfl) ?_
  refine y_ld (x := .ref 8) rfl rfl (fun d => rfl) ?_
  refine y_gI (i := 1) (e := 5) rfl rfl rfl (hC 8 _ _ rfl) rfl rfl ?_
  refine y_bi rfl rfl (by decide) ?_
  refine y_jge rfl rfl rfl (by decide) (fun g56 => absurd g56 (by decide)) (fun g56 => ?_)
  refine y_ld (x := .ref 8) rfl rfl (fun d => rfl) ?_
  refine y_gR (i := 0) rfl rfl rfl (hC 8 _ _ rfl) rfl ?_
  refine y_ld (x := .ref 8) rfl rfl (fun d => rfl) ?_
  refine y_gI (i := 1) (e := 5) rfl rfl rfl (hC 8 _ _ rfl) rfl rfl ?_
  refine y_ld (x := iv 1) rfl rfl (fun d => rfl) ?_
  refine y_ist (q := 5) rfl rfl (cl_ia hC (k := 9) (N := 20) rfl) (by decide) (by decide) rfl ?_
  refine y_ld (x := .ref 8) rfl rfl (fun d => rfl) ?_
  refine y_in rfl rfl (fun d => rfl) ?_
  refine y_gI (i := 1) (e := 5) rfl rfl rfl (hC 8 _ _ rfl) rfl rfl ?_
  refine y_ic rfl rfl ?_
  refine y_add (z := 6) rfl rfl rfl ?_
  refine y_pI (i := 1) rfl rfl rfl (hC 8 _ _ rfl) rfl rfl ?_
  refine y_ld (x := .ref 8) rfl rfl (fun d => rfl) ?_
  refine y_ld (x := iv 1) rfl rfl (fun d => rfl) ?_
  refine y_in rfl rfl (fun d => rfl) ?_
  refine y_ld (x := iv 0) rfl rfl (fun d => rfl) ?_
  refine y_sti (n := 2) (i := 0) (f := (-1)) rfl rfl hXa h3X (by decide) rfl rfl ?_
  refine y_ld (x := iv 2) rfl rfl (fun d => rfl) ?_
  refine y_ld (x := iv 1) rfl rfl (fun d => rfl) ?_
  refine y_ic rfl rfl ?_
  refine y_add (z := 2) rfl rfl rfl ?_
  refine y_cV (D' := 26) (as := [.ref 8, iv 1, iv (-1), iv 2, iv 2]) rfl rfl rfl rfl rfl (hC 8 _ _ rfl) ⟨rfl, (Nat.le_of_ble_eq_true rfl), (Nat.le_of_ble_eq_true rfl)⟩ (by decide) ?_
  refine y_ent (lv' := [(0, .ref 8), (1, iv 1), (2, iv (-1)), (3, iv 2), (4, iv 2)]) (Nat.le_of_ble_eq_true rfl) rfl ?_
  refine y_ld (x := iv 1) rfl rfl (fun d => rfl) ?_
  refine y_in (pc' := 84) rfl rfl (fun d => rfl) ?_
  refine y_ld (x := iv 2) rfl rfl (fun d => rfl) ?_
  refine y_ld (x := .ref 8) rfl rfl (fun d => rfl) ?_
  refine y_gI (i := 3) (e := nb) rfl rfl rfl (hC 8 _ _ rfl) rfl rfl ?_
  refine y_add (z := (2 + nb)) rfl rfl rfl ?_
  refine y_rI rfl (Or.inl rfl) ?_
  refine y_nv ?_
  refine y_rI rfl (Or.inl rfl) ?_
  refine y_nv ?_
  refine y_in rfl rfl (fun d => rfl) ?_
  refine y_ret rfl (fun d => rfl) ?_
  refine y_nv ?_
  refine y_ret rfl (fun d => rfl) ?_
  refine y_nv ?_
  refine y_ret rfl (fun d => rfl) ?_
  exact k _ (fun k h8 h9 => by rw [v_up_ne h8, v_up_ne h9, v_up_ne h8, v_up_ne h9, v_up_ne h8, v_up_ne h9, v_up_ne h8, v_up_ne h9, v_up_ne h8, v_up_ne h9, v_up_ne h8, v_up_ne h9, v_up_ne h8, v_up_ne h8, v_up_ne h8, v_up_ne h8]) ⟨by show (0 : Int) ≤ 6; decide, by show (6 : Int) ≤ 20; decide⟩
set_option maxRecDepth 100000 in
set_option maxHeartbeats 4000000 in
theorem ca_5_0 (hC : ClF S) (hXb : X 1 = m_bodies) (hXa : X 2 = m_above) (h3X : X 3 = []) {b : Nat} {nb ln : Int} {x : Int32} (hb : b < 8) (hk : V (10 + 6 * b) 1 = 5) (hn : V (10 + 6 * b) 0 = nb) (k : ∀ V2, (∀ k, k ≠ 8 → k ≠ 9 → V2 k = V k) → 0 ≤ V2 8 1 ∧ V2 8 1 ≤ 20 → K u w (some (.int (acV 5 0 x nb ln))) S V2) : y_R X 30 61 u w [.ref 8, .ref (10 + 6 * b), iv ln, iv 0, .int x] S (v_up V 8 1 0) K := by
  refine y_ent (lv' := [(0, .ref 8), (1, .ref (10 + 6 * b)), (2, iv ln), (3, iv 0), (4, .int x)]) (Nat.le_of_ble_eq_true rfl) rfl ?_
  refine y_ld (x := .ref 8) rfl rfl (fun d => rfl) ?_
  refine y_ld (x := .ref (10 + 6 * b)) rfl rfl (fun d => rfl) ?_
  refine y_gI (i := 1) (e := 5) rfl rfl rfl (bx_ob hC (i := b) (by omega)) rfl (by rw [v_up_ne (by omega)]; exact hk) ?_
  refine y_pI (i := 2) rfl rfl rfl (hC 8 _ _ rfl) rfl rfl ?_
  refine y_ld (x := .ref 8) rfl rfl (fun d => rfl) ?_
  refine y_ld (x := .ref (10 + 6 * b)) rfl rfl (fun d => rfl) ?_
  refine y_gI (i := 0) (e := nb) rfl rfl rfl (bx_ob hC (i := b) (by omega)) rfl (by rw [v_up_ne (by omega), v_up_ne (by omega)]; exact hn) ?_
  refine y_pI (i := 3) rfl rfl rfl (hC 8 _ _ rfl) rfl rfl ?_
  refine y_ld (x := .ref 8) rfl rfl (fun d => rfl) ?_
  refine y_ld (x := iv ln) rfl rfl (fun d => rfl) ?_
  refine y_pI (i := 4) rfl rfl rfl (hC 8 _ _ rfl) rfl rfl ?_
  refine y_ld (x := .ref 8) rfl rfl (fun d => rfl) ?_
  refine y_ld (x := .ref 8) rfl rfl (fun d => rfl) ?_
  refine y_gI (i := 2) (e := 5) rfl rfl rfl (hC 8 _ _ rfl) rfl rfl ?_
  refine y_ld (x := iv 0) rfl rfl (fun d => rfl) ?_
  refine y_ld (x := .int x) rfl rfl (fun d => rfl) ?_
  refine y_ic rfl rfl ?_
  refine y_cV (D' := 29) (as := [.ref 8, iv 5, iv 0, .int x, iv 0]) rfl rfl rfl rfl rfl (hC 8 _ _ rfl) ⟨rfl, (Nat.le_of_ble_eq_true rfl), (Nat.le_of_ble_eq_true rfl)⟩ (by decide) ?_
  refine y_ent (lv' := [(0, .ref 8), (1, iv 5), (2, iv 0), (3, .int x), (4, iv 0)]) (Nat.le_of_ble_eq_true rfl) rfl ?_
  refine y_ld (x := iv 5) rfl rfl (fun d => rfl) ?_
  refine y_zlt rfl rfl rfl (by decide) (fun g1 => absurd g1 (by decide)) (fun g1 => ?_)
  refine y_ld (x := iv 5) rfl rfl (fun d => rfl) ?_
  refine y_bi rfl rfl (by decide) ?_
  refine y_jge rfl rfl rfl (by decide) (fun g2 => absurd g2 (by decide)) (fun g2 => ?_)
  refine y_ld (x := iv 0) rfl rfl (fun d => rfl) ?_
  refine y_bi rfl rfl (by decide) ?_
  refine y_jle rfl rfl rfl (by decide) (fun g3 => ?_) (fun g3 => absurd g3 (by decide))
  refine y_ld (x := iv 5) rfl rfl (fun d => rfl) ?_
  refine y_st (lv' := [(5, iv 5), (0, .ref 8), (1, iv 5), (2, iv 0), (3, .int x), (4, iv 0)]) rfl rfl (fun d => rfl) ?_
  refine y_ic rfl rfl ?_
  refine y_st (lv' := [(6, iv 0), (5, iv 5), (0, .ref 8), (1, iv 5), (2, iv 0), (3, .int x), (4, iv 0)]) rfl rfl (fun d => rfl) ?_
  refine y_ld (x := iv 0) rfl rfl (fun d => rfl) ?_
  refine y_bi rfl rfl (by decide) ?_
  refine y_jge rfl rfl rfl (by decide) (fun g4 => absurd g4 (by decide)) (fun g4 => ?_)
  refine y_ld (x := iv 5) rfl rfl (fun d => rfl) ?_
  refine y_zle rfl rfl rfl (by decide) (fun g5 => absurd g5 (by decide)) (fun g5 => ?_)
  refine y_in rfl rfl (fun d => rfl) ?_
  refine y_ld (x := iv 5) rfl rfl (fun d => rfl) ?_
  refine y_ic rfl rfl ?_
  refine y_mul (z := 15) rfl rfl rfl ?_
  refine y_ld (x := iv 0) rfl rfl (fun d => rfl) ?_
  refine y_add (z := 15) rfl rfl rfl ?_
  refine y_sti (n := 1) (i := 15) (f := 0) rfl rfl hXb h3X (by decide) rfl rfl ?_
  refine y_zeq rfl rfl rfl (by decide) (fun g6 => ?_) (fun g6 => absurd g6 (by decide))
  refine y_in rfl rfl (fun d => rfl) ?_
  refine y_ld (x := iv 5) rfl rfl (fun d => rfl) ?_
  refine y_sti (n := 2) (i := 5) (f := 3) rfl rfl hXa h3X (by decide) rfl rfl ?_
  refine y_st (lv' := [(5, iv 3), (6, iv 0), (0, .ref 8), (1, iv 5), (2, iv 0), (3, .int x), (4, iv 0)]) rfl rfl (fun d => rfl) ?_
  refine y_inc (z := 1) (lv' := [(6, iv 1), (5, iv 3), (0, .ref 8), (1, iv 5), (2, iv 0), (3, .int x), (4, iv 0)]) rfl rfl rfl rfl rfl ?_
  refine y_go rfl rfl ?_
  refine y_ld (x := iv 1) rfl rfl (fun d => rfl) ?_
  refine y_bi rfl rfl (by decide) ?_
  refine y_jge rfl rfl rfl (by decide) (fun g7 => absurd g7 (by decide)) (fun g7 => ?_)
  refine y_ld (x := iv 3) rfl rfl (fun d => rfl) ?_
  refine y_zle rfl rfl rfl (by decide) (fun g8 => absurd g8 (by decide)) (fun g8 => ?_)
  refine y_in rfl rfl (fun d => rfl) ?_
  refine y_ld (x := iv 3) rfl rfl (fun d => rfl) ?_
  refine y_ic rfl rfl ?_
  refine y_mul (z := 9) rfl rfl rfl ?_
  refine y_ld (x := iv 0) rfl rfl (fun d => rfl) ?_
  refine y_add (z := 9) rfl rfl rfl ?_
  refine y_sti (n := 1) (i := 9) (f := 0) rfl rfl hXb h3X (by decide) rfl rfl ?_
  refine y_zeq rfl rfl rfl (by decide) (fun g9 => ?_) (fun g9 => absurd g9 (by decide))
  refine y_in rfl rfl (fun d => rfl) ?_
  refine y_ld (x := iv 3) rfl rfl (fun d => rfl) ?_
  refine y_sti (n := 2) (i := 3) (f := 0) rfl rfl hXa h3X (by decide) rfl rfl ?_
  refine y_st (lv' := [(5, iv 0), (6, iv 1), (0, .ref 8), (1, iv 5), (2, iv 0), (3, .int x), (4, iv 0)]) rfl rfl (fun d => rfl) ?_
  refine y_inc (z := 2) (lv' := [(6, iv 2), (5, iv 0), (0, .ref 8), (1, iv 5), (2, iv 0), (3, .int x), (4, iv 0)]) rfl rfl rfl rfl rfl ?_
  refine y_go rfl rfl ?_
  refine y_ld (x := iv 2) rfl rfl (fun d => rfl) ?_
  refine y_bi rfl rfl (by decide) ?_
  refine y_jge rfl rfl rfl (by decide) (fun g10 => absurd g10 (by decide)) (fun g10 => ?_)
  refine y_ld (x := iv 0) rfl rfl (fun d => rfl) ?_
  refine y_zle rfl rfl rfl (by decide) (fun g11 => ?_) (fun g11 => absurd g11 (by decide))
  refine y_in rfl rfl (fun d => rfl) ?_
  refine y_ld (x := iv 0) rfl rfl (fun d => rfl) ?_
  refine y_ic rfl rfl ?_
  refine y_mul (z := 0) rfl rfl rfl ?_
  refine y_ld (x := iv 0) rfl rfl (fun d => rfl) ?_
  refine y_add (z := 0) rfl rfl rfl ?_
  refine y_sti (n := 1) (i := 0) (f := 1) rfl rfl hXb h3X (by decide) rfl rfl ?_
  refine y_st (lv' := [(6, iv 1), (5, iv 0), (0, .ref 8), (1, iv 5), (2, iv 0), (3, .int x), (4, iv 0)]) rfl rfl (fun d => rfl) ?_
  refine y_ld (x := .ref 8) rfl rfl (fun d => rfl) ?_
  refine y_gI (i := 1) (e := 0) rfl rfl rfl (hC 8 _ _ rfl) rfl rfl ?_
  refine y_bi rfl rfl (by decide) ?_
  refine y_jge rfl rfl rfl (by decide) (fun g12 => absurd g12 (by decide)) (fun g12 => ?_)
  refine y_ld (x := .ref 8) rfl rfl (fun d => rfl) ?_
  refine y_gR (i := 0) rfl rfl rfl (hC 8 _ _ rfl) rfl ?_
  refine y_ld (x := .ref 8) rfl rfl (fun d => rfl) ?_
  refine y_gI (i := 1) (e := 0) rfl rfl rfl (hC 8 _ _ rfl) rfl rfl ?_
  refine y_ld (x := iv 1) rfl rfl (fun d => rfl) ?_
  refine y_ist (q := 0) rfl rfl (cl_ia hC (k := 9) (N := 20) rfl) (by decide) (by decide) rfl ?_
  refine y_ld (x := .ref 8) rfl rfl (fun d => rfl) ?_
  refine y_in rfl rfl (fun d => rfl) ?_
  refine y_gI (i := 1) (e := 0) rfl rfl rfl (hC 8 _ _ rfl) rfl rfl ?_
  refine y_ic rfl rfl ?_
  refine y_add (z := 1) rfl rfl rfl ?_
  refine y_pI (i := 1) rfl rfl rfl (hC 8 _ _ rfl) rfl rfl ?_
  refine y_ld (x := .ref 8) rfl rfl (fun d => rfl) ?_
  refine y_ld (x := iv 1) rfl rfl (fun d => rfl) ?_
  refine y_in rfl rfl (fun d => rfl) ?_
  refine y_ld (x := iv 0) rfl rfl (fun d => rfl) ?_
  refine y_sti (n := 2) (i := 0) (f := (-1)) rfl rfl hXa h3X (by decide) rfl rfl ?_
  refine y_ld (x := .int x) rfl rfl (fun d => rfl) ?_
  refine y_ld (x := iv 0) rfl rfl (fun d => rfl) ?_
  refine y_ic rfl rfl ?_
  refine y_add (z := 1) rfl rfl rfl ?_
  refine y_cV (D' := 28) (as := [.ref 8, iv 1, iv (-1), .int x, iv 1]) rfl rfl rfl rfl rfl (hC 8 _ _ rfl) ⟨rfl, (Nat.le_of_ble_eq_true rfl), (Nat.le_of_ble_eq_true rfl)⟩ (by decide) ?_
  refine y_ent (lv' := [(0, .ref 8), (1, iv 1), (2, iv (-1)), (3, .int x), (4, iv 1)]) (Nat.le_of_ble_eq_true rfl) rfl ?_
  refine y_ld (x := iv 1) rfl rfl (fun d => rfl) ?_
  refine y_in (pc' := 84) rfl rfl (fun d => rfl) ?_
  refine y_ld (x := .int x) rfl rfl (fun d => rfl) ?_
  refine y_ld (x := .ref 8) rfl rfl (fun d => rfl) ?_
  refine y_gI (i := 3) (e := nb) rfl rfl rfl (hC 8 _ _ rfl) rfl rfl ?_
  refine y_in rfl rfl (fun d => rfl) ?_
  refine y_ret rfl (fun d => rfl) ?_
  refine y_nv ?_
  refine y_ret rfl (fun d => rfl) ?_
  refine y_nv ?_
  refine y_ret rfl (fun d => rfl) ?_
  exact k _ (fun k h8 h9 => by rw [v_up_ne h8, v_up_ne h9, v_up_ne h8, v_up_ne h8, v_up_ne h8, v_up_ne h8]) ⟨by show (0 : Int) ≤ 1; decide, by show (1 : Int) ≤ 20; decide⟩
set_option maxRecDepth 100000 in
set_option maxHeartbeats 4000000 in
theorem ca_5_1 (hC : ClF S) (hXb : X 1 = m_bodies) (hXa : X 2 = m_above) (h3X : X 3 = []) {b : Nat} {nb ln : Int} {x : Int32} (hb : b < 8) (hk : V (10 + 6 * b) 1 = 5) (hn : V (10 + 6 * b) 0 = nb) (k : ∀ V2, (∀ k, k ≠ 8 → k ≠ 9 → V2 k = V k) → 0 ≤ V2 8 1 ∧ V2 8 1 ≤ 20 → K u w (some (.int (acV 5 1 x nb ln))) S V2) : y_R X 30 61 u w [.ref 8, .ref (10 + 6 * b), iv ln, iv 1, .int x] S (v_up V 8 1 0) K := by
  refine y_ent (lv' := [(0, .ref 8), (1, .ref (10 + 6 * b)), (2, iv ln), (3, iv 1), (4, .int x)]) (Nat.le_of_ble_eq_true rfl) rfl ?_
  refine y_ld (x := .ref 8) rfl rfl (fun d => rfl) ?_
  refine y_ld (x := .ref (10 + 6 * b)) rfl rfl (fun d => rfl) ?_
  refine y_gI (i := 1) (e := 5) rfl rfl rfl (bx_ob hC (i := b) (by omega)) rfl (by rw [v_up_ne (by omega)]; exact hk) ?_
  refine y_pI (i := 2) rfl rfl rfl (hC 8 _ _ rfl) rfl rfl ?_
  refine y_ld (x := .ref 8) rfl rfl (fun d => rfl) ?_
  refine y_ld (x := .ref (10 + 6 * b)) rfl rfl (fun d => rfl) ?_
  refine y_gI (i := 0) (e := nb) rfl rfl rfl (bx_ob hC (i := b) (by omega)) rfl (by rw [v_up_ne (by omega), v_up_ne (by omega)]; exact hn) ?_
  refine y_pI (i := 3) rfl rfl rfl (hC 8 _ _ rfl) rfl rfl ?_
  refine y_ld (x := .ref 8) rfl rfl (fun d => rfl) ?_
  refine y_ld (x := iv ln) rfl rfl (fun d => rfl) ?_
  refine y_pI (i := 4) rfl rfl rfl (hC 8 _ _ rfl) rfl rfl ?_
  refine y_ld (x := .ref 8) rfl rfl (fun d => rfl) ?_
  refine y_ld (x := .ref 8) rfl rfl (fun d => rfl) ?_
  refine y_gI (i := 2) (e := 5) rfl rfl rfl (hC 8 _ _ rfl) rfl rfl ?_
  refine y_ld (x := iv 1) rfl rfl (fun d => rfl) ?_
  refine y_ld (x := .int x) rfl rfl (fun d => rfl) ?_
  refine y_ic rfl rfl ?_
  refine y_cV (D' := 29) (as := [.ref 8, iv 5, iv 1, .int x, iv 0]) rfl rfl rfl rfl rfl (hC 8 _ _ rfl) ⟨rfl, (Nat.le_of_ble_eq_true rfl), (Nat.le_of_ble_eq_true rfl)⟩ (by decide) ?_
  refine y_ent (lv' := [(0, .ref 8), (1, iv 5), (2, iv 1), (3, .int x), (4, iv 0)]) (Nat.le_of_ble_eq_true rfl) rfl ?_
  refine y_ld (x := iv 5) rfl rfl (fun d => rfl) ?_
  refine y_zlt rfl rfl rfl (by decide) (fun g1 => absurd g1 (by decide)) (fun g1 => ?_)
  refine y_ld (x := iv 5) rfl rfl (fun d => rfl) ?_
  refine y_bi rfl rfl (by decide) ?_
  refine y_jge rfl rfl rfl (by decide) (fun g2 => absurd g2 (by decide)) (fun g2 => ?_)
  refine y_ld (x := iv 0) rfl rfl (fun d => rfl) ?_
  refine y_bi rfl rfl (by decide) ?_
  refine y_jle rfl rfl rfl (by decide) (fun g3 => ?_) (fun g3 => absurd g3 (by decide))
  refine y_ld (x := iv 5) rfl rfl (fun d => rfl) ?_
  refine y_st (lv' := [(5, iv 5), (0, .ref 8), (1, iv 5), (2, iv 1), (3, .int x), (4, iv 0)]) rfl rfl (fun d => rfl) ?_
  refine y_ic rfl rfl ?_
  refine y_st (lv' := [(6, iv 0), (5, iv 5), (0, .ref 8), (1, iv 5), (2, iv 1), (3, .int x), (4, iv 0)]) rfl rfl (fun d => rfl) ?_
  refine y_ld (x := iv 0) rfl rfl (fun d => rfl) ?_
  refine y_bi rfl rfl (by decide) ?_
  refine y_jge rfl rfl rfl (by decide) (fun g4 => absurd g4 (by decide)) (fun g4 => ?_)
  refine y_ld (x := iv 5) rfl rfl (fun d => rfl) ?_
  refine y_zle rfl rfl rfl (by decide) (fun g5 => absurd g5 (by decide)) (fun g5 => ?_)
  refine y_in rfl rfl (fun d => rfl) ?_
  refine y_ld (x := iv 5) rfl rfl (fun d => rfl) ?_
  refine y_ic rfl rfl ?_
  refine y_mul (z := 15) rfl rfl rfl ?_
  refine y_ld (x := iv 1) rfl rfl (fun d => rfl) ?_
  refine y_add (z := 16) rfl rfl rfl ?_
  refine y_sti (n := 1) (i := 16) (f := 51) rfl rfl hXb h3X (by decide) rfl rfl ?_
  refine y_zeq rfl rfl rfl (by decide) (fun g6 => absurd g6 (by decide)) (fun g6 => ?_)
  refine y_go rfl rfl ?_
  refine y_in rfl rfl (fun d => rfl) ?_
  refine y_ld (x := iv 5) rfl rfl (fun d => rfl) ?_
  refine y_ic rfl rfl ?_
  refine y_mul (z := 15) rfl rfl rfl ?_
  refine y_ld (x := iv 1) rfl rfl (fun d => rfl) ?_
  refine y_add (z := 16) rfl rfl rfl ?_
  refine y_sti (n := 1) (i := 16) (f := 51) rfl rfl hXb h3X (by decide) rfl rfl ?_
  refine y_st (lv' := [(6, iv 51), (5, iv 5), (0, .ref 8), (1, iv 5), (2, iv 1), (3, .int x), (4, iv 0)]) rfl rfl (fun d => rfl) ?_
  refine y_ld (x := .ref 8) rfl rfl (fun d => rfl) ?_
  refine y_gI (i := 1) (e := 0) rfl rfl rfl (hC 8 _ _ rfl) rfl rfl ?_
  refine y_bi rfl rfl (by decide) ?_
  refine y_jge rfl rfl rfl (by decide) (fun g7 => absurd g7 (by decide)) (fun g7 => ?_)
  refine y_ld (x := .ref 8) rfl rfl (fun d => rfl) ?_
  refine y_gR (i := 0) rfl rfl rfl (hC 8 _ _ rfl) rfl ?_
  refine y_ld (x := .ref 8) rfl rfl (fun d => rfl) ?_
  refine y_gI (i := 1) (e := 0) rfl rfl rfl (hC 8 _ _ rfl) rfl rfl ?_
  refine y_ld (x := iv 51) rfl rfl (fun d => rfl) ?_
  refine y_ist (q := 0) rfl rfl (cl_ia hC (k := 9) (N := 20) rfl) (by decide) (by decide) rfl ?_
  refine y_ld (x := .ref 8) rfl rfl (fun d => rfl) ?_
  refine y_in rfl rfl (fun d => rfl) ?_
  refine y_gI (i := 1) (e := 0) rfl rfl rfl (hC 8 _ _ rfl) rfl rfl ?_
  refine y_ic rfl rfl ?_
  refine y_add (z := 1) rfl rfl rfl ?_
  refine y_pI (i := 1) rfl rfl rfl (hC 8 _ _ rfl) rfl rfl ?_
  refine y_ld (x := .ref 8) rfl rfl (fun d => rfl) ?_
  refine y_ld (x := iv 51) rfl rfl (fun d => rfl) ?_
  refine y_in rfl rfl (fun d => rfl) ?_
  refine y_ld (x := iv 5) rfl rfl (fun d => rfl) ?_
  refine y_sti (n := 2) (i := 5) (f := 3) rfl rfl hXa h3X (by decide) rfl rfl ?_
  refine y_ld (x := .int x) rfl rfl (fun d => rfl) ?_
  refine y_ld (x := iv 0) rfl rfl (fun d => rfl) ?_
  refine y_ic rfl rfl ?_
  refine y_add (z := 1) rfl rfl rfl ?_
  refine y_cV (D' := 28) (as := [.ref 8, iv 51, iv 3, .int x, iv 1]) rfl rfl rfl rfl rfl (hC 8 _ _ rfl) ⟨rfl, (Nat.le_of_ble_eq_true rfl), (Nat.le_of_ble_eq_true rfl)⟩ (by decide) ?_
  refine y_ent (lv' := [(0, .ref 8), (1, iv 51), (2, iv 3), (3, .int x), (4, iv 1)]) (Nat.le_of_ble_eq_true rfl) rfl ?_
  refine y_ld (x := iv 51) rfl rfl (fun d => rfl) ?_
  refine y_in (pc' := 184) rfl rfl (fun d => rfl) ?_
  refine y_ld (x := .ref 8) rfl rfl (fun d => rfl) ?_
  refine y_ld (x := iv 3) rfl rfl (fun d => rfl) ?_
  refine y_ic rfl rfl ?_
  refine y_ld (x := .int x) rfl rfl (fun d => rfl) ?_
  refine y_ld (x := iv 1) rfl rfl (fun d => rfl) ?_
  refine y_cV (D' := 27) (as := [.ref 8, iv 3, iv 1, .int x, iv 1]) rfl rfl rfl rfl rfl (hC 8 _ _ rfl) ⟨rfl, (Nat.le_of_ble_eq_true rfl), (Nat.le_of_ble_eq_true rfl)⟩ (by decide) ?_
  refine y_ent (lv' := [(0, .ref 8), (1, iv 3), (2, iv 1), (3, .int x), (4, iv 1)]) (Nat.le_of_ble_eq_true rfl) rfl ?_
  refine y_ld (x := iv 3) rfl rfl (fun d => rfl) ?_
  refine y_zlt rfl rfl rfl (by decide) (fun g8 => absurd g8 (by decide)) (fun g8 => ?_)
  refine y_ld (x := iv 3) rfl rfl (fun d => rfl) ?_
  refine y_bi rfl rfl (by decide) ?_
  refine y_jge rfl rfl rfl (by decide) (fun g9 => absurd g9 (by decide)) (fun g9 => ?_)
  refine y_ld (x := iv 1) rfl rfl (fun d => rfl) ?_
  refine y_bi rfl rfl (by decide) ?_
  refine y_jle rfl rfl rfl (by decide) (fun g10 => ?_) (fun g10 => absurd g10 (by decide))
  refine y_ld (x := iv 3) rfl rfl (fun d => rfl) ?_
  refine y_st (lv' := [(5, iv 3), (0, .ref 8), (1, iv 3), (2, iv 1), (3, .int x), (4, iv 1)]) rfl rfl (fun d => rfl) ?_
  refine y_ic rfl rfl ?_
  refine y_st (lv' := [(6, iv 0), (5, iv 3), (0, .ref 8), (1, iv 3), (2, iv 1), (3, .int x), (4, iv 1)]) rfl rfl (fun d => rfl) ?_
  refine y_ld (x := iv 0) rfl rfl (fun d => rfl) ?_
  refine y_bi rfl rfl (by decide) ?_
  refine y_jge rfl rfl rfl (by decide) (fun g11 => absurd g11 (by decide)) (fun g11 => ?_)
  refine y_ld (x := iv 3) rfl rfl (fun d => rfl) ?_
  refine y_zle rfl rfl rfl (by decide) (fun g12 => absurd g12 (by decide)) (fun g12 => ?_)
  refine y_in rfl rfl (fun d => rfl) ?_
  refine y_ld (x := iv 3) rfl rfl (fun d => rfl) ?_
  refine y_ic rfl rfl ?_
  refine y_mul (z := 9) rfl rfl rfl ?_
  refine y_ld (x := iv 1) rfl rfl (fun d => rfl) ?_
  refine y_add (z := 10) rfl rfl rfl ?_
  refine y_sti (n := 1) (i := 10) (f := 0) rfl rfl hXb h3X (by decide) rfl rfl ?_
  refine y_zeq rfl rfl rfl (by decide) (fun g13 => ?_) (fun g13 => absurd g13 (by decide))
  refine y_in rfl rfl (fun d => rfl) ?_
  refine y_ld (x := iv 3) rfl rfl (fun d => rfl) ?_
  refine y_sti (n := 2) (i := 3) (f := 0) rfl rfl hXa h3X (by decide) rfl rfl ?_
  refine y_st (lv' := [(5, iv 0), (6, iv 0), (0, .ref 8), (1, iv 3), (2, iv 1), (3, .int x), (4, iv 1)]) rfl rfl (fun d => rfl) ?_
  refine y_inc (z := 1) (lv' := [(6, iv 1), (5, iv 0), (0, .ref 8), (1, iv 3), (2, iv 1), (3, .int x), (4, iv 1)]) rfl rfl rfl rfl rfl ?_
  refine y_go rfl rfl ?_
  refine y_ld (x := iv 1) rfl rfl (fun d => rfl) ?_
  refine y_bi rfl rfl (by decide) ?_
  refine y_jge rfl rfl rfl (by decide) (fun g14 => absurd g14 (by decide)) (fun g14 => ?_)
  refine y_ld (x := iv 0) rfl rfl (fun d => rfl) ?_
  refine y_zle rfl rfl rfl (by decide) (fun g15 => ?_) (fun g15 => absurd g15 (by decide))
  refine y_in rfl rfl (fun d => rfl) ?_
  refine y_ld (x := iv 0) rfl rfl (fun d => rfl) ?_
  refine y_ic rfl rfl ?_
  refine y_mul (z := 0) rfl rfl rfl ?_
  refine y_ld (x := iv 1) rfl rfl (fun d => rfl) ?_
  refine y_add (z := 1) rfl rfl rfl ?_
  refine y_sti (n := 1) (i := 1) (f := 2) rfl rfl hXb h3X (by decide) rfl rfl ?_
  refine y_st (lv' := [(6, iv 2), (5, iv 0), (0, .ref 8), (1, iv 3), (2, iv 1), (3, .int x), (4, iv 1)]) rfl rfl (fun d => rfl) ?_
  refine y_ld (x := .ref 8) rfl rfl (fun d => rfl) ?_
  refine y_gI (i := 1) (e := 1) rfl rfl rfl (hC 8 _ _ rfl) rfl rfl ?_
  refine y_bi rfl rfl (by decide) ?_
  refine y_jge rfl rfl rfl (by decide) (fun g16 => absurd g16 (by decide)) (fun g16 => ?_)
  refine y_ld (x := .ref 8) rfl rfl (fun d => rfl) ?_
  refine y_gR (i := 0) rfl rfl rfl (hC 8 _ _ rfl) rfl ?_
  refine y_ld (x := .ref 8) rfl rfl (fun d => rfl) ?_
  refine y_gI (i := 1) (e := 1) rfl rfl rfl (hC 8 _ _ rfl) rfl rfl ?_
  refine y_ld (x := iv 2) rfl rfl (fun d => rfl) ?_
  refine y_ist (q := 1) rfl rfl (cl_ia hC (k := 9) (N := 20) rfl) (by decide) (by decide) rfl ?_
  refine y_ld (x := .ref 8) rfl rfl (fun d => rfl) ?_
  refine y_in rfl rfl (fun d => rfl) ?_
  refine y_gI (i := 1) (e := 1) rfl rfl rfl (hC 8 _ _ rfl) rfl rfl ?_
  refine y_ic rfl rfl ?_
  refine y_add (z := 2) rfl rfl rfl ?_
  refine y_pI (i := 1) rfl rfl rfl (hC 8 _ _ rfl) rfl rfl ?_
  refine y_ld (x := .ref 8) rfl rfl (fun d => rfl) ?_
  refine y_ld (x := iv 2) rfl rfl (fun d => rfl) ?_
  refine y_in rfl rfl (fun d => rfl) ?_
  refine y_ld (x := iv 0) rfl rfl (fun d => rfl) ?_
  refine y_sti (n := 2) (i := 0) (f := (-1)) rfl rfl hXa h3X (by decide) rfl rfl ?_
  refine y_ld (x := .int x) rfl rfl (fun d => rfl) ?_
  refine y_ld (x := iv 1) rfl rfl (fun d => rfl) ?_
  refine y_ic rfl rfl ?_
  refine y_add (z := 2) rfl rfl rfl ?_
  refine y_cV (D' := 26) (as := [.ref 8, iv 2, iv (-1), .int x, iv 2]) rfl rfl rfl rfl rfl (hC 8 _ _ rfl) ⟨rfl, (Nat.le_of_ble_eq_true rfl), (Nat.le_of_ble_eq_true rfl)⟩ (by decide) ?_
  refine y_ent (lv' := [(0, .ref 8), (1, iv 2), (2, iv (-1)), (3, .int x), (4, iv 2)]) (Nat.le_of_ble_eq_true rfl) rfl ?_
  refine y_ld (x := iv 2) rfl rfl (fun d => rfl) ?_
  refine y_in (pc' := 91) rfl rfl (fun d => rfl) ?_
  refine y_ld (x := .ref 8) rfl rfl (fun d => rfl) ?_
  refine y_ld (x := .ref 8) rfl rfl (fun d => rfl) ?_
  refine y_gI (i := 2) (e := 5) rfl rfl rfl (hC 8 _ _ rfl) rfl rfl ?_
  refine y_ic rfl rfl ?_
  refine y_ld (x := .int x) rfl rfl (fun d => rfl) ?_
  refine y_ld (x := iv 2) rfl rfl (fun d => rfl) ?_
  refine y_cV (D' := 25) (as := [.ref 8, iv 5, iv 0, .int x, iv 2]) rfl rfl rfl rfl rfl (hC 8 _ _ rfl) ⟨rfl, (Nat.le_of_ble_eq_true rfl), (Nat.le_of_ble_eq_true rfl)⟩ (by decide) ?_
  refine y_ent (lv' := [(0, .ref 8), (1, iv 5), (2, iv 0), (3, .int x), (4, iv 2)]) (Nat.le_of_ble_eq_true rfl) rfl ?_
  refine y_ld (x := iv 5) rfl rfl (fun d => rfl) ?_
  refine y_zlt rfl rfl rfl (by decide) (fun g17 => absurd g17 (by decide)) (fun g17 => ?_)
  refine y_ld (x := iv 5) rfl rfl (fun d => rfl) ?_
  refine y_bi rfl rfl (by decide) ?_
  refine y_jge rfl rfl rfl (by decide) (fun g18 => absurd g18 (by decide)) (fun g18 => ?_)
  refine y_ld (x := iv 2) rfl rfl (fun d => rfl) ?_
  refine y_bi rfl rfl (by decide) ?_
  refine y_jle rfl rfl rfl (by decide) (fun g19 => ?_) (fun g19 => absurd g19 (by decide))
  refine y_ld (x := iv 5) rfl rfl (fun d => rfl) ?_
  refine y_st (lv' := [(5, iv 5), (0, .ref 8), (1, iv 5), (2, iv 0), (3, .int x), (4, iv 2)]) rfl rfl (fun d => rfl) ?_
  refine y_ic rfl rfl ?_
  refine y_st (lv' := [(6, iv 0), (5, iv 5), (0, .ref 8), (1, iv 5), (2, iv 0), (3, .int x), (4, iv 2)]) rfl rfl (fun d => rfl) ?_
  refine y_ld (x := iv 0) rfl rfl (fun d => rfl) ?_
  refine y_bi rfl rfl (by decide) ?_
  refine y_jge rfl rfl rfl (by decide) (fun g20 => absurd g20 (by decide)) (fun g20 => ?_)
  refine y_ld (x := iv 5) rfl rfl (fun d => rfl) ?_
  refine y_zle rfl rfl rfl (by decide) (fun g21 => absurd g21 (by decide)) (fun g21 => ?_)
  refine y_in rfl rfl (fun d => rfl) ?_
  refine y_ld (x := iv 5) rfl rfl (fun d => rfl) ?_
  refine y_ic rfl rfl ?_
  refine y_mul (z := 15) rfl rfl rfl ?_
  refine y_ld (x := iv 0) rfl rfl (fun d => rfl) ?_
  refine y_add (z := 15) rfl rfl rfl ?_
  refine y_sti (n := 1) (i := 15) (f := 0) rfl rfl hXb h3X (by decide) rfl rfl ?_
  refine y_zeq rfl rfl rfl (by decide) (fun g22 => ?_) (fun g22 => absurd g22 (by decide))
  refine y_in rfl rfl (fun d => rfl) ?_
  refine y_ld (x := iv 5) rfl rfl (fun d => rfl) ?_
  refine y_sti (n := 2) (i := 5) (f := 3) rfl rfl hXa h3X (by decide) rfl rfl ?_
  refine y_st (lv' := [(5, iv 3), (6, iv 0), (0, .ref 8), (1, iv 5), (2, iv 0), (3, .int x), (4, iv 2)]) rfl rfl (fun d => rfl) ?_
  refine y_inc (z := 1) (lv' := [(6, iv 1), (5, iv 3), (0, .ref 8), (1, iv 5), (2, iv 0), (3, .int x), (4, iv 2)]) rfl rfl rfl rfl rfl ?_
  refine y_go rfl rfl ?_
  refine y_ld (x := iv 1) rfl rfl (fun d => rfl) ?_
  refine y_bi rfl rfl (by decide) ?_
  refine y_jge rfl rfl rfl (by decide) (fun g23 => absurd g23 (by decide)) (fun g23 => ?_)
  refine y_ld (x := iv 3) rfl rfl (fun d => rfl) ?_
  refine y_zle rfl rfl rfl (by decide) (fun g24 => absurd g24 (by decide)) (fun g24 => ?_)
  refine y_in rfl rfl (fun d => rfl) ?_
  refine y_ld (x := iv 3) rfl rfl (fun d => rfl) ?_
  refine y_ic rfl rfl ?_
  refine y_mul (z := 9) rfl rfl rfl ?_
  refine y_ld (x := iv 0) rfl rfl (fun d => rfl) ?_
  refine y_add (z := 9) rfl rfl rfl ?_
  refine y_sti (n := 1) (i := 9) (f := 0) rfl rfl hXb h3X (by decide) rfl rfl ?_
  refine y_zeq rfl rfl rfl (by decide) (fun g25 => ?_) (fun g25 => absurd g25 (by decide))
  refine y_in rfl rfl (fun d => rfl) ?_
  refine y_ld (x := iv 3) rfl rfl (fun d => rfl) ?_
  refine y_sti (n := 2) (i := 3) (f := 0) rfl rfl hXa h3X (by decide) rfl rfl ?_
  refine y_st (lv' := [(5, iv 0), (6, iv 1), (0, .ref 8), (1, iv 5), (2, iv 0), (3, .int x), (4, iv 2)]) rfl rfl (fun d => rfl) ?_
  refine y_inc (z := 2) (lv' := [(6, iv 2), (5, iv 0), (0, .ref 8), (1, iv 5), (2, iv 0), (3, .int x), (4, iv 2)]) rfl rfl rfl rfl rfl ?_
  refine y_go rfl rfl ?_
  refine y_ld (x := iv 2) rfl rfl (fun d => rfl) ?_
  refine y_bi rfl rfl (by decide) ?_
  refine y_jge rfl rfl rfl (by decide) (fun g26 => absurd g26 (by decide)) (fun g26 => ?_)
  refine y_ld (x := iv 0) rfl rfl (fun d => rfl) ?_
  refine y_zle rfl rfl rfl (by decide) (fun g27 => ?_) (fun g27 => absurd g27 (by decide))
  refine y_in rfl rfl (fun d => rfl) ?_
  refine y_ld (x := iv 0) rfl rfl (fun d => rfl) ?_
  refine y_ic rfl rfl ?_
  refine y_mul (z := 0) rfl rfl rfl ?_
  refine y_ld (x := iv 0) rfl rfl (fun d => rfl) ?_
  refine y_add (z := 0) rfl rfl rfl ?_
  refine y_sti (n := 1) (i := 0) (f := 1) rfl rfl hXb h3X (by decide) rfl rfl ?_
  refine y_st (lv' := [(6, iv 1), (5, iv 0), (0, .ref 8), (1, iv 5), (2, iv 0), (3, .int x), (4, iv 2)]) rfl rfl (fun d => rfl) ?_
  refine y_ld (x := .ref 8) rfl rfl (fun d => rfl) ?_
  refine y_gI (i := 1) (e := 2) rfl rfl rfl (hC 8 _ _ rfl) rfl rfl ?_
  refine y_bi rfl rfl (by decide) ?_
  refine y_jge rfl rfl rfl (by decide) (fun g28 => absurd g28 (by decide)) (fun g28 => ?_)
  refine y_ld (x := .ref 8) rfl rfl (fun d => rfl) ?_
  refine y_gR (i := 0) rfl rfl rfl (hC 8 _ _ rfl) rfl ?_
  refine y_ld (x := .ref 8) rfl rfl (fun d => rfl) ?_
  refine y_gI (i := 1) (e := 2) rfl rfl rfl (hC 8 _ _ rfl) rfl rfl ?_
  refine y_ld (x := iv 1) rfl rfl (fun d => rfl) ?_
  refine y_ist (q := 2) rfl rfl (cl_ia hC (k := 9) (N := 20) rfl) (by decide) (by decide) rfl ?_
  refine y_ld (x := .ref 8) rfl rfl (fun d => rfl) ?_
  refine y_in rfl rfl (fun d => rfl) ?_
  refine y_gI (i := 1) (e := 2) rfl rfl rfl (hC 8 _ _ rfl) rfl rfl ?_
  refine y_ic rfl rfl ?_
  refine y_add (z := 3) rfl rfl rfl ?_
  refine y_pI (i := 1) rfl rfl rfl (hC 8 _ _ rfl) rfl rfl ?_
  refine y_ld (x := .ref 8) rfl rfl (fun d => rfl) ?_
  refine y_ld (x := iv 1) rfl rfl (fun d => rfl) ?_
  refine y_in rfl rfl (fun d => rfl) ?_
  refine y_ld (x := iv 0) rfl rfl (fun d => rfl) ?_
  refine y_sti (n := 2) (i := 0) (f := (-1)) rfl rfl hXa h3X (by decide) rfl rfl ?_
  refine y_ld (x := .int x) rfl rfl (fun d => rfl) ?_
  refine y_ld (x := iv 2) rfl rfl (fun d => rfl) ?_
  refine y_ic rfl rfl ?_
  refine y_add (z := 3) rfl rfl rfl ?_
  refine y_cV (D' := 24) (as := [.ref 8, iv 1, iv (-1), .int x, iv 3]) rfl rfl rfl rfl rfl (hC 8 _ _ rfl) ⟨rfl, (Nat.le_of_ble_eq_true rfl), (Nat.le_of_ble_eq_true rfl)⟩ (by decide) ?_
  refine y_ent (lv' := [(0, .ref 8), (1, iv 1), (2, iv (-1)), (3, .int x), (4, iv 3)]) (Nat.le_of_ble_eq_true rfl) rfl ?_
  refine y_ld (x := iv 1) rfl rfl (fun d => rfl) ?_
  refine y_in (pc' := 84) rfl rfl (fun d => rfl) ?_
  refine y_ld (x := .int x) rfl rfl (fun d => rfl) ?_
  refine y_ld (x := .ref 8) rfl rfl (fun d => rfl) ?_
  refine y_gI (i := 3) (e := nb) rfl rfl rfl (hC 8 _ _ rfl) rfl rfl ?_
  refine y_in rfl rfl (fun d => rfl) ?_
  refine y_ret rfl (fun d => rfl) ?_
  refine y_nv ?_
  refine y_ret rfl (fun d => rfl) ?_
  refine y_nv ?_
  refine y_ld (x := .ref 8) rfl rfl (fun d => rfl) ?_
  refine y_gI (i := 4) (e := ln) rfl rfl rfl (hC 8 _ _ rfl) rfl rfl ?_
  refine y_in rfl rfl (fun d => rfl) ?_
  refine y_ret rfl (fun d => rfl) ?_
  refine y_nv ?_
  refine y_ret rfl (fun d => rfl) ?_
  refine y_nv ?_
  refine y_ld (x := .ref 8) rfl rfl (fun d => rfl) ?_
  refine y_gI (i := 3) (e := nb) rfl rfl rfl (hC 8 _ _ rfl) rfl rfl ?_
  refine y_in rfl rfl (fun d => rfl) ?_
  refine y_ret rfl (fun d => rfl) ?_
  refine y_nv ?_
  refine y_ret rfl (fun d => rfl) ?_
  refine y_nv ?_
  refine y_ret rfl (fun d => rfl) ?_
  exact k _ (fun k h8 h9 => by rw [v_up_ne h8, v_up_ne h9, v_up_ne h8, v_up_ne h9, v_up_ne h8, v_up_ne h9, v_up_ne h8, v_up_ne h8, v_up_ne h8, v_up_ne h8]) ⟨by show (0 : Int) ≤ 3; decide, by show (3 : Int) ≤ 20; decide⟩
set_option maxRecDepth 100000 in
set_option maxHeartbeats 4000000 in
theorem ca_5_2 (hC : ClF S) (hXb : X 1 = m_bodies) (hXa : X 2 = m_above) (h3X : X 3 = []) {b : Nat} {nb ln : Int} {x : Int32} (hb : b < 8) (hk : V (10 + 6 * b) 1 = 5) (hn : V (10 + 6 * b) 0 = nb) (k : ∀ V2, (∀ k, k ≠ 8 → k ≠ 9 → V2 k = V k) → 0 ≤ V2 8 1 ∧ V2 8 1 ≤ 20 → K u w (some (.int (acV 5 2 x nb ln))) S V2) : y_R X 30 61 u w [.ref 8, .ref (10 + 6 * b), iv ln, iv 2, .int x] S (v_up V 8 1 0) K := by
  refine y_ent (lv' := [(0, .ref 8), (1, .ref (10 + 6 * b)), (2, iv ln), (3, iv 2), (4, .int x)]) (Nat.le_of_ble_eq_true rfl) rfl ?_
  refine y_ld (x := .ref 8) rfl rfl (fun d => rfl) ?_
  refine y_ld (x := .ref (10 + 6 * b)) rfl rfl (fun d => rfl) ?_
  refine y_gI (i := 1) (e := 5) rfl rfl rfl (bx_ob hC (i := b) (by omega)) rfl (by rw [v_up_ne (by omega)]; exact hk) ?_
  refine y_pI (i := 2) rfl rfl rfl (hC 8 _ _ rfl) rfl rfl ?_
  refine y_ld (x := .ref 8) rfl rfl (fun d => rfl) ?_
  refine y_ld (x := .ref (10 + 6 * b)) rfl rfl (fun d => rfl) ?_
  refine y_gI (i := 0) (e := nb) rfl rfl rfl (bx_ob hC (i := b) (by omega)) rfl (by rw [v_up_ne (by omega), v_up_ne (by omega)]; exact hn) ?_
  refine y_pI (i := 3) rfl rfl rfl (hC 8 _ _ rfl) rfl rfl ?_
  refine y_ld (x := .ref 8) rfl rfl (fun d => rfl) ?_
  refine y_ld (x := iv ln) rfl rfl (fun d => rfl) ?_
  refine y_pI (i := 4) rfl rfl rfl (hC 8 _ _ rfl) rfl rfl ?_
  refine y_ld (x := .ref 8) rfl rfl (fun d => rfl) ?_
  refine y_ld (x := .ref 8) rfl rfl (fun d => rfl) ?_
  refine y_gI (i := 2) (e := 5) rfl rfl rfl (hC 8 _ _ rfl) rfl rfl ?_
  refine y_ld (x := iv 2) rfl rfl (fun d => rfl) ?_
  refine y_ld (x := .int x) rfl rfl (fun d => rfl) ?_
  refine y_ic rfl rfl ?_
  refine y_cV (D' := 29) (as := [.ref 8, iv 5, iv 2, .int x, iv 0]) rfl rfl rfl rfl rfl (hC 8 _ _ rfl) ⟨rfl, (Nat.le_of_ble_eq_true rfl), (Nat.le_of_ble_eq_true rfl)⟩ (by decide) ?_
  refine y_ent (lv' := [(0, .ref 8), (1, iv 5), (2, iv 2), (3, .int x), (4, iv 0)]) (Nat.le_of_ble_eq_true rfl) rfl ?_
  refine y_ld (x := iv 5) rfl rfl (fun d => rfl) ?_
  refine y_zlt rfl rfl rfl (by decide) (fun g1 => absurd g1 (by decide)) (fun g1 => ?_)
  refine y_ld (x := iv 5) rfl rfl (fun d => rfl) ?_
  refine y_bi rfl rfl (by decide) ?_
  refine y_jge rfl rfl rfl (by decide) (fun g2 => absurd g2 (by decide)) (fun g2 => ?_)
  refine y_ld (x := iv 0) rfl rfl (fun d => rfl) ?_
  refine y_bi rfl rfl (by decide) ?_
  refine y_jle rfl rfl rfl (by decide) (fun g3 => ?_) (fun g3 => absurd g3 (by decide))
  refine y_ld (x := iv 5) rfl rfl (fun d => rfl) ?_
  refine y_st (lv' := [(5, iv 5), (0, .ref 8), (1, iv 5), (2, iv 2), (3, .int x), (4, iv 0)]) rfl rfl (fun d => rfl) ?_
  refine y_ic rfl rfl ?_
  refine y_st (lv' := [(6, iv 0), (5, iv 5), (0, .ref 8), (1, iv 5), (2, iv 2), (3, .int x), (4, iv 0)]) rfl rfl (fun d => rfl) ?_
  refine y_ld (x := iv 0) rfl rfl (fun d => rfl) ?_
  refine y_bi rfl rfl (by decide) ?_
  refine y_jge rfl rfl rfl (by decide) (fun g4 => absurd g4 (by decide)) (fun g4 => ?_)
  refine y_ld (x := iv 5) rfl rfl (fun d => rfl) ?_
  refine y_zle rfl rfl rfl (by decide) (fun g5 => absurd g5 (by decide)) (fun g5 => ?_)
  refine y_in rfl rfl (fun d => rfl) ?_
  refine y_ld (x := iv 5) rfl rfl (fun d => rfl) ?_
  refine y_ic rfl rfl ?_
  refine y_mul (z := 15) rfl rfl rfl ?_
  refine y_ld (x := iv 2) rfl rfl (fun d => rfl) ?_
  refine y_add (z := 17) rfl rfl rfl ?_
  refine y_sti (n := 1) (i := 17) (f := 0) rfl rfl hXb h3X (by decide) rfl rfl ?_
  refine y_zeq rfl rfl rfl (by decide) (fun g6 => ?_) (fun g6 => absurd g6 (by decide))
  refine y_in rfl rfl (fun d => rfl) ?_
  refine y_ld (x := iv 5) rfl rfl (fun d => rfl) ?_
  refine y_sti (n := 2) (i := 5) (f := 3) rfl rfl hXa h3X (by decide) rfl rfl ?_
  refine y_st (lv' := [(5, iv 3), (6, iv 0), (0, .ref 8), (1, iv 5), (2, iv 2), (3, .int x), (4, iv 0)]) rfl rfl (fun d => rfl) ?_
  refine y_inc (z := 1) (lv' := [(6, iv 1), (5, iv 3), (0, .ref 8), (1, iv 5), (2, iv 2), (3, .int x), (4, iv 0)]) rfl rfl rfl rfl rfl ?_
  refine y_go rfl rfl ?_
  refine y_ld (x := iv 1) rfl rfl (fun d => rfl) ?_
  refine y_bi rfl rfl (by decide) ?_
  refine y_jge rfl rfl rfl (by decide) (fun g7 => absurd g7 (by decide)) (fun g7 => ?_)
  refine y_ld (x := iv 3) rfl rfl (fun d => rfl) ?_
  refine y_zle rfl rfl rfl (by decide) (fun g8 => absurd g8 (by decide)) (fun g8 => ?_)
  refine y_in rfl rfl (fun d => rfl) ?_
  refine y_ld (x := iv 3) rfl rfl (fun d => rfl) ?_
  refine y_ic rfl rfl ?_
  refine y_mul (z := 9) rfl rfl rfl ?_
  refine y_ld (x := iv 2) rfl rfl (fun d => rfl) ?_
  refine y_add (z := 11) rfl rfl rfl ?_
  refine y_sti (n := 1) (i := 11) (f := 31) rfl rfl hXb h3X (by decide) rfl rfl ?_
  refine y_zeq rfl rfl rfl (by decide) (fun g9 => absurd g9 (by decide)) (fun g9 => ?_)
  refine y_go rfl rfl ?_
  refine y_in rfl rfl (fun d => rfl) ?_
  refine y_ld (x := iv 3) rfl rfl (fun d => rfl) ?_
  refine y_ic rfl rfl ?_
  refine y_mul (z := 9) rfl rfl rfl ?_
  refine y_ld (x := iv 2) rfl rfl (fun d => rfl) ?_
  refine y_add (z := 11) rfl rfl rfl ?_
  refine y_sti (n := 1) (i := 11) (f := 31) rfl rfl hXb h3X (by decide) rfl rfl ?_
  refine y_st (lv' := [(6, iv 31), (5, iv 3), (0, .ref 8), (1, iv 5), (2, iv 2), (3, .int x), (4, iv 0)]) rfl rfl (fun d => rfl) ?_
  refine y_ld (x := .ref 8) rfl rfl (fun d => rfl) ?_
  refine y_gI (i := 1) (e := 0) rfl rfl rfl (hC 8 _ _ rfl) rfl rfl ?_
  refine y_bi rfl rfl (by decide) ?_
  refine y_jge rfl rfl rfl (by decide) (fun g10 => absurd g10 (by decide)) (fun g10 => ?_)
  refine y_ld (x := .ref 8) rfl rfl (fun d => rfl) ?_
  refine y_gR (i := 0) rfl rfl rfl (hC 8 _ _ rfl) rfl ?_
  refine y_ld (x := .ref 8) rfl rfl (fun d => rfl) ?_
  refine y_gI (i := 1) (e := 0) rfl rfl rfl (hC 8 _ _ rfl) rfl rfl ?_
  refine y_ld (x := iv 31) rfl rfl (fun d => rfl) ?_
  refine y_ist (q := 0) rfl rfl (cl_ia hC (k := 9) (N := 20) rfl) (by decide) (by decide) rfl ?_
  refine y_ld (x := .ref 8) rfl rfl (fun d => rfl) ?_
  refine y_in rfl rfl (fun d => rfl) ?_
  refine y_gI (i := 1) (e := 0) rfl rfl rfl (hC 8 _ _ rfl) rfl rfl ?_
  refine y_ic rfl rfl ?_
  refine y_add (z := 1) rfl rfl rfl ?_
  refine y_pI (i := 1) rfl rfl rfl (hC 8 _ _ rfl) rfl rfl ?_
  refine y_ld (x := .ref 8) rfl rfl (fun d => rfl) ?_
  refine y_ld (x := iv 31) rfl rfl (fun d => rfl) ?_
  refine y_in rfl rfl (fun d => rfl) ?_
  refine y_ld (x := iv 3) rfl rfl (fun d => rfl) ?_
  refine y_sti (n := 2) (i := 3) (f := 0) rfl rfl hXa h3X (by decide) rfl rfl ?_
  refine y_ld (x := .int x) rfl rfl (fun d => rfl) ?_
  refine y_ld (x := iv 0) rfl rfl (fun d => rfl) ?_
  refine y_ic rfl rfl ?_
  refine y_add (z := 1) rfl rfl rfl ?_
  refine y_cV (D' := 28) (as := [.ref 8, iv 31, iv 0, .int x, iv 1]) rfl rfl rfl rfl rfl (hC 8 _ _ rfl) ⟨rfl, (Nat.le_of_ble_eq_true rfl), (Nat.le_of_ble_eq_true rfl)⟩ (by decide) ?_
  refine y_ent (lv' := [(0, .ref 8), (1, iv 31), (2, iv 0), (3, .int x), (4, iv 1)]) (Nat.le_of_ble_eq_true rfl) rfl ?_
  refine y_ld (x := iv 31) rfl rfl (fun d => rfl) ?_
  refine y_in (pc' := 147) rfl rfl (fun d => rfl) ?_
  refine y_ld (x := .ref 8) rfl rfl (fun d => rfl) ?_
  refine y_ld (x := iv 0) rfl rfl (fun d => rfl) ?_
  refine y_ic rfl rfl ?_
  refine y_ld (x := .int x) rfl rfl (fun d => rfl) ?_
  refine y_ld (x := iv 1) rfl rfl (fun d => rfl) ?_
  refine y_cV (D' := 27) (as := [.ref 8, iv 0, iv 2, .int x, iv 1]) rfl rfl rfl rfl rfl (hC 8 _ _ rfl) ⟨rfl, (Nat.le_of_ble_eq_true rfl), (Nat.le_of_ble_eq_true rfl)⟩ (by decide) ?_
  refine y_ent (lv' := [(0, .ref 8), (1, iv 0), (2, iv 2), (3, .int x), (4, iv 1)]) (Nat.le_of_ble_eq_true rfl) rfl ?_
  refine y_ld (x := iv 0) rfl rfl (fun d => rfl) ?_
  refine y_zlt rfl rfl rfl (by decide) (fun g11 => absurd g11 (by decide)) (fun g11 => ?_)
  refine y_ld (x := iv 0) rfl rfl (fun d => rfl) ?_
  refine y_bi rfl rfl (by decide) ?_
  refine y_jge rfl rfl rfl (by decide) (fun g12 => absurd g12 (by decide)) (fun g12 => ?_)
  refine y_ld (x := iv 1) rfl rfl (fun d => rfl) ?_
  refine y_bi rfl rfl (by decide) ?_
  refine y_jle rfl rfl rfl (by decide) (fun g13 => ?_) (fun g13 => absurd g13 (by decide))
  refine y_ld (x := iv 0) rfl rfl (fun d => rfl) ?_
  refine y_st (lv' := [(5, iv 0), (0, .ref 8), (1, iv 0), (2, iv 2), (3, .int x), (4, iv 1)]) rfl rfl (fun d => rfl) ?_
  refine y_ic rfl rfl ?_
  refine y_st (lv' := [(6, iv 0), (5, iv 0), (0, .ref 8), (1, iv 0), (2, iv 2), (3, .int x), (4, iv 1)]) rfl rfl (fun d => rfl) ?_
  refine y_ld (x := iv 0) rfl rfl (fun d => rfl) ?_
  refine y_bi rfl rfl (by decide) ?_
  refine y_jge rfl rfl rfl (by decide) (fun g14 => absurd g14 (by decide)) (fun g14 => ?_)
  refine y_ld (x := iv 0) rfl rfl (fun d => rfl) ?_
  refine y_zle rfl rfl rfl (by decide) (fun g15 => ?_) (fun g15 => absurd g15 (by decide))
  refine y_in rfl rfl (fun d => rfl) ?_
  refine y_ld (x := iv 0) rfl rfl (fun d => rfl) ?_
  refine y_ic rfl rfl ?_
  refine y_mul (z := 0) rfl rfl rfl ?_
  refine y_ld (x := iv 2) rfl rfl (fun d => rfl) ?_
  refine y_add (z := 2) rfl rfl rfl ?_
  refine y_sti (n := 1) (i := 2) (f := 3) rfl rfl hXb h3X (by decide) rfl rfl ?_
  refine y_st (lv' := [(6, iv 3), (5, iv 0), (0, .ref 8), (1, iv 0), (2, iv 2), (3, .int x), (4, iv 1)]) rfl rfl (fun d => rfl) ?_
  refine y_ld (x := .ref 8) rfl rfl (fun d => rfl) ?_
  refine y_gI (i := 1) (e := 1) rfl rfl rfl (hC 8 _ _ rfl) rfl rfl ?_
  refine y_bi rfl rfl (by decide) ?_
  refine y_jge rfl rfl rfl (by decide) (fun g16 => absurd g16 (by decide)) (fun g16 => ?_)
  refine y_ld (x := .ref 8) rfl rfl (fun d => rfl) ?_
  refine y_gR (i := 0) rfl rfl rfl (hC 8 _ _ rfl) rfl ?_
  refine y_ld (x := .ref 8) rfl rfl (fun d => rfl) ?_
  refine y_gI (i := 1) (e := 1) rfl rfl rfl (hC 8 _ _ rfl) rfl rfl ?_
  refine y_ld (x := iv 3) rfl rfl (fun d => rfl) ?_
  refine y_ist (q := 1) rfl rfl (cl_ia hC (k := 9) (N := 20) rfl) (by decide) (by decide) rfl ?_
  refine y_ld (x := .ref 8) rfl rfl (fun d => rfl) ?_
  refine y_in rfl rfl (fun d => rfl) ?_
  refine y_gI (i := 1) (e := 1) rfl rfl rfl (hC 8 _ _ rfl) rfl rfl ?_
  refine y_ic rfl rfl ?_
  refine y_add (z := 2) rfl rfl rfl ?_
  refine y_pI (i := 1) rfl rfl rfl (hC 8 _ _ rfl) rfl rfl ?_
  refine y_ld (x := .ref 8) rfl rfl (fun d => rfl) ?_
  refine y_ld (x := iv 3) rfl rfl (fun d => rfl) ?_
  refine y_in rfl rfl (fun d => rfl) ?_
  refine y_ld (x := iv 0) rfl rfl (fun d => rfl) ?_
  refine y_sti (n := 2) (i := 0) (f := (-1)) rfl rfl hXa h3X (by decide) rfl rfl ?_
  refine y_ld (x := .int x) rfl rfl (fun d => rfl) ?_
  refine y_ld (x := iv 1) rfl rfl (fun d => rfl) ?_
  refine y_ic rfl rfl ?_
  refine y_add (z := 2) rfl rfl rfl ?_
  refine y_cV (D' := 26) (as := [.ref 8, iv 3, iv (-1), .int x, iv 2]) rfl rfl rfl rfl rfl (hC 8 _ _ rfl) ⟨rfl, (Nat.le_of_ble_eq_true rfl), (Nat.le_of_ble_eq_true rfl)⟩ (by decide) ?_
  refine y_ent (lv' := [(0, .ref 8), (1, iv 3), (2, iv (-1)), (3, .int x), (4, iv 2)]) (Nat.le_of_ble_eq_true rfl) rfl ?_
  refine y_ld (x := iv 3) rfl rfl (fun d => rfl) ?_
  refine y_in (pc' := 109) rfl rfl (fun d => rfl) ?_
  refine y_ld (x := .ref 8) rfl rfl (fun d => rfl) ?_
  refine y_ld (x := .ref 8) rfl rfl (fun d => rfl) ?_
  refine y_gI (i := 2) (e := 5) rfl rfl rfl (hC 8 _ _ rfl) rfl rfl ?_
  refine y_ic rfl rfl ?_
  refine y_ld (x := .int x) rfl rfl (fun d => rfl) ?_
  refine y_ld (x := iv 2) rfl rfl (fun d => rfl) ?_
  refine y_cV (D' := 25) (as := [.ref 8, iv 5, iv 1, .int x, iv 2]) rfl rfl rfl rfl rfl (hC 8 _ _ rfl) ⟨rfl, (Nat.le_of_ble_eq_true rfl), (Nat.le_of_ble_eq_true rfl)⟩ (by decide) ?_
  refine y_ent (lv' := [(0, .ref 8), (1, iv 5), (2, iv 1), (3, .int x), (4, iv 2)]) (Nat.le_of_ble_eq_true rfl) rfl ?_
  refine y_ld (x := iv 5) rfl rfl (fun d => rfl) ?_
  refine y_zlt rfl rfl rfl (by decide) (fun g17 => absurd g17 (by decide)) (fun g17 => ?_)
  refine y_ld (x := iv 5) rfl rfl (fun d => rfl) ?_
  refine y_bi rfl rfl (by decide) ?_
  refine y_jge rfl rfl rfl (by decide) (fun g18 => absurd g18 (by decide)) (fun g18 => ?_)
  refine y_ld (x := iv 2) rfl rfl (fun d => rfl) ?_
  refine y_bi rfl rfl (by decide) ?_
  refine y_jle rfl rfl rfl (by decide) (fun g19 => ?_) (fun g19 => absurd g19 (by decide))
  refine y_ld (x := iv 5) rfl rfl (fun d => rfl) ?_
  refine y_st (lv' := [(5, iv 5), (0, .ref 8), (1, iv 5), (2, iv 1), (3, .int x), (4, iv 2)]) rfl rfl (fun d => rfl) ?_
  refine y_ic rfl rfl ?_
  refine y_st (lv' := [(6, iv 0), (5, iv 5), (0, .ref 8), (1, iv 5), (2, iv 1), (3, .int x), (4, iv 2)]) rfl rfl (fun d => rfl) ?_
  refine y_ld (x := iv 0) rfl rfl (fun d => rfl) ?_
  refine y_bi rfl rfl (by decide) ?_
  refine y_jge rfl rfl rfl (by decide) (fun g20 => absurd g20 (by decide)) (fun g20 => ?_)
  refine y_ld (x := iv 5) rfl rfl (fun d => rfl) ?_
  refine y_zle rfl rfl rfl (by decide) (fun g21 => absurd g21 (by decide)) (fun g21 => ?_)
  refine y_in rfl rfl (fun d => rfl) ?_
  refine y_ld (x := iv 5) rfl rfl (fun d => rfl) ?_
  refine y_ic rfl rfl ?_
  refine y_mul (z := 15) rfl rfl rfl ?_
  refine y_ld (x := iv 1) rfl rfl (fun d => rfl) ?_
  refine y_add (z := 16) rfl rfl rfl ?_
  refine y_sti (n := 1) (i := 16) (f := 51) rfl rfl hXb h3X (by decide) rfl rfl ?_
  refine y_zeq rfl rfl rfl (by decide) (fun g22 => absurd g22 (by decide)) (fun g22 => ?_)
  refine y_go rfl rfl ?_
  refine y_in rfl rfl (fun d => rfl) ?_
  refine y_ld (x := iv 5) rfl rfl (fun d => rfl) ?_
  refine y_ic rfl rfl ?_
  refine y_mul (z := 15) rfl rfl rfl ?_
  refine y_ld (x := iv 1) rfl rfl (fun d => rfl) ?_
  refine y_add (z := 16) rfl rfl rfl ?_
  refine y_sti (n := 1) (i := 16) (f := 51) rfl rfl hXb h3X (by decide) rfl rfl ?_
  refine y_st (lv' := [(6, iv 51), (5, iv 5), (0, .ref 8), (1, iv 5), (2, iv 1), (3, .int x), (4, iv 2)]) rfl rfl (fun d => rfl) ?_
  refine y_ld (x := .ref 8) rfl rfl (fun d => rfl) ?_
  refine y_gI (i := 1) (e := 2) rfl rfl rfl (hC 8 _ _ rfl) rfl rfl ?_
  refine y_bi rfl rfl (by decide) ?_
  refine y_jge rfl rfl rfl (by decide) (fun g23 => absurd g23 (by decide)) (fun g23 => ?_)
  refine y_ld (x := .ref 8) rfl rfl (fun d => rfl) ?_
  refine y_gR (i := 0) rfl rfl rfl (hC 8 _ _ rfl) rfl ?_
  refine y_ld (x := .ref 8) rfl rfl (fun d => rfl) ?_
  refine y_gI (i := 1) (e := 2) rfl rfl rfl (hC 8 _ _ rfl) rfl rfl ?_
  refine y_ld (x := iv 51) rfl rfl (fun d => rfl) ?_
  refine y_ist (q := 2) rfl rfl (cl_ia hC (k := 9) (N := 20) rfl) (by decide) (by decide) rfl ?_
  refine y_ld (x := .ref 8) rfl rfl (fun d => rfl) ?_
  refine y_in rfl rfl (fun d => rfl) ?_
  refine y_gI (i := 1) (e := 2) rfl rfl rfl (hC 8 _ _ rfl) rfl rfl ?_
  refine y_ic rfl rfl ?_
  refine y_add (z := 3) rfl rfl rfl ?_
  refine y_pI (i := 1) rfl rfl rfl (hC 8 _ _ rfl) rfl rfl ?_
  refine y_ld (x := .ref 8) rfl rfl (fun d => rfl) ?_
  refine y_ld (x := iv 51) rfl rfl (fun d => rfl) ?_
  refine y_in rfl rfl (fun d => rfl) ?_
  refine y_ld (x := iv 5) rfl rfl (fun d => rfl) ?_
  refine y_sti (n := 2) (i := 5) (f := 3) rfl rfl hXa h3X (by decide) rfl rfl ?_
  refine y_ld (x := .int x) rfl rfl (fun d => rfl) ?_
  refine y_ld (x := iv 2) rfl rfl (fun d => rfl) ?_
  refine y_ic rfl rfl ?_
  refine y_add (z := 3) rfl rfl rfl ?_
  refine y_cV (D' := 24) (as := [.ref 8, iv 51, iv 3, .int x, iv 3]) rfl rfl rfl rfl rfl (hC 8 _ _ rfl) ⟨rfl, (Nat.le_of_ble_eq_true rfl), (Nat.le_of_ble_eq_true rfl)⟩ (by decide) ?_
  refine y_ent (lv' := [(0, .ref 8), (1, iv 51), (2, iv 3), (3, .int x), (4, iv 3)]) (Nat.le_of_ble_eq_true rfl) rfl ?_
  refine y_ld (x := iv 51) rfl rfl (fun d => rfl) ?_
  refine y_in (pc' := 184) rfl rfl (fun d => rfl) ?_
  refine y_ld (x := .ref 8) rfl rfl (fun d => rfl) ?_
  refine y_ld (x := iv 3) rfl rfl (fun d => rfl) ?_
  refine y_ic rfl rfl ?_
  refine y_ld (x := .int x) rfl rfl (fun d => rfl) ?_
  refine y_ld (x := iv 3) rfl rfl (fun d => rfl) ?_
  refine y_cV (D' := 23) (as := [.ref 8, iv 3, iv 1, .int x, iv 3]) rfl rfl rfl rfl rfl (hC 8 _ _ rfl) ⟨rfl, (Nat.le_of_ble_eq_true rfl), (Nat.le_of_ble_eq_true rfl)⟩ (by decide) ?_
  refine y_ent (lv' := [(0, .ref 8), (1, iv 3), (2, iv 1), (3, .int x), (4, iv 3)]) (Nat.le_of_ble_eq_true rfl) rfl ?_
  refine y_ld (x := iv 3) rfl rfl (fun d => rfl) ?_
  refine y_zlt rfl rfl rfl (by decide) (fun g24 => absurd g24 (by decide)) (fun g24 => ?_)
  refine y_ld (x := iv 3) rfl rfl (fun d => rfl) ?_
  refine y_bi rfl rfl (by decide) ?_
  refine y_jge rfl rfl rfl (by decide) (fun g25 => absurd g25 (by decide)) (fun g25 => ?_)
  refine y_ld (x := iv 3) rfl rfl (fun d => rfl) ?_
  refine y_bi rfl rfl (by decide) ?_
  refine y_jle rfl rfl rfl (by decide) (fun g26 => ?_) (fun g26 => absurd g26 (by decide))
  refine y_ld (x := iv 3) rfl rfl (fun d => rfl) ?_
  refine y_st (lv' := [(5, iv 3), (0, .ref 8), (1, iv 3), (2, iv 1), (3, .int x), (4, iv 3)]) rfl rfl (fun d => rfl) ?_
  refine y_ic rfl rfl ?_
  refine y_st (lv' := [(6, iv 0), (5, iv 3), (0, .ref 8), (1, iv 3), (2, iv 1), (3, .int x), (4, iv 3)]) rfl rfl (fun d => rfl) ?_
  refine y_ld (x := iv 0) rfl rfl (fun d => rfl) ?_
  refine y_bi rfl rfl (by decide) ?_
  refine y_jge rfl rfl rfl (by decide) (fun g27 => absurd g27 (by decide)) (fun g27 => ?_)
  refine y_ld (x := iv 3) rfl rfl (fun d => rfl) ?_
  refine y_zle rfl rfl rfl (by decide) (fun g28 => absurd g28 (by decide)) (fun g28 => ?_)
  refine y_in rfl rfl (fun d => rfl) ?_
  refine y_ld (x := iv 3) rfl rfl (fun d => rfl) ?_
  refine y_ic rfl rfl ?_
  refine y_mul (z := 9) rfl rfl rfl ?_
  refine y_ld (x := iv 1) rfl rfl (fun d => rfl) ?_
  refine y_add (z := 10) rfl rfl rfl ?_
  refine y_sti (n := 1) (i := 10) (f := 0) rfl rfl hXb h3X (by decide) rfl rfl ?_
  refine y_zeq rfl rfl rfl (by decide) (fun g29 => ?_) (fun g29 => absurd g29 (by decide))
  refine y_in rfl rfl (fun d => rfl) ?_
  refine y_ld (x := iv 3) rfl rfl (fun d => rfl) ?_
  refine y_sti (n := 2) (i := 3) (f := 0) rfl rfl hXa h3X (by decide) rfl rfl ?_
  refine y_st (lv' := [(5, iv 0), (6, iv 0), (0, .ref 8), (1, iv 3), (2, iv 1), (3, .int x), (4, iv 3)]) rfl rfl (fun d => rfl) ?_
  refine y_inc (z := 1) (lv' := [(6, iv 1), (5, iv 0), (0, .ref 8), (1, iv 3), (2, iv 1), (3, .int x), (4, iv 3)]) rfl rfl rfl rfl rfl ?_
  refine y_go rfl rfl ?_
  refine y_ld (x := iv 1) rfl rfl (fun d => rfl) ?_
  refine y_bi rfl rfl (by decide) ?_
  refine y_jge rfl rfl rfl (by decide) (fun g30 => absurd g30 (by decide)) (fun g30 => ?_)
  refine y_ld (x := iv 0) rfl rfl (fun d => rfl) ?_
  refine y_zle rfl rfl rfl (by decide) (fun g31 => ?_) (fun g31 => absurd g31 (by decide))
  refine y_in rfl rfl (fun d => rfl) ?_
  refine y_ld (x := iv 0) rfl rfl (fun d => rfl) ?_
  refine y_ic rfl rfl ?_
  refine y_mul (z := 0) rfl rfl rfl ?_
  refine y_ld (x := iv 1) rfl rfl (fun d => rfl) ?_
  refine y_add (z := 1) rfl rfl rfl ?_
  refine y_sti (n := 1) (i := 1) (f := 2) rfl rfl hXb h3X (by decide) rfl rfl ?_
  refine y_st (lv' := [(6, iv 2), (5, iv 0), (0, .ref 8), (1, iv 3), (2, iv 1), (3, .int x), (4, iv 3)]) rfl rfl (fun d => rfl) ?_
  refine y_ld (x := .ref 8) rfl rfl (fun d => rfl) ?_
  refine y_gI (i := 1) (e := 3) rfl rfl rfl (hC 8 _ _ rfl) rfl rfl ?_
  refine y_bi rfl rfl (by decide) ?_
  refine y_jge rfl rfl rfl (by decide) (fun g32 => absurd g32 (by decide)) (fun g32 => ?_)
  refine y_ld (x := .ref 8) rfl rfl (fun d => rfl) ?_
  refine y_gR (i := 0) rfl rfl rfl (hC 8 _ _ rfl) rfl ?_
  refine y_ld (x := .ref 8) rfl rfl (fun d => rfl) ?_
  refine y_gI (i := 1) (e := 3) rfl rfl rfl (hC 8 _ _ rfl) rfl rfl ?_
  refine y_ld (x := iv 2) rfl rfl (fun d => rfl) ?_
  refine y_ist (q := 3) rfl rfl (cl_ia hC (k := 9) (N := 20) rfl) (by decide) (by decide) rfl ?_
  refine y_ld (x := .ref 8) rfl rfl (fun d => rfl) ?_
  refine y_in rfl rfl (fun d => rfl) ?_
  refine y_gI (i := 1) (e := 3) rfl rfl rfl (hC 8 _ _ rfl) rfl rfl ?_
  refine y_ic rfl rfl ?_
  refine y_add (z := 4) rfl rfl rfl ?_
  refine y_pI (i := 1) rfl rfl rfl (hC 8 _ _ rfl) rfl rfl ?_
  refine y_ld (x := .ref 8) rfl rfl (fun d => rfl) ?_
  refine y_ld (x := iv 2) rfl rfl (fun d => rfl) ?_
  refine y_in rfl rfl (fun d => rfl) ?_
  refine y_ld (x := iv 0) rfl rfl (fun d => rfl) ?_
  refine y_sti (n := 2) (i := 0) (f := (-1)) rfl rfl hXa h3X (by decide) rfl rfl ?_
  refine y_ld (x := .int x) rfl rfl (fun d => rfl) ?_
  refine y_ld (x := iv 3) rfl rfl (fun d => rfl) ?_
  refine y_ic rfl rfl ?_
  refine y_add (z := 4) rfl rfl rfl ?_
  refine y_cV (D' := 22) (as := [.ref 8, iv 2, iv (-1), .int x, iv 4]) rfl rfl rfl rfl rfl (hC 8 _ _ rfl) ⟨rfl, (Nat.le_of_ble_eq_true rfl), (Nat.le_of_ble_eq_true rfl)⟩ (by decide) ?_
  refine y_ent (lv' := [(0, .ref 8), (1, iv 2), (2, iv (-1)), (3, .int x), (4, iv 4)]) (Nat.le_of_ble_eq_true rfl) rfl ?_
  refine y_ld (x := iv 2) rfl rfl (fun d => rfl) ?_
  refine y_in (pc' := 91) rfl rfl (fun d => rfl) ?_
  refine y_ld (x := .ref 8) rfl rfl (fun d => rfl) ?_
  refine y_ld (x := .ref 8) rfl rfl (fun d => rfl) ?_
  refine y_gI (i := 2) (e := 5) rfl rfl rfl (hC 8 _ _ rfl) rfl rfl ?_
  refine y_ic rfl rfl ?_
  refine y_ld (x := .int x) rfl rfl (fun d => rfl) ?_
  refine y_ld (x := iv 4) rfl rfl (fun d => rfl) ?_
  refine y_cV (D' := 21) (as := [.ref 8, iv 5, iv 0, .int x, iv 4]) rfl rfl rfl rfl rfl (hC 8 _ _ rfl) ⟨rfl, (Nat.le_of_ble_eq_true rfl), (Nat.le_of_ble_eq_true rfl)⟩ (by decide) ?_
  refine y_ent (lv' := [(0, .ref 8), (1, iv 5), (2, iv 0), (3, .int x), (4, iv 4)]) (Nat.le_of_ble_eq_true rfl) rfl ?_
  refine y_ld (x := iv 5) rfl rfl (fun d => rfl) ?_
  refine y_zlt rfl rfl rfl (by decide) (fun g33 => absurd g33 (by decide)) (fun g33 => ?_)
  refine y_ld (x := iv 5) rfl rfl (fun d => rfl) ?_
  refine y_bi rfl rfl (by decide) ?_
  refine y_jge rfl rfl rfl (by decide) (fun g34 => absurd g34 (by decide)) (fun g34 => ?_)
  refine y_ld (x := iv 4) rfl rfl (fun d => rfl) ?_
  refine y_bi rfl rfl (by decide) ?_
  refine y_jle rfl rfl rfl (by decide) (fun g35 => ?_) (fun g35 => absurd g35 (by decide))
  refine y_ld (x := iv 5) rfl rfl (fun d => rfl) ?_
  refine y_st (lv' := [(5, iv 5), (0, .ref 8), (1, iv 5), (2, iv 0), (3, .int x), (4, iv 4)]) rfl rfl (fun d => rfl) ?_
  refine y_ic rfl rfl ?_
  refine y_st (lv' := [(6, iv 0), (5, iv 5), (0, .ref 8), (1, iv 5), (2, iv 0), (3, .int x), (4, iv 4)]) rfl rfl (fun d => rfl) ?_
  refine y_ld (x := iv 0) rfl rfl (fun d => rfl) ?_
  refine y_bi rfl rfl (by decide) ?_
  refine y_jge rfl rfl rfl (by decide) (fun g36 => absurd g36 (by decide)) (fun g36 => ?_)
  refine y_ld (x := iv 5) rfl rfl (fun d => rfl) ?_
  refine y_zle rfl rfl rfl (by decide) (fun g37 => absurd g37 (by decide)) (fun g37 => ?_)
  refine y_in rfl rfl (fun d => rfl) ?_
  refine y_ld (x := iv 5) rfl rfl (fun d => rfl) ?_
  refine y_ic rfl rfl ?_
  refine y_mul (z := 15) rfl rfl rfl ?_
  refine y_ld (x := iv 0) rfl rfl (fun d => rfl) ?_
  refine y_add (z := 15) rfl rfl rfl ?_
  refine y_sti (n := 1) (i := 15) (f := 0) rfl rfl hXb h3X (by decide) rfl rfl ?_
  refine y_zeq rfl rfl rfl (by decide) (fun g38 => ?_) (fun g38 => absurd g38 (by decide))
  refine y_in rfl rfl (fun d => rfl) ?_
  refine y_ld (x := iv 5) rfl rfl (fun d => rfl) ?_
  refine y_sti (n := 2) (i := 5) (f := 3) rfl rfl hXa h3X (by decide) rfl rfl ?_
  refine y_st (lv' := [(5, iv 3), (6, iv 0), (0, .ref 8), (1, iv 5), (2, iv 0), (3, .int x), (4, iv 4)]) rfl rfl (fun d => rfl) ?_
  refine y_inc (z := 1) (lv' := [(6, iv 1), (5, iv 3), (0, .ref 8), (1, iv 5), (2, iv 0), (3, .int x), (4, iv 4)]) rfl rfl rfl rfl rfl ?_
  refine y_go rfl rfl ?_
  refine y_ld (x := iv 1) rfl rfl (fun d => rfl) ?_
  refine y_bi rfl rfl (by decide) ?_
  refine y_jge rfl rfl rfl (by decide) (fun g39 => absurd g39 (by decide)) (fun g39 => ?_)
  refine y_ld (x := iv 3) rfl rfl (fun d => rfl) ?_
  refine y_zle rfl rfl rfl (by decide) (fun g40 => absurd g40 (by decide)) (fun g40 => ?_)
  refine y_in rfl rfl (fun d => rfl) ?_
  refine y_ld (x := iv 3) rfl rfl (fun d => rfl) ?_
  refine y_ic rfl rfl ?_
  refine y_mul (z := 9) rfl rfl rfl ?_
  refine y_ld (x := iv 0) rfl rfl (fun d => rfl) ?_
  refine y_add (z := 9) rfl rfl rfl ?_
  refine y_sti (n := 1) (i := 9) (f := 0) rfl rfl hXb h3X (by decide) rfl rfl ?_
  refine y_zeq rfl rfl rfl (by decide) (fun g41 => ?_) (fun g41 => absurd g41 (by decide))
  refine y_in rfl rfl (fun d => rfl) ?_
  refine y_ld (x := iv 3) rfl rfl (fun d => rfl) ?_
  refine y_sti (n := 2) (i := 3) (f := 0) rfl rfl hXa h3X (by decide) rfl rfl ?_
  refine y_st (lv' := [(5, iv 0), (6, iv 1), (0, .ref 8), (1, iv 5), (2, iv 0), (3, .int x), (4, iv 4)]) rfl rfl (fun d => rfl) ?_
  refine y_inc (z := 2) (lv' := [(6, iv 2), (5, iv 0), (0, .ref 8), (1, iv 5), (2, iv 0), (3, .int x), (4, iv 4)]) rfl rfl rfl rfl rfl ?_
  refine y_go rfl rfl ?_
  refine y_ld (x := iv 2) rfl rfl (fun d => rfl) ?_
  refine y_bi rfl rfl (by decide) ?_
  refine y_jge rfl rfl rfl (by decide) (fun g42 => absurd g42 (by decide)) (fun g42 => ?_)
  refine y_ld (x := iv 0) rfl rfl (fun d => rfl) ?_
  refine y_zle rfl rfl rfl (by decide) (fun g43 => ?_) (fun g43 => absurd g43 (by decide))
  refine y_in rfl rfl (fun d => rfl) ?_
  refine y_ld (x := iv 0) rfl rfl (fun d => rfl) ?_
  refine y_ic rfl rfl ?_
  refine y_mul (z := 0) rfl rfl rfl ?_
  refine y_ld (x := iv 0) rfl rfl (fun d => rfl) ?_
  refine y_add (z := 0) rfl rfl rfl ?_
  refine y_sti (n := 1) (i := 0) (f := 1) rfl rfl hXb h3X (by decide) rfl rfl ?_
  refine y_st (lv' := [(6, iv 1), (5, iv 0), (0, .ref 8), (1, iv 5), (2, iv 0), (3, .int x), (4, iv 4)]) rfl rfl (fun d => rfl) ?_
  refine y_ld (x := .ref 8) rfl rfl (fun d => rfl) ?_
  refine y_gI (i := 1) (e := 4) rfl rfl rfl (hC 8 _ _ rfl) rfl rfl ?_
  refine y_bi rfl rfl (by decide) ?_
  refine y_jge rfl rfl rfl (by decide) (fun g44 => absurd g44 (by decide)) (fun g44 => ?_)
  refine y_ld (x := .ref 8) rfl rfl (fun d => rfl) ?_
  refine y_gR (i := 0) rfl rfl rfl (hC 8 _ _ rfl) rfl ?_
  refine y_ld (x := .ref 8) rfl rfl (fun d => rfl) ?_
  refine y_gI (i := 1) (e := 4) rfl rfl rfl (hC 8 _ _ rfl) rfl rfl ?_
  refine y_ld (x := iv 1) rfl rfl (fun d => rfl) ?_
  refine y_ist (q := 4) rfl rfl (cl_ia hC (k := 9) (N := 20) rfl) (by decide) (by decide) rfl ?_
  refine y_ld (x := .ref 8) rfl rfl (fun d => rfl) ?_
  refine y_in rfl rfl (fun d => rfl) ?_
  refine y_gI (i := 1) (e := 4) rfl rfl rfl (hC 8 _ _ rfl) rfl rfl ?_
  refine y_ic rfl rfl ?_
  refine y_add (z := 5) rfl rfl rfl ?_
  refine y_pI (i := 1) rfl rfl rfl (hC 8 _ _ rfl) rfl rfl ?_
  refine y_ld (x := .ref 8) rfl rfl (fun d => rfl) ?_
  refine y_ld (x := iv 1) rfl rfl (fun d => rfl) ?_
  refine y_in rfl rfl (fun d => rfl) ?_
  refine y_ld (x := iv 0) rfl rfl (fun d => rfl) ?_
  refine y_sti (n := 2) (i := 0) (f := (-1)) rfl rfl hXa h3X (by decide) rfl rfl ?_
  refine y_ld (x := .int x) rfl rfl (fun d => rfl) ?_
  refine y_ld (x := iv 4) rfl rfl (fun d => rfl) ?_
  refine y_ic rfl rfl ?_
  refine y_add (z := 5) rfl rfl rfl ?_
  refine y_cV (D' := 20) (as := [.ref 8, iv 1, iv (-1), .int x, iv 5]) rfl rfl rfl rfl rfl (hC 8 _ _ rfl) ⟨rfl, (Nat.le_of_ble_eq_true rfl), (Nat.le_of_ble_eq_true rfl)⟩ (by decide) ?_
  refine y_ent (lv' := [(0, .ref 8), (1, iv 1), (2, iv (-1)), (3, .int x), (4, iv 5)]) (Nat.le_of_ble_eq_true rfl) rfl ?_
  refine y_ld (x := iv 1) rfl rfl (fun d => rfl) ?_
  refine y_in (pc' := 84) rfl rfl (fun d => rfl) ?_
  refine y_ld (x := .int x) rfl rfl (fun d => rfl) ?_
  refine y_ld (x := .ref 8) rfl rfl (fun d => rfl) ?_
  refine y_gI (i := 3) (e := nb) rfl rfl rfl (hC 8 _ _ rfl) rfl rfl ?_
  refine y_in rfl rfl (fun d => rfl) ?_
  refine y_ret rfl (fun d => rfl) ?_
  refine y_nv ?_
  refine y_ret rfl (fun d => rfl) ?_
  refine y_nv ?_
  refine y_ld (x := .ref 8) rfl rfl (fun d => rfl) ?_
  refine y_gI (i := 4) (e := ln) rfl rfl rfl (hC 8 _ _ rfl) rfl rfl ?_
  refine y_in rfl rfl (fun d => rfl) ?_
  refine y_ret rfl (fun d => rfl) ?_
  refine y_nv ?_
  refine y_ret rfl (fun d => rfl) ?_
  refine y_nv ?_
  refine y_ld (x := .ref 8) rfl rfl (fun d => rfl) ?_
  refine y_gI (i := 3) (e := nb) rfl rfl rfl (hC 8 _ _ rfl) rfl rfl ?_
  refine y_in rfl rfl (fun d => rfl) ?_
  refine y_ret rfl (fun d => rfl) ?_
  refine y_nv ?_
  refine y_ret rfl (fun d => rfl) ?_
  refine y_nv ?_
  refine y_ic rfl rfl ?_
  refine y_in rfl rfl (fun d => rfl) ?_
  refine y_ret rfl (fun d => rfl) ?_
  refine y_nv ?_
  refine y_ret rfl (fun d => rfl) ?_
  refine y_nv ?_
  refine y_ic rfl rfl ?_
  refine y_in rfl rfl (fun d => rfl) ?_
  refine y_ret rfl (fun d => rfl) ?_
  refine y_nv ?_
  refine y_ret rfl (fun d => rfl) ?_
  refine y_nv ?_
  refine y_ret rfl (fun d => rfl) ?_
  exact k _ (fun k h8 h9 => by rw [v_up_ne h8, v_up_ne h9, v_up_ne h8, v_up_ne h9, v_up_ne h8, v_up_ne h9, v_up_ne h8, v_up_ne h9, v_up_ne h8, v_up_ne h9, v_up_ne h8, v_up_ne h8, v_up_ne h8, v_up_ne h8]) ⟨by show (0 : Int) ≤ 5; decide, by show (5 : Int) ≤ 20; decide⟩
set_option maxRecDepth 100000 in
set_option maxHeartbeats 4000000 in
theorem ca_6_0 (hC : ClF S) (hXb : X 1 = m_bodies) (hXa : X 2 = m_above) (h3X : X 3 = []) {b : Nat} {nb ln : Int} {x : Int32} (hb : b < 8) (hk : V (10 + 6 * b) 1 = 6) (hn : V (10 + 6 * b) 0 = nb) (k : ∀ V2, (∀ k, k ≠ 8 → k ≠ 9 → V2 k = V k) → 0 ≤ V2 8 1 ∧ V2 8 1 ≤ 20 → K u w (some (.int (acV 6 0 x nb ln))) S V2) : y_R X 30 61 u w [.ref 8, .ref (10 + 6 * b), iv ln, iv 0, .int x] S (v_up V 8 1 0) K := by
  refine y_ent (lv' := [(0, .ref 8), (1, .ref (10 + 6 * b)), (2, iv ln), (3, iv 0), (4, .int x)]) (Nat.le_of_ble_eq_true rfl) rfl ?_
  refine y_ld (x := .ref 8) rfl rfl (fun d => rfl) ?_
  refine y_ld (x := .ref (10 + 6 * b)) rfl rfl (fun d => rfl) ?_
  refine y_gI (i := 1) (e := 6) rfl rfl rfl (bx_ob hC (i := b) (by omega)) rfl (by rw [v_up_ne (by omega)]; exact hk) ?_
  refine y_pI (i := 2) rfl rfl rfl (hC 8 _ _ rfl) rfl rfl ?_
  refine y_ld (x := .ref 8) rfl rfl (fun d => rfl) ?_
  refine y_ld (x := .ref (10 + 6 * b)) rfl rfl (fun d => rfl) ?_
  refine y_gI (i := 0) (e := nb) rfl rfl rfl (bx_ob hC (i := b) (by omega)) rfl (by rw [v_up_ne (by omega), v_up_ne (by omega)]; exact hn) ?_
  refine y_pI (i := 3) rfl rfl rfl (hC 8 _ _ rfl) rfl rfl ?_
  refine y_ld (x := .ref 8) rfl rfl (fun d => rfl) ?_
  refine y_ld (x := iv ln) rfl rfl (fun d => rfl) ?_
  refine y_pI (i := 4) rfl rfl rfl (hC 8 _ _ rfl) rfl rfl ?_
  refine y_ld (x := .ref 8) rfl rfl (fun d => rfl) ?_
  refine y_ld (x := .ref 8) rfl rfl (fun d => rfl) ?_
  refine y_gI (i := 2) (e := 6) rfl rfl rfl (hC 8 _ _ rfl) rfl rfl ?_
  refine y_ld (x := iv 0) rfl rfl (fun d => rfl) ?_
  refine y_ld (x := .int x) rfl rfl (fun d => rfl) ?_
  refine y_ic rfl rfl ?_
  refine y_cV (D' := 29) (as := [.ref 8, iv 6, iv 0, .int x, iv 0]) rfl rfl rfl rfl rfl (hC 8 _ _ rfl) ⟨rfl, (Nat.le_of_ble_eq_true rfl), (Nat.le_of_ble_eq_true rfl)⟩ (by decide) ?_
  refine y_ent (lv' := [(0, .ref 8), (1, iv 6), (2, iv 0), (3, .int x), (4, iv 0)]) (Nat.le_of_ble_eq_true rfl) rfl ?_
  refine y_ld (x := iv 6) rfl rfl (fun d => rfl) ?_
  refine y_zlt rfl rfl rfl (by decide) (fun g1 => absurd g1 (by decide)) (fun g1 => ?_)
  refine y_ld (x := iv 6) rfl rfl (fun d => rfl) ?_
  refine y_bi rfl rfl (by decide) ?_
  refine y_jge rfl rfl rfl (by decide) (fun g2 => absurd g2 (by decide)) (fun g2 => ?_)
  refine y_ld (x := iv 0) rfl rfl (fun d => rfl) ?_
  refine y_bi rfl rfl (by decide) ?_
  refine y_jle rfl rfl rfl (by decide) (fun g3 => ?_) (fun g3 => absurd g3 (by decide))
  refine y_ld (x := iv 6) rfl rfl (fun d => rfl) ?_
  refine y_st (lv' := [(5, iv 6), (0, .ref 8), (1, iv 6), (2, iv 0), (3, .int x), (4, iv 0)]) rfl rfl (fun d => rfl) ?_
  refine y_ic rfl rfl ?_
  refine y_st (lv' := [(6, iv 0), (5, iv 6), (0, .ref 8), (1, iv 6), (2, iv 0), (3, .int x), (4, iv 0)]) rfl rfl (fun d => rfl) ?_
  refine y_ld (x := iv 0) rfl rfl (fun d => rfl) ?_
  refine y_bi rfl rfl (by decide) ?_
  refine y_jge rfl rfl rfl (by decide) (fun g4 => absurd g4 (by decide)) (fun g4 => ?_)
  refine y_ld (x := iv 6) rfl rfl (fun d => rfl) ?_
  refine y_zle rfl rfl rfl (by decide) (fun g5 => absurd g5 (by decide)) (fun g5 => ?_)
  refine y_in rfl rfl (fun d => rfl) ?_
  refine y_ld (x := iv 6) rfl rfl (fun d => rfl) ?_
  refine y_ic rfl rfl ?_
  refine y_mul (z := 18) rfl rfl rfl ?_
  refine y_ld (x := iv 0) rfl rfl (fun d => rfl) ?_
  refine y_add (z := 18) rfl rfl rfl ?_
  refine y_sti (n := 1) (i := 18) (f := 61) rfl rfl hXb h3X (by decide) rfl rfl ?_
  refine y_zeq rfl rfl rfl (by decide) (fun g6 => absurd g6 (by decide)) (fun g6 => ?_)
  refine y_go rfl rfl ?_
  refine y_in rfl rfl (fun d => rfl) ?_
  refine y_ld (x := iv 6) rfl rfl (fun d => rfl) ?_
  refine y_ic rfl rfl ?_
  refine y_mul (z := 18) rfl rfl rfl ?_
  refine y_ld (x := iv 0) rfl rfl (fun d => rfl) ?_
  refine y_add (z := 18) rfl rfl rfl ?_
  refine y_sti (n := 1) (i := 18) (f := 61) rfl rfl hXb h3X (by decide) rfl rfl ?_
  refine y_st (lv' := [(6, iv 61), (5, iv 6), (0, .ref 8), (1, iv 6), (2, iv 0), (3, .int x), (4, iv 0)]) rfl rfl (fun d => rfl) ?_
  refine y_ld (x := .ref 8) rfl rfl (fun d => rfl) ?_
  refine y_gI (i := 1) (e := 0) rfl rfl rfl (hC 8 _ _ rfl) rfl rfl ?_
  refine y_bi rfl rfl (by decide) ?_
  refine y_jge rfl rfl rfl (by decide) (fun g7 => absurd g7 (by decide)) (fun g7 => ?_)
  refine y_ld (x := .ref 8) rfl rfl (fun d => rfl) ?_
  refine y_gR (i := 0) rfl rfl rfl (hC 8 _ _ rfl) rfl ?_
  refine y_ld (x := .ref 8) rfl rfl (fun d => rfl) ?_
  refine y_gI (i := 1) (e := 0) rfl rfl rfl (hC 8 _ _ rfl) rfl rfl ?_
  refine y_ld (x := iv 61) rfl rfl (fun d => rfl) ?_
  refine y_ist (q := 0) rfl rfl (cl_ia hC (k := 9) (N := 20) rfl) (by decide) (by decide) rfl ?_
  refine y_ld (x := .ref 8) rfl rfl (fun d => rfl) ?_
  refine y_in rfl rfl (fun d => rfl) ?_
  refine y_gI (i := 1) (e := 0) rfl rfl rfl (hC 8 _ _ rfl) rfl rfl ?_
  refine y_ic rfl rfl ?_
  refine y_add (z := 1) rfl rfl rfl ?_
  refine y_pI (i := 1) rfl rfl rfl (hC 8 _ _ rfl) rfl rfl ?_
  refine y_ld (x := .ref 8) rfl rfl (fun d => rfl) ?_
  refine y_ld (x := iv 61) rfl rfl (fun d => rfl) ?_
  refine y_in rfl rfl (fun d => rfl) ?_
  refine y_ld (x := iv 6) rfl rfl (fun d => rfl) ?_
  refine y_sti (n := 2) (i := 6) (f := 0) rfl rfl hXa h3X (by decide) rfl rfl ?_
  refine y_ld (x := .int x) rfl rfl (fun d => rfl) ?_
  refine y_ld (x := iv 0) rfl rfl (fun d => rfl) ?_
  refine y_ic rfl rfl ?_
  refine y_add (z := 1) rfl rfl rfl ?_
  refine y_cV (D' := 28) (as := [.ref 8, iv 61, iv 0, .int x, iv 1]) rfl rfl rfl rfl rfl (hC 8 _ _ rfl) ⟨rfl, (Nat.le_of_ble_eq_true rfl), (Nat.le_of_ble_eq_true rfl)⟩ (by decide) ?_
  refine y_ent (lv' := [(0, .ref 8), (1, iv 61), (2, iv 0), (3, .int x), (4, iv 1)]) (Nat.le_of_ble_eq_true rfl) rfl ?_
  refine y_ld (x := iv 61) rfl rfl (fun d => rfl) ?_
  refine y_in (pc' := 199) rfl rfl (fun d => rfl) ?_
  refine y_ld (x := .ref 8) rfl rfl (fun d => rfl) ?_
  refine y_ld (x := iv 0) rfl rfl (fun d => rfl) ?_
  refine y_ic rfl rfl ?_
  refine y_ld (x := .int x) rfl rfl (fun d => rfl) ?_
  refine y_ic rfl rfl ?_
  refine y_in rfl rfl (fun d => rfl) ?_
  refine y_ld (x := iv 1) rfl rfl (fun d => rfl) ?_
  refine y_cV (D' := 27) (as := [.ref 8, iv 0, iv 0, .int (x + (Int32.ofInt 1)), iv 1]) rfl rfl rfl rfl rfl (hC 8 _ _ rfl) ⟨rfl, (Nat.le_of_ble_eq_true rfl), (Nat.le_of_ble_eq_true rfl)⟩ (by decide) ?_
  refine y_ent (lv' := [(0, .ref 8), (1, iv 0), (2, iv 0), (3, .int (x + (Int32.ofInt 1))), (4, iv 1)]) (Nat.le_of_ble_eq_true rfl) rfl ?_
  refine y_ld (x := iv 0) rfl rfl (fun d => rfl) ?_
  refine y_zlt rfl rfl rfl (by decide) (fun g8 => absurd g8 (by decide)) (fun g8 => ?_)
  refine y_ld (x := iv 0) rfl rfl (fun d => rfl) ?_
  refine y_bi rfl rfl (by decide) ?_
  refine y_jge rfl rfl rfl (by decide) (fun g9 => absurd g9 (by decide)) (fun g9 => ?_)
  refine y_ld (x := iv 1) rfl rfl (fun d => rfl) ?_
  refine y_bi rfl rfl (by decide) ?_
  refine y_jle rfl rfl rfl (by decide) (fun g10 => ?_) (fun g10 => absurd g10 (by decide))
  refine y_ld (x := iv 0) rfl rfl (fun d => rfl) ?_
  refine y_st (lv' := [(5, iv 0), (0, .ref 8), (1, iv 0), (2, iv 0), (3, .int (x + (Int32.ofInt 1))), (4, iv 1)]) rfl rfl (fun d => rfl) ?_
  refine y_ic rfl rfl ?_
  refine y_st (lv' := [(6, iv 0), (5, iv 0), (0, .ref 8), (1, iv 0), (2, iv 0), (3, .int (x + (Int32.ofInt 1))), (4, iv 1)]) rfl rfl (fun d => rfl) ?_
  refine y_ld (x := iv 0) rfl rfl (fun d => rfl) ?_
  refine y_bi rfl rfl (by decide) ?_
  refine y_jge rfl rfl rfl (by decide) (fun g11 => absurd g11 (by decide)) (fun g11 => ?_)
  refine y_ld (x := iv 0) rfl rfl (fun d => rfl) ?_
  refine y_zle rfl rfl rfl (by decide) (fun g12 => ?_) (fun g12 => absurd g12 (by decide))
  refine y_in rfl rfl (fun d => rfl) ?_
  refine y_ld (x := iv 0) rfl rfl (fun d => rfl) ?_
  refine y_ic rfl rfl ?_
  refine y_mul (z := 0) rfl rfl rfl ?_
  refine y_ld (x := iv 0) rfl rfl (fun d => rfl) ?_
  refine y_add (z := 0) rfl rfl rfl ?_
  refine y_sti (n := 1) (i := 0) (f := 1) rfl rfl hXb h3X (by decide) rfl rfl ?_
  refine y_st (lv' := [(6, iv 1), (5, iv 0), (0, .ref 8), (1, iv 0), (2, iv 0), (3, .int (x + (Int32.ofInt 1))), (4, iv 1)]) rfl rfl (fun d => rfl) ?_
  refine y_ld (x := .ref 8) rfl rfl (fun d => rfl) ?_
  refine y_gI (i := 1) (e := 1) rfl rfl rfl (hC 8 _ _ rfl) rfl rfl ?_
  refine y_bi rfl rfl (by decide) ?_
  refine y_jge rfl rfl rfl (by decide) (fun g13 => absurd g13 (by decide)) (fun g13 => ?_)
  refine y_ld (x := .ref 8) rfl rfl (fun d => rfl) ?_
  refine y_gR (i := 0) rfl rfl rfl (hC 8 _ _ rfl) rfl ?_
  refine y_ld (x := .ref 8) rfl rfl (fun d => rfl) ?_
  refine y_gI (i := 1) (e := 1) rfl rfl rfl (hC 8 _ _ rfl) rfl rfl ?_
  refine y_ld (x := iv 1) rfl rfl (fun d => rfl) ?_
  refine y_ist (q := 1) rfl rfl (cl_ia hC (k := 9) (N := 20) rfl) (by decide) (by decide) rfl ?_
  refine y_ld (x := .ref 8) rfl rfl (fun d => rfl) ?_
  refine y_in rfl rfl (fun d => rfl) ?_
  refine y_gI (i := 1) (e := 1) rfl rfl rfl (hC 8 _ _ rfl) rfl rfl ?_
  refine y_ic rfl rfl ?_
  refine y_add (z := 2) rfl rfl rfl ?_
  refine y_pI (i := 1) rfl rfl rfl (hC 8 _ _ rfl) rfl rfl ?_
  refine y_ld (x := .ref 8) rfl rfl (fun d => rfl) ?_
  refine y_ld (x := iv 1) rfl rfl (fun d => rfl) ?_
  refine y_in rfl rfl (fun d => rfl) ?_
  refine y_ld (x := iv 0) rfl rfl (fun d => rfl) ?_
  refine y_sti (n := 2) (i := 0) (f := (-1)) rfl rfl hXa h3X (by decide) rfl rfl ?_
  refine y_ld (x := .int (x + (Int32.ofInt 1))) rfl rfl (fun d => rfl) ?_
  refine y_ld (x := iv 1) rfl rfl (fun d => rfl) ?_
  refine y_ic rfl rfl ?_
  refine y_add (z := 2) rfl rfl rfl ?_
  refine y_cV (D' := 26) (as := [.ref 8, iv 1, iv (-1), .int (x + (Int32.ofInt 1)), iv 2]) rfl rfl rfl rfl rfl (hC 8 _ _ rfl) ⟨rfl, (Nat.le_of_ble_eq_true rfl), (Nat.le_of_ble_eq_true rfl)⟩ (by decide) ?_
  refine y_ent (lv' := [(0, .ref 8), (1, iv 1), (2, iv (-1)), (3, .int (x + (Int32.ofInt 1))), (4, iv 2)]) (Nat.le_of_ble_eq_true rfl) rfl ?_
  refine y_ld (x := iv 1) rfl rfl (fun d => rfl) ?_
  refine y_in (pc' := 84) rfl rfl (fun d => rfl) ?_
  refine y_ld (x := .int (x + (Int32.ofInt 1))) rfl rfl (fun d => rfl) ?_
  refine y_ld (x := .ref 8) rfl rfl (fun d => rfl) ?_
  refine y_gI (i := 3) (e := nb) rfl rfl rfl (hC 8 _ _ rfl) rfl rfl ?_
  refine y_in rfl rfl (fun d => rfl) ?_
  refine y_ret rfl (fun d => rfl) ?_
  refine y_nv ?_
  refine y_ret rfl (fun d => rfl) ?_
  refine y_nv ?_
  refine y_bi rfl rfl (by decide) ?_
  refine y_in rfl rfl (fun d => rfl) ?_
  refine y_ret rfl (fun d => rfl) ?_
  refine y_nv ?_
  refine y_ret rfl (fun d => rfl) ?_
  refine y_nv ?_
  refine y_ret rfl (fun d => rfl) ?_
  exact k _ (fun k h8 h9 => by rw [v_up_ne h8, v_up_ne h9, v_up_ne h8, v_up_ne h9, v_up_ne h8, v_up_ne h8, v_up_ne h8, v_up_ne h8]) ⟨by show (0 : Int) ≤ 2; decide, by show (2 : Int) ≤ 20; decide⟩
set_option maxRecDepth 100000 in
set_option maxHeartbeats 4000000 in
theorem ca_6_1 (hC : ClF S) (hXb : X 1 = m_bodies) (hXa : X 2 = m_above) (h3X : X 3 = []) {b : Nat} {nb ln : Int} {x : Int32} (hb : b < 8) (hk : V (10 + 6 * b) 1 = 6) (hn : V (10 + 6 * b) 0 = nb) (k : ∀ V2, (∀ k, k ≠ 8 → k ≠ 9 → V2 k = V k) → 0 ≤ V2 8 1 ∧ V2 8 1 ≤ 20 → K u w (some (.int (acV 6 1 x nb ln))) S V2) : y_R X 30 61 u w [.ref 8, .ref (10 + 6 * b), iv ln, iv 1, .int x] S (v_up V 8 1 0) K := by
  refine y_ent (lv' := [(0, .ref 8), (1, .ref (10 + 6 * b)), (2, iv ln), (3, iv 1), (4, .int x)]) (Nat.le_of_ble_eq_true rfl) rfl ?_
  refine y_ld (x := .ref 8) rfl rfl (fun d => rfl) ?_
  refine y_ld (x := .ref (10 + 6 * b)) rfl rfl (fun d => rfl) ?_
  refine y_gI (i := 1) (e := 6) rfl rfl rfl (bx_ob hC (i := b) (by omega)) rfl (by rw [v_up_ne (by omega)]; exact hk) ?_
  refine y_pI (i := 2) rfl rfl rfl (hC 8 _ _ rfl) rfl rfl ?_
  refine y_ld (x := .ref 8) rfl rfl (fun d => rfl) ?_
  refine y_ld (x := .ref (10 + 6 * b)) rfl rfl (fun d => rfl) ?_
  refine y_gI (i := 0) (e := nb) rfl rfl rfl (bx_ob hC (i := b) (by omega)) rfl (by rw [v_up_ne (by omega), v_up_ne (by omega)]; exact hn) ?_
  refine y_pI (i := 3) rfl rfl rfl (hC 8 _ _ rfl) rfl rfl ?_
  refine y_ld (x := .ref 8) rfl rfl (fun d => rfl) ?_
  refine y_ld (x := iv ln) rfl rfl (fun d => rfl) ?_
  refine y_pI (i := 4) rfl rfl rfl (hC 8 _ _ rfl) rfl rfl ?_
  refine y_ld (x := .ref 8) rfl rfl (fun d => rfl) ?_
  refine y_ld (x := .ref 8) rfl rfl (fun d => rfl) ?_
  refine y_gI (i := 2) (e := 6) rfl rfl rfl (hC 8 _ _ rfl) rfl rfl ?_
  refine y_ld (x := iv 1) rfl rfl (fun d => rfl) ?_
  refine y_ld (x := .int x) rfl rfl (fun d => rfl) ?_
  refine y_ic rfl rfl ?_
  refine y_cV (D' := 29) (as := [.ref 8, iv 6, iv 1, .int x, iv 0]) rfl rfl rfl rfl rfl (hC 8 _ _ rfl) ⟨rfl, (Nat.le_of_ble_eq_true rfl), (Nat.le_of_ble_eq_true rfl)⟩ (by decide) ?_
  refine y_ent (lv' := [(0, .ref 8), (1, iv 6), (2, iv 1), (3, .int x), (4, iv 0)]) (Nat.le_of_ble_eq_true rfl) rfl ?_
  refine y_ld (x := iv 6) rfl rfl (fun d => rfl) ?_
  refine y_zlt rfl rfl rfl (by decide) (fun g1 => absurd g1 (by decide)) (fun g1 => ?_)
  refine y_ld (x := iv 6) rfl rfl (fun d => rfl) ?_
  refine y_bi rfl rfl (by decide) ?_
  refine y_jge rfl rfl rfl (by decide) (fun g2 => absurd g2 (by decide)) (fun g2 => ?_)
  refine y_ld (x := iv 0) rfl rfl (fun d => rfl) ?_
  refine y_bi rfl rfl (by decide) ?_
  refine y_jle rfl rfl rfl (by decide) (fun g3 => ?_) (fun g3 => absurd g3 (by decide))
  refine y_ld (x := iv 6) rfl rfl (fun d => rfl) ?_
  refine y_st (lv' := [(5, iv 6), (0, .ref 8), (1, iv 6), (2, iv 1), (3, .int x), (4, iv 0)]) rfl rfl (fun d => rfl) ?_
  refine y_ic rfl rfl ?_
  refine y_st (lv' := [(6, iv 0), (5, iv 6), (0, .ref 8), (1, iv 6), (2, iv 1), (3, .int x), (4, iv 0)]) rfl rfl (fun d => rfl) ?_
  refine y_ld (x := iv 0) rfl rfl (fun d => rfl) ?_
  refine y_bi rfl rfl (by decide) ?_
  refine y_jge rfl rfl rfl (by decide) (fun g4 => absurd g4 (by decide)) (fun g4 => ?_)
  refine y_ld (x := iv 6) rfl rfl (fun d => rfl) ?_
  refine y_zle rfl rfl rfl (by decide) (fun g5 => absurd g5 (by decide)) (fun g5 => ?_)
  refine y_in rfl rfl (fun d => rfl) ?_
  refine y_ld (x := iv 6) rfl rfl (fun d => rfl) ?_
  refine y_ic rfl rfl ?_
  refine y_mul (z := 18) rfl rfl rfl ?_
  refine y_ld (x := iv 1) rfl rfl (fun d => rfl) ?_
  refine y_add (z := 19) rfl rfl rfl ?_
  refine y_sti (n := 1) (i := 19) (f := 0) rfl rfl hXb h3X (by decide) rfl rfl ?_
  refine y_zeq rfl rfl rfl (by decide) (fun g6 => ?_) (fun g6 => absurd g6 (by decide))
  refine y_in rfl rfl (fun d => rfl) ?_
  refine y_ld (x := iv 6) rfl rfl (fun d => rfl) ?_
  refine y_sti (n := 2) (i := 6) (f := 0) rfl rfl hXa h3X (by decide) rfl rfl ?_
  refine y_st (lv' := [(5, iv 0), (6, iv 0), (0, .ref 8), (1, iv 6), (2, iv 1), (3, .int x), (4, iv 0)]) rfl rfl (fun d => rfl) ?_
  refine y_inc (z := 1) (lv' := [(6, iv 1), (5, iv 0), (0, .ref 8), (1, iv 6), (2, iv 1), (3, .int x), (4, iv 0)]) rfl rfl rfl rfl rfl ?_
  refine y_go rfl rfl ?_
  refine y_ld (x := iv 1) rfl rfl (fun d => rfl) ?_
  refine y_bi rfl rfl (by decide) ?_
  refine y_jge rfl rfl rfl (by decide) (fun g7 => absurd g7 (by decide)) (fun g7 => ?_)
  refine y_ld (x := iv 0) rfl rfl (fun d => rfl) ?_
  refine y_zle rfl rfl rfl (by decide) (fun g8 => ?_) (fun g8 => absurd g8 (by decide))
  refine y_in rfl rfl (fun d => rfl) ?_
  refine y_ld (x := iv 0) rfl rfl (fun d => rfl) ?_
  refine y_ic rfl rfl ?_
  refine y_mul (z := 0) rfl rfl rfl ?_
  refine y_ld (x := iv 1) rfl rfl (fun d => rfl) ?_
  refine y_add (z := 1) rfl rfl rfl ?_
  refine y_sti (n := 1) (i := 1) (f := 2) rfl rfl hXb h3X (by decide) rfl rfl ?_
  refine y_st (lv' := [(6, iv 2), (5, iv 0), (0, .ref 8), (1, iv 6), (2, iv 1), (3, .int x), (4, iv 0)]) rfl rfl (fun d => rfl) ?_
  refine y_ld (x := .ref 8) rfl rfl (fun d => rfl) ?_
  refine y_gI (i := 1) (e := 0) rfl rfl rfl (hC 8 _ _ rfl) rfl rfl ?_
  refine y_bi rfl rfl (by decide) ?_
  refine y_jge rfl rfl rfl (by decide) (fun g9 => absurd g9 (by decide)) (fun g9 => ?_)
  refine y_ld (x := .ref 8) rfl rfl (fun d => rfl) ?_
  refine y_gR (i := 0) rfl rfl rfl (hC 8 _ _ rfl) rfl ?_
  refine y_ld (x := .ref 8) rfl rfl (fun d => rfl) ?_
  refine y_gI (i := 1) (e := 0) rfl rfl rfl (hC 8 _ _ rfl) rfl rfl ?_
  refine y_ld (x := iv 2) rfl rfl (fun d => rfl) ?_
  refine y_ist (q := 0) rfl rfl (cl_ia hC (k := 9) (N := 20) rfl) (by decide) (by decide) rfl ?_
  refine y_ld (x := .ref 8) rfl rfl (fun d => rfl) ?_
  refine y_in rfl rfl (fun d => rfl) ?_
  refine y_gI (i := 1) (e := 0) rfl rfl rfl (hC 8 _ _ rfl) rfl rfl ?_
  refine y_ic rfl rfl ?_
  refine y_add (z := 1) rfl rfl rfl ?_
  refine y_pI (i := 1) rfl rfl rfl (hC 8 _ _ rfl) rfl rfl ?_
  refine y_ld (x := .ref 8) rfl rfl (fun d => rfl) ?_
  refine y_ld (x := iv 2) rfl rfl (fun d => rfl) ?_
  refine y_in rfl rfl (fun d => rfl) ?_
  refine y_ld (x := iv 0) rfl rfl (fun d => rfl) ?_
  refine y_sti (n := 2) (i := 0) (f := (-1)) rfl rfl hXa h3X (by decide) rfl rfl ?_
  refine y_ld (x := .int x) rfl rfl (fun d => rfl) ?_
  refine y_ld (x := iv 0) rfl rfl (fun d => rfl) ?_
  refine y_ic rfl rfl ?_
  refine y_add (z := 1) rfl rfl rfl ?_
  refine y_cV (D' := 28) (as := [.ref 8, iv 2, iv (-1), .int x, iv 1]) rfl rfl rfl rfl rfl (hC 8 _ _ rfl) ⟨rfl, (Nat.le_of_ble_eq_true rfl), (Nat.le_of_ble_eq_true rfl)⟩ (by decide) ?_
  refine y_ent (lv' := [(0, .ref 8), (1, iv 2), (2, iv (-1)), (3, .int x), (4, iv 1)]) (Nat.le_of_ble_eq_true rfl) rfl ?_
  refine y_ld (x := iv 2) rfl rfl (fun d => rfl) ?_
  refine y_in (pc' := 91) rfl rfl (fun d => rfl) ?_
  refine y_ld (x := .ref 8) rfl rfl (fun d => rfl) ?_
  refine y_ld (x := .ref 8) rfl rfl (fun d => rfl) ?_
  refine y_gI (i := 2) (e := 6) rfl rfl rfl (hC 8 _ _ rfl) rfl rfl ?_
  refine y_ic rfl rfl ?_
  refine y_ld (x := .int x) rfl rfl (fun d => rfl) ?_
  refine y_ld (x := iv 1) rfl rfl (fun d => rfl) ?_
  refine y_cV (D' := 27) (as := [.ref 8, iv 6, iv 0, .int x, iv 1]) rfl rfl rfl rfl rfl (hC 8 _ _ rfl) ⟨rfl, (Nat.le_of_ble_eq_true rfl), (Nat.le_of_ble_eq_true rfl)⟩ (by decide) ?_
  refine y_ent (lv' := [(0, .ref 8), (1, iv 6), (2, iv 0), (3, .int x), (4, iv 1)]) (Nat.le_of_ble_eq_true rfl) rfl ?_
  refine y_ld (x := iv 6) rfl rfl (fun d => rfl) ?_
  refine y_zlt rfl rfl rfl (by decide) (fun g10 => absurd g10 (by decide)) (fun g10 => ?_)
  refine y_ld (x := iv 6) rfl rfl (fun d => rfl) ?_
  refine y_bi rfl rfl (by decide) ?_
  refine y_jge rfl rfl rfl (by decide) (fun g11 => absurd g11 (by decide)) (fun g11 => ?_)
  refine y_ld (x := iv 1) rfl rfl (fun d => rfl) ?_
  refine y_bi rfl rfl (by decide) ?_
  refine y_jle rfl rfl rfl (by decide) (fun g12 => ?_) (fun g12 => absurd g12 (by decide))
  refine y_ld (x := iv 6) rfl rfl (fun d => rfl) ?_
  refine y_st (lv' := [(5, iv 6), (0, .ref 8), (1, iv 6), (2, iv 0), (3, .int x), (4, iv 1)]) rfl rfl (fun d => rfl) ?_
  refine y_ic rfl rfl ?_
  refine y_st (lv' := [(6, iv 0), (5, iv 6), (0, .ref 8), (1, iv 6), (2, iv 0), (3, .int x), (4, iv 1)]) rfl rfl (fun d => rfl) ?_
  refine y_ld (x := iv 0) rfl rfl (fun d => rfl) ?_
  refine y_bi rfl rfl (by decide) ?_
  refine y_jge rfl rfl rfl (by decide) (fun g13 => absurd g13 (by decide)) (fun g13 => ?_)
  refine y_ld (x := iv 6) rfl rfl (fun d => rfl) ?_
  refine y_zle rfl rfl rfl (by decide) (fun g14 => absurd g14 (by decide)) (fun g14 => ?_)
  refine y_in rfl rfl (fun d => rfl) ?_
  refine y_ld (x := iv 6) rfl rfl (fun d => rfl) ?_
  refine y_ic rfl rfl ?_
  refine y_mul (z := 18) rfl rfl rfl ?_
  refine y_ld (x := iv 0) rfl rfl (fun d => rfl) ?_
  refine y_add (z := 18) rfl rfl rfl ?_
  refine y_sti (n := 1) (i := 18) (f := 61) rfl rfl hXb h3X (by decide) rfl rfl ?_
  refine y_zeq rfl rfl rfl (by decide) (fun g15 => absurd g15 (by decide)) (fun g15 => ?_)
  refine y_go rfl rfl ?_
  refine y_in rfl rfl (fun d => rfl) ?_
  refine y_ld (x := iv 6) rfl rfl (fun d => rfl) ?_
  refine y_ic rfl rfl ?_
  refine y_mul (z := 18) rfl rfl rfl ?_
  refine y_ld (x := iv 0) rfl rfl (fun d => rfl) ?_
  refine y_add (z := 18) rfl rfl rfl ?_
  refine y_sti (n := 1) (i := 18) (f := 61) rfl rfl hXb h3X (by decide) rfl rfl ?_
  refine y_st (lv' := [(6, iv 61), (5, iv 6), (0, .ref 8), (1, iv 6), (2, iv 0), (3, .int x), (4, iv 1)]) rfl rfl (fun d => rfl) ?_
  refine y_ld (x := .ref 8) rfl rfl (fun d => rfl) ?_
  refine y_gI (i := 1) (e := 1) rfl rfl rfl (hC 8 _ _ rfl) rfl rfl ?_
  refine y_bi rfl rfl (by decide) ?_
  refine y_jge rfl rfl rfl (by decide) (fun g16 => absurd g16 (by decide)) (fun g16 => ?_)
  refine y_ld (x := .ref 8) rfl rfl (fun d => rfl) ?_
  refine y_gR (i := 0) rfl rfl rfl (hC 8 _ _ rfl) rfl ?_
  refine y_ld (x := .ref 8) rfl rfl (fun d => rfl) ?_
  refine y_gI (i := 1) (e := 1) rfl rfl rfl (hC 8 _ _ rfl) rfl rfl ?_
  refine y_ld (x := iv 61) rfl rfl (fun d => rfl) ?_
  refine y_ist (q := 1) rfl rfl (cl_ia hC (k := 9) (N := 20) rfl) (by decide) (by decide) rfl ?_
  refine y_ld (x := .ref 8) rfl rfl (fun d => rfl) ?_
  refine y_in rfl rfl (fun d => rfl) ?_
  refine y_gI (i := 1) (e := 1) rfl rfl rfl (hC 8 _ _ rfl) rfl rfl ?_
  refine y_ic rfl rfl ?_
  refine y_add (z := 2) rfl rfl rfl ?_
  refine y_pI (i := 1) rfl rfl rfl (hC 8 _ _ rfl) rfl rfl ?_
  refine y_ld (x := .ref 8) rfl rfl (fun d => rfl) ?_
  refine y_ld (x := iv 61) rfl rfl (fun d => rfl) ?_
  refine y_in rfl rfl (fun d => rfl) ?_
  refine y_ld (x := iv 6) rfl rfl (fun d => rfl) ?_
  refine y_sti (n := 2) (i := 6) (f := 0) rfl rfl hXa h3X (by decide) rfl rfl ?_
  refine y_ld (x := .int x) rfl rfl (fun d => rfl) ?_
  refine y_ld (x := iv 1) rfl rfl (fun d => rfl) ?_
  refine y_ic rfl rfl ?_
  refine y_add (z := 2) rfl rfl rfl ?_
  refine y_cV (D' := 26) (as := [.ref 8, iv 61, iv 0, .int x, iv 2]) rfl rfl rfl rfl rfl (hC 8 _ _ rfl) ⟨rfl, (Nat.le_of_ble_eq_true rfl), (Nat.le_of_ble_eq_true rfl)⟩ (by decide) ?_
  refine y_ent (lv' := [(0, .ref 8), (1, iv 61), (2, iv 0), (3, .int x), (4, iv 2)]) (Nat.le_of_ble_eq_true rfl) rfl ?_
  refine y_ld (x := iv 61) rfl rfl (fun d => rfl) ?_
  refine y_in (pc' := 199) rfl rfl (fun d => rfl) ?_
  refine y_ld (x := .ref 8) rfl rfl (fun d => rfl) ?_
  refine y_ld (x := iv 0) rfl rfl (fun d => rfl) ?_
  refine y_ic rfl rfl ?_
  refine y_ld (x := .int x) rfl rfl (fun d => rfl) ?_
  refine y_ic rfl rfl ?_
  refine y_in rfl rfl (fun d => rfl) ?_
  refine y_ld (x := iv 2) rfl rfl (fun d => rfl) ?_
  refine y_cV (D' := 25) (as := [.ref 8, iv 0, iv 0, .int (x + (Int32.ofInt 1)), iv 2]) rfl rfl rfl rfl rfl (hC 8 _ _ rfl) ⟨rfl, (Nat.le_of_ble_eq_true rfl), (Nat.le_of_ble_eq_true rfl)⟩ (by decide) ?_
  refine y_ent (lv' := [(0, .ref 8), (1, iv 0), (2, iv 0), (3, .int (x + (Int32.ofInt 1))), (4, iv 2)]) (Nat.le_of_ble_eq_true rfl) rfl ?_
  refine y_ld (x := iv 0) rfl rfl (fun d => rfl) ?_
  refine y_zlt rfl rfl rfl (by decide) (fun g17 => absurd g17 (by decide)) (fun g17 => ?_)
  refine y_ld (x := iv 0) rfl rfl (fun d => rfl) ?_
  refine y_bi rfl rfl (by decide) ?_
  refine y_jge rfl rfl rfl (by decide) (fun g18 => absurd g18 (by decide)) (fun g18 => ?_)
  refine y_ld (x := iv 2) rfl rfl (fun d => rfl) ?_
  refine y_bi rfl rfl (by decide) ?_
  refine y_jle rfl rfl rfl (by decide) (fun g19 => ?_) (fun g19 => absurd g19 (by decide))
  refine y_ld (x := iv 0) rfl rfl (fun d => rfl) ?_
  refine y_st (lv' := [(5, iv 0), (0, .ref 8), (1, iv 0), (2, iv 0), (3, .int (x + (Int32.ofInt 1))), (4, iv 2)]) rfl rfl (fun d => rfl) ?_
  refine y_ic rfl rfl ?_
  refine y_st (lv' := [(6, iv 0), (5, iv 0), (0, .ref 8), (1, iv 0), (2, iv 0), (3, .int (x + (Int32.ofInt 1))), (4, iv 2)]) rfl rfl (fun d => rfl) ?_
  refine y_ld (x := iv 0) rfl rfl (fun d => rfl) ?_
  refine y_bi rfl rfl (by decide) ?_
  refine y_jge rfl rfl rfl (by decide) (fun g20 => absurd g20 (by decide)) (fun g20 => ?_)
  refine y_ld (x := iv 0) rfl rfl (fun d => rfl) ?_
  refine y_zle rfl rfl rfl (by decide) (fun g21 => ?_) (fun g21 => absurd g21 (by decide))
  refine y_in rfl rfl (fun d => rfl) ?_
  refine y_ld (x := iv 0) rfl rfl (fun d => rfl) ?_
  refine y_ic rfl rfl ?_
  refine y_mul (z := 0) rfl rfl rfl ?_
  refine y_ld (x := iv 0) rfl rfl (fun d => rfl) ?_
  refine y_add (z := 0) rfl rfl rfl ?_
  refine y_sti (n := 1) (i := 0) (f := 1) rfl rfl hXb h3X (by decide) rfl rfl ?_
  refine y_st (lv' := [(6, iv 1), (5, iv 0), (0, .ref 8), (1, iv 0), (2, iv 0), (3, .int (x + (Int32.ofInt 1))), (4, iv 2)]) rfl rfl (fun d => rfl) ?_
  refine y_ld (x := .ref 8) rfl rfl (fun d => rfl) ?_
  refine y_gI (i := 1) (e := 2) rfl rfl rfl (hC 8 _ _ rfl) rfl rfl ?_
  refine y_bi rfl rfl (by decide) ?_
  refine y_jge rfl rfl rfl (by decide) (fun g22 => absurd g22 (by decide)) (fun g22 => ?_)
  refine y_ld (x := .ref 8) rfl rfl (fun d => rfl) ?_
  refine y_gR (i := 0) rfl rfl rfl (hC 8 _ _ rfl) rfl ?_
  refine y_ld (x := .ref 8) rfl rfl (fun d => rfl) ?_
  refine y_gI (i := 1) (e := 2) rfl rfl rfl (hC 8 _ _ rfl) rfl rfl ?_
  refine y_ld (x := iv 1) rfl rfl (fun d => rfl) ?_
  refine y_ist (q := 2) rfl rfl (cl_ia hC (k := 9) (N := 20) rfl) (by decide) (by decide) rfl ?_
  refine y_ld (x := .ref 8) rfl rfl (fun d => rfl) ?_
  refine y_in rfl rfl (fun d => rfl) ?_
  refine y_gI (i := 1) (e := 2) rfl rfl rfl (hC 8 _ _ rfl) rfl rfl ?_
  refine y_ic rfl rfl ?_
  refine y_add (z := 3) rfl rfl rfl ?_
  refine y_pI (i := 1) rfl rfl rfl (hC 8 _ _ rfl) rfl rfl ?_
  refine y_ld (x := .ref 8) rfl rfl (fun d => rfl) ?_
  refine y_ld (x := iv 1) rfl rfl (fun d => rfl) ?_
  refine y_in rfl rfl (fun d => rfl) ?_
  refine y_ld (x := iv 0) rfl rfl (fun d => rfl) ?_
  refine y_sti (n := 2) (i := 0) (f := (-1)) rfl rfl hXa h3X (by decide) rfl rfl ?_
  refine y_ld (x := .int (x + (Int32.ofInt 1))) rfl rfl (fun d => rfl) ?_
  refine y_ld (x := iv 2) rfl rfl (fun d => rfl) ?_
  refine y_ic rfl rfl ?_
  refine y_add (z := 3) rfl rfl rfl ?_
  refine y_cV (D' := 24) (as := [.ref 8, iv 1, iv (-1), .int (x + (Int32.ofInt 1)), iv 3]) rfl rfl rfl rfl rfl (hC 8 _ _ rfl) ⟨rfl, (Nat.le_of_ble_eq_true rfl), (Nat.le_of_ble_eq_true rfl)⟩ (by decide) ?_
  refine y_ent (lv' := [(0, .ref 8), (1, iv 1), (2, iv (-1)), (3, .int (x + (Int32.ofInt 1))), (4, iv 3)]) (Nat.le_of_ble_eq_true rfl) rfl ?_
  refine y_ld (x := iv 1) rfl rfl (fun d => rfl) ?_
  refine y_in (pc' := 84) rfl rfl (fun d => rfl) ?_
  refine y_ld (x := .int (x + (Int32.ofInt 1))) rfl rfl (fun d => rfl) ?_
  refine y_ld (x := .ref 8) rfl rfl (fun d => rfl) ?_
  refine y_gI (i := 3) (e := nb) rfl rfl rfl (hC 8 _ _ rfl) rfl rfl ?_
  refine y_in rfl rfl (fun d => rfl) ?_
  refine y_ret rfl (fun d => rfl) ?_
  refine y_nv ?_
  refine y_ret rfl (fun d => rfl) ?_
  refine y_nv ?_
  refine y_bi rfl rfl (by decide) ?_
  refine y_in rfl rfl (fun d => rfl) ?_
  refine y_ret rfl (fun d => rfl) ?_
  refine y_nv ?_
  refine y_ret rfl (fun d => rfl) ?_
  refine y_nv ?_
  refine y_ld (x := .ref 8) rfl rfl (fun d => rfl) ?_
  refine y_gI (i := 4) (e := ln) rfl rfl rfl (hC 8 _ _ rfl) rfl rfl ?_
  refine y_in rfl rfl (fun d => rfl) ?_
  refine y_ret rfl (fun d => rfl) ?_
  refine y_nv ?_
  refine y_ret rfl (fun d => rfl) ?_
  refine y_nv ?_
  refine y_ret rfl (fun d => rfl) ?_
  exact k _ (fun k h8 h9 => by rw [v_up_ne h8, v_up_ne h9, v_up_ne h8, v_up_ne h9, v_up_ne h8, v_up_ne h9, v_up_ne h8, v_up_ne h8, v_up_ne h8, v_up_ne h8]) ⟨by show (0 : Int) ≤ 3; decide, by show (3 : Int) ≤ 20; decide⟩
set_option maxRecDepth 100000 in
set_option maxHeartbeats 4000000 in
theorem ca_6_2 (hC : ClF S) (hXb : X 1 = m_bodies) (hXa : X 2 = m_above) (h3X : X 3 = []) {b : Nat} {nb ln : Int} {x : Int32} (hb : b < 8) (hk : V (10 + 6 * b) 1 = 6) (hn : V (10 + 6 * b) 0 = nb) (k : ∀ V2, (∀ k, k ≠ 8 → k ≠ 9 → V2 k = V k) → 0 ≤ V2 8 1 ∧ V2 8 1 ≤ 20 → K u w (some (.int (acV 6 2 x nb ln))) S V2) : y_R X 30 61 u w [.ref 8, .ref (10 + 6 * b), iv ln, iv 2, .int x] S (v_up V 8 1 0) K := by
  refine y_ent (lv' := [(0, .ref 8), (1, .ref (10 + 6 * b)), (2, iv ln), (3, iv 2), (4, .int x)]) (Nat.le_of_ble_eq_true rfl) rfl ?_
  refine y_ld (x := .ref 8) rfl rfl (fun d => rfl) ?_
  refine y_ld (x := .ref (10 + 6 * b)) rfl rfl (fun d => rfl) ?_
  refine y_gI (i := 1) (e := 6) rfl rfl rfl (bx_ob hC (i := b) (by omega)) rfl (by rw [v_up_ne (by omega)]; exact hk) ?_
  refine y_pI (i := 2) rfl rfl rfl (hC 8 _ _ rfl) rfl rfl ?_
  refine y_ld (x := .ref 8) rfl rfl (fun d => rfl) ?_
  refine y_ld (x := .ref (10 + 6 * b)) rfl rfl (fun d => rfl) ?_
  refine y_gI (i := 0) (e := nb) rfl rfl rfl (bx_ob hC (i := b) (by omega)) rfl (by rw [v_up_ne (by omega), v_up_ne (by omega)]; exact hn) ?_
  refine y_pI (i := 3) rfl rfl rfl (hC 8 _ _ rfl) rfl rfl ?_
  refine y_ld (x := .ref 8) rfl rfl (fun d => rfl) ?_
  refine y_ld (x := iv ln) rfl rfl (fun d => rfl) ?_
  refine y_pI (i := 4) rfl rfl rfl (hC 8 _ _ rfl) rfl rfl ?_
  refine y_ld (x := .ref 8) rfl rfl (fun d => rfl) ?_
  refine y_ld (x := .ref 8) rfl rfl (fun d => rfl) ?_
  refine y_gI (i := 2) (e := 6) rfl rfl rfl (hC 8 _ _ rfl) rfl rfl ?_
  refine y_ld (x := iv 2) rfl rfl (fun d => rfl) ?_
  refine y_ld (x := .int x) rfl rfl (fun d => rfl) ?_
  refine y_ic rfl rfl ?_
  refine y_cV (D' := 29) (as := [.ref 8, iv 6, iv 2, .int x, iv 0]) rfl rfl rfl rfl rfl (hC 8 _ _ rfl) ⟨rfl, (Nat.le_of_ble_eq_true rfl), (Nat.le_of_ble_eq_true rfl)⟩ (by decide) ?_
  refine y_ent (lv' := [(0, .ref 8), (1, iv 6), (2, iv 2), (3, .int x), (4, iv 0)]) (Nat.le_of_ble_eq_true rfl) rfl ?_
  refine y_ld (x := iv 6) rfl rfl (fun d => rfl) ?_
  refine y_zlt rfl rfl rfl (by decide) (fun g1 => absurd g1 (by decide)) (fun g1 => ?_)
  refine y_ld (x := iv 6) rfl rfl (fun d => rfl) ?_
  refine y_bi rfl rfl (by decide) ?_
  refine y_jge rfl rfl rfl (by decide) (fun g2 => absurd g2 (by decide)) (fun g2 => ?_)
  refine y_ld (x := iv 0) rfl rfl (fun d => rfl) ?_
  refine y_bi rfl rfl (by decide) ?_
  refine y_jle rfl rfl rfl (by decide) (fun g3 => ?_) (fun g3 => absurd g3 (by decide))
  refine y_ld (x := iv 6) rfl rfl (fun d => rfl) ?_
  refine y_st (lv' := [(5, iv 6), (0, .ref 8), (1, iv 6), (2, iv 2), (3, .int x), (4, iv 0)]) rfl rfl (fun d => rfl) ?_
  refine y_ic rfl rfl ?_
  refine y_st (lv' := [(6, iv 0), (5, iv 6), (0, .ref 8), (1, iv 6), (2, iv 2), (3, .int x), (4, iv 0)]) rfl rfl (fun d => rfl) ?_
  refine y_ld (x := iv 0) rfl rfl (fun d => rfl) ?_
  refine y_bi rfl rfl (by decide) ?_
  refine y_jge rfl rfl rfl (by decide) (fun g4 => absurd g4 (by decide)) (fun g4 => ?_)
  refine y_ld (x := iv 6) rfl rfl (fun d => rfl) ?_
  refine y_zle rfl rfl rfl (by decide) (fun g5 => absurd g5 (by decide)) (fun g5 => ?_)
  refine y_in rfl rfl (fun d => rfl) ?_
  refine y_ld (x := iv 6) rfl rfl (fun d => rfl) ?_
  refine y_ic rfl rfl ?_
  refine y_mul (z := 18) rfl rfl rfl ?_
  refine y_ld (x := iv 2) rfl rfl (fun d => rfl) ?_
  refine y_add (z := 20) rfl rfl rfl ?_
  refine y_sti (n := 1) (i := 20) (f := 0) rfl rfl hXb h3X (by decide) rfl rfl ?_
  refine y_zeq rfl rfl rfl (by decide) (fun g6 => ?_) (fun g6 => absurd g6 (by decide))
  refine y_in rfl rfl (fun d => rfl) ?_
  refine y_ld (x := iv 6) rfl rfl (fun d => rfl) ?_
  refine y_sti (n := 2) (i := 6) (f := 0) rfl rfl hXa h3X (by decide) rfl rfl ?_
  refine y_st (lv' := [(5, iv 0), (6, iv 0), (0, .ref 8), (1, iv 6), (2, iv 2), (3, .int x), (4, iv 0)]) rfl rfl (fun d => rfl) ?_
  refine y_inc (z := 1) (lv' := [(6, iv 1), (5, iv 0), (0, .ref 8), (1, iv 6), (2, iv 2), (3, .int x), (4, iv 0)]) rfl rfl rfl rfl rfl ?_
  refine y_go rfl rfl ?_
  refine y_ld (x := iv 1) rfl rfl (fun d => rfl) ?_
  refine y_bi rfl rfl (by decide) ?_
  refine y_jge rfl rfl rfl (by decide) (fun g7 => absurd g7 (by decide)) (fun g7 => ?_)
  refine y_ld (x := iv 0) rfl rfl (fun d => rfl) ?_
  refine y_zle rfl rfl rfl (by decide) (fun g8 => ?_) (fun g8 => absurd g8 (by decide))
  refine y_in rfl rfl (fun d => rfl) ?_
  refine y_ld (x := iv 0) rfl rfl (fun d => rfl) ?_
  refine y_ic rfl rfl ?_
  refine y_mul (z := 0) rfl rfl rfl ?_
  refine y_ld (x := iv 2) rfl rfl (fun d => rfl) ?_
  refine y_add (z := 2) rfl rfl rfl ?_
  refine y_sti (n := 1) (i := 2) (f := 3) rfl rfl hXb h3X (by decide) rfl rfl ?_
  refine y_st (lv' := [(6, iv 3), (5, iv 0), (0, .ref 8), (1, iv 6), (2, iv 2), (3, .int x), (4, iv 0)]) rfl rfl (fun d => rfl) ?_
  refine y_ld (x := .ref 8) rfl rfl (fun d => rfl) ?_
  refine y_gI (i := 1) (e := 0) rfl rfl rfl (hC 8 _ _ rfl) rfl rfl ?_
  refine y_bi rfl rfl (by decide) ?_
  refine y_jge rfl rfl rfl (by decide) (fun g9 => absurd g9 (by decide)) (fun g9 => ?_)
  refine y_ld (x := .ref 8) rfl rfl (fun d => rfl) ?_
  refine y_gR (i := 0) rfl rfl rfl (hC 8 _ _ rfl) rfl ?_
  refine y_ld (x := .ref 8) rfl rfl (fun d => rfl) ?_
  refine y_gI (i := 1) (e := 0) rfl rfl rfl (hC 8 _ _ rfl) rfl rfl ?_
  refine y_ld (x := iv 3) rfl rfl (fun d => rfl) ?_
  refine y_ist (q := 0) rfl rfl (cl_ia hC (k := 9) (N := 20) rfl) (by decide) (by decide) rfl ?_
  refine y_ld (x := .ref 8) rfl rfl (fun d => rfl) ?_
  refine y_in rfl rfl (fun d => rfl) ?_
  refine y_gI (i := 1) (e := 0) rfl rfl rfl (hC 8 _ _ rfl) rfl rfl ?_
  refine y_ic rfl rfl ?_
  refine y_add (z := 1) rfl rfl rfl ?_
  refine y_pI (i := 1) rfl rfl rfl (hC 8 _ _ rfl) rfl rfl ?_
  refine y_ld (x := .ref 8) rfl rfl (fun d => rfl) ?_
  refine y_ld (x := iv 3) rfl rfl (fun d => rfl) ?_
  refine y_in rfl rfl (fun d => rfl) ?_
  refine y_ld (x := iv 0) rfl rfl (fun d => rfl) ?_
  refine y_sti (n := 2) (i := 0) (f := (-1)) rfl rfl hXa h3X (by decide) rfl rfl ?_
  refine y_ld (x := .int x) rfl rfl (fun d => rfl) ?_
  refine y_ld (x := iv 0) rfl rfl (fun d => rfl) ?_
  refine y_ic rfl rfl ?_
  refine y_add (z := 1) rfl rfl rfl ?_
  refine y_cV (D' := 28) (as := [.ref 8, iv 3, iv (-1), .int x, iv 1]) rfl rfl rfl rfl rfl (hC 8 _ _ rfl) ⟨rfl, (Nat.le_of_ble_eq_true rfl), (Nat.le_of_ble_eq_true rfl)⟩ (by decide) ?_
  refine y_ent (lv' := [(0, .ref 8), (1, iv 3), (2, iv (-1)), (3, .int x), (4, iv 1)]) (Nat.le_of_ble_eq_true rfl) rfl ?_
  refine y_ld (x := iv 3) rfl rfl (fun d => rfl) ?_
  refine y_in (pc' := 109) rfl rfl (fun d => rfl) ?_
  refine y_ld (x := .ref 8) rfl rfl (fun d => rfl) ?_
  refine y_ld (x := .ref 8) rfl rfl (fun d => rfl) ?_
  refine y_gI (i := 2) (e := 6) rfl rfl rfl (hC 8 _ _ rfl) rfl rfl ?_
  refine y_ic rfl rfl ?_
  refine y_ld (x := .int x) rfl rfl (fun d => rfl) ?_
  refine y_ld (x := iv 1) rfl rfl (fun d => rfl) ?_
  refine y_cV (D' := 27) (as := [.ref 8, iv 6, iv 1, .int x, iv 1]) rfl rfl rfl rfl rfl (hC 8 _ _ rfl) ⟨rfl, (Nat.le_of_ble_eq_true rfl), (Nat.le_of_ble_eq_true rfl)⟩ (by decide) ?_
  refine y_ent (lv' := [(0, .ref 8), (1, iv 6), (2, iv 1), (3, .int x), (4, iv 1)]) (Nat.le_of_ble_eq_true rfl) rfl ?_
  refine y_ld (x := iv 6) rfl rfl (fun d => rfl) ?_
  refine y_zlt rfl rfl rfl (by decide) (fun g10 => absurd g10 (by decide)) (fun g10 => ?_)
  refine y_ld (x := iv 6) rfl rfl (fun d => rfl) ?_
  refine y_bi rfl rfl (by decide) ?_
  refine y_jge rfl rfl rfl (by decide) (fun g11 => absurd g11 (by decide)) (fun g11 => ?_)
  refine y_ld (x := iv 1) rfl rfl (fun d => rfl) ?_
  refine y_bi rfl rfl (by decide) ?_
  refine y_jle rfl rfl rfl (by decide) (fun g12 => ?_) (fun g12 => absurd g12 (by decide))
  refine y_ld (x := iv 6) rfl rfl (fun d => rfl) ?_
  refine y_st (lv' := [(5, iv 6), (0, .ref 8), (1, iv 6), (2, iv 1), (3, .int x), (4, iv 1)]) rfl rfl (fun d => rfl) ?_
  refine y_ic rfl rfl ?_
  refine y_st (lv' := [(6, iv 0), (5, iv 6), (0, .ref 8), (1, iv 6), (2, iv 1), (3, .int x), (4, iv 1)]) rfl rfl (fun d => rfl) ?_
  refine y_ld (x := iv 0) rfl rfl (fun d => rfl) ?_
  refine y_bi rfl rfl (by decide) ?_
  refine y_jge rfl rfl rfl (by decide) (fun g13 => absurd g13 (by decide)) (fun g13 => ?_)
  refine y_ld (x := iv 6) rfl rfl (fun d => rfl) ?_
  refine y_zle rfl rfl rfl (by decide) (fun g14 => absurd g14 (by decide)) (fun g14 => ?_)
  refine y_in rfl rfl (fun d => rfl) ?_
  refine y_ld (x := iv 6) rfl rfl (fun d => rfl) ?_
  refine y_ic rfl rfl ?_
  refine y_mul (z := 18) rfl rfl rfl ?_
  refine y_ld (x := iv 1) rfl rfl (fun d => rfl) ?_
  refine y_add (z := 19) rfl rfl rfl ?_
  refine y_sti (n := 1) (i := 19) (f := 0) rfl rfl hXb h3X (by decide) rfl rfl ?_
  refine y_zeq rfl rfl rfl (by decide) (fun g15 => ?_) (fun g15 => absurd g15 (by decide))
  refine y_in rfl rfl (fun d => rfl) ?_
  refine y_ld (x := iv 6) rfl rfl (fun d => rfl) ?_
  refine y_sti (n := 2) (i := 6) (f := 0) rfl rfl hXa h3X (by decide) rfl rfl ?_
  refine y_st (lv' := [(5, iv 0), (6, iv 0), (0, .ref 8), (1, iv 6), (2, iv 1), (3, .int x), (4, iv 1)]) rfl rfl (fun d => rfl) ?_
  refine y_inc (z := 1) (lv' := [(6, iv 1), (5, iv 0), (0, .ref 8), (1, iv 6), (2, iv 1), (3, .int x), (4, iv 1)]) rfl rfl rfl rfl rfl ?_
  refine y_go rfl rfl ?_
  refine y_ld (x := iv 1) rfl rfl (fun d => rfl) ?_
  refine y_bi rfl rfl (by decide) ?_
  refine y_jge rfl rfl rfl (by decide) (fun g16 => absurd g16 (by decide)) (fun g16 => ?_)
  refine y_ld (x := iv 0) rfl rfl (fun d => rfl) ?_
  refine y_zle rfl rfl rfl (by decide) (fun g17 => ?_) (fun g17 => absurd g17 (by decide))
  refine y_in rfl rfl (fun d => rfl) ?_
  refine y_ld (x := iv 0) rfl rfl (fun d => rfl) ?_
  refine y_ic rfl rfl ?_
  refine y_mul (z := 0) rfl rfl rfl ?_
  refine y_ld (x := iv 1) rfl rfl (fun d => rfl) ?_
  refine y_add (z := 1) rfl rfl rfl ?_
  refine y_sti (n := 1) (i := 1) (f := 2) rfl rfl hXb h3X (by decide) rfl rfl ?_
  refine y_st (lv' := [(6, iv 2), (5, iv 0), (0, .ref 8), (1, iv 6), (2, iv 1), (3, .int x), (4, iv 1)]) rfl rfl (fun d => rfl) ?_
  refine y_ld (x := .ref 8) rfl rfl (fun d => rfl) ?_
  refine y_gI (i := 1) (e := 1) rfl rfl rfl (hC 8 _ _ rfl) rfl rfl ?_
  refine y_bi rfl rfl (by decide) ?_
  refine y_jge rfl rfl rfl (by decide) (fun g18 => absurd g18 (by decide)) (fun g18 => ?_)
  refine y_ld (x := .ref 8) rfl rfl (fun d => rfl) ?_
  refine y_gR (i := 0) rfl rfl rfl (hC 8 _ _ rfl) rfl ?_
  refine y_ld (x := .ref 8) rfl rfl (fun d => rfl) ?_
  refine y_gI (i := 1) (e := 1) rfl rfl rfl (hC 8 _ _ rfl) rfl rfl ?_
  refine y_ld (x := iv 2) rfl rfl (fun d => rfl) ?_
  refine y_ist (q := 1) rfl rfl (cl_ia hC (k := 9) (N := 20) rfl) (by decide) (by decide) rfl ?_
  refine y_ld (x := .ref 8) rfl rfl (fun d => rfl) ?_
  refine y_in rfl rfl (fun d => rfl) ?_
  refine y_gI (i := 1) (e := 1) rfl rfl rfl (hC 8 _ _ rfl) rfl rfl ?_
  refine y_ic rfl rfl ?_
  refine y_add (z := 2) rfl rfl rfl ?_
  refine y_pI (i := 1) rfl rfl rfl (hC 8 _ _ rfl) rfl rfl ?_
  refine y_ld (x := .ref 8) rfl rfl (fun d => rfl) ?_
  refine y_ld (x := iv 2) rfl rfl (fun d => rfl) ?_
  refine y_in rfl rfl (fun d => rfl) ?_
  refine y_ld (x := iv 0) rfl rfl (fun d => rfl) ?_
  refine y_sti (n := 2) (i := 0) (f := (-1)) rfl rfl hXa h3X (by decide) rfl rfl ?_
  refine y_ld (x := .int x) rfl rfl (fun d => rfl) ?_
  refine y_ld (x := iv 1) rfl rfl (fun d => rfl) ?_
  refine y_ic rfl rfl ?_
  refine y_add (z := 2) rfl rfl rfl ?_
  refine y_cV (D' := 26) (as := [.ref 8, iv 2, iv (-1), .int x, iv 2]) rfl rfl rfl rfl rfl (hC 8 _ _ rfl) ⟨rfl, (Nat.le_of_ble_eq_true rfl), (Nat.le_of_ble_eq_true rfl)⟩ (by decide) ?_
  refine y_ent (lv' := [(0, .ref 8), (1, iv 2), (2, iv (-1)), (3, .int x), (4, iv 2)]) (Nat.le_of_ble_eq_true rfl) rfl ?_
  refine y_ld (x := iv 2) rfl rfl (fun d => rfl) ?_
  refine y_in (pc' := 91) rfl rfl (fun d => rfl) ?_
  refine y_ld (x := .ref 8) rfl rfl (fun d => rfl) ?_
  refine y_ld (x := .ref 8) rfl rfl (fun d => rfl) ?_
  refine y_gI (i := 2) (e := 6) rfl rfl rfl (hC 8 _ _ rfl) rfl rfl ?_
  refine y_ic rfl rfl ?_
  refine y_ld (x := .int x) rfl rfl (fun d => rfl) ?_
  refine y_ld (x := iv 2) rfl rfl (fun d => rfl) ?_
  refine y_cV (D' := 25) (as := [.ref 8, iv 6, iv 0, .int x, iv 2]) rfl rfl rfl rfl rfl (hC 8 _ _ rfl) ⟨rfl, (Nat.le_of_ble_eq_true rfl), (Nat.le_of_ble_eq_true rfl)⟩ (by decide) ?_
  refine y_ent (lv' := [(0, .ref 8), (1, iv 6), (2, iv 0), (3, .int x), (4, iv 2)]) (Nat.le_of_ble_eq_true rfl) rfl ?_
  refine y_ld (x := iv 6) rfl rfl (fun d => rfl) ?_
  refine y_zlt rfl rfl rfl (by decide) (fun g19 => absurd g19 (by decide)) (fun g19 => ?_)
  refine y_ld (x := iv 6) rfl rfl (fun d => rfl) ?_
  refine y_bi rfl rfl (by decide) ?_
  refine y_jge rfl rfl rfl (by decide) (fun g20 => absurd g20 (by decide)) (fun g20 => ?_)
  refine y_ld (x := iv 2) rfl rfl (fun d => rfl) ?_
  refine y_bi rfl rfl (by decide) ?_
  refine y_jle rfl rfl rfl (by decide) (fun g21 => ?_) (fun g21 => absurd g21 (by decide))
  refine y_ld (x := iv 6) rfl rfl (fun d => rfl) ?_
  refine y_st (lv' := [(5, iv 6), (0, .ref 8), (1, iv 6), (2, iv 0), (3, .int x), (4, iv 2)]) rfl rfl (fun d => rfl) ?_
  refine y_ic rfl rfl ?_
  refine y_st (lv' := [(6, iv 0), (5, iv 6), (0, .ref 8), (1, iv 6), (2, iv 0), (3, .int x), (4, iv 2)]) rfl rfl (fun d => rfl) ?_
  refine y_ld (x := iv 0) rfl rfl (fun d => rfl) ?_
  refine y_bi rfl rfl (by decide) ?_
  refine y_jge rfl rfl rfl (by decide) (fun g22 => absurd g22 (by decide)) (fun g22 => ?_)
  refine y_ld (x := iv 6) rfl rfl (fun d => rfl) ?_
  refine y_zle rfl rfl rfl (by decide) (fun g23 => absurd g23 (by decide)) (fun g23 => ?_)
  refine y_in rfl rfl (fun d => rfl) ?_
  refine y_ld (x := iv 6) rfl rfl (fun d => rfl) ?_
  refine y_ic rfl rfl ?_
  refine y_mul (z := 18) rfl rfl rfl ?_
  refine y_ld (x := iv 0) rfl rfl (fun d => rfl) ?_
  refine y_add (z := 18) rfl rfl rfl ?_
  refine y_sti (n := 1) (i := 18) (f := 61) rfl rfl hXb h3X (by decide) rfl rfl ?_
  refine y_zeq rfl rfl rfl (by decide) (fun g24 => absurd g24 (by decide)) (fun g24 => ?_)
  refine y_go rfl rfl ?_
  refine y_in rfl rfl (fun d => rfl) ?_
  refine y_ld (x := iv 6) rfl rfl (fun d => rfl) ?_
  refine y_ic rfl rfl ?_
  refine y_mul (z := 18) rfl rfl rfl ?_
  refine y_ld (x := iv 0) rfl rfl (fun d => rfl) ?_
  refine y_add (z := 18) rfl rfl rfl ?_
  refine y_sti (n := 1) (i := 18) (f := 61) rfl rfl hXb h3X (by decide) rfl rfl ?_
  refine y_st (lv' := [(6, iv 61), (5, iv 6), (0, .ref 8), (1, iv 6), (2, iv 0), (3, .int x), (4, iv 2)]) rfl rfl (fun d => rfl) ?_
  refine y_ld (x := .ref 8) rfl rfl (fun d => rfl) ?_
  refine y_gI (i := 1) (e := 2) rfl rfl rfl (hC 8 _ _ rfl) rfl rfl ?_
  refine y_bi rfl rfl (by decide) ?_
  refine y_jge rfl rfl rfl (by decide) (fun g25 => absurd g25 (by decide)) (fun g25 => ?_)
  refine y_ld (x := .ref 8) rfl rfl (fun d => rfl) ?_
  refine y_gR (i := 0) rfl rfl rfl (hC 8 _ _ rfl) rfl ?_
  refine y_ld (x := .ref 8) rfl rfl (fun d => rfl) ?_
  refine y_gI (i := 1) (e := 2) rfl rfl rfl (hC 8 _ _ rfl) rfl rfl ?_
  refine y_ld (x := iv 61) rfl rfl (fun d => rfl) ?_
  refine y_ist (q := 2) rfl rfl (cl_ia hC (k := 9) (N := 20) rfl) (by decide) (by decide) rfl ?_
  refine y_ld (x := .ref 8) rfl rfl (fun d => rfl) ?_
  refine y_in rfl rfl (fun d => rfl) ?_
  refine y_gI (i := 1) (e := 2) rfl rfl rfl (hC 8 _ _ rfl) rfl rfl ?_
  refine y_ic rfl rfl ?_
  refine y_add (z := 3) rfl rfl rfl ?_
  refine y_pI (i := 1) rfl rfl rfl (hC 8 _ _ rfl) rfl rfl ?_
  refine y_ld (x := .ref 8) rfl rfl (fun d => rfl) ?_
  refine y_ld (x := iv 61) rfl rfl (fun d => rfl) ?_
  refine y_in rfl rfl (fun d => rfl) ?_
  refine y_ld (x := iv 6) rfl rfl (fun d => rfl) ?_
  refine y_sti (n := 2) (i := 6) (f := 0) rfl rfl hXa h3X (by decide) rfl rfl ?_
  refine y_ld (x := .int x) rfl rfl (fun d => rfl) ?_
  refine y_ld (x := iv 2) rfl rfl (fun d => rfl) ?_
  refine y_ic rfl rfl ?_
  refine y_add (z := 3) rfl rfl rfl ?_
  refine y_cV (D' := 24) (as := [.ref 8, iv 61, iv 0, .int x, iv 3]) rfl rfl rfl rfl rfl (hC 8 _ _ rfl) ⟨rfl, (Nat.le_of_ble_eq_true rfl), (Nat.le_of_ble_eq_true rfl)⟩ (by decide) ?_
  refine y_ent (lv' := [(0, .ref 8), (1, iv 61), (2, iv 0), (3, .int x), (4, iv 3)]) (Nat.le_of_ble_eq_true rfl) rfl ?_
  refine y_ld (x := iv 61) rfl rfl (fun d => rfl) ?_
  refine y_in (pc' := 199) rfl rfl (fun d => rfl) ?_
  refine y_ld (x := .ref 8) rfl rfl (fun d => rfl) ?_
  refine y_ld (x := iv 0) rfl rfl (fun d => rfl) ?_
  refine y_ic rfl rfl ?_
  refine y_ld (x := .int x) rfl rfl (fun d => rfl) ?_
  refine y_ic rfl rfl ?_
  refine y_in rfl rfl (fun d => rfl) ?_
  refine y_ld (x := iv 3) rfl rfl (fun d => rfl) ?_
  refine y_cV (D' := 23) (as := [.ref 8, iv 0, iv 0, .int (x + (Int32.ofInt 1)), iv 3]) rfl rfl rfl rfl rfl (hC 8 _ _ rfl) ⟨rfl, (Nat.le_of_ble_eq_true rfl), (Nat.le_of_ble_eq_true rfl)⟩ (by decide) ?_
  refine y_ent (lv' := [(0, .ref 8), (1, iv 0), (2, iv 0), (3, .int (x + (Int32.ofInt 1))), (4, iv 3)]) (Nat.le_of_ble_eq_true rfl) rfl ?_
  refine y_ld (x := iv 0) rfl rfl (fun d => rfl) ?_
  refine y_zlt rfl rfl rfl (by decide) (fun g26 => absurd g26 (by decide)) (fun g26 => ?_)
  refine y_ld (x := iv 0) rfl rfl (fun d => rfl) ?_
  refine y_bi rfl rfl (by decide) ?_
  refine y_jge rfl rfl rfl (by decide) (fun g27 => absurd g27 (by decide)) (fun g27 => ?_)
  refine y_ld (x := iv 3) rfl rfl (fun d => rfl) ?_
  refine y_bi rfl rfl (by decide) ?_
  refine y_jle rfl rfl rfl (by decide) (fun g28 => ?_) (fun g28 => absurd g28 (by decide))
  refine y_ld (x := iv 0) rfl rfl (fun d => rfl) ?_
  refine y_st (lv' := [(5, iv 0), (0, .ref 8), (1, iv 0), (2, iv 0), (3, .int (x + (Int32.ofInt 1))), (4, iv 3)]) rfl rfl (fun d => rfl) ?_
  refine y_ic rfl rfl ?_
  refine y_st (lv' := [(6, iv 0), (5, iv 0), (0, .ref 8), (1, iv 0), (2, iv 0), (3, .int (x + (Int32.ofInt 1))), (4, iv 3)]) rfl rfl (fun d => rfl) ?_
  refine y_ld (x := iv 0) rfl rfl (fun d => rfl) ?_
  refine y_bi rfl rfl (by decide) ?_
  refine y_jge rfl rfl rfl (by decide) (fun g29 => absurd g29 (by decide)) (fun g29 => ?_)
  refine y_ld (x := iv 0) rfl rfl (fun d => rfl) ?_
  refine y_zle rfl rfl rfl (by decide) (fun g30 => ?_) (fun g30 => absurd g30 (by decide))
  refine y_in rfl rfl (fun d => rfl) ?_
  refine y_ld (x := iv 0) rfl rfl (fun d => rfl) ?_
  refine y_ic rfl rfl ?_
  refine y_mul (z := 0) rfl rfl rfl ?_
  refine y_ld (x := iv 0) rfl rfl (fun d => rfl) ?_
  refine y_add (z := 0) rfl rfl rfl ?_
  refine y_sti (n := 1) (i := 0) (f := 1) rfl rfl hXb h3X (by decide) rfl rfl ?_
  refine y_st (lv' := [(6, iv 1), (5, iv 0), (0, .ref 8), (1, iv 0), (2, iv 0), (3, .int (x + (Int32.ofInt 1))), (4, iv 3)]) rfl rfl (fun d => rfl) ?_
  refine y_ld (x := .ref 8) rfl rfl (fun d => rfl) ?_
  refine y_gI (i := 1) (e := 3) rfl rfl rfl (hC 8 _ _ rfl) rfl rfl ?_
  refine y_bi rfl rfl (by decide) ?_
  refine y_jge rfl rfl rfl (by decide) (fun g31 => absurd g31 (by decide)) (fun g31 => ?_)
  refine y_ld (x := .ref 8) rfl rfl (fun d => rfl) ?_
  refine y_gR (i := 0) rfl rfl rfl (hC 8 _ _ rfl) rfl ?_
  refine y_ld (x := .ref 8) rfl rfl (fun d => rfl) ?_
  refine y_gI (i := 1) (e := 3) rfl rfl rfl (hC 8 _ _ rfl) rfl rfl ?_
  refine y_ld (x := iv 1) rfl rfl (fun d => rfl) ?_
  refine y_ist (q := 3) rfl rfl (cl_ia hC (k := 9) (N := 20) rfl) (by decide) (by decide) rfl ?_
  refine y_ld (x := .ref 8) rfl rfl (fun d => rfl) ?_
  refine y_in rfl rfl (fun d => rfl) ?_
  refine y_gI (i := 1) (e := 3) rfl rfl rfl (hC 8 _ _ rfl) rfl rfl ?_
  refine y_ic rfl rfl ?_
  refine y_add (z := 4) rfl rfl rfl ?_
  refine y_pI (i := 1) rfl rfl rfl (hC 8 _ _ rfl) rfl rfl ?_
  refine y_ld (x := .ref 8) rfl rfl (fun d => rfl) ?_
  refine y_ld (x := iv 1) rfl rfl (fun d => rfl) ?_
  refine y_in rfl rfl (fun d => rfl) ?_
  refine y_ld (x := iv 0) rfl rfl (fun d => rfl) ?_
  refine y_sti (n := 2) (i := 0) (f := (-1)) rfl rfl hXa h3X (by decide) rfl rfl ?_
  refine y_ld (x := .int (x + (Int32.ofInt 1))) rfl rfl (fun d => rfl) ?_
  refine y_ld (x := iv 3) rfl rfl (fun d => rfl) ?_
  refine y_ic rfl rfl ?_
  refine y_add (z := 4) rfl rfl rfl ?_
  refine y_cV (D' := 22) (as := [.ref 8, iv 1, iv (-1), .int (x + (Int32.ofInt 1)), iv 4]) rfl rfl rfl rfl rfl (hC 8 _ _ rfl) ⟨rfl, (Nat.le_of_ble_eq_true rfl), (Nat.le_of_ble_eq_true rfl)⟩ (by decide) ?_
  refine y_ent (lv' := [(0, .ref 8), (1, iv 1), (2, iv (-1)), (3, .int (x + (Int32.ofInt 1))), (4, iv 4)]) (Nat.le_of_ble_eq_true rfl) rfl ?_
  refine y_ld (x := iv 1) rfl rfl (fun d => rfl) ?_
  refine y_in (pc' := 84) rfl rfl (fun d => rfl) ?_
  refine y_ld (x := .int (x + (Int32.ofInt 1))) rfl rfl (fun d => rfl) ?_
  refine y_ld (x := .ref 8) rfl rfl (fun d => rfl) ?_
  refine y_gI (i := 3) (e := nb) rfl rfl rfl (hC 8 _ _ rfl) rfl rfl ?_
  refine y_in rfl rfl (fun d => rfl) ?_
  refine y_ret rfl (fun d => rfl) ?_
  refine y_nv ?_
  refine y_ret rfl (fun d => rfl) ?_
  refine y_nv ?_
  refine y_bi rfl rfl (by decide) ?_
  refine y_in rfl rfl (fun d => rfl) ?_
  refine y_ret rfl (fun d => rfl) ?_
  refine y_nv ?_
  refine y_ret rfl (fun d => rfl) ?_
  refine y_nv ?_
  refine y_ld (x := .ref 8) rfl rfl (fun d => rfl) ?_
  refine y_gI (i := 4) (e := ln) rfl rfl rfl (hC 8 _ _ rfl) rfl rfl ?_
  refine y_in rfl rfl (fun d => rfl) ?_
  refine y_ret rfl (fun d => rfl) ?_
  refine y_nv ?_
  refine y_ret rfl (fun d => rfl) ?_
  refine y_nv ?_
  refine y_ic rfl rfl ?_
  refine y_in rfl rfl (fun d => rfl) ?_
  refine y_ret rfl (fun d => rfl) ?_
  refine y_nv ?_
  refine y_ret rfl (fun d => rfl) ?_
  refine y_nv ?_
  refine y_ret rfl (fun d => rfl) ?_
  exact k _ (fun k h8 h9 => by rw [v_up_ne h8, v_up_ne h9, v_up_ne h8, v_up_ne h9, v_up_ne h8, v_up_ne h9, v_up_ne h8, v_up_ne h9, v_up_ne h8, v_up_ne h8, v_up_ne h8, v_up_ne h8]) ⟨by show (0 : Int) ≤ 4; decide, by show (4 : Int) ≤ 20; decide⟩
end
