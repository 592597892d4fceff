/-! feed, the class -/
section
variable {X : Nat → List Int32} {u w : Nat} {S : m_H} {V : v_V} {K : v_K}
set_option maxRecDepth 100000 in
set_option maxHeartbeats 4000000 in
theorem lp_feed (hC : ClF S) {z : Int64} {y : Int} {F : Nat} : ∀ (m : Nat) (r q : Nat) (V : v_V), r < m → (r ≤ 8) → (q + r ≤ 160) → (V 1 1 = (q : Int)) → (K u w (some (iv ((q + r : Nat) : Int))) S (v_up (v_ur V 2 (z_fd z r q (V 2))) 1 1 ((q + r : Nat) : Int))) → y_E X 0 70 (40 * m + F) u w 37 [(0, .ref 0), (1, .long z), (3, iv y), (4, iv ((r : Int) - 1))] [] S V K := by
  intro m
  induction m with
  | zero => intros; omega
  | succ m ih =>
    intro r q V hm hr8 hq hV hx2
    refine y_mono (F' := (40 * m + F) + 40) ?_ (by omega)
    refine y_ld (x := iv ((r : Int) - 1)) rfl rfl (fun d => rfl) ?_
    refine y_zlt rfl rfl rfl (by omega) (fun g1 => ?_) (fun g1 => ?_)
    · refine y_ld (x := .ref 0) rfl rfl (fun d => rfl) ?_
      refine y_gR (i := 0) rfl rfl rfl (hC 0 _ _ rfl) rfl ?_
      refine y_gI (i := 1) (e := (q : Int)) rfl rfl rfl (hC 1 _ _ rfl) rfl hV ?_
      refine y_rI rfl (Or.inl rfl) ?_
      obtain rfl : r = 0 := by omega
      rw [show z_fd z 0 q (V 2) = V 2 from rfl, v_ur_self, v_up_same (show V 1 1 = ((q + 0 : Nat) : Int) from hV)] at hx2
      exact hx2
    · obtain ⟨r, rfl⟩ : ∃ t, r = t + 1 := ⟨r - 1, by omega⟩
      refine y_lv (l' := [(0, .ref 0), (1, .long z), (3, iv y), (4, iv (r : Int))]) rfl ⟨rfl, rfl, rfl, congrArg (fun e => some (iv e)) (by omega), trivial⟩ ?_
      refine y_ld (x := .ref 0) rfl rfl (fun d => rfl) ?_
      refine y_gR (i := 0) rfl rfl rfl (hC 0 _ _ rfl) rfl ?_
      refine y_gR (i := 0) rfl rfl rfl (hC 1 _ _ rfl) rfl ?_
      refine y_ld (x := .ref 0) rfl rfl (fun d => rfl) ?_
      refine y_gR (i := 0) rfl rfl rfl (hC 0 _ _ rfl) rfl ?_
      refine y_gI (i := 1) (e := (q : Int)) rfl rfl rfl (hC 1 _ _ rfl) rfl hV ?_
      refine y_ld (x := .long z) rfl rfl (fun d => rfl) ?_
      refine y_bi rfl rfl (by decide) ?_
      refine y_ld (x := iv (r : Int)) rfl rfl (fun d => rfl) ?_
      refine y_mul (z := 8 * (r : Int)) rfl rfl rfl ?_
      refine y_in rfl rfl (fun d => rfl) ?_
      refine y_in rfl rfl (fun d => rfl) ?_
      refine y_si rfl rfl (by decide) ?_
      refine y_op (z := z_by z r) rfl rfl (fun d => rfl) (z_byC z (by omega)) ?_
      refine y_ist (q := q) rfl rfl (cl_ia hC (k := 2) (N := 160) rfl) (by omega) (by decide) (by omega) ?_
      refine y_ld (x := .ref 0) rfl rfl (fun d => rfl) ?_
      refine y_gR (i := 0) rfl rfl rfl (hC 0 _ _ rfl) rfl ?_
      refine y_in rfl rfl (fun d => rfl) ?_
      refine y_gI (i := 1) (e := (q : Int)) rfl rfl rfl (hC 1 _ _ rfl) rfl hV ?_
      refine y_ic rfl rfl ?_
      refine y_add (z := ((q : Int) + 1)) rfl rfl rfl ?_
      refine y_pI (i := 1) rfl rfl rfl (hC 1 _ _ rfl) rfl rfl ?_
      refine y_inc (z := ((r : Int) - 1)) (lv' := [(4, iv ((r : Int) - 1)), (0, .ref 0), (1, .long z), (3, iv y)]) rfl rfl rfl (by omega) rfl ?_
      refine y_go rfl rfl ?_
      refine y_lv (l' := [(0, .ref 0), (1, .long z), (3, iv y), (4, iv ((r : Int) - 1))]) rfl ⟨rfl, rfl, rfl, rfl, trivial⟩ ?_
      refine y_mono (ih r (q + 1) _ (by omega) (by omega) (by omega) (by rw [v_up_eq]; omega) ?_) (by omega)
      rw [v_fd1 V 1 2 (by decide), v_up_ne (by decide), v_up_row, show q + 1 + r = q + (r + 1) by omega]
      exact hx2
set_option maxRecDepth 100000 in
set_option maxHeartbeats 4000000 in
theorem cs_feed (hC : ClF S) {z : Int64} {y : Int} (hy : (-2147483648 ≤ y ∧ y < 2147483648)) {q : Nat} (hV : V 1 1 = (q : Int)) (hq : q ≤ 160) (k0 : ¬ (1 ≤ y ∧ y ≤ 8) → K u w (some (iv (-2))) S V) (k1 : (1 ≤ y ∧ y ≤ 8) → 160 < q + y → K u w (some (iv (-4))) S V) (k2 : ∀ r : Nat, y = (r : Int) → (1 ≤ r ∧ r ≤ 8) → q + r ≤ 160 → K u w (some (iv ((q + r : Nat) : Int))) S (v_up (v_ur V 2 (z_fd z r q (V 2))) 1 1 ((q + r : Nat) : Int))) : y_R X 1 70 u w [.ref 0, .long z, iv y] S V K := by
  refine y_ent (lv' := [(0, .ref 0), (1, .long z), (3, iv y)]) (Nat.le_of_ble_eq_true rfl) rfl ?_
  refine y_ld (x := iv y) rfl rfl (fun d => rfl) ?_
  refine y_ic rfl rfl ?_
  refine y_jlt rfl rfl rfl (by omega) (fun g1 => ?_) (fun g1 => ?_)
  · refine y_bi rfl rfl (by decide) ?_
    refine y_rI rfl (Or.inl rfl) ?_
    exact k0 (by omega)
  · refine y_ld (x := iv y) rfl rfl (fun d => rfl) ?_
    refine y_bi rfl rfl (by decide) ?_
    refine y_jle rfl rfl rfl (by omega) (fun g2 => ?_) (fun g2 => ?_)
    · refine y_ld (x := .ref 0) rfl rfl (fun d => rfl) ?_
      refine y_gR (i := 0) rfl rfl rfl (hC 0 _ _ rfl) rfl ?_
      refine y_gI (i := 1) (e := (q : Int)) rfl rfl rfl (hC 1 _ _ rfl) rfl hV ?_
      refine y_ld (x := iv y) rfl rfl (fun d => rfl) ?_
      refine y_add (z := ((q : Int) + y)) rfl rfl rfl ?_
      refine y_si rfl rfl (by decide) ?_
      refine y_jle rfl rfl rfl (by omega) (fun g3 => ?_) (fun g3 => ?_)
      · refine y_ld (x := iv y) rfl rfl (fun d => rfl) ?_
        refine y_ic rfl rfl ?_
        refine y_sub (z := (y - 1)) rfl rfl rfl ?_
        refine y_st (lv' := [(4, iv (y - 1)), (0, .ref 0), (1, .long z), (3, iv y)]) rfl rfl (fun d => rfl) ?_
        obtain ⟨r, rfl⟩ : ∃ t : Nat, y = (t : Int) := ⟨y.toNat, by omega⟩
        refine y_lv (l' := [(0, .ref 0), (1, .long z), (3, iv (r : Int)), (4, iv ((r : Int) - 1))]) rfl ⟨rfl, rfl, rfl, rfl, trivial⟩ ?_
        exact y_mono (lp_feed (F := 200) hC 9 r q V (by omega) (by omega) (by omega) hV (k2 r rfl (by omega) (by omega))) (by decide)
      · refine y_bi rfl rfl (by decide) ?_
        refine y_rI rfl (Or.inl rfl) ?_
        exact k1 (by omega) (by omega)
    · refine y_bi rfl rfl (by decide) ?_
      refine y_rI rfl (Or.inl rfl) ?_
      exact k0 (by omega)
end
