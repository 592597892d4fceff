/-! feed, the reference -/
theorem v_uf_cm {f : Nat → Int} {i j : Nat} {x y : Int} (h : i ≠ j) : v_uf (v_uf f i x) j y = v_uf (v_uf f j y) i x := by
  funext k
  unfold v_uf
  by_cases h1 : k = j
  · by_cases h2 : k = i
    · exact absurd (h2.symm.trans h1) h
    · simp [h1, Ne.symm h]
  · simp [h1]
theorem v_uf_2 {f : Nat → Int} {i : Nat} {x y : Int} : v_uf (v_uf f i x) i y = v_uf f i y := by
  funext k
  unfold v_uf
  by_cases h1 : k = i
  · simp [h1]
  · simp [h1]
theorem z_fd_c (z : Int64) {i : Nat} {x : Int} : ∀ (r p : Nat) (f : Nat → Int), i < p → z_fd z r p (v_uf f i x) = v_uf (z_fd z r p f) i x
  | 0, _, _, _ => rfl
  | r + 1, p, f, h => by
    show z_fd z r (p + 1) (v_uf (v_uf f i x) p (z_by z r)) = v_uf (z_fd z r (p + 1) (v_uf f p (z_by z r))) i x
    rw [v_uf_cm (by omega), z_fd_c z r (p + 1) _ (by omega)]
theorem v_fd2 (V : v_V) (z : Int64) (r q : Nat) (x y s : Int) : v_ur (v_up (v_up V 171 (10 + q) x) 171 6 y) 171 (v_uf (z_fd z r (10 + (q + 1)) (v_up (v_up V 171 (10 + q) x) 171 6 y 171)) 6 s) = v_ur V 171 (v_uf (z_fd z r (10 + q + 1) (v_uf (V 171) (10 + q) x)) 6 s) := by
  rw [v_up_row, v_up_row, z_fd_c z r _ _ (by omega), v_uf_2]
  unfold v_up
  rw [v_ur_ur, v_ur_ur]
  rfl
section
variable {X : Nat → List Int32} {u w : Nat} {S : m_H} {V : v_V} {K : v_K}
set_option maxRecDepth 100000 in
set_option maxHeartbeats 4000000 in
theorem lq_feed (hM : MdS S) {z : Int64} {y : Int} {F : Nat} : ∀ (m : Nat) (r q : Nat) (V : v_V), r < m → (r ≤ 8) → (q + r ≤ 160) → (V 171 6 = (q : Int)) → (K u w (some (iv ((q + r : Nat) : Int))) S (v_ur V 171 (v_uf (z_fd z r (10 + q) (V 171)) 6 ((q + r : Nat) : Int)))) → y_E X 1 111 (50 * m + F) u w 36 [(0, .ref 170), (1, .long z), (3, iv y), (4, iv ((r : Int) - 1))] [] S V K := by
  intro m
  induction m with
  | zero => intros; omega
  | succ m ih =>
    intro r q V hm hr8 hq hV hx2
    refine y_mono (F' := (50 * m + F) + 50) ?_ (by omega)
    refine y_ld (x := iv ((r : Int) - 1)) rfl rfl (fun d => rfl) ?_
    refine y_zlt rfl rfl rfl (by omega) (fun g1 => ?_) (fun g1 => ?_)
    · refine y_ld (x := .ref 170) rfl rfl (fun d => rfl) ?_
      refine y_gR (i := 1) rfl rfl rfl (md170 hM) rfl ?_
      refine y_bi rfl rfl (by decide) ?_
      refine y_ild (x := (q : Int)) (q := 6) rfl rfl (md171 hM) (by decide) (by decide) rfl hV ?_
      refine y_rI rfl (Or.inl rfl) ?_
      obtain rfl : r = 0 := by omega
      rw [show z_fd z 0 (10 + q) (V 171) = V 171 from rfl, ← v_up_ur, v_up_same (show V 171 6 = ((q + 0 : Nat) : Int) from hV)] at hx2
      exact hx2
    · obtain ⟨r, rfl⟩ : ∃ t, r = t + 1 := ⟨r - 1, by omega⟩
      refine y_lv (l' := [(0, .ref 170), (1, .long z), (3, iv y), (4, iv (r : Int))]) rfl ⟨rfl, rfl, rfl, congrArg (fun e => some (iv e)) (by omega), trivial⟩ ?_
      refine y_ld (x := .ref 170) rfl rfl (fun d => rfl) ?_
      refine y_gR (i := 1) rfl rfl rfl (md170 hM) rfl ?_
      refine y_bi rfl rfl (by decide) ?_
      refine y_ld (x := .ref 170) rfl rfl (fun d => rfl) ?_
      refine y_gR (i := 1) rfl rfl rfl (md170 hM) rfl ?_
      refine y_bi rfl rfl (by decide) ?_
      refine y_ild (x := (q : Int)) (q := 6) rfl rfl (md171 hM) (by decide) (by decide) rfl hV ?_
      refine y_add (z := (10 + (q : Int))) rfl rfl rfl ?_
      refine y_ld (x := .long z) rfl rfl (fun d => rfl) ?_
      refine y_bi rfl rfl (by decide) ?_
      refine y_ld (x := iv (r : Int)) rfl rfl (fun d => rfl) ?_
      refine y_mul (z := 8 * (r : Int)) rfl rfl rfl ?_
      refine y_in rfl rfl (fun d => rfl) ?_
      refine y_ld rfl rfl (fun d => rfl) ?_
      refine y_in rfl rfl (fun d => rfl) ?_
      refine y_in rfl rfl (fun d => rfl) ?_
      refine y_top (v' := iv (z_by z r)) (v_oi _).symm ?_
      refine y_ist (q := (10 + q)) rfl rfl (md171 hM) (by omega) (by decide) (by omega) ?_
      refine y_ld (x := .ref 170) rfl rfl (fun d => rfl) ?_
      refine y_gR (i := 1) rfl rfl rfl (md170 hM) rfl ?_
      refine y_bi rfl rfl (by decide) ?_
      refine y_in rfl rfl (fun d => rfl) ?_
      refine y_ild (x := (q : Int)) (q := 6) rfl rfl (md171 hM) (by decide) (by decide) rfl (by rw [v_up_ni (by omega)]; exact hV) ?_
      refine y_ic rfl rfl ?_
      refine y_add (z := ((q : Int) + 1)) rfl rfl rfl ?_
      refine y_ist (q := 6) rfl rfl (md171 hM) (by decide) (by decide) rfl ?_
      refine y_inc (z := ((r : Int) - 1)) (lv' := [(4, iv ((r : Int) - 1)), (0, .ref 170), (1, .long z), (3, iv y)]) rfl rfl rfl (by omega) rfl ?_
      refine y_go rfl rfl ?_
      refine y_lv (l' := [(0, .ref 170), (1, .long z), (3, iv y), (4, iv ((r : Int) - 1))]) rfl ⟨rfl, rfl, rfl, rfl, trivial⟩ ?_
      refine y_mono (ih r (q + 1) _ (by omega) (by omega) (by omega) (by rw [v_up_eq]; omega) ?_) (by omega)
      rw [v_fd2, show q + 1 + r = q + (r + 1) by omega]
      exact hx2
set_option maxRecDepth 100000 in
set_option maxHeartbeats 4000000 in
theorem ms_feed (hM : MdS S) {z : Int64} {y : Int} (hy : (-2147483648 ≤ y ∧ y < 2147483648)) {q : Nat} (hV : V 171 6 = (q : Int)) (hq : q ≤ 160) (k0 : ¬ (1 ≤ y ∧ y ≤ 8) → K u w (some (iv (-2))) S V) (k1 : (1 ≤ y ∧ y ≤ 8) → 160 < q + y → K u w (some (iv (-4))) S V) (k2 : ∀ r : Nat, y = (r : Int) → (1 ≤ r ∧ r ≤ 8) → q + r ≤ 160 → K u w (some (iv ((q + r : Nat) : Int))) S (v_ur V 171 (v_uf (z_fd z r (10 + q) (V 171)) 6 ((q + r : Nat) : Int)))) : y_R X 2 111 u w [.ref 170, .long z, iv y] S V K := by
  refine y_ent (lv' := [(0, .ref 170), (1, .long z), (3, iv y)]) (Nat.le_of_ble_eq_true rfl) rfl ?_
  refine y_ld (x := iv y) rfl rfl (fun d => rfl) ?_
  refine y_ic rfl rfl ?_
  refine y_bi rfl rfl (by decide) ?_
  refine y_cS (as := [iv y, iv 1, iv 8]) rfl (by decide) rfl rfl rfl rfl ⟨(Nat.le_of_ble_eq_true rfl), (Nat.le_of_ble_eq_true rfl)⟩ (by decide) (ct_in (by omega) ?_)
  refine y_nv ?_
  refine y_bne rfl rfl rfl (fun g1 => ?_) (fun g1 => ?_)
  · refine y_ld (x := .ref 170) rfl rfl (fun d => rfl) ?_
    refine y_gR (i := 1) rfl rfl rfl (md170 hM) rfl ?_
    refine y_bi rfl rfl (by decide) ?_
    refine y_ild (x := (q : Int)) (q := 6) rfl rfl (md171 hM) (by decide) (by decide) rfl hV ?_
    refine y_ld (x := iv y) rfl rfl (fun d => rfl) ?_
    refine y_add (z := ((q : Int) + y)) rfl rfl rfl ?_
    refine y_si rfl rfl (by decide) ?_
    refine y_jle rfl rfl rfl (by omega) (fun g2 => ?_) (fun g2 => ?_)
    · refine y_ld (x := iv y) rfl rfl (fun d => rfl) ?_
      refine y_ic rfl rfl ?_
      refine y_sub (z := (y - 1)) rfl rfl rfl ?_
      refine y_st (lv' := [(4, iv (y - 1)), (0, .ref 170), (1, .long z), (3, iv y)]) rfl rfl (fun d => rfl) ?_
      obtain ⟨r, rfl⟩ : ∃ t : Nat, y = (t : Int) := ⟨y.toNat, by omega⟩
      refine y_lv (l' := [(0, .ref 170), (1, .long z), (3, iv (r : Int)), (4, iv ((r : Int) - 1))]) rfl ⟨rfl, rfl, rfl, rfl, trivial⟩ ?_
      exact y_mono (lq_feed (F := 200) hM 9 r q V (by omega) (by omega) (by omega) hV (k2 r rfl (by omega) (by omega))) (by decide)
    · refine y_bi rfl rfl (by decide) ?_
      refine y_rI rfl (Or.inl rfl) ?_
      exact k1 (by omega) (by omega)
  · refine y_bi rfl rfl (by decide) ?_
    refine y_rI rfl (Or.inl rfl) ?_
    exact k0 (by omega)
end
