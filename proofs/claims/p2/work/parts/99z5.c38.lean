/-! part, whole, fall: the class -/
def ptA (g q : Int) : Int := if q = 1 then (if 1 < g then g - 2 else -5) else (if 1 < g then 2 else if g = 0 then 0 else 1)
abbrev gP (l : List p_Li) (c : Nat) : Int := mkP 0 (fun _ => 0) l c
theorem gP_rg {l : List p_Li} (h : TO l) {c : Nat} (hc : c < 8) : 0 ≤ gP l c ∧ gP l c ≤ 10 := mkP_bd l 0 _ (by decide) (by have := h.2.2.1; omega) h.1 (fun _ _ => ⟨Int.le_refl 0, by decide⟩) c hc
/-- WHOLE: the first one's TALKS, and sums -/
def whP (σ : Nat → Int) (a b c : Nat) : Prop := (∀ p : Nat, p < 64 → σ (200 + 84 * c + p) = σ (200 + 84 * (σ (1552 + 16 * a + p / 4)).toNat + p)) ∧ ∀ p : Nat, 64 ≤ p → p < 84 → σ (200 + 84 * c + p) = wr (σ (200 + 84 * a + p) + σ (200 + 84 * b + p))
/-- TAKEN UP: the bits of the TALKS that are as in the COPY -/
def tuP (σ : Nat → Int) (b t : Nat) : Prop := ∀ d : Nat, d < 4 → σ (200 + 84 * b + (4 * t + d)) = σ (880 + 84 * b + (4 * t + d))
theorem v_o2_lt16 {x : Int} (hx : 0 ≤ x ∧ x < 65536) {c : Nat} (hc : c < 16) : 0 ≤ v_o2 x c ∧ v_o2 x c < 65536 := by
  have h : x.toNat ||| 2 ^ c < 2 ^ 16 := Nat.or_lt_two_pow (by omega) (Nat.pow_lt_pow_right (by decide) hc)
  unfold v_o2
  omega
theorem v_bits_ext {x y : Int} (hx : 0 ≤ x ∧ x < 65536) (hy : 0 ≤ y ∧ y < 65536) (h : ∀ t : Nat, t < 16 → x / 2 ^ t % 2 = y / 2 ^ t % 2) : x = y := by
  have e : x.toNat = y.toNat := by
    apply Nat.eq_of_testBit_eq
    intro i
    by_cases hi : i < 16
    · have h2 := h i hi
      rw [v_bitI hx.1, v_bitI hy.1] at h2
      cases h3 : x.toNat.testBit i <;> cases h4 : y.toNat.testBit i <;> first | rfl | (rw [h3, h4] at h2; exact absurd h2 (by decide))
    · have p1 : 2 ^ 16 ≤ 2 ^ i := Nat.pow_le_pow_right (by decide) (by omega)
      rw [Nat.testBit_lt_two_pow (show x.toNat < 2 ^ i by omega), Nat.testBit_lt_two_pow (show y.toNat < 2 ^ i by omega)]
  omega
section
variable {X : Nat → List Int32} {u w : Nat} {S : m_H} {V : v_V} {K : v_K}
set_option maxRecDepth 100000 in
set_option maxHeartbeats 4000000 in
theorem cs_part (hC : ClF S) {tl : Nat → List p_Li} {cnt : Nat} {σ : Nat → Int} (hRS : RS S V 1 σ tl) (hSO : SO cnt σ) (hTO : ∀ i : Nat, (i : Int) < σ 0 → TO (tl i)) {x : Int} (hx : (-2147483648 ≤ x ∧ x < 2147483648)) {y : Int} (hy : (-2147483648 ≤ y ∧ y < 2147483648)) {d : Int} (hd : (-2147483648 ≤ d ∧ d < 2147483648)) {q : Int} (hq : (-2147483648 ≤ q ∧ q < 2147483648)) (k0 : ¬ ((0 ≤ x ∧ x < σ 0) ∧ (0 ≤ y ∧ y ≤ 1) ∧ (0 ≤ d ∧ d ≤ 3) ∧ (0 ≤ q ∧ q ≤ 1)) → K u w (some (iv (-1))) S V) (k1 : (0 ≤ x ∧ x < σ 0) ∧ (0 ≤ y ∧ y ≤ 1) ∧ (0 ≤ d ∧ d ≤ 3) ∧ (0 ≤ q ∧ q ≤ 1) → K u w (some (iv (ptA (gP (tl x.toNat) (y * 4 + d).toNat) q))) S V) : y_R X 2 73 u w [.ref 0, iv x, iv y, iv d, iv q] S V K := by
  obtain ⟨n1, n2, n3, n4⟩ := hRS.1
  have hsz := hSO.1
  obtain ⟨ta, hT, hTt⟩ := TAx_RT hRS.2.1 hRS.1 hSO
  refine y_ent (lv' := [(0, .ref 0), (1, iv x), (2, iv y), (3, iv d), (4, iv q)]) (Nat.le_of_ble_eq_true rfl) rfl ?_
  refine y_ld (x := .ref 0) rfl rfl (fun d => rfl) ?_
  refine y_gR (i := 0) rfl rfl rfl (hC 0 _ _ rfl) rfl ?_
  refine y_ld (x := iv x) rfl rfl (fun d => rfl) ?_
  refine y_cV (as := [.ref 1, iv x]) rfl rfl rfl rfl rfl (hC 1 _ _ rfl) ⟨rfl, (Nat.le_of_ble_eq_true rfl), (Nat.le_of_ble_eq_true rfl)⟩ (by decide) (cb_textAt (x := x) hC hT (by omega) (fun gt1 => ?_) (fun (t1 : Nat) gt1 ht11 ht21 ht31 => ?_))
  · refine y_nv ?_
    refine y_st (lv' := [(5, .null), (0, .ref 0), (1, iv x), (2, iv y), (3, iv d), (4, iv q)]) rfl rfl (fun d => rfl) ?_
    refine y_ld (x := .null) rfl rfl (fun d => rfl) ?_
    refine y_in (pc' := 33) rfl rfl (fun d => rfl) ?_
    refine y_ic rfl rfl ?_
    refine y_rI rfl (Or.inl rfl) ?_
    exact k0 (by omega)
  · refine y_nv ?_
    refine y_st (lv' := [(5, .ref t1), (0, .ref 0), (1, iv x), (2, iv y), (3, iv d), (4, iv q)]) rfl rfl (fun d => rfl) ?_
    refine y_ld (x := .ref t1) rfl rfl (fun d => rfl) ?_
    refine y_in (pc' := 15) rfl rfl (fun d => rfl) ?_
    refine y_ld (x := iv y) rfl rfl (fun d => rfl) ?_
    refine y_zlt rfl rfl rfl (by omega) (fun g1 => ?_) (fun g1 => ?_)
    · refine y_ic rfl rfl ?_
      refine y_rI rfl (Or.inl rfl) ?_
      exact k0 (by omega)
    · refine y_ld (x := iv y) rfl rfl (fun d => rfl) ?_
      refine y_ic rfl rfl ?_
      refine y_jgt rfl rfl rfl (by omega) (fun g2 => ?_) (fun g2 => ?_)
      · refine y_ic rfl rfl ?_
        refine y_rI rfl (Or.inl rfl) ?_
        exact k0 (by omega)
      · refine y_ld (x := iv d) rfl rfl (fun d => rfl) ?_
        refine y_zlt rfl rfl rfl (by omega) (fun g3 => ?_) (fun g3 => ?_)
        · refine y_ic rfl rfl ?_
          refine y_rI rfl (Or.inl rfl) ?_
          exact k0 (by omega)
        · refine y_ld (x := iv d) rfl rfl (fun d => rfl) ?_
          refine y_ic rfl rfl ?_
          refine y_jlt rfl rfl rfl (by omega) (fun g4 => ?_) (fun g4 => ?_)
          · obtain ⟨b1, b2, b3⟩ := hTt x.toNat t1 (by omega) (by assumption)
            have hl := hTO x.toNat (by omega)
            refine y_ld (x := iv q) rfl rfl (fun d => rfl) ?_
            refine y_zlt rfl rfl rfl (by omega) (fun g5 => ?_) (fun g5 => ?_)
            · refine y_ic rfl rfl ?_
              refine y_rI rfl (Or.inl rfl) ?_
              exact k0 (by omega)
            · refine y_ld (x := iv q) rfl rfl (fun d => rfl) ?_
              refine y_ic rfl rfl ?_
              refine y_jle rfl rfl rfl (by omega) (fun g6 => ?_) (fun g6 => ?_)
              · refine y_ld (x := iv y) rfl rfl (fun d => rfl) ?_
                refine y_ic rfl rfl ?_
                refine y_mul (z := (y * 4)) rfl rfl rfl ?_
                refine y_ld (x := iv d) rfl rfl (fun d => rfl) ?_
                refine y_add (z := (y * 4 + d)) rfl rfl (by omega) ?_
                refine y_st (lv' := [(6, iv (y * 4 + d)), (5, .ref t1), (0, .ref 0), (1, iv x), (2, iv y), (3, iv d), (4, iv q)]) rfl rfl (fun d => rfl) ?_
                have hg : 0 ≤ mkP 0 (fun _ => 0) (tl x.toNat) (y * 4 + d).toNat ∧ mkP 0 (fun _ => 0) (tl x.toNat) (y * 4 + d).toNat ≤ 10 := gP_rg hl (by omega)
                have e6 := b3.2.2.2.2.1 (y * 4 + d).toNat (by omega)
                have e7 := b3.2.2.2.2.2
                have e8 := e7.2.2 (y * 4 + d).toNat (by omega)
                have hr6 : -5 ≤ V (t1 + 6) (y * 4 + d).toNat ∧ V (t1 + 6) (y * 4 + d).toNat ≤ 8 := by rw [e6]; split <;> omega
                refine y_ld (x := iv q) rfl rfl (fun d => rfl) ?_
                refine y_ic rfl rfl ?_
                refine y_jne rfl rfl rfl (by omega) (fun g7 => ?_) (fun g7 => ?_)
                · refine y_ld (x := .ref t1) rfl rfl (fun d => rfl) ?_
                  refine y_gR (i := 8) rfl rfl rfl ht31.1 rfl ?_
                  refine y_ld (x := iv (y * 4 + d)) rfl rfl (fun d => rfl) ?_
                  refine y_ild (x := (V (t1 + 6) ((y * 4 + d).toNat))) (q := ((y * 4 + d).toNat)) rfl rfl ht31.2.2.2.2.2.2 (by omega) (by decide) (by omega) rfl ?_
                  refine y_bi rfl rfl (by decide) ?_
                  refine y_jeq rfl rfl rfl (by omega) (fun g8 => ?_) (fun g8 => ?_)
                  · refine y_ld (x := .ref t1) rfl rfl (fun d => rfl) ?_
                    refine y_gI (i := 7) (e := (V t1 7)) rfl rfl rfl ht31.1 rfl rfl ?_
                    refine y_ld (x := iv (y * 4 + d)) rfl rfl (fun d => rfl) ?_
                    refine y_op (z := (V t1 7 / 2 ^ (y * 4 + d).toNat)) rfl rfl (fun d => rfl) (v_shr (by omega) (by omega)) ?_
                    refine y_ic rfl rfl ?_
                    refine y_op (z := (V t1 7 / 2 ^ (y * 4 + d).toNat % 2)) rfl rfl (fun d => rfl) (v_and1 (Int.ediv_nonneg (by omega) (Int.le_of_lt (v_p2 _)))) ?_
                    refine y_rI rfl (Or.inl rfl) ?_
                    have k2 := k1 (by omega)
                    have e9 : ptA (mkP 0 (fun _ => 0) (tl x.toNat) (y * 4 + d).toNat) q = V t1 7 / 2 ^ (y * 4 + d).toNat % 2 := by
                      unfold ptA
                      by_cases hq : 1 < mkP 0 (fun _ => 0) (tl x.toNat) (y * 4 + d).toNat
                      · rw [if_pos hq] at e6; omega
                      · rw [if_neg (by omega), if_neg hq, e8]
                    rwa [e9] at k2
                  · refine y_ic rfl rfl ?_
                    refine y_rI rfl (Or.inl rfl) ?_
                    have k2 := k1 (by omega)
                    have e9 : ptA (mkP 0 (fun _ => 0) (tl x.toNat) (y * 4 + d).toNat) q = 2 := by
                      unfold ptA
                      rw [if_neg (by omega), if_pos ?_]
                      by_cases hq : 1 < mkP 0 (fun _ => 0) (tl x.toNat) (y * 4 + d).toNat
                      · exact hq
                      · rw [if_neg hq] at e6; omega
                    rwa [e9] at k2
                · refine y_ld (x := .ref t1) rfl rfl (fun d => rfl) ?_
                  refine y_gR (i := 8) rfl rfl rfl ht31.1 rfl ?_
                  refine y_ld (x := iv (y * 4 + d)) rfl rfl (fun d => rfl) ?_
                  refine y_ild (x := (V (t1 + 6) ((y * 4 + d).toNat))) (q := ((y * 4 + d).toNat)) rfl rfl ht31.2.2.2.2.2.2 (by omega) (by decide) (by omega) rfl ?_
                  refine y_rI rfl (Or.inl rfl) ?_
                  have k2 := k1 (by omega)
                  have e9 : ptA (mkP 0 (fun _ => 0) (tl x.toNat) (y * 4 + d).toNat) q = V (t1 + 6) ((y * 4 + d).toNat) := by
                    unfold ptA
                    rw [if_pos (by omega), e6]
                  rwa [e9] at k2
              · refine y_ic rfl rfl ?_
                refine y_rI rfl (Or.inl rfl) ?_
                exact k0 (by omega)
          · refine y_ic rfl rfl ?_
            refine y_rI rfl (Or.inl rfl) ?_
            exact k0 (by omega)
set_option maxRecDepth 100000 in
set_option maxHeartbeats 4000000 in
theorem lp_isSum {mm c o d q e : Nat} (hm : MeS S mm c) (ho : MeS S o d) (hq : MeS S q e) (hr : ∀ p : Nat, p < 84 → -2147483648 ≤ V c p ∧ V c p < 2147483648) (k1 : (∀ p : Nat, 64 ≤ p → p < 84 → V c p = wr (V d p + V e p)) → K u w (some (iv 1)) S V) (k0 : ¬ (∀ p : Nat, 64 ≤ p → p < 84 → V c p = wr (V d p + V e p)) → K u w (some (iv 0)) S V) {F : Nat} : ∀ (m : Nat) (i : Nat), 84 - i < m → (64 ≤ i ∧ i ≤ 84) → (∀ p : Nat, 64 ≤ p → p < i → V c p = wr (V d p + V e p)) → y_E X 0 14 (24 * m + F) u w 3 [(0, .ref mm), (1, .ref o), (2, .ref q), (3, iv (i : Int))] [] S V K := by
  intro m
  induction m with
  | zero => intros; omega
  | succ m ih =>
    intro i hm1 hI hJ 
    refine y_mono (F' := (24 * m + F) + 24) ?_ (by omega)
    refine y_ld (x := iv (i : Int)) rfl rfl (fun d => rfl) ?_
    refine y_bi rfl rfl (by decide) ?_
    refine y_jge rfl rfl rfl (by omega) (fun g1 => ?_) (fun g1 => ?_)
    · refine y_ic rfl rfl ?_
      refine y_rI rfl (by decide) ?_
      exact k1 (fun p h1 h2 => hJ p h1 (by omega))
    · refine y_ld (x := .ref mm) rfl rfl (fun d => rfl) ?_
      refine y_gR (i := 0) rfl rfl rfl hm.1 rfl ?_
      refine y_ld (x := iv (i : Int)) rfl rfl (fun d => rfl) ?_
      refine y_ild (x := (V c i)) (q := i) rfl rfl hm.2 (by omega) (by decide) (by omega) rfl ?_
      refine y_ld (x := .ref o) rfl rfl (fun d => rfl) ?_
      refine y_gR (i := 0) rfl rfl rfl ho.1 rfl ?_
      refine y_ld (x := iv (i : Int)) rfl rfl (fun d => rfl) ?_
      refine y_ild (x := (V d i)) (q := i) rfl rfl ho.2 (by omega) (by decide) (by omega) rfl ?_
      refine y_ld (x := .ref q) rfl rfl (fun d => rfl) ?_
      refine y_gR (i := 0) rfl rfl rfl hq.1 rfl ?_
      refine y_ld (x := iv (i : Int)) rfl rfl (fun d => rfl) ?_
      refine y_ild (x := (V e i)) (q := i) rfl rfl hq.2 (by omega) (by decide) (by omega) rfl ?_
      refine y_add (z := ((V d i) + (V e i))) rfl rfl rfl ?_
      refine y_top (wr_iv _) ?_
      have hw := wr_rg (V d i + V e i)
      have hri := hr i (by omega)
      refine y_jeq rfl rfl rfl (by omega) (fun g2 => ?_) (fun g2 => ?_)
      · refine y_inc (z := ((i + 1 : Nat) : Int)) (lv' := [(3, iv ((i + 1 : Nat) : Int)), (0, .ref mm), (1, .ref o), (2, .ref q)]) rfl rfl rfl (by omega) rfl ?_
        refine y_go rfl rfl ?_
        refine y_lv (l' := [(0, .ref mm), (1, .ref o), (2, .ref q), (3, iv ((i + 1 : Nat) : Int))]) rfl ⟨rfl, rfl, rfl, rfl, trivial⟩ ?_
        exact y_mono (ih (i + 1) (by omega) (by omega) (fun p h1 h2 => by rcases (show p < i ∨ p = i by omega) with h | h <;> first | exact hJ p h1 h | (rw [h]; omega))) (by omega)
      · refine y_ic rfl rfl ?_
        refine y_rI rfl (by decide) ?_
        exact k0 (fun hf => absurd (hf i (by omega) (by omega)) (by omega))
set_option maxRecDepth 100000 in
set_option maxHeartbeats 4000000 in
theorem cc_isSum {m c o d q e : Nat} (hm : MeS S m c) (ho : MeS S o d) (hq : MeS S q e) (hr : ∀ p : Nat, p < 84 → -2147483648 ≤ V c p ∧ V c p < 2147483648) (k1 : (∀ p : Nat, 64 ≤ p → p < 84 → V c p = wr (V d p + V e p)) → K u w (some (iv 1)) S V) (k0 : ¬ (∀ p : Nat, 64 ≤ p → p < 84 → V c p = wr (V d p + V e p)) → K u w (some (iv 0)) S V) : y_R X 1 14 u w [.ref m, .ref o, .ref q] S V K := by
  refine y_ent (lv' := [(0, .ref m), (1, .ref o), (2, .ref q)]) (Nat.le_of_ble_eq_true rfl) rfl ?_
  refine y_bi rfl rfl (by decide) ?_
  refine y_st (lv' := [(3, iv 64), (0, .ref m), (1, .ref o), (2, .ref q)]) rfl rfl (fun d => rfl) ?_
  refine y_lv (l' := [(0, .ref m), (1, .ref o), (2, .ref q), (3, iv ((64 : Nat) : Int))]) rfl ⟨rfl, rfl, rfl, rfl, trivial⟩ ?_
  exact y_mono (lp_isSum (F := 100) hm ho hq hr k1 k0 21 64 (by omega) (by omega) (fun p h1 h2 => absurd h2 (by omega))) (by decide)
set_option maxRecDepth 100000 in
set_option maxHeartbeats 4000000 in
theorem lp_whole (hC : ClF S) {tl : Nat → List p_Li} {cnt : Nat} {σ : Nat → Int} (hRS : RS S V 1 σ tl) (hSO : SO cnt σ) {x y q : Int} (hx : 0 ≤ x ∧ x < σ 1) (hy : 0 ≤ y ∧ y < σ 1) (hq : 0 ≤ q ∧ q < σ 1) (k2 : whP σ x.toNat y.toNat q.toNat → K u w (some (iv 1)) S V) (k3 : ¬ whP σ x.toNat y.toNat q.toNat → K u w (some (iv 0)) S V) {F : Nat} : ∀ (m : Nat) (i : Nat), 16 - i < m → (i ≤ 16) → (∀ p : Nat, p < 4 * i → σ (200 + 84 * q.toNat + p) = σ (200 + 84 * (σ (1552 + 16 * x.toNat + p / 4)).toNat + p)) → y_E X 3 84 (400 * m + F) u w 68 [(0, .ref 0), (1, iv x), (2, iv y), (3, iv q), (4, .ref (10 + 6 * x.toNat)), (5, .ref (10 + 6 * y.toNat)), (6, .ref (10 + 6 * q.toNat)), (7, iv (i : Int))] [] S V K := by
  intro m
  induction m with
  | zero => intros; omega
  | succ m ih =>
    intro i hm hI hJ 
    refine y_mono (F' := (400 * m + F) + 400) ?_ (by omega)
    refine y_ld (x := iv (i : Int)) rfl rfl (fun d => rfl) ?_
    refine y_bi rfl rfl (by decide) ?_
    refine y_jge rfl rfl rfl (by omega) (fun g1 => ?_) (fun g1 => ?_)
    · obtain ⟨n1, n2, n3, n4⟩ := hRS.1
      have hsz := hSO.1
      have b1 := n4 x.toNat (by omega)
      have b2 := n4 y.toNat (by omega)
      have b3 := n4 q.toNat (by omega)
      have hr1 := (hSO.2.2.1 q.toNat (by omega)).2.2.2.2.1
      refine y_ld (x := .ref (10 + 6 * q.toNat)) rfl rfl (fun d => rfl) ?_
      refine y_gR (i := 6) rfl rfl rfl (bx_ob hC (i := q.toNat) (by omega)) rfl ?_
      refine y_ld (x := .ref (10 + 6 * x.toNat)) rfl rfl (fun d => rfl) ?_
      refine y_gR (i := 6) rfl rfl rfl (bx_ob hC (i := x.toNat) (by omega)) rfl ?_
      refine y_ld (x := .ref (10 + 6 * y.toNat)) rfl rfl (fun d => rfl) ?_
      refine y_gR (i := 6) rfl rfl rfl (bx_ob hC (i := y.toNat) (by omega)) rfl ?_
      refine y_cV (as := [.ref (10 + 6 * q.toNat + 2), .ref (10 + 6 * x.toNat + 2), .ref (10 + 6 * y.toNat + 2)]) rfl rfl rfl rfl rfl (bx_mem hC (i := q.toNat) (by omega)) ⟨rfl, (Nat.le_of_ble_eq_true rfl), (Nat.le_of_ble_eq_true rfl)⟩ (by decide) (cc_isSum ⟨(bx_mem hC (i := q.toNat) (by omega)), (bx_mcl hC (i := q.toNat) (by omega))⟩ ⟨(bx_mem hC (i := x.toNat) (by omega)), (bx_mcl hC (i := x.toNat) (by omega))⟩ ⟨(bx_mem hC (i := y.toNat) (by omega)), (bx_mcl hC (i := y.toNat) (by omega))⟩ (fun p hp => by rw [b3.2.2.2.2.2.2.1 p hp]; exact hr1 p hp) (fun hs => ?_) (fun hs => ?_))
      · refine y_nv ?_
        refine y_zeq rfl rfl rfl (by decide) (fun g2 => absurd g2 (by decide)) (fun g2 => ?_)
        refine y_ic rfl rfl ?_
        refine y_go rfl rfl ?_
        refine y_rI rfl (Or.inl rfl) ?_
        exact k2 ⟨fun p hp => hJ p (by omega), fun p h1 h2 => (b3.2.2.2.2.2.2.1 p h2).symm.trans ((hs p h1 h2).trans (by rw [b1.2.2.2.2.2.2.1 p h2, b2.2.2.2.2.2.2.1 p h2]))⟩
      · refine y_nv ?_
        refine y_zeq rfl rfl rfl (by decide) (fun g3 => ?_) (fun g3 => absurd g3 (by decide))
        refine y_ic rfl rfl ?_
        refine y_rI rfl (Or.inl rfl) ?_
        exact k3 (fun hf => hs (fun p h1 h2 => (b3.2.2.2.2.2.2.1 p h2).trans ((hf.2 p h1 h2).trans (by rw [b1.2.2.2.2.2.2.1 p h2, b2.2.2.2.2.2.2.1 p h2]))))
    · obtain ⟨n1, n2, n3, n4⟩ := hRS.1
      have hsz := hSO.1
      have b1 := n4 x.toNat (by omega)
      have b3 := n4 q.toNat (by omega)
      have hL := hSO.2.2.2.1 x.toNat (by omega) i (by omega)
      obtain ⟨c, hc⟩ : ∃ c : Nat, σ (1552 + 16 * x.toNat + i) = (c : Int) := ⟨(σ (1552 + 16 * x.toNat + i)).toNat, by omega⟩
      have hlx := hL.2.2 (by omega)
      have hc8 : c < 8 := by omega
      have b4 := n4 c hc8
      have el : V (10 + 6 * x.toNat + 1) i = (c : Int) := (b1.2.2.2.2.2.1 i (by omega)).trans hc
      have hr1 := (hSO.2.2.1 q.toNat (by omega)).2.2.2.2.1
      have hr2 := (hSO.2.2.1 c hc8).2.2.2.2.1
      refine y_ld (x := .ref 0) rfl rfl (fun d => rfl) ?_
      refine y_gR (i := 0) rfl rfl rfl (hC 0 _ _ rfl) rfl ?_
      refine y_ld (x := .ref (10 + 6 * x.toNat)) rfl rfl (fun d => rfl) ?_
      refine y_gR (i := 5) rfl rfl rfl (bx_ob hC (i := x.toNat) (by omega)) rfl ?_
      refine y_ld (x := iv (i : Int)) rfl rfl (fun d => rfl) ?_
      refine y_ild (x := (c : Int)) (q := i) rfl rfl (bx_led hC (i := x.toNat) (by omega)) (by omega) (by decide) (by omega) el ?_
      refine y_cV (as := [.ref 1, iv (c : Int)]) rfl rfl rfl rfl rfl (hC 1 _ _ rfl) ⟨rfl, (Nat.le_of_ble_eq_true rfl), (Nat.le_of_ble_eq_true rfl)⟩ (by decide) (cb_boxAt (x := (c : Int)) hC (by omega) (by omega) (fun hno => absurd (show 0 ≤ (c : Int) ∧ (c : Int) < V 1 5 by omega) hno) (fun gB => ?_))
      refine y_nv ?_
      refine y_st (lv' := [(8, .ref (10 + 6 * c)), (0, .ref 0), (1, iv x), (2, iv y), (3, iv q), (4, .ref (10 + 6 * x.toNat)), (5, .ref (10 + 6 * y.toNat)), (6, .ref (10 + 6 * q.toNat)), (7, iv (i : Int))]) rfl rfl (fun d => rfl) ?_
      refine y_ld (x := .ref (10 + 6 * c)) rfl rfl (fun d => rfl) ?_
      refine y_in (pc' := 97) rfl rfl (fun d => rfl) ?_
      refine y_ld (x := .ref (10 + 6 * q.toNat)) rfl rfl (fun d => rfl) ?_
      refine y_gR (i := 6) rfl rfl rfl (bx_ob hC (i := q.toNat) (by omega)) rfl ?_
      refine y_ld (x := .ref (10 + 6 * c)) rfl rfl (fun d => rfl) ?_
      refine y_gR (i := 6) rfl rfl rfl (bx_ob hC (i := c) (by omega)) rfl ?_
      refine y_ld (x := iv (i : Int)) rfl rfl (fun d => rfl) ?_
      refine y_cV (as := [.ref (10 + 6 * q.toNat + 2), .ref (10 + 6 * c + 2), iv (i : Int)]) rfl rfl rfl rfl rfl (bx_mem hC (i := q.toNat) (by omega)) ⟨rfl, (Nat.le_of_ble_eq_true rfl), (Nat.le_of_ble_eq_true rfl)⟩ (by decide) (cc_has (t := i) ⟨(bx_mem hC (i := q.toNat) (by omega)), (bx_mcl hC (i := q.toNat) (by omega))⟩ ⟨(bx_mem hC (i := c) (by omega)), (bx_mcl hC (i := c) (by omega))⟩ (by omega) (fun p hp => ⟨by rw [b3.2.2.2.2.2.2.1 p hp]; exact hr1 p hp, by rw [b4.2.2.2.2.2.2.1 p hp]; exact hr2 p hp⟩) (fun hh => ?_) (fun hh => ?_))
      · refine y_nv ?_
        refine y_zne rfl rfl rfl (by decide) (fun g4 => ?_) (fun g4 => absurd g4 (by decide))
        refine y_inc (z := ((i + 1 : Nat) : Int)) (lv' := [(7, iv ((i + 1 : Nat) : Int)), (8, .ref (10 + 6 * c)), (0, .ref 0), (1, iv x), (2, iv y), (3, iv q), (4, .ref (10 + 6 * x.toNat)), (5, .ref (10 + 6 * y.toNat)), (6, .ref (10 + 6 * q.toNat))]) rfl rfl rfl (by omega) rfl ?_
        refine y_go rfl rfl ?_
        refine y_lv (l' := [(0, .ref 0), (1, iv x), (2, iv y), (3, iv q), (4, .ref (10 + 6 * x.toNat)), (5, .ref (10 + 6 * y.toNat)), (6, .ref (10 + 6 * q.toNat)), (7, iv ((i + 1 : Nat) : Int))]) rfl ⟨rfl, rfl, rfl, rfl, rfl, rfl, rfl, rfl, trivial⟩ ?_
        have f0 : σ (200 + 84 * q.toNat + (4 * i + 0)) = σ (200 + 84 * c + (4 * i + 0)) := (b3.2.2.2.2.2.2.1 (4 * i + 0) (by omega)).symm.trans (hh.1.trans (b4.2.2.2.2.2.2.1 (4 * i + 0) (by omega)))
        have f1 : σ (200 + 84 * q.toNat + (4 * i + 1)) = σ (200 + 84 * c + (4 * i + 1)) := (b3.2.2.2.2.2.2.1 (4 * i + 1) (by omega)).symm.trans (hh.2.1.trans (b4.2.2.2.2.2.2.1 (4 * i + 1) (by omega)))
        have f2 : σ (200 + 84 * q.toNat + (4 * i + 2)) = σ (200 + 84 * c + (4 * i + 2)) := (b3.2.2.2.2.2.2.1 (4 * i + 2) (by omega)).symm.trans (hh.2.2.1.trans (b4.2.2.2.2.2.2.1 (4 * i + 2) (by omega)))
        have f3 : σ (200 + 84 * q.toNat + (4 * i + 3)) = σ (200 + 84 * c + (4 * i + 3)) := (b3.2.2.2.2.2.2.1 (4 * i + 3) (by omega)).symm.trans (hh.2.2.2.trans (b4.2.2.2.2.2.2.1 (4 * i + 3) (by omega)))
        refine y_mono (ih (i + 1) (by omega) (by omega) (fun p hp => ?_)) (by omega)
        by_cases h : p < 4 * i
        · exact hJ p h
        · rw [show p / 4 = i by omega, hc, Int.toNat_natCast]
          rcases (show p = 4 * i + 0 ∨ p = 4 * i + 1 ∨ p = 4 * i + 2 ∨ p = 4 * i + 3 by omega) with rfl | rfl | rfl | rfl
          · exact f0
          · exact f1
          · exact f2
          · exact f3
      · refine y_nv ?_
        refine y_zne rfl rfl rfl (by decide) (fun g5 => absurd g5 (by decide)) (fun g5 => ?_)
        refine y_ic rfl rfl ?_
        refine y_rI rfl (Or.inl rfl) ?_
        refine k3 (fun hf => hh ?_)
        have f0 := hf.1 (4 * i + 0) (by omega)
        rw [show (4 * i + 0) / 4 = i by omega, hc, Int.toNat_natCast] at f0
        have u0 := b3.2.2.2.2.2.2.1 (4 * i + 0) (by omega)
        have w0 := b4.2.2.2.2.2.2.1 (4 * i + 0) (by omega)
        have f1 := hf.1 (4 * i + 1) (by omega)
        rw [show (4 * i + 1) / 4 = i by omega, hc, Int.toNat_natCast] at f1
        have u1 := b3.2.2.2.2.2.2.1 (4 * i + 1) (by omega)
        have w1 := b4.2.2.2.2.2.2.1 (4 * i + 1) (by omega)
        have f2 := hf.1 (4 * i + 2) (by omega)
        rw [show (4 * i + 2) / 4 = i by omega, hc, Int.toNat_natCast] at f2
        have u2 := b3.2.2.2.2.2.2.1 (4 * i + 2) (by omega)
        have w2 := b4.2.2.2.2.2.2.1 (4 * i + 2) (by omega)
        have f3 := hf.1 (4 * i + 3) (by omega)
        rw [show (4 * i + 3) / 4 = i by omega, hc, Int.toNat_natCast] at f3
        have u3 := b3.2.2.2.2.2.2.1 (4 * i + 3) (by omega)
        have w3 := b4.2.2.2.2.2.2.1 (4 * i + 3) (by omega)
        exact ⟨u0.trans (f0.trans w0.symm), u1.trans (f1.trans w1.symm), u2.trans (f2.trans w2.symm), u3.trans (f3.trans w3.symm)⟩
set_option maxRecDepth 100000 in
set_option maxHeartbeats 4000000 in
theorem cs_whole (hC : ClF S) {tl : Nat → List p_Li} {cnt : Nat} {σ : Nat → Int} (hRS : RS S V 1 σ tl) (hSO : SO cnt σ) {x : Int} (hx : (-2147483648 ≤ x ∧ x < 2147483648)) {y : Int} (hy : (-2147483648 ≤ y ∧ y < 2147483648)) {q : Int} (hq : (-2147483648 ≤ q ∧ q < 2147483648)) (k0 : ¬ ((0 ≤ x ∧ x < σ 1) ∧ (0 ≤ y ∧ y < σ 1) ∧ (0 ≤ q ∧ q < σ 1)) → K u w (some (iv (-1))) S V) (k1 : ((0 ≤ x ∧ x < σ 1) ∧ (0 ≤ y ∧ y < σ 1) ∧ (0 ≤ q ∧ q < σ 1)) → (x = y ∨ x = q ∨ y = q) → K u w (some (iv (-2))) S V) (k2 : ((0 ≤ x ∧ x < σ 1) ∧ (0 ≤ y ∧ y < σ 1) ∧ (0 ≤ q ∧ q < σ 1)) → ¬ (x = y ∨ x = q ∨ y = q) → whP σ x.toNat y.toNat q.toNat → K u w (some (iv 1)) S V) (k3 : ((0 ≤ x ∧ x < σ 1) ∧ (0 ≤ y ∧ y < σ 1) ∧ (0 ≤ q ∧ q < σ 1)) → ¬ (x = y ∨ x = q ∨ y = q) → ¬ whP σ x.toNat y.toNat q.toNat → K u w (some (iv 0)) S V) : y_R X 4 84 u w [.ref 0, iv x, iv y, iv q] S V K := by
  obtain ⟨n1, n2, n3, n4⟩ := hRS.1
  have hsz := hSO.1
  have hB : 0 ≤ V 1 5 ∧ V 1 5 ≤ 8 := by omega
  refine y_ent (lv' := [(0, .ref 0), (1, iv x), (2, iv y), (3, iv q)]) (Nat.le_of_ble_eq_true rfl) rfl ?_
  refine y_ld (x := .ref 0) rfl rfl (fun d => rfl) ?_
  refine y_gR (i := 0) rfl rfl rfl (hC 0 _ _ rfl) rfl ?_
  refine y_ld (x := iv x) rfl rfl (fun d => rfl) ?_
  refine y_cV (as := [.ref 1, iv x]) rfl rfl rfl rfl rfl (hC 1 _ _ rfl) ⟨rfl, (Nat.le_of_ble_eq_true rfl), (Nat.le_of_ble_eq_true rfl)⟩ (by decide) (cb_boxAt (x := x) hC hB (by omega) (fun gb1 => ?_) (fun gb1 => ?_))
  · refine y_nv ?_
    refine y_st (lv' := [(4, .null), (0, .ref 0), (1, iv x), (2, iv y), (3, iv q)]) rfl rfl (fun d => rfl) ?_
    refine y_ld (x := .ref 0) rfl rfl (fun d => rfl) ?_
    refine y_gR (i := 0) rfl rfl rfl (hC 0 _ _ rfl) rfl ?_
    refine y_ld (x := iv y) rfl rfl (fun d => rfl) ?_
    refine y_cV (as := [.ref 1, iv y]) rfl rfl rfl rfl rfl (hC 1 _ _ rfl) ⟨rfl, (Nat.le_of_ble_eq_true rfl), (Nat.le_of_ble_eq_true rfl)⟩ (by decide) (cb_boxAt (x := y) hC hB (by omega) (fun gb2 => ?_) (fun gb2 => ?_))
    · refine y_nv ?_
      refine y_st (lv' := [(5, .null), (4, .null), (0, .ref 0), (1, iv x), (2, iv y), (3, iv q)]) rfl rfl (fun d => rfl) ?_
      refine y_ld (x := .ref 0) rfl rfl (fun d => rfl) ?_
      refine y_gR (i := 0) rfl rfl rfl (hC 0 _ _ rfl) rfl ?_
      refine y_ld (x := iv q) rfl rfl (fun d => rfl) ?_
      refine y_cV (as := [.ref 1, iv q]) rfl rfl rfl rfl rfl (hC 1 _ _ rfl) ⟨rfl, (Nat.le_of_ble_eq_true rfl), (Nat.le_of_ble_eq_true rfl)⟩ (by decide) (cb_boxAt (x := q) hC hB (by omega) (fun gb3 => ?_) (fun gb3 => ?_))
      · refine y_nv ?_
        refine y_st (lv' := [(6, .null), (5, .null), (4, .null), (0, .ref 0), (1, iv x), (2, iv y), (3, iv q)]) rfl rfl (fun d => rfl) ?_
        refine y_ld (x := .null) rfl rfl (fun d => rfl) ?_
        refine y_in (pc' := 45) rfl rfl (fun d => rfl) ?_
        refine y_ic rfl rfl ?_
        refine y_rI rfl (Or.inl rfl) ?_
        exact k0 (by omega)
      · refine y_nv ?_
        refine y_st (lv' := [(6, .ref (10 + 6 * q.toNat)), (5, .null), (4, .null), (0, .ref 0), (1, iv x), (2, iv y), (3, iv q)]) rfl rfl (fun d => rfl) ?_
        refine y_ld (x := .null) rfl rfl (fun d => rfl) ?_
        refine y_in (pc' := 45) rfl rfl (fun d => rfl) ?_
        refine y_ic rfl rfl ?_
        refine y_rI rfl (Or.inl rfl) ?_
        exact k0 (by omega)
    · refine y_nv ?_
      refine y_st (lv' := [(5, .ref (10 + 6 * y.toNat)), (4, .null), (0, .ref 0), (1, iv x), (2, iv y), (3, iv q)]) rfl rfl (fun d => rfl) ?_
      refine y_ld (x := .ref 0) rfl rfl (fun d => rfl) ?_
      refine y_gR (i := 0) rfl rfl rfl (hC 0 _ _ rfl) rfl ?_
      refine y_ld (x := iv q) rfl rfl (fun d => rfl) ?_
      refine y_cV (as := [.ref 1, iv q]) rfl rfl rfl rfl rfl (hC 1 _ _ rfl) ⟨rfl, (Nat.le_of_ble_eq_true rfl), (Nat.le_of_ble_eq_true rfl)⟩ (by decide) (cb_boxAt (x := q) hC hB (by omega) (fun gb4 => ?_) (fun gb4 => ?_))
      · refine y_nv ?_
        refine y_st (lv' := [(6, .null), (5, .ref (10 + 6 * y.toNat)), (4, .null), (0, .ref 0), (1, iv x), (2, iv y), (3, iv q)]) rfl rfl (fun d => rfl) ?_
        refine y_ld (x := .null) rfl rfl (fun d => rfl) ?_
        refine y_in (pc' := 45) rfl rfl (fun d => rfl) ?_
        refine y_ic rfl rfl ?_
        refine y_rI rfl (Or.inl rfl) ?_
        exact k0 (by omega)
      · refine y_nv ?_
        refine y_st (lv' := [(6, .ref (10 + 6 * q.toNat)), (5, .ref (10 + 6 * y.toNat)), (4, .null), (0, .ref 0), (1, iv x), (2, iv y), (3, iv q)]) rfl rfl (fun d => rfl) ?_
        refine y_ld (x := .null) rfl rfl (fun d => rfl) ?_
        refine y_in (pc' := 45) rfl rfl (fun d => rfl) ?_
        refine y_ic rfl rfl ?_
        refine y_rI rfl (Or.inl rfl) ?_
        exact k0 (by omega)
  · refine y_nv ?_
    refine y_st (lv' := [(4, .ref (10 + 6 * x.toNat)), (0, .ref 0), (1, iv x), (2, iv y), (3, iv q)]) rfl rfl (fun d => rfl) ?_
    refine y_ld (x := .ref 0) rfl rfl (fun d => rfl) ?_
    refine y_gR (i := 0) rfl rfl rfl (hC 0 _ _ rfl) rfl ?_
    refine y_ld (x := iv y) rfl rfl (fun d => rfl) ?_
    refine y_cV (as := [.ref 1, iv y]) rfl rfl rfl rfl rfl (hC 1 _ _ rfl) ⟨rfl, (Nat.le_of_ble_eq_true rfl), (Nat.le_of_ble_eq_true rfl)⟩ (by decide) (cb_boxAt (x := y) hC hB (by omega) (fun gb5 => ?_) (fun gb5 => ?_))
    · refine y_nv ?_
      refine y_st (lv' := [(5, .null), (4, .ref (10 + 6 * x.toNat)), (0, .ref 0), (1, iv x), (2, iv y), (3, iv q)]) rfl rfl (fun d => rfl) ?_
      refine y_ld (x := .ref 0) rfl rfl (fun d => rfl) ?_
      refine y_gR (i := 0) rfl rfl rfl (hC 0 _ _ rfl) rfl ?_
      refine y_ld (x := iv q) rfl rfl (fun d => rfl) ?_
      refine y_cV (as := [.ref 1, iv q]) rfl rfl rfl rfl rfl (hC 1 _ _ rfl) ⟨rfl, (Nat.le_of_ble_eq_true rfl), (Nat.le_of_ble_eq_true rfl)⟩ (by decide) (cb_boxAt (x := q) hC hB (by omega) (fun gb6 => ?_) (fun gb6 => ?_))
      · refine y_nv ?_
        refine y_st (lv' := [(6, .null), (5, .null), (4, .ref (10 + 6 * x.toNat)), (0, .ref 0), (1, iv x), (2, iv y), (3, iv q)]) rfl rfl (fun d => rfl) ?_
        refine y_ld (x := .ref (10 + 6 * x.toNat)) rfl rfl (fun d => rfl) ?_
        refine y_in (pc' := 35) rfl rfl (fun d => rfl) ?_
        refine y_ld (x := .null) rfl rfl (fun d => rfl) ?_
        refine y_in (pc' := 45) rfl rfl (fun d => rfl) ?_
        refine y_ic rfl rfl ?_
        refine y_rI rfl (Or.inl rfl) ?_
        exact k0 (by omega)
      · refine y_nv ?_
        refine y_st (lv' := [(6, .ref (10 + 6 * q.toNat)), (5, .null), (4, .ref (10 + 6 * x.toNat)), (0, .ref 0), (1, iv x), (2, iv y), (3, iv q)]) rfl rfl (fun d => rfl) ?_
        refine y_ld (x := .ref (10 + 6 * x.toNat)) rfl rfl (fun d => rfl) ?_
        refine y_in (pc' := 35) rfl rfl (fun d => rfl) ?_
        refine y_ld (x := .null) rfl rfl (fun d => rfl) ?_
        refine y_in (pc' := 45) rfl rfl (fun d => rfl) ?_
        refine y_ic rfl rfl ?_
        refine y_rI rfl (Or.inl rfl) ?_
        exact k0 (by omega)
    · refine y_nv ?_
      refine y_st (lv' := [(5, .ref (10 + 6 * y.toNat)), (4, .ref (10 + 6 * x.toNat)), (0, .ref 0), (1, iv x), (2, iv y), (3, iv q)]) rfl rfl (fun d => rfl) ?_
      refine y_ld (x := .ref 0) rfl rfl (fun d => rfl) ?_
      refine y_gR (i := 0) rfl rfl rfl (hC 0 _ _ rfl) rfl ?_
      refine y_ld (x := iv q) rfl rfl (fun d => rfl) ?_
      refine y_cV (as := [.ref 1, iv q]) rfl rfl rfl rfl rfl (hC 1 _ _ rfl) ⟨rfl, (Nat.le_of_ble_eq_true rfl), (Nat.le_of_ble_eq_true rfl)⟩ (by decide) (cb_boxAt (x := q) hC hB (by omega) (fun gb7 => ?_) (fun gb7 => ?_))
      · refine y_nv ?_
        refine y_st (lv' := [(6, .null), (5, .ref (10 + 6 * y.toNat)), (4, .ref (10 + 6 * x.toNat)), (0, .ref 0), (1, iv x), (2, iv y), (3, iv q)]) rfl rfl (fun d => rfl) ?_
        refine y_ld (x := .ref (10 + 6 * x.toNat)) rfl rfl (fun d => rfl) ?_
        refine y_in (pc' := 35) rfl rfl (fun d => rfl) ?_
        refine y_ld (x := .ref (10 + 6 * y.toNat)) rfl rfl (fun d => rfl) ?_
        refine y_in (pc' := 40) rfl rfl (fun d => rfl) ?_
        refine y_ld (x := .null) rfl rfl (fun d => rfl) ?_
        refine y_in (pc' := 45) rfl rfl (fun d => rfl) ?_
        refine y_ic rfl rfl ?_
        refine y_rI rfl (Or.inl rfl) ?_
        exact k0 (by omega)
      · refine y_nv ?_
        refine y_st (lv' := [(6, .ref (10 + 6 * q.toNat)), (5, .ref (10 + 6 * y.toNat)), (4, .ref (10 + 6 * x.toNat)), (0, .ref 0), (1, iv x), (2, iv y), (3, iv q)]) rfl rfl (fun d => rfl) ?_
        refine y_ld (x := .ref (10 + 6 * x.toNat)) rfl rfl (fun d => rfl) ?_
        refine y_in (pc' := 35) rfl rfl (fun d => rfl) ?_
        refine y_ld (x := .ref (10 + 6 * y.toNat)) rfl rfl (fun d => rfl) ?_
        refine y_in (pc' := 40) rfl rfl (fun d => rfl) ?_
        refine y_ld (x := .ref (10 + 6 * q.toNat)) rfl rfl (fun d => rfl) ?_
        refine y_in (pc' := 47) rfl rfl (fun d => rfl) ?_
        refine y_ld (x := iv x) rfl rfl (fun d => rfl) ?_
        refine y_ld (x := iv y) rfl rfl (fun d => rfl) ?_
        refine y_jeq rfl rfl rfl (by omega) (fun g1 => ?_) (fun g1 => ?_)
        · refine y_bi rfl rfl (by decide) ?_
          refine y_rI rfl (Or.inl rfl) ?_
          exact k1 (by omega) (by omega)
        · refine y_ld (x := iv x) rfl rfl (fun d => rfl) ?_
          refine y_ld (x := iv q) rfl rfl (fun d => rfl) ?_
          refine y_jeq rfl rfl rfl (by omega) (fun g2 => ?_) (fun g2 => ?_)
          · refine y_bi rfl rfl (by decide) ?_
            refine y_rI rfl (Or.inl rfl) ?_
            exact k1 (by omega) (by omega)
          · refine y_ld (x := iv y) rfl rfl (fun d => rfl) ?_
            refine y_ld (x := iv q) rfl rfl (fun d => rfl) ?_
            refine y_jne rfl rfl rfl (by omega) (fun g3 => ?_) (fun g3 => ?_)
            · refine y_ic rfl rfl ?_
              refine y_st (lv' := [(7, iv 0), (6, .ref (10 + 6 * q.toNat)), (5, .ref (10 + 6 * y.toNat)), (4, .ref (10 + 6 * x.toNat)), (0, .ref 0), (1, iv x), (2, iv y), (3, iv q)]) rfl rfl (fun d => rfl) ?_
              refine y_lv (l' := [(0, .ref 0), (1, iv x), (2, iv y), (3, iv q), (4, .ref (10 + 6 * x.toNat)), (5, .ref (10 + 6 * y.toNat)), (6, .ref (10 + 6 * q.toNat)), (7, iv ((0 : Nat) : Int))]) rfl ⟨rfl, rfl, rfl, rfl, rfl, rfl, rfl, rfl, trivial⟩ ?_
              exact y_mono (lp_whole (F := 200) hC hRS hSO (by omega) (by omega) (by omega) (k2 (by omega) (by omega)) (k3 (by omega) (by omega)) 17 0 (by omega) (by omega) (fun p hp => absurd hp (by omega))) (by decide)
            · refine y_bi rfl rfl (by decide) ?_
              refine y_rI rfl (Or.inl rfl) ?_
              exact k1 (by omega) (by omega)
def tuB (σ : Nat → Int) (b i t : Nat) (v : Int) : Prop := (t < i ∧ tuP σ b t → v = 1) ∧ (¬ (t < i ∧ tuP σ b t) → v = 0)
set_option maxRecDepth 100000 in
set_option maxHeartbeats 4000000 in
theorem lp_fall (hC : ClF S) {tl : Nat → List p_Li} {cnt : Nat} {σ : Nat → Int} (hRS : RS S V 1 σ tl) (hSO : SO cnt σ) {x : Int} (hx : 0 ≤ x ∧ x < σ 1) {F : Nat} : ∀ (m : Nat) (i : Nat) (r : Int), 16 - i < m → (i ≤ 16) → (0 ≤ r ∧ r < 65536) → (∀ t : Nat, tuB σ x.toNat i t (r / 2 ^ t % 2)) → (∀ r : Int, 0 ≤ r ∧ r < 65536 → (∀ t : Nat, tuB σ x.toNat 16 t (r / 2 ^ t % 2)) → y_E X 3 86 F u w 56 [(0, .ref 0), (1, iv x), (2, .ref (10 + 6 * x.toNat)), (3, iv r)] [] S V K) → y_E X 3 86 (100 * m + F) u w 20 [(0, .ref 0), (1, iv x), (2, .ref (10 + 6 * x.toNat)), (3, iv r), (4, iv (i : Int))] [] S V K := by
  intro m
  induction m with
  | zero => intros; omega
  | succ m ih =>
    intro i r hm hI hr hJ hx2
    refine y_mono (F' := (100 * m + F) + 100) ?_ (by omega)
    refine y_ld (x := iv (i : Int)) rfl rfl (fun d => rfl) ?_
    refine y_bi rfl rfl (by decide) ?_
    refine y_jge rfl rfl rfl (by omega) (fun g1 => ?_) (fun g1 => ?_)
    · obtain rfl : i = 16 := by omega
      refine y_lv (l' := [(0, .ref 0), (1, iv x), (2, .ref (10 + 6 * x.toNat)), (3, iv r)]) rfl ⟨rfl, rfl, rfl, rfl, trivial⟩ ?_
      exact y_mono (hx2 r hr hJ) (by omega)
    · obtain ⟨n1, n2, n3, n4⟩ := hRS.1
      have hsz := hSO.1
      have b1 := n4 x.toNat (by omega)
      have hr1 := (hSO.2.2.1 x.toNat (by omega)).2.2.2.2.1
      have hr2 := (hSO.2.2.1 x.toNat (by omega)).2.2.2.2.2
      refine y_ld (x := .ref (10 + 6 * x.toNat)) rfl rfl (fun d => rfl) ?_
      refine y_gR (i := 6) rfl rfl rfl (bx_ob hC (i := x.toNat) (by omega)) rfl ?_
      refine y_ld (x := .ref (10 + 6 * x.toNat)) rfl rfl (fun d => rfl) ?_
      refine y_gR (i := 7) rfl rfl rfl (bx_ob hC (i := x.toNat) (by omega)) rfl ?_
      refine y_ld (x := iv (i : Int)) rfl rfl (fun d => rfl) ?_
      refine y_cV (as := [.ref (10 + 6 * x.toNat + 2), .ref (10 + 6 * x.toNat + 4), iv (i : Int)]) rfl rfl rfl rfl rfl (bx_mem hC (i := x.toNat) (by omega)) ⟨rfl, (Nat.le_of_ble_eq_true rfl), (Nat.le_of_ble_eq_true rfl)⟩ (by decide) (cc_has (t := i) ⟨(bx_mem hC (i := x.toNat) (by omega)), (bx_mcl hC (i := x.toNat) (by omega))⟩ ⟨(bx_cop hC (i := x.toNat) (by omega)), (bx_ccl hC (i := x.toNat) (by omega))⟩ (by omega) (fun p hp => ⟨by rw [b1.2.2.2.2.2.2.1 p hp]; exact hr1 p hp, by rw [b1.2.2.2.2.2.2.2 p hp]; exact hr2 p hp⟩) (fun hh => ?_) (fun hh => ?_))
      · refine y_nv ?_
        refine y_zeq rfl rfl rfl (by decide) (fun g2 => absurd g2 (by decide)) (fun g2 => ?_)
        refine y_ld (x := iv r) rfl rfl (fun d => rfl) ?_
        refine y_ic rfl rfl ?_
        refine y_ld (x := iv (i : Int)) rfl rfl (fun d => rfl) ?_
        refine y_op (z := (2 ^ i)) rfl rfl (fun d => rfl) (v_shl1 (k := (i : Int)) (by omega)) ?_
        refine y_op (z := (v_o2 r i)) rfl rfl (fun d => rfl) (v_or_o2 (by omega) i) ?_
        refine y_st (lv' := [(3, iv (v_o2 r i)), (0, .ref 0), (1, iv x), (2, .ref (10 + 6 * x.toNat)), (4, iv (i : Int))]) rfl rfl (fun d => rfl) ?_
        refine y_inc (z := ((i + 1 : Nat) : Int)) (lv' := [(4, iv ((i + 1 : Nat) : Int)), (3, iv (v_o2 r i)), (0, .ref 0), (1, iv x), (2, .ref (10 + 6 * x.toNat))]) rfl rfl rfl (by omega) rfl ?_
        refine y_go rfl rfl ?_
        refine y_lv (l' := [(0, .ref 0), (1, iv x), (2, .ref (10 + 6 * x.toNat)), (3, iv (v_o2 r i)), (4, iv ((i + 1 : Nat) : Int))]) rfl ⟨rfl, rfl, rfl, rfl, rfl, trivial⟩ ?_
        have u0 := b1.2.2.2.2.2.2.1 (4 * i + 0) (by omega)
        have w0 := b1.2.2.2.2.2.2.2 (4 * i + 0) (by omega)
        have u1 := b1.2.2.2.2.2.2.1 (4 * i + 1) (by omega)
        have w1 := b1.2.2.2.2.2.2.2 (4 * i + 1) (by omega)
        have u2 := b1.2.2.2.2.2.2.1 (4 * i + 2) (by omega)
        have w2 := b1.2.2.2.2.2.2.2 (4 * i + 2) (by omega)
        have u3 := b1.2.2.2.2.2.2.1 (4 * i + 3) (by omega)
        have w3 := b1.2.2.2.2.2.2.2 (4 * i + 3) (by omega)
        have hp : tuP σ x.toNat i := by
          intro d hd
          rcases (show d = 0 ∨ d = 1 ∨ d = 2 ∨ d = 3 by omega) with rfl | rfl | rfl | rfl
          · exact u0.symm.trans (hh.1.trans w0)
          · exact u1.symm.trans (hh.2.1.trans w1)
          · exact u2.symm.trans (hh.2.2.1.trans w2)
          · exact u3.symm.trans (hh.2.2.2.trans w3)
        refine y_mono (ih (i + 1) (v_o2 r i) (by omega) (by omega) (v_o2_lt16 hr (by omega)) (fun t => ?_) hx2) (by omega)
        have hj := hJ t
        rw [v_o2_bit hr.1]
        by_cases ht : t = i
        · rw [if_pos ht, ht]
          exact ⟨fun _ => rfl, fun hn => absurd ⟨by omega, hp⟩ hn⟩
        · rw [if_neg ht]
          exact ⟨fun h5 => hj.1 ⟨by omega, h5.2⟩, fun h5 => hj.2 (fun q5 => h5 ⟨by omega, q5.2⟩)⟩
      · refine y_nv ?_
        refine y_zeq rfl rfl rfl (by decide) (fun g3 => ?_) (fun g3 => absurd g3 (by decide))
        refine y_inc (z := ((i + 1 : Nat) : Int)) (lv' := [(4, iv ((i + 1 : Nat) : Int)), (0, .ref 0), (1, iv x), (2, .ref (10 + 6 * x.toNat)), (3, iv r)]) rfl rfl rfl (by omega) rfl ?_
        refine y_go rfl rfl ?_
        refine y_lv (l' := [(0, .ref 0), (1, iv x), (2, .ref (10 + 6 * x.toNat)), (3, iv r), (4, iv ((i + 1 : Nat) : Int))]) rfl ⟨rfl, rfl, rfl, rfl, rfl, trivial⟩ ?_
        have u0 := b1.2.2.2.2.2.2.1 (4 * i + 0) (by omega)
        have w0 := b1.2.2.2.2.2.2.2 (4 * i + 0) (by omega)
        have u1 := b1.2.2.2.2.2.2.1 (4 * i + 1) (by omega)
        have w1 := b1.2.2.2.2.2.2.2 (4 * i + 1) (by omega)
        have u2 := b1.2.2.2.2.2.2.1 (4 * i + 2) (by omega)
        have w2 := b1.2.2.2.2.2.2.2 (4 * i + 2) (by omega)
        have u3 := b1.2.2.2.2.2.2.1 (4 * i + 3) (by omega)
        have w3 := b1.2.2.2.2.2.2.2 (4 * i + 3) (by omega)
        have hp : ¬ tuP σ x.toNat i := fun hf => hh ⟨u0.trans ((hf 0 (by decide)).trans w0.symm), u1.trans ((hf 1 (by decide)).trans w1.symm), u2.trans ((hf 2 (by decide)).trans w2.symm), u3.trans ((hf 3 (by decide)).trans w3.symm)⟩
        refine y_mono (ih (i + 1) r (by omega) (by omega) hr (fun t => ?_) hx2) (by omega)
        have hj := hJ t
        exact ⟨fun h5 => hj.1 ⟨by rcases (show t < i ∨ t = i by omega) with h6 | h6; exact h6; exact absurd (h6 ▸ h5.2) hp, h5.2⟩, fun h5 => hj.2 (fun q5 => h5 ⟨by omega, q5.2⟩)⟩
set_option maxRecDepth 100000 in
set_option maxHeartbeats 4000000 in
theorem cs_fall (hC : ClF S) {tl : Nat → List p_Li} {cnt : Nat} {σ : Nat → Int} (hRS : RS S V 1 σ tl) (hSO : SO cnt σ) {x : Int} (hx : (-2147483648 ≤ x ∧ x < 2147483648)) (k0 : ¬ (0 ≤ x ∧ x < σ 1) → K u w (some (iv (-1))) S V) (k1 : 0 ≤ x ∧ x < σ 1 → ∀ r : Int, 0 ≤ r ∧ r < 65536 → (∀ t : Nat, tuB σ x.toNat 16 t (r / 2 ^ t % 2)) → K u w (some (iv r)) S (v_ur V (10 + 6 * x.toNat + 3) (V (10 + 6 * x.toNat + 5)))) : y_R X 4 86 u w [.ref 0, iv x] S V K := by
  obtain ⟨n1, n2, n3, n4⟩ := hRS.1
  have hsz := hSO.1
  have hB : 0 ≤ V 1 5 ∧ V 1 5 ≤ 8 := by omega
  refine y_ent (lv' := [(0, .ref 0), (1, iv x)]) (Nat.le_of_ble_eq_true rfl) rfl ?_
  refine y_ld (x := .ref 0) rfl rfl (fun d => rfl) ?_
  refine y_gR (i := 0) rfl rfl rfl (hC 0 _ _ rfl) rfl ?_
  refine y_ld (x := iv x) rfl rfl (fun d => rfl) ?_
  refine y_cV (as := [.ref 1, iv x]) rfl rfl rfl rfl rfl (hC 1 _ _ rfl) ⟨rfl, (Nat.le_of_ble_eq_true rfl), (Nat.le_of_ble_eq_true rfl)⟩ (by decide) (cb_boxAt (x := x) hC hB (by omega) (fun gb1 => ?_) (fun gb1 => ?_))
  · refine y_nv ?_
    refine y_st (lv' := [(2, .null), (0, .ref 0), (1, iv x)]) rfl rfl (fun d => rfl) ?_
    refine y_ld (x := .null) rfl rfl (fun d => rfl) ?_
    refine y_in (pc' := 13) rfl rfl (fun d => rfl) ?_
    refine y_ic rfl rfl ?_
    refine y_rI rfl (Or.inl rfl) ?_
    exact k0 (by omega)
  · refine y_nv ?_
    refine y_st (lv' := [(2, .ref (10 + 6 * x.toNat)), (0, .ref 0), (1, iv x)]) rfl rfl (fun d => rfl) ?_
    refine y_ld (x := .ref (10 + 6 * x.toNat)) rfl rfl (fun d => rfl) ?_
    refine y_in (pc' := 15) rfl rfl (fun d => rfl) ?_
    refine y_ic rfl rfl ?_
    refine y_st (lv' := [(3, iv 0), (2, .ref (10 + 6 * x.toNat)), (0, .ref 0), (1, iv x)]) rfl rfl (fun d => rfl) ?_
    refine y_ic rfl rfl ?_
    refine y_st (lv' := [(4, iv 0), (3, iv 0), (2, .ref (10 + 6 * x.toNat)), (0, .ref 0), (1, iv x)]) rfl rfl (fun d => rfl) ?_
    refine y_lv (l' := [(0, .ref 0), (1, iv x), (2, .ref (10 + 6 * x.toNat)), (3, iv 0), (4, iv ((0 : Nat) : Int))]) rfl ⟨rfl, rfl, rfl, rfl, rfl, trivial⟩ ?_
    refine y_mono (lp_fall (F := 200) hC hRS hSO (x := x) (by omega) 17 0 0 (by omega) (by omega) (by decide) (fun t => ⟨fun hf => absurd hf.1 (by omega), fun _ => by rw [Int.zero_ediv]; rfl⟩) (fun r hr1 hr2 => ?_)) (by decide)
    refine y_ld (x := .ref (10 + 6 * x.toNat)) rfl rfl (fun d => rfl) ?_
    refine y_gR (i := 6) rfl rfl rfl (bx_ob hC (i := x.toNat) (by omega)) rfl ?_
    refine y_ld (x := .ref (10 + 6 * x.toNat)) rfl rfl (fun d => rfl) ?_
    refine y_gR (i := 7) rfl rfl rfl (bx_ob hC (i := x.toNat) (by omega)) rfl ?_
    refine y_cV (as := [.ref (10 + 6 * x.toNat + 2), .ref (10 + 6 * x.toNat + 4)]) rfl rfl rfl rfl rfl (bx_mem hC (i := x.toNat) (by omega)) ⟨rfl, (Nat.le_of_ble_eq_true rfl), (Nat.le_of_ble_eq_true rfl)⟩ (by decide) (cc_mbec ⟨(bx_mem hC (i := x.toNat) (by omega)), (bx_mcl hC (i := x.toNat) (by omega))⟩ ⟨(bx_cop hC (i := x.toNat) (by omega)), (bx_ccl hC (i := x.toNat) (by omega))⟩ ?_)
    refine y_n0 ?_
    refine y_ld (x := iv r) rfl rfl (fun d => rfl) ?_
    refine y_rI rfl (Or.inl rfl) ?_
    exact k1 (by omega) r hr1 hr2
end
