section
/-! orders: the class -/
theorem SI_S {S0 S : m_H} {V0 V V' : v_V} {form N : Int} {al : Nat} {σ : Nat → Int} {m : Nat} (h : SI S0 V0 form N al σ m S V) (e : FrS 0 V V') : SI S0 V0 form N al σ m S V' := by
  obtain ⟨ts, hSr, h2, hX, h4, h5, hC, h7⟩ := h
  exact ⟨ts, SrC_r hSr (e 116 (by decide) (by decide)) (fun k hk => e k (by omega) (by omega)), h2, hX, h4, FrV_tr h5 (FrV_S e), hC, fun q hq => by rw [e 120 (by decide) (by decide)]; exact h7 q hq⟩
theorem v_bs_top (x : Int) (B : Nat) (hx : 0 ≤ x ∧ x < 2 ^ B) : ∀ k, B ≤ k → v_bs x k = v_bs x B
  | 0, h => by
    have : B = 0 := by omega
    subst this
    rfl
  | k + 1, h => by
    by_cases e : B = k + 1
    · rw [e]
    · have ih := v_bs_top x B hx k (by omega)
      have h1 : (2 : Int) ^ B ≤ 2 ^ k := by
        have := Nat.pow_le_pow_right (show 0 < 2 by decide) (show B ≤ k by omega)
        exact_mod_cast this
      have h2 : x / 2 ^ k = 0 := Int.ediv_eq_zero_of_lt hx.1 (by omega)
      simp only [v_bs]
      rw [ih, h2]
      omega
section
variable {X : Nat → List Int32} {u w : Nat} {S : m_H} {V : v_V} {K : v_K}
set_option maxRecDepth 100000 in
set_option maxHeartbeats 4000000 in
theorem lp_cord {S0 : m_H} {V0 : v_V} {σ : Nat → Int} {x y n i : Int} {d al T : Nat} (hd : d ≤ 3) (hT : v_bs x 16 = (T : Int)) (hT4 : 2 ≤ T ∧ T ≤ 4) (hal5 : al ≤ 5) (hpq : ∀ q : Nat, q < al → pkO (σ (1770 + 4 * q)) (σ (1770 + 4 * q + 1)) (σ (1770 + 4 * q + 2)) (σ (1770 + 4 * q + 3))) (hy : 0 ≤ y ∧ y ≤ 4) (hn : 0 ≤ n ∧ n ≤ 99) (hi : -1 ≤ i ∧ i ≤ 2147483647) (hSg : SgC V0 0 0 4 (fun _ _ => 0) aw0) (k2 : ∀ r S2 V2, SrE S0 V0 S2 V2 → K u w (some (iv r)) S2 V2) {F : Nat} : ∀ (m : Nat) (r : Nat) (c f : Int) (S2 : m_H) (W : v_V), 25 - r < m → (r ≤ 24) → (0 ≤ c ∧ c ≤ (r : Int)) → (f = 0 ∨ f = 1) → (SI S0 V0 y n al σ T S2 W) → y_E X 15 90 (120 * m + F) u w 157 [(0, .ref 0), (1, iv x), (2, iv y), (3, iv n), (4, iv (d : Int)), (5, iv i), (6, iv (v_bs x 16)), (7, iv c), (8, iv f), (9, iv (r : Int))] [] S2 W K := by
  intro m
  induction m with
  | zero => intros; omega
  | succ m ih =>
    intro r c f S2 W hm hr hc hf hI 
    refine y_mono (F' := (120 * m + F) + 120) ?_ (by omega)
    have hIc := hI
    have hCW : ClF S2 := by obtain ⟨_, _, _, _, _, _, h, _⟩ := hI; exact h
    refine y_ld (x := iv (r : Int)) rfl rfl (fun d => rfl) ?_
    refine y_bi rfl rfl (by decide) ?_
    refine y_jge rfl rfl rfl (by omega) (fun g1 => ?_) (fun g1 => ?_)
    · refine y_ld (x := iv i) rfl rfl (fun d => rfl) ?_
      refine y_ic rfl rfl ?_
      refine y_jne rfl rfl rfl (by omega) (fun g2 => ?_) (fun g2 => ?_)
      · refine y_ic rfl rfl ?_
        refine y_rI rfl (Or.inl rfl) ?_
        obtain ⟨ts9, c1, c2, c3, c4, c5, c6, c7⟩ := hI
        exact k2 _ S2 W ⟨c4, c1.1, c3, c5⟩
      · refine y_ld (x := iv c) rfl rfl (fun d => rfl) ?_
        refine y_go rfl rfl ?_
        refine y_rI rfl (Or.inl rfl) ?_
        obtain ⟨ts9, c1, c2, c3, c4, c5, c6, c7⟩ := hI
        exact k2 _ S2 W ⟨c4, c1.1, c3, c5⟩
    · refine y_ld (x := iv f) rfl rfl (fun d => rfl) ?_
      refine y_zeq rfl rfl rfl (by omega) (fun g3 => ?_) (fun g3 => ?_)
      · refine y_ld (x := iv i) rfl rfl (fun d => rfl) ?_
        refine y_ic rfl rfl ?_
        refine y_jne rfl rfl rfl (by omega) (fun g4 => ?_) (fun g4 => ?_)
        · refine y_ic rfl rfl ?_
          refine y_rI rfl (Or.inl rfl) ?_
          obtain ⟨ts9, c1, c2, c3, c4, c5, c6, c7⟩ := hI
          exact k2 _ S2 W ⟨c4, c1.1, c3, c5⟩
        · refine y_ld (x := iv c) rfl rfl (fun d => rfl) ?_
          refine y_go rfl rfl ?_
          refine y_rI rfl (Or.inl rfl) ?_
          obtain ⟨ts9, c1, c2, c3, c4, c5, c6, c7⟩ := hI
          exact k2 _ S2 W ⟨c4, c1.1, c3, c5⟩
      · refine y_ld (x := .ref 0) rfl rfl (fun d => rfl) ?_
        refine y_gR (i := 4) rfl rfl rfl (hCW 0 _ _ rfl) rfl ?_
        refine y_ld (x := iv (d : Int)) rfl rfl (fun d => rfl) ?_
        obtain ⟨ts, hSr, h2, hX, h4, h5, hC, h7⟩ := hIc
        refine y_cV (as := [.ref 116, iv (d : Int)]) rfl rfl rfl rfl rfl hSr.1 ⟨rfl, (Nat.le_of_ble_eq_true rfl), (Nat.le_of_ble_eq_true rfl)⟩ (by decide) (cc_shortest (mt := T) hC hT4.2 hal5 h2 hpq (by omega) hn hd hSr (SgC_0 hSg h5 hT4.2) (fun l v V4 b1 b2 b3 b4 => ?_) (fun b2 V4 b4 => ?_))
        · have hl1 := b2.1
          have hl3 : l ≤ 3 := by omega
          have hI4 := SI_S hI b4
          refine y_nv ?_
          refine y_zne rfl rfl rfl (by omega) (fun g5 => ?_) (fun g5 => absurd g5 (by omega))
          refine y_ld (x := .ref 0) rfl rfl (fun d => rfl) ?_
          refine y_gR (i := 4) rfl rfl rfl (hCW 0 _ _ rfl) rfl ?_
          refine y_cV (as := [.ref 116]) rfl rfl rfl rfl rfl hSr.1 ⟨rfl, (Nat.le_of_ble_eq_true rfl), (Nat.le_of_ble_eq_true rfl)⟩ (by decide) (cs_turns hT4 hI4 (fun r2 S5 V5 hr2 hI5 => ?_))
          refine y_nv ?_
          refine y_st (lv' := [(8, iv r2), (0, .ref 0), (1, iv x), (2, iv y), (3, iv n), (4, iv (d : Int)), (5, iv i), (6, iv (v_bs x 16)), (7, iv c), (9, iv (r : Int))]) rfl rfl (fun d => rfl) ?_
          refine y_inc (z := ((r + 1 : Nat) : Int)) (lv' := [(9, iv ((r + 1 : Nat) : Int)), (8, iv r2), (0, .ref 0), (1, iv x), (2, iv y), (3, iv n), (4, iv (d : Int)), (5, iv i), (6, iv (v_bs x 16)), (7, iv c)]) rfl rfl rfl (by omega) rfl ?_
          refine y_go rfl rfl ?_
          refine y_lv (l' := [(0, .ref 0), (1, iv x), (2, iv y), (3, iv n), (4, iv (d : Int)), (5, iv i), (6, iv (v_bs x 16)), (7, iv c), (8, iv r2), (9, iv ((r + 1 : Nat) : Int))]) rfl ⟨rfl, rfl, rfl, rfl, rfl, rfl, rfl, rfl, rfl, rfl, trivial⟩ ?_
          exact y_mono (ih (r + 1) (c) r2 S5 V5 (by omega) (by omega) (by omega) hr2 hI5) (by omega)
        · have hI4 := SI_S hI b4
          refine y_nv ?_
          refine y_zne rfl rfl rfl (by decide) (fun g6 => absurd g6 (by decide)) (fun g6 => ?_)
          refine y_ld (x := iv i) rfl rfl (fun d => rfl) ?_
          refine y_zlt rfl rfl rfl (by omega) (fun g7 => ?_) (fun g7 => ?_)
          · refine y_inc (z := (c + 1)) (lv' := [(7, iv (c + 1)), (0, .ref 0), (1, iv x), (2, iv y), (3, iv n), (4, iv (d : Int)), (5, iv i), (6, iv (v_bs x 16)), (8, iv f), (9, iv (r : Int))]) rfl rfl rfl rfl rfl ?_
            refine y_ld (x := .ref 0) rfl rfl (fun d => rfl) ?_
            refine y_gR (i := 4) rfl rfl rfl (hCW 0 _ _ rfl) rfl ?_
            refine y_cV (as := [.ref 116]) rfl rfl rfl rfl rfl hSr.1 ⟨rfl, (Nat.le_of_ble_eq_true rfl), (Nat.le_of_ble_eq_true rfl)⟩ (by decide) (cs_turns hT4 hI4 (fun r2 S5 V5 hr2 hI5 => ?_))
            refine y_nv ?_
            refine y_st (lv' := [(8, iv r2), (7, iv (c + 1)), (0, .ref 0), (1, iv x), (2, iv y), (3, iv n), (4, iv (d : Int)), (5, iv i), (6, iv (v_bs x 16)), (9, iv (r : Int))]) rfl rfl (fun d => rfl) ?_
            refine y_inc (z := ((r + 1 : Nat) : Int)) (lv' := [(9, iv ((r + 1 : Nat) : Int)), (8, iv r2), (7, iv (c + 1)), (0, .ref 0), (1, iv x), (2, iv y), (3, iv n), (4, iv (d : Int)), (5, iv i), (6, iv (v_bs x 16))]) rfl rfl rfl (by omega) rfl ?_
            refine y_go rfl rfl ?_
            refine y_lv (l' := [(0, .ref 0), (1, iv x), (2, iv y), (3, iv n), (4, iv (d : Int)), (5, iv i), (6, iv (v_bs x 16)), (7, iv (c + 1)), (8, iv r2), (9, iv ((r + 1 : Nat) : Int))]) rfl ⟨rfl, rfl, rfl, rfl, rfl, rfl, rfl, rfl, rfl, rfl, trivial⟩ ?_
            exact y_mono (ih (r + 1) (c + 1) r2 S5 V5 (by omega) (by omega) (by omega) hr2 hI5) (by omega)
          · refine y_ld (x := iv i) rfl rfl (fun d => rfl) ?_
            refine y_ld (x := iv (v_bs x 16)) rfl rfl (fun d => rfl) ?_
            refine y_jge rfl rfl rfl (by omega) (fun g8 => ?_) (fun g8 => ?_)
            · refine y_ic rfl rfl ?_
              refine y_rI rfl (Or.inl rfl) ?_
              obtain ⟨ts9, c1, c2, c3, c4, c5, c6, c7⟩ := hI4
              exact k2 _ S2 V4 ⟨c4, c1.1, c3, c5⟩
            · refine y_ld (x := .ref 0) rfl rfl (fun d => rfl) ?_
              refine y_gR (i := 4) rfl rfl rfl (hCW 0 _ _ rfl) rfl ?_
              refine y_gR (i := 3) rfl rfl rfl hSr.1 rfl ?_
              refine y_ld (x := iv i) rfl rfl (fun d => rfl) ?_
              refine y_ild (x := (V4 120 i.toNat)) (q := i.toNat) rfl rfl (cl_ia hC (k := 120) (N := 4) rfl) (by omega) (by decide) rfl rfl ?_
              refine y_go rfl rfl ?_
              refine y_rI rfl (Or.inl rfl) ?_
              obtain ⟨ts9, c1, c2, c3, c4, c5, c6, c7⟩ := hI4
              exact k2 _ S2 V4 ⟨c4, c1.1, c3, c5⟩
set_option maxRecDepth 100000 in
set_option maxHeartbeats 4000000 in
theorem cs_orders (hC : ClF S) {tl : Nat → List p_Li} {cnt : Nat} {σ : Nat → Int} (hRS : RS S V 1 σ tl) (hSO : SO cnt σ) (hTO : ∀ i : Nat, (i : Int) < σ 0 → TO (tl i)) {lf : Value} (h116 : ce S 116 4 (S116l lf)) (hX : XsA S) (hSg : SgC V 0 0 4 (fun _ _ => 0) aw0) {x : Int} (hx : (-2147483648 ≤ x ∧ x < 2147483648)) {y : Int} (hy : (-2147483648 ≤ y ∧ y < 2147483648)) {n : Int} (hn : (-2147483648 ≤ n ∧ n < 2147483648)) {d : Int} (hd : (-2147483648 ≤ d ∧ d < 2147483648)) {i : Int} (hi : (-2147483648 ≤ i ∧ i < 2147483648)) (k0 : ¬ ((0 ≤ y ∧ y ≤ 4) ∧ -1 ≤ i) → K u w (some (iv (-1))) S V) (k1 : ((0 ≤ y ∧ y ≤ 4) ∧ -1 ≤ i) → ¬ ((0 ≤ x ∧ x ≤ 2 ^ (σ 1).toNat - 1) ∧ (2 ≤ v_bs x 16 ∧ v_bs x 16 ≤ 4) ∧ (0 ≤ n ∧ n ≤ 99) ∧ (1 ≤ d ∧ d ≤ 3)) → K u w (some (iv (-2))) S V) (k2 : ((0 ≤ y ∧ y ≤ 4) ∧ -1 ≤ i) → ((0 ≤ x ∧ x ≤ 2 ^ (σ 1).toNat - 1) ∧ (2 ≤ v_bs x 16 ∧ v_bs x 16 ≤ 4) ∧ (0 ≤ n ∧ n ≤ 99) ∧ (1 ≤ d ∧ d ≤ 3)) → ∀ r S2 V2, SrE S V S2 V2 → K u w (some (iv r)) S2 V2) : y_R X 16 90 u w [.ref 0, iv x, iv y, iv n, iv d, iv i] S V K := by
  obtain ⟨n1, n2, n3, n4⟩ := hRS.1
  have hsz := hSO.1
  obtain ⟨al, hal⟩ : ∃ al : Nat, σ 5 = (al : Int) := ⟨(σ 5).toNat, by omega⟩
  have hal5 : al ≤ 5 := by omega
  have hpq : ∀ q : Nat, q < al → pkO (σ (1770 + 4 * q)) (σ (1770 + 4 * q + 1)) (σ (1770 + 4 * q + 2)) (σ (1770 + 4 * q + 3)) := fun q hq => hSO.2.2.2.2.2.2 q (by omega)
  have e15 : V 1 5 = σ 1 := n1.2.2.1
  obtain ⟨e, e1, e2, e3⟩ := z_us (x := x) (k := V 1 5) (by omega) (by omega)
  rw [e15] at e3
  have hp2 : 1 ≤ (2 ^ (σ 1).toNat : Int) ∧ (2 ^ (σ 1).toNat : Int) ≤ 256 := by
    rcases (show σ 1 = 0 ∨ σ 1 = 1 ∨ σ 1 = 2 ∨ σ 1 = 3 ∨ σ 1 = 4 ∨ σ 1 = 5 ∨ σ 1 = 6 ∨ σ 1 = 7 ∨ σ 1 = 8 by omega) with h | h | h | h | h | h | h | h | h <;> rw [h] <;> decide
  have hv16 := v_bs_le x 16
  refine y_ent (lv' := [(0, .ref 0), (1, iv x), (2, iv y), (3, iv n), (4, iv d), (5, iv i)]) (Nat.le_of_ble_eq_true rfl) rfl ?_
  refine y_ld (x := iv y) rfl rfl (fun d => rfl) ?_
  refine y_cS (as := [iv y]) rfl (by decide) rfl rfl rfl rfl ⟨(Nat.le_of_ble_eq_true rfl), (Nat.le_of_ble_eq_true rfl)⟩ (by decide) (cc_isForm (by omega) ?_)
  refine y_nv ?_
  refine y_beq rfl rfl rfl (fun g1 => ?_) (fun g1 => ?_)
  · refine y_ic rfl rfl ?_
    refine y_rI rfl (Or.inl rfl) ?_
    exact k0 (by omega)
  · refine y_ld (x := iv i) rfl rfl (fun d => rfl) ?_
    refine y_ic rfl rfl ?_
    refine y_jge rfl rfl rfl (by omega) (fun g2 => ?_) (fun g2 => ?_)
    · refine y_ld (x := iv x) rfl rfl (fun d => rfl) ?_
      refine y_cS (as := [iv x]) rfl (by decide) rfl rfl rfl rfl ⟨(Nat.le_of_ble_eq_true rfl), (Nat.le_of_ble_eq_true rfl)⟩ (by decide) (cc_bitCount ?_)
      refine y_nv ?_
      by_cases hx16 : 0 ≤ x ∧ x ≤ 65535
      · refine y_top (v' := iv (v_bs x 16)) (congrArg Value.int (z_bc_eq hx16)) ?_
        refine y_st (lv' := [(6, iv (v_bs x 16)), (0, .ref 0), (1, iv x), (2, iv y), (3, iv n), (4, iv d), (5, iv i)]) rfl rfl (fun d => rfl) ?_
        refine y_ld (x := iv x) rfl rfl (fun d => rfl) ?_
        refine y_ld (x := .ref 0) rfl rfl (fun d => rfl) ?_
        refine y_gR (i := 0) rfl rfl rfl (hC 0 _ _ rfl) rfl ?_
        refine y_gI (i := 5) (e := (V 1 5)) rfl rfl rfl (hC 1 _ _ rfl) rfl rfl ?_
        refine y_op (z := e) rfl rfl (fun d => rfl) e2 ?_
        refine y_zne rfl rfl rfl (by omega) (fun g3 => ?_) (fun g3 => ?_)
        · refine y_bi rfl rfl (by decide) ?_
          refine y_rI rfl (Or.inl rfl) ?_
          exact k1 (by omega) (by omega)
        · refine y_ld (x := iv (v_bs x 16)) rfl rfl (fun d => rfl) ?_
          refine y_ic rfl rfl ?_
          refine y_jlt rfl rfl rfl (by omega) (fun g4 => ?_) (fun g4 => ?_)
          · refine y_bi rfl rfl (by decide) ?_
            refine y_rI rfl (Or.inl rfl) ?_
            exact k1 (by omega) (by omega)
          · refine y_ld (x := iv (v_bs x 16)) rfl rfl (fun d => rfl) ?_
            refine y_ic rfl rfl ?_
            refine y_jle rfl rfl rfl (by omega) (fun g5 => ?_) (fun g5 => ?_)
            · refine y_ld (x := iv n) rfl rfl (fun d => rfl) ?_
              refine y_cS (as := [iv n]) rfl (by decide) rfl rfl rfl rfl ⟨(Nat.le_of_ble_eq_true rfl), (Nat.le_of_ble_eq_true rfl)⟩ (by decide) (cc_isN (by omega) ?_)
              refine y_nv ?_
              refine y_beq rfl rfl rfl (fun g6 => ?_) (fun g6 => ?_)
              · refine y_bi rfl rfl (by decide) ?_
                refine y_rI rfl (Or.inl rfl) ?_
                exact k1 (by omega) (by omega)
              · refine y_ld (x := iv d) rfl rfl (fun d => rfl) ?_
                refine y_cS (as := [iv d]) rfl (by decide) rfl rfl rfl rfl ⟨(Nat.le_of_ble_eq_true rfl), (Nat.le_of_ble_eq_true rfl)⟩ (by decide) (cc_isDepth (by omega) ?_)
                refine y_nv ?_
                refine y_bne rfl rfl rfl (fun g7 => ?_) (fun g7 => ?_)
                · obtain ⟨dn, rfl⟩ : ∃ dn : Nat, d = (dn : Int) := ⟨d.toNat, by omega⟩
                  obtain ⟨B, hB⟩ : ∃ B : Nat, σ 1 = (B : Int) := ⟨(σ 1).toNat, by omega⟩
                  rw [hB, Int.toNat_natCast] at e3 k2 hp2
                  have hbt := v_bs_top x B ⟨by omega, by omega⟩ 16 (by omega)
                  refine y_ld (x := .ref 0) rfl rfl (fun d => rfl) ?_
                  refine y_gR (i := 4) rfl rfl rfl (hC 0 _ _ rfl) rfl ?_
                  refine y_ld (x := .ref 0) rfl rfl (fun d => rfl) ?_
                  refine y_gR (i := 0) rfl rfl rfl (hC 0 _ _ rfl) rfl ?_
                  refine y_gR (i := 11) rfl rfl rfl (hC 1 _ _ rfl) rfl ?_
                  refine y_ld (x := .ref 0) rfl rfl (fun d => rfl) ?_
                  refine y_gR (i := 0) rfl rfl rfl (hC 0 _ _ rfl) rfl ?_
                  refine y_gI (i := 12) (e := (al : Int)) rfl rfl rfl (hC 1 _ _ rfl) rfl (n1.2.2.2.2.2.2.trans hal) ?_
                  refine y_ld (x := iv y) rfl rfl (fun d => rfl) ?_
                  refine y_ld (x := iv n) rfl rfl (fun d => rfl) ?_
                  refine y_cV (as := [.ref 116, .ref 7, iv (al : Int), iv y, iv n]) rfl rfl rfl rfl rfl h116 ⟨rfl, (Nat.le_of_ble_eq_true rfl), (Nat.le_of_ble_eq_true rfl)⟩ (by decide) (cs_begin (form := y) (N := n) (ts := (fun _ => [])) hC h116 hX hRS hal (fun S1 V1 hSr1 hX1 q1 f1 hC1 => ?_))
                  refine y_n0 ?_
                  refine y_ic rfl rfl ?_
                  refine y_st (lv' := [(7, iv 0), (6, iv (v_bs x 16)), (0, .ref 0), (1, iv x), (2, iv y), (3, iv n), (4, iv (dn : Int)), (5, iv i)]) rfl rfl (fun d => rfl) ?_
                  refine y_lv (l' := [(0, .ref 0), (1, iv x), (2, iv y), (3, iv n), (4, iv (dn : Int)), (5, iv i), (6, iv (v_bs x 16)), (7, iv ((0 : Nat) : Int))]) rfl ⟨rfl, rfl, rfl, rfl, rfl, rfl, rfl, rfl, trivial⟩ ?_
                  refine y_mono (lp_ctold (F := 100000) hRS hSO hTO (by omega) (by omega) hB 9 0 S1 V1 (by omega) (by omega) ⟨_, hSr1, fun q hq => absurd hq (by show ¬ q < 0; omega), hX1, q1, f1, hC1, fun q hq => absurd hq (by show ¬ q < 0; omega)⟩ (fun S3 V3 hI3 => ?_)) (by decide)
                  rw [← hbt] at hI3
                  obtain ⟨T, hT⟩ : ∃ T : Nat, v_bs x 16 = (T : Int) := ⟨(v_bs x 16).toNat, by omega⟩
                  rw [hT, Int.toNat_natCast] at hI3
                  refine y_ic rfl rfl ?_
                  refine y_st (lv' := [(7, iv 0), (0, .ref 0), (1, iv x), (2, iv y), (3, iv n), (4, iv (dn : Int)), (5, iv i), (6, iv (v_bs x 16))]) rfl rfl (fun d => rfl) ?_
                  refine y_ic rfl rfl ?_
                  refine y_st (lv' := [(8, iv 1), (7, iv 0), (0, .ref 0), (1, iv x), (2, iv y), (3, iv n), (4, iv (dn : Int)), (5, iv i), (6, iv (v_bs x 16))]) rfl rfl (fun d => rfl) ?_
                  refine y_ic rfl rfl ?_
                  refine y_st (lv' := [(9, iv 0), (8, iv 1), (7, iv 0), (0, .ref 0), (1, iv x), (2, iv y), (3, iv n), (4, iv (dn : Int)), (5, iv i), (6, iv (v_bs x 16))]) rfl rfl (fun d => rfl) ?_
                  refine y_lv (l' := [(0, .ref 0), (1, iv x), (2, iv y), (3, iv n), (4, iv (dn : Int)), (5, iv i), (6, iv (v_bs x 16)), (7, iv 0), (8, iv 1), (9, iv ((0 : Nat) : Int))]) rfl ⟨rfl, rfl, rfl, rfl, rfl, rfl, rfl, rfl, rfl, rfl, trivial⟩ ?_
                  exact y_mono (lp_cord (F := 1000) (by omega) hT (by omega) hal5 hpq (by omega) (by omega) (by omega) hSg (fun r S2 V2 h => k2 (by omega) (by omega) r S2 V2 h) 26 0 0 1 S3 V3 (by omega) (by omega) (by omega) (Or.inr rfl) hI3) (by decide)
                · refine y_bi rfl rfl (by decide) ?_
                  refine y_rI rfl (Or.inl rfl) ?_
                  exact k1 (by omega) (by omega)
            · refine y_bi rfl rfl (by decide) ?_
              refine y_rI rfl (Or.inl rfl) ?_
              exact k1 (by omega) (by omega)
      · refine y_st (lv' := [(6, .int (z_bc (Int32.ofInt x))), (0, .ref 0), (1, iv x), (2, iv y), (3, iv n), (4, iv d), (5, iv i)]) rfl rfl (fun d => rfl) ?_
        refine y_ld (x := iv x) rfl rfl (fun d => rfl) ?_
        refine y_ld (x := .ref 0) rfl rfl (fun d => rfl) ?_
        refine y_gR (i := 0) rfl rfl rfl (hC 0 _ _ rfl) rfl ?_
        refine y_gI (i := 5) (e := (V 1 5)) rfl rfl rfl (hC 1 _ _ rfl) rfl rfl ?_
        refine y_op (z := e) rfl rfl (fun d => rfl) e2 ?_
        refine y_zne rfl rfl rfl (by omega) (fun g8 => ?_) (fun g8 => absurd g8 (by omega))
        refine y_bi rfl rfl (by decide) ?_
        refine y_rI rfl (Or.inl rfl) ?_
        exact k1 (by omega) (by omega)
    · refine y_ic rfl rfl ?_
      refine y_rI rfl (Or.inl rfl) ?_
      exact k0 (by omega)
end
end
section
/-! BETWEEN TWO CALLS: what the class holds and what the reference holds -/
def NT (S : m_H) (k : Nat) (lim : Int) (t : Nat) : Prop := ∀ ta, ce S k 22 ta → ∀ i : Nat, (i : Int) < lim → m_nth ta i ≠ some (.ref t)
/-- the reader: the TEXT that it has at hand is none of those that it gave away -/
def Rd (S : m_H) (l1 l2 : Int) : Prop := ∃ tp tv, ce S 115 3 [tp, .int 0, .int 0, tv] ∧ (tv = .null ∨ ∃ t, tv = .ref t ∧ 193 ≤ t ∧ TxS S t ∧ NT S 3 l1 t ∧ NT S 60 l2 t)
def Se (S : m_H) (V : v_V) : Prop := (∃ lf, ce S 116 4 (S116l lf)) ∧ XsA S ∧ SgC V 0 0 4 (fun _ _ => 0) aw0
/-- the class -/
def RC (S : m_H) (V : v_V) (σ τ : Nat → Int) (tl : Nat → List p_Li) : Prop := ClF S ∧ RS S V 1 σ tl ∧ RS S V 58 τ tl ∧ Rd S (σ 0) (τ 0) ∧ Se S V ∧ (0 ≤ V 8 1 ∧ V 8 1 ≤ 20) ∧ (0 ≤ V 65 1 ∧ V 65 1 ≤ 20) ∧ (V 0 2 = 0 ∨ V 0 2 = 1)
/-- the reference -/
def RM (S : m_H) (V : v_V) (σ τ : Nat → Int) (tl : Nat → List p_Li) (im : Int) : Prop := MdS S ∧ V 171 = σ ∧ V 172 = τ ∧ (∀ i : Nat, (i : Int) < σ 0 → MT V i (tl i)) ∧ (0 ≤ V 170 40 ∧ V 170 40 ≤ 20) ∧ V 170 3 = im
def RP (cnt : Nat) (σ τ : Nat → Int) (tl : Nat → List p_Li) : Prop := SO cnt σ ∧ SO cnt τ ∧ τ 0 ≤ σ 0 ∧ ∀ i : Nat, (i : Int) < σ 0 → TO (tl i)
def RZ (cnt u w : Nat) (S : m_H) : Prop := 193 ≤ S.length ∧ S.length ≤ 193 + 12 * cnt ∧ u ≤ 193 + 12 * cnt ∧ w ≤ 11164 + 400 * cnt
def RR (cnt u w : Nat) (S : m_H) (V : v_V) : Prop := ∃ tl, RC S V (V 171) (V 172) tl ∧ RM S V (V 171) (V 172) tl (V 0 2) ∧ RP cnt (V 171) (V 172) tl ∧ RZ cnt u w S
theorem SO_le {c c2 : Nat} {σ : Nat → Int} (h : SO c σ) (hc : c ≤ c2) : SO c2 σ := by
  obtain ⟨a1, a2, a3, a4, a5, a6, a7⟩ := h
  refine ⟨a1, a2, fun b hb => ?_, a4, a5, a6, a7⟩
  obtain ⟨b1, b2, b3, b4, b5, b6⟩ := a3 b hb
  exact ⟨b1, b2, b3, by omega, b5, b6⟩
theorem RP_le {c c2 : Nat} {σ τ : Nat → Int} {tl : Nat → List p_Li} (h : RP c σ τ tl) (hc : c ≤ c2) : RP c2 σ τ tl := ⟨SO_le h.1 hc, SO_le h.2.1 hc, h.2.2⟩
theorem RZ_le {c c2 u w : Nat} {S : m_H} (h : RZ c u w S) (hc : c ≤ c2) : RZ c2 u w S := by
  unfold RZ at *
  omega
theorem RR_le {c c2 u w : Nat} {S : m_H} {V : v_V} (h : RR c u w S V) (hc : c ≤ c2) : RR c2 u w S V := by
  obtain ⟨tl, h1, h2, h3, h4⟩ := h
  exact ⟨tl, h1, h2, RP_le h3 hc, RZ_le h4 hc⟩
theorem RM_fr {S S' : m_H} {V V' : v_V} {σ τ : Nat → Int} {tl : Nat → List p_Li} {im : Int} (h : RM S V σ τ tl im) (hM : MdS S') (e : ∀ k, 170 ≤ k → k ≤ 192 → V' k = V k) : RM S' V' σ τ tl im := by
  obtain ⟨h1, h2, h3, h4, h5, h6⟩ := h
  exact ⟨hM, (e 171 (by decide) (by decide)).trans h2, (e 172 (by decide) (by decide)).trans h3, fun i hi => MT_x (h4 i hi) (fun k a b => e k (by omega) (by omega)), by rw [e 170 (by decide) (by decide)]; exact h5, by rw [e 170 (by decide) (by decide)]; exact h6⟩
theorem Se_V {S : m_H} {V V' : v_V} (h : Se S V) (e : ∀ k, (123 ≤ k ∧ k < 131) ∨ (154 ≤ k ∧ k < 158) → V' k = V k) : Se S V' := by
  obtain ⟨h1, h2, h3⟩ := h
  refine ⟨h1, h2, fun i hi p hp => ?_, fun hf => ?_⟩
  · rw [e _ (by omega)]
    exact h3.1 i hi p hp
  · exact RWc_r (h3.2 hf) ⟨by rw [e _ (by omega)], by rw [e _ (by omega)], by rw [e _ (by omega)]⟩ (e _ (by omega)) (e _ (by omega)) (e _ (by omega))
theorem RC_fr {S : m_H} {V V' : v_V} {σ τ : Nat → Int} {tl : Nat → List p_Li} (h : RC S V σ τ tl) (e : ∀ k, k < 170 ∨ 193 ≤ k → V' k = V k) : RC S V' σ τ tl := by
  obtain ⟨h1, h2, h3, h4, h5, h6, h7, h8⟩ := h
  exact ⟨h1, RS_fr h2 (Or.inl rfl) (SQ_rf 0 S) (by decide) (fun k _ _ => e k (by omega)) (fun k _ => e k (by omega)), RS_fr h3 (Or.inr rfl) (SQ_rf 0 S) (by decide) (fun k _ _ => e k (by omega)) (fun k _ => e k (by omega)), h4, Se_V h5 (fun k hk => e k (by omega)), by rw [e 8 (by decide)]; exact h6, by rw [e 65 (by decide)]; exact h7, by rw [e 0 (by decide)]; exact h8⟩
/-- a call of the class and then the same call of the reference -/
def PR (X : Nat → List Int32) (eq : Prop) (jc jm : Nat) (cs ms : List Value) (cnt u w : Nat) (S : m_H) (V : v_V) : Prop :=
  ∀ K : v_K, (∀ (x : Int) (u1 w1 : Nat) (S1 : m_H) (V1 : v_V), MdS S1 → (∀ K2 : v_K, (∀ (x2 : Int) (u2 w2 : Nat) (S2 : m_H) (V2 : v_V), RR (cnt + 1) u2 w2 S2 V2 → (eq → x2 = x) → K2 u2 w2 (some (iv x2)) S2 V2) → y_R X 40 jm u1 w1 ms S1 V1 K2) → K u1 w1 (some (iv x)) S1 V1) → y_R X 40 jc u w cs S V K
/-- what a call of the class leaves, and then one of the reference -/
theorem RR_mk {cnt u w : Nat} {S : m_H} {V V2 : v_V} {σ τ : Nat → Int} {tl : Nat → List p_Li} {im : Int} (hC : RC S V σ τ tl) (hM : RM S V2 σ τ tl im) (e : ∀ k, k < 170 ∨ 193 ≤ k → V2 k = V k) (hi : V 0 2 = im) (hP : RP cnt σ τ tl) (hZ : RZ cnt u w S) : RR cnt u w S V2 := by
  obtain ⟨m1, m2, m3, m4, m5, m6⟩ := hM
  refine ⟨tl, ?_, ⟨m1, rfl, rfl, ?_, m5, ?_⟩, ?_, hZ⟩
  · rw [m2, m3]
    exact RC_fr hC e
  · rw [m2]; exact m4
  · rw [m6, e 0 (by decide)]; exact hi.symm
  · rw [m2, m3]; exact hP
end
section
/-! pairs of calls that change nothing -/
section
variable {X : Nat → List Int32} {u w cnt : Nat} {S : m_H} {V : v_V}
set_option maxRecDepth 100000 in
set_option maxHeartbeats 4000000 in
theorem pr_latest (hR : RR cnt u w S V) {x : Int} (hx1 : (-2147483648 ≤ x ∧ x < 2147483648)) : PR X True 77 139 [.ref 0, iv x] [.ref 170, iv x] cnt u w S V := by
  have hR2 := RR_le hR (Nat.le_succ cnt)
  obtain ⟨tl, hC, hM, hP, hZ⟩ := hR
  have hC0 := hC
  have hM0 := hM
  have hP0 := hP
  obtain ⟨c1, c2, c3, c4, c5, c6, c7, c8⟩ := hC
  obtain ⟨m1, -, -, m4, m5, m6⟩ := hM
  obtain ⟨p1, p2, p3, p4⟩ := hP
  obtain ⟨n1, n2, n3, n4⟩ := c2.1
  have hsz := p1.1
  have e := fun (a : 0 ≤ x) (b : x < V 171 1) => (show V (10 + 6 * x.toNat) 3 = V 171 (186 + x).toNat by rw [show (186 + x).toNat = 186 + x.toNat by omega]; exact (n4 x.toNat (by omega)).2.2.2.1)
  intro K hK
  refine y_Rm (D' := 2) (cs_latest c1 (by omega) hx1 ?_ ?_) (by decide)
  all_goals intros
  all_goals refine hK _ _ _ _ _ m1 (fun K2 h2 => y_Rm (D' := 3) (ms_latest m1 (by omega) hx1 ?_ ?_) (by decide))
  all_goals intros
  all_goals first | (exfalso; omega) | exact h2 _ _ _ _ _ hR2 (fun _ => by first | rfl | exact (e (by omega) (by omega)).symm)
set_option maxRecDepth 100000 in
set_option maxHeartbeats 4000000 in
theorem pr_led (hR : RR cnt u w S V) {x : Int} (hx1 : (-2147483648 ≤ x ∧ x < 2147483648)) {y : Int} (hy1 : (-2147483648 ≤ y ∧ y < 2147483648)) : PR X True 81 147 [.ref 0, iv x, iv y] [.ref 170, iv x, iv y] cnt u w S V := by
  have hR2 := RR_le hR (Nat.le_succ cnt)
  obtain ⟨tl, hC, hM, hP, hZ⟩ := hR
  have hC0 := hC
  have hM0 := hM
  have hP0 := hP
  obtain ⟨c1, c2, c3, c4, c5, c6, c7, c8⟩ := hC
  obtain ⟨m1, -, -, m4, m5, m6⟩ := hM
  obtain ⟨p1, p2, p3, p4⟩ := hP
  obtain ⟨n1, n2, n3, n4⟩ := c2.1
  have hsz := p1.1
  have e := fun (a : 0 ≤ x) (b : x < V 171 1) (c : 0 ≤ y) (d : y < 16) => (show V (10 + 6 * x.toNat + 1) y.toNat = V 171 (1552 + 16 * x + y).toNat by rw [show (1552 + 16 * x + y).toNat = 1552 + 16 * x.toNat + y.toNat by omega]; exact (n4 x.toNat (by omega)).2.2.2.2.2.1 y.toNat (by omega))
  intro K hK
  refine y_Rm (D' := 2) (cs_led c1 (by omega) hx1 hy1 ?_ ?_ ?_) (by decide)
  all_goals intros
  all_goals refine hK _ _ _ _ _ m1 (fun K2 h2 => y_Rm (D' := 3) (ms_led m1 (by omega) hx1 hy1 ?_ ?_ ?_) (by decide))
  all_goals intros
  all_goals first | (exfalso; omega) | exact h2 _ _ _ _ _ hR2 (fun _ => by first | rfl | exact (e (by omega) (by omega) (by omega) (by omega)).symm)
set_option maxRecDepth 100000 in
set_option maxHeartbeats 4000000 in
theorem pr_part (hR : RR cnt u w S V) {x : Int} (hx1 : (-2147483648 ≤ x ∧ x < 2147483648)) {y : Int} (hy1 : (-2147483648 ≤ y ∧ y < 2147483648)) {d : Int} (hd1 : (-2147483648 ≤ d ∧ d < 2147483648)) {q : Int} (hq1 : (-2147483648 ≤ q ∧ q < 2147483648)) : PR X True 73 126 [.ref 0, iv x, iv y, iv d, iv q] [.ref 170, iv x, iv y, iv d, iv q] cnt u w S V := by
  have hR2 := RR_le hR (Nat.le_succ cnt)
  obtain ⟨tl, hC, hM, hP, hZ⟩ := hR
  have hC0 := hC
  have hM0 := hM
  have hP0 := hP
  obtain ⟨c1, c2, c3, c4, c5, c6, c7, c8⟩ := hC
  obtain ⟨m1, -, -, m4, m5, m6⟩ := hM
  obtain ⟨p1, p2, p3, p4⟩ := hP
  obtain ⟨n1, n2, n3, n4⟩ := c2.1
  have hsz := p1.1
  intro K hK
  refine y_Rm (D' := 2) (cs_part c1 c2 p1 p4 hx1 hy1 hd1 hq1 ?_ ?_) (by decide)
  all_goals intros
  all_goals refine hK _ _ _ _ _ m1 (fun K2 h2 => y_Rm (D' := 3) (ms_part m1 p1 p4 m4 hx1 hy1 hd1 hq1 ?_ ?_) (by decide))
  all_goals intros
  all_goals first | (exfalso; omega) | exact h2 _ _ _ _ _ hR2 (fun _ => by rfl)
set_option maxRecDepth 100000 in
set_option maxHeartbeats 4000000 in
theorem pr_trace (hR : RR cnt u w S V) {x : Int} (hx1 : (-2147483648 ≤ x ∧ x < 2147483648)) : PR X False 92 174 [.ref 0, iv x] [.ref 170, iv x] cnt u w S V := by
  have hR2 := RR_le hR (Nat.le_succ cnt)
  obtain ⟨tl, hC, hM, hP, hZ⟩ := hR
  have hC0 := hC
  have hM0 := hM
  have hP0 := hP
  obtain ⟨c1, c2, c3, c4, c5, c6, c7, c8⟩ := hC
  obtain ⟨m1, -, -, m4, m5, m6⟩ := hM
  obtain ⟨p1, p2, p3, p4⟩ := hP
  obtain ⟨n1, n2, n3, n4⟩ := c2.1
  have hsz := p1.1
  intro K hK
  refine y_Rm (D' := 1) (cs_trace c1 hx1 (by omega) ?_ ?_ ?_ ?_) (by decide)
  all_goals intros
  all_goals refine hK _ _ _ _ _ m1 (fun K2 h2 => y_Rm (D' := 2) (ms_trace m1 hx1 (by omega) ?_ ?_ ?_ ?_) (by decide))
  all_goals intros
  all_goals first | (exfalso; omega) | exact h2 _ _ _ _ _ hR2 (fun _ => by contradiction)
set_option maxRecDepth 100000 in
set_option maxHeartbeats 4000000 in
theorem pr_count (hR : RR cnt u w S V) {x : Int} (hx1 : (-2147483648 ≤ x ∧ x < 2147483648)) : PR X (x ≠ 7) 96 178 [.ref 0, iv x] [.ref 170, iv x] cnt u w S V := by
  have hR2 := RR_le hR (Nat.le_succ cnt)
  obtain ⟨tl, hC, hM, hP, hZ⟩ := hR
  have hC0 := hC
  have hM0 := hM
  have hP0 := hP
  obtain ⟨c1, c2, c3, c4, c5, c6, c7, c8⟩ := hC
  obtain ⟨m1, -, -, m4, m5, m6⟩ := hM
  obtain ⟨p1, p2, p3, p4⟩ := hP
  obtain ⟨n1, n2, n3, n4⟩ := c2.1
  have hsz := p1.1
  intro K hK
  refine y_Rm (D' := 1) (cs_count c1 hx1 ?_ ?_ ?_ ?_ ?_ ?_ ?_ ?_ ?_) (by decide)
  all_goals intros
  all_goals refine hK _ _ _ _ _ m1 (fun K2 h2 => y_Rm (D' := 1) (ms_count m1 hx1 ?_ ?_ ?_ ?_ ?_ ?_ ?_ ?_ ?_) (by decide))
  all_goals intros
  all_goals first | (exfalso; omega) | exact h2 _ _ _ _ _ hR2 (fun _ => by first | rfl | omega)
end
end
section
/-! pairs of calls that change nothing, more of them -/
def lnA (l : List p_Li) (y : Int) : Int := if y = -1 then (l.length : Int) else match m_nth l y.toNat with | some x => (x.2.2.2.length : Int) | none => -1
section
variable {X : Nat → List Int32} {u w : Nat} {S : m_H} {V : v_V} {K : v_K}
set_option maxRecDepth 100000 in
set_option maxHeartbeats 4000000 in
theorem cs_lin (hC : ClF S) {tl : Nat → List p_Li} {cnt : Nat} {σ : Nat → Int} (hRS : RS S V 1 σ tl) (hSO : SO cnt σ) (hTO : ∀ i : Nat, (i : Int) < σ 0 → TO (tl i)) {x : Int} (hx : (-2147483648 ≤ x ∧ x < 2147483648)) {y : Int} (hy : (-2147483648 ≤ y ∧ y < 2147483648)) (k0 : ¬ ((0 ≤ x ∧ x < σ 0) ∧ -1 ≤ y ∧ y < (tl x.toNat).length) → K u w (some (iv (-1))) S V) (k1 : ((0 ≤ x ∧ x < σ 0) ∧ -1 ≤ y ∧ y < (tl x.toNat).length) → K u w (some (iv (lnA (tl x.toNat) y))) S V) : y_R X 2 72 u w [.ref 0, iv x, iv y] S V K := by
  obtain ⟨n1, n2, n3, n4⟩ := hRS.1
  have hsz := hSO.1
  obtain ⟨ta, hT, hTt⟩ := TAx_RT hRS.2.1 hRS.1 hSO
  obtain ⟨al, hal⟩ : ∃ al : Nat, σ 5 = (al : Int) := ⟨(σ 5).toNat, by omega⟩
  have hal5 : al ≤ 5 := by omega
  have hpq : ∀ q : Nat, q < al → pkO (σ (1770 + 4 * q)) (σ (1770 + 4 * q + 1)) (σ (1770 + 4 * q + 2)) (σ (1770 + 4 * q + 3)) := fun q hq => hSO.2.2.2.2.2.2 q (by omega)
  refine y_ent (lv' := [(0, .ref 0), (1, iv x), (2, iv y)]) (Nat.le_of_ble_eq_true rfl) rfl ?_
  refine y_ld (x := .ref 0) rfl rfl (fun d => rfl) ?_
  refine y_gR (i := 0) rfl rfl rfl (hC 0 _ _ rfl) rfl ?_
  refine y_ld (x := iv x) rfl rfl (fun d => rfl) ?_
  refine y_cV (as := [.ref 1, iv x]) rfl rfl rfl rfl rfl (hC 1 _ _ rfl) ⟨rfl, (Nat.le_of_ble_eq_true rfl), (Nat.le_of_ble_eq_true rfl)⟩ (by decide) (cb_textAt (x := x) hC hT (by omega) (fun gT1 => ?_) (fun (t : Nat) gT1 ht1a ht1b ht1c => ?_))
  · refine y_nv ?_
    refine y_st (lv' := [(3, .null), (0, .ref 0), (1, iv x), (2, iv y)]) rfl rfl (fun d => rfl) ?_
    refine y_ld (x := .null) rfl rfl (fun d => rfl) ?_
    refine y_in (pc' := 26) rfl rfl (fun d => rfl) ?_
    refine y_ic rfl rfl ?_
    refine y_rI rfl (Or.inl rfl) ?_
    exact k0 (by omega)
  · obtain ⟨-, -, hct1⟩ := hTt x.toNat t (by omega) ht1a
    refine y_nv ?_
    refine y_st (lv' := [(3, .ref t), (0, .ref 0), (1, iv x), (2, iv y)]) rfl rfl (fun d => rfl) ?_
    refine y_ld (x := .ref t) rfl rfl (fun d => rfl) ?_
    refine y_in (pc' := 13) rfl rfl (fun d => rfl) ?_
    refine y_ld (x := iv y) rfl rfl (fun d => rfl) ?_
    refine y_ic rfl rfl ?_
    refine y_jlt rfl rfl rfl (by omega) (fun g1 => ?_) (fun g1 => ?_)
    · refine y_ic rfl rfl ?_
      refine y_rI rfl (Or.inl rfl) ?_
      exact k0 (by omega)
    · have hl := hTO x.toNat (by omega)
      have hl8 := hl.2.2.1
      have ht0 := hct1.1
      refine y_ld (x := iv y) rfl rfl (fun d => rfl) ?_
      refine y_ld (x := .ref t) rfl rfl (fun d => rfl) ?_
      refine y_gI (i := 0) (e := (V t 0)) rfl rfl rfl ht1c.1 rfl rfl ?_
      refine y_jlt rfl rfl rfl (by omega) (fun g2 => ?_) (fun g2 => ?_)
      · refine y_ld (x := iv y) rfl rfl (fun d => rfl) ?_
        refine y_ic rfl rfl ?_
        refine y_jne rfl rfl rfl (by omega) (fun g3 => ?_) (fun g3 => ?_)
        · refine y_ld (x := .ref t) rfl rfl (fun d => rfl) ?_
          refine y_gR (i := 4) rfl rfl rfl ht1c.1 rfl ?_
          refine y_ld (x := iv y) rfl rfl (fun d => rfl) ?_
          refine y_ild (x := (V (t + 4) y.toNat)) (q := y.toNat) rfl rfl ht1c.2.2.2.2.1 (by omega) (by decide) rfl rfl ?_
          refine y_rI rfl (Or.inl rfl) ?_
          have k2 := k1 (by omega)
          obtain ⟨x9, hx9⟩ : ∃ x9, m_nth (tl x.toNat) y.toNat = some x9 := ⟨_, by rw [m_nth_eq]; exact List.getElem?_eq_getElem (by omega)⟩
          have e9 : lnA (tl x.toNat) y = V (t + 4) y.toNat := by
            unfold lnA
            rw [if_neg (by omega), hx9, (hct1.2.2.2.1 _ _ hx9).2.2.2]
          rwa [e9] at k2
        · refine y_ld (x := .ref t) rfl rfl (fun d => rfl) ?_
          refine y_gI (i := 0) (e := (V t 0)) rfl rfl rfl ht1c.1 rfl rfl ?_
          refine y_go rfl rfl ?_
          refine y_rI rfl (Or.inl rfl) ?_
          have k2 := k1 (by omega)
          have e9 : lnA (tl x.toNat) y = V t 0 := by
            unfold lnA
            rw [if_pos (by omega), ht0]
          rwa [e9] at k2
      · refine y_ic rfl rfl ?_
        refine y_rI rfl (Or.inl rfl) ?_
        exact k0 (by omega)
end
section
variable {X : Nat → List Int32} {u w cnt : Nat} {S : m_H} {V : v_V}
set_option maxRecDepth 100000 in
set_option maxHeartbeats 4000000 in
theorem pr_whole (hR : RR cnt u w S V) {x : Int} (hx1 : (-2147483648 ≤ x ∧ x < 2147483648)) {y : Int} (hy1 : (-2147483648 ≤ y ∧ y < 2147483648)) {q : Int} (hq1 : (-2147483648 ≤ q ∧ q < 2147483648)) : PR X True 84 150 [.ref 0, iv x, iv y, iv q] [.ref 170, iv x, iv y, iv q] cnt u w S V := by
  have hR2 := RR_le hR (Nat.le_succ cnt)
  obtain ⟨tl, hC, hM, hP, hZ⟩ := hR
  have hC0 := hC
  have hM0 := hM
  have hP0 := hP
  obtain ⟨c1, c2, c3, c4, c5, c6, c7, c8⟩ := hC
  obtain ⟨m1, -, -, m4, m5, m6⟩ := hM
  obtain ⟨p1, p2, p3, p4⟩ := hP
  obtain ⟨n1, n2, n3, n4⟩ := c2.1
  have hsz := p1.1
  intro K hK
  refine y_Rm (D' := 4) (cs_whole c1 c2 p1 hx1 hy1 hq1 ?_ ?_ ?_ ?_) (by decide)
  all_goals intros
  all_goals refine hK _ _ _ _ _ m1 (fun K2 h2 => y_Rm (D' := 4) (ms_whole m1 p1 hx1 hy1 hq1 ?_ ?_ ?_ ?_) (by decide))
  all_goals intros
  all_goals first | contradiction | (exfalso; omega) | exact h2 _ _ _ _ _ hR2 (fun _ => by rfl)
set_option maxRecDepth 100000 in
set_option maxHeartbeats 4000000 in
theorem pr_cell (hR : RR cnt u w S V) {x : Int} (hx1 : (-2147483648 ≤ x ∧ x < 2147483648)) {l : Int} (hl1 : (-2147483648 ≤ l ∧ l < 2147483648)) {d : Int} (hd1 : (-2147483648 ≤ d ∧ d < 2147483648)) {o : Int} (ho1 : (-2147483648 ≤ o ∧ o < 2147483648)) : PR X True 76 138 [.ref 0, iv x, iv l, iv d, iv o] [.ref 170, iv x, iv l, iv d, iv o] cnt u w S V := by
  have hR2 := RR_le hR (Nat.le_succ cnt)
  obtain ⟨tl, hC, hM, hP, hZ⟩ := hR
  have hC0 := hC
  have hM0 := hM
  have hP0 := hP
  obtain ⟨c1, c2, c3, c4, c5, c6, c7, c8⟩ := hC
  obtain ⟨m1, -, -, m4, m5, m6⟩ := hM
  obtain ⟨p1, p2, p3, p4⟩ := hP
  obtain ⟨n1, n2, n3, n4⟩ := c2.1
  have hsz := p1.1
  intro K hK
  refine y_Rm (D' := 2) (cs_cell c1 (by omega) hx1 hl1 hd1 ho1 ?_ ?_ ?_ ?_ ?_ ?_ ?_ ?_ ?_ ?_ ?_ ?_ ?_ ?_) (by decide)
  all_goals intros
  all_goals refine hK _ _ _ _ _ m1 (fun K2 h2 => y_Rm (D' := 3) (ms_cell m1 (by omega) hx1 hl1 hd1 ho1 ?_ ?_ ?_ ?_ ?_ ?_ ?_ ?_ ?_ ?_ ?_ ?_ ?_ ?_ ?_ ?_ ?_ ?_) (by decide))
  all_goals intros
  all_goals first | (exfalso; omega) | exact h2 _ _ _ _ _ hR2 (fun _ => by first | rfl | (rw [(n4 x.toNat (by omega)).2.2.2.2.2.2.1 _ (by unfold z_pl; (repeat' split) <;> omega)]; congr 1; unfold z_pl; (repeat' split) <;> omega))
set_option maxRecDepth 100000 in
set_option maxHeartbeats 4000000 in
theorem pr_as (hXa : X 2 = m_above) (h3X : X 3 = []) (hR : RR cnt u w S V) {x : Int} (hx1 : (-2147483648 ≤ x ∧ x < 2147483648)) {y : Int} (hy1 : (-2147483648 ≤ y ∧ y < 2147483648)) : PR X True 93 175 [.ref 0, iv x, iv y] [.ref 170, iv x, iv y] cnt u w S V := by
  have hR2 := RR_le hR (Nat.le_succ cnt)
  obtain ⟨tl, hC, hM, hP, hZ⟩ := hR
  have hC0 := hC
  have hM0 := hM
  have hP0 := hP
  obtain ⟨c1, c2, c3, c4, c5, c6, c7, c8⟩ := hC
  obtain ⟨m1, -, -, m4, m5, m6⟩ := hM
  obtain ⟨p1, p2, p3, p4⟩ := hP
  obtain ⟨n1, n2, n3, n4⟩ := c2.1
  have hsz := p1.1
  have e1 : 0 ≤ x ∧ x < V 171 1 → V (10 + 6 * x.toNat) 1 = V 171 (170 + x.toNat) := fun a => (n4 x.toNat (by omega)).2.1
  have e2 : 0 ≤ x ∧ x < V 171 1 → V (10 + 6 * x.toNat) 2 = V 171 (178 + x.toNat) := fun a => (n4 x.toNat (by omega)).2.2.1
  intro K hK
  refine y_Rm (D' := 2) (cs_as c1 (by omega) hXa h3X hx1 hy1 (fun b hb => by rw [(n4 b hb).2.1]; exact (p1.2.2.1 b hb).1) ?_ ?_ ?_ ?_ ?_ ?_ ?_ ?_ ?_ ?_ ?_ ?_ ?_ ?_ ?_ ?_ ?_ ?_ ?_ ?_ ?_ ?_ ?_ ?_ ?_ ?_ ?_ ?_ ?_ ?_ ?_ ?_ ?_) (by decide)
  all_goals intros
  all_goals refine hK _ _ _ _ _ m1 (fun K2 h2 => y_Rm (D' := 3) (ms_as m1 (by omega) hx1 hy1 (fun b hb => (p1.2.2.1 b hb).1) ?_ ?_ ?_ ?_) (by decide))
  all_goals intros
  all_goals first | (exfalso; omega) | exact h2 _ _ _ _ _ hR2 (fun _ => by first | rfl | omega)
end
end
section
/-! a call's frame: what it leaves of all that holds between two calls -/
def SV (q : Nat) (S S' : m_H) : Prop := (∀ k, k ≠ q → k < S.length → m_nth S' k = m_nth S k) ∧ S.length ≤ S'.length
theorem SV_rf (q : Nat) (S : m_H) : SV q S S := ⟨fun _ _ _ => rfl, Nat.le_refl _⟩
theorem SV_app (q : Nat) (S : m_H) (c : Nat × List Value) : SV q S (S ++ [c]) := ⟨fun k _ hk => by rw [m_nth_app, if_neg (by omega)], by rw [List.length_append]; omega⟩
theorem SV_set (q : Nat) (S : m_H) (c : Nat × List Value) : SV q S (S.set q c) := ⟨fun k hk _ => by rw [m_nth_set, if_neg hk], by rw [List.length_set]; omega⟩
theorem SV_tr {q : Nat} {S S' S'' : m_H} (h : SV q S S') (h2 : SV q S' S'') : SV q S S'' := ⟨fun k a b => (h2.1 k a (by have := h.2; omega)).trans (h.1 k a b), Nat.le_trans h.2 h2.2⟩
theorem SV_ce {q : Nat} {S S' : m_H} (h : SV q S S') {k t : Nat} {vs : List Value} (hk : k ≠ q) (hc : ce S k t vs) : ce S' k t vs := ⟨hc.1, (h.1 k hk (m_nth_lt hc.2)).trans hc.2⟩
theorem SV_cf {q : Nat} {S S' : m_H} (h : SV q S S') {k t : Nat} {vs : List Value} (hk : k ≠ q) (hl : k < S.length) (hc : ce S' k t vs) : ce S k t vs := ⟨hc.1, (h.1 k hk hl).symm.trans hc.2⟩
theorem TxS_v {q : Nat} {S S' : m_H} (h : SV q S S') {t : Nat} (hq : q < 193) (ht : 193 ≤ t) (hx : TxS S t) : TxS S' t :=
  ⟨SV_ce h (by omega) hx.1, SV_ce h (by omega) hx.2.1, SV_ce h (by omega) hx.2.2.1, SV_ce h (by omega) hx.2.2.2.1, SV_ce h (by omega) hx.2.2.2.2.1, SV_ce h (by omega) hx.2.2.2.2.2.1, SV_ce h (by omega) hx.2.2.2.2.2.2⟩
theorem MdS_v {q : Nat} {S S' : m_H} (h : MdS S) (hS : SV q S S') (hq : q < 170) : MdS S' := by
  have e : ∀ k t vs, 170 ≤ k → ce S k t vs → ce S' k t vs := fun k t vs hk hc => SV_ce hS (by omega) hc
  obtain ⟨a0, a1, a2, a3, a4, a5, a6, a7, a8, a9, b0, b1, b2, b3, b4, b5, b6, b7, b8, b9, c0, c1, c2⟩ := h
  exact ⟨e _ _ _ (by decide) a0, e _ _ _ (by decide) a1, e _ _ _ (by decide) a2, e _ _ _ (by decide) a3, e _ _ _ (by decide) a4, e _ _ _ (by decide) a5, e _ _ _ (by decide) a6, e _ _ _ (by decide) a7, e _ _ _ (by decide) a8, e _ _ _ (by decide) a9, e _ _ _ (by decide) b0, e _ _ _ (by decide) b1, e _ _ _ (by decide) b2, e _ _ _ (by decide) b3, e _ _ _ (by decide) b4, e _ _ _ (by decide) b5, e _ _ _ (by decide) b6, e _ _ _ (by decide) b7, e _ _ _ (by decide) b8, e _ _ _ (by decide) b9, e _ _ _ (by decide) c0, e _ _ _ (by decide) c1, e _ _ _ (by decide) c2⟩
theorem ClF_v {q : Nat} {S S' : m_H} (h : ClF S) (hS : SV q S S') (hq : cl_mut.contains q = true) : ClF S' := by
  intro k t vs hk
  refine SV_ce hS (fun e => ?_) (h k t vs hk)
  subst e
  unfold cl_at at hk
  rw [if_pos hq] at hk
  cases hk
theorem Rd_v {q : Nat} {S S' : m_H} {l1 l2 : Int} (h : Rd S l1 l2) (hS : SV q S S') (hq : q < 193 ∧ q ≠ 3 ∧ q ≠ 60 ∧ q ≠ 115) (hl : 193 ≤ S.length) : Rd S' l1 l2 := by
  obtain ⟨tp, tv, h1, h2⟩ := h
  refine ⟨tp, tv, SV_ce hS (by omega) h1, ?_⟩
  rcases h2 with h2 | ⟨t, a1, a2, a3, a4, a5⟩
  · exact Or.inl h2
  · exact Or.inr ⟨t, a1, a2, TxS_v hS hq.1 a2 a3, fun ta hc => a4 ta (SV_cf hS (by omega) (by omega) hc), fun ta hc => a5 ta (SV_cf hS (by omega) (by omega) hc)⟩
theorem RS_x {S S' : m_H} {V V' : v_V} {B q : Nat} {σ : Nat → Int} {tl : Nat → List p_Li} (h : RS S V B σ tl) (hS : SQ q S S') (hq : q < 193 ∧ q ≠ B + 2 ∧ q ≠ B + 5 ∧ q ≠ B + 6) (hV : ∀ k, B ≤ k → k < B + 57 → V' k = V k) (hV2 : ∀ k, 193 ≤ k → k < S.length → V' k = V k) : RS S' V' B σ tl :=
  ⟨RN_fr h.1 hV, RT_fr h.2.1 hS ⟨hq.1, hq.2.1⟩ (fun i t _ ht hx hct => CT_r hct (fun i hi => hV2 _ (by omega) (by have h6 := ce_lt hx.2.2.2.2.2.2; omega))) (Int.le_refl _), RW_fr h.2.2.1 hS ⟨hq.1, hq.2.2.1⟩ (fun k _ _ _ _ hk hp => hV2 k hk (ce_lt hp.1)) (Int.le_refl _) (fun _ _ _ _ => rfl), RA_fr h.2.2.2 hS ⟨hq.1, hq.2.2.2⟩ (fun k _ _ _ _ hk hp => hV2 k hk (ce_lt hp.1)) (Int.le_refl _) (fun _ _ _ _ => rfl)⟩
/-- a call that changes the class' state, its TEXTS aside -/
theorem RC_x {S S' : m_H} {V V' : v_V} {q : Nat} {σ σ' τ : Nat → Int} {tl : Nat → List p_Li} (h : RC S V σ τ tl) (hl : 193 ≤ S.length) (hS : SQ q S S') (hV : SV q S S') (hq : q = 6 ∨ q = 7) (h1 : RS S' V' 1 σ' tl) (h0 : σ' 0 = σ 0) (e : ∀ k, k = 0 ∨ k = 8 ∨ (58 ≤ k ∧ k < 170) ∨ (193 ≤ k ∧ k < S.length) → V' k = V k) : RC S' V' σ' τ tl := by
  obtain ⟨a1, a2, a3, a4, ⟨⟨lf, a5⟩, ⟨xs, x1, x2, x3⟩, a7⟩, a8, a9, b1⟩ := h
  refine ⟨ClF_v a1 hV (by rcases hq with rfl | rfl <;> decide), h1, RS_x a3 hS (by omega) (fun k _ _ => e k (by omega)) (fun k _ _ => e k (by omega)), by rw [h0]; exact Rd_v a4 hV (by omega) hl, ⟨⟨lf, SV_ce hV (by omega) a5⟩, ⟨xs, SV_ce hV (by omega) x1, x2, fun v hv => hS.2 _ _ (x3 v hv)⟩, ?_⟩, by rw [e 8 (by omega)]; exact a8, by rw [e 65 (by omega)]; exact a9, by rw [e 0 (by omega)]; exact b1⟩
  exact (Se_V ⟨⟨lf, a5⟩, ⟨xs, x1, x2, x3⟩, a7⟩ (fun k hk => e k (by omega))).2.2
theorem RM_x {S : m_H} {V V2 : v_V} {σ σ' τ : Nat → Int} {tl : Nat → List p_Li} {im : Int} (h : RM S V σ τ tl im) (h1 : V2 171 = σ') (h0 : σ' 0 = σ 0) (e : ∀ k, 172 ≤ k → k ≤ 177 → V2 k = V k) (e2 : V2 170 40 = V 170 40 ∧ V2 170 3 = V 170 3) : RM S V2 σ' τ tl im := by
  obtain ⟨a1, a2, a3, a4, a5, a6⟩ := h
  exact ⟨a1, h1, (e 172 (by decide) (by decide)).trans a3, fun i hi => MT_x (a4 i (by rw [← h0]; exact hi)) (fun k a b => e k (by omega) (by omega)), by rw [e2.1]; exact a5, by rw [e2.2]; exact a6⟩
theorem RP_x {cnt : Nat} {σ σ' τ : Nat → Int} {tl : Nat → List p_Li} (h : RP cnt σ τ tl) (hs : SO (cnt + 1) σ') (h0 : σ' 0 = σ 0) : RP (cnt + 1) σ' τ tl := ⟨hs, SO_le h.2.1 (Nat.le_succ cnt), by rw [h0]; exact h.2.2.1, fun i hi => h.2.2.2 i (by rw [← h0]; exact hi)⟩
theorem RZ_x {cnt u w a b : Nat} {S S' : m_H} (h : RZ cnt u w S) (hl : S.length ≤ S'.length ∧ S'.length ≤ S.length + 12) (ha : a ≤ 12) (hb : b ≤ 400) : RZ (cnt + 1) (u + a) (w + b) S' := by
  unfold RZ at *
  omega
end
section
/-! lines of the reference; pairs of calls that work packets -/
section
variable {X : Nat → List Int32} {u w : Nat} {S : m_H} {V : v_V} {K : v_K}
set_option maxRecDepth 100000 in
set_option maxHeartbeats 4000000 in
theorem ms_lin (hM : MdS S) {tl : Nat → List p_Li} {cnt : Nat} (hSO : SO cnt (V 171)) (hTO : ∀ i : Nat, (i : Int) < V 171 0 → TO (tl i)) (hMTs : ∀ i : Nat, (i : Int) < V 171 0 → MT V i (tl i)) {x : Int} (hx : (-2147483648 ≤ x ∧ x < 2147483648)) {y : Int} (hy : (-2147483648 ≤ y ∧ y < 2147483648)) (k0 : ¬ ((0 ≤ x ∧ x < V 171 0) ∧ -1 ≤ y ∧ y < (tl x.toNat).length) → K u w (some (iv (-1))) S V) (k1 : ((0 ≤ x ∧ x < V 171 0) ∧ -1 ≤ y ∧ y < (tl x.toNat).length) → K u w (some (iv (lnA (tl x.toNat) y))) S V) : y_R X 3 125 u w [.ref 170, iv x, iv y] S V K := by
  have hsz := hSO.1
  refine y_ent (lv' := [(0, .ref 170), (1, iv x), (2, iv y)]) (Nat.le_of_ble_eq_true rfl) rfl ?_
  refine y_ld (x := .ref 170) rfl rfl (fun d => rfl) ?_
  refine y_ld (x := iv x) rfl rfl (fun d => rfl) ?_
  refine y_cV (as := [.ref 170, iv x]) rfl rfl rfl rfl rfl (md170 hM) ⟨rfl, (Nat.le_of_ble_eq_true rfl), (Nat.le_of_ble_eq_true rfl)⟩ (by decide) (ct_isText hM (by omega) ⟨rfl, by omega⟩ ?_)
  refine y_nv ?_
  refine y_beq rfl rfl rfl (fun g1 => ?_) (fun g1 => ?_)
  · refine y_ic rfl rfl ?_
    refine y_rI rfl (Or.inl rfl) ?_
    exact k0 (by omega)
  · have hl := hTO x.toNat (by omega)
    have hl8 := hl.2.2.1
    have hMx := hMTs x.toNat (by omega)
    have h5 := hMx.2.2.1
    refine y_ld (x := iv y) rfl rfl (fun d => rfl) ?_
    refine y_ic rfl rfl ?_
    refine y_ld (x := .ref 170) rfl rfl (fun d => rfl) ?_
    refine y_gR (i := 6) rfl rfl rfl (md170 hM) rfl ?_
    refine y_ld (x := iv x) rfl rfl (fun d => rfl) ?_
    refine y_ild (x := (V 175 ((x).toNat))) (q := ((x).toNat)) rfl rfl (md175 hM) (by omega) (by decide) rfl rfl ?_
    refine y_ic rfl rfl ?_
    refine y_sub (z := ((V 175 ((x).toNat)) - 1)) rfl rfl rfl ?_
    refine y_cS (as := [iv y, iv (-1), iv ((V 175 ((x).toNat)) - 1)]) rfl (by decide) rfl rfl rfl rfl ⟨(Nat.le_of_ble_eq_true rfl), (Nat.le_of_ble_eq_true rfl)⟩ (by decide) (ct_in (by omega) ?_)
    refine y_nv ?_
    refine y_bne rfl rfl rfl (fun g2 => ?_) (fun g2 => ?_)
    · refine y_ld (x := iv y) rfl rfl (fun d => rfl) ?_
      refine y_ic rfl rfl ?_
      refine y_jne rfl rfl rfl (by omega) (fun g3 => ?_) (fun g3 => ?_)
      · refine y_ld (x := .ref 170) rfl rfl (fun d => rfl) ?_
        refine y_gR (i := 7) rfl rfl rfl (md170 hM) rfl ?_
        refine y_bi rfl rfl (by decide) ?_
        refine y_ld (x := iv x) rfl rfl (fun d => rfl) ?_
        refine y_mul (z := (8 * x)) rfl rfl rfl ?_
        refine y_ld (x := iv y) rfl rfl (fun d => rfl) ?_
        refine y_add (z := ((8 * x) + y)) rfl rfl rfl ?_
        refine y_ild (x := (V 176 (8 * x.toNat + y.toNat))) (q := (8 * x.toNat + y.toNat)) rfl rfl (md176 hM) (by omega) (by decide) (by omega) rfl ?_
        refine y_rI rfl (Or.inl rfl) ?_
        have k2 := k1 (by omega)
        obtain ⟨x9, hx9⟩ : ∃ x9, m_nth (tl x.toNat) y.toNat = some x9 := ⟨_, by rw [m_nth_eq]; exact List.getElem?_eq_getElem (by omega)⟩
        have e9 : lnA (tl x.toNat) y = V 176 (8 * x.toNat + y.toNat) := by
          unfold lnA
          rw [if_neg (by omega), hx9, hMx.2.2.2.1 _ _ hx9]
        rwa [e9] at k2
      · refine y_ld (x := .ref 170) rfl rfl (fun d => rfl) ?_
        refine y_gR (i := 6) rfl rfl rfl (md170 hM) rfl ?_
        refine y_ld (x := iv x) rfl rfl (fun d => rfl) ?_
        refine y_ild (x := (V 175 ((x).toNat))) (q := ((x).toNat)) rfl rfl (md175 hM) (by omega) (by decide) rfl rfl ?_
        refine y_go rfl rfl ?_
        refine y_rI rfl (Or.inl rfl) ?_
        have k2 := k1 (by omega)
        have e9 : lnA (tl x.toNat) y = V 175 x.toNat := by
          unfold lnA
          rw [if_pos (by omega), h5]
        rwa [e9] at k2
    · refine y_ic rfl rfl ?_
      refine y_rI rfl (Or.inl rfl) ?_
      exact k0 (by omega)
end
section
variable {X : Nat → List Int32} {u w cnt : Nat} {S : m_H} {V : v_V}
set_option maxRecDepth 100000 in
set_option maxHeartbeats 4000000 in
theorem pr_lines (hR : RR cnt u w S V) {x : Int} (hx1 : (-2147483648 ≤ x ∧ x < 2147483648)) {y : Int} (hy1 : (-2147483648 ≤ y ∧ y < 2147483648)) : PR X True 72 125 [.ref 0, iv x, iv y] [.ref 170, iv x, iv y] cnt u w S V := by
  have hR2 := RR_le hR (Nat.le_succ cnt)
  obtain ⟨tl, hC, hM, hP, hZ⟩ := hR
  have hC0 := hC
  have hM0 := hM
  have hP0 := hP
  obtain ⟨c1, c2, c3, c4, c5, c6, c7, c8⟩ := hC
  obtain ⟨m1, -, -, m4, m5, m6⟩ := hM
  obtain ⟨p1, p2, p3, p4⟩ := hP
  obtain ⟨n1, n2, n3, n4⟩ := c2.1
  have hsz := p1.1
  intro K hK
  refine y_Rm (D' := 2) (cs_lin c1 c2 p1 p4 hx1 hy1 ?_ ?_) (by decide)
  all_goals intros
  all_goals refine hK _ _ _ _ _ m1 (fun K2 h2 => y_Rm (D' := 3) (ms_lin m1 p1 p4 m4 hx1 hy1 ?_ ?_) (by decide))
  all_goals intros
  all_goals first | (exfalso; omega) | exact h2 _ _ _ _ _ hR2 (fun _ => by rfl)
set_option maxRecDepth 100000 in
set_option maxHeartbeats 4000000 in
theorem pr_work (hR : RR cnt u w S V) (hcn : cnt < 70) {x : Int} (hx1 : (-2147483648 ≤ x ∧ x < 2147483648)) {t : Int} (ht1 : (-2147483648 ≤ t ∧ t < 2147483648)) {h : Int} (hh1 : (-2147483648 ≤ h ∧ h < 2147483648)) {y : Int} (hy1 : (-2147483648 ≤ y ∧ y < 2147483648)) {o : Int} (ho1 : (-2147483648 ≤ o ∧ o < 2147483648)) : PR X True 75 137 [.ref 0, iv x, iv t, iv h, iv y, iv o] [.ref 170, iv x, iv t, iv h, iv y, iv o] cnt u w S V := by
  have hR2 := RR_le hR (Nat.le_succ cnt)
  obtain ⟨tl, hC, hM, hP, hZ⟩ := hR
  have hC0 := hC
  have hM0 := hM
  have hP0 := hP
  obtain ⟨c1, c2, c3, c4, c5, c6, c7, c8⟩ := hC
  obtain ⟨m1, -, -, m4, m5, m6⟩ := hM
  obtain ⟨p1, p2, p3, p4⟩ := hP
  obtain ⟨n1, n2, n3, n4⟩ := c2.1
  have hsz := p1.1
  have hsl : S.length ≤ 193 + 12 * cnt ∧ 193 ≤ S.length := ⟨hZ.2.1, hZ.1⟩
  intro K hK
  refine y_Rm (D' := 7) (cs_work c1 (by omega) c2 p1 p4 hx1 ht1 hh1 hy1 ho1 (fun g1 => ?_) (fun g1 g2 => ?_) (fun g1 g2 V1 hRS1 hF1 => ?_)) (by decide)
  · all_goals refine hK _ _ _ _ _ m1 (fun K2 h2 => y_Rm (D' := 8) (ms_work m1 p1 p4 m4 hx1 ht1 hh1 hy1 ho1 ?_ ?_ ?_) (by decide))
    all_goals intros
    all_goals first | contradiction | (exfalso; omega) | exact h2 _ _ _ _ _ hR2 (fun _ => by rfl)
  · all_goals refine hK _ _ _ _ _ m1 (fun K2 h2 => y_Rm (D' := 8) (ms_work m1 p1 p4 m4 hx1 ht1 hh1 hy1 ho1 ?_ ?_ ?_) (by decide))
    all_goals intros
    all_goals first | contradiction | (exfalso; omega) | exact h2 _ _ _ _ _ hR2 (fun _ => by rfl)
  · have hV1 : SV 6 S (S ++ [(2, m_dfl 2)]) := SV_app _ _ _
    have m1b := MdS_v m1 hV1 (by decide)
    have e171 : V1 171 = V 171 := hF1 171 (by omega) (fun b hb => by omega)
    have hb8 : x.toNat < 8 := by omega
    have htx := (p1.2.2.1 x.toNat hb8).2.1
    have hs1 := (sgW_SO (tl := tl) (t := t) (h := h) (k := y) (n := o) p1 hb8 (p4 _ (by have := htx.2.2 (by omega); omega)).2.2.1).1
    have hz0 : (sgW tl (V 171) x.toNat t h y o).2 0 = V 171 0 := sgW_lt (by omega) hb8
    have hC1 := RC_x hC0 hZ.1 (SQ_app 6 S _) hV1 (Or.inl rfl) hRS1 hz0 (fun k hk => hF1 k (by omega) (fun b hb => by omega))
    have hM1 := RM_fr hM0 m1b (fun k a b => hF1 k (by omega) (fun b hb => by omega))
    refine hK _ _ _ _ V1 m1b (fun K2 h2 => y_Rm (D' := 8) (ms_work m1b (by rw [e171]; exact p1) (by rw [e171]; exact p4) (by rw [e171]; exact hM1.2.2.2.1) hx1 ht1 hh1 hy1 ho1 ?_ ?_ ?_) (by decide))
    all_goals rw [e171]
    all_goals intros
    · omega
    · contradiction
    · rename_i V2 a1 a2
      have hM2 := RM_x hM1 a1 hz0 (fun k a b => a2.1 k (by omega) (by omega) (by omega)) ⟨a2.2 40 (by omega), a2.2 3 (by omega)⟩
      exact h2 _ _ _ _ _ (RR_mk hC1 hM2 (fun k hk => a2.1 k (by omega) (by omega) (by omega)) (congrFun (hF1 0 (by omega) (fun b hb => by omega)) 2) (RP_x hP0 (SO_le hs1 (Nat.le_succ cnt)) hz0) (RZ_x hZ (by rw [List.length_append]; show S.length ≤ S.length + 1 ∧ S.length + 1 ≤ S.length + 12; omega) (by decide) (by decide))) (fun _ => rfl)
end
end
section
/-! pairs of calls: release, the search, act, hold -/
theorem RS_fx {S : m_H} {V V' : v_V} {B : Nat} {σ : Nat → Int} {tl : Nat → List p_Li} (h : RS S V B σ tl) (hB : B = 1 ∨ B = 58) (e : ∀ k, k ≠ 8 → k ≠ 9 → V' k = V k) : RS S V' B σ tl := by
  have hN : RN V' B σ := by
    obtain ⟨h1, h2, h3, h4⟩ := h.1
    refine ⟨by rw [e B (by omega) (by omega)]; exact h1, by rw [e (B + 1) (by omega) (by omega)]; exact h2, by rw [e (B + 4) (by omega) (by omega)]; exact h3, fun b hb => ?_⟩
    have h5 := h4 b hb
    unfold BxN at *
    rw [e (B + 9 + 6 * b) (by omega) (by omega), e (B + 9 + 6 * b + 1) (by omega) (by omega), e (B + 9 + 6 * b + 3) (by omega) (by omega), e (B + 9 + 6 * b + 5) (by omega) (by omega)]
    exact h5
  exact ⟨hN, RT_fr h.2.1 (SQ_rf 0 S) (by omega) (fun i t _ ht _ hct => CT_hi (fun k hk => e k (by omega) (by omega)) ht hct) (Int.le_refl _), RW_fr h.2.2.1 (SQ_rf 0 S) (by omega) (fun k _ _ _ _ hk _ => e k (by omega) (by omega)) (Int.le_refl _) (fun _ _ _ _ => rfl), RA_fr h.2.2.2 (SQ_rf 0 S) (by omega) (fun k _ _ _ _ hk _ => e k (by omega) (by omega)) (Int.le_refl _) (fun _ _ _ _ => rfl)⟩
theorem RC_2 {S S2 : m_H} {V V2 : v_V} {σ τ : Nat → Int} {tl : Nat → List p_Li} (h : RC S V σ τ tl) (hE : SrE S V S2 V2) : RC S2 V2 σ τ tl := by
  obtain ⟨a1, a2, a3, ⟨tp, tv, r1, r2⟩, ⟨-, a6, a7⟩, a8, a9, b1⟩ := h
  obtain ⟨e1, e2, e3, e4⟩ := hE
  have f : ∀ k, k < 116 ∨ (123 ≤ k ∧ k < 131) ∨ (154 ≤ k ∧ k < 158) → V2 k = V k := fun k hk => e4 k (by omega) (by omega) (by omega) (by omega)
  refine ⟨ClF_2 a1 e1, RS_2 a2 (Or.inl rfl) e1 e4, RS_2 a3 (Or.inr rfl) e1 e4, ⟨tp, tv, e1.1 _ _ _ (by decide) (by decide) r1, ?_⟩, ⟨⟨_, e2⟩, e3, SgC_0 a7 e4 (by decide)⟩, by rw [f 8 (by omega)]; exact a8, by rw [f 65 (by omega)]; exact a9, by rw [f 0 (by omega)]; exact b1⟩
  rcases r2 with r2 | ⟨t, b1, b2, b3, b4, b5⟩
  · exact Or.inl r2
  · refine Or.inr ⟨t, b1, b2, TxS_2 b2 b3 e1, fun ta hc i hi => ?_, fun ta hc i hi => ?_⟩
    · obtain ⟨tb, c1, -⟩ := a2.2.1
      have c2 := e1.1 _ _ _ (by decide) (by decide) c1
      have c3 : ta = tb := by
        have e := hc.2.symm.trans c2.2
        simp only [Option.some.injEq, Prod.mk.injEq] at e
        exact e.2
      rw [c3]
      exact b4 tb c1 i hi
    · obtain ⟨tb, c1, -⟩ := a3.2.1
      have c2 := e1.1 _ _ _ (by decide) (by decide) c1
      have c3 : ta = tb := by
        have e := hc.2.symm.trans c2.2
        simp only [Option.some.injEq, Prod.mk.injEq] at e
        exact e.2
      rw [c3]
      exact b5 tb c1 i hi
theorem RR_s {cnt u w : Nat} {S S2 : m_H} {V V2 V3 : v_V} {tl : Nat → List p_Li} (hC : RC S V (V 171) (V 172) tl) (hM : RM S V (V 171) (V 172) tl (V 0 2)) (hP : RP cnt (V 171) (V 172) tl) (hZ : RZ cnt u w S) (hE : SrE S V S2 V2) (hX : FrX V2 V3) : RR (cnt + 1) u w S2 V3 := by
  have hM1 := RM_fr hM (MdS_2 hM.1 hE.1) (fun k a b => hE.2.2.2 k (by omega) (by omega) (by omega) (by omega))
  have hM2 := RM_x (V2 := V3) hM1 ((hX.1 171 (by omega)).trans (hE.2.2.2 171 (by omega) (by omega) (by omega) (by omega))) rfl (fun k a b => hX.1 k (by omega)) ⟨hX.2 40 (by omega), hX.2 3 (by omega)⟩
  exact RR_mk (RC_2 hC hE) hM2 (fun k hk => hX.1 k (by omega)) (congrFun (hE.2.2.2 0 (by omega) (by omega) (by omega) (by omega)) 2) (RP_le hP (Nat.le_succ cnt)) (RZ_x (a := 0) (b := 0) hZ (by rw [hE.1.2.2]; omega) (by decide) (by decide))
section
variable {X : Nat → List Int32} {u w cnt : Nat} {S : m_H} {V : v_V}
set_option maxRecDepth 100000 in
set_option maxHeartbeats 4000000 in
theorem pr_shown (hR : RR cnt u w S V) {x : Int} (hx1 : (-2147483648 ≤ x ∧ x < 2147483648)) {y : Int} (hy1 : (-2147483648 ≤ y ∧ y < 2147483648)) {n : Int} (hn1 : (-2147483648 ≤ n ∧ n < 2147483648)) {d : Int} (hd1 : (-2147483648 ≤ d ∧ d < 2147483648)) {i : Int} (hi1 : (-2147483648 ≤ i ∧ i < 2147483648)) : PR X False 88 160 [.ref 0, iv x, iv y, iv n, iv d, iv i] [.ref 170, iv x, iv y, iv n, iv d, iv i] cnt u w S V := by
  have hR2 := RR_le hR (Nat.le_succ cnt)
  obtain ⟨tl, hC, hM, hP, hZ⟩ := hR
  have hC0 := hC
  have hM0 := hM
  have hP0 := hP
  obtain ⟨c1, c2, c3, c4, c5, c6, c7, c8⟩ := hC
  obtain ⟨m1, -, -, m4, m5, m6⟩ := hM
  obtain ⟨p1, p2, p3, p4⟩ := hP
  obtain ⟨n1, n2, n3, n4⟩ := c2.1
  have hsz := p1.1
  obtain ⟨⟨lf, s1⟩, s2, s3⟩ := c5
  intro K hK
  refine y_Rm (D' := 15) (cs_shown c1 c2 p1 p4 s1 s2 s3 hx1 hy1 hn1 hd1 hi1 ?_ ?_ (fun al g1 g2 g3 dn g4 l v g5 S2 V2 hE => ?_)) (by decide)
  · intros
    all_goals refine hK _ _ _ _ _ m1 (fun K2 h2 => y_Rm (D' := 11) (ms_shown m1 p1 p4 m4 hx1 hy1 hn1 hd1 hi1 ?_ ?_ ?_) (by decide))
    all_goals intros
    all_goals first | contradiction | (exfalso; omega) | exact h2 _ _ _ _ _ hR2 (fun _ => by contradiction)
  · intros
    all_goals refine hK _ _ _ _ _ m1 (fun K2 h2 => y_Rm (D' := 11) (ms_shown m1 p1 p4 m4 hx1 hy1 hn1 hd1 hi1 ?_ ?_ ?_) (by decide))
    all_goals intros
    all_goals first | contradiction | (exfalso; omega) | exact h2 _ _ _ _ _ hR2 (fun _ => by contradiction)
  · have e171 : V2 171 = V 171 := hE.2.2.2 171 (by omega) (by omega) (by omega) (by omega)
    have m1b := MdS_2 m1 hE.1
    refine hK _ _ _ _ V2 m1b (fun K2 h2 => y_Rm (D' := 11) (ms_shown m1b (by rw [e171]; exact p1) (by rw [e171]; exact p4) (by rw [e171]; exact fun i hi => MT_x (m4 i hi) (fun k a b => hE.2.2.2 k (by omega) (by omega) (by omega) (by omega))) hx1 hy1 hn1 hd1 hi1 ?_ ?_ (fun al g1 g2 g3 dn g4 l v g5 V3 hX => ?_)) (by decide))
    · try rw [e171]
      intros; first | contradiction | omega
    · try rw [e171]
      intros; first | contradiction | omega
    · exact h2 _ _ _ _ _ (RR_s hC0 hM0 hP0 hZ hE hX) (fun q => q.elim)
set_option maxRecDepth 100000 in
set_option maxHeartbeats 4000000 in
theorem pr_ways (hR : RR cnt u w S V) {x : Int} (hx1 : (-2147483648 ≤ x ∧ x < 2147483648)) {y : Int} (hy1 : (-2147483648 ≤ y ∧ y < 2147483648)) {d : Int} (hd1 : (-2147483648 ≤ d ∧ d < 2147483648)) {i : Int} (hi1 : (-2147483648 ≤ i ∧ i < 2147483648)) : PR X False 89 162 [.ref 0, iv x, iv y, iv d, iv i] [.ref 170, iv x, iv y, iv d, iv i] cnt u w S V := by
  have hR2 := RR_le hR (Nat.le_succ cnt)
  obtain ⟨tl, hC, hM, hP, hZ⟩ := hR
  have hC0 := hC
  have hM0 := hM
  have hP0 := hP
  obtain ⟨c1, c2, c3, c4, c5, c6, c7, c8⟩ := hC
  obtain ⟨m1, -, -, m4, m5, m6⟩ := hM
  obtain ⟨p1, p2, p3, p4⟩ := hP
  obtain ⟨n1, n2, n3, n4⟩ := c2.1
  have hsz := p1.1
  obtain ⟨⟨lf, s1⟩, s2, s3⟩ := c5
  intro K hK
  refine y_Rm (D' := 15) (cs_ways c1 c2 p1 p4 s1 s2 s3 hx1 hy1 hd1 hi1 ?_ ?_ (fun al g1 g2 g3 dn g4 l v g5 S2 V2 hE => ?_)) (by decide)
  · intros
    all_goals refine hK _ _ _ _ _ m1 (fun K2 h2 => y_Rm (D' := 10) (ms_ways m1 p1 p4 m4 hx1 hy1 hd1 hi1 ?_ ?_ ?_) (by decide))
    all_goals intros
    all_goals first | contradiction | (exfalso; omega) | exact h2 _ _ _ _ _ hR2 (fun _ => by contradiction)
  · intros
    all_goals refine hK _ _ _ _ _ m1 (fun K2 h2 => y_Rm (D' := 10) (ms_ways m1 p1 p4 m4 hx1 hy1 hd1 hi1 ?_ ?_ ?_) (by decide))
    all_goals intros
    all_goals first | contradiction | (exfalso; omega) | exact h2 _ _ _ _ _ hR2 (fun _ => by contradiction)
  · have e171 : V2 171 = V 171 := hE.2.2.2 171 (by omega) (by omega) (by omega) (by omega)
    have m1b := MdS_2 m1 hE.1
    refine hK _ _ _ _ V2 m1b (fun K2 h2 => y_Rm (D' := 10) (ms_ways m1b (by rw [e171]; exact p1) (by rw [e171]; exact p4) (by rw [e171]; exact fun i hi => MT_x (m4 i hi) (fun k a b => hE.2.2.2 k (by omega) (by omega) (by omega) (by omega))) hx1 hy1 hd1 hi1 ?_ ?_ (fun al g1 g2 g3 xn g6 yn g7 dn g4 l v g5 V3 hX => ?_)) (by decide))
    · try rw [e171]
      intros; first | contradiction | omega
    · try rw [e171]
      intros; first | contradiction | omega
    · exact h2 _ _ _ _ _ (RR_s hC0 hM0 hP0 hZ hE hX) (fun q => q.elim)
set_option maxRecDepth 100000 in
set_option maxHeartbeats 4000000 in
theorem pr_orders (hR : RR cnt u w S V) {x : Int} (hx1 : (-2147483648 ≤ x ∧ x < 2147483648)) {y : Int} (hy1 : (-2147483648 ≤ y ∧ y < 2147483648)) {n : Int} (hn1 : (-2147483648 ≤ n ∧ n < 2147483648)) {d : Int} (hd1 : (-2147483648 ≤ d ∧ d < 2147483648)) {i : Int} (hi1 : (-2147483648 ≤ i ∧ i < 2147483648)) : PR X False 90 164 [.ref 0, iv x, iv y, iv n, iv d, iv i] [.ref 170, iv x, iv y, iv n, iv d, iv i] cnt u w S V := by
  have hR2 := RR_le hR (Nat.le_succ cnt)
  obtain ⟨tl, hC, hM, hP, hZ⟩ := hR
  have hC0 := hC
  have hM0 := hM
  have hP0 := hP
  obtain ⟨c1, c2, c3, c4, c5, c6, c7, c8⟩ := hC
  obtain ⟨m1, -, -, m4, m5, m6⟩ := hM
  obtain ⟨p1, p2, p3, p4⟩ := hP
  obtain ⟨n1, n2, n3, n4⟩ := c2.1
  have hsz := p1.1
  obtain ⟨⟨lf, s1⟩, s2, s3⟩ := c5
  intro K hK
  refine y_Rm (D' := 16) (cs_orders c1 c2 p1 p4 s1 s2 s3 hx1 hy1 hn1 hd1 hi1 ?_ ?_ (fun g1 g2 r S2 V2 hE => ?_)) (by decide)
  · intros
    all_goals refine hK _ _ _ _ _ m1 (fun K2 h2 => y_Rm (D' := 16) (ms_orders m1 p1 p4 m4 hx1 hy1 hn1 hd1 hi1 ?_ ?_ ?_) (by decide))
    all_goals intros
    all_goals first | contradiction | (exfalso; omega) | exact h2 _ _ _ _ _ hR2 (fun _ => by contradiction)
  · intros
    all_goals refine hK _ _ _ _ _ m1 (fun K2 h2 => y_Rm (D' := 16) (ms_orders m1 p1 p4 m4 hx1 hy1 hn1 hd1 hi1 ?_ ?_ ?_) (by decide))
    all_goals intros
    all_goals first | contradiction | (exfalso; omega) | exact h2 _ _ _ _ _ hR2 (fun _ => by contradiction)
  · have e171 : V2 171 = V 171 := hE.2.2.2 171 (by omega) (by omega) (by omega) (by omega)
    have m1b := MdS_2 m1 hE.1
    refine hK _ _ _ _ V2 m1b (fun K2 h2 => y_Rm (D' := 16) (ms_orders m1b (by rw [e171]; exact p1) (by rw [e171]; exact p4) (by rw [e171]; exact fun i hi => MT_x (m4 i hi) (fun k a b => hE.2.2.2 k (by omega) (by omega) (by omega) (by omega))) hx1 hy1 hn1 hd1 hi1 ?_ ?_ (fun g1 g2 r2 V3 hX => ?_)) (by decide))
    · try rw [e171]
      intros; first | contradiction | omega
    · try rw [e171]
      intros; first | contradiction | omega
    · exact h2 _ _ _ _ _ (RR_s hC0 hM0 hP0 hZ hE hX) (fun q => q.elim)
set_option maxRecDepth 100000 in
set_option maxHeartbeats 4000000 in
theorem pr_release (hR : RR cnt u w S V) (hcn : cnt < 70)  : PR X True 83 149 [.ref 0] [.ref 170] cnt u w S V := by
  have hR2 := RR_le hR (Nat.le_succ cnt)
  obtain ⟨tl, hC, hM, hP, hZ⟩ := hR
  have hC0 := hC
  have hM0 := hM
  have hP0 := hP
  obtain ⟨c1, c2, c3, c4, c5, c6, c7, c8⟩ := hC
  obtain ⟨m1, -, -, m4, m5, m6⟩ := hM
  obtain ⟨p1, p2, p3, p4⟩ := hP
  obtain ⟨n1, n2, n3, n4⟩ := c2.1
  have hsz := p1.1
  have hsl : S.length ≤ 193 + 12 * cnt ∧ 193 ≤ S.length := ⟨hZ.2.1, hZ.1⟩
  obtain ⟨wa, w1, w2⟩ := c2.2.2.1
  intro K hK
  refine y_Rm (D' := 8) (cs_release c1 (by omega) c2 p1 p4 w1 w2 (fun g1 => ?_) (fun g1 V1 hRS1 hF1 => ?_)) (by decide)
  · refine hK _ _ _ _ _ m1 (fun K2 h2 => y_Rm (D' := 9) (ms_release m1 p1 p4 m4 ?_ ?_) (by decide))
    all_goals intros
    all_goals first | (exfalso; omega) | exact h2 _ _ _ _ _ hR2 (fun _ => rfl)
  · have hf : ∀ k, k = 0 ∨ k = 8 ∨ (58 ≤ k) → V1 k = V k := fun k hk => by rw [hF1 k (fun b hb => by omega), v_up_ne (by omega), v_up_ne (by omega)]
    have e171 : V1 171 = V 171 := hf 171 (by omega)
    have hs1 := rlS_SO (cnt := cnt) (tl := tl) (V 171 3).toNat 0 (relS (V 171)) (relS_SO p1) (by rw [relS_ne (by omega)]; exact p4) (fun j a b => by rw [relS_ne (by omega), relS_ne (by omega), relS_ne (by omega), relS_ne (by omega)]; exact p1.2.2.2.2.2.1 j (by omega))
    have hz0 : rlS tl (V 171 3).toNat 0 (relS (V 171)) 0 = V 171 0 := (hs1.2 0 (by omega)).trans (relS_ne (by omega))
    have hC1 := RC_x hC0 hZ.1 (SQ_rf 6 S) (SV_rf 6 S) (Or.inl rfl) hRS1 hz0 (fun k hk => hf k (by omega))
    have hM1 := RM_fr hM0 m1 (fun k a b => hf k (by omega))
    refine hK _ _ _ _ V1 m1 (fun K2 h2 => y_Rm (D' := 9) (ms_release m1 (by rw [e171]; exact p1) (by rw [e171]; exact p4) (by rw [e171]; exact hM1.2.2.2.1) ?_ ?_) (by decide))
    all_goals rw [e171]
    · intros; omega
    · intro g2 V2 a1 a2
      have hM2 := RM_x hM1 a1 hz0 (fun k a b => a2.1 k (by omega) (by omega) (by omega)) ⟨a2.2 40 (by omega), a2.2 3 (by omega)⟩
      exact h2 _ _ _ _ _ (RR_mk hC1 hM2 (fun k hk => a2.1 k (by omega) (by omega) (by omega)) (congrFun (hf 0 (by omega)) 2) (RP_x hP0 (SO_le hs1.1 (Nat.le_succ cnt)) hz0) (RZ_x (a := 0) (b := 0) hZ (by omega) (by decide) (by decide))) (fun _ => rfl)
set_option maxRecDepth 100000 in
set_option maxHeartbeats 4000000 in
theorem pr_act (hR : RR cnt u w S V) (hXb : X 1 = m_bodies) (hXa : X 2 = m_above) (h3X : X 3 = []) {x : Int} (hx1 : (-2147483648 ≤ x ∧ x < 2147483648)) {y : Int} (hy1 : (-2147483648 ≤ y ∧ y < 2147483648)) {z : Int32} : PR X True 91 173 [.ref 0, iv x, iv y, .int z] [.ref 170, iv x, iv y, .int z] cnt u w S V := by
  have hR2 := RR_le hR (Nat.le_succ cnt)
  obtain ⟨tl, hC, hM, hP, hZ⟩ := hR
  have hC0 := hC
  have hM0 := hM
  have hP0 := hP
  obtain ⟨c1, c2, c3, c4, c5, c6, c7, c8⟩ := hC
  obtain ⟨m1, -, -, m4, m5, m6⟩ := hM
  obtain ⟨p1, p2, p3, p4⟩ := hP
  obtain ⟨n1, n2, n3, n4⟩ := c2.1
  have hsz := p1.1
  intro K hK
  have hE : ∀ V1 V2 : v_V, (∀ k, k ≠ 8 → k ≠ 9 → V1 k = V k) → (0 ≤ V1 8 1 ∧ V1 8 1 ≤ 20) → (∀ k, k ≠ 170 → k ≠ 192 → V2 k = V1 k) → (∀ i, i < 40 → V2 170 i = V1 170 i) → (0 ≤ V2 170 40 ∧ V2 170 40 ≤ 20) → RR (cnt + 1) u w S V2 := by
    intro V1 V2 f1 g1 f2 f3 g2
    obtain ⟨a1, a2, a3, a4, a5, a6, a7, a8⟩ := hC0
    have hCx : RC S V1 (V 171) (V 172) tl := ⟨a1, RS_fx a2 (Or.inl rfl) f1, RS_fx a3 (Or.inr rfl) f1, a4, Se_V a5 (fun k hk => f1 k (by omega) (by omega)), g1, by rw [f1 65 (by decide) (by decide)]; exact a7, by rw [f1 0 (by decide) (by decide)]; exact a8⟩
    have hMx : RM S V2 (V 171) (V 172) tl (V 0 2) := by
      obtain ⟨b1, b2, b3, b4, b5, b6⟩ := hM0
      have e : ∀ k, 171 ≤ k → k ≤ 177 → V2 k = V k := fun k p q => (f2 k (by omega) (by omega)).trans (f1 k (by omega) (by omega))
      exact ⟨b1, e 171 (by decide) (by decide), e 172 (by decide) (by decide), fun i hi => MT_x (b4 i hi) (fun k p q => e k (by omega) (by omega)), g2, by rw [f3 3 (by decide), f1 170 (by decide) (by decide)]; exact b6⟩
    exact RR_mk hCx hMx (fun k hk => f2 k (by omega) (by omega)) (congrFun (f1 0 (by decide) (by decide)) 2) (RP_le hP0 (Nat.le_succ cnt)) (RZ_x (a := 0) (b := 0) hZ (by omega) (by decide) (by decide))
  have hL : ∀ V1 : v_V, (∀ k, k ≠ 8 → k ≠ 9 → V1 k = V k) → (0 ≤ V1 8 1 ∧ V1 8 1 ≤ 20) → ∀ r : Int, (¬ ((0 ≤ x ∧ x < V 171 1) ∧ (0 ≤ y ∧ y ≤ 2)) → r = 0) → (((0 ≤ x ∧ x < V 171 1) ∧ (0 ≤ y ∧ y ≤ 2)) → r = (acV (V 171 (170 + x.toNat)).toNat y.toNat z ((x.toNat : Nat) : Int) ((tl (V 171 (178 + x.toNat)).toNat).length : Int)).toInt) → K u w (some (iv r)) S V1 := by
    intro V1 f1 g1 r r0 r1
    have e171 : V1 171 = V 171 := f1 171 (by decide) (by decide)
    refine hK r _ _ _ V1 m1 (fun K2 h2 => y_Rm (D' := 13) (ms_act m1 (by rw [e171]; exact p1) (by rw [e171]; exact p4) (by rw [e171]; exact fun i hi => MT_x (m4 i hi) (fun k a b => f1 k (by omega) (by omega))) hx1 hy1 ?_ ?_) (by decide))
    all_goals rw [e171]
    · intro q
      exact h2 0 _ _ _ _ (hE V1 _ f1 g1 (fun k a b => v_up_ne a) (fun i hi => v_up_ni (by omega)) (by rw [v_up_eq]; decide)) (fun _ => (r0 q).symm)
    · intro q V2 f2 f3 g2
      rw [← v_oi]
      exact h2 _ _ _ _ _ (hE V1 V2 f1 g1 f2 f3 g2) (fun _ => (r1 q).symm)
  refine y_Rm (D' := 31) (cs_act c1 c2 p1 p4 hx1 hy1 hXb hXa h3X ?_ ?_) (by decide)
  · intro q
    exact hL _ (fun k a b => v_up_ne a) (by rw [v_up_eq]; decide) 0 (fun _ => rfl) (fun q2 => absurd q2 q)
  · intro q V1 f1 g1
    rw [← v_oi]
    exact hL V1 f1 g1 _ (fun q2 => absurd q q2) (fun _ => rfl)
end
end
section
/-! the numbers of a state that a call changes -/
def N7 (V : v_V) (σ : Nat → Int) : Prop := V 1 1 = σ 6 ∧ V 1 3 = σ 0 ∧ V 1 5 = σ 1 ∧ V 1 7 = σ 2 ∧ V 1 9 = σ 3 ∧ V 1 10 = σ 4 ∧ V 1 12 = σ 5
def O7 (σ : Nat → Int) : Prop := (0 ≤ σ 0 ∧ σ 0 ≤ 8) ∧ (0 ≤ σ 1 ∧ σ 1 ≤ 8) ∧ (0 ≤ σ 2 ∧ σ 2 ≤ 6) ∧ (0 ≤ σ 3 ∧ σ 3 ≤ 20) ∧ (0 ≤ σ 4 ∧ σ 4 ≤ 65535) ∧ (0 ≤ σ 5 ∧ σ 5 ≤ 5) ∧ (0 ≤ σ 6 ∧ σ 6 ≤ 160)
theorem RN_g {V V' : v_V} {σ σ' : Nat → Int} (h : RN V 1 σ) (hn : N7 V' σ') (ht : ∀ i : Nat, i < 160 → V' 2 i = σ' (10 + i)) (hr : ∀ i : Nat, i < 6 → V' 5 i = σ' (1680 + i)) (f : ∀ k, 10 ≤ k → k < 58 → V' k = V k) (e : ∀ j, 170 ≤ j → (j < 1680 ∨ 1686 ≤ j) → σ' j = σ j) (h1 : σ' 1 = σ 1) : RN V' 1 σ' := by
  obtain ⟨a1, a2, a3, a4⟩ := h
  refine ⟨hn, ht, hr, fun b hb => ?_⟩
  obtain ⟨c1, c2, c3, c4, c5, c6, c7, c8⟩ := a4 b hb
  unfold BxN
  rw [f _ (by omega) (by omega), f _ (by omega) (by omega), f _ (by omega) (by omega), f _ (by omega) (by omega), h1, e _ (by omega) (by omega), e _ (by omega) (by omega), e _ (by omega) (by omega), e _ (by omega) (by omega)]
  exact ⟨c1, c2, c3, c4, c5, fun t ht => by rw [e _ (by omega) (by omega)]; exact c6 t ht, fun p hp => by rw [e _ (by omega) (by omega)]; exact c7 p hp, fun p hp => by rw [e _ (by omega) (by omega)]; exact c8 p hp⟩
theorem SO_g {cnt : Nat} {σ σ' : Nat → Int} (h : SO cnt σ) (hn : O7 σ') (ht : ∀ i : Nat, i < 160 → 0 ≤ σ' (10 + i) ∧ σ' (10 + i) ≤ 255) (hr : ∀ i : Nat, i < 6 → 0 ≤ σ' (1680 + i) ∧ σ' (1680 + i) ≤ 7 ∧ ((i : Int) < σ' 2 → σ' (1680 + i) < σ' 1)) (e : ∀ j, 170 ≤ j → (j < 1680 ∨ 1686 ≤ j) → σ' j = σ j) (h0 : σ' 0 = σ 0) (h1 : σ' 1 = σ 1) (h3 : σ' 3 = σ 3) (h5 : σ' 5 = σ 5) : SO cnt σ' := by
  obtain ⟨a1, a2, a3, a4, a5, a6, a7⟩ := h
  refine ⟨hn, ht, ?_, ?_, hr, ?_, ?_⟩
  · intro b hb
    obtain ⟨c1, c2, c3, c4, c5, c6⟩ := a3 b hb
    rw [e (170 + b) (by omega) (by omega), e (178 + b) (by omega) (by omega), e (186 + b) (by omega) (by omega), e (872 + b) (by omega) (by omega), h1, h0]
    refine ⟨c1, c2, c3, c4, fun p hp => ?_, fun p hp => ?_⟩
    · show -2147483648 ≤ σ' (200 + 84 * b + p) ∧ σ' (200 + 84 * b + p) < 2147483648
      rw [e _ (by omega) (by omega)]
      exact c5 p hp
    · show -2147483648 ≤ σ' (880 + 84 * b + p) ∧ σ' (880 + 84 * b + p) < 2147483648
      rw [e _ (by omega) (by omega)]
      exact c6 p hp
  · intro b hb t ht
    rw [e _ (by omega) (by omega), h1]
    exact a4 b hb t ht
  · intro i hi
    rw [h3] at hi
    rw [e _ (by omega) (by omega), e _ (by omega) (by omega), e _ (by omega) (by omega), e _ (by omega) (by omega)]
    exact a6 i hi
  · intro i hi
    rw [h5] at hi
    rw [e _ (by omega) (by omega), e _ (by omega) (by omega), e _ (by omega) (by omega), e _ (by omega) (by omega)]
    exact a7 i hi
/-- the BOXES change -/
theorem RN_b {V V' : v_V} {σ σ' : Nat → Int} (h : RN V 1 σ) (hn : N7 V' σ') (f : ∀ k, k = 2 ∨ k = 5 → V' k = V k) (e : ∀ j, (10 ≤ j ∧ j < 170) ∨ 1680 ≤ j → σ' j = σ j) (hb : ∀ b : Nat, b < 8 → BxN V' (10 + 6 * b) b σ') : RN V' 1 σ' := by
  obtain ⟨a1, a2, a3, a4⟩ := h
  exact ⟨hn, fun i hi => by rw [f _ (by omega), e _ (by omega)]; exact a2 i hi, fun i hi => by rw [f _ (by omega), e _ (by omega)]; exact a3 i hi, hb⟩
def Ob (cnt : Nat) (σ : Nat → Int) (b : Nat) : Prop := (0 ≤ σ (170 + b) ∧ σ (170 + b) ≤ 6) ∧ (0 ≤ σ (178 + b) ∧ σ (178 + b) ≤ 8 ∧ ((b : Int) < σ 1 → σ (178 + b) < σ 0)) ∧ (-5 ≤ σ (186 + b) ∧ σ (186 + b) ≤ 8) ∧ (0 ≤ σ (872 + b) ∧ σ (872 + b) ≤ cnt) ∧ muO (zm σ (200 + 84 * b)) ∧ muO (zm σ (880 + 84 * b))
theorem SO_b {cnt : Nat} {σ σ' : Nat → Int} (h : SO cnt σ) (hn : O7 σ') (e : ∀ j, (10 ≤ j ∧ j < 170) ∨ 1680 ≤ j → σ' j = σ j) (h1 : σ 1 ≤ σ' 1) (h2 : σ' 2 = σ 2) (h3 : σ' 3 = σ 3) (h5 : σ' 5 = σ 5) (hb : ∀ b : Nat, b < 8 → Ob cnt σ' b) (hl : ∀ b : Nat, b < 8 → ∀ t : Nat, t < 16 → 0 ≤ σ' (1552 + 16 * b + t) ∧ σ' (1552 + 16 * b + t) ≤ 7 ∧ ((b : Int) < σ' 1 → σ' (1552 + 16 * b + t) < σ' 1)) : SO cnt σ' := by
  obtain ⟨a1, a2, a3, a4, a5, a6, a7⟩ := h
  refine ⟨hn, fun i hi => by rw [e _ (by omega)]; exact a2 i hi, hb, hl, fun i hi => ?_, fun i hi => ?_, fun i hi => ?_⟩
  · rw [e _ (by omega), h2]
    have := a5 i hi
    omega
  · rw [h3] at hi
    rw [e _ (by omega), e _ (by omega), e _ (by omega), e _ (by omega)]
    exact a6 i hi
  · rw [h5] at hi
    rw [e _ (by omega), e _ (by omega), e _ (by omega), e _ (by omega)]
    exact a7 i hi
theorem RS_n {S : m_H} {V V' : v_V} {σ σ' : Nat → Int} {tl : Nat → List p_Li} (h : RS S V 1 σ tl) (hn : RN V' 1 σ') (f : ∀ k, 193 ≤ k → V' k = V k) (h0 : σ' 0 = σ 0) (h3 : σ' 3 = σ 3) (b3 : σ 3 ≤ 20) (h5 : σ' 5 = σ 5) (b5 : σ 5 ≤ 5) (e : ∀ j, 1690 ≤ j → σ' j = σ j) : RS S V' 1 σ' tl :=
  ⟨hn, RT_fr h.2.1 (SQ_rf 0 S) (by omega) (fun i t _ ht _ hct => CT_hi f ht hct) (by omega), RW_fr h.2.2.1 (SQ_rf 0 S) (by omega) (fun k _ _ _ _ hk _ => f k hk) (by omega) (fun j _ i _ => e _ (by omega)), RA_fr h.2.2.2 (SQ_rf 0 S) (by omega) (fun k _ _ _ _ hk _ => f k hk) (by omega) (fun j _ i _ => e _ (by omega))⟩
/-- class, then reference: a change of the state's numbers alone -/
theorem RR_n {cnt u w : Nat} {S : m_H} {V V1 V2 : v_V} {σ' : Nat → Int} {tl : Nat → List p_Li} (hC : RC S V (V 171) (V 172) tl) (hM : RM S V (V 171) (V 172) tl (V 0 2)) (hP : RP cnt (V 171) (V 172) tl) (hZ : RZ cnt u w S) (hn : RN V1 1 σ') (hs : SO (cnt + 1) σ') (f : ∀ k, k = 0 ∨ 58 ≤ k ∨ k = 8 → V1 k = V k) (h0 : σ' 0 = V 171 0) (h3 : σ' 3 = V 171 3) (h5 : σ' 5 = V 171 5) (e : ∀ j, 1690 ≤ j → σ' j = V 171 j) (g1 : V2 171 = σ') (g2 : ∀ k, k ≠ 171 → V2 k = V1 k) : RR (cnt + 1) u w S V2 := by
  have hR1 := RS_n hC.2.1 hn (fun k hk => f k (by omega)) h0 h3 hP.1.1.2.2.2.1.2 h5 hP.1.1.2.2.2.2.2.1.2 e
  have hC1 := RC_x hC hZ.1 (SQ_rf 6 S) (SV_rf 6 S) (Or.inl rfl) hR1 h0 (fun k hk => f k (by omega))
  have hM1 := RM_fr hM hM.1 (fun k a b => f k (by omega))
  have hM2 := RM_x hM1 g1 h0 (fun k a b => g2 k (by omega)) ⟨by rw [g2 170 (by decide)], by rw [g2 170 (by decide)]⟩
  exact RR_mk hC1 hM2 (fun k hk => g2 k (by omega)) (congrFun (f 0 (by omega)) 2) (RP_x hP hs h0) (RZ_x (a := 0) (b := 0) hZ (by omega) (by decide) (by decide))
end
section
/-! pairs of calls: hold, feed, row -/
theorem v_upR (V : v_V) (k i : Nat) (x : Int) : v_up V k i x k = v_uf (V k) i x := if_pos rfl
theorem z_fd_ne {x : Int64} : ∀ (r q : Nat) (f : Nat → Int) (i : Nat), i < q ∨ q + r ≤ i → z_fd x r q f i = f i
  | 0, q, f, i, _ => rfl
  | r + 1, q, f, i, h => by
    unfold z_fd
    rw [z_fd_ne r (q + 1) _ i (by omega), v_uf_ne (by omega)]
theorem z_fd_sh {x : Int64} : ∀ (r q : Nat) (f g : Nat → Int), (∀ i : Nat, i < 160 → f i = g (10 + i)) → q + r ≤ 160 → ∀ i : Nat, i < 160 → z_fd x r q f i = z_fd x r (10 + q) g (10 + i)
  | 0, q, f, g, h, _, i, hi => h i hi
  | r + 1, q, f, g, h, hq, i, hi => by
    unfold z_fd
    rw [show 10 + q + 1 = 10 + (q + 1) by omega]
    refine z_fd_sh r (q + 1) _ _ (fun j hj => ?_) (by omega) i hi
    by_cases e : j = q
    · rw [e, v_uf_eq, v_uf_eq]
    · rw [v_uf_ne e, v_uf_ne (by omega)]
      exact h j hj
theorem z_fd_rg {x : Int64} : ∀ (r q : Nat) (f : Nat → Int), (∀ i, 0 ≤ f i ∧ f i ≤ 255 ∨ ¬ (10 ≤ i ∧ i < 170)) → ∀ i, 0 ≤ z_fd x r q f i ∧ z_fd x r q f i ≤ 255 ∨ ¬ (10 ≤ i ∧ i < 170)
  | 0, q, f, h, i => h i
  | r + 1, q, f, h, i => by
    unfold z_fd
    refine z_fd_rg r (q + 1) _ (fun j => ?_) i
    by_cases e : j = q
    · rw [e, v_uf_eq]
      have := z_by_r x r
      omega
    · rw [v_uf_ne e]
      exact h j
section
variable {X : Nat → List Int32} {u w cnt : Nat} {S : m_H} {V : v_V}
set_option maxRecDepth 100000 in
set_option maxHeartbeats 4000000 in
theorem pr_hold (hR : RR cnt u w S V) {x : Int} (hx1 : (-2147483648 ≤ x ∧ x < 2147483648)) : PR X True 82 148 [.ref 0, iv x] [.ref 170, iv x] cnt u w S V := by
  have hR2 := RR_le hR (Nat.le_succ cnt)
  obtain ⟨tl, hC, hM, hP, hZ⟩ := hR
  have hC0 := hC
  have hM0 := hM
  have hP0 := hP
  obtain ⟨c1, c2, c3, c4, c5, c6, c7, c8⟩ := hC
  obtain ⟨m1, -, -, m4, m5, m6⟩ := hM
  obtain ⟨p1, p2, p3, p4⟩ := hP
  obtain ⟨n1, n2, n3, n4⟩ := c2.1
  have hsz := p1.1
  intro K hK
  by_cases hx : 0 ≤ x ∧ x ≤ 65535
  · have e10 : V 1 10 = V 171 4 := n1.2.2.2.2.2.1
    have hv := v_oI_lt (a := V 171 4) (b := x) (by omega) hx
    refine y_Rm (D' := 2) (cc_hold c1 hx1 (by omega) ?_) (by decide)
    rw [if_pos hx, if_pos hx, e10, z_bc_eq hv]
    refine hK (v_bs (v_oI (V 171 4) x) 16) _ _ _ _ m1 (fun K2 h2 => y_Rm (D' := 2) (ct_hold m1 hx1 ?_ ?_) (by decide))
    · rw [v_up_ne (by decide)]; omega
    · rw [if_pos hx, if_pos hx, v_up_ne (show (171 : Nat) ≠ 1 by decide)]
      refine h2 _ _ _ _ _ (RR_n (V1 := v_up V 1 10 (v_oI (V 171 4) x)) (σ' := v_uf (V 171) 4 (v_oI (V 171 4) x)) hC0 hM0 hP0 hZ (RN_g c2.1 ⟨n1.1, n1.2.1, n1.2.2.1, n1.2.2.2.1, n1.2.2.2.2.1, rfl, n1.2.2.2.2.2.2⟩ (fun i hi => by rw [v_up_ne (by decide), v_uf_ne (by omega)]; exact n2 i hi) (fun i hi => by rw [v_up_ne (by decide), v_uf_ne (by omega)]; exact n3 i hi) (fun k a b => v_up_ne (by omega)) (fun j a b => v_uf_ne (by omega)) rfl) (SO_le (SO_g p1 ⟨hsz.1, hsz.2.1, hsz.2.2.1, hsz.2.2.2.1, hv, hsz.2.2.2.2.2.1, hsz.2.2.2.2.2.2⟩ (fun i hi => by rw [v_uf_ne (by omega)]; exact p1.2.1 i hi) (fun i hi => by rw [v_uf_ne (by omega)]; exact p1.2.2.2.2.1 i hi) (fun j a b => v_uf_ne (by omega)) rfl rfl rfl rfl) (Nat.le_succ cnt)) (fun k hk => v_up_ne (by omega)) rfl rfl rfl (fun j hj => v_uf_ne (by omega)) ((v_upR _ _ _ _).trans (by rw [v_up_ne (by decide)])) (fun k hk => v_up_ne hk)) (fun _ => rfl)
  · refine y_Rm (D' := 2) (cc_hold c1 hx1 (by omega) ?_) (by decide)
    rw [if_neg hx, if_neg hx]
    refine hK (-2) _ _ _ _ m1 (fun K2 h2 => y_Rm (D' := 2) (ct_hold m1 hx1 (by omega) ?_) (by decide))
    rw [if_neg hx, if_neg hx]
    exact h2 _ _ _ _ _ hR2 (fun _ => rfl)
set_option maxRecDepth 100000 in
set_option maxHeartbeats 4000000 in
theorem pr_row (hR : RR cnt u w S V) {x : Int} (hx1 : (-2147483648 ≤ x ∧ x < 2147483648)) : PR X True 78 142 [.ref 0, iv x] [.ref 170, iv x] cnt u w S V := by
  have hR2 := RR_le hR (Nat.le_succ cnt)
  obtain ⟨tl, hC, hM, hP, hZ⟩ := hR
  have hC0 := hC
  have hM0 := hM
  have hP0 := hP
  obtain ⟨c1, c2, c3, c4, c5, c6, c7, c8⟩ := hC
  obtain ⟨m1, -, -, m4, m5, m6⟩ := hM
  obtain ⟨p1, p2, p3, p4⟩ := hP
  obtain ⟨n1, n2, n3, n4⟩ := c2.1
  have hsz := p1.1
  have e7 : V 1 7 = V 171 2 := n1.2.2.2.1
  have e5 : V 1 5 = V 171 1 := n1.2.2.1
  have hLe : ∀ b : Nat, b < 8 → ∀ t : Nat, t < 16 → V (10 + 6 * b + 1) t = V 171 (1552 + 16 * b + t) := fun b hb t ht => (n4 b hb).2.2.2.2.2.1 t ht
  have hLr : ∀ b : Nat, (b : Int) < V 171 1 → ∀ t : Nat, t < 16 → 0 ≤ V 171 (1552 + 16 * b + t) ∧ V 171 (1552 + 16 * b + t) ≤ 7 := fun b hb t ht => by have := p1.2.2.2.1 b (by omega) t ht; omega
  have hLc : ∀ b : Nat, (b : Int) < V 1 5 → ∀ t : Nat, t < 16 → 0 ≤ V (10 + 6 * b + 1) t ∧ V (10 + 6 * b + 1) t ≤ 7 := fun b hb t ht => by rw [hLe b (by omega) t ht]; exact hLr b (by omega) t ht
  have hEA : (∃ b : Nat, (b : Int) < V 1 5 ∧ (b : Int) ≠ x ∧ ∃ t : Nat, t < 16 ∧ V (10 + 6 * b + 1) t = x) → (∀ b : Nat, (b : Int) < V 171 1 → (b : Int) ≠ x → ∀ t : Nat, t < 16 → V 171 (1552 + 16 * b + t) ≠ x) → False := by
    rintro ⟨b, b1, b2, t, b3, b4⟩ hA
    exact hA b (by omega) b2 t b3 ((hLe b (by omega) t b3).symm.trans b4)
  have hAE : (∀ b : Nat, (b : Int) < V 1 5 → (b : Int) ≠ x → ∀ t : Nat, t < 16 → V (10 + 6 * b + 1) t ≠ x) → (∃ b : Nat, (b : Int) < V 171 1 ∧ (b : Int) ≠ x ∧ ∃ t : Nat, t < 16 ∧ V 171 (1552 + 16 * b + t) = x) → False := by
    rintro hA ⟨b, b1, b2, t, b3, b4⟩
    exact hA b (by omega) b2 t b3 ((hLe b (by omega) t b3).trans b4)
  intro K hK
  refine y_Rm (D' := 3) (cs_row c1 (by omega) hLc hx1 (by omega) (fun g1 g2 => ?_) (fun g1 g2 gX g3 => ?_) (fun g1 g2 gX g3 g4 => ?_) (fun g1 g2 gX g3 g4 => ?_) (fun g1 => ?_)) (by decide)
  · have f171 : V 171 = V 171 := rfl
    refine hK _ _ _ _ _ m1 (fun K2 h2 => y_Rm (D' := 3) (ms_row (V := V) m1 (by rw [f171]; omega) (by rw [f171]; exact hLr) hx1 (by rw [f171]; omega) ?_ ?_ ?_ ?_ ?_) (by decide))
    · intro j1 j2 hX j3; exfalso; clear hEA hAE hLe hLr hLc hX; omega
    · intro j1 j2 hX j3 j4; exfalso; clear hEA hAE hLe hLr hLc hX; omega
    · intro j1 j2 hX j3 j4; exfalso; clear hEA hAE hLe hLr hLc hX; omega
    · intro j1 j2; exact h2 _ _ _ _ _ hR2 (fun _ => by first | rfl | omega)
    · intro j1; exfalso; clear hEA hAE hLe hLr hLc; omega
  · have f171 : V 171 = V 171 := rfl
    refine hK _ _ _ _ _ m1 (fun K2 h2 => y_Rm (D' := 3) (ms_row (V := V) m1 (by rw [f171]; omega) (by rw [f171]; exact hLr) hx1 (by rw [f171]; omega) ?_ ?_ ?_ ?_ ?_) (by decide))
    · intro j1 j2 hX j3; exact h2 _ _ _ _ _ hR2 (fun _ => by first | rfl | omega)
    · intro j1 j2 hX j3 j4; exact (hEA gX hX).elim
    · intro j1 j2 hX j3 j4; exact (hEA gX hX).elim
    · intro j1 j2; exfalso; clear hEA hAE hLe hLr hLc gX; omega
    · intro j1; exfalso; clear hEA hAE hLe hLr hLc gX; omega
  · have f171 : (v_up (v_up V 5 (V 1 7).toNat x) 1 7 (V 1 7 + 1)) 171 = V 171 := (v_up_ne (by decide)).trans (v_up_ne (by decide))
    refine hK _ _ _ _ _ m1 (fun K2 h2 => y_Rm (D' := 3) (ms_row (V := (v_up (v_up V 5 (V 1 7).toNat x) 1 7 (V 1 7 + 1))) m1 (by rw [f171]; omega) (by rw [f171]; exact hLr) hx1 (by rw [f171]; omega) ?_ ?_ ?_ ?_ ?_) (by decide))
    all_goals try rw [f171]
    · intro j1 j2 hX j3; exact (hAE gX hX).elim
    · intro j1 j2 hX j3 j4
      have hi2 : (1680 + V 171 2).toNat = 1680 + (V 171 2).toNat := by omega
      have hq7 : ∀ i : Nat, i < 7 → i ≠ 2 → (v_uf (v_uf (V 171) (1680 + (V 171 2).toNat) x) 2 (V 171 2 + 1)) i = V 171 i := fun i a b => by rw [v_uf_ne b, v_uf_ne (by omega)]
      have hrn : RN (v_up (v_up V 5 (V 1 7).toNat x) 1 7 (V 1 7 + 1)) 1 (v_uf (v_uf (V 171) (1680 + (V 171 2).toNat) x) 2 (V 171 2 + 1)) := by
        refine RN_g c2.1 ⟨n1.1.trans (hq7 6 (by decide) (by decide)).symm, n1.2.1.trans (hq7 0 (by decide) (by decide)).symm, n1.2.2.1.trans (hq7 1 (by decide) (by decide)).symm, by show V 1 7 + 1 = V 171 2 + 1; omega, n1.2.2.2.2.1.trans (hq7 3 (by decide) (by decide)).symm, n1.2.2.2.2.2.1.trans (hq7 4 (by decide) (by decide)).symm, n1.2.2.2.2.2.2.trans (hq7 5 (by decide) (by decide)).symm⟩ (fun i hi => by rw [v_up_ne (by decide), v_up_ne (by decide), v_uf_ne (by omega), v_uf_ne (by omega)]; exact n2 i hi) (fun i hi => ?_) (fun k a b => by rw [v_up_ne (by omega), v_up_ne (by omega)]) (fun j a b => by rw [v_uf_ne (by omega), v_uf_ne (by omega)]) ((v_uf_ne (by decide)).trans (v_uf_ne (by omega)))
        rw [v_up_ne (by decide), v_uf_ne (by omega), e7]
        by_cases hq : i = (V 171 2).toNat
        · rw [hq, v_up_eq, v_uf_eq]
        · rw [v_up_ni hq, v_uf_ne (by omega)]
          exact n3 i hi
      have hso : SO cnt (v_uf (v_uf (V 171) (1680 + (V 171 2).toNat) x) 2 (V 171 2 + 1)) := by
        refine SO_g p1 ⟨by rw [hq7 0 (by decide) (by decide)]; exact hsz.1, by rw [hq7 1 (by decide) (by decide)]; exact hsz.2.1, by show 0 ≤ V 171 2 + 1 ∧ V 171 2 + 1 ≤ 6; omega, by rw [hq7 3 (by decide) (by decide)]; exact hsz.2.2.2.1, by rw [hq7 4 (by decide) (by decide)]; exact hsz.2.2.2.2.1, by rw [hq7 5 (by decide) (by decide)]; exact hsz.2.2.2.2.2.1, by rw [hq7 6 (by decide) (by decide)]; exact hsz.2.2.2.2.2.2⟩ (fun i hi => by rw [v_uf_ne (by omega), v_uf_ne (by omega)]; exact p1.2.1 i hi) (fun i hi => ?_) (fun j a b => by rw [v_uf_ne (by omega), v_uf_ne (by omega)]) ((v_uf_ne (by decide)).trans (v_uf_ne (by omega))) ((v_uf_ne (by decide)).trans (v_uf_ne (by omega))) ((v_uf_ne (by decide)).trans (v_uf_ne (by omega))) ((v_uf_ne (by decide)).trans (v_uf_ne (by omega)))
        rw [v_uf_ne (show 1680 + i ≠ 2 by omega), v_uf_eq, v_uf_ne (show 1 ≠ 2 by decide), v_uf_ne (show 1 ≠ 1680 + (V 171 2).toNat by omega)]
        by_cases hq : i = (V 171 2).toNat
        · rw [hq, v_uf_eq]; omega
        · rw [v_uf_ne (by omega)]
          have := p1.2.2.2.2.1 i hi
          omega
      rw [hi2, ← e7]
      exact h2 _ _ _ _ _ (RR_n (V1 := (v_up (v_up V 5 (V 1 7).toNat x) 1 7 (V 1 7 + 1))) (σ' := (v_uf (v_uf (V 171) (1680 + (V 171 2).toNat) x) 2 (V 171 2 + 1))) hC0 hM0 hP0 hZ hrn (SO_le hso (Nat.le_succ cnt)) (fun k hk => by rw [v_up_ne (by omega), v_up_ne (by omega)]) ((v_uf_ne (by decide)).trans (v_uf_ne (by omega))) ((v_uf_ne (by decide)).trans (v_uf_ne (by omega))) ((v_uf_ne (by decide)).trans (v_uf_ne (by omega))) (fun j hj => by rw [v_uf_ne (by omega), v_uf_ne (by omega)]) ((v_upR _ _ _ _).trans (by rw [v_upR, f171, e7])) (fun k hk => by rw [v_up_ne hk, v_up_ne hk])) (fun _ => rfl)
    · intro j1 j2 hX j3 j4; exfalso; clear hEA hAE hLe hLr hLc gX hX; omega
    · intro j1 j2; exfalso; clear hEA hAE hLe hLr hLc gX; omega
    · intro j1; exfalso; clear hEA hAE hLe hLr hLc gX; omega
  · have f171 : V 171 = V 171 := rfl
    refine hK _ _ _ _ _ m1 (fun K2 h2 => y_Rm (D' := 3) (ms_row (V := V) m1 (by rw [f171]; omega) (by rw [f171]; exact hLr) hx1 (by rw [f171]; omega) ?_ ?_ ?_ ?_ ?_) (by decide))
    · intro j1 j2 hX j3; exact (hAE gX hX).elim
    · intro j1 j2 hX j3 j4; exfalso; clear hEA hAE hLe hLr hLc gX hX; omega
    · intro j1 j2 hX j3 j4; exact h2 _ _ _ _ _ hR2 (fun _ => by first | rfl | omega)
    · intro j1 j2; exfalso; clear hEA hAE hLe hLr hLc gX; omega
    · intro j1; exfalso; clear hEA hAE hLe hLr hLc gX; omega
  · have f171 : (v_up V 1 7 0) 171 = V 171 := v_up_ne (by decide)
    refine hK _ _ _ _ _ m1 (fun K2 h2 => y_Rm (D' := 3) (ms_row (V := (v_up V 1 7 0)) m1 (by rw [f171]; omega) (by rw [f171]; exact hLr) hx1 (by rw [f171]; omega) ?_ ?_ ?_ ?_ ?_) (by decide))
    all_goals try rw [f171]
    · intro j1 j2 hX j3; exfalso; clear hEA hAE hLe hLr hLc hX; omega
    · intro j1 j2 hX j3 j4; exfalso; clear hEA hAE hLe hLr hLc hX; omega
    · intro j1 j2 hX j3 j4; exfalso; clear hEA hAE hLe hLr hLc hX; omega
    · intro j1 j2; exfalso; clear hEA hAE hLe hLr hLc; omega
    · intro j1
      exact h2 _ _ _ _ _ (RR_n (V1 := (v_up V 1 7 0)) (σ' := (v_uf (V 171) 2 0)) hC0 hM0 hP0 hZ (RN_g c2.1 ⟨n1.1, n1.2.1, n1.2.2.1, rfl, n1.2.2.2.2.1, n1.2.2.2.2.2.1, n1.2.2.2.2.2.2⟩ (fun i hi => by rw [v_up_ne (by decide), v_uf_ne (by omega)]; exact n2 i hi) (fun i hi => by rw [v_up_ne (by decide), v_uf_ne (by omega)]; exact n3 i hi) (fun k a b => v_up_ne (by omega)) (fun j a b => v_uf_ne (by omega)) rfl) (SO_le (SO_g p1 ⟨hsz.1, hsz.2.1, by show (0 : Int) ≤ 0 ∧ (0 : Int) ≤ 6; decide, hsz.2.2.2.1, hsz.2.2.2.2.1, hsz.2.2.2.2.2.1, hsz.2.2.2.2.2.2⟩ (fun i hi => by rw [v_uf_ne (by omega)]; exact p1.2.1 i hi) (fun i hi => by rw [v_uf_ne (by omega), v_uf_eq]; have := p1.2.2.2.2.1 i hi; exact ⟨this.1, this.2.1, fun q => absurd q (by omega)⟩) (fun j a b => v_uf_ne (by omega)) rfl rfl rfl rfl) (Nat.le_succ cnt)) (fun k hk => v_up_ne (by omega)) rfl rfl rfl (fun j hj => v_uf_ne (by omega)) ((v_upR _ _ _ _).trans (by rw [f171])) (fun k hk => v_up_ne hk)) (fun _ => rfl)
end
end
section
/-! pairs of calls: feed, copy, fall -/
section
variable {X : Nat → List Int32} {u w cnt : Nat} {S : m_H} {V : v_V}
set_option maxRecDepth 100000 in
set_option maxHeartbeats 4000000 in
theorem pr_feed (hR : RR cnt u w S V) {z : Int64} {y : Int} (hy1 : (-2147483648 ≤ y ∧ y < 2147483648)) : PR X True 70 111 [.ref 0, .long z, iv y] [.ref 170, .long z, iv y] cnt u w S V := by
  have hR2 := RR_le hR (Nat.le_succ cnt)
  obtain ⟨tl, hC, hM, hP, hZ⟩ := hR
  have hC0 := hC
  have hM0 := hM
  have hP0 := hP
  obtain ⟨c1, c2, c3, c4, c5, c6, c7, c8⟩ := hC
  obtain ⟨m1, -, -, m4, m5, m6⟩ := hM
  obtain ⟨p1, p2, p3, p4⟩ := hP
  obtain ⟨n1, n2, n3, n4⟩ := c2.1
  have hsz := p1.1
  obtain ⟨q, hq⟩ : ∃ q : Nat, V 171 6 = (q : Int) := ⟨(V 171 6).toNat, by omega⟩
  have hq160 : q ≤ 160 := by omega
  have hv11 : V 1 1 = (q : Int) := n1.1.trans hq
  intro K hK
  refine y_Rm (D' := 1) (cs_feed c1 hy1 hv11 hq160 ?_ ?_ ?_) (by decide)
  · intro g1
    refine hK _ _ _ _ _ m1 (fun K2 h2 => y_Rm (D' := 2) (ms_feed m1 hy1 hq hq160 ?_ ?_ ?_) (by decide))
    all_goals intros
    all_goals first | (exfalso; omega) | exact h2 _ _ _ _ _ hR2 (fun _ => rfl)
  · intro g1 g2
    refine hK _ _ _ _ _ m1 (fun K2 h2 => y_Rm (D' := 2) (ms_feed m1 hy1 hq hq160 ?_ ?_ ?_) (by decide))
    all_goals intros
    all_goals first | (exfalso; omega) | exact h2 _ _ _ _ _ hR2 (fun _ => rfl)
  · intro r hr g1 g2
    have f171 : (v_up (v_ur V 2 (z_fd z r q (V 2))) 1 1 ((q + r : Nat) : Int)) 171 = V 171 := (v_up_ne (by decide)).trans (v_ur_ne (by decide))
    have hs7 : ∀ i : Nat, i ≠ 6 → (i < 10 + q ∨ 10 + q + r ≤ i) → v_uf (z_fd z r (10 + q) (V 171)) 6 ((q + r : Nat) : Int) i = V 171 i := fun i a b => by rw [v_uf_ne a, z_fd_ne _ _ _ _ b]
    have hrn : RN (v_up (v_ur V 2 (z_fd z r q (V 2))) 1 1 ((q + r : Nat) : Int)) 1 (v_uf (z_fd z r (10 + q) (V 171)) 6 ((q + r : Nat) : Int)) := by
      refine RN_g c2.1 ⟨rfl, n1.2.1.trans (hs7 0 (by decide) (by omega)).symm, n1.2.2.1.trans (hs7 1 (by decide) (by omega)).symm, n1.2.2.2.1.trans (hs7 2 (by decide) (by omega)).symm, n1.2.2.2.2.1.trans (hs7 3 (by decide) (by omega)).symm, n1.2.2.2.2.2.1.trans (hs7 4 (by decide) (by omega)).symm, n1.2.2.2.2.2.2.trans (hs7 5 (by decide) (by omega)).symm⟩ (fun i hi => ?_) (fun i hi => ?_) (fun k a b => by rw [v_up_ne (by omega), v_ur_ne (by omega)]) (fun j a b => hs7 j (by omega) (by omega)) (hs7 1 (by decide) (by omega))
      · rw [v_up_ne (by decide), v_ur_eq, v_uf_ne (by omega)]
        exact z_fd_sh r q (V 2) (V 171) n2 g2 i hi
      · rw [v_up_ne (by decide), v_ur_ne (by decide), hs7 _ (by omega) (by omega)]
        exact n3 i hi
    have hso : SO cnt (v_uf (z_fd z r (10 + q) (V 171)) 6 ((q + r : Nat) : Int)) := by
      refine SO_g p1 ⟨by rw [hs7 0 (by decide) (by omega)]; exact hsz.1, by rw [hs7 1 (by decide) (by omega)]; exact hsz.2.1, by rw [hs7 2 (by decide) (by omega)]; exact hsz.2.2.1, by rw [hs7 3 (by decide) (by omega)]; exact hsz.2.2.2.1, by rw [hs7 4 (by decide) (by omega)]; exact hsz.2.2.2.2.1, by rw [hs7 5 (by decide) (by omega)]; exact hsz.2.2.2.2.2.1, by rw [v_uf_eq]; omega⟩ (fun i hi => ?_) (fun i hi => ?_) (fun j a b => hs7 j (by omega) (by omega)) (hs7 0 (by decide) (by omega)) (hs7 1 (by decide) (by omega)) (hs7 3 (by decide) (by omega)) (hs7 5 (by decide) (by omega))
      · rw [v_uf_ne (by omega)]
        have := z_fd_rg (x := z) r (10 + q) (V 171) (fun j => by
          by_cases hj : 10 ≤ j ∧ j < 170
          · have := p1.2.1 (j - 10) (by omega)
            rw [show 10 + (j - 10) = j by omega] at this
            omega
          · exact Or.inr hj) (10 + i)
        omega
      · rw [hs7 _ (by omega) (by omega), hs7 2 (by decide) (by omega), hs7 1 (by decide) (by omega)]
        exact p1.2.2.2.2.1 i hi
    refine hK _ _ _ _ _ m1 (fun K2 h2 => y_Rm (D' := 2) (ms_feed m1 hy1 (by rw [f171]; exact hq) hq160 ?_ ?_ ?_) (by decide))
    · intro j1; exfalso; omega
    · intro j1 j2; exfalso; omega
    · intro r2 hr2 j1 j2
      obtain rfl : r2 = r := by omega
      rw [f171]
      exact h2 _ _ _ _ _ (RR_n hC0 hM0 hP0 hZ hrn (SO_le hso (Nat.le_succ cnt)) (fun k hk => by rw [v_up_ne (by omega), v_ur_ne (by omega)]) (hs7 0 (by decide) (by omega)) (hs7 3 (by decide) (by omega)) (hs7 5 (by decide) (by omega)) (fun j hj => hs7 j (by omega) (by omega)) (v_ur_eq _ _ _) (fun k hk => v_ur_ne hk)) (fun _ => rfl)
end
end
section
/-! pairs of calls: copy, fall -/
theorem bits_ext : ∀ (k : Nat) (r s : Nat), r < 2 ^ k → s < 2 ^ k → (∀ t, t < k → r / 2 ^ t % 2 = s / 2 ^ t % 2) → r = s
  | 0, r, s, h1, h2, _ => by
    rw [Nat.pow_zero] at h1 h2
    omega
  | k + 1, r, s, h1, h2, h => by
    rw [Nat.pow_succ] at h1 h2
    have h0 := h 0 (by omega)
    rw [Nat.pow_zero, Nat.div_one, Nat.div_one] at h0
    have hr := bits_ext k (r / 2) (s / 2) (by omega) (by omega) (fun t ht => by
      have := h (t + 1) (by omega)
      rw [Nat.pow_succ, Nat.mul_comm, ← Nat.div_div_eq_div_mul, ← Nat.div_div_eq_div_mul] at this
      exact this)
    omega
theorem tu_eq {σ : Nat → Int} {b : Nat} {r s : Int} (hr : 0 ≤ r ∧ r < 65536) (hs : 0 ≤ s ∧ s < 65536) (h1 : ∀ t : Nat, t < 16 → tuB σ b 16 t (r / 2 ^ t % 2)) (h2 : ∀ t : Nat, t < 16 → tuB σ b 16 t (s / 2 ^ t % 2)) : r = s := by
  obtain ⟨m, rfl⟩ : ∃ m : Nat, r = (m : Int) := ⟨r.toNat, by omega⟩
  obtain ⟨n, rfl⟩ : ∃ n : Nat, s = (n : Int) := ⟨s.toNat, by omega⟩
  have := bits_ext 16 m n (by omega) (by omega) (fun t ht => by
    have a := h1 t ht
    have b2 := h2 t ht
    have e : ∀ q : Nat, (((q / 2 ^ t % 2 : Nat)) : Int) = (q : Int) / 2 ^ t % 2 := fun q => by
      rw [Int.natCast_emod, Int.natCast_ediv, Int.natCast_pow]
      rfl
    have : (m : Int) / 2 ^ t % 2 = (n : Int) / 2 ^ t % 2 := by
      by_cases hq : t < 16 ∧ tuP σ b t
      · rw [a.1 hq, b2.1 hq]
      · rw [a.2 hq, b2.2 hq]
    rw [← e, ← e] at this
    omega)
  rw [this]
/-- a MEMORY goes to another place -/
theorem cp_RN {V : v_V} {σ : Nat → Int} {X : Nat} {p q : Nat} {k1 k2 : Nat} (h : RN V 1 σ) (hX : X < 8) (hp : (p = 200 ∧ q = 880 ∧ k1 = 3 ∧ k2 = 5) ∨ (p = 880 ∧ q = 200 ∧ k1 = 5 ∧ k2 = 3)) : RN (v_ur V (10 + 6 * X + k2) (V (10 + 6 * X + k1))) 1 (v_cp σ σ (p + 84 * X) (q + 84 * X) 84) := by
  have hs : ∀ j, (j < q + 84 * X ∨ q + 84 * X + 84 ≤ j) → v_cp σ σ (p + 84 * X) (q + 84 * X) 84 j = σ j := fun j hj => if_neg (by omega)
  have hs2 : ∀ i, i < 84 → v_cp σ σ (p + 84 * X) (q + 84 * X) 84 (q + 84 * X + i) = σ (p + 84 * X + i) := fun i hi => (if_pos (by omega)).trans (congrArg σ (by omega))
  refine RN_b h ?_ (fun k hk => v_ur_ne (by omega)) (fun j hj => hs j (by omega)) (fun b hb => ?_)
  · unfold N7
    rw [v_ur_ne (by omega), hs 0 (by omega), hs 1 (by omega), hs 2 (by omega), hs 3 (by omega), hs 4 (by omega), hs 5 (by omega), hs 6 (by omega)]
    exact h.1
  · obtain ⟨d1, d2, d3, d4, d5, d6, d7, d8⟩ := h.2.2.2 b hb
    obtain ⟨-, -, -, -, -, -, x7, x8⟩ := h.2.2.2 X hX
    unfold BxN
    rw [v_ur_ne (show 10 + 6 * b ≠ 10 + 6 * X + k2 by omega), v_ur_ne (show 10 + 6 * b + 1 ≠ 10 + 6 * X + k2 by omega), hs 1 (by omega), hs _ (by omega), hs _ (by omega), hs _ (by omega), hs _ (by omega)]
    refine ⟨d1, d2, d3, d4, d5, fun t ht => by rw [hs _ (by omega)]; exact d6 t ht, fun i hi => ?_, fun i hi => ?_⟩
    · by_cases e : b = X ∧ q = 200
      · obtain ⟨rfl, rfl⟩ := e
        obtain ⟨rfl, rfl, rfl⟩ : p = 880 ∧ k1 = 5 ∧ k2 = 3 := by omega
        rw [v_ur_eq, hs2 i hi]
        exact x8 i hi
      · rw [v_ur_ne (by omega), hs _ (by omega)]
        exact d7 i hi
    · by_cases e : b = X ∧ q = 880
      · obtain ⟨rfl, rfl⟩ := e
        obtain ⟨rfl, rfl, rfl⟩ : p = 200 ∧ k1 = 3 ∧ k2 = 5 := by omega
        rw [v_ur_eq, hs2 i hi]
        exact x7 i hi
      · rw [v_ur_ne (by omega), hs _ (by omega)]
        exact d8 i hi
theorem cp_SO {cnt : Nat} {σ : Nat → Int} {X : Nat} {p q : Nat} (h : SO cnt σ) (hX : X < 8) (hp : (p = 200 ∧ q = 880) ∨ (p = 880 ∧ q = 200)) : SO cnt (v_cp σ σ (p + 84 * X) (q + 84 * X) 84) := by
  have hs : ∀ j, (j < q + 84 * X ∨ q + 84 * X + 84 ≤ j) → v_cp σ σ (p + 84 * X) (q + 84 * X) 84 j = σ j := fun j hj => if_neg (by omega)
  have hm : ∀ i, ∀ B : Nat, B < 8 → ∀ w : Nat, (w = 200 ∨ w = 880) → i < 84 → -2147483648 ≤ v_cp σ σ (p + 84 * X) (q + 84 * X) 84 (w + 84 * B + i) ∧ v_cp σ σ (p + 84 * X) (q + 84 * X) 84 (w + 84 * B + i) < 2147483648 := by
    intro i B hB w hw hi
    have o1 := (h.2.2.1 B hB).2.2.2.2.1 i hi
    have o2 := (h.2.2.1 B hB).2.2.2.2.2 i hi
    have x1 := (h.2.2.1 X hX).2.2.2.2.1 i hi
    have x2 := (h.2.2.1 X hX).2.2.2.2.2 i hi
    unfold zm at o1 o2 x1 x2
    by_cases e : B = X ∧ w = q
    · obtain ⟨rfl, rfl⟩ := e
      rw [show v_cp σ σ (p + 84 * B) (w + 84 * B) 84 (w + 84 * B + i) = σ (p + 84 * B + i) from (if_pos (by omega)).trans (congrArg σ (by omega))]
      rcases hp with ⟨rfl, -⟩ | ⟨rfl, -⟩ <;> assumption
    · rw [hs _ (by omega)]
      rcases hw with rfl | rfl <;> assumption
  refine SO_b h ?_ (fun j hj => hs j (by omega)) (by rw [hs 1 (by omega)]; exact Int.le_refl _) (hs 2 (by omega)) (hs 3 (by omega)) (hs 5 (by omega)) (fun b hb => ?_) (fun b hb t ht => ?_)
  · unfold O7
    rw [hs 0 (by omega), hs 1 (by omega), hs 2 (by omega), hs 3 (by omega), hs 4 (by omega), hs 5 (by omega), hs 6 (by omega)]
    exact h.1
  · have o := h.2.2.1 b hb
    unfold Ob
    rw [hs (170 + b) (by omega), hs (178 + b) (by omega), hs (186 + b) (by omega), hs (872 + b) (by omega), hs 1 (by omega), hs 0 (by omega)]
    exact ⟨o.1, o.2.1, o.2.2.1, o.2.2.2.1, fun i hi => hm i b hb 200 (Or.inl rfl) hi, fun i hi => hm i b hb 880 (Or.inr rfl) hi⟩
  · rw [hs _ (by omega), hs 1 (by omega)]
    exact h.2.2.2.1 b hb t ht
section
variable {X : Nat → List Int32} {u w cnt : Nat} {S : m_H} {V : v_V}
set_option maxRecDepth 100000 in
set_option maxHeartbeats 4000000 in
theorem pr_fall (hR : RR cnt u w S V) {x : Int} (hx1 : (-2147483648 ≤ x ∧ x < 2147483648)) : PR X True 86 152 [.ref 0, iv x] [.ref 170, iv x] cnt u w S V := by
  have hR2 := RR_le hR (Nat.le_succ cnt)
  obtain ⟨tl, hC, hM, hP, hZ⟩ := hR
  have hC0 := hC
  have hM0 := hM
  have hP0 := hP
  obtain ⟨c1, c2, c3, c4, c5, c6, c7, c8⟩ := hC
  obtain ⟨m1, -, -, m4, m5, m6⟩ := hM
  obtain ⟨p1, p2, p3, p4⟩ := hP
  obtain ⟨n1, n2, n3, n4⟩ := c2.1
  have hsz := p1.1
  intro K hK
  refine y_Rm (D' := 4) (cs_fall c1 c2 p1 hx1 (fun g1 => ?_) (fun g1 r gr gb => ?_)) (by decide)
  · refine hK _ _ _ _ _ m1 (fun K2 h2 => y_Rm (D' := 3) (ms_fall m1 p1 hx1 ?_ ?_) (by decide))
    all_goals intros
    all_goals first | contradiction | exact h2 _ _ _ _ _ hR2 (fun _ => rfl)
  · have hX : x.toNat < 8 := by omega
    have f171 : (v_ur V (10 + 6 * x.toNat + 3) (V (10 + 6 * x.toNat + 5))) 171 = V 171 := v_ur_ne (by omega)
    have hs : ∀ j, (j < 200 ∨ 872 ≤ j) → v_cp (V 171) (V 171) (880 + 84 * x.toNat) (200 + 84 * x.toNat) 84 j = V 171 j := fun j hj => if_neg (by omega)
    refine hK _ _ _ _ _ m1 (fun K2 h2 => y_Rm (D' := 3) (ms_fall m1 (by rw [f171]; exact p1) hx1 ?_ ?_) (by decide))
    all_goals rw [f171]
    · intros; contradiction
    · intro j1 r2 jr jb
      exact h2 _ _ _ _ _ (RR_n hC0 hM0 hP0 hZ (cp_RN c2.1 hX (Or.inr ⟨rfl, rfl, rfl, rfl⟩)) (SO_le (cp_SO p1 hX (Or.inr ⟨rfl, rfl⟩)) (Nat.le_succ cnt)) (fun k hk => v_ur_ne (by omega)) (hs 0 (by omega)) (hs 3 (by omega)) (hs 5 (by omega)) (fun j hj => hs j (by omega)) (v_ur_eq _ _ _) (fun k hk => v_ur_ne hk)) (fun _ => tu_eq jr gr jb (fun t _ => gb t))
end
end
section
/-! pairs of calls: copy, image, undo -/
theorem k_RN {V : v_V} {σ : Nat → Int} {X : Nat} {e : Int} (h : RN V 1 σ) (hX : X < 8) : RN (v_up V (10 + 6 * X) 4 e) 1 (v_uf σ (872 + X) e) := by
  have hs : ∀ j, j ≠ 872 + X → v_uf σ (872 + X) e j = σ j := fun j hj => v_uf_ne hj
  refine RN_b h ?_ (fun k hk => v_up_ne (by omega)) (fun j hj => hs j (by omega)) (fun b hb => ?_)
  · unfold N7
    rw [v_up_ne (by omega), hs 0 (by omega), hs 1 (by omega), hs 2 (by omega), hs 3 (by omega), hs 4 (by omega), hs 5 (by omega), hs 6 (by omega)]
    exact h.1
  · obtain ⟨d1, d2, d3, d4, d5, d6, d7, d8⟩ := h.2.2.2 b hb
    unfold BxN
    have hv : ∀ i, i ≠ 4 → v_up V (10 + 6 * X) 4 e (10 + 6 * b) i = V (10 + 6 * b) i := fun i hi => by
      by_cases hb2 : b = X
      · rw [hb2, v_up_ni hi]
      · rw [v_up_ne (by omega)]
    rw [hv 0 (by decide), hv 1 (by decide), hv 2 (by decide), hv 3 (by decide), v_up_ne (show 10 + 6 * b + 1 ≠ 10 + 6 * X by omega), v_up_ne (show 10 + 6 * b + 3 ≠ 10 + 6 * X by omega), v_up_ne (show 10 + 6 * b + 5 ≠ 10 + 6 * X by omega), hs 1 (by omega), hs (170 + b) (by omega), hs (178 + b) (by omega), hs (186 + b) (by omega)]
    refine ⟨d1, d2, d3, d4, ?_, fun t ht => by rw [hs _ (by omega)]; exact d6 t ht, fun i hi => by rw [hs _ (by omega)]; exact d7 i hi, fun i hi => by rw [hs _ (by omega)]; exact d8 i hi⟩
    by_cases hb2 : b = X
    · rw [hb2, v_up_eq, v_uf_eq]
    · rw [v_up_ne (by omega), hs _ (by omega)]
      exact d5
theorem k_SO {cnt : Nat} {σ : Nat → Int} {X : Nat} {e : Int} (h : SO cnt σ) (hX : X < 8) (he : 0 ≤ e ∧ e ≤ cnt) : SO cnt (v_uf σ (872 + X) e) := by
  have hs : ∀ j, j ≠ 872 + X → v_uf σ (872 + X) e j = σ j := fun j hj => v_uf_ne hj
  refine SO_b h ?_ (fun j hj => hs j (by omega)) (by rw [hs 1 (by omega)]; exact Int.le_refl _) (hs 2 (by omega)) (hs 3 (by omega)) (hs 5 (by omega)) (fun b hb => ?_) (fun b hb t ht => ?_)
  · unfold O7
    rw [hs 0 (by omega), hs 1 (by omega), hs 2 (by omega), hs 3 (by omega), hs 4 (by omega), hs 5 (by omega), hs 6 (by omega)]
    exact h.1
  · have o := h.2.2.1 b hb
    unfold Ob
    rw [hs (170 + b) (by omega), hs (178 + b) (by omega), hs (186 + b) (by omega), hs 1 (by omega), hs 0 (by omega)]
    refine ⟨o.1, o.2.1, o.2.2.1, ?_, fun i hi => ?_, fun i hi => ?_⟩
    · by_cases hb2 : b = X
      · rw [hb2, v_uf_eq]
        exact he
      · rw [hs _ (by omega)]
        exact o.2.2.2.1
    · show -2147483648 ≤ v_uf σ (872 + X) e (200 + 84 * b + i) ∧ v_uf σ (872 + X) e (200 + 84 * b + i) < 2147483648
      rw [hs _ (by omega)]
      exact o.2.2.2.2.1 i hi
    · show -2147483648 ≤ v_uf σ (872 + X) e (880 + 84 * b + i) ∧ v_uf σ (872 + X) e (880 + 84 * b + i) < 2147483648
      rw [hs _ (by omega)]
      exact o.2.2.2.2.2 i hi
  · rw [hs _ (by omega), hs 1 (by omega)]
    exact h.2.2.2.1 b hb t ht
/-- a state becomes the other one -/
theorem RS_cp {S S' : m_H} {V V' : v_V} {B B' : Nat} {σ : Nat → Int} {tl : Nat → List p_Li} {ta tb wa wb la lb : List Value} (h : RS S V B' σ tl) (hB : (B = 1 ∧ B' = 58) ∨ (B = 58 ∧ B' = 1)) (hta : ce S (B' + 2) 22 ta) (htb : ce S (B + 2) 22 tb) (hwa : ce S (B' + 5) 24 wa) (hwb : ce S (B + 5) 24 wb) (hla : ce S (B' + 6) 24 la) (hlb : ce S (B + 6) 24 lb) (e : S' = ((S.set (B + 2) (22, ta)).set (B + 5) (24, wa)).set (B + 6) (24, la)) (hV : CpV B B' V V') : RS S' V' B σ tl ∧ RS S' V' B' σ tl := by
  have hlo : ∀ k, k < B ∨ B + 57 ≤ k → V' k = V k := hV.2.2.2.2.2.2
  have hhi : ∀ k, 193 ≤ k → V' k = V k := fun k hk => hlo k (by omega)
  have q1 : SQ (B + 2) S (S.set (B + 2) (22, ta)) := SQ_set htb (by decide)
  have wb1 : ce (S.set (B + 2) (22, ta)) (B + 5) 24 wb := ce_ne hwb (by omega)
  have q2 : SQ (B + 5) (S.set (B + 2) (22, ta)) ((S.set (B + 2) (22, ta)).set (B + 5) (24, wa)) := SQ_set wb1 (by decide)
  have lb1 : ce ((S.set (B + 2) (22, ta)).set (B + 5) (24, wa)) (B + 6) 24 lb := ce_ne (ce_ne hlb (by omega)) (by omega)
  have q3 : SQ (B + 6) ((S.set (B + 2) (22, ta)).set (B + 5) (24, wa)) S' := by rw [e]; exact SQ_set lb1 (by decide)
  have hA : ∀ t v, v_asg S t v → v_asg S' t v := fun t v hv => q3.2 t v (q2.2 t v (q1.2 t v hv))
  have hc : ∀ k t vs, k ≠ B + 2 → k ≠ B + 5 → k ≠ B + 6 → ce S k t vs → ce S' k t vs := fun k t vs a b c d => q3.1 _ _ _ c (q2.1 _ _ _ b (q1.1 _ _ _ a d))
  have hT : ∀ t, 193 ≤ t → TxS S t → TxS S' t := fun t ht hx => TxS_q q3 (by omega) ht (TxS_q q2 (by omega) ht (TxS_q q1 (by omega) ht hx))
  have eta : ce S' (B + 2) 22 ta := by rw [e]; exact ce_ne (ce_ne (ce_eq htb) (by omega)) (by omega)
  have ewa : ce S' (B + 5) 24 wa := by rw [e]; exact ce_ne (ce_eq wb1) (by omega)
  have ela : ce S' (B + 6) 24 la := by rw [e]; exact ce_eq lb1
  have same : ∀ {k t : Nat} {vs ws : List Value}, ce S k t vs → ce S k t ws → vs = ws := by
    intro k t vs ws a b
    have e := a.2.symm.trans b.2
    simp only [Option.some.injEq, Prod.mk.injEq] at e
    exact e.2
  obtain ⟨hN, ⟨ta', t1, t2, t3, t4⟩, ⟨wa', w1, w2⟩, ⟨la', l1, l2⟩⟩ := h
  obtain rfl := same hta t1
  obtain rfl := same hwa w1
  obtain rfl := same hla l1
  have hP : ∀ (vs : List Value) (N q : Nat) (lim : Int), PkA S V vs N lim σ q → PkA S' V' vs N lim σ q := by
    intro vs N q lim ⟨a1, a2, a3⟩
    refine ⟨a1, fun v hv => hA _ _ (a2 v hv), fun i hi => ?_⟩
    obtain ⟨pk, b1, b2, b3⟩ := a3 i hi
    have b4 := PkS_r b3 (hhi pk b2)
    exact ⟨pk, b1, b2, hc _ _ _ (by omega) (by omega) (by omega) b4.1, b4.2⟩
  have hTT : ∀ i : Nat, (i : Int) < σ 0 → ∃ t : Nat, m_nth ta i = some (.ref t) ∧ 193 ≤ t ∧ TxS S' t ∧ CT V' t (tl i) := fun i hi => by
    obtain ⟨t, b1, b2, b3, b4⟩ := t4 i hi
    exact ⟨t, b1, b2, hT t b2 b3, CT_hi hhi b2 b4⟩
  refine ⟨⟨?_, ⟨ta, eta, t2, fun v hv => hA _ _ (t3 v hv), hTT⟩, ⟨wa, ewa, hP _ _ _ _ w2⟩, ⟨la, ela, hP _ _ _ _ l2⟩⟩, ⟨RN_fr hN (fun k a b => hlo k (by omega)), ⟨ta, hc _ _ _ (by omega) (by omega) (by omega) hta, t2, fun v hv => hA _ _ (t3 v hv), hTT⟩, ⟨wa, hc _ _ _ (by omega) (by omega) (by omega) hwa, hP _ _ _ _ w2⟩, ⟨la, hc _ _ _ (by omega) (by omega) (by omega) hla, hP _ _ _ _ l2⟩⟩⟩
  obtain ⟨v1, v2, v3, v4, v5, v6, v7⟩ := hV
  obtain ⟨h1, h2, h3, h4⟩ := hN
  refine ⟨by rw [v1 1 rfl, v1 3 rfl, v1 5 rfl, v1 7 rfl, v1 9 rfl, v1 10 rfl, v1 12 rfl]; exact h1, by rw [v2]; exact h2, by rw [v3]; exact h3, fun b hb => ?_⟩
  obtain ⟨x1, x2, x3, x4⟩ := v6 b hb
  have := h4 b hb
  unfold BxN at *
  rw [x1, x2, x3, x4]
  exact this
section
variable {X : Nat → List Int32} {u w cnt : Nat} {S : m_H} {V : v_V}
set_option maxRecDepth 100000 in
set_option maxHeartbeats 4000000 in
theorem pr_copy (hR : RR cnt u w S V) (hcn : cnt < 70) {x : Int} (hx1 : (-2147483648 ≤ x ∧ x < 2147483648)) : PR X True 85 151 [.ref 0, iv x] [.ref 170, iv x] cnt u w S V := by
  have hR2 := RR_le hR (Nat.le_succ cnt)
  obtain ⟨tl, hC, hM, hP, hZ⟩ := hR
  have hC0 := hC
  have hM0 := hM
  have hP0 := hP
  obtain ⟨c1, c2, c3, c4, c5, c6, c7, c8⟩ := hC
  obtain ⟨m1, -, -, m4, m5, m6⟩ := hM
  obtain ⟨p1, p2, p3, p4⟩ := hP
  obtain ⟨n1, n2, n3, n4⟩ := c2.1
  have hsz := p1.1
  have hkc : ∀ b : Nat, b < 8 → 0 ≤ V (10 + 6 * b) 4 ∧ V (10 + 6 * b) 4 < 2147483647 := fun b hb => by
    have h5 : V (10 + 6 * b) 4 = V 171 (872 + b) := (n4 b hb).2.2.2.2.1
    have := (p1.2.2.1 b hb).2.2.2.1
    omega
  have hkm : ∀ b : Nat, b < 8 → 0 ≤ V 171 (872 + b) ∧ V 171 (872 + b) < 2147483647 := fun b hb => by
    have := (p1.2.2.1 b hb).2.2.2.1
    omega
  intro K hK
  refine y_Rm (D' := 2) (cs_copy c1 (by omega) hx1 hkc (fun g1 => ?_) (fun g1 => ?_)) (by decide)
  · refine hK _ _ _ _ _ m1 (fun K2 h2 => y_Rm (D' := 3) (ms_copy m1 (by omega) hx1 hkm ?_ ?_) (by decide))
    all_goals intros
    all_goals first | (exfalso; omega) | exact h2 _ _ _ _ _ hR2 (fun _ => rfl)
  · have hX : x.toNat < 8 := by omega
    have e4 : V (10 + 6 * x.toNat) 4 = V 171 (872 + x.toNat) := (n4 _ hX).2.2.2.2.1
    have hk9 := (p1.2.2.1 _ hX).2.2.2.1
    have f171 : (v_up (v_ur V (10 + 6 * x.toNat + 5) (V (10 + 6 * x.toNat + 3))) (10 + 6 * x.toNat) 4 (V (10 + 6 * x.toNat) 4 + 1)) 171 = V 171 := (v_up_ne (by omega)).trans (v_ur_ne (by omega))
    have hs : ∀ j, (j < 200 ∨ 1690 ≤ j) → v_uf (v_cp (V 171) (V 171) (200 + 84 * x.toNat) (880 + 84 * x.toNat) 84) (872 + x.toNat) (V (10 + 6 * x.toNat) 4 + 1) j = V 171 j := fun j hj => (v_uf_ne (by omega)).trans (if_neg (by omega))
    refine hK _ _ _ _ _ m1 (fun K2 h2 => y_Rm (D' := 3) (ms_copy m1 (by rw [f171]; omega) hx1 (by rw [f171]; exact hkm) ?_ ?_) (by decide))
    all_goals rw [f171]
    · intro j1
      rw [← e4]
      exact h2 _ _ _ _ _ (RR_n hC0 hM0 hP0 hZ (k_RN (cp_RN c2.1 hX (Or.inl ⟨rfl, rfl, rfl, rfl⟩)) hX) (k_SO (SO_le (cp_SO p1 hX (Or.inl ⟨rfl, rfl⟩)) (Nat.le_succ cnt)) hX (by rw [e4]; omega)) (fun k hk => by rw [v_up_ne (by omega), v_ur_ne (by omega)]) (hs 0 (by omega)) (hs 3 (by omega)) (hs 5 (by omega)) (fun j hj => hs j (by omega)) ((v_upR _ _ _ _).trans (by rw [v_ur_eq])) (fun k hk => by rw [v_up_ne hk, v_ur_ne hk])) (fun _ => rfl)
    · intros; exfalso; omega
end
end
section
/-! pairs of calls: image, undo -/
theorem RC_cp {S S' : m_H} {V V' V1 : v_V} {B B' : Nat} {σ τ ρ : Nat → Int} {tl : Nat → List p_Li} {ta tb wa wb la lb : List Value} (h : RC S V σ τ tl) (hB : (B = 1 ∧ B' = 58 ∧ ρ = τ) ∨ (B = 58 ∧ B' = 1 ∧ ρ = σ)) (hl : 193 ≤ S.length) (hta : ce S (B' + 2) 22 ta) (htb : ce S (B + 2) 22 tb) (hwa : ce S (B' + 5) 24 wa) (hwb : ce S (B + 5) 24 wb) (hla : ce S (B' + 6) 24 la) (hlb : ce S (B + 6) 24 lb) (e : S' = ((S.set (B + 2) (22, ta)).set (B + 5) (24, wa)).set (B + 6) (24, la)) (hV : CpV B B' V V') (f : ∀ k, k ≠ 0 → V1 k = V' k) (f0 : V1 0 2 = 0 ∨ V1 0 2 = 1) : RC S' V1 ρ ρ tl := by
  obtain ⟨a1, a2, a3, ⟨tp, tv, r1, r2⟩, ⟨⟨lf, s1⟩, ⟨xs, x1, x2, x3⟩, s3⟩, a6, a7, a8⟩ := h
  have hBB : (B = 1 ∧ B' = 58) ∨ (B = 58 ∧ B' = 1) := by omega
  have hR : RS S V B' ρ tl := by
    rcases hB with ⟨-, rfl, rfl⟩ | ⟨-, rfl, rfl⟩
    · exact a3
    · exact a2
  have hRR := RS_cp hR hBB hta htb hwa hwb hla hlb e hV
  have hlo : ∀ k, k < B ∨ B + 57 ≤ k → V' k = V k := hV.2.2.2.2.2.2
  have h5 := hV.2.2.2.2.1
  have hlen : S'.length = S.length := by rw [e, List.length_set, List.length_set, List.length_set]
  have v1 : SV (B + 2) S (S.set (B + 2) (22, ta)) := SV_set _ _ _
  have v2 : SV (B + 5) (S.set (B + 2) (22, ta)) ((S.set (B + 2) (22, ta)).set (B + 5) (24, wa)) := SV_set _ _ _
  have v3 : SV (B + 6) ((S.set (B + 2) (22, ta)).set (B + 5) (24, wa)) S' := by rw [e]; exact SV_set _ _ _
  have hc : ∀ k t vs, k ≠ B + 2 → k ≠ B + 5 → k ≠ B + 6 → ce S k t vs → ce S' k t vs := fun k t vs a b c d => SV_ce v3 c (SV_ce v2 b (SV_ce v1 a d))
  have hC' : ClF S' := by
    refine ClF_v (ClF_v (ClF_v a1 v1 ?_) v2 ?_) v3 ?_
    all_goals rcases hBB with ⟨rfl, -⟩ | ⟨rfl, -⟩ <;> decide
  have eta : ce S' (B + 2) 22 ta := by rw [e]; exact ce_ne (ce_ne (ce_eq htb) (by omega)) (by omega)
  have etb : ce S' (B' + 2) 22 ta := hc _ _ _ (by omega) (by omega) (by omega) hta
  have same : ∀ {k t : Nat} {vs ws : List Value}, ce S' k t vs → ce S' k t ws → vs = ws := by
    intro k t vs ws a b
    have e := a.2.symm.trans b.2
    simp only [Option.some.injEq, Prod.mk.injEq] at e
    exact e.2
  have hx : ∀ B2, (B2 = 1 ∨ B2 = 58) → RS S' V' B2 ρ tl → RS S' V1 B2 ρ tl := fun B2 hb hr => RS_x hr (SQ_rf 0 S') (by omega) (fun k _ _ => f k (by omega)) (fun k _ _ => f k (by omega))
  have hboth : RS S' V' 1 ρ tl ∧ RS S' V' 58 ρ tl := by
    rcases hBB with ⟨rfl, rfl⟩ | ⟨rfl, rfl⟩
    · exact hRR
    · exact ⟨hRR.2, hRR.1⟩
  have hta3 : ∀ ta2, (ce S' 3 22 ta2 ∨ ce S' 60 22 ta2) → ta2 = ta := by
    intro ta2 hh
    rcases hBB with ⟨rfl, rfl⟩ | ⟨rfl, rfl⟩
    · rcases hh with hh | hh
      · exact same hh eta
      · exact same hh etb
    · rcases hh with hh | hh
      · exact same hh etb
      · exact same hh eta
  have hasg : ∀ t v, v_asg S t v → v_asg S' t v := by
    have q1 : SQ (B + 2) S (S.set (B + 2) (22, ta)) := SQ_set htb (by decide)
    have wb1 : ce (S.set (B + 2) (22, ta)) (B + 5) 24 wb := ce_ne hwb (by omega)
    have q2 : SQ (B + 5) (S.set (B + 2) (22, ta)) ((S.set (B + 2) (22, ta)).set (B + 5) (24, wa)) := SQ_set wb1 (by decide)
    have lb1 : ce ((S.set (B + 2) (22, ta)).set (B + 5) (24, wa)) (B + 6) 24 lb := ce_ne (ce_ne hlb (by omega)) (by omega)
    have q3 : SQ (B + 6) ((S.set (B + 2) (22, ta)).set (B + 5) (24, wa)) S' := by rw [e]; exact SQ_set lb1 (by decide)
    exact fun t v hv => q3.2 t v (q2.2 t v (q1.2 t v hv))
  refine ⟨hC', hx 1 (Or.inl rfl) hboth.1, hx 58 (Or.inr rfl) hboth.2, ⟨tp, tv, hc _ _ _ (by omega) (by omega) (by omega) r1, ?_⟩, ⟨⟨lf, hc _ _ _ (by omega) (by omega) (by omega) s1⟩, ⟨xs, hc _ _ _ (by omega) (by omega) (by omega) x1, x2, fun v hv => hasg _ _ (x3 v hv)⟩, ?_⟩, ?_, ?_, f0⟩
  · rcases r2 with r2 | ⟨t, b1, b2, b3, b4, b5⟩
    · exact Or.inl r2
    · have hno : ∀ i : Nat, (i : Int) < ρ 0 → m_nth ta i ≠ some (.ref t) := by
        rcases hB with ⟨rfl, rfl, rfl⟩ | ⟨rfl, rfl, rfl⟩
        · exact b5 ta hta
        · exact b4 ta hta
      refine Or.inr ⟨t, b1, b2, TxS_v v3 (by omega) b2 (TxS_v v2 (by omega) b2 (TxS_v v1 (by omega) b2 b3)), fun ta2 hc2 => ?_, fun ta2 hc2 => ?_⟩
      · rw [hta3 ta2 (Or.inl hc2)]; exact hno
      · rw [hta3 ta2 (Or.inr hc2)]; exact hno
  · exact (Se_V (S := S) ⟨⟨lf, s1⟩, ⟨xs, x1, x2, x3⟩, s3⟩ (fun k hk => (f k (by omega)).trans (hlo k (by omega)))).2.2
  · rw [f 8 (by decide)]
    rcases hBB with ⟨rfl, rfl⟩ | ⟨rfl, rfl⟩
    · rw [show V' 8 1 = V 65 1 from h5]; exact a7
    · rw [hlo 8 (by omega)]; exact a6
  · rw [f 65 (by decide)]
    rcases hBB with ⟨rfl, rfl⟩ | ⟨rfl, rfl⟩
    · rw [hlo 65 (by omega)]; exact a7
    · rw [show V' 65 1 = V 8 1 from h5]; exact a6
section
variable {X : Nat → List Int32} {u w cnt : Nat} {S : m_H} {V : v_V}
set_option maxRecDepth 100000 in
set_option maxHeartbeats 4000000 in
theorem pr_image (hR : RR cnt u w S V)  : PR X True 94 176 [.ref 0] [.ref 170] cnt u w S V := by
  have hR2 := RR_le hR (Nat.le_succ cnt)
  obtain ⟨tl, hC, hM, hP, hZ⟩ := hR
  have hC0 := hC
  have hM0 := hM
  have hP0 := hP
  obtain ⟨c1, c2, c3, c4, c5, c6, c7, c8⟩ := hC
  obtain ⟨m1, -, -, m4, m5, m6⟩ := hM
  obtain ⟨p1, p2, p3, p4⟩ := hP
  obtain ⟨n1, n2, n3, n4⟩ := c2.1
  have hsz := p1.1
  obtain ⟨ta, t1, t2, t3, -⟩ := c2.2.1
  obtain ⟨wa, w1, w2, w3, -⟩ := c2.2.2.1
  obtain ⟨la, l1, l2, l3, -⟩ := c2.2.2.2
  obtain ⟨tb, t1', t2', t3', -⟩ := c3.2.1
  obtain ⟨wb, w1', w2', w3', -⟩ := c3.2.2.1
  obtain ⟨lb, l1', l2', l3', -⟩ := c3.2.2.2
  intro K hK
  refine y_Rm (D' := 4) (cc_image c1 t1 t1' w1 w1' l1 l1' t2 t2' w2 w2' l2 l2' t3 w3 l3 (fun V' hV => ?_)) (by decide)
  have hlo : ∀ k, k < 58 ∨ 58 + 57 ≤ k → V' k = V k := hV.2.2.2.2.2.2
  have hf : ∀ k, k ≠ 0 → v_up V' 0 2 1 k = V' k := fun k hk => v_up_ne hk
  have hC1 := RC_cp (B := 58) (B' := 1) (ρ := V 171) (V1 := v_up V' 0 2 1) hC0 (Or.inr ⟨rfl, rfl, rfl⟩) hZ.1 t1 t1' w1 w1' l1 l1' rfl hV hf (Or.inr (v_up_eq _ _ _ _))
  have m1b : MdS (((S.set 60 (22, ta)).set 63 (24, wa)).set 64 (24, la)) := MdS_v (MdS_v (MdS_v m1 (SV_set 60 _ _) (by decide)) (SV_set 63 _ _) (by decide)) (SV_set 64 _ _) (by decide)
  have g : ∀ k, 115 ≤ k → v_up V' 0 2 1 k = V k := fun k hk => (hf k (by omega)).trans (hlo k (by omega))
  have hM1 := RM_fr hM0 m1b (fun k a b => g k (by omega))
  refine hK _ _ _ _ _ m1b (fun K2 h2 => y_Rm (D' := 1) (ct_image m1b ?_) (by decide))
  have e15 : V' 1 5 = V 171 1 := by rw [hlo 1 (by omega)]; exact n1.2.2.1
  have hM2 : RM (((S.set 60 (22, ta)).set 63 (24, wa)).set 64 (24, la)) (v_up (v_ur (v_up V' 0 2 1) 172 ((v_up V' 0 2 1) 171)) 170 3 1) (V 171) (V 171) tl 1 := by
    obtain ⟨b1, b2, b3, b4, b5, b6⟩ := hM1
    have e : ∀ k, k ≠ 170 → k ≠ 172 → (v_up (v_ur (v_up V' 0 2 1) 172 ((v_up V' 0 2 1) 171)) 170 3 1) k = (v_up V' 0 2 1) k := fun k p q => by rw [v_up_ne p, v_ur_ne q]
    exact ⟨b1, (e 171 (by decide) (by decide)).trans b2, by rw [v_up_ne (by decide), v_ur_eq]; exact b2, fun i hi => MT_x (b4 i hi) (fun k p q => e k (by omega) (by omega)), by rw [v_up_ni (by decide), v_ur_ne (by decide)]; exact b5, v_up_eq _ _ _ _⟩
  exact h2 _ _ _ _ _ (RR_mk hC1 hM2 (fun k hk => by rw [v_up_ne (by omega), v_ur_ne (by omega)]) (v_up_eq _ _ _ _) ⟨SO_le p1 (Nat.le_succ cnt), SO_le p1 (Nat.le_succ cnt), Int.le_refl _, p4⟩ (RZ_x (a := 0) (b := 0) hZ (by rw [List.length_set, List.length_set, List.length_set]; omega) (by decide) (by decide))) (fun _ => by rw [g 171 (by decide)]; exact e15.symm)
set_option maxRecDepth 100000 in
set_option maxHeartbeats 4000000 in
theorem pr_undo (hR : RR cnt u w S V)  : PR X True 95 177 [.ref 0] [.ref 170] cnt u w S V := by
  have hR2 := RR_le hR (Nat.le_succ cnt)
  obtain ⟨tl, hC, hM, hP, hZ⟩ := hR
  have hC0 := hC
  have hM0 := hM
  have hP0 := hP
  obtain ⟨c1, c2, c3, c4, c5, c6, c7, c8⟩ := hC
  obtain ⟨m1, -, -, m4, m5, m6⟩ := hM
  obtain ⟨p1, p2, p3, p4⟩ := hP
  obtain ⟨n1, n2, n3, n4⟩ := c2.1
  have hsz := p1.1
  obtain ⟨ta, t1, t2, t3, -⟩ := c2.2.1
  obtain ⟨wa, w1, w2, w3, -⟩ := c2.2.2.1
  obtain ⟨la, l1, l2, l3, -⟩ := c2.2.2.2
  obtain ⟨tb, t1', t2', t3', -⟩ := c3.2.1
  obtain ⟨wb, w1', w2', w3', -⟩ := c3.2.2.1
  obtain ⟨lb, l1', l2', l3', -⟩ := c3.2.2.2
  intro K hK
  have hi9 : 0 ≤ V 170 3 ∧ V 170 3 ≤ 1 := by omega
  refine y_Rm (D' := 4) (cc_undo c1 t1' t1 w1' w1 l1' l1 t2' t2 w2' w2 l2' l2 t3' w3' l3' (by omega) (fun g1 => ?_) (fun V' g1 hV => ?_)) (by decide)
  · refine hK _ _ _ _ _ m1 (fun K2 h2 => y_Rm (D' := 1) (ct_undo m1 hi9 ?_ ?_) (by decide))
    all_goals intros
    all_goals first | (exfalso; omega) | exact h2 _ _ _ _ _ hR2 (fun _ => rfl)
  · have hlo : ∀ k, k < 1 ∨ 1 + 57 ≤ k → V' k = V k := hV.2.2.2.2.2.2
    have hC1 := RC_cp (B := 1) (B' := 58) (ρ := V 172) (V1 := V') hC0 (Or.inl ⟨rfl, rfl, rfl⟩) hZ.1 t1' t1 w1' w1 l1' l1 rfl hV (fun _ _ => rfl) (by rw [hlo 0 (by omega)]; exact c8)
    have m1b : MdS (((S.set 3 (22, tb)).set 6 (24, wb)).set 7 (24, lb)) := MdS_v (MdS_v (MdS_v m1 (SV_set 3 _ _) (by decide)) (SV_set 6 _ _) (by decide)) (SV_set 7 _ _) (by decide)
    have g : ∀ k, 115 ≤ k → V' k = V k := fun k hk => hlo k (by omega)
    have hM1 := RM_fr hM0 m1b (fun k a b => g k (by omega))
    have g3 : V' 170 3 = V 0 2 := by rw [g 170 (by decide)]; exact m6
    have e15 : V' 1 5 = V 172 1 := (hV.1 5 rfl).trans c3.1.1.2.2.1
    refine hK _ _ _ _ _ m1b (fun K2 h2 => y_Rm (D' := 1) (ct_undo m1b (by rw [g3]; omega) ?_ ?_) (by decide))
    · intro j1; exfalso; omega
    · intro j1
      have hM2 : RM (((S.set 3 (22, tb)).set 6 (24, wb)).set 7 (24, lb)) (v_ur V' 171 (V' 172)) (V 172) (V 172) tl (V 0 2) := by
        obtain ⟨b1, b2, b3, b4, b5, b6⟩ := hM1
        have e : ∀ k, k ≠ 171 → (v_ur V' 171 (V' 172)) k = V' k := fun k p => v_ur_ne p
        exact ⟨b1, (v_ur_eq _ _ _).trans b3, (e 172 (by decide)).trans b3, fun i hi => MT_x (b4 i (by omega)) (fun k p q => e k (by omega)), by rw [e 170 (by decide)]; exact b5, by rw [e 170 (by decide)]; exact b6⟩
      exact h2 _ _ _ _ _ (RR_mk hC1 hM2 (fun k hk => v_ur_ne (by omega)) (by rw [hlo 0 (by omega)]) ⟨SO_le p2 (Nat.le_succ cnt), SO_le p2 (Nat.le_succ cnt), Int.le_refl _, fun i hi => p4 i (by omega)⟩ (RZ_x (a := 0) (b := 0) hZ (by rw [List.length_set, List.length_set, List.length_set]; omega) (by decide) (by decide))) (fun _ => by rw [g 172 (by decide)]; exact e15.symm)
end
end
section
/-! a packet is put at the end of a state's packets -/
theorem RN_cg {V : v_V} {σ σ' : Nat → Int} (h : RN V 1 σ) (e : ∀ j, j < 1686 → σ' j = σ j) : RN V 1 σ' := by
  obtain ⟨h1, h2, h3, h4⟩ := h
  refine ⟨by rw [e 0 (by decide), e 1 (by decide), e 2 (by decide), e 3 (by decide), e 4 (by decide), e 5 (by decide), e 6 (by decide)]; exact h1, fun i hi => by rw [e _ (by omega)]; exact h2 i hi, fun i hi => by rw [e _ (by omega)]; exact h3 i hi, fun b hb => ?_⟩
  obtain ⟨d1, d2, d3, d4, d5, d6, d7, d8⟩ := h4 b hb
  unfold BxN
  rw [e 1 (by omega), e (170 + b) (by omega), e (178 + b) (by omega), e (186 + b) (by omega), e (872 + b) (by omega)]
  exact ⟨d1, d2, d3, d4, d5, fun t ht => by rw [e _ (by omega)]; exact d6 t ht, fun i hi => by rw [e _ (by omega)]; exact d7 i hi, fun i hi => by rw [e _ (by omega)]; exact d8 i hi⟩
theorem PkA_add {S S' : m_H} {V V' : v_V} {vs : List Value} {N q n c : Nat} {σ σ' : Nat → Int} {t h y o : Int} (hA : PkA S V vs N (n : Int) σ q) (hn : n < N) (hS : SQ c S S') (hc : c < 193) (hV : ∀ k, 193 ≤ k → k < S.length → V' k = V k) (hp : PkS S' V' S.length t h y o) (hl : 193 ≤ S.length) (e : ∀ j, j < q + 4 * n → q ≤ j → σ' j = σ j) (e0 : σ' (q + 4 * n) = t) (e1 : σ' (q + 4 * n + 1) = h) (e2 : σ' (q + 4 * n + 2) = y) (e3 : σ' (q + 4 * n + 3) = o) : PkA S' V' (vs.set n (.ref S.length)) N ((n : Int) + 1) σ' q := by
  obtain ⟨a1, a2, a3⟩ := hA
  refine ⟨by rw [List.length_set]; exact a1, fun v hv => ?_, fun i hi => ?_⟩
  · rcases List.mem_or_eq_of_mem_set hv with h7 | h7
    · exact hS.2 _ _ (a2 v h7)
    · rw [h7]; exact Or.inr ⟨S.length, _, rfl, hp.1⟩
  · by_cases hin : i = n
    · subst hin
      refine ⟨S.length, ?_, hl, ?_⟩
      · rw [m_nth_set, if_pos rfl, m_nth_eq, List.getElem?_eq_getElem (by omega)]
        rfl
      · rw [e0, e1, e2, e3]
        exact hp
    · obtain ⟨pk, b1, b2, b3⟩ := a3 i (by omega)
      refine ⟨pk, by rw [m_nth_set, if_neg hin]; exact b1, b2, ?_⟩
      rw [e _ (by omega) (by omega), e _ (by omega) (by omega), e _ (by omega) (by omega), e _ (by omega) (by omega)]
      have b4 := PkS_r b3 (hV pk b2 (ce_lt b3.1))
      exact ⟨hS.1 _ _ _ (by omega) b4.1, b4.2⟩
/-- the row of numbers with the packet -/
def pkR (σ : Nat → Int) (q si n : Nat) (t h y o : Int) : Nat → Int := v_uf (v_uf (v_uf (v_uf (v_uf σ (q + 4 * n) t) (q + 4 * n + 1) h) (q + 4 * n + 2) y) (q + 4 * n + 3) o) si ((n : Int) + 1)
theorem pkR_ne {σ : Nat → Int} {q si n : Nat} {t h y o : Int} {j : Nat} (h1 : j ≠ si) (h2 : j < q + 4 * n ∨ q + 4 * n + 4 ≤ j) : pkR σ q si n t h y o j = σ j := by
  unfold pkR
  rw [v_uf_ne h1, v_uf_ne (by omega), v_uf_ne (by omega), v_uf_ne (by omega), v_uf_ne (by omega)]
theorem pkR_4 {σ : Nat → Int} {q si n : Nat} {t h y o : Int} (hq : si < q) : pkR σ q si n t h y o (q + 4 * n) = t ∧ pkR σ q si n t h y o (q + 4 * n + 1) = h ∧ pkR σ q si n t h y o (q + 4 * n + 2) = y ∧ pkR σ q si n t h y o (q + 4 * n + 3) = o := by
  unfold pkR
  refine ⟨?_, ?_, ?_, ?_⟩
  · rw [v_uf_ne (by omega), v_uf_ne (by omega), v_uf_ne (by omega), v_uf_ne (by omega), v_uf_eq]
  · rw [v_uf_ne (by omega), v_uf_ne (by omega), v_uf_ne (by omega), v_uf_eq]
  · rw [v_uf_ne (by omega), v_uf_ne (by omega), v_uf_eq]
  · rw [v_uf_ne (by omega), v_uf_eq]
theorem pkR_si {σ : Nat → Int} {q si n : Nat} {t h y o : Int} : pkR σ q si n t h y o si = (n : Int) + 1 := by
  unfold pkR
  rw [v_uf_eq]
theorem SO_pk {cnt : Nat} {σ : Nat → Int} {q si n : Nat} {t h y o : Int} (hs : SO cnt σ) (hc : (q = 1690 ∧ si = 3 ∧ n < 20 ∧ σ 3 = (n : Int)) ∨ (q = 1770 ∧ si = 5 ∧ n < 5 ∧ σ 5 = (n : Int))) (hp : pkO t h y o) : SO cnt (pkR σ q si n t h y o) := by
  have e : ∀ j, j ≠ 3 → j ≠ 5 → j < 1690 → pkR σ q si n t h y o j = σ j := fun j a b c => pkR_ne (by omega) (by omega)
  have h4 := pkR_4 (σ := σ) (q := q) (si := si) (n := n) (t := t) (h := h) (y := y) (o := o) (by omega)
  have hsi := pkR_si (σ := σ) (q := q) (si := si) (n := n) (t := t) (h := h) (y := y) (o := o)
  obtain ⟨a1, a2, a3, a4, a5, a6, a7⟩ := hs
  refine ⟨?_, fun i hi => by rw [e _ (by omega) (by omega) (by omega)]; exact a2 i hi, fun b hb => ?_, fun b hb t ht => by rw [e _ (by omega) (by omega) (by omega), e 1 (by omega) (by omega) (by omega)]; exact a4 b hb t ht, fun i hi => by rw [e _ (by omega) (by omega) (by omega), e 1 (by omega) (by omega) (by omega), e 2 (by omega) (by omega) (by omega)]; exact a5 i hi, fun i hi => ?_, fun i hi => ?_⟩
  · rw [e 0 (by omega) (by omega) (by omega), e 1 (by omega) (by omega) (by omega), e 2 (by omega) (by omega) (by omega), e 4 (by omega) (by omega) (by omega), e 6 (by omega) (by omega) (by omega)]
    rcases hc with ⟨rfl, rfl, c1, c2⟩ | ⟨rfl, rfl, c1, c2⟩
    · rw [hsi, pkR_ne (j := 5) (by decide) (by omega)]
      omega
    · rw [hsi, pkR_ne (j := 3) (by decide) (by omega)]
      omega
  · obtain ⟨c1, c2, c3, c4, c5, c6⟩ := a3 b hb
    rw [e (170 + b) (by omega) (by omega) (by omega), e (178 + b) (by omega) (by omega) (by omega), e (186 + b) (by omega) (by omega) (by omega), e (872 + b) (by omega) (by omega) (by omega), e 1 (by omega) (by omega) (by omega), e 0 (by omega) (by omega) (by omega)]
    refine ⟨c1, c2, c3, c4, fun p hp => ?_, fun p hp => ?_⟩
    · show -2147483648 ≤ pkR σ q si n t h y o (200 + 84 * b + p) ∧ pkR σ q si n t h y o (200 + 84 * b + p) < 2147483648
      rw [e _ (by omega) (by omega) (by omega)]
      exact c5 p hp
    · show -2147483648 ≤ pkR σ q si n t h y o (880 + 84 * b + p) ∧ pkR σ q si n t h y o (880 + 84 * b + p) < 2147483648
      rw [e _ (by omega) (by omega) (by omega)]
      exact c6 p hp
  · rcases hc with ⟨rfl, rfl, c1, c2⟩ | ⟨rfl, rfl, c1, c2⟩
    · rw [hsi] at hi
      by_cases hin : i = n
      · rw [hin, h4.1, h4.2.1, h4.2.2.1, h4.2.2.2]
        exact hp
      · rw [pkR_ne (by omega) (by omega), pkR_ne (by omega) (by omega), pkR_ne (by omega) (by omega), pkR_ne (by omega) (by omega)]
        exact a6 i (by omega)
    · rw [pkR_ne (j := 3) (by decide) (by omega)] at hi
      rw [pkR_ne (by omega) (by omega), pkR_ne (by omega) (by omega), pkR_ne (by omega) (by omega), pkR_ne (by omega) (by omega)]
      exact a6 i hi
  · rcases hc with ⟨rfl, rfl, c1, c2⟩ | ⟨rfl, rfl, c1, c2⟩
    · rw [pkR_ne (j := 5) (by decide) (by omega)] at hi
      rw [pkR_ne (by omega) (by omega), pkR_ne (by omega) (by omega), pkR_ne (by omega) (by omega), pkR_ne (by omega) (by omega)]
      exact a7 i hi
    · rw [hsi] at hi
      by_cases hin : i = n
      · rw [hin, h4.1, h4.2.1, h4.2.2.1, h4.2.2.2]
        exact hp
      · rw [pkR_ne (by omega) (by omega), pkR_ne (by omega) (by omega), pkR_ne (by omega) (by omega), pkR_ne (by omega) (by omega)]
        exact a7 i (by omega)
end
section
/-! pairs of calls: letter, send -/
theorem RS_wait {S : m_H} {V : v_V} {σ : Nat → Int} {tl : Nat → List p_Li} {cnt n : Nat} {t h y o : Int} {vs : List Value} (hR : RS S V 1 σ tl) (hs : SO cnt σ) (hvs : ce S 6 24 vs) (hn : σ 3 = (n : Int)) (hnN : n < 20) (hl : 193 ≤ S.length ∧ S.length + 7 < 1000000) (hp : pkO t h y o) : RS ((S ++ [(2, m_dfl 2)]).set 6 (24, vs.set n (.ref S.length))) (v_up (pkV V S.length t h y o) 1 9 ((n : Int) + 1)) 1 (pkR σ 1690 3 n t h y o) tl := by
  have hvs1 : ce (S ++ [(2, m_dfl 2)]) 6 24 vs := ce_app hvs
  have hS : SQ 6 S ((S ++ [(2, m_dfl 2)]).set 6 (24, vs.set n (.ref S.length))) := SQ_tr (SQ_app 6 S _) (SQ_set hvs1 (by decide))
  have f : ∀ k, k ≠ 1 → k < S.length → v_up (pkV V S.length t h y o) 1 9 ((n : Int) + 1) k = V k := fun k a b => by rw [v_up_ne a, pkV_fr (by omega)]
  have f1 : ∀ i, i ≠ 9 → v_up (pkV V S.length t h y o) 1 9 ((n : Int) + 1) 1 i = V 1 i := fun i hi => by rw [v_up_ni hi, pkV_fr (by omega)]
  have hpk : PkS ((S ++ [(2, m_dfl 2)]).set 6 (24, vs.set n (.ref S.length))) (v_up (pkV V S.length t h y o) 1 9 ((n : Int) + 1)) S.length t h y o := by
    have h0 := pkV_pk (S := S) (V := V) (t := t) (h := h) (y := y) (o := o) (by omega)
    have h1 := PkS_r (V' := v_up (pkV V S.length t h y o) 1 9 ((n : Int) + 1)) h0 (v_up_ne (by omega))
    exact ⟨ce_ne h1.1 (by omega), h1.2⟩
  have h4 := pkR_4 (σ := σ) (q := 1690) (si := 3) (n := n) (t := t) (h := h) (y := y) (o := o) (by decide)
  have hsi := pkR_si (σ := σ) (q := 1690) (si := 3) (n := n) (t := t) (h := h) (y := y) (o := o)
  have hne : ∀ j, j ≠ 3 → (j < 1690 + 4 * n ∨ 1690 + 4 * n + 4 ≤ j) → pkR σ 1690 3 n t h y o j = σ j := fun j a b => pkR_ne a b
  obtain ⟨hN, hT, hW, hA⟩ := hR
  obtain ⟨⟨a1, a2, a3, a4, a5, a6, a7⟩, b1, b2, b3⟩ := hN
  have hN2 : RN (v_up (pkV V S.length t h y o) 1 9 ((n : Int) + 1)) 1 (v_uf σ 3 ((n : Int) + 1)) := by
    refine RN_g ⟨⟨a1, a2, a3, a4, a5, a6, a7⟩, b1, b2, b3⟩ ⟨(f1 1 (by decide)).trans (a1.trans (v_uf_ne (by decide)).symm), (f1 3 (by decide)).trans (a2.trans (v_uf_ne (by decide)).symm), (f1 5 (by decide)).trans (a3.trans (v_uf_ne (by decide)).symm), (f1 7 (by decide)).trans (a4.trans (v_uf_ne (by decide)).symm), by rw [v_up_eq, v_uf_eq], (f1 10 (by decide)).trans (a6.trans (v_uf_ne (by decide)).symm), (f1 12 (by decide)).trans (a7.trans (v_uf_ne (by decide)).symm)⟩ (fun i hi => by rw [f 2 (by decide) (by omega), v_uf_ne (by omega)]; exact b1 i hi) (fun i hi => by rw [f 5 (by decide) (by omega), v_uf_ne (by omega)]; exact b2 i hi) (fun k x y => f k (by omega) (by omega)) (fun j x y => v_uf_ne (by omega)) (v_uf_ne (by decide))
  have hN3 := RN_cg (σ' := pkR σ 1690 3 n t h y o) hN2 (fun j hj => by
    by_cases e : j = 3
    · rw [e, hsi, v_uf_eq]
    · rw [hne j e (by omega), v_uf_ne e])
  refine ⟨hN3, RT_fr hT hS (by decide) (fun i t2 _ ht hx hct => CT_r hct (fun i2 hi2 => f _ (by omega) (by have h6 := ce_lt hx.2.2.2.2.2.2; omega))) (by rw [hne 0 (by decide) (by omega)]; exact Int.le_refl _), ?_, ?_⟩
  · obtain ⟨wa, w1, w2⟩ := hW
    have same : wa = vs := by
      have e := w1.2.symm.trans hvs.2
      simp only [Option.some.injEq, Prod.mk.injEq] at e
      exact e.2
    subst same
    rw [hn] at w2
    refine ⟨_, ce_eq hvs1, ?_⟩
    rw [hsi]
    exact PkA_add w2 hnN hS (by decide) (fun k a b => f k (by omega) b) hpk hl.1 (fun j a b => hne j (by omega) (by omega)) h4.1 h4.2.1 h4.2.2.1 h4.2.2.2
  · exact RA_fr hA hS (by decide) (fun k _ _ _ _ hk hp => f k (by omega) (ce_lt hp.1)) (by rw [hne 5 (by decide) (by omega)]; exact Int.le_refl _) (fun j hj i hi => hne _ (by omega) (by omega))
theorem RS_lett {S : m_H} {V : v_V} {σ : Nat → Int} {tl : Nat → List p_Li} {cnt n : Nat} {t h y o : Int} {vs : List Value} (hR : RS S V 1 σ tl) (hs : SO cnt σ) (hvs : ce S 7 24 vs) (hn : σ 5 = (n : Int)) (hnN : n < 5) (hl : 193 ≤ S.length ∧ S.length + 7 < 1000000) (hp : pkO t h y o) : RS ((S ++ [(2, m_dfl 2)]).set 7 (24, vs.set n (.ref S.length))) (v_up (pkV V S.length t h y o) 1 12 ((n : Int) + 1)) 1 (pkR σ 1770 5 n t h y o) tl := by
  have hvs1 : ce (S ++ [(2, m_dfl 2)]) 7 24 vs := ce_app hvs
  have hS : SQ 7 S ((S ++ [(2, m_dfl 2)]).set 7 (24, vs.set n (.ref S.length))) := SQ_tr (SQ_app 7 S _) (SQ_set hvs1 (by decide))
  have f : ∀ k, k ≠ 1 → k < S.length → v_up (pkV V S.length t h y o) 1 12 ((n : Int) + 1) k = V k := fun k a b => by rw [v_up_ne a, pkV_fr (by omega)]
  have f1 : ∀ i, i ≠ 12 → v_up (pkV V S.length t h y o) 1 12 ((n : Int) + 1) 1 i = V 1 i := fun i hi => by rw [v_up_ni hi, pkV_fr (by omega)]
  have hpk : PkS ((S ++ [(2, m_dfl 2)]).set 7 (24, vs.set n (.ref S.length))) (v_up (pkV V S.length t h y o) 1 12 ((n : Int) + 1)) S.length t h y o := by
    have h0 := pkV_pk (S := S) (V := V) (t := t) (h := h) (y := y) (o := o) (by omega)
    have h1 := PkS_r (V' := v_up (pkV V S.length t h y o) 1 12 ((n : Int) + 1)) h0 (v_up_ne (by omega))
    exact ⟨ce_ne h1.1 (by omega), h1.2⟩
  have h4 := pkR_4 (σ := σ) (q := 1770) (si := 5) (n := n) (t := t) (h := h) (y := y) (o := o) (by decide)
  have hsi := pkR_si (σ := σ) (q := 1770) (si := 5) (n := n) (t := t) (h := h) (y := y) (o := o)
  have hne : ∀ j, j ≠ 5 → (j < 1770 + 4 * n ∨ 1770 + 4 * n + 4 ≤ j) → pkR σ 1770 5 n t h y o j = σ j := fun j a b => pkR_ne a b
  obtain ⟨hN, hT, hW, hA⟩ := hR
  obtain ⟨⟨a1, a2, a3, a4, a5, a6, a7⟩, b1, b2, b3⟩ := hN
  have hN2 : RN (v_up (pkV V S.length t h y o) 1 12 ((n : Int) + 1)) 1 (v_uf σ 5 ((n : Int) + 1)) := by
    refine RN_g ⟨⟨a1, a2, a3, a4, a5, a6, a7⟩, b1, b2, b3⟩ ⟨(f1 1 (by decide)).trans (a1.trans (v_uf_ne (by decide)).symm), (f1 3 (by decide)).trans (a2.trans (v_uf_ne (by decide)).symm), (f1 5 (by decide)).trans (a3.trans (v_uf_ne (by decide)).symm), (f1 7 (by decide)).trans (a4.trans (v_uf_ne (by decide)).symm), (f1 9 (by decide)).trans (a5.trans (v_uf_ne (by decide)).symm), (f1 10 (by decide)).trans (a6.trans (v_uf_ne (by decide)).symm), by rw [v_up_eq, v_uf_eq]⟩ (fun i hi => by rw [f 2 (by decide) (by omega), v_uf_ne (by omega)]; exact b1 i hi) (fun i hi => by rw [f 5 (by decide) (by omega), v_uf_ne (by omega)]; exact b2 i hi) (fun k x y => f k (by omega) (by omega)) (fun j x y => v_uf_ne (by omega)) (v_uf_ne (by decide))
  have hN3 := RN_cg (σ' := pkR σ 1770 5 n t h y o) hN2 (fun j hj => by
    by_cases e : j = 5
    · rw [e, hsi, v_uf_eq]
    · rw [hne j e (by omega), v_uf_ne e])
  refine ⟨hN3, RT_fr hT hS (by decide) (fun i t2 _ ht hx hct => CT_r hct (fun i2 hi2 => f _ (by omega) (by have h6 := ce_lt hx.2.2.2.2.2.2; omega))) (by rw [hne 0 (by decide) (by omega)]; exact Int.le_refl _), ?_, ?_⟩
  · exact RW_fr hW hS (by decide) (fun k _ _ _ _ hk hp => f k (by omega) (ce_lt hp.1)) (by rw [hne 3 (by decide) (by omega)]; exact Int.le_refl _) (fun j hj i hi => hne _ (by omega) (by have := hs.1.2.2.2.1.2; omega))
  · obtain ⟨wa, w1, w2⟩ := hA
    have same : wa = vs := by
      have e := w1.2.symm.trans hvs.2
      simp only [Option.some.injEq, Prod.mk.injEq] at e
      exact e.2
    subst same
    rw [hn] at w2
    refine ⟨_, ce_eq hvs1, ?_⟩
    rw [hsi]
    exact PkA_add w2 hnN hS (by decide) (fun k a b => f k (by omega) b) hpk hl.1 (fun j a b => hne j (by omega) (by omega)) h4.1 h4.2.1 h4.2.2.1 h4.2.2.2
/-- class, then reference: a packet more -/
theorem RR_pk {cnt u w : Nat} {S : m_H} {V V2 : v_V} {tl : Nat → List p_Li} {q si fi c n : Nat} {t h y o : Int} {vs : List Value} (hC : RC S V (V 171) (V 172) tl) (hM : RM S V (V 171) (V 172) tl (V 0 2)) (hP : RP cnt (V 171) (V 172) tl) (hZ : RZ cnt u w S) (hc : c = 6 ∨ c = 7) (hq : (q = 1690 ∧ si = 3 ∧ n < 20 ∧ V 171 3 = (n : Int)) ∨ (q = 1770 ∧ si = 5 ∧ n < 5 ∧ V 171 5 = (n : Int))) (hvs : ce S c 24 vs) (hp : pkO t h y o) (hl : S.length < 1000000)
    (hR : RS ((S ++ [(2, m_dfl 2)]).set c (24, vs.set n (.ref S.length))) (v_up (pkV V S.length t h y o) 1 fi ((n : Int) + 1)) 1 (pkR (V 171) q si n t h y o) tl) (g1 : V2 171 = pkR (V 171) q si n t h y o) (g2 : ∀ k, k ≠ 171 → V2 k = v_up (pkV V S.length t h y o) 1 fi ((n : Int) + 1) k) : RR (cnt + 1) (u + 1) (w + 4) ((S ++ [(2, m_dfl 2)]).set c (24, vs.set n (.ref S.length))) V2 := by
  have f : ∀ k, k ≠ 1 → k < S.length → v_up (pkV V S.length t h y o) 1 fi ((n : Int) + 1) k = V k := fun k a b => by rw [v_up_ne a, pkV_fr (by omega)]
  have hpk1 : ce (S ++ [(2, m_dfl 2)]) S.length 2 [.int 0, .int 0, .int 0, .int 0] := (pkV_pk (V := V) (t := t) (h := h) (y := y) (o := o) hl).1
  have hS : SQ c S ((S ++ [(2, m_dfl 2)]).set c (24, vs.set n (.ref S.length))) := SQ_tr (SQ_app c S _) (SQ_set (ce_app hvs) (by decide))
  have hV : SV c S ((S ++ [(2, m_dfl 2)]).set c (24, vs.set n (.ref S.length))) := SV_tr (SV_app c S _) (SV_set c _ _)
  have h0 : pkR (V 171) q si n t h y o 0 = V 171 0 := pkR_ne (by omega) (by omega)
  have hZ1 := hZ.1
  have hC1 := RC_x hC hZ.1 hS hV hc hR h0 (fun k hk => f k (by omega) (by omega))
  have hM1 := RM_fr hM (MdS_v hM.1 hV (by omega)) (fun k a b => f k (by omega) (by omega))
  have hM2 := RM_x hM1 g1 h0 (fun k a b => g2 k (by omega)) ⟨by rw [g2 170 (by decide)], by rw [g2 170 (by decide)]⟩
  exact RR_mk hC1 hM2 (fun k hk => g2 k (by omega)) (congrFun (f 0 (by decide) (by omega)) 2) (RP_x hP (SO_le (SO_pk hP.1 hq hp) (Nat.le_succ cnt)) h0) (RZ_x hZ (by rw [List.length_set, List.length_append]; show S.length ≤ S.length + 1 ∧ S.length + 1 ≤ S.length + 12; omega) (by decide) (by decide))
section
variable {X : Nat → List Int32} {u w cnt : Nat} {S : m_H} {V : v_V}
set_option maxRecDepth 100000 in
set_option maxHeartbeats 4000000 in
theorem pr_letter (hR : RR cnt u w S V) (hcn : cnt < 70) {t : Int} (ht1 : (-2147483648 ≤ t ∧ t < 2147483648)) {h : Int} (hh1 : (-2147483648 ≤ h ∧ h < 2147483648)) {y : Int} (hy1 : (-2147483648 ≤ y ∧ y < 2147483648)) {o : Int} (ho1 : (-2147483648 ≤ o ∧ o < 2147483648)) : PR X True 87 153 [.ref 0, iv t, iv h, iv y, iv o] [.ref 170, iv t, iv h, iv y, iv o] cnt u w S V := by
  have hR2 := RR_le hR (Nat.le_succ cnt)
  obtain ⟨tl, hC, hM, hP, hZ⟩ := hR
  have hC0 := hC
  have hM0 := hM
  have hP0 := hP
  obtain ⟨c1, c2, c3, c4, c5, c6, c7, c8⟩ := hC
  obtain ⟨m1, -, -, m4, m5, m6⟩ := hM
  obtain ⟨p1, p2, p3, p4⟩ := hP
  obtain ⟨n1, n2, n3, n4⟩ := c2.1
  have hsz := p1.1
  have hsl : S.length ≤ 193 + 12 * cnt ∧ 193 ≤ S.length := ⟨hZ.2.1, hZ.1⟩
  obtain ⟨la, l1, l2, l3, -⟩ := c2.2.2.2
  obtain ⟨n, hn⟩ : ∃ n : Nat, V 171 5 = (n : Int) := ⟨(V 171 5).toNat, by omega⟩
  have hn5 : n ≤ 5 := by omega
  have hv12 : V 1 12 = (n : Int) := n1.2.2.2.2.2.2.trans hn
  have hrf : z_rf t h y o = if (0 ≤ t ∧ t ≤ 15) ∧ (0 ≤ h ∧ h ≤ 3) ∧ (0 ≤ y ∧ y ≤ 3) then (if 0 ≤ o ∧ o ≤ 99 then 0 else -2) else -1 := by
    unfold z_rf
    by_cases hA : (0 ≤ t ∧ t ≤ 15) ∧ (0 ≤ h ∧ h ≤ 3) ∧ (0 ≤ y ∧ y ≤ 3)
    · rw [if_pos hA, if_pos (show (0 ≤ t ∧ t < 16) ∧ (0 ≤ h ∧ h < 4) ∧ (0 ≤ y ∧ y < 4) by omega)]
    · rw [if_neg hA, if_neg (show ¬ ((0 ≤ t ∧ t < 16) ∧ (0 ≤ h ∧ h < 4) ∧ (0 ≤ y ∧ y < 4)) by omega)]
  intro K hK
  refine y_Rm (D' := 3) (cs_letter c1 (by omega) l1 l2 ⟨hv12, hn5⟩ ht1 hh1 hy1 ho1 (fun g1 g2 => ?_) (fun g1 g2 => ?_) (fun g1 => ?_)) (by decide)
  · have hp := rf_pkO g1
    have hp2 := hp
    obtain ⟨p8, p9, q8, q9⟩ := hp2
    have hV : SV 7 S ((S ++ [(2, m_dfl 2)]).set 7 (24, la.set n (.ref S.length))) := SV_tr (SV_app 7 S _) (SV_set 7 _ _)
    have f171 : (v_up (pkV V S.length t h y o) 1 12 ((n : Int) + 1)) 171 = V 171 := by rw [v_up_ne (by decide), pkV_fr (by omega)]
    have m1b := MdS_v m1 hV (by decide)
    refine hK _ _ _ _ _ m1b (fun K2 h2 => y_Rm (D' := 4) (ms_letter (V := v_up (pkV V S.length t h y o) 1 12 ((n : Int) + 1)) m1b (by rw [f171]; exact ⟨hn, hn5⟩) ht1 hh1 hy1 ho1 ?_ ?_ ?_ ?_) (by decide))
    · intro j1 j2 j3
      exact h2 _ _ _ _ _ (RR_pk (q := 1770) (si := 5) hC0 hM0 hP0 hZ (Or.inr rfl) (Or.inr ⟨rfl, rfl, by omega, hn⟩) l1 hp (by omega) (RS_lett c2 p1 l1 hn (by omega) (by omega) hp) (by unfold pkR; rw [v_upR, v_upR, v_upR, v_upR, v_upR, f171]) (fun k hk => by rw [v_up_ne hk, v_up_ne hk, v_up_ne hk, v_up_ne hk, v_up_ne hk])) (fun _ => rfl)
    all_goals intros; exfalso; omega
  · have hp := rf_pkO g1
    obtain ⟨p8, p9, q8, q9⟩ := hp
    refine hK _ _ _ _ _ m1 (fun K2 h2 => y_Rm (D' := 4) (ms_letter m1 ⟨hn, hn5⟩ ht1 hh1 hy1 ho1 ?_ ?_ ?_ ?_) (by decide))
    all_goals intros
    all_goals first | (exfalso; omega) | exact h2 _ _ _ _ _ hR2 (fun _ => rfl)
  · refine hK _ _ _ _ _ m1 (fun K2 h2 => y_Rm (D' := 4) (ms_letter m1 ⟨hn, hn5⟩ ht1 hh1 hy1 ho1 ?_ ?_ ?_ ?_) (by decide))
    · intro j1 j2 j3
      rw [if_pos j1, if_pos j2] at hrf
      exact absurd hrf g1
    · intro j1 j2 j3
      rw [if_pos j1, if_pos j2] at hrf
      exact absurd hrf g1
    · intro j1 j2
      rw [if_pos j1, if_neg j2] at hrf
      exact h2 _ _ _ _ _ hR2 (fun _ => hrf.symm)
    · intro j1
      rw [if_neg j1] at hrf
      exact h2 _ _ _ _ _ hR2 (fun _ => hrf.symm)
set_option maxRecDepth 100000 in
set_option maxHeartbeats 4000000 in
theorem pr_send (hR : RR cnt u w S V) (hcn : cnt < 70) {t : Int} (ht1 : (-2147483648 ≤ t ∧ t < 2147483648)) {h : Int} (hh1 : (-2147483648 ≤ h ∧ h < 2147483648)) {y : Int} (hy1 : (-2147483648 ≤ y ∧ y < 2147483648)) {o : Int} (ho1 : (-2147483648 ≤ o ∧ o < 2147483648)) : PR X True 79 144 [.ref 0, iv t, iv h, iv y, iv o] [.ref 170, iv t, iv h, iv y, iv o] cnt u w S V := by
  have hR2 := RR_le hR (Nat.le_succ cnt)
  obtain ⟨tl, hC, hM, hP, hZ⟩ := hR
  have hC0 := hC
  have hM0 := hM
  have hP0 := hP
  obtain ⟨c1, c2, c3, c4, c5, c6, c7, c8⟩ := hC
  obtain ⟨m1, -, -, m4, m5, m6⟩ := hM
  obtain ⟨p1, p2, p3, p4⟩ := hP
  obtain ⟨n1, n2, n3, n4⟩ := c2.1
  have hsz := p1.1
  have hsl : S.length ≤ 193 + 12 * cnt ∧ 193 ≤ S.length := ⟨hZ.2.1, hZ.1⟩
  obtain ⟨wa, w1, w2, w3, -⟩ := c2.2.2.1
  obtain ⟨n, hn⟩ : ∃ n : Nat, V 171 3 = (n : Int) := ⟨(V 171 3).toNat, by omega⟩
  have hv9 : V 1 9 = (n : Int) := n1.2.2.2.2.1.trans hn
  have e7 : V 1 7 = V 171 2 := n1.2.2.2.1
  have e10 : V 1 10 = V 171 4 := n1.2.2.2.2.2.1
  intro K hK
  refine y_Rm (D' := 8) (cs_send c1 (by omega) c2 p1 p4 ht1 hh1 hy1 ho1 hv9 w1 w2 (fun g1 => ?_) (fun g1 g2 => ?_) (fun g1 g2 g3 g4 => ?_) (fun g1 g2 g3 g4 => ?_) (fun g1 g2 g3 V1 hRS1 hF1 => ?_)) (by decide)
  · try rw [e10] at g3
    try rw [e7] at g2
    all_goals refine hK _ _ _ _ _ m1 (fun K2 h2 => y_Rm (D' := 9) (ms_send m1 p1 p4 m4 ht1 hh1 hy1 ho1 hn ?_ ?_ ?_ ?_ ?_) (by decide))
    all_goals intros
    all_goals first | contradiction | (exfalso; omega) | exact h2 _ _ _ _ _ hR2 (fun _ => by rfl)
  · try rw [e10] at g3
    try rw [e7] at g2
    all_goals refine hK _ _ _ _ _ m1 (fun K2 h2 => y_Rm (D' := 9) (ms_send m1 p1 p4 m4 ht1 hh1 hy1 ho1 hn ?_ ?_ ?_ ?_ ?_) (by decide))
    all_goals intros
    all_goals first | contradiction | (exfalso; omega) | exact h2 _ _ _ _ _ hR2 (fun _ => by rfl)
  · try rw [e10] at g3
    try rw [e7] at g2
    all_goals refine hK _ _ _ _ _ m1 (fun K2 h2 => y_Rm (D' := 9) (ms_send m1 p1 p4 m4 ht1 hh1 hy1 ho1 hn ?_ ?_ ?_ ?_ ?_) (by decide))
    all_goals intros
    all_goals first | contradiction | (exfalso; omega) | exact h2 _ _ _ _ _ hR2 (fun _ => by rfl)
  · rw [e10] at g3
    rw [e7] at g2
    have hp := rf_pkO g1
    have hV : SV 6 S ((S ++ [(2, m_dfl 2)]).set 6 (24, wa.set n (.ref S.length))) := SV_tr (SV_app 6 S _) (SV_set 6 _ _)
    have f171 : (v_up (pkV V S.length t h y o) 1 9 ((n : Int) + 1)) 171 = V 171 := by rw [v_up_ne (by decide), pkV_fr (by omega)]
    have fM : ∀ k, 170 ≤ k → k ≤ 192 → (v_up (pkV V S.length t h y o) 1 9 ((n : Int) + 1)) k = V k := fun k a b => by rw [v_up_ne (by omega), pkV_fr (by omega)]
    have m1b := MdS_v m1 hV (by decide)
    refine hK _ _ _ _ _ m1b (fun K2 h2 => y_Rm (D' := 9) (ms_send (V := v_up (pkV V S.length t h y o) 1 9 ((n : Int) + 1)) m1b (by rw [f171]; exact p1) (by rw [f171]; exact p4) (by rw [f171]; exact fun i hi => MT_x (m4 i hi) (fun k a b => fM k (by omega) (by omega))) ht1 hh1 hy1 ho1 (by rw [f171]; exact hn) ?_ ?_ ?_ ?_ ?_) (by decide))
    all_goals try rw [f171]
    · intros; contradiction
    · intros; contradiction
    · intros; exfalso; omega
    · intros
      exact h2 _ _ _ _ _ (RR_pk (q := 1690) (si := 3) hC0 hM0 hP0 hZ (Or.inl rfl) (Or.inl ⟨rfl, rfl, by omega, hn⟩) w1 hp (by omega) (RS_wait c2 p1 w1 hn (by omega) (by omega) hp) (by unfold pkR; rw [v_upR, v_upR, v_upR, v_upR, v_upR, f171]) (fun k hk => by rw [v_up_ne hk, v_up_ne hk, v_up_ne hk, v_up_ne hk, v_up_ne hk])) (fun _ => rfl)
    · intros; exfalso; omega
  · rw [e10] at g3
    rw [e7] at g2
    have hp := rf_pkO g1
    have hV1 : SV 6 S (S ++ [(2, m_dfl 2)]) := SV_app _ _ _
    have m1b := MdS_v m1 hV1 (by decide)
    have e171 : V1 171 = V 171 := hF1 171 (by omega) (fun b hb => by omega)
    have hs1 := sgS_SO (cnt := cnt) (tl := tl) (h := h) (k := y) (n := o) hp.1 (V 171 2).toNat 0 (V 171) p1 p4 (by omega)
    have hz0 := hs1.2.1 0 (by omega)
    have hC1 := RC_x hC0 hZ.1 (SQ_app 6 S _) hV1 (Or.inl rfl) hRS1 hz0 (fun k hk => hF1 k (by omega) (fun b hb => by omega))
    have hM1 := RM_fr hM0 m1b (fun k a b => hF1 k (by omega) (fun b hb => by omega))
    refine hK _ _ _ _ V1 m1b (fun K2 h2 => y_Rm (D' := 9) (ms_send m1b (by rw [e171]; exact p1) (by rw [e171]; exact p4) (by rw [e171]; exact hM1.2.2.2.1) ht1 hh1 hy1 ho1 (by rw [e171]; exact hn) ?_ ?_ ?_ ?_ ?_) (by decide))
    all_goals try rw [e171]
    · intros; contradiction
    · intros; contradiction
    · intros; exfalso; omega
    · intros; exfalso; omega
    · intro j1 j2 j3 V2 a1 a2
      have hM2 := RM_x hM1 a1 hz0 (fun k a b => a2.1 k (by omega) (by omega) (by omega)) ⟨a2.2 40 (by omega), a2.2 3 (by omega)⟩
      exact h2 _ _ _ _ _ (RR_mk hC1 hM2 (fun k hk => a2.1 k (by omega) (by omega) (by omega)) (congrFun (hF1 0 (by omega) (fun b hb => by omega)) 2) (RP_x hP0 (SO_le hs1.1 (Nat.le_succ cnt)) hz0) (RZ_x hZ (by rw [List.length_append]; show S.length ≤ S.length + 1 ∧ S.length + 1 ≤ S.length + 12; omega) (by decide) (by decide))) (fun _ => rfl)
end
end
section
/-! pairs of calls: box -/
/-- the row of numbers with a BOX more -/
def bxR (σ : Nat → Int) (n : Nat) (y x : Int) : Nat → Int := v_uf (z_fl (z_fl (z_fl (v_uf (v_uf (v_uf (v_uf σ (170 + n) y) (178 + n) x) (186 + n) (-5)) (872 + n) 0) (200 + 84 * n) 84 0) (880 + 84 * n) 84 0) (1552 + 16 * n) 16 n) 1 ((n : Int) + 1)
theorem bxR_ne {σ : Nat → Int} {n : Nat} {y x : Int} {j : Nat} (h : j ≠ 170 + n ∧ j ≠ 178 + n ∧ j ≠ 186 + n ∧ j ≠ 872 + n ∧ j ≠ 1) (h2 : ¬ (200 + 84 * n ≤ j ∧ j < 200 + 84 * n + 84) ∧ ¬ (880 + 84 * n ≤ j ∧ j < 880 + 84 * n + 84) ∧ ¬ (1552 + 16 * n ≤ j ∧ j < 1552 + 16 * n + 16)) : bxR σ n y x j = σ j := by
  unfold bxR z_fl
  rw [v_uf_ne h.2.2.2.2, if_neg h2.2.2, if_neg h2.2.1, if_neg h2.1, v_uf_ne h.2.2.2.1, v_uf_ne h.2.2.1, v_uf_ne h.2.1, v_uf_ne h.1]
theorem bxR_at {σ : Nat → Int} {n : Nat} {y x : Int} (hn : n < 8) : bxR σ n y x 1 = (n : Int) + 1 ∧ bxR σ n y x (170 + n) = y ∧ bxR σ n y x (178 + n) = x ∧ bxR σ n y x (186 + n) = -5 ∧ bxR σ n y x (872 + n) = 0 ∧ (∀ t, t < 16 → bxR σ n y x (1552 + 16 * n + t) = n) ∧ (∀ p, p < 84 → bxR σ n y x (200 + 84 * n + p) = 0) ∧ (∀ p, p < 84 → bxR σ n y x (880 + 84 * n + p) = 0) := by
  unfold bxR z_fl
  refine ⟨v_uf_eq _ _ _, ?_, ?_, ?_, ?_, fun t ht => ?_, fun p hp => ?_, fun p hp => ?_⟩
  · rw [v_uf_ne (by omega), if_neg (by omega), if_neg (by omega), if_neg (by omega), v_uf_ne (by omega), v_uf_ne (by omega), v_uf_ne (by omega), v_uf_eq]
  · rw [v_uf_ne (by omega), if_neg (by omega), if_neg (by omega), if_neg (by omega), v_uf_ne (by omega), v_uf_ne (by omega), v_uf_eq]
  · rw [v_uf_ne (by omega), if_neg (by omega), if_neg (by omega), if_neg (by omega), v_uf_ne (by omega), v_uf_eq]
  · rw [v_uf_ne (by omega), if_neg (by omega), if_neg (by omega), if_neg (by omega), v_uf_eq]
  · rw [v_uf_ne (by omega), if_pos (by omega)]
  · rw [v_uf_ne (by omega), if_neg (by omega), if_neg (by omega), if_pos (by omega)]
  · rw [v_uf_ne (by omega), if_neg (by omega), if_pos (by omega)]
abbrev bxV (V : v_V) (n : Nat) (y x : Int) : v_V := v_up (v_ur (v_ur (v_ur (v_up (v_up (v_up (v_up (v_up V (10 + 6 * n) 0 (n : Int)) (10 + 6 * n) 1 y) (10 + 6 * n) 2 x) (10 + 6 * n) 3 (-5)) (10 + 6 * n) 4 0) (10 + 6 * n + 1) (fun _ => (n : Int))) (10 + 6 * n + 3) (fun _ => 0)) (10 + 6 * n + 5) (fun _ => 0)) 1 5 ((n : Int) + 1)
theorem bxV_ne {V : v_V} {n : Nat} {y x : Int} {k : Nat} (h1 : k ≠ 1) (h : k ≠ 10 + 6 * n ∧ k ≠ 10 + 6 * n + 1 ∧ k ≠ 10 + 6 * n + 3 ∧ k ≠ 10 + 6 * n + 5) : bxV V n y x k = V k := by
  unfold bxV
  rw [v_up_ne h1, v_ur_ne h.2.2.2, v_ur_ne h.2.2.1, v_ur_ne h.2.1, v_up_ne h.1, v_up_ne h.1, v_up_ne h.1, v_up_ne h.1, v_up_ne h.1]
theorem bxV_1 {V : v_V} {n : Nat} {y x : Int} {i : Nat} (hi : i ≠ 5) : bxV V n y x 1 i = V 1 i := by
  unfold bxV
  rw [v_up_ni hi, v_ur_ne (by omega), v_ur_ne (by omega), v_ur_ne (by omega), v_up_ne (by omega), v_up_ne (by omega), v_up_ne (by omega), v_up_ne (by omega), v_up_ne (by omega)]
theorem bxV_at {V : v_V} {n : Nat} {y x : Int} : bxV V n y x (10 + 6 * n) 0 = n ∧ bxV V n y x (10 + 6 * n) 1 = y ∧ bxV V n y x (10 + 6 * n) 2 = x ∧ bxV V n y x (10 + 6 * n) 3 = -5 ∧ bxV V n y x (10 + 6 * n) 4 = 0 ∧ (∀ t, bxV V n y x (10 + 6 * n + 1) t = n) ∧ (∀ t, bxV V n y x (10 + 6 * n + 3) t = 0) ∧ (∀ t, bxV V n y x (10 + 6 * n + 5) t = 0) := by
  unfold bxV
  refine ⟨?_, ?_, ?_, ?_, ?_, fun t => ?_, fun t => ?_, fun t => ?_⟩
  · rw [v_up_ne (by omega), v_ur_ne (by omega), v_ur_ne (by omega), v_ur_ne (by omega), v_up_ni (by decide), v_up_ni (by decide), v_up_ni (by decide), v_up_ni (by decide), v_up_eq]
  · rw [v_up_ne (by omega), v_ur_ne (by omega), v_ur_ne (by omega), v_ur_ne (by omega), v_up_ni (by decide), v_up_ni (by decide), v_up_ni (by decide), v_up_eq]
  · rw [v_up_ne (by omega), v_ur_ne (by omega), v_ur_ne (by omega), v_ur_ne (by omega), v_up_ni (by decide), v_up_ni (by decide), v_up_eq]
  · rw [v_up_ne (by omega), v_ur_ne (by omega), v_ur_ne (by omega), v_ur_ne (by omega), v_up_ni (by decide), v_up_eq]
  · rw [v_up_ne (by omega), v_ur_ne (by omega), v_ur_ne (by omega), v_ur_ne (by omega), v_up_eq]
  · rw [v_up_ne (by omega), v_ur_ne (by omega), v_ur_ne (by omega), v_ur_eq]
  · rw [v_up_ne (by omega), v_ur_ne (by omega), v_ur_eq]
  · rw [v_up_ne (by omega), v_ur_eq]
theorem bx_RN {V : v_V} {σ : Nat → Int} {n : Nat} {y x : Int} (h : RN V 1 σ) (hn : n < 8) (h1 : σ 1 = (n : Int)) : RN (bxV V n y x) 1 (bxR σ n y x) := by
  obtain ⟨⟨a1, a2, a3, a4, a5, a6, a7⟩, h2, h3, h4⟩ := h
  have f : ∀ i, i ≠ 5 → bxV V n y x 1 i = V 1 i := fun i hi => bxV_1 hi
  have g : ∀ j, j < 10 → j ≠ 1 → bxR σ n y x j = σ j := fun j a b => bxR_ne ⟨by omega, by omega, by omega, by omega, b⟩ ⟨by omega, by omega, by omega⟩
  have at1 := bxR_at (σ := σ) (y := y) (x := x) hn
  have at2 := bxV_at (V := V) (n := n) (y := y) (x := x)
  refine RN_b ⟨⟨a1, a2, a3, a4, a5, a6, a7⟩, h2, h3, h4⟩ ⟨?_, ?_, ?_, ?_, ?_, ?_, ?_⟩ (fun k hk => bxV_ne (by omega) ⟨by omega, by omega, by omega, by omega⟩) (fun j hj => bxR_ne ⟨by omega, by omega, by omega, by omega, by omega⟩ ⟨by omega, by omega, by omega⟩) (fun b hb => ?_)
  · rw [f 1 (by decide), g 6 (by decide) (by decide)]; exact a1
  · rw [f 3 (by decide), g 0 (by decide) (by decide)]; exact a2
  · rw [at1.1]; exact v_up_eq _ _ _ _
  · rw [f 7 (by decide), g 2 (by decide) (by decide)]; exact a4
  · rw [f 9 (by decide), g 3 (by decide) (by decide)]; exact a5
  · rw [f 10 (by decide), g 4 (by decide) (by decide)]; exact a6
  · rw [f 12 (by decide), g 5 (by decide) (by decide)]; exact a7
  · by_cases e : b = n
    · subst e
      unfold BxN
      rw [at1.2.1, at1.2.2.1, at1.2.2.2.1, at1.2.2.2.2.1]
      exact ⟨fun _ => at2.1, at2.2.1, at2.2.2.1, at2.2.2.2.1, at2.2.2.2.2.1, fun t ht => by rw [at1.2.2.2.2.2.1 t ht]; exact at2.2.2.2.2.2.1 t, fun p hp => by rw [at1.2.2.2.2.2.2.1 p hp]; exact at2.2.2.2.2.2.2.1 p, fun p hp => by rw [at1.2.2.2.2.2.2.2 p hp]; exact at2.2.2.2.2.2.2.2 p⟩
    · obtain ⟨d1, d2, d3, d4, d5, d6, d7, d8⟩ := h4 b hb
      have k : ∀ d, d ≤ 5 → bxV V n y x (10 + 6 * b + d) = V (10 + 6 * b + d) := fun d hd => bxV_ne (by omega) ⟨by omega, by omega, by omega, by omega⟩
      have k0 := k 0 (by decide)
      rw [Nat.add_zero] at k0
      have r : ∀ j, (∃ q, q < 8 ∧ q ≠ n ∧ ((j = 170 + q ∨ j = 178 + q ∨ j = 186 + q ∨ j = 872 + q) ∨ (∃ p, p < 84 ∧ (j = 200 + 84 * q + p ∨ j = 880 + 84 * q + p)) ∨ ∃ t, t < 16 ∧ j = 1552 + 16 * q + t)) → bxR σ n y x j = σ j := by
        rintro j ⟨q, q1, q2, q3 | ⟨p, p1, p2⟩ | ⟨t, t1, t2⟩⟩
        all_goals exact bxR_ne ⟨by omega, by omega, by omega, by omega, by omega⟩ ⟨by omega, by omega, by omega⟩
      unfold BxN
      rw [k0, k 1 (by decide), k 3 (by decide), k 5 (by decide), at1.1, r _ ⟨b, hb, e, Or.inl (Or.inl rfl)⟩, r _ ⟨b, hb, e, Or.inl (Or.inr (Or.inl rfl))⟩, r _ ⟨b, hb, e, Or.inl (Or.inr (Or.inr (Or.inl rfl)))⟩, r _ ⟨b, hb, e, Or.inl (Or.inr (Or.inr (Or.inr rfl)))⟩]
      exact ⟨fun hq => d1 (by omega), d2, d3, d4, d5, fun t ht => by rw [r _ ⟨b, hb, e, Or.inr (Or.inr ⟨t, ht, rfl⟩)⟩]; exact d6 t ht, fun p hp => by rw [r _ ⟨b, hb, e, Or.inr (Or.inl ⟨p, hp, Or.inl rfl⟩)⟩]; exact d7 p hp, fun p hp => by rw [r _ ⟨b, hb, e, Or.inr (Or.inl ⟨p, hp, Or.inr rfl⟩)⟩]; exact d8 p hp⟩
theorem bx_SO {cnt : Nat} {σ : Nat → Int} {n : Nat} {y x : Int} (h : SO cnt σ) (hn : n < 8) (h1 : σ 1 = (n : Int)) (hy : 0 ≤ y ∧ y ≤ 6) (hx : 0 ≤ x ∧ x < σ 0) : SO cnt (bxR σ n y x) := by
  have g : ∀ j, j < 10 → j ≠ 1 → bxR σ n y x j = σ j := fun j a b => bxR_ne ⟨by omega, by omega, by omega, by omega, b⟩ ⟨by omega, by omega, by omega⟩
  have at1 := bxR_at (σ := σ) (y := y) (x := x) hn
  have hsz := h.1
  refine SO_b h ?_ (fun j hj => bxR_ne ⟨by omega, by omega, by omega, by omega, by omega⟩ ⟨by omega, by omega, by omega⟩) (by rw [at1.1]; omega) (g 2 (by decide) (by decide)) (g 3 (by decide) (by decide)) (g 5 (by decide) (by decide)) (fun b hb => ?_) (fun b hb t ht => ?_)
  · unfold O7
    rw [g 0 (by decide) (by decide), at1.1, g 2 (by decide) (by decide), g 3 (by decide) (by decide), g 4 (by decide) (by decide), g 5 (by decide) (by decide), g 6 (by decide) (by decide)]
    omega
  · by_cases e : b = n
    · subst e
      unfold Ob
      rw [at1.2.1, at1.2.2.1, at1.2.2.2.1, at1.2.2.2.2.1, g 0 (by decide) (by decide), at1.1]
      refine ⟨by omega, by omega, by omega, by omega, fun p hp => ?_, fun p hp => ?_⟩
      · show -2147483648 ≤ bxR σ b y x (200 + 84 * b + p) ∧ bxR σ b y x (200 + 84 * b + p) < 2147483648
        rw [at1.2.2.2.2.2.2.1 p hp]; decide
      · show -2147483648 ≤ bxR σ b y x (880 + 84 * b + p) ∧ bxR σ b y x (880 + 84 * b + p) < 2147483648
        rw [at1.2.2.2.2.2.2.2 p hp]; decide
    · obtain ⟨o1, o2, o3, o4, o5, o6⟩ := h.2.2.1 b hb
      have r : ∀ j, (j = 170 + b ∨ j = 178 + b ∨ j = 186 + b ∨ j = 872 + b) → bxR σ n y x j = σ j := fun j hj => bxR_ne ⟨by omega, by omega, by omega, by omega, by omega⟩ ⟨by omega, by omega, by omega⟩
      have r2 : ∀ p, p < 84 → bxR σ n y x (200 + 84 * b + p) = σ (200 + 84 * b + p) ∧ bxR σ n y x (880 + 84 * b + p) = σ (880 + 84 * b + p) := fun p hp => ⟨bxR_ne ⟨by omega, by omega, by omega, by omega, by omega⟩ ⟨by omega, by omega, by omega⟩, bxR_ne ⟨by omega, by omega, by omega, by omega, by omega⟩ ⟨by omega, by omega, by omega⟩⟩
      unfold Ob
      rw [r (170 + b) (Or.inl rfl), r (178 + b) (Or.inr (Or.inl rfl)), r (186 + b) (Or.inr (Or.inr (Or.inl rfl))), r (872 + b) (Or.inr (Or.inr (Or.inr rfl))), g 0 (by decide) (by decide), at1.1]
      refine ⟨o1, ⟨o2.1, o2.2.1, fun q => o2.2.2 (by omega)⟩, o3, o4, fun p hp => ?_, fun p hp => ?_⟩
      · show -2147483648 ≤ bxR σ n y x (200 + 84 * b + p) ∧ bxR σ n y x (200 + 84 * b + p) < 2147483648
        rw [(r2 p hp).1]; exact o5 p hp
      · show -2147483648 ≤ bxR σ n y x (880 + 84 * b + p) ∧ bxR σ n y x (880 + 84 * b + p) < 2147483648
        rw [(r2 p hp).2]; exact o6 p hp
  · rw [at1.1]
    by_cases e : b = n
    · subst e
      rw [at1.2.2.2.2.2.1 t ht]
      omega
    · have o := h.2.2.2.1 b hb t ht
      rw [show bxR σ n y x (1552 + 16 * b + t) = σ (1552 + 16 * b + t) from bxR_ne ⟨by omega, by omega, by omega, by omega, by omega⟩ ⟨by omega, by omega, by omega⟩]
      refine ⟨o.1, o.2.1, fun q => ?_⟩
      have := o.2.2 (by omega)
      omega
section
variable {X : Nat → List Int32} {u w cnt : Nat} {S : m_H} {V : v_V}
set_option maxRecDepth 100000 in
set_option maxHeartbeats 4000000 in
theorem pr_box (hR : RR cnt u w S V) {y : Int} (hy1 : (-2147483648 ≤ y ∧ y < 2147483648)) {x : Int} (hx1 : (-2147483648 ≤ x ∧ x < 2147483648)) : PR X True 74 136 [.ref 0, iv y, iv x] [.ref 170, iv y, iv x] cnt u w S V := by
  have hR2 := RR_le hR (Nat.le_succ cnt)
  obtain ⟨tl, hC, hM, hP, hZ⟩ := hR
  have hC0 := hC
  have hM0 := hM
  have hP0 := hP
  obtain ⟨c1, c2, c3, c4, c5, c6, c7, c8⟩ := hC
  obtain ⟨m1, -, -, m4, m5, m6⟩ := hM
  obtain ⟨p1, p2, p3, p4⟩ := hP
  obtain ⟨n1, n2, n3, n4⟩ := c2.1
  have hsz := p1.1
  obtain ⟨n, hn⟩ : ∃ n : Nat, V 171 1 = (n : Int) := ⟨(V 171 1).toNat, by omega⟩
  have hn8 : n ≤ 8 := by omega
  have hv5 : V 1 5 = (n : Int) := n1.2.2.1.trans hn
  have hT0 : 0 ≤ V 171 0 ∧ V 171 0 ≤ 8 := hsz.1
  obtain ⟨ta, hT, hTt⟩ := TAx_RT c2.2.1 c2.1 p1
  intro K hK
  refine y_Rm (D' := 4) (cs_box c1 hT ⟨hv5, hn8⟩ hy1 hx1 (fun g1 => ?_) (fun g1 g2 => ?_) (fun g1 g2 g3 => ?_) (fun t1 g1 g2 g3 g4 g5 g6 g7 => ?_) (fun t1 g1 g2 g3 g4 g5 g6 g7 => ?_)) (by decide)
  · refine hK _ _ _ _ _ m1 (fun K2 h2 => y_Rm (D' := 3) (ms_box m1 hT0 ⟨hn, hn8⟩ hy1 hx1 ?_ ?_ ?_) (by decide))
    all_goals intros
    all_goals first | (exfalso; omega) | exact h2 _ _ _ _ _ hR2 (fun _ => rfl)
  · refine hK _ _ _ _ _ m1 (fun K2 h2 => y_Rm (D' := 3) (ms_box m1 hT0 ⟨hn, hn8⟩ hy1 hx1 ?_ ?_ ?_) (by decide))
    all_goals intros
    all_goals first | (exfalso; omega) | exact h2 _ _ _ _ _ hR2 (fun _ => rfl)
  · refine hK _ _ _ _ _ m1 (fun K2 h2 => y_Rm (D' := 3) (ms_box m1 hT0 ⟨hn, hn8⟩ hy1 hx1 ?_ ?_ ?_) (by decide))
    all_goals intros
    all_goals first | (exfalso; omega) | exact h2 _ _ _ _ _ hR2 (fun _ => rfl)
  · have f171 : bxV V n y x 171 = V 171 := bxV_ne (by decide) ⟨by omega, by omega, by omega, by omega⟩
    have h0 : bxR (V 171) n y x 0 = V 171 0 := bxR_ne ⟨by omega, by omega, by omega, by omega, by omega⟩ ⟨by omega, by omega, by omega⟩
    have h3 : bxR (V 171) n y x 3 = V 171 3 := bxR_ne ⟨by omega, by omega, by omega, by omega, by omega⟩ ⟨by omega, by omega, by omega⟩
    have h5 : bxR (V 171) n y x 5 = V 171 5 := bxR_ne ⟨by omega, by omega, by omega, by omega, by omega⟩ ⟨by omega, by omega, by omega⟩
    refine hK _ _ _ _ _ m1 (fun K2 h2 => y_Rm (D' := 3) (ms_box (V := bxV V n y x) m1 (by rw [f171]; exact hT0) ⟨by rw [f171]; exact hn, hn8⟩ hy1 hx1 ?_ ?_ ?_) (by decide))
    all_goals try rw [f171]
    · intros; exfalso; omega
    · intros; exfalso; omega
    · intro j1 j2
      refine h2 _ _ _ _ _ (RR_n (σ' := bxR (V 171) n y x) hC0 hM0 hP0 hZ (bx_RN c2.1 j2 hn) (SO_le (bx_SO p1 j2 hn (by omega) (by omega)) (Nat.le_succ cnt)) (fun k hk => bxV_ne (by omega) ⟨by omega, by omega, by omega, by omega⟩) h0 h3 h5 (fun j hj => bxR_ne ⟨by omega, by omega, by omega, by omega, by omega⟩ ⟨by omega, by omega, by omega⟩) ?_ (fun k hk => by rw [v_up_ne hk, v_ur_ne hk, v_ur_ne hk, v_up_ne hk, v_up_ne hk, v_up_ne hk, v_up_ne hk])) (fun _ => by omega)
      unfold bxR
      rw [v_upR, v_ur_eq, v_ur_eq, v_upR, v_upR, v_upR, v_upR, f171]
  · refine hK _ _ _ _ _ m1 (fun K2 h2 => y_Rm (D' := 3) (ms_box m1 hT0 ⟨hn, hn8⟩ hy1 hx1 ?_ ?_ ?_) (by decide))
    all_goals intros
    all_goals first | (exfalso; omega) | exact h2 _ _ _ _ _ hR2 (fun _ => rfl)
end
end
section
/-! what is read depends on the tape below its end alone -/
theorem hr_g9 {τ τ' : Nat → Int} {z : Nat} (e : ∀ i, i < z → τ i = τ' i) : hr τ z = hr τ' z := by
  funext p
  unfold hr
  split
  · exact e p (by assumption)
  · rfl
theorem pT_g9 {τ τ' : Nat → Int} {z : Nat} (e : hr τ z = hr τ' z) : pT τ z = pT τ' z := by
  funext p
  unfold pT
  rw [e]
theorem pS_g9 {τ τ' : Nat → Int} {z : Nat} (e : hr τ z = hr τ' z) : pS τ z = pS τ' z := by
  funext p
  unfold pS
  rw [e, pT_g9 e]
theorem pX_g9 {τ τ' : Nat → Int} {z : Nat} (e : hr τ z = hr τ' z) : ∀ n, pX τ z n = pX τ' z n
  | 0 => by
    funext md o p acc
    unfold pX
    rfl
  | n + 1 => by
    have ih := pX_g9 e n
    funext md o p acc
    match md with
    | 0 => rw [pX_F (τ := τ), pX_F (τ := τ'), e, pS_g9 e, ih]
    | 1 => rw [pX_T (τ := τ), pX_T (τ := τ'), ih]
    | 2 => rw [pX_Tl (τ := τ), pX_Tl (τ := τ'), e, ih]
    | 3 => rw [pX_E (τ := τ), pX_E (τ := τ'), ih]
    | m + 4 =>
      show (if hr τ z p = 124 then match pX τ z n 1 o (p + 1) acc with
        | (some l, q) => pX τ z n 4 o q (l ++ [(125, 0, 0)])
        | (none, q) => (none, q)
        else (some acc, p)) = (if hr τ' z p = 124 then match pX τ' z n 1 o (p + 1) acc with
        | (some l, q) => pX τ' z n 4 o q (l ++ [(125, 0, 0)])
        | (none, q) => (none, q)
        else (some acc, p))
      rw [e, ih]
theorem pM_g9 {τ τ' : Nat → Int} {z : Nat} (e : hr τ z = hr τ' z) : ∀ n, pM τ z n = pM τ' z n
  | 0 => by
    funext s p acc
    unfold pM
    rfl
  | n + 1 => by
    have ih := pM_g9 e n
    funext s p acc
    unfold pM
    rw [e, pT_g9 e, ih]
theorem pA_g9 {τ τ' : Nat → Int} {z : Nat} (e : hr τ z = hr τ' z) : pA τ z = pA τ' z := by
  funext p
  unfold pA
  rw [e, pT_g9 e, pM_g9 e]
theorem pAs_g9 {τ τ' : Nat → Int} {z : Nat} (e : hr τ z = hr τ' z) : ∀ n, pAs τ z n = pAs τ' z n
  | 0 => by
    funext p acc
    unfold pAs
    rfl
  | n + 1 => by
    have ih := pAs_g9 e n
    funext p acc
    unfold pAs
    rw [e, pA_g9 e, ih]
theorem pE_g9 {τ τ' : Nat → Int} {z : Nat} (e : hr τ z = hr τ' z) : pE τ z = pE τ' z := by
  funext p
  unfold pE
  rw [e, pX_g9 e]
theorem pL_g9 {τ τ' : Nat → Int} {z : Nat} (e : hr τ z = hr τ' z) : pL τ z = pL τ' z := by
  funext p
  unfold pL
  rw [e, pE_g9 e, pAs_g9 e]
theorem pLs_g9 {τ τ' : Nat → Int} {z : Nat} (e : hr τ z = hr τ' z) : ∀ n, pLs τ z n = pLs τ' z n
  | 0 => by
    funext p acc
    unfold pLs
    rfl
  | n + 1 => by
    have ih := pLs_g9 e n
    funext p acc
    unfold pLs
    rw [e, pL_g9 e, ih]
theorem pTx_g9 {τ τ' : Nat → Int} {z : Nat} (h : ∀ i, i < z → τ i = τ' i) : pTx τ z = pTx τ' z := by
  unfold pTx
  rw [pLs_g9 (hr_g9 h)]
end
section
/-! a TEXT that was read keeps the bounds -/
theorem pLs_pc {τ : Nat → Int} {z : Nat} (hz : z ≤ 160) : ∀ (k p : Nat) (acc l : List p_Li) (q : Nat), p ≤ z → pLs τ z k p acc = (some l, q) → (encPc l).length + p ≤ (encPc acc).length + q
  | 0, p, acc, l, q, hp, h => by
    unfold pLs at h
    cases h
    omega
  | k + 1, p, acc, l, q, hp, h => by
    unfold pLs at h
    split at h
    · rename_i x q1 ee
      have k1 := pL_ok hp hz ee
      have k2 := pL_c hp hz ee
      have h0 : hr τ z q1 ≠ -1 → q1 < z := hr_le
      have e3 : (encPc (acc ++ [x])).length = (encPc acc).length + ((encTc x.2.2.1).length + (encAc x.2.2.2).length) := by
        rw [encPc_app, List.length_append, List.length_append]
        omega
      split at h
      · rename_i hc
        have ih := pLs_pc hz k (q1 + 1) _ _ _ (by have := h0 (by omega); omega) h
        omega
      · cases h
        omega
    · cases h
theorem pTx_TO {τ : Nat → Int} {z : Nat} {l : List p_Li} (hz : z ≤ 160) (h : pTx τ z = (some l, z)) (h2 : lsO l ∧ l.length ≤ 8) : TO l := by
  have hd := pTx_dp hz h
  unfold pTx at h
  split at h
  · rename_i l1 q1 e1
    split at h
    · cases h
      have k1 := pLs_ok hz 8 0 [] _ _ (by omega) (fun x hx => by cases hx) e1
      have k2 := k1.2.2 _ rfl
      have k3 := pLs_pc hz 8 0 [] _ _ (by omega) e1
      have e0 : (encP 0 ([] : List p_Li)).length = 0 := rfl
      have e1' : (encPc ([] : List p_Li)).length = 0 := rfl
      exact ⟨h2.1, hd, h2.2, by omega, by omega⟩
    · cases h
  · cases h
end
