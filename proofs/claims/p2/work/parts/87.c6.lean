/-! TEXT's add, note, countTerms; a TEST; E in the class -/
def encTc : List p_Tk → List Int
  | [] => []
  | (c, a, b) :: r => (if c ≤ 122 then [c, a, b] else [c]) ++ encTc r
theorem encTc_app (l r : List p_Tk) : encTc (l ++ r) = encTc l ++ encTc r := by
  induction l with
  | nil => rfl
  | cons x l ih =>
    obtain ⟨c, a, b⟩ := x
    simp [encTc, ih]
theorem CP_note {V : v_V} {t z : Nat} {τ : Nat → Int} {p : Nat} {ln : Int} {st : List Int} {g g' : Nat → Int} {c : Nat} {y : Int} (ht : 193 ≤ t) (hc : c < 8) (h : CP V t z τ p ln st g) (hg : ∀ i, i ≠ c → g' i = g i) (h0 : ¬ g' c = 0) (h1 : y = if 1 < g' c then g' c - 2 else -5) :
    CP (v_up (v_up V t 7 (v_o2 (V t 7) c)) (t + 6) c y) t z τ p ln st g' := by
  obtain ⟨a1, a2, a3, a4, a5, a6, a7, a8⟩ := h
  refine ⟨?_, ?_, ?_, ?_, ?_, ?_, ?_, ?_⟩
  · rw [v_up_ne (by omega), v_up_ne (by omega)]; exact a1
  · rw [v_up_ne (by omega), v_up_ne (by omega)]; exact a2
  · rw [v_up_ne (by omega), v_up_ne (by omega)]; exact a3
  · rw [v_up_ne (by omega), v_up_ni (by decide)]; exact a4
  · rw [v_up_ne (by omega), v_up_ni (by decide)]; exact a5
  · rw [v_up_ne (by omega), v_up_ne (by omega)]; exact a6
  · intro q hq
    by_cases h2 : q = c
    · rw [h2, v_up_eq, h1]
    · rw [v_up_ni h2, v_up_ne (by omega), hg q h2]
      exact a7 q hq
  · have hl := v_o2_lt ⟨a8.1, a8.2.1⟩ hc
    rw [v_up_ne (by omega), v_up_eq]
    refine ⟨hl.1, hl.2, fun q hq => ?_⟩
    rw [v_o2_bit a8.1]
    by_cases h2 : q = c
    · rw [if_pos h2, h2, if_neg h0]
    · rw [if_neg h2, hg q h2]
      exact a8.2.2 q hq
theorem CF_note {V : v_V} {t c : Nat} {x y : Int} (ht : 193 ≤ t) : CF t V (v_up (v_up V t 7 x) (t + 6) c y) := by
  refine ⟨fun k q1 q2 q3 q4 => ?_, fun i q => ?_, ?_⟩
  · rw [v_up_ne q4, v_up_ne q2]
  · rw [v_up_ne (by omega), v_up_ne (by omega)]
  · rw [v_up_ne (by omega), v_up_ni (by decide)]
section
variable {X : Nat → List Int32} {u w : Nat} {S : m_H} {V : v_V} {K : v_K}
set_option maxRecDepth 100000 in
set_option maxHeartbeats 4000000 in
theorem cr_add (hC : ClF S) {t z p : Nat} {τ : Nat → Int} {ln : Int} {st : List Int} {g : Nat → Int} (hR : RdS S t) (hX : TxS S t) (ht : 193 ≤ t) (hT : Tp τ 0 z) {x : Int} (h : CP V t z τ p ln st g) (hl : st.length < 160) (k : ∀ V', CP V' t z τ p ln (st ++ [x]) g → CF t V V' → K u w none S V') : y_R X 1 50 u w [.ref t, iv x] S V K := by
  refine y_ent (lv' := [(0, .ref t), (1, iv x)]) (Nat.le_of_ble_eq_true rfl) rfl ?_
  refine y_ld (x := .ref t) rfl rfl (fun d => rfl) ?_
  refine y_gI (i := 6) (e := ((st).length : Int)) rfl rfl rfl hX.1 rfl h.2.2.2.2.1 ?_
  refine y_si rfl rfl (by decide) ?_
  refine y_jlt rfl rfl rfl (by omega) (fun g1 => ?_) (fun g1 => ?_)
  · refine y_ld (x := .ref t) rfl rfl (fun d => rfl) ?_
    refine y_gR (i := 5) rfl rfl rfl hX.1 rfl ?_
    refine y_ld (x := .ref t) rfl rfl (fun d => rfl) ?_
    refine y_gI (i := 6) (e := ((st).length : Int)) rfl rfl rfl hX.1 rfl h.2.2.2.2.1 ?_
    refine y_ld (x := iv x) rfl rfl (fun d => rfl) ?_
    refine y_ist (q := st.length) rfl rfl hX.2.2.2.2.2.1 (by omega) (by decide) (by omega) ?_
    refine y_ld (x := .ref t) rfl rfl (fun d => rfl) ?_
    refine y_in rfl rfl (fun d => rfl) ?_
    refine y_gI (i := 6) (e := ((st).length : Int)) rfl rfl rfl hX.1 rfl (by rw [v_up_ne (by omega)]; exact h.2.2.2.2.1) ?_
    refine y_ic rfl rfl ?_
    refine y_add (z := (((st).length : Int) + 1)) rfl rfl rfl ?_
    refine y_pI (i := 6) rfl rfl rfl hX.1 rfl rfl ?_
    refine y_ret rfl (fun d => rfl) ?_
    exact k _ (CP_add ht h) (CF_add ht)
  · refine y_ret rfl (fun d => rfl) ?_
    exact absurd g1 (by omega)
set_option maxRecDepth 100000 in
set_option maxHeartbeats 4000000 in
theorem cr_note (hC : ClF S) {t z p : Nat} {τ : Nat → Int} {ln : Int} {st : List Int} {g : Nat → Int} (hR : RdS S t) (hX : TxS S t) (ht : 193 ≤ t) (hT : Tp τ 0 z) {x : Int} {b : Bool} (hx : tcd x) (hln : 1 ≤ ln ∧ ln ≤ 8) (hg : ∀ c, c < 8 → 0 ≤ g c ∧ g c ≤ 10) (h : CP V t z τ p ln st g) (k : ∀ V', CP V' t z τ p ln st (mk (ln - 1) g x (!b)) → CF t V V' → K u w none S V') : y_R X 1 53 u w [.ref t, iv x, iv (v_b (b = true))] S V K := by
  have hx2 := tcd_le hx
  have hx3 : 0 ≤ x := by unfold tcd at hx; omega
  refine y_ent (lv' := [(0, .ref t), (1, iv x), (2, iv (v_b (b = true)))]) (Nat.le_of_ble_eq_true rfl) rfl ?_
  refine y_ld (x := iv x) rfl rfl (fun d => rfl) ?_
  refine y_bi rfl rfl (by decide) ?_
  refine y_sub (z := (x - 104)) rfl rfl rfl ?_
  refine y_ic rfl rfl ?_
  refine y_sub (z := (x - 108)) rfl rfl (by omega) ?_
  refine y_st (lv' := [(3, iv (x - 108)), (0, .ref t), (1, iv x), (2, iv (v_b (b = true)))]) rfl rfl (fun d => rfl) ?_
  refine y_ld (x := iv (x - 108)) rfl rfl (fun d => rfl) ?_
  refine y_zlt rfl rfl rfl (by omega) (fun g1 => ?_) (fun g1 => ?_)
  · refine y_ret rfl (fun d => rfl) ?_
    rw [show mk (ln - 1) g x (!b) = g from if_neg (by omega)] at k
    exact k _ h (CF_rf t V)
  · refine y_ld (x := iv (x - 108)) rfl rfl (fun d => rfl) ?_
    refine y_bi rfl rfl (by decide) ?_
    refine y_jlt rfl rfl rfl (by omega) (fun g2 => ?_) (fun g2 => ?_)
    · have h8 := h.2.2.2.2.2.2.2
      refine y_ld (x := .ref t) rfl rfl (fun d => rfl) ?_
      refine y_in rfl rfl (fun d => rfl) ?_
      refine y_gI (i := 7) (e := (V t 7)) rfl rfl rfl hX.1 rfl rfl ?_
      refine y_ic rfl rfl ?_
      refine y_ld (x := iv (x - 108)) rfl rfl (fun d => rfl) ?_
      refine y_op (z := (2 ^ (x - 108).toNat)) rfl rfl (fun d => rfl) (v_shl1 (by omega)) ?_
      refine y_op (z := (v_o2 (V t 7) (x - 108).toNat)) rfl rfl (fun d => rfl) (v_or_o2 h.2.2.2.2.2.2.2.1 _) ?_
      refine y_pI (i := 7) rfl rfl rfl hX.1 rfl rfl ?_
      refine y_ld (x := iv (v_b (b = true))) rfl rfl (fun d => rfl) ?_
      refine y_bne rfl rfl rfl (fun g3 => ?_) (fun g3 => ?_)
      · refine y_ret rfl (fun d => rfl) ?_
        have hgc := hg (x - 108).toNat (by omega)
        have e7 := h.2.2.2.2.2.2.1 (x - 108).toNat (by omega)
        have em : mk (ln - 1) g x (!b) = v_uf g (x - 108).toNat (if 1 < g (x - 108).toNat then g (x - 108).toNat else if (!b) = true then 2 + (ln - 1) else 1) := if_pos (by omega)
        rw [em] at k
        have ev : v_up V t 7 (v_o2 (V t 7) (x - 108).toNat) = v_up (v_up V t 7 (v_o2 (V t 7) (x - 108).toNat)) (t + 6) (x - 108).toNat (V (t + 6) (x - 108).toNat) := by rw [v_up_ur (v_up V t 7 _), show V (t + 6) = v_up V t 7 (v_o2 (V t 7) (x - 108).toNat) (t + 6) from (v_up_ne (by omega)).symm, v_uf_self, v_ur_self]
        rw [ev]
        refine k _ (CP_note ht (by omega) h (fun i hi => v_uf_ne hi) ?_ ?_) (CF_note ht)
        · rw [v_uf_eq]; cases b
          · exact absurd g3 (by decide)
          · simp only [Bool.not_true, Bool.false_eq_true, if_false]; split <;> omega
        · rw [v_uf_eq, e7]; cases b
          · exact absurd g3 (by decide)
          · simp only [Bool.not_true, Bool.false_eq_true, if_false]; by_cases q : 1 < g (x - 108).toNat
            · rw [if_pos q, if_pos q, if_pos q]
            · rw [if_neg q, if_neg q, if_neg (by decide)]
      · refine y_ld (x := .ref t) rfl rfl (fun d => rfl) ?_
        refine y_gR (i := 8) rfl rfl rfl hX.1 rfl ?_
        refine y_ld (x := iv (x - 108)) rfl rfl (fun d => rfl) ?_
        refine y_ild (x := (V (t + 6) ((x - 108).toNat))) (q := ((x - 108).toNat)) rfl rfl hX.2.2.2.2.2.2 (by omega) (by decide) (by omega) (by rw [v_up_ne (by omega)]) ?_
        refine y_bi rfl rfl (by decide) ?_
        have hgc0 := hg (x - 108).toNat (by omega)
        have e70 := h.2.2.2.2.2.2.1 (x - 108).toNat (by omega)
        have hrn : -5 ≤ V (t + 6) (x - 108).toNat ∧ V (t + 6) (x - 108).toNat ≤ 8 := by rw [e70]; split <;> omega
        refine y_jne rfl rfl rfl (by omega) (fun g4 => ?_) (fun g4 => ?_)
        · refine y_ret rfl (fun d => rfl) ?_
          have hgc := hg (x - 108).toNat (by omega)
          have e7 := h.2.2.2.2.2.2.1 (x - 108).toNat (by omega)
          have em : mk (ln - 1) g x (!b) = v_uf g (x - 108).toNat (if 1 < g (x - 108).toNat then g (x - 108).toNat else if (!b) = true then 2 + (ln - 1) else 1) := if_pos (by omega)
          rw [em] at k
          have ev : v_up V t 7 (v_o2 (V t 7) (x - 108).toNat) = v_up (v_up V t 7 (v_o2 (V t 7) (x - 108).toNat)) (t + 6) (x - 108).toNat (V (t + 6) (x - 108).toNat) := by rw [v_up_ur (v_up V t 7 _), show V (t + 6) = v_up V t 7 (v_o2 (V t 7) (x - 108).toNat) (t + 6) from (v_up_ne (by omega)).symm, v_uf_self, v_ur_self]
          rw [ev]
          refine k _ (CP_note ht (by omega) h (fun i hi => v_uf_ne hi) ?_ ?_) (CF_note ht)
          · rw [v_uf_eq, if_pos (by by_cases q : 1 < g (x - 108).toNat; exact q; rw [if_neg q] at e7; omega)]; omega
          · have q1 : 1 < g (x - 108).toNat := by by_cases q : 1 < g (x - 108).toNat; exact q; rw [if_neg q] at e7; omega
            rw [v_uf_eq, if_pos q1, if_pos q1, e7, if_pos q1]
        · refine y_ld (x := .ref t) rfl rfl (fun d => rfl) ?_
          refine y_gR (i := 8) rfl rfl rfl hX.1 rfl ?_
          refine y_ld (x := iv (x - 108)) rfl rfl (fun d => rfl) ?_
          refine y_ld (x := .ref t) rfl rfl (fun d => rfl) ?_
          refine y_gI (i := 0) (e := ln) rfl rfl rfl hX.1 rfl (by rw [v_up_ni (by omega)]; exact h.2.2.2.1) ?_
          refine y_ic rfl rfl ?_
          refine y_sub (z := (ln - 1)) rfl rfl rfl ?_
          refine y_ist (q := ((x - 108).toNat)) rfl rfl hX.2.2.2.2.2.2 (by omega) (by decide) (by omega) ?_
          refine y_ret rfl (fun d => rfl) ?_
          have hgc := hg (x - 108).toNat (by omega)
          have e7 := h.2.2.2.2.2.2.1 (x - 108).toNat (by omega)
          have em : mk (ln - 1) g x (!b) = v_uf g (x - 108).toNat (if 1 < g (x - 108).toNat then g (x - 108).toNat else if (!b) = true then 2 + (ln - 1) else 1) := if_pos (by omega)
          rw [em] at k
          refine k _ (CP_note (y := ln - 1) ht (by omega) h (fun i hi => v_uf_ne hi) ?_ ?_) (CF_note ht)
          · rw [v_uf_eq]; cases b
            · rw [if_neg (by intro q; rw [if_pos q] at e7; omega)]; simp only [Bool.not_false, if_true]; omega
            · exact absurd rfl g3
          · rw [v_uf_eq]; cases b
            · rw [if_neg (show ¬ 1 < g (x - 108).toNat by intro q; rw [if_pos q] at e7; omega)]; simp only [Bool.not_false, if_true]; rw [if_pos (by omega)]; omega
            · exact absurd rfl g3
    · refine y_ret rfl (fun d => rfl) ?_
      rw [show mk (ln - 1) g x (!b) = g from if_neg (by omega)] at k
      exact k _ h (CF_rf t V)
set_option maxRecDepth 100000 in
set_option maxHeartbeats 4000000 in
theorem cr_count (hC : ClF S) {t z p : Nat} {τ : Nat → Int} {ln : Int} {st : List Int} {g : Nat → Int} (hR : RdS S t) (hX : TxS S t) (ht : 193 ≤ t) (hT : Tp τ 0 z) {x : Int} {i : Nat} (h : CP V t z τ p ln st g) (hi : i < st.length) (hl : st.length ≤ 160) (k : ∀ V', CP V' t z τ p ln (st.set i x) g → CF t V V' → K u w none S V') : y_R X 1 51 u w [.ref t, iv i, iv x] S V K := by
  refine y_ent (lv' := [(0, .ref t), (1, iv (i : Int)), (2, iv x)]) (Nat.le_of_ble_eq_true rfl) rfl ?_
  refine y_ld (x := iv (i : Int)) rfl rfl (fun d => rfl) ?_
  refine y_zlt rfl rfl rfl (by omega) (fun g1 => ?_) (fun g1 => ?_)
  · refine y_ret rfl (fun d => rfl) ?_
    exact absurd g1 (by omega)
  · refine y_ld (x := iv (i : Int)) rfl rfl (fun d => rfl) ?_
    refine y_ld (x := .ref t) rfl rfl (fun d => rfl) ?_
    refine y_gI (i := 6) (e := ((st).length : Int)) rfl rfl rfl hX.1 rfl h.2.2.2.2.1 ?_
    refine y_jge rfl rfl rfl (by omega) (fun g2 => ?_) (fun g2 => ?_)
    · refine y_ret rfl (fun d => rfl) ?_
      exact absurd g2 (by omega)
    · refine y_ld (x := .ref t) rfl rfl (fun d => rfl) ?_
      refine y_gR (i := 5) rfl rfl rfl hX.1 rfl ?_
      refine y_ld (x := iv (i : Int)) rfl rfl (fun d => rfl) ?_
      refine y_ld (x := iv x) rfl rfl (fun d => rfl) ?_
      refine y_ist (q := i) rfl rfl hX.2.2.2.2.2.1 (by omega) (by decide) (by omega) ?_
      refine y_ret rfl (fun d => rfl) ?_
      exact k _ (CP_set ht h (by omega)) (CF_set ht)
theorem pT_rg (τ : Nat → Int) (z p : Nat) : -1 ≤ (pT τ z p).1 ∧ (pT τ z p).1 ≤ 115 := by
  by_cases h : 0 ≤ (pT τ z p).1
  · have := tcd_le (pT_cd τ z p h)
    omega
  · refine ⟨?_, by omega⟩
    unfold pT at h ⊢
    split
    · simp only; omega
    split
    · simp only; omega
    split
    · simp only; omega
    split
    · split
      · simp only
        split
        · omega
        · split <;> omega
      · simp only; omega
    split
    · simp only; omega
    split
    · split <;> (simp only; omega)
    · simp only; omega
set_option maxRecDepth 100000 in
set_option maxHeartbeats 4000000 in
theorem cr_test (hC : ClF S) {t z p : Nat} {τ : Nat → Int} {ln : Int} {st : List Int} {g : Nat → Int} (hR : RdS S t) (hX : TxS S t) (ht : 193 ≤ t) (hT : Tp τ 0 z) (hln : 1 ≤ ln ∧ ln ≤ 8) (hg : ∀ c, c < 8 → 0 ≤ g c ∧ g c ≤ 10) (hl : st.length ≤ p) (h : CP V t z τ p ln st g) (hp : p ≤ z) (k1 : ∀ tk q V', pS τ z p = (some tk, q) → CP V' t z τ q ln (st ++ [tk.1, tk.2.1, tk.2.2]) (mk (ln - 1) (mk (ln - 1) g tk.2.1 true) tk.2.2 true) → CF t V V' → K u w (some (iv 1)) S V') (k2 : ∀ q V' st' g', pS τ z p = (none, q) → CP V' t z τ q ln st' g' → CF t V V' → K u w (some (iv 0)) S V') : y_R X 3 23 u w [.ref 115] S V K := by
  have hz := hT.2.1
  have hq0 := hr_rg hT p
  refine y_ent (lv' := [(0, .ref 115)]) (Nat.le_of_ble_eq_true rfl) rfl ?_
  refine y_ld (x := .ref 115) rfl rfl (fun d => rfl) ?_
  refine y_cV (as := [.ref 115]) rfl rfl rfl rfl rfl hR ⟨rfl, (Nat.le_of_ble_eq_true rfl), (Nat.le_of_ble_eq_true rfl)⟩ (by decide) (cr_term hC hR hX ht hT h (by omega) (fun V1 h1 f1 => ?_))
  have pl2 := pT_le τ z p (by omega)
  have cd3 := pT_cd τ z p
  have rg4 : -1 ≤ (pT τ z p).1 ∧ (pT τ z p).1 ≤ 115 := pT_rg τ z p
  refine y_nv ?_
  refine y_st (lv' := [(1, iv ((pT τ z p).1)), (0, .ref 115)]) rfl rfl (fun d => rfl) ?_
  refine y_ld (x := iv ((pT τ z p).1)) rfl rfl (fun d => rfl) ?_
  refine y_zge rfl rfl rfl (by omega) (fun g1 => ?_) (fun g1 => ?_)
  · refine y_ld (x := .ref 115) rfl rfl (fun d => rfl) ?_
    refine y_bi rfl rfl (by decide) ?_
    refine y_cV (as := [.ref 115, iv 60]) rfl rfl rfl rfl rfl hR ⟨rfl, (Nat.le_of_ble_eq_true rfl), (Nat.le_of_ble_eq_true rfl)⟩ (by decide) (cr_takes hC hR hX ht hT (by decide) h1 (by omega) (fun q6 V5 h5 f5 => ?_) (fun q7 => ?_))
    · have pl8 := hr_le (τ := τ) (z := z) (p := (pT τ z p).2) (by omega)
      refine y_nv ?_
      refine y_zeq rfl rfl rfl (by decide) (fun g2 => absurd g2 (by decide)) (fun g2 => ?_)
      refine y_bi rfl rfl (by decide) ?_
      refine y_go rfl rfl ?_
      refine y_st (lv' := [(2, iv 120), (1, iv ((pT τ z p).1)), (0, .ref 115)]) rfl rfl (fun d => rfl) ?_
      refine y_ld (x := iv 120) rfl rfl (fun d => rfl) ?_
      refine y_zge rfl rfl rfl (by decide) (fun g3 => ?_) (fun g3 => absurd g3 (by decide))
      refine y_ld (x := .ref 115) rfl rfl (fun d => rfl) ?_
      refine y_cV (as := [.ref 115]) rfl rfl rfl rfl rfl hR ⟨rfl, (Nat.le_of_ble_eq_true rfl), (Nat.le_of_ble_eq_true rfl)⟩ (by decide) (cr_term hC hR hX ht hT h5 (by omega) (fun V9 h9 f9 => ?_))
      have pl10 := pT_le τ z ((pT τ z p).2 + 1) (by omega)
      have cd11 := pT_cd τ z ((pT τ z p).2 + 1)
      have rg12 : -1 ≤ (pT τ z ((pT τ z p).2 + 1)).1 ∧ (pT τ z ((pT τ z p).2 + 1)).1 ≤ 115 := pT_rg τ z ((pT τ z p).2 + 1)
      refine y_nv ?_
      refine y_st (lv' := [(3, iv ((pT τ z ((pT τ z p).2 + 1)).1)), (2, iv 120), (1, iv ((pT τ z p).1)), (0, .ref 115)]) rfl rfl (fun d => rfl) ?_
      refine y_ld (x := iv ((pT τ z ((pT τ z p).2 + 1)).1)) rfl rfl (fun d => rfl) ?_
      refine y_zge rfl rfl rfl (by omega) (fun g4 => ?_) (fun g4 => ?_)
      · refine y_ld (x := .ref 115) rfl rfl (fun d => rfl) ?_
        refine y_gR (i := 3) rfl rfl rfl hR rfl ?_
        refine y_ld (x := iv 120) rfl rfl (fun d => rfl) ?_
        refine y_cV (as := [.ref t, iv 120]) rfl rfl rfl rfl rfl hX.1 ⟨rfl, (Nat.le_of_ble_eq_true rfl), (Nat.le_of_ble_eq_true rfl)⟩ (by decide) (cr_add hC hR hX ht hT h9 (by first | omega | (simp; omega)) (fun V13 h13 f13 => ?_))
        refine y_n0 ?_
        refine y_ld (x := .ref 115) rfl rfl (fun d => rfl) ?_
        refine y_gR (i := 3) rfl rfl rfl hR rfl ?_
        refine y_ld (x := iv ((pT τ z p).1)) rfl rfl (fun d => rfl) ?_
        refine y_cV (as := [.ref t, iv ((pT τ z p).1)]) rfl rfl rfl rfl rfl hX.1 ⟨rfl, (Nat.le_of_ble_eq_true rfl), (Nat.le_of_ble_eq_true rfl)⟩ (by decide) (cr_add hC hR hX ht hT h13 (by first | omega | (simp; omega)) (fun V14 h14 f14 => ?_))
        refine y_n0 ?_
        refine y_ld (x := .ref 115) rfl rfl (fun d => rfl) ?_
        refine y_gR (i := 3) rfl rfl rfl hR rfl ?_
        refine y_ld (x := iv ((pT τ z ((pT τ z p).2 + 1)).1)) rfl rfl (fun d => rfl) ?_
        refine y_cV (as := [.ref t, iv ((pT τ z ((pT τ z p).2 + 1)).1)]) rfl rfl rfl rfl rfl hX.1 ⟨rfl, (Nat.le_of_ble_eq_true rfl), (Nat.le_of_ble_eq_true rfl)⟩ (by decide) (cr_add hC hR hX ht hT h14 (by first | omega | (simp; omega)) (fun V15 h15 f15 => ?_))
        refine y_n0 ?_
        refine y_ld (x := .ref 115) rfl rfl (fun d => rfl) ?_
        refine y_gR (i := 3) rfl rfl rfl hR rfl ?_
        refine y_ld (x := iv ((pT τ z p).1)) rfl rfl (fun d => rfl) ?_
        refine y_ic rfl rfl ?_
        refine y_cV (as := [.ref t, iv ((pT τ z p).1), iv 0]) rfl rfl rfl rfl rfl hX.1 ⟨rfl, (Nat.le_of_ble_eq_true rfl), (Nat.le_of_ble_eq_true rfl)⟩ (by decide) (cr_note (b := false) hC hR hX ht hT (pT_cd τ z p (by omega)) hln hg h15 (fun V16 h16 f16 => ?_))
        refine y_n0 ?_
        refine y_ld (x := .ref 115) rfl rfl (fun d => rfl) ?_
        refine y_gR (i := 3) rfl rfl rfl hR rfl ?_
        refine y_ld (x := iv ((pT τ z ((pT τ z p).2 + 1)).1)) rfl rfl (fun d => rfl) ?_
        refine y_ic rfl rfl ?_
        refine y_cV (as := [.ref t, iv ((pT τ z ((pT τ z p).2 + 1)).1), iv 0]) rfl rfl rfl rfl rfl hX.1 ⟨rfl, (Nat.le_of_ble_eq_true rfl), (Nat.le_of_ble_eq_true rfl)⟩ (by decide) (cr_note (b := false) hC hR hX ht hT (pT_cd τ z ((pT τ z p).2 + 1) (by omega)) hln (mk_bd (by omega) hg _ _ (tcd_le (pT_cd τ z p (by omega)))) h16 (fun V17 h17 f17 => ?_))
        refine y_n0 ?_
        refine y_ic rfl rfl ?_
        refine y_rI rfl (by decide) ?_
        have eS : pS τ z p = (some (hr τ z (pT τ z p).2 + 60, (pT τ z p).1, (pT τ z ((pT τ z p).2 + 1)).1), (pT τ z ((pT τ z p).2 + 1)).2) := (if_neg (by omega)).trans ((if_pos (by omega)).trans (if_neg (by omega)))
        refine k1 _ _ _ eS ?_ (CF_tr (CF_tr (CF_tr (CF_tr (CF_tr (CF_tr (CF_tr (CF_tr (CF_rf t V) f1) f5) f9) f13) f14) f15) f16) f17)
        have hh := h17
        rw [show hr τ z (pT τ z p).2 + 60 = 120 by omega]
        rw [List.append_assoc, List.append_assoc] at hh
        exact hh
      · refine y_ic rfl rfl ?_
        refine y_rI rfl (by decide) ?_
        exact k2 _ _ _ _ ((if_neg (by omega)).trans ((if_pos (by omega)).trans (if_pos (by omega)))) h9 (CF_tr (CF_tr (CF_tr (CF_rf t V) f1) f5) f9)
    · refine y_nv ?_
      refine y_zeq rfl rfl rfl (by decide) (fun g5 => ?_) (fun g5 => absurd g5 (by decide))
      refine y_ld (x := .ref 115) rfl rfl (fun d => rfl) ?_
      refine y_bi rfl rfl (by decide) ?_
      refine y_cV (as := [.ref 115, iv 61]) rfl rfl rfl rfl rfl hR ⟨rfl, (Nat.le_of_ble_eq_true rfl), (Nat.le_of_ble_eq_true rfl)⟩ (by decide) (cr_takes hC hR hX ht hT (by decide) h1 (by omega) (fun q19 V18 h18 f18 => ?_) (fun q20 => ?_))
      · have pl21 := hr_le (τ := τ) (z := z) (p := (pT τ z p).2) (by omega)
        refine y_nv ?_
        refine y_zeq rfl rfl rfl (by decide) (fun g6 => absurd g6 (by decide)) (fun g6 => ?_)
        refine y_bi rfl rfl (by decide) ?_
        refine y_go rfl rfl ?_
        refine y_st (lv' := [(2, iv 121), (1, iv ((pT τ z p).1)), (0, .ref 115)]) rfl rfl (fun d => rfl) ?_
        refine y_ld (x := iv 121) rfl rfl (fun d => rfl) ?_
        refine y_zge rfl rfl rfl (by decide) (fun g7 => ?_) (fun g7 => absurd g7 (by decide))
        refine y_ld (x := .ref 115) rfl rfl (fun d => rfl) ?_
        refine y_cV (as := [.ref 115]) rfl rfl rfl rfl rfl hR ⟨rfl, (Nat.le_of_ble_eq_true rfl), (Nat.le_of_ble_eq_true rfl)⟩ (by decide) (cr_term hC hR hX ht hT h18 (by omega) (fun V22 h22 f22 => ?_))
        have pl23 := pT_le τ z ((pT τ z p).2 + 1) (by omega)
        have cd24 := pT_cd τ z ((pT τ z p).2 + 1)
        have rg25 : -1 ≤ (pT τ z ((pT τ z p).2 + 1)).1 ∧ (pT τ z ((pT τ z p).2 + 1)).1 ≤ 115 := pT_rg τ z ((pT τ z p).2 + 1)
        refine y_nv ?_
        refine y_st (lv' := [(3, iv ((pT τ z ((pT τ z p).2 + 1)).1)), (2, iv 121), (1, iv ((pT τ z p).1)), (0, .ref 115)]) rfl rfl (fun d => rfl) ?_
        refine y_ld (x := iv ((pT τ z ((pT τ z p).2 + 1)).1)) rfl rfl (fun d => rfl) ?_
        refine y_zge rfl rfl rfl (by omega) (fun g8 => ?_) (fun g8 => ?_)
        · refine y_ld (x := .ref 115) rfl rfl (fun d => rfl) ?_
          refine y_gR (i := 3) rfl rfl rfl hR rfl ?_
          refine y_ld (x := iv 121) rfl rfl (fun d => rfl) ?_
          refine y_cV (as := [.ref t, iv 121]) rfl rfl rfl rfl rfl hX.1 ⟨rfl, (Nat.le_of_ble_eq_true rfl), (Nat.le_of_ble_eq_true rfl)⟩ (by decide) (cr_add hC hR hX ht hT h22 (by first | omega | (simp; omega)) (fun V26 h26 f26 => ?_))
          refine y_n0 ?_
          refine y_ld (x := .ref 115) rfl rfl (fun d => rfl) ?_
          refine y_gR (i := 3) rfl rfl rfl hR rfl ?_
          refine y_ld (x := iv ((pT τ z p).1)) rfl rfl (fun d => rfl) ?_
          refine y_cV (as := [.ref t, iv ((pT τ z p).1)]) rfl rfl rfl rfl rfl hX.1 ⟨rfl, (Nat.le_of_ble_eq_true rfl), (Nat.le_of_ble_eq_true rfl)⟩ (by decide) (cr_add hC hR hX ht hT h26 (by first | omega | (simp; omega)) (fun V27 h27 f27 => ?_))
          refine y_n0 ?_
          refine y_ld (x := .ref 115) rfl rfl (fun d => rfl) ?_
          refine y_gR (i := 3) rfl rfl rfl hR rfl ?_
          refine y_ld (x := iv ((pT τ z ((pT τ z p).2 + 1)).1)) rfl rfl (fun d => rfl) ?_
          refine y_cV (as := [.ref t, iv ((pT τ z ((pT τ z p).2 + 1)).1)]) rfl rfl rfl rfl rfl hX.1 ⟨rfl, (Nat.le_of_ble_eq_true rfl), (Nat.le_of_ble_eq_true rfl)⟩ (by decide) (cr_add hC hR hX ht hT h27 (by first | omega | (simp; omega)) (fun V28 h28 f28 => ?_))
          refine y_n0 ?_
          refine y_ld (x := .ref 115) rfl rfl (fun d => rfl) ?_
          refine y_gR (i := 3) rfl rfl rfl hR rfl ?_
          refine y_ld (x := iv ((pT τ z p).1)) rfl rfl (fun d => rfl) ?_
          refine y_ic rfl rfl ?_
          refine y_cV (as := [.ref t, iv ((pT τ z p).1), iv 0]) rfl rfl rfl rfl rfl hX.1 ⟨rfl, (Nat.le_of_ble_eq_true rfl), (Nat.le_of_ble_eq_true rfl)⟩ (by decide) (cr_note (b := false) hC hR hX ht hT (pT_cd τ z p (by omega)) hln hg h28 (fun V29 h29 f29 => ?_))
          refine y_n0 ?_
          refine y_ld (x := .ref 115) rfl rfl (fun d => rfl) ?_
          refine y_gR (i := 3) rfl rfl rfl hR rfl ?_
          refine y_ld (x := iv ((pT τ z ((pT τ z p).2 + 1)).1)) rfl rfl (fun d => rfl) ?_
          refine y_ic rfl rfl ?_
          refine y_cV (as := [.ref t, iv ((pT τ z ((pT τ z p).2 + 1)).1), iv 0]) rfl rfl rfl rfl rfl hX.1 ⟨rfl, (Nat.le_of_ble_eq_true rfl), (Nat.le_of_ble_eq_true rfl)⟩ (by decide) (cr_note (b := false) hC hR hX ht hT (pT_cd τ z ((pT τ z p).2 + 1) (by omega)) hln (mk_bd (by omega) hg _ _ (tcd_le (pT_cd τ z p (by omega)))) h29 (fun V30 h30 f30 => ?_))
          refine y_n0 ?_
          refine y_ic rfl rfl ?_
          refine y_rI rfl (by decide) ?_
          have eS : pS τ z p = (some (hr τ z (pT τ z p).2 + 60, (pT τ z p).1, (pT τ z ((pT τ z p).2 + 1)).1), (pT τ z ((pT τ z p).2 + 1)).2) := (if_neg (by omega)).trans ((if_pos (by omega)).trans (if_neg (by omega)))
          refine k1 _ _ _ eS ?_ (CF_tr (CF_tr (CF_tr (CF_tr (CF_tr (CF_tr (CF_tr (CF_tr (CF_rf t V) f1) f18) f22) f26) f27) f28) f29) f30)
          have hh := h30
          rw [show hr τ z (pT τ z p).2 + 60 = 121 by omega]
          rw [List.append_assoc, List.append_assoc] at hh
          exact hh
        · refine y_ic rfl rfl ?_
          refine y_rI rfl (by decide) ?_
          exact k2 _ _ _ _ ((if_neg (by omega)).trans ((if_pos (by omega)).trans (if_pos (by omega)))) h22 (CF_tr (CF_tr (CF_tr (CF_rf t V) f1) f18) f22)
      · refine y_nv ?_
        refine y_zeq rfl rfl rfl (by decide) (fun g9 => ?_) (fun g9 => absurd g9 (by decide))
        refine y_ld (x := .ref 115) rfl rfl (fun d => rfl) ?_
        refine y_bi rfl rfl (by decide) ?_
        refine y_cV (as := [.ref 115, iv 62]) rfl rfl rfl rfl rfl hR ⟨rfl, (Nat.le_of_ble_eq_true rfl), (Nat.le_of_ble_eq_true rfl)⟩ (by decide) (cr_takes hC hR hX ht hT (by decide) h1 (by omega) (fun q32 V31 h31 f31 => ?_) (fun q33 => ?_))
        · have pl34 := hr_le (τ := τ) (z := z) (p := (pT τ z p).2) (by omega)
          refine y_nv ?_
          refine y_zeq rfl rfl rfl (by decide) (fun g10 => absurd g10 (by decide)) (fun g10 => ?_)
          refine y_bi rfl rfl (by decide) ?_
          refine y_go rfl rfl ?_
          refine y_st (lv' := [(2, iv 122), (1, iv ((pT τ z p).1)), (0, .ref 115)]) rfl rfl (fun d => rfl) ?_
          refine y_ld (x := iv 122) rfl rfl (fun d => rfl) ?_
          refine y_zge rfl rfl rfl (by decide) (fun g11 => ?_) (fun g11 => absurd g11 (by decide))
          refine y_ld (x := .ref 115) rfl rfl (fun d => rfl) ?_
          refine y_cV (as := [.ref 115]) rfl rfl rfl rfl rfl hR ⟨rfl, (Nat.le_of_ble_eq_true rfl), (Nat.le_of_ble_eq_true rfl)⟩ (by decide) (cr_term hC hR hX ht hT h31 (by omega) (fun V35 h35 f35 => ?_))
          have pl36 := pT_le τ z ((pT τ z p).2 + 1) (by omega)
          have cd37 := pT_cd τ z ((pT τ z p).2 + 1)
          have rg38 : -1 ≤ (pT τ z ((pT τ z p).2 + 1)).1 ∧ (pT τ z ((pT τ z p).2 + 1)).1 ≤ 115 := pT_rg τ z ((pT τ z p).2 + 1)
          refine y_nv ?_
          refine y_st (lv' := [(3, iv ((pT τ z ((pT τ z p).2 + 1)).1)), (2, iv 122), (1, iv ((pT τ z p).1)), (0, .ref 115)]) rfl rfl (fun d => rfl) ?_
          refine y_ld (x := iv ((pT τ z ((pT τ z p).2 + 1)).1)) rfl rfl (fun d => rfl) ?_
          refine y_zge rfl rfl rfl (by omega) (fun g12 => ?_) (fun g12 => ?_)
          · refine y_ld (x := .ref 115) rfl rfl (fun d => rfl) ?_
            refine y_gR (i := 3) rfl rfl rfl hR rfl ?_
            refine y_ld (x := iv 122) rfl rfl (fun d => rfl) ?_
            refine y_cV (as := [.ref t, iv 122]) rfl rfl rfl rfl rfl hX.1 ⟨rfl, (Nat.le_of_ble_eq_true rfl), (Nat.le_of_ble_eq_true rfl)⟩ (by decide) (cr_add hC hR hX ht hT h35 (by first | omega | (simp; omega)) (fun V39 h39 f39 => ?_))
            refine y_n0 ?_
            refine y_ld (x := .ref 115) rfl rfl (fun d => rfl) ?_
            refine y_gR (i := 3) rfl rfl rfl hR rfl ?_
            refine y_ld (x := iv ((pT τ z p).1)) rfl rfl (fun d => rfl) ?_
            refine y_cV (as := [.ref t, iv ((pT τ z p).1)]) rfl rfl rfl rfl rfl hX.1 ⟨rfl, (Nat.le_of_ble_eq_true rfl), (Nat.le_of_ble_eq_true rfl)⟩ (by decide) (cr_add hC hR hX ht hT h39 (by first | omega | (simp; omega)) (fun V40 h40 f40 => ?_))
            refine y_n0 ?_
            refine y_ld (x := .ref 115) rfl rfl (fun d => rfl) ?_
            refine y_gR (i := 3) rfl rfl rfl hR rfl ?_
            refine y_ld (x := iv ((pT τ z ((pT τ z p).2 + 1)).1)) rfl rfl (fun d => rfl) ?_
            refine y_cV (as := [.ref t, iv ((pT τ z ((pT τ z p).2 + 1)).1)]) rfl rfl rfl rfl rfl hX.1 ⟨rfl, (Nat.le_of_ble_eq_true rfl), (Nat.le_of_ble_eq_true rfl)⟩ (by decide) (cr_add hC hR hX ht hT h40 (by first | omega | (simp; omega)) (fun V41 h41 f41 => ?_))
            refine y_n0 ?_
            refine y_ld (x := .ref 115) rfl rfl (fun d => rfl) ?_
            refine y_gR (i := 3) rfl rfl rfl hR rfl ?_
            refine y_ld (x := iv ((pT τ z p).1)) rfl rfl (fun d => rfl) ?_
            refine y_ic rfl rfl ?_
            refine y_cV (as := [.ref t, iv ((pT τ z p).1), iv 0]) rfl rfl rfl rfl rfl hX.1 ⟨rfl, (Nat.le_of_ble_eq_true rfl), (Nat.le_of_ble_eq_true rfl)⟩ (by decide) (cr_note (b := false) hC hR hX ht hT (pT_cd τ z p (by omega)) hln hg h41 (fun V42 h42 f42 => ?_))
            refine y_n0 ?_
            refine y_ld (x := .ref 115) rfl rfl (fun d => rfl) ?_
            refine y_gR (i := 3) rfl rfl rfl hR rfl ?_
            refine y_ld (x := iv ((pT τ z ((pT τ z p).2 + 1)).1)) rfl rfl (fun d => rfl) ?_
            refine y_ic rfl rfl ?_
            refine y_cV (as := [.ref t, iv ((pT τ z ((pT τ z p).2 + 1)).1), iv 0]) rfl rfl rfl rfl rfl hX.1 ⟨rfl, (Nat.le_of_ble_eq_true rfl), (Nat.le_of_ble_eq_true rfl)⟩ (by decide) (cr_note (b := false) hC hR hX ht hT (pT_cd τ z ((pT τ z p).2 + 1) (by omega)) hln (mk_bd (by omega) hg _ _ (tcd_le (pT_cd τ z p (by omega)))) h42 (fun V43 h43 f43 => ?_))
            refine y_n0 ?_
            refine y_ic rfl rfl ?_
            refine y_rI rfl (by decide) ?_
            have eS : pS τ z p = (some (hr τ z (pT τ z p).2 + 60, (pT τ z p).1, (pT τ z ((pT τ z p).2 + 1)).1), (pT τ z ((pT τ z p).2 + 1)).2) := (if_neg (by omega)).trans ((if_pos (by omega)).trans (if_neg (by omega)))
            refine k1 _ _ _ eS ?_ (CF_tr (CF_tr (CF_tr (CF_tr (CF_tr (CF_tr (CF_tr (CF_tr (CF_rf t V) f1) f31) f35) f39) f40) f41) f42) f43)
            have hh := h43
            rw [show hr τ z (pT τ z p).2 + 60 = 122 by omega]
            rw [List.append_assoc, List.append_assoc] at hh
            exact hh
          · refine y_ic rfl rfl ?_
            refine y_rI rfl (by decide) ?_
            exact k2 _ _ _ _ ((if_neg (by omega)).trans ((if_pos (by omega)).trans (if_pos (by omega)))) h35 (CF_tr (CF_tr (CF_tr (CF_rf t V) f1) f31) f35)
        · refine y_nv ?_
          refine y_zeq rfl rfl rfl (by decide) (fun g13 => ?_) (fun g13 => absurd g13 (by decide))
          refine y_ic rfl rfl ?_
          refine y_st (lv' := [(2, iv (-1)), (1, iv ((pT τ z p).1)), (0, .ref 115)]) rfl rfl (fun d => rfl) ?_
          refine y_ld (x := iv (-1)) rfl rfl (fun d => rfl) ?_
          refine y_zge rfl rfl rfl (by decide) (fun g14 => absurd g14 (by decide)) (fun g14 => ?_)
          refine y_ic rfl rfl ?_
          refine y_rI rfl (by decide) ?_
          exact k2 _ _ _ _ ((if_neg (by omega)).trans (if_neg (by omega))) h1 (CF_tr (CF_rf t V) f1)
  · refine y_ic rfl rfl ?_
    refine y_rI rfl (by decide) ?_
    exact k2 _ _ _ _ (if_pos (by omega)) h1 (CF_tr (CF_rf t V) f1)
end
