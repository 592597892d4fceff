section
variable {X : Nat → List Int32} {u w : Nat} {S : m_H} {V : v_V} {K : v_K}
set_option maxRecDepth 100000 in
set_option maxHeartbeats 4000000 in
theorem rd33 (hC : ClF S) {t z : Nat} (hR : RdS S t) (hX : TxS S t) (ht : 193 ≤ t) (hz : z ≤ 160) (hb : ∀ i, i < z → 0 ≤ V 2 i ∧ V 2 i ≤ 255) (h1 : V 115 1 = (z : Int)) (h2 : V 115 2 = 0) (k1 : ∀ l V', pTx (V 2) z = (some l, z) → CT V' t l → lsO l ∧ l.length ≤ 8 → CX t V V' → K u w (some (.ref t)) (S.set 115 (3, [.ref 2, .int 0, .int 0, .null])) V') (k2 : ∀ q V', pTx (V 2) z = (none, q) → V' 115 2 = (q : Int) → q ≤ z → CX t V V' → K u w (some .null) S V') : y_E X 22 17 5000 u w 33 [(0, .ref 115), (1, .ref 2), (2, iv (z : Int))] [] S V K := by
  refine y_mono (F' := 3000) ?_ (by decide)
  refine y_ld (x := .ref 115) rfl rfl (fun d => rfl) ?_
  refine y_gR (i := 3) rfl rfl rfl hR rfl ?_
  refine y_cV (as := [.ref t]) rfl rfl rfl rfl rfl hX.1 ⟨rfl, (Nat.le_of_ble_eq_true rfl), (Nat.le_of_ble_eq_true rfl)⟩ (by decide) (cr_clear hX ?_)
  refine y_n0 ?_
  refine y_ic rfl rfl ?_
  refine y_st (lv' := [(3, iv 0), (0, .ref 115), (1, .ref 2), (2, iv (z : Int))]) rfl rfl (fun d => rfl) ?_
  refine y_lv (l' := [(0, .ref 115), (1, .ref 2), (2, iv (z : Int)), (3, iv 0)]) rfl ⟨rfl, rfl, rfl, rfl, trivial⟩ ?_
  have hW : CX t V (v_ur (v_up (v_up (v_up V t 0 0) t 6 0) t 7 0) (t + 6) (fun _ => -5)) := by
    refine ⟨fun k q1 q2 => ?_, fun i q => ?_⟩
    · rw [v_ur_ne (by omega), v_up_ne (by omega), v_up_ne (by omega), v_up_ne (by omega)]
    · rw [v_ur_ne (by omega), v_up_ne (by omega), v_up_ne (by omega), v_up_ne (by omega)]
  refine y_mono (lp_reads (τ := V 2) hC hR hX ht ⟨by decide, hz, hb⟩ 8 0 _ _ _ _ 0 [] rfl (by decide) rfl (by omega) (Nat.le_refl 0) (fun x hx => by cases hx) ⟨?_, ?_, ?_, ?_, ?_, fun i x hi => (by cases hi), ?_, ?_⟩ (fun i x hi => by cases hi) ?_ ?_) (by decide)
  · rw [v_ur_ne (by omega), v_up_ne (by omega), v_up_ne (by omega), v_up_ne (by omega)]; exact h1
  · rw [v_ur_ne (by omega), v_up_ne (by omega), v_up_ne (by omega), v_up_ne (by omega)]; exact h2
  · intro i hi; rw [v_ur_ne (by omega), v_up_ne (by omega), v_up_ne (by omega), v_up_ne (by omega)]
  · rw [v_ur_ne (by omega), v_up_ni (by decide), v_up_ni (by decide), v_up_eq]; rfl
  · rw [v_ur_ne (by omega), v_up_ni (by decide), v_up_eq]; rfl
  · intro c hc; rw [v_ur_eq]; rfl
  · rw [v_ur_ne (by omega), v_up_eq]; exact ⟨by decide, by decide, fun c hc => by rw [Int.zero_ediv]; rfl⟩
  · intro l V' a1 a2 a3
    have po := pLs_ok hz _ _ _ _ _ (by omega) (fun x hx => by cases hx) a1
    have pp := po.2.2 _ rfl
    exact k1 l V' ((pTx_eq a1).trans (if_pos rfl)) a2 ⟨pp.2.1, by have := pp.2.2; simpa using this⟩ (CX_tr hW a3)
  · intro q V' a1 a2 a3 a4
    refine k2 q V' ?_ a2 a3 (CX_tr hW a4)
    rcases a1 with a1 | ⟨l, a1, a5⟩
    · exact pTx_no a1
    · exact (pTx_eq a1).trans (if_neg a5)
theorem Tx_set {S : m_H} {t : Nat} {c : Nat × List Value} (hX : TxS S t) (ht : 193 ≤ t) : TxS (S.set 115 c) t :=
  ⟨ce_ne hX.1 (by omega), ce_ne hX.2.1 (by omega), ce_ne hX.2.2.1 (by omega), ce_ne hX.2.2.2.1 (by omega), ce_ne hX.2.2.2.2.1 (by omega), ce_ne hX.2.2.2.2.2.1 (by omega), ce_ne hX.2.2.2.2.2.2 (by omega)⟩
theorem dfl_ok {b : Nat} (h : ∀ v ∈ m_dfl b, v = iv 0 ∨ v = .null) : ∀ v ∈ m_dfl b, v = iv 0 ∨ ∀ x, v ≠ .int x :=
  fun v hv => (h v hv).imp id (fun e x q => by rw [e] at q; cases q)
def CY (t : Nat) (V V' : v_V) : Prop := ∀ k, k ≠ 115 → k < t ∨ t + 6 < k → V' k = V k
set_option maxRecDepth 100000 in
set_option maxHeartbeats 4000000 in
theorem cr_readsA (hC : ClF S) {t z : Nat} {tp : Value} (hRa : ce S 115 3 [tp, .int 0, .int 0, .ref t]) (hX : TxS S t) (ht : 193 ≤ t) (hz : z ≤ 160) (hb : ∀ i, i < z → 0 ≤ V 2 i ∧ V 2 i ≤ 255) (k1 : ∀ l S' V', pTx (V 2) z = (some l, z) → CT V' t l → lsO l ∧ l.length ≤ 8 → CY t V V' → TxS S' t → ce S' 115 3 [.ref 2, .int 0, .int 0, .null] → S'.length ≤ S.length + 7 → (∀ q, q < S.length → q ≠ 115 → m_nth S' q = m_nth S q) → K (u + 7) (w + 209) (some (.ref t)) S' V') (k2 : ∀ q S' V', pTx (V 2) z = (none, q) → V' 115 2 = (q : Int) → q ≤ z → CY t V V' → TxS S' t → ce S' 115 3 [.ref 2, .int 0, .int 0, .ref t] → S'.length ≤ S.length + 7 → (∀ q, q < S.length → q ≠ 115 → m_nth S' q = m_nth S q) → K (u + 7) (w + 209) (some .null) S' V') : y_R X 23 17 u w [.ref 115, .ref 2, iv (z : Int)] S V K := by
  refine y_ent (lv' := [(0, .ref 115), (1, .ref 2), (2, iv (z : Int))]) (Nat.le_of_ble_eq_true rfl) rfl ?_
  refine y_ld (x := .ref 115) rfl rfl (fun d => rfl) ?_
  refine y_ld (x := .ref 2) rfl rfl (fun d => rfl) ?_
  refine y_pR (i := 0) rfl rfl rfl hRa (by simp) ⟨rfl, fun x hx => by cases hx⟩ ?_
  have hR1 : ce (S.set 115 (3, [.ref 2, .int 0, .int 0, .ref t])) 115 3 [.ref 2, .int 0, .int 0, .ref t] := ce_eq hRa
  refine y_S (S' := S.set 115 (3, [.ref 2, .int 0, .int 0, .ref t])) rfl ?_
  refine y_ld (x := .ref 115) rfl rfl (fun d => rfl) ?_
  refine y_ld (x := iv (z : Int)) rfl rfl (fun d => rfl) ?_
  refine y_pI (i := 1) rfl rfl rfl hR1 rfl rfl ?_
  refine y_ld (x := .ref 115) rfl rfl (fun d => rfl) ?_
  refine y_ic rfl rfl ?_
  refine y_pI (i := 2) rfl rfl rfl hR1 rfl rfl ?_
  refine y_ld (x := .ref 115) rfl rfl (fun d => rfl) ?_
  refine y_gR (i := 3) rfl rfl rfl hR1 rfl ?_
  refine y_in (pc' := 33) rfl rfl (fun d => rfl) ?_
  refine y_lv (l' := [(0, .ref 115), (1, .ref 2), (2, iv (z : Int))]) rfl ⟨rfl, rfl, rfl, trivial⟩ ?_
  have hX1 := Tx_set hX ht (c := (3, [.ref 2, .int 0, .int 0, .ref t]))
  refine y_up (u' := u + 7) (w' := w + 209) (y_mono (rd33 (cl_set hC (by decide)) hR1 hX1 ht hz hb rfl rfl (fun l V' a1 a2 a3 a4 => ?_) (fun q V' a1 a2 a3 a4 => ?_)) (by decide)) (by omega) (by omega)
  · rw [List.set_set]
    exact k1 l _ V' a1 a2 a3 (fun k h5 h6 => (a4.1 k h5 h6).trans (by rw [v_up_ne h5, v_up_ne h5])) (Tx_set hX ht) (ce_eq hRa) (by rw [List.length_set]; omega) (fun q hq h5 => by rw [m_nth_set, if_neg h5])
  · exact k2 q _ V' a1 a2 a3 (fun k h5 h6 => (a4.1 k h5 h6).trans (by rw [v_up_ne h5, v_up_ne h5])) hX1 hR1 (by rw [List.length_set]; omega) (fun q hq h5 => by rw [m_nth_set, if_neg h5])
set_option maxRecDepth 100000 in
set_option maxHeartbeats 4000000 in
theorem cr_readsB (hC : ClF S) {z : Nat} {tp : Value} (hRa : ce S 115 3 [tp, .int 0, .int 0, .null]) (hSl : 193 ≤ S.length ∧ S.length + 7 < 1000000) (hz : z ≤ 160) (hb : ∀ i, i < z → 0 ≤ V 2 i ∧ V 2 i ≤ 255) (k1 : ∀ l S' V', pTx (V 2) z = (some l, z) → CT V' S.length l → lsO l ∧ l.length ≤ 8 → (∀ k, k ≠ 115 → k < S.length → V' k = V k) → TxS S' S.length → ce S' 115 3 [.ref 2, .int 0, .int 0, .null] → S'.length ≤ S.length + 7 → (∀ q, q < S.length → q ≠ 115 → m_nth S' q = m_nth S q) → K (u + 7) (w + 209) (some (.ref S.length)) S' V') (k2 : ∀ q S' V', pTx (V 2) z = (none, q) → V' 115 2 = (q : Int) → q ≤ z → (∀ k, k ≠ 115 → k < S.length → V' k = V k) → TxS S' S.length → ce S' 115 3 [.ref 2, .int 0, .int 0, .ref S.length] → S'.length ≤ S.length + 7 → (∀ q, q < S.length → q ≠ 115 → m_nth S' q = m_nth S q) → K (u + 7) (w + 209) (some .null) S' V') : y_R X 23 17 u w [.ref 115, .ref 2, iv (z : Int)] S V K := by
  refine y_ent (lv' := [(0, .ref 115), (1, .ref 2), (2, iv (z : Int))]) (Nat.le_of_ble_eq_true rfl) rfl ?_
  refine y_ld (x := .ref 115) rfl rfl (fun d => rfl) ?_
  refine y_ld (x := .ref 2) rfl rfl (fun d => rfl) ?_
  refine y_pR (i := 0) rfl rfl rfl hRa (by simp) ⟨rfl, fun x hx => by cases hx⟩ ?_
  have hR1 : ce (S.set 115 (3, [.ref 2, .int 0, .int 0, .null])) 115 3 [.ref 2, .int 0, .int 0, .null] := ce_eq hRa
  refine y_S (S' := S.set 115 (3, [.ref 2, .int 0, .int 0, .null])) rfl ?_
  refine y_ld (x := .ref 115) rfl rfl (fun d => rfl) ?_
  refine y_ld (x := iv (z : Int)) rfl rfl (fun d => rfl) ?_
  refine y_pI (i := 1) rfl rfl rfl hR1 rfl rfl ?_
  refine y_ld (x := .ref 115) rfl rfl (fun d => rfl) ?_
  refine y_ic rfl rfl ?_
  refine y_pI (i := 2) rfl rfl rfl hR1 rfl rfl ?_
  refine y_ld (x := .ref 115) rfl rfl (fun d => rfl) ?_
  refine y_gN (i := 3) rfl rfl rfl hR1 rfl ?_
  refine y_in (pc' := 22) rfl rfl (fun d => rfl) ?_
  refine y_ld (x := .ref 115) rfl rfl (fun d => rfl) ?_
  refine y_new (z := 9) rfl rfl (by rw [List.length_set]; omega) rfl (dfl_ok (by decide)) ?_
  rw [List.length_set]
  refine y_in rfl rfl (fun d => rfl) ?_
  have hnew : ce ((S.set 115 (3, [.ref 2, .int 0, .int 0, .null])) ++ [(6, m_dfl 6)]) S.length 6 (m_dfl 6) := by have e := ce_new (S := S.set 115 (3, [.ref 2, .int 0, .int 0, .null])) (t := 6) (vs := m_dfl 6) (by rw [List.length_set]; omega); rw [List.length_set] at e; exact e
  refine y_cI (as := [.ref S.length]) rfl (by decide) rfl rfl rfl rfl ⟨(Nat.le_of_ble_eq_true rfl), (Nat.le_of_ble_eq_true rfl), (by omega)⟩ (by decide) (cr_init (a := S.length) (hnew) (by simp) (by omega) (fun S1 V1 b1 b2 b3 b4 => ?_))
  have hRb : ce S1 115 3 [.ref 2, .int 0, .int 0, .null] := ⟨by decide, (b3 115 (by omega)).trans (by rw [m_nth_app, if_neg (by rw [List.length_set]; omega)]; exact hR1.2)⟩
  refine y_n0 ?_
  refine y_pR (i := 3) rfl rfl rfl hRb (by simp) ⟨rfl, fun x hx => by cases hx⟩ ?_
  refine y_lv (l' := [(0, .ref 115), (1, .ref 2), (2, iv (z : Int))]) rfl ⟨rfl, rfl, rfl, trivial⟩ ?_
  have hR2 : RdS (S1.set 115 (3, [.ref 2, .int 0, .int 0, .ref S.length])) S.length := ce_eq hRb
  refine y_S (S' := S1.set 115 (3, [.ref 2, .int 0, .int 0, .ref S.length])) rfl ?_
  have hX2 := Tx_set b1 (by omega) (c := (3, [.ref 2, .int 0, .int 0, .ref S.length]))
  have hold : ∀ q, q < S.length → q ≠ 115 → m_nth S1 q = m_nth S q := fun q hq h5 => (b3 q hq).trans (by rw [m_nth_app, if_neg (by rw [List.length_set]; omega), m_nth_set, if_neg h5])
  have hC1 : ClF (S1.set 115 (3, [.ref 2, .int 0, .int 0, .ref S.length])) := fun k t vs hk => by
    have e := hC k t vs hk
    have h5 : k ≠ 115 := fun q => by rw [q] at hk; cases hk
    refine ce_ne ⟨e.1, (hold k ?_ h5).trans e.2⟩ h5
    have := m_nth_lt e.2
    omega
  have e2 : V1 2 = V 2 := (b4 2 (by omega)).trans (by unfold v_zer; rw [v_ur_ne (by omega)]; rfl)
  have e15 : V1 115 1 = (z : Int) ∧ V1 115 2 = 0 := by rw [b4 115 (by omega)]; unfold v_zer; rw [v_ur_ne (by omega)]; exact ⟨rfl, rfl⟩
  have ev : ∀ k, k < S.length → k ≠ 115 → V1 k = V k := fun k h5 h6 => (b4 k h5).trans (by unfold v_zer; rw [v_ur_ne (by omega), v_up_ne h6, v_up_ne h6])
  refine y_mono (rd33 hC1 hR2 hX2 (by omega) hz (by rw [e2]; exact hb) e15.1 e15.2 (fun l V' a1 a2 a3 a4 => ?_) (fun q V' a1 a2 a3 a4 => ?_)) (by decide)
  · rw [List.set_set]
    rw [e2] at a1
    exact k1 l _ V' a1 a2 a3 (fun k h5 h6 => a4.1 k h5 (Or.inl h6) |>.trans (ev k h6 h5)) (Tx_set b1 (by omega)) (ce_eq hRb) (by rw [List.length_set]; omega) (fun q hq h5 => by rw [m_nth_set, if_neg h5]; exact hold q hq h5)
  · rw [e2] at a1
    exact k2 q _ V' a1 a2 a3 (fun k h5 h6 => a4.1 k h5 (Or.inl h6) |>.trans (ev k h6 h5)) hX2 hR2 (by rw [List.length_set]; omega) (fun q hq h5 => by rw [m_nth_set, if_neg h5]; exact hold q hq h5)
end
