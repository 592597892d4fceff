/-! the class' text() -/
section
variable {X : Nat → List Int32} {u w : Nat} {S : m_H} {V : v_V} {K : v_K}
set_option maxRecDepth 100000 in
set_option maxHeartbeats 4000000 in
theorem cr_reads (hC : ClF S) {z : Nat} {tp tv : Value} (hRa : ce S 115 3 [tp, .int 0, .int 0, tv]) (hSl : 193 ≤ S.length ∧ S.length + 7 < 1000000) (hv : tv = .null ∨ ∃ t, tv = .ref t ∧ 193 ≤ t ∧ TxS S t) (hz : z ≤ 160) (hb : ∀ i, i < z → 0 ≤ V 2 i ∧ V 2 i ≤ 255) (k1 : ∀ t l S' V', pTx (V 2) z = (some l, z) → CT V' t l → lsO l ∧ l.length ≤ 8 → 193 ≤ t ∧ (tv = .ref t ∨ t = S.length) → (∀ k, k ≠ 115 → k < S.length → (k < t ∨ t + 6 < k) → V' k = V k) → TxS S' t → ce S' 115 3 [.ref 2, .int 0, .int 0, .null] → S'.length ≤ S.length + 7 → (∀ q, q < S.length → q ≠ 115 → m_nth S' q = m_nth S q) → K (u + 7) (w + 209) (some (.ref t)) S' V') (k2 : ∀ t q S' V', pTx (V 2) z = (none, q) → V' 115 2 = (q : Int) → q ≤ z → 193 ≤ t ∧ (tv = .ref t ∨ t = S.length) → (∀ k, k ≠ 115 → k < S.length → (k < t ∨ t + 6 < k) → V' k = V k) → TxS S' t → ce S' 115 3 [.ref 2, .int 0, .int 0, .ref t] → S'.length ≤ S.length + 7 → (∀ q, q < S.length → q ≠ 115 → m_nth S' q = m_nth S q) → K (u + 7) (w + 209) (some .null) S' V') : y_R X 23 17 u w [.ref 115, .ref 2, iv (z : Int)] S V K := by
  rcases hv with rfl | ⟨t, rfl, h1, h2⟩
  · exact cr_readsB hC hRa hSl hz hb (fun l S' V' a1 a2 a3 a4 a5 a6 a7 a8 => k1 S.length l S' V' a1 a2 a3 ⟨hSl.1, Or.inr rfl⟩ (fun k b1 b2 _ => a4 k b1 b2) a5 a6 a7 a8)
      (fun q S' V' a1 a2 a3 a4 a5 a6 a7 a8 => k2 S.length q S' V' a1 a2 a3 ⟨hSl.1, Or.inr rfl⟩ (fun k b1 b2 _ => a4 k b1 b2) a5 a6 a7 a8)
  · exact cr_readsA hC hRa h2 h1 hz hb (fun l S' V' a1 a2 a3 a4 a5 a6 a7 a8 => k1 t l S' V' a1 a2 a3 ⟨h1, Or.inl rfl⟩ (fun k b1 _ b3 => a4 k b1 b3) a5 a6 a7 a8)
      (fun q S' V' a1 a2 a3 a4 a5 a6 a7 a8 => k2 t q S' V' a1 a2 a3 ⟨h1, Or.inl rfl⟩ (fun k b1 _ b3 => a4 k b1 b3) a5 a6 a7 a8)
theorem cl_fr {S S' : m_H} (hC : ClF S) (h : ∀ q, q < S.length → q ≠ 115 → m_nth S' q = m_nth S q) : ClF S' := fun k t vs hk => by
  have e := hC k t vs hk
  have h5 : k ≠ 115 := fun q => by rw [q] at hk; cases hk
  refine ⟨e.1, (h k ?_ h5).trans e.2⟩
  exact m_nth_lt e.2
set_option maxRecDepth 100000 in
set_option maxHeartbeats 4000000 in
theorem cc_text (hC : ClF S) {z tc : Nat} {tp tv : Value} {ta : List Value} (h3 : ce S 3 22 ta) (hl3 : ta.length = 8) (hc : V 1 3 = (tc : Int)) (hc8 : tc ≤ 8) (hf : V 1 1 = (z : Int)) (hRa : ce S 115 3 [tp, .int 0, .int 0, tv]) (hSl : 193 ≤ S.length ∧ S.length + 7 < 1000000) (hv : tv = .null ∨ ∃ t, tv = .ref t ∧ 193 ≤ t ∧ TxS S t) (hz : z ≤ 160) (hb : ∀ i, i < z → 0 ≤ V 2 i ∧ V 2 i ≤ 255) (k0 : 8 ≤ tc → K u w (some (iv (-4))) S V) (k1 : tc < 8 → ∀ t l S' V', pTx (V 2) z = (some l, z) → CT V' t l → lsO l ∧ l.length ≤ 8 → 193 ≤ t ∧ (tv = .ref t ∨ t = S.length) → (∀ k, k ≠ 115 → k < S.length → (k < t ∨ t + 6 < k) → V' k = v_up V 1 1 0 k) → TxS S' t → ce S' 115 3 [.ref 2, .int 0, .int 0, .null] → S'.length ≤ S.length + 7 → (∀ q, q < S.length → q ≠ 115 → m_nth S' q = m_nth S q) → K (u + 7) (w + 209) (some (iv (tc : Int))) (S'.set 3 (22, ta.set tc (.ref t))) (v_up V' 1 3 (tc + 1))) (k2 : tc < 8 → ∀ t q S' V', pTx (V 2) z = (none, q) → V' 115 2 = (q : Int) → q ≤ z → 193 ≤ t ∧ (tv = .ref t ∨ t = S.length) → (∀ k, k ≠ 115 → k < S.length → (k < t ∨ t + 6 < k) → V' k = v_up V 1 1 0 k) → TxS S' t → ce S' 115 3 [.ref 2, .int 0, .int 0, .ref t] → S'.length ≤ S.length + 7 → (∀ q, q < S.length → q ≠ 115 → m_nth S' q = m_nth S q) → K (u + 7) (w + 209) (some (iv (-10 - (q : Int)))) S' V') : y_R X 24 71 u w [.ref 0] S V K := by
  refine y_ent (lv' := [(0, .ref 0)]) (Nat.le_of_ble_eq_true rfl) rfl ?_
  refine y_ld (x := .ref 0) rfl rfl (fun d => rfl) ?_
  refine y_gR (i := 0) rfl rfl rfl (hC 0 _ _ rfl) rfl ?_
  refine y_gI (i := 3) (e := (tc : Int)) rfl rfl rfl (hC 1 _ _ rfl) rfl hc ?_
  refine y_bi rfl rfl (by decide) ?_
  refine y_jlt rfl rfl rfl (by omega) (fun g1 => ?_) (fun g1 => ?_)
  · refine y_ld (x := .ref 0) rfl rfl (fun d => rfl) ?_
    refine y_gR (i := 0) rfl rfl rfl (hC 0 _ _ rfl) rfl ?_
    refine y_gI (i := 1) (e := (z : Int)) rfl rfl rfl (hC 1 _ _ rfl) rfl hf ?_
    refine y_st (lv' := [(1, iv (z : Int)), (0, .ref 0)]) rfl rfl (fun d => rfl) ?_
    refine y_ld (x := .ref 0) rfl rfl (fun d => rfl) ?_
    refine y_gR (i := 0) rfl rfl rfl (hC 0 _ _ rfl) rfl ?_
    refine y_ic rfl rfl ?_
    refine y_pI (i := 1) rfl rfl rfl (hC 1 _ _ rfl) rfl rfl ?_
    refine y_ld (x := .ref 0) rfl rfl (fun d => rfl) ?_
    refine y_gR (i := 3) rfl rfl rfl (hC 0 _ _ rfl) rfl ?_
    refine y_ld (x := .ref 0) rfl rfl (fun d => rfl) ?_
    refine y_gR (i := 0) rfl rfl rfl (hC 0 _ _ rfl) rfl ?_
    refine y_gR (i := 0) rfl rfl rfl (hC 1 _ _ rfl) rfl ?_
    refine y_ld (x := iv (z : Int)) rfl rfl (fun d => rfl) ?_
    refine y_cV (as := [.ref 115, .ref 2, iv (z : Int)]) rfl rfl rfl rfl rfl hRa ⟨rfl, (Nat.le_of_ble_eq_true rfl), (Nat.le_of_ble_eq_true rfl)⟩ (by decide) (cr_reads (V := v_up V 1 1 0) hC hRa hSl hv hz (by rw [v_up_ne (by decide)]; exact hb) (fun t l S1 V1 q1 q2 q3 q4 q5 q6 q7 q8 q9 => ?_) (fun t q S1 V1 q1 q2 q3 q4 q5 q6 q7 q8 q9 => ?_))
    · have q4a : 193 ≤ t := q4.1
      have e1 : V1 1 = v_up V 1 1 0 1 := q5 1 (by decide) (by omega) (Or.inl (by exact Nat.lt_of_lt_of_le (by decide) q4a))
      have e13 : V1 1 3 = V 1 3 := by rw [e1, v_up_ni (by decide)]
      have hCn : ClF S1 := cl_fr hC q9
      have hS3 : ce S1 3 22 ta := ⟨h3.1, (q9 3 (by omega) (by decide)).trans h3.2⟩
      rw [v_up_ne (by decide)] at q1
      have e13 : V1 1 3 = (tc : Int) := e13.trans hc
      refine y_nv ?_
      refine y_st (lv' := [(2, .ref t), (1, iv (z : Int)), (0, .ref 0)]) rfl rfl (fun d => rfl) ?_
      refine y_ld (x := .ref t) rfl rfl (fun d => rfl) ?_
      refine y_in (pc' := 62) rfl rfl (fun d => rfl) ?_
      refine y_ld (x := .ref 0) rfl rfl (fun d => rfl) ?_
      refine y_gR (i := 0) rfl rfl rfl (hCn 0 _ _ rfl) rfl ?_
      refine y_gR (i := 2) rfl rfl rfl (hCn 1 _ _ rfl) rfl ?_
      refine y_ld (x := .ref 0) rfl rfl (fun d => rfl) ?_
      refine y_gR (i := 0) rfl rfl rfl (hCn 0 _ _ rfl) rfl ?_
      refine y_gI (i := 3) (e := (V1 1 3)) rfl rfl rfl (hCn 1 _ _ rfl) rfl rfl ?_
      refine y_ld (x := .ref t) rfl rfl (fun d => rfl) ?_
      refine y_S (S' := S1) rfl ?_
      refine y_rst (i := tc) (e := V1 1 3) rfl rfl hS3 (by decide) (by omega) (by omega) (by omega) (Or.inr ⟨t, _, rfl, q6.1⟩) ?_
      have hCm : ClF (S1.set 3 (22, ta.set tc (.ref t))) := cl_set hCn (by decide)
      refine y_ld (x := .ref 0) rfl rfl (fun d => rfl) ?_
      refine y_gR (i := 0) rfl rfl rfl (hCm 0 _ _ rfl) rfl ?_
      refine y_in rfl rfl (fun d => rfl) ?_
      refine y_gI (i := 3) (e := (V1 1 3)) rfl rfl rfl (hCm 1 _ _ rfl) rfl rfl ?_
      refine y_ic rfl rfl ?_
      refine y_add (z := ((V1 1 3) + 1)) rfl rfl rfl ?_
      refine y_pI (i := 3) rfl rfl rfl (hCm 1 _ _ rfl) rfl rfl ?_
      refine y_ld (x := .ref 0) rfl rfl (fun d => rfl) ?_
      refine y_gR (i := 0) rfl rfl rfl (hCm 0 _ _ rfl) rfl ?_
      refine y_gI (i := 3) (e := ((V1 1 3) + 1)) rfl rfl rfl (hCm 1 _ _ rfl) rfl rfl ?_
      refine y_ic rfl rfl ?_
      refine y_sub (z := (((V1 1 3) + 1) - 1)) rfl rfl rfl ?_
      refine y_rI rfl (Or.inl rfl) ?_
      have := k1 (by omega) t l S1 V1 q1 q2 q3 q4 q5 q6 q7 q8 q9
      rw [e13]
      rw [show (tc : Int) + 1 - 1 = (tc : Int) by omega]
      exact this
    · have q4a : 193 ≤ t := q4.1
      have e1 : V1 1 = v_up V 1 1 0 1 := q5 1 (by decide) (by omega) (Or.inl (by exact Nat.lt_of_lt_of_le (by decide) q4a))
      have e13 : V1 1 3 = V 1 3 := by rw [e1, v_up_ni (by decide)]
      have hCn : ClF S1 := cl_fr hC q9
      have hS3 : ce S1 3 22 ta := ⟨h3.1, (q9 3 (by omega) (by decide)).trans h3.2⟩
      rw [v_up_ne (by decide)] at q1
      refine y_nv ?_
      refine y_st (lv' := [(2, .null), (1, iv (z : Int)), (0, .ref 0)]) rfl rfl (fun d => rfl) ?_
      refine y_ld (x := .null) rfl rfl (fun d => rfl) ?_
      refine y_in (pc' := 51) rfl rfl (fun d => rfl) ?_
      refine y_bi rfl rfl (by decide) ?_
      refine y_ld (x := .ref 0) rfl rfl (fun d => rfl) ?_
      refine y_gR (i := 3) rfl rfl rfl (hCn 0 _ _ rfl) rfl ?_
      refine y_gI (i := 2) (e := (q : Int)) rfl rfl rfl q7 rfl q2 ?_
      refine y_sub (z := ((-10) - (q : Int))) rfl rfl rfl ?_
      refine y_rI rfl (Or.inl rfl) ?_
      exact k2 (by omega) t q S1 V1 q1 q2 q3 q4 q5 q6 q7 q8 q9
  · refine y_bi rfl rfl (by decide) ?_
    refine y_rI rfl (Or.inl rfl) ?_
    exact k0 (by omega)
end
