/-! ACTS of a LINE in the class -/
def encAc : List p_Ac → List Int
  | [] => []
  | (c, l) :: r => (if 126 ≤ c then [c] else c :: (l.length : Int) :: l) ++ encAc r
theorem encAc_app (l r : List p_Ac) : encAc (l ++ r) = encAc l ++ encAc r := by
  induction l with
  | nil => rfl
  | cons x l ih =>
    obtain ⟨c, a⟩ := x
    simp [encAc, ih]
/-- where a LINE can't go on -/
def bdq (τ : Nat → Int) (z q : Nat) : Prop := hr τ z q = 43 ∨ hr τ z q = 45 ∨ hr τ z q = 44
/-- behind a SUM that can't go on -/
def pmq (τ : Nat → Int) (z q : Nat) : Prop := hr τ z q = 43 ∨ hr τ z q = 45
def CH (t ln0 : Nat) (V V' : v_V) : Prop := (∀ k, k ≠ 115 → k ≠ t → k ≠ t + 4 → k ≠ t + 5 → k ≠ t + 6 → V' k = V k) ∧ (∀ i, i ≠ 2 → V' 115 i = V 115 i) ∧ V' t 0 = V t 0 ∧ ∀ i, i ≠ ln0 → V' (t + 4) i = V (t + 4) i
theorem CH_rf (t n : Nat) (V : v_V) : CH t n V V := ⟨fun _ _ _ _ _ _ => rfl, fun _ _ => rfl, rfl, fun _ _ => rfl⟩
theorem CH_tr {t n : Nat} {V V' V'' : v_V} (h : CH t n V V') (h2 : CH t n V' V'') : CH t n V V'' :=
  ⟨fun k q1 q2 q3 q4 q5 => (h2.1 k q1 q2 q3 q4 q5).trans (h.1 k q1 q2 q3 q4 q5), fun i q => (h2.2.1 i q).trans (h.2.1 i q), h2.2.2.1.trans h.2.2.1, fun i q => (h2.2.2.2 i q).trans (h.2.2.2 i q)⟩
theorem CH_cf {t n : Nat} {V V' : v_V} (ht : 193 ≤ t) (h : CF t V V') : CH t n V V' :=
  ⟨fun k q1 q2 q3 q4 q5 => h.1 k q1 q2 q4 q5, h.2.1, h.2.2, fun i _ => congrFun (h.1 (t + 4) (by omega) (by omega) (by omega) (by omega)) i⟩
theorem CH_4 {t n : Nat} {V : v_V} {x : Int} (ht : 193 ≤ t) : CH t n V (v_up V (t + 4) n x) := by
  refine ⟨fun k q1 q2 q3 q4 q5 => v_up_ne q3, fun i q => ?_, ?_, fun i q => v_up_ni q⟩
  · rw [v_up_ne (by omega)]
  · rw [v_up_ne (by omega)]
theorem CP_r {V V' : v_V} {t z : Nat} {τ : Nat → Int} {p : Nat} {ln : Int} {st : List Int} {g : Nat → Int} (h : CP V t z τ p ln st g) (h1 : V' 115 = V 115) (h2 : V' 2 = V 2) (h3 : V' t = V t) (h5 : V' (t + 5) = V (t + 5)) (h6 : V' (t + 6) = V (t + 6)) : CP V' t z τ p ln st g := by
  obtain ⟨a1, a2, a3, a4, a5, a6, a7, a8⟩ := h
  exact ⟨by rw [h1]; exact a1, by rw [h1]; exact a2, by rw [h2]; exact a3, by rw [h3]; exact a4, by rw [h3]; exact a5, by rw [h5]; exact a6, by rw [h6]; exact a7, by rw [h3]; exact a8⟩
theorem CP_4 {V : v_V} {t z : Nat} {τ : Nat → Int} {p : Nat} {ln x : Int} {st : List Int} {g : Nat → Int} {i : Nat} (ht : 193 ≤ t) (h : CP V t z τ p ln st g) : CP (v_up V (t + 4) i x) t z τ p ln st g :=
  CP_r h (v_up_ne (by omega)) (v_up_ne (by omega)) (v_up_ne (by omega)) (v_up_ne (by omega)) (v_up_ne (by omega))
theorem encAc_len {x : p_Ac} {τ : Nat → Int} {z p q : Nat} (hp : p ≤ z) (h : pA τ z p = (some x, q)) : (encAc [x]).length + p ≤ q := by
  have h0 : hr τ z p ≠ -1 → p < z := hr_le
  have h1 := pT_le τ z p hp
  have h2 : hr τ z (pT τ z p).2 ≠ -1 → (pT τ z p).2 < z := hr_le
  unfold pA at h
  split at h
  · cases h; have := h0 (by omega); show 1 + p ≤ p + 1; omega
  split at h
  · cases h; have := h0 (by omega); show 1 + p ≤ p + 1; omega
  split at h
  · cases h; have := h0 (by omega); show 1 + p ≤ p + 1; omega
  split at h
  · rename_i hc
    split at h
    · cases h
    · have h3 := pT_cell hc (by omega)
      have h5 : p + 2 ≤ (pT τ z p).2 := by
        by_cases hd : 48 ≤ hr τ z (p + 1) ∧ hr τ z (p + 1) ≤ 51
        · rw [pT_c1 hc hd]
          exact Nat.le_refl _
        · rw [pT_c0 hc hd] at h3
          exact absurd h3.1 (by simp)
      split at h
      · have h4 := h2 (by omega)
        split at h
        · rename_i l1 q1 ee
          have kk := pM_ok _ _ _ _ _ _ (by omega) (Or.inl rfl) (fun t ht => by cases ht) ee
          cases h
          have k3 := kk.2.2 l1 rfl
          have k4 := k3.1
          simp only [List.length_nil] at k4
          unfold encAc
          rw [if_neg (by omega)]
          unfold encAc
          simp only [List.append_nil, List.length_cons]
          omega
        · cases h
      · cases h
  · cases h
section
variable {X : Nat → List Int32} {u w : Nat} {S : m_H} {V : v_V} {K : v_K}
set_option maxRecDepth 100000 in
set_option maxHeartbeats 4000000 in
theorem cr_act (hC : ClF S) {t z : Nat} {τ : Nat → Int} {ln : Int} {st0 : List Int} {g0 : Nat → Int} (hR : RdS S t) (hX : TxS S t) (ht : 193 ≤ t) (hT : Tp τ 0 z) (hln : 1 ≤ ln ∧ ln ≤ 8) (hg0 : ∀ c, c < 8 → 0 ≤ g0 c ∧ g0 c ≤ 10) {p : Nat} (hp : p ≤ z) (hl : st0.length ≤ p) (h : CP V t z τ p ln st0 g0) (k1 : ∀ x q V', pA τ z p = (some x, q) → CP V' t z τ q ln (st0 ++ encAc [x]) (mkA (ln - 1) g0 [x]) → CF t V V' → K u w (some (iv 1)) S V') (k2 : ∀ q V' st' g', (pA τ z p = (none, q) ∨ ∃ x, pA τ z p = (some x, q) ∧ pmq τ z q) → CP V' t z τ q ln st' g' → CF t V V' → K u w (some (iv 0)) S V') : y_R X 5 25 u w [.ref 115] S V K := by
  have hz := hT.2.1
  have hq0 := hr_rg hT p
  refine y_ent (lv' := [(0, .ref 115)]) (Nat.le_of_ble_eq_true rfl) rfl ?_
  refine y_ld (x := .ref 115) rfl rfl (fun d => rfl) ?_
  refine y_bi rfl rfl (by decide) ?_
  refine y_cV (as := [.ref 115, iv 112]) rfl rfl rfl rfl rfl hR ⟨rfl, (Nat.le_of_ble_eq_true rfl), (Nat.le_of_ble_eq_true rfl)⟩ (by decide) (cr_takes hC hR hX ht hT (by decide) h (by omega) (fun q2 V1 h1 f1 => ?_) (fun q3 => ?_))
  · have pl4 := hr_le (τ := τ) (z := z) (p := p) (by omega)
    refine y_nv ?_
    refine y_zeq rfl rfl rfl (by decide) (fun g1 => absurd g1 (by decide)) (fun g1 => ?_)
    refine y_bi rfl rfl (by decide) ?_
    refine y_go rfl rfl ?_
    refine y_st (lv' := [(1, iv 126), (0, .ref 115)]) rfl rfl (fun d => rfl) ?_
    refine y_ld (x := iv 126) rfl rfl (fun d => rfl) ?_
    refine y_zlt rfl rfl rfl (by decide) (fun g2 => absurd g2 (by decide)) (fun g2 => ?_)
    refine y_ld (x := .ref 115) rfl rfl (fun d => rfl) ?_
    refine y_gR (i := 3) rfl rfl rfl hR rfl ?_
    refine y_ld (x := iv 126) rfl rfl (fun d => rfl) ?_
    refine y_cV (as := [.ref t, iv 126]) rfl rfl rfl rfl rfl hX.1 ⟨rfl, (Nat.le_of_ble_eq_true rfl), (Nat.le_of_ble_eq_true rfl)⟩ (by decide) (cr_add hC hR hX ht hT h1 (by first | omega | (simp; omega)) (fun V5 h5 f5 => ?_))
    refine y_n0 ?_
    refine y_ic rfl rfl ?_
    refine y_rI rfl (by decide) ?_
    exact k1 (126, []) _ _ (by unfold pA; rw [if_pos q2]) h5 (CF_tr (CF_tr (CF_rf t V) f1) f5)
  · refine y_nv ?_
    refine y_zeq rfl rfl rfl (by decide) (fun g3 => ?_) (fun g3 => absurd g3 (by decide))
    refine y_ld (x := .ref 115) rfl rfl (fun d => rfl) ?_
    refine y_bi rfl rfl (by decide) ?_
    refine y_cV (as := [.ref 115, iv 100]) rfl rfl rfl rfl rfl hR ⟨rfl, (Nat.le_of_ble_eq_true rfl), (Nat.le_of_ble_eq_true rfl)⟩ (by decide) (cr_takes hC hR hX ht hT (by decide) h (by omega) (fun q7 V6 h6 f6 => ?_) (fun q8 => ?_))
    · have pl9 := hr_le (τ := τ) (z := z) (p := p) (by omega)
      refine y_nv ?_
      refine y_zeq rfl rfl rfl (by decide) (fun g4 => absurd g4 (by decide)) (fun g4 => ?_)
      refine y_bi rfl rfl (by decide) ?_
      refine y_go rfl rfl ?_
      refine y_st (lv' := [(1, iv 127), (0, .ref 115)]) rfl rfl (fun d => rfl) ?_
      refine y_ld (x := iv 127) rfl rfl (fun d => rfl) ?_
      refine y_zlt rfl rfl rfl (by decide) (fun g5 => absurd g5 (by decide)) (fun g5 => ?_)
      refine y_ld (x := .ref 115) rfl rfl (fun d => rfl) ?_
      refine y_gR (i := 3) rfl rfl rfl hR rfl ?_
      refine y_ld (x := iv 127) rfl rfl (fun d => rfl) ?_
      refine y_cV (as := [.ref t, iv 127]) rfl rfl rfl rfl rfl hX.1 ⟨rfl, (Nat.le_of_ble_eq_true rfl), (Nat.le_of_ble_eq_true rfl)⟩ (by decide) (cr_add hC hR hX ht hT h6 (by first | omega | (simp; omega)) (fun V10 h10 f10 => ?_))
      refine y_n0 ?_
      refine y_ic rfl rfl ?_
      refine y_rI rfl (by decide) ?_
      exact k1 (127, []) _ _ (by unfold pA; rw [if_neg q3, if_pos q7]) h10 (CF_tr (CF_tr (CF_rf t V) f6) f10)
    · refine y_nv ?_
      refine y_zeq rfl rfl rfl (by decide) (fun g6 => ?_) (fun g6 => absurd g6 (by decide))
      refine y_ld (x := .ref 115) rfl rfl (fun d => rfl) ?_
      refine y_bi rfl rfl (by decide) ?_
      refine y_cV (as := [.ref 115, iv 98]) rfl rfl rfl rfl rfl hR ⟨rfl, (Nat.le_of_ble_eq_true rfl), (Nat.le_of_ble_eq_true rfl)⟩ (by decide) (cr_takes hC hR hX ht hT (by decide) h (by omega) (fun q12 V11 h11 f11 => ?_) (fun q13 => ?_))
      · have pl14 := hr_le (τ := τ) (z := z) (p := p) (by omega)
        refine y_nv ?_
        refine y_zeq rfl rfl rfl (by decide) (fun g7 => absurd g7 (by decide)) (fun g7 => ?_)
        refine y_si rfl rfl (by decide) ?_
        refine y_go rfl rfl ?_
        refine y_st (lv' := [(1, iv 128), (0, .ref 115)]) rfl rfl (fun d => rfl) ?_
        refine y_ld (x := iv 128) rfl rfl (fun d => rfl) ?_
        refine y_zlt rfl rfl rfl (by decide) (fun g8 => absurd g8 (by decide)) (fun g8 => ?_)
        refine y_ld (x := .ref 115) rfl rfl (fun d => rfl) ?_
        refine y_gR (i := 3) rfl rfl rfl hR rfl ?_
        refine y_ld (x := iv 128) rfl rfl (fun d => rfl) ?_
        refine y_cV (as := [.ref t, iv 128]) rfl rfl rfl rfl rfl hX.1 ⟨rfl, (Nat.le_of_ble_eq_true rfl), (Nat.le_of_ble_eq_true rfl)⟩ (by decide) (cr_add hC hR hX ht hT h11 (by first | omega | (simp; omega)) (fun V15 h15 f15 => ?_))
        refine y_n0 ?_
        refine y_ic rfl rfl ?_
        refine y_rI rfl (by decide) ?_
        exact k1 (128, []) _ _ (by unfold pA; rw [if_neg q3, if_neg q8, if_pos q12]) h15 (CF_tr (CF_tr (CF_rf t V) f11) f15)
      · refine y_nv ?_
        refine y_zeq rfl rfl rfl (by decide) (fun g9 => ?_) (fun g9 => absurd g9 (by decide))
        refine y_ic rfl rfl ?_
        refine y_st (lv' := [(1, iv (-1)), (0, .ref 115)]) rfl rfl (fun d => rfl) ?_
        refine y_ld (x := iv (-1)) rfl rfl (fun d => rfl) ?_
        refine y_zlt rfl rfl rfl (by decide) (fun g10 => ?_) (fun g10 => absurd g10 (by decide))
        refine y_ld (x := .ref 115) rfl rfl (fun d => rfl) ?_
        refine y_cV (as := [.ref 115]) rfl rfl rfl rfl rfl hR ⟨rfl, (Nat.le_of_ble_eq_true rfl), (Nat.le_of_ble_eq_true rfl)⟩ (by decide) (cr_next hC hR hX ht hT h (by omega) ?_)
        have hq60 := hr_rg hT (p)
        refine y_nv ?_
        refine y_bi rfl rfl (by decide) ?_
        refine y_jeq rfl rfl rfl (by omega) (fun g11 => ?_) (fun g11 => ?_)
        · refine y_ld (x := .ref 115) rfl rfl (fun d => rfl) ?_
          refine y_cV (as := [.ref 115]) rfl rfl rfl rfl rfl hR ⟨rfl, (Nat.le_of_ble_eq_true rfl), (Nat.le_of_ble_eq_true rfl)⟩ (by decide) (cr_term hC hR hX ht hT h (by omega) (fun V16 h16 f16 => ?_))
          have pl17 := pT_le τ z p (by omega)
          have cd18 := pT_cd τ z p
          have rg19 : -1 ≤ (pT τ z p).1 ∧ (pT τ z p).1 ≤ 115 := pT_rg τ z p
          refine y_nv ?_
          refine y_st (lv' := [(2, iv ((pT τ z p).1)), (1, iv (-1)), (0, .ref 115)]) rfl rfl (fun d => rfl) ?_
          refine y_ld (x := iv ((pT τ z p).1)) rfl rfl (fun d => rfl) ?_
          refine y_zlt rfl rfl rfl (by omega) (fun g12 => ?_) (fun g12 => ?_)
          · refine y_ic rfl rfl ?_
            refine y_rI rfl (by decide) ?_
            exact k2 _ _ _ _ (Or.inl (by unfold pA; rw [if_neg q3, if_neg q8, if_neg q13, if_pos (by omega), if_pos (by omega)])) h16 (CF_tr (CF_rf t V) f16)
          · refine y_ld (x := .ref 115) rfl rfl (fun d => rfl) ?_
            refine y_bi rfl rfl (by decide) ?_
            refine y_cV (as := [.ref 115, iv 61]) rfl rfl rfl rfl rfl hR ⟨rfl, (Nat.le_of_ble_eq_true rfl), (Nat.le_of_ble_eq_true rfl)⟩ (by decide) (cr_takes hC hR hX ht hT (by decide) h16 (by omega) (fun q21 V20 h20 f20 => ?_) (fun q22 => ?_))
            · have pl23 := hr_le (τ := τ) (z := z) (p := (pT τ z p).2) (by omega)
              refine y_nv ?_
              refine y_zne rfl rfl rfl (by decide) (fun g13 => ?_) (fun g13 => absurd g13 (by decide))
              refine y_ld (x := .ref 115) rfl rfl (fun d => rfl) ?_
              refine y_gR (i := 3) rfl rfl rfl hR rfl ?_
              refine y_ld (x := iv ((pT τ z p).1)) rfl rfl (fun d => rfl) ?_
              refine y_cV (as := [.ref t, iv ((pT τ z p).1)]) rfl rfl rfl rfl rfl hX.1 ⟨rfl, (Nat.le_of_ble_eq_true rfl), (Nat.le_of_ble_eq_true rfl)⟩ (by decide) (cr_add hC hR hX ht hT h20 (by first | omega | (simp; omega)) (fun V24 h24 f24 => ?_))
              refine y_n0 ?_
              refine y_ld (x := .ref 115) rfl rfl (fun d => rfl) ?_
              refine y_ld (x := iv ((pT τ z p).1)) rfl rfl (fun d => rfl) ?_
              refine y_cV (as := [.ref 115, iv ((pT τ z p).1)]) rfl rfl rfl rfl rfl hR ⟨rfl, (Nat.le_of_ble_eq_true rfl), (Nat.le_of_ble_eq_true rfl)⟩ (by decide) (cr_sum hC hR hX ht hT hln hg0 (pT_cd τ z p (by omega)) (by omega) (by simp; omega) h24 (fun l25 r25 V25 x25 nb25 h25 f25 => ?_) (fun r26 V26 s26 g_26 x26 h26 f26 => ?_))
              · refine y_nv ?_
                refine y_rI rfl (by decide) ?_
                refine k1 ((pT τ z p).1, l25) _ _ (by unfold pA; rw [if_neg q3, if_neg q8, if_neg q13, if_pos (by omega), if_neg (by omega), if_pos q21, x25]) ?_ (CF_tr (CF_tr (CF_tr (CF_tr (CF_rf t V) f16) f20) f24) f25)
                have e0 : ¬ 126 ≤ (pT τ z p).1 := by omega
                have hh := h25
                rw [List.append_assoc] at hh
                unfold encAc mkA
                rw [if_neg e0, if_neg e0]
                unfold encAc mkA
                rw [List.append_nil]
                exact hh
              · refine y_nv ?_
                refine y_rI rfl (by decide) ?_
                refine k2 _ _ _ _ ?_ h26 (CF_tr (CF_tr (CF_tr (CF_tr (CF_rf t V) f16) f20) f24) f26)
                rcases x26 with e | ⟨le, e, eb⟩
                · exact Or.inl (by unfold pA; rw [if_neg q3, if_neg q8, if_neg q13, if_pos (by omega), if_neg (by omega), if_pos q21, e])
                · exact Or.inr ⟨_, (by unfold pA; rw [if_neg q3, if_neg q8, if_neg q13, if_pos (by omega), if_neg (by omega), if_pos q21, e]), eb⟩
            · refine y_nv ?_
              refine y_zne rfl rfl rfl (by decide) (fun g14 => absurd g14 (by decide)) (fun g14 => ?_)
              refine y_ic rfl rfl ?_
              refine y_rI rfl (by decide) ?_
              exact k2 _ _ _ _ (Or.inl (by unfold pA; rw [if_neg q3, if_neg q8, if_neg q13, if_pos (by omega), if_neg (by omega), if_neg q22])) h16 (CF_tr (CF_rf t V) f16)
        · refine y_ld (x := .ref 115) rfl rfl (fun d => rfl) ?_
          refine y_cV (as := [.ref 115]) rfl rfl rfl rfl rfl hR ⟨rfl, (Nat.le_of_ble_eq_true rfl), (Nat.le_of_ble_eq_true rfl)⟩ (by decide) (cr_next hC hR hX ht hT h (by omega) ?_)
          have hq69 := hr_rg hT (p)
          refine y_nv ?_
          refine y_bi rfl rfl (by decide) ?_
          refine y_jeq rfl rfl rfl (by omega) (fun g15 => ?_) (fun g15 => ?_)
          · refine y_ld (x := .ref 115) rfl rfl (fun d => rfl) ?_
            refine y_cV (as := [.ref 115]) rfl rfl rfl rfl rfl hR ⟨rfl, (Nat.le_of_ble_eq_true rfl), (Nat.le_of_ble_eq_true rfl)⟩ (by decide) (cr_term hC hR hX ht hT h (by omega) (fun V27 h27 f27 => ?_))
            have pl28 := pT_le τ z p (by omega)
            have cd29 := pT_cd τ z p
            have rg30 : -1 ≤ (pT τ z p).1 ∧ (pT τ z p).1 ≤ 115 := pT_rg τ z p
            refine y_nv ?_
            refine y_st (lv' := [(2, iv ((pT τ z p).1)), (1, iv (-1)), (0, .ref 115)]) rfl rfl (fun d => rfl) ?_
            refine y_ld (x := iv ((pT τ z p).1)) rfl rfl (fun d => rfl) ?_
            refine y_zlt rfl rfl rfl (by omega) (fun g16 => ?_) (fun g16 => ?_)
            · refine y_ic rfl rfl ?_
              refine y_rI rfl (by decide) ?_
              exact k2 _ _ _ _ (Or.inl (by unfold pA; rw [if_neg q3, if_neg q8, if_neg q13, if_pos (by omega), if_pos (by omega)])) h27 (CF_tr (CF_rf t V) f27)
            · refine y_ld (x := .ref 115) rfl rfl (fun d => rfl) ?_
              refine y_bi rfl rfl (by decide) ?_
              refine y_cV (as := [.ref 115, iv 61]) rfl rfl rfl rfl rfl hR ⟨rfl, (Nat.le_of_ble_eq_true rfl), (Nat.le_of_ble_eq_true rfl)⟩ (by decide) (cr_takes hC hR hX ht hT (by decide) h27 (by omega) (fun q32 V31 h31 f31 => ?_) (fun q33 => ?_))
              · have pl34 := hr_le (τ := τ) (z := z) (p := (pT τ z p).2) (by omega)
                refine y_nv ?_
                refine y_zne rfl rfl rfl (by decide) (fun g17 => ?_) (fun g17 => absurd g17 (by decide))
                refine y_ld (x := .ref 115) rfl rfl (fun d => rfl) ?_
                refine y_gR (i := 3) rfl rfl rfl hR rfl ?_
                refine y_ld (x := iv ((pT τ z p).1)) rfl rfl (fun d => rfl) ?_
                refine y_cV (as := [.ref t, iv ((pT τ z p).1)]) rfl rfl rfl rfl rfl hX.1 ⟨rfl, (Nat.le_of_ble_eq_true rfl), (Nat.le_of_ble_eq_true rfl)⟩ (by decide) (cr_add hC hR hX ht hT h31 (by first | omega | (simp; omega)) (fun V35 h35 f35 => ?_))
                refine y_n0 ?_
                refine y_ld (x := .ref 115) rfl rfl (fun d => rfl) ?_
                refine y_ld (x := iv ((pT τ z p).1)) rfl rfl (fun d => rfl) ?_
                refine y_cV (as := [.ref 115, iv ((pT τ z p).1)]) rfl rfl rfl rfl rfl hR ⟨rfl, (Nat.le_of_ble_eq_true rfl), (Nat.le_of_ble_eq_true rfl)⟩ (by decide) (cr_sum hC hR hX ht hT hln hg0 (pT_cd τ z p (by omega)) (by omega) (by simp; omega) h35 (fun l36 r36 V36 x36 nb36 h36 f36 => ?_) (fun r37 V37 s37 g_37 x37 h37 f37 => ?_))
                · refine y_nv ?_
                  refine y_rI rfl (by decide) ?_
                  refine k1 ((pT τ z p).1, l36) _ _ (by unfold pA; rw [if_neg q3, if_neg q8, if_neg q13, if_pos (by omega), if_neg (by omega), if_pos q32, x36]) ?_ (CF_tr (CF_tr (CF_tr (CF_tr (CF_rf t V) f27) f31) f35) f36)
                  have e0 : ¬ 126 ≤ (pT τ z p).1 := by omega
                  have hh := h36
                  rw [List.append_assoc] at hh
                  unfold encAc mkA
                  rw [if_neg e0, if_neg e0]
                  unfold encAc mkA
                  rw [List.append_nil]
                  exact hh
                · refine y_nv ?_
                  refine y_rI rfl (by decide) ?_
                  refine k2 _ _ _ _ ?_ h37 (CF_tr (CF_tr (CF_tr (CF_tr (CF_rf t V) f27) f31) f35) f37)
                  rcases x37 with e | ⟨le, e, eb⟩
                  · exact Or.inl (by unfold pA; rw [if_neg q3, if_neg q8, if_neg q13, if_pos (by omega), if_neg (by omega), if_pos q32, e])
                  · exact Or.inr ⟨_, (by unfold pA; rw [if_neg q3, if_neg q8, if_neg q13, if_pos (by omega), if_neg (by omega), if_pos q32, e]), eb⟩
              · refine y_nv ?_
                refine y_zne rfl rfl rfl (by decide) (fun g18 => absurd g18 (by decide)) (fun g18 => ?_)
                refine y_ic rfl rfl ?_
                refine y_rI rfl (by decide) ?_
                exact k2 _ _ _ _ (Or.inl (by unfold pA; rw [if_neg q3, if_neg q8, if_neg q13, if_pos (by omega), if_neg (by omega), if_neg q33])) h27 (CF_tr (CF_rf t V) f27)
          · refine y_ld (x := .ref 115) rfl rfl (fun d => rfl) ?_
            refine y_cV (as := [.ref 115]) rfl rfl rfl rfl rfl hR ⟨rfl, (Nat.le_of_ble_eq_true rfl), (Nat.le_of_ble_eq_true rfl)⟩ (by decide) (cr_next hC hR hX ht hT h (by omega) ?_)
            have hq78 := hr_rg hT (p)
            refine y_nv ?_
            refine y_bi rfl rfl (by decide) ?_
            refine y_jeq rfl rfl rfl (by omega) (fun g19 => ?_) (fun g19 => ?_)
            · refine y_ld (x := .ref 115) rfl rfl (fun d => rfl) ?_
              refine y_cV (as := [.ref 115]) rfl rfl rfl rfl rfl hR ⟨rfl, (Nat.le_of_ble_eq_true rfl), (Nat.le_of_ble_eq_true rfl)⟩ (by decide) (cr_term hC hR hX ht hT h (by omega) (fun V38 h38 f38 => ?_))
              have pl39 := pT_le τ z p (by omega)
              have cd40 := pT_cd τ z p
              have rg41 : -1 ≤ (pT τ z p).1 ∧ (pT τ z p).1 ≤ 115 := pT_rg τ z p
              refine y_nv ?_
              refine y_st (lv' := [(2, iv ((pT τ z p).1)), (1, iv (-1)), (0, .ref 115)]) rfl rfl (fun d => rfl) ?_
              refine y_ld (x := iv ((pT τ z p).1)) rfl rfl (fun d => rfl) ?_
              refine y_zlt rfl rfl rfl (by omega) (fun g20 => ?_) (fun g20 => ?_)
              · refine y_ic rfl rfl ?_
                refine y_rI rfl (by decide) ?_
                exact k2 _ _ _ _ (Or.inl (by unfold pA; rw [if_neg q3, if_neg q8, if_neg q13, if_pos (by omega), if_pos (by omega)])) h38 (CF_tr (CF_rf t V) f38)
              · refine y_ld (x := .ref 115) rfl rfl (fun d => rfl) ?_
                refine y_bi rfl rfl (by decide) ?_
                refine y_cV (as := [.ref 115, iv 61]) rfl rfl rfl rfl rfl hR ⟨rfl, (Nat.le_of_ble_eq_true rfl), (Nat.le_of_ble_eq_true rfl)⟩ (by decide) (cr_takes hC hR hX ht hT (by decide) h38 (by omega) (fun q43 V42 h42 f42 => ?_) (fun q44 => ?_))
                · have pl45 := hr_le (τ := τ) (z := z) (p := (pT τ z p).2) (by omega)
                  refine y_nv ?_
                  refine y_zne rfl rfl rfl (by decide) (fun g21 => ?_) (fun g21 => absurd g21 (by decide))
                  refine y_ld (x := .ref 115) rfl rfl (fun d => rfl) ?_
                  refine y_gR (i := 3) rfl rfl rfl hR rfl ?_
                  refine y_ld (x := iv ((pT τ z p).1)) rfl rfl (fun d => rfl) ?_
                  refine y_cV (as := [.ref t, iv ((pT τ z p).1)]) rfl rfl rfl rfl rfl hX.1 ⟨rfl, (Nat.le_of_ble_eq_true rfl), (Nat.le_of_ble_eq_true rfl)⟩ (by decide) (cr_add hC hR hX ht hT h42 (by first | omega | (simp; omega)) (fun V46 h46 f46 => ?_))
                  refine y_n0 ?_
                  refine y_ld (x := .ref 115) rfl rfl (fun d => rfl) ?_
                  refine y_ld (x := iv ((pT τ z p).1)) rfl rfl (fun d => rfl) ?_
                  refine y_cV (as := [.ref 115, iv ((pT τ z p).1)]) rfl rfl rfl rfl rfl hR ⟨rfl, (Nat.le_of_ble_eq_true rfl), (Nat.le_of_ble_eq_true rfl)⟩ (by decide) (cr_sum hC hR hX ht hT hln hg0 (pT_cd τ z p (by omega)) (by omega) (by simp; omega) h46 (fun l47 r47 V47 x47 nb47 h47 f47 => ?_) (fun r48 V48 s48 g_48 x48 h48 f48 => ?_))
                  · refine y_nv ?_
                    refine y_rI rfl (by decide) ?_
                    refine k1 ((pT τ z p).1, l47) _ _ (by unfold pA; rw [if_neg q3, if_neg q8, if_neg q13, if_pos (by omega), if_neg (by omega), if_pos q43, x47]) ?_ (CF_tr (CF_tr (CF_tr (CF_tr (CF_rf t V) f38) f42) f46) f47)
                    have e0 : ¬ 126 ≤ (pT τ z p).1 := by omega
                    have hh := h47
                    rw [List.append_assoc] at hh
                    unfold encAc mkA
                    rw [if_neg e0, if_neg e0]
                    unfold encAc mkA
                    rw [List.append_nil]
                    exact hh
                  · refine y_nv ?_
                    refine y_rI rfl (by decide) ?_
                    refine k2 _ _ _ _ ?_ h48 (CF_tr (CF_tr (CF_tr (CF_tr (CF_rf t V) f38) f42) f46) f48)
                    rcases x48 with e | ⟨le, e, eb⟩
                    · exact Or.inl (by unfold pA; rw [if_neg q3, if_neg q8, if_neg q13, if_pos (by omega), if_neg (by omega), if_pos q43, e])
                    · exact Or.inr ⟨_, (by unfold pA; rw [if_neg q3, if_neg q8, if_neg q13, if_pos (by omega), if_neg (by omega), if_pos q43, e]), eb⟩
                · refine y_nv ?_
                  refine y_zne rfl rfl rfl (by decide) (fun g22 => absurd g22 (by decide)) (fun g22 => ?_)
                  refine y_ic rfl rfl ?_
                  refine y_rI rfl (by decide) ?_
                  exact k2 _ _ _ _ (Or.inl (by unfold pA; rw [if_neg q3, if_neg q8, if_neg q13, if_pos (by omega), if_neg (by omega), if_neg q44])) h38 (CF_tr (CF_rf t V) f38)
            · refine y_ic rfl rfl ?_
              refine y_rI rfl (by decide) ?_
              exact k2 _ _ _ _ (Or.inl (by unfold pA; rw [if_neg q3, if_neg q8, if_neg q13, if_neg (by omega)])) h (CF_rf t V)
theorem pAs_s {τ : Nat → Int} {z k p : Nat} {acc : List p_Ac} : pAs τ z (k + 1) p acc = (match pA τ z p with
    | (some a, q) => if k ≠ 0 ∧ hr τ z q = 44 then pAs τ z k (q + 1) (acc ++ [a]) else (some (acc ++ [a]), q)
    | (none, q) => (none, q)) := rfl
set_option maxRecDepth 100000 in
set_option maxHeartbeats 4000000 in
theorem lp_racts (hC : ClF S) {t z : Nat} {τ : Nat → Int} {ln : Int} {st0 : List Int} {g0 : Nat → Int} (hR : RdS S t) (hX : TxS S t) (ht : 193 ≤ t) (hT : Tp τ 0 z) (hln : 1 ≤ ln ∧ ln ≤ 8) (hg0 : ∀ c, c < 8 → 0 ≤ g0 c ∧ g0 c ≤ 10) {lnn : Nat} (hlnn : lnn < 8) : ∀ (m n : Nat) (V : v_V) (K : v_K) (u w p : Nat) (acc : List p_Ac), n + m = 5 → 1 ≤ m → acc.length = n → p ≤ z → st0.length + (encAc acc).length ≤ p → acO acc → CP V t z τ p ln (st0 ++ encAc acc) (mkA (ln - 1) g0 acc) → (∀ l q V', pAs τ z (5 - n) p acc = (some l, q) → V' (t + 4) lnn = (l.length : Int) → CP V' t z τ q ln (st0 ++ encAc l) (mkA (ln - 1) g0 l) → CH t lnn V V' → K u w (some (iv 1)) S V') → (∀ q V' st' g', (pAs τ z (5 - n) p acc = (none, q) ∨ ∃ l, pAs τ z (5 - n) p acc = (some l, q) ∧ bdq τ z q) → CP V' t z τ q ln st' g' → CH t lnn V V' → K u w (some (iv 0)) S V') → y_E X 5 24 (100 * m) u w 2 [(0, .ref 115), (1, iv (lnn : Int)), (2, iv (n : Int))] [] S V K := by
  intro m
  induction m with
  | zero => intros; omega
  | succ m ih =>
    intro n V K u w p acc hnm hm1 hal hp hl hac h k1 k2
    have hz := hT.2.1
    refine y_mono (F' := 100 * m + 100) ?_ (by omega)
    refine y_ld (x := iv (n : Int)) rfl rfl (fun d => rfl) ?_
    refine y_ic rfl rfl ?_
    refine y_jge rfl rfl rfl (by omega) (fun g1 => absurd g1 (by omega)) (fun g1 => ?_)
    refine y_ld (x := .ref 115) rfl rfl (fun d => rfl) ?_
    refine y_cV (as := [.ref 115]) rfl rfl rfl rfl rfl hR ⟨rfl, (Nat.le_of_ble_eq_true rfl), (Nat.le_of_ble_eq_true rfl)⟩ (by omega) (cr_act hC hR hX ht hT hln (mkA_bd (by omega) acc g0 hac hg0) (by omega) (by simp; omega) h (fun y1 r1 V1 x1 h1 f1 => ?_) (fun r2 V2 s2 g_2 x2 h2 f2 => ?_))
    · have pa1 := pA_ok (by omega) x1
      have ppa1 := pa1.2.2 _ rfl
      have pc1 := encAc_len (by omega) x1
      refine y_nv ?_
      refine y_zne rfl rfl rfl (by decide) (fun g2 => ?_) (fun g2 => absurd g2 (by decide))
      refine y_ld (x := .ref 115) rfl rfl (fun d => rfl) ?_
      refine y_gR (i := 3) rfl rfl rfl hR rfl ?_
      refine y_gR (i := 4) rfl rfl rfl hX.1 rfl ?_
      refine y_ld (x := iv (lnn : Int)) rfl rfl (fun d => rfl) ?_
      refine y_ld (x := iv (n : Int)) rfl rfl (fun d => rfl) ?_
      refine y_ic rfl rfl ?_
      refine y_add (z := ((n + 1 : Nat) : Int)) rfl rfl (by omega) ?_
      refine y_ist (q := lnn) rfl rfl hX.2.2.2.2.1 (by omega) (by decide) (by omega) ?_
      refine y_ld (x := .ref 115) rfl rfl (fun d => rfl) ?_
      refine y_cV (as := [.ref 115]) rfl rfl rfl rfl rfl hR ⟨rfl, (Nat.le_of_ble_eq_true rfl), (Nat.le_of_ble_eq_true rfl)⟩ (by omega) (cr_next hC hR hX ht hT (CP_4 ht h1) (by omega) ?_)
      have hq29 := hr_rg hT (r1)
      refine y_nv ?_
      refine y_bi rfl rfl (by decide) ?_
      refine y_jeq rfl rfl rfl (by omega) (fun g3 => ?_) (fun g3 => ?_)
      · refine y_ld (x := iv (n : Int)) rfl rfl (fun d => rfl) ?_
        refine y_ic rfl rfl ?_
        refine y_jge rfl rfl rfl (by omega) (fun g4 => ?_) (fun g4 => ?_)
        · refine y_inc (z := ((n + 1 : Nat) : Int)) (lv' := [(2, iv ((n + 1 : Nat) : Int)), (0, .ref 115), (1, iv (lnn : Int))]) rfl rfl rfl (by omega) rfl ?_
          refine y_go rfl rfl ?_
          refine y_ld (x := iv ((n + 1 : Nat) : Int)) rfl rfl (fun d => rfl) ?_
          refine y_ic rfl rfl ?_
          refine y_jge rfl rfl rfl (by omega) (fun g5 => ?_) (fun g5 => absurd g5 (by omega))
          refine y_ic rfl rfl ?_
          refine y_rI rfl (by decide) ?_
          exact k2 _ _ _ _ (Or.inr ⟨acc ++ [y1], (by rw [show 5 - n = (5 - (n + 1)) + 1 by omega, pAs_s]; simp only [x1]; exact if_neg (by omega)), by unfold bdq; omega⟩) (CP_4 ht h1) (CH_tr (CH_tr (CH_rf t lnn V) (CH_cf ht f1)) (CH_4 ht))
        · refine y_ld (x := .ref 115) rfl rfl (fun d => rfl) ?_
          refine y_in rfl rfl (fun d => rfl) ?_
          refine y_gI (i := 2) (e := ((r1 : Nat) : Int)) rfl rfl rfl hR rfl (by rw [v_up_ne (by omega)]; exact h1.2.1) ?_
          refine y_ic rfl rfl ?_
          refine y_add (z := (((r1 : Nat) : Int) + 1)) rfl rfl rfl ?_
          refine y_pI (i := 2) rfl rfl rfl hR rfl rfl ?_
          refine y_inc (z := ((n + 1 : Nat) : Int)) (lv' := [(2, iv ((n + 1 : Nat) : Int)), (0, .ref 115), (1, iv (lnn : Int))]) rfl rfl rfl (by omega) rfl ?_
          refine y_go rfl rfl ?_
          refine y_lv (l' := [(0, .ref 115), (1, iv (lnn : Int)), (2, iv ((n + 1 : Nat) : Int))]) rfl ⟨rfl, rfl, rfl, trivial⟩ ?_
          have pl9 := hr_le (τ := τ) (z := z) (p := r1) (by omega)
          refine y_mono (ih (n + 1) _ _ _ _ (r1 + 1) (acc ++ [y1]) (by omega) (by omega) (by simp; omega) (by omega) (by rw [encAc_app, List.length_append]; omega) (acO_app hac ppa1.2) ?_ ?_ ?_) (by omega)
          · rw [encAc_app, mkA_app, ← List.append_assoc]
            exact CP_at ht (CP_4 ht h1)
          · intro lz qz V' a1 a2 a3 a4
            have eq : pAs τ z (5 - n) p acc = pAs τ z (5 - (n + 1)) (r1 + 1) (acc ++ [y1]) := (by rw [show 5 - n = (5 - (n + 1)) + 1 by omega, pAs_s]; simp only [x1]; exact if_pos ⟨by omega, by omega⟩)
            exact k1 lz qz V' (eq.trans a1) a2 a3 (CH_tr (CH_tr (CH_tr (CH_tr (CH_rf t lnn V) (CH_cf ht f1)) (CH_4 ht)) (CH_cf ht (CF_at ht))) a4)
          · intro qz V' st' g' a1 a2 a3
            have eq : pAs τ z (5 - n) p acc = pAs τ z (5 - (n + 1)) (r1 + 1) (acc ++ [y1]) := (by rw [show 5 - n = (5 - (n + 1)) + 1 by omega, pAs_s]; simp only [x1]; exact if_pos ⟨by omega, by omega⟩)
            exact k2 qz V' st' g' (by rw [eq]; exact a1) a2 (CH_tr (CH_tr (CH_tr (CH_tr (CH_rf t lnn V) (CH_cf ht f1)) (CH_4 ht)) (CH_cf ht (CF_at ht))) a3)
      · refine y_ic rfl rfl ?_
        refine y_rI rfl (by decide) ?_
        refine k1 (acc ++ [y1]) _ _ (by rw [show 5 - n = (5 - (n + 1)) + 1 by omega, pAs_s]; simp only [x1]; exact if_neg (by omega)) (by rw [v_up_eq]; simp; omega) (CP_4 ht ?_) (CH_tr (CH_tr (CH_rf t lnn V) (CH_cf ht f1)) (CH_4 ht))
        rw [encAc_app, mkA_app, ← List.append_assoc]
        exact h1
    · refine y_nv ?_
      refine y_zne rfl rfl rfl (by decide) (fun g6 => absurd g6 (by decide)) (fun g6 => ?_)
      refine y_ic rfl rfl ?_
      refine y_rI rfl (by decide) ?_
      refine k2 _ _ _ _ ?_ h2 (CH_tr (CH_rf t lnn V) (CH_cf ht f2))
      rcases x2 with e | ⟨xe, e, eb⟩
      · exact Or.inl (by rw [show 5 - n = (5 - (n + 1)) + 1 by omega, pAs_s]; simp only [e])
      · have eb2 : hr τ z r2 = 43 ∨ hr τ z r2 = 45 := eb
        rw [show 5 - n = (5 - (n + 1)) + 1 by omega, pAs_s]
        simp only [e]
        rw [if_neg (by omega)]
        exact Or.inr ⟨_, rfl, by unfold bdq; omega⟩
set_option maxRecDepth 100000 in
set_option maxHeartbeats 4000000 in
theorem cr_acts (hC : ClF S) {t z : Nat} {τ : Nat → Int} {ln : Int} {st0 : List Int} {g0 : Nat → Int} (hR : RdS S t) (hX : TxS S t) (ht : 193 ≤ t) (hT : Tp τ 0 z) (hln : 1 ≤ ln ∧ ln ≤ 8) (hg0 : ∀ c, c < 8 → 0 ≤ g0 c ∧ g0 c ≤ 10) {p lnn : Nat} (hlnn : lnn < 8) (hp : p ≤ z) (hl : st0.length ≤ p) (h : CP V t z τ p ln st0 g0) (k1 : ∀ l q V', pAs τ z 5 p [] = (some l, q) → V' (t + 4) lnn = (l.length : Int) → CP V' t z τ q ln (st0 ++ encAc l) (mkA (ln - 1) g0 l) → CH t lnn V V' → K u w (some (iv 1)) S V') (k2 : ∀ q V' st' g', (pAs τ z 5 p [] = (none, q) ∨ ∃ l, pAs τ z 5 p [] = (some l, q) ∧ bdq τ z q) → CP V' t z τ q ln st' g' → CH t lnn V V' → K u w (some (iv 0)) S V') : y_R X 6 24 u w [.ref 115, iv (lnn : Int)] S V K := by
  have hz := hT.2.1
  refine y_ent (lv' := [(0, .ref 115), (1, iv (lnn : Int))]) (Nat.le_of_ble_eq_true rfl) rfl ?_
  refine y_ic rfl rfl ?_
  refine y_st (lv' := [(2, iv 0), (0, .ref 115), (1, iv (lnn : Int))]) rfl rfl (fun d => rfl) ?_
  refine y_lv (l' := [(0, .ref 115), (1, iv (lnn : Int)), (2, iv 0)]) rfl ⟨rfl, rfl, rfl, trivial⟩ ?_
  exact y_mono (lp_racts hC hR hX ht hT hln hg0 hlnn 5 0 _ _ _ _ p [] rfl (by decide) rfl hp (by simpa [encAc] using hl) (fun x hx => by cases hx) (by simpa [encAc, mkA] using h) k1 k2) (by decide)
end
