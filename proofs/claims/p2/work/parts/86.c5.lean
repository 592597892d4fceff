section
variable {X : Nat → List Int32} {u w : Nat} {S : m_H} {V : v_V} {K : v_K}
set_option maxRecDepth 100000 in
set_option maxHeartbeats 4000000 in
theorem cr_next (hC : ClF S) {t z p : Nat} {τ : Nat → Int} {ln : Int} {st : List Int} {g : Nat → Int} (hR : RdS S t) (hX : TxS S t) (ht : 193 ≤ t) (hT : Tp τ 0 z) (h : CP V t z τ p ln st g) (hp : p ≤ z) (k : K u w (some (iv (hr τ z p))) S V) : y_R X 1 29 u w [.ref 115] S V K := by
  have hz := hT.2.1
  refine y_ent (lv' := [(0, .ref 115)]) (Nat.le_of_ble_eq_true rfl) rfl ?_
  refine y_ld (x := .ref 115) rfl rfl (fun d => rfl) ?_
  refine y_gI (i := 2) (e := ((p : Nat) : Int)) rfl rfl rfl hR rfl h.2.1 ?_
  refine y_ld (x := .ref 115) rfl rfl (fun d => rfl) ?_
  refine y_gI (i := 1) (e := (z : Int)) rfl rfl rfl hR rfl h.1 ?_
  refine y_jge rfl rfl rfl (by omega) (fun g1 => ?_) (fun g1 => ?_)
  · refine y_ic rfl rfl ?_
    refine y_rI rfl (Or.inl rfl) ?_
    rwa [show hr τ z p = -1 from if_neg (by omega)] at k
  · refine y_ld (x := .ref 115) rfl rfl (fun d => rfl) ?_
    refine y_gR (i := 0) rfl rfl rfl hR rfl ?_
    refine y_ld (x := .ref 115) rfl rfl (fun d => rfl) ?_
    refine y_gI (i := 2) (e := ((p : Nat) : Int)) rfl rfl rfl hR rfl h.2.1 ?_
    refine y_ild (x := (τ p)) (q := p) rfl rfl (cl_ia hC (k := 2) (N := 160) rfl) (by omega) (by decide) (by omega) (h.2.2.1 p (by omega)) ?_
    refine y_go rfl rfl ?_
    refine y_rI rfl (Or.inl rfl) ?_
    rwa [show hr τ z p = τ p from if_pos (by omega)] at k
set_option maxRecDepth 100000 in
set_option maxHeartbeats 4000000 in
theorem cr_takes (hC : ClF S) {t z p : Nat} {τ : Nat → Int} {ln : Int} {st : List Int} {g : Nat → Int} (hR : RdS S t) (hX : TxS S t) (ht : 193 ≤ t) (hT : Tp τ 0 z) {c : Int} (hc : 0 ≤ c ∧ c ≤ 255) (h : CP V t z τ p ln st g) (hp : p ≤ z) (k1 : hr τ z p = c → ∀ V', CP V' t z τ (p + 1) ln st g → CF t V V' → K u w (some (iv 1)) S V') (k2 : ¬ hr τ z p = c → K u w (some (iv 0)) S V) : y_R X 1 30 u w [.ref 115, iv c] S V K := by
  have hz := hT.2.1
  refine y_ent (lv' := [(0, .ref 115), (1, iv c)]) (Nat.le_of_ble_eq_true rfl) rfl ?_
  refine y_ld (x := .ref 115) rfl rfl (fun d => rfl) ?_
  refine y_gI (i := 2) (e := ((p : Nat) : Int)) rfl rfl rfl hR rfl h.2.1 ?_
  refine y_ld (x := .ref 115) rfl rfl (fun d => rfl) ?_
  refine y_gI (i := 1) (e := (z : Int)) rfl rfl rfl hR rfl h.1 ?_
  refine y_jge rfl rfl rfl (by omega) (fun g1 => ?_) (fun g1 => ?_)
  · refine y_ic rfl rfl ?_
    refine y_rI rfl (by decide) ?_
    exact k2 (by unfold hr; first | rw [if_neg (by omega)]; omega | rw [if_pos (by omega)]; omega)
  · refine y_ld (x := .ref 115) rfl rfl (fun d => rfl) ?_
    refine y_gR (i := 0) rfl rfl rfl hR rfl ?_
    refine y_ld (x := .ref 115) rfl rfl (fun d => rfl) ?_
    refine y_gI (i := 2) (e := ((p : Nat) : Int)) rfl rfl rfl hR rfl h.2.1 ?_
    refine y_ild (x := (τ p)) (q := p) rfl rfl (cl_ia hC (k := 2) (N := 160) rfl) (by omega) (by decide) (by omega) (h.2.2.1 p (by omega)) ?_
    refine y_ld (x := iv c) rfl rfl (fun d => rfl) ?_
    have ht0 := hT.2.2 p (by omega)
    refine y_jeq rfl rfl rfl (by omega) (fun g2 => ?_) (fun g2 => ?_)
    · refine y_ld (x := .ref 115) rfl rfl (fun d => rfl) ?_
      refine y_in rfl rfl (fun d => rfl) ?_
      refine y_gI (i := 2) (e := ((p : Nat) : Int)) rfl rfl rfl hR rfl h.2.1 ?_
      refine y_ic rfl rfl ?_
      refine y_add (z := (((p : Nat) : Int) + 1)) rfl rfl rfl ?_
      refine y_pI (i := 2) rfl rfl rfl hR rfl rfl ?_
      refine y_ic rfl rfl ?_
      refine y_rI rfl (by decide) ?_
      exact k1 ((if_pos (by omega)).trans (by omega)) _ (CP_at (p' := p + 1) ht h) (CF_at ht)
    · refine y_ic rfl rfl ?_
      refine y_rI rfl (by decide) ?_
      exact k2 (by unfold hr; first | rw [if_neg (by omega)]; omega | rw [if_pos (by omega)]; omega)
set_option maxRecDepth 100000 in
set_option maxHeartbeats 4000000 in
theorem cr_digit (hC : ClF S) {t z p : Nat} {τ : Nat → Int} {ln : Int} {st : List Int} {g : Nat → Int} (hR : RdS S t) (hX : TxS S t) (ht : 193 ≤ t) (hT : Tp τ 0 z) {m : Int} (hm : 0 ≤ m ∧ m ≤ 9) (h : CP V t z τ p ln st g) (hp : p ≤ z) (k1 : 48 ≤ hr τ z p ∧ hr τ z p ≤ 48 + m → ∀ V', CP V' t z τ (p + 1) ln st g → CF t V V' → K u w (some (iv (hr τ z p - 48))) S V') (k2 : ¬ (48 ≤ hr τ z p ∧ hr τ z p ≤ 48 + m) → K u w (some (iv (-1))) S V) : y_R X 1 28 u w [.ref 115, iv m] S V K := by
  have hz := hT.2.1
  refine y_ent (lv' := [(0, .ref 115), (1, iv m)]) (Nat.le_of_ble_eq_true rfl) rfl ?_
  refine y_ld (x := .ref 115) rfl rfl (fun d => rfl) ?_
  refine y_gI (i := 2) (e := ((p : Nat) : Int)) rfl rfl rfl hR rfl h.2.1 ?_
  refine y_ld (x := .ref 115) rfl rfl (fun d => rfl) ?_
  refine y_gI (i := 1) (e := (z : Int)) rfl rfl rfl hR rfl h.1 ?_
  refine y_jge rfl rfl rfl (by omega) (fun g1 => ?_) (fun g1 => ?_)
  · refine y_ic rfl rfl ?_
    refine y_st (lv' := [(2, iv (-1)), (0, .ref 115), (1, iv m)]) rfl rfl (fun d => rfl) ?_
    refine y_ld (x := iv (-1)) rfl rfl (fun d => rfl) ?_
    refine y_zlt rfl rfl rfl (by decide) (fun g2 => ?_) (fun g2 => absurd g2 (by decide))
    refine y_ic rfl rfl ?_
    refine y_rI rfl (Or.inl rfl) ?_
    exact k2 (by unfold hr; first | rw [if_neg (by omega)]; omega | rw [if_pos (by omega)]; omega)
  · refine y_ld (x := .ref 115) rfl rfl (fun d => rfl) ?_
    refine y_gR (i := 0) rfl rfl rfl hR rfl ?_
    refine y_ld (x := .ref 115) rfl rfl (fun d => rfl) ?_
    refine y_gI (i := 2) (e := ((p : Nat) : Int)) rfl rfl rfl hR rfl h.2.1 ?_
    refine y_ild (x := (τ p)) (q := p) rfl rfl (cl_ia hC (k := 2) (N := 160) rfl) (by omega) (by decide) (by omega) (h.2.2.1 p (by omega)) ?_
    have ht0 := hT.2.2 p (by omega)
    refine y_bi rfl rfl (by decide) ?_
    refine y_sub (z := ((τ p) - 48)) rfl rfl rfl ?_
    refine y_go rfl rfl ?_
    refine y_st (lv' := [(2, iv ((τ p) - 48)), (0, .ref 115), (1, iv m)]) rfl rfl (fun d => rfl) ?_
    refine y_ld (x := iv ((τ p) - 48)) rfl rfl (fun d => rfl) ?_
    refine y_zlt rfl rfl rfl (by omega) (fun g3 => ?_) (fun g3 => ?_)
    · refine y_ic rfl rfl ?_
      refine y_rI rfl (Or.inl rfl) ?_
      exact k2 (by unfold hr; first | rw [if_neg (by omega)]; omega | rw [if_pos (by omega)]; omega)
    · refine y_ld (x := iv ((τ p) - 48)) rfl rfl (fun d => rfl) ?_
      refine y_ld (x := iv m) rfl rfl (fun d => rfl) ?_
      refine y_jle rfl rfl rfl (by omega) (fun g4 => ?_) (fun g4 => ?_)
      · refine y_ld (x := .ref 115) rfl rfl (fun d => rfl) ?_
        refine y_in rfl rfl (fun d => rfl) ?_
        refine y_gI (i := 2) (e := ((p : Nat) : Int)) rfl rfl rfl hR rfl h.2.1 ?_
        refine y_ic rfl rfl ?_
        refine y_add (z := (((p : Nat) : Int) + 1)) rfl rfl rfl ?_
        refine y_pI (i := 2) rfl rfl rfl hR rfl rfl ?_
        refine y_ld (x := iv ((τ p) - 48)) rfl rfl (fun d => rfl) ?_
        refine y_rI rfl (Or.inl rfl) ?_
        have e : hr τ z p = τ p := if_pos (by omega)
        rw [← e]
        exact k1 (by omega) _ (CP_at (p' := p + 1) ht h) (CF_at ht)
      · refine y_ic rfl rfl ?_
        refine y_rI rfl (Or.inl rfl) ?_
        exact k2 (by unfold hr; first | rw [if_neg (by omega)]; omega | rw [if_pos (by omega)]; omega)
set_option maxRecDepth 100000 in
set_option maxHeartbeats 4000000 in
theorem cr_term (hC : ClF S) {t z p : Nat} {τ : Nat → Int} {ln : Int} {st : List Int} {g : Nat → Int} (hR : RdS S t) (hX : TxS S t) (ht : 193 ≤ t) (hT : Tp τ 0 z) (h : CP V t z τ p ln st g) (hp : p ≤ z) (k : ∀ V', CP V' t z τ (pT τ z p).2 ln st g → CF t V V' → K u w (some (iv (pT τ z p).1)) S V') : y_R X 2 27 u w [.ref 115] S V K := by
  have hz := hT.2.1
  have hq0 := hr_rg hT p
  refine y_ent (lv' := [(0, .ref 115)]) (Nat.le_of_ble_eq_true rfl) rfl ?_
  refine y_ld (x := .ref 115) rfl rfl (fun d => rfl) ?_
  refine y_bi rfl rfl (by decide) ?_
  refine y_cV (as := [.ref 115, iv 107]) rfl rfl rfl rfl rfl hR ⟨rfl, (Nat.le_of_ble_eq_true rfl), (Nat.le_of_ble_eq_true rfl)⟩ (by decide) (cr_takes hC hR hX ht hT (by decide) h (by omega) (fun q2 V1 h1 f1 => ?_) (fun q3 => ?_))
  · have pl4 := hr_le (τ := τ) (z := z) (p := p) (by omega)
    refine y_nv ?_
    refine y_zeq rfl rfl rfl (by decide) (fun g1 => absurd g1 (by decide)) (fun g1 => ?_)
    refine y_bi rfl rfl (by decide) ?_
    refine y_rI rfl (Or.inl rfl) ?_
    have e : pT τ z p = _ := pT_k (by omega)
    rw [e] at k
    exact k _ h1 (CF_tr (CF_rf t V) f1)
  · refine y_nv ?_
    refine y_zeq rfl rfl rfl (by decide) (fun g2 => ?_) (fun g2 => absurd g2 (by decide))
    refine y_ld (x := .ref 115) rfl rfl (fun d => rfl) ?_
    refine y_bi rfl rfl (by decide) ?_
    refine y_cV (as := [.ref 115, iv 104]) rfl rfl rfl rfl rfl hR ⟨rfl, (Nat.le_of_ble_eq_true rfl), (Nat.le_of_ble_eq_true rfl)⟩ (by decide) (cr_takes hC hR hX ht hT (by decide) h (by omega) (fun q6 V5 h5 f5 => ?_) (fun q7 => ?_))
    · have pl8 := hr_le (τ := τ) (z := z) (p := p) (by omega)
      refine y_nv ?_
      refine y_zeq rfl rfl rfl (by decide) (fun g3 => absurd g3 (by decide)) (fun g3 => ?_)
      refine y_bi rfl rfl (by decide) ?_
      refine y_rI rfl (Or.inl rfl) ?_
      have e : pT τ z p = _ := pT_h (by omega)
      rw [e] at k
      exact k _ h5 (CF_tr (CF_rf t V) f5)
    · refine y_nv ?_
      refine y_zeq rfl rfl rfl (by decide) (fun g4 => ?_) (fun g4 => absurd g4 (by decide))
      refine y_ld (x := .ref 115) rfl rfl (fun d => rfl) ?_
      refine y_bi rfl rfl (by decide) ?_
      refine y_cV (as := [.ref 115, iv 110]) rfl rfl rfl rfl rfl hR ⟨rfl, (Nat.le_of_ble_eq_true rfl), (Nat.le_of_ble_eq_true rfl)⟩ (by decide) (cr_takes hC hR hX ht hT (by decide) h (by omega) (fun q10 V9 h9 f9 => ?_) (fun q11 => ?_))
      · have pl12 := hr_le (τ := τ) (z := z) (p := p) (by omega)
        refine y_nv ?_
        refine y_zeq rfl rfl rfl (by decide) (fun g5 => absurd g5 (by decide)) (fun g5 => ?_)
        refine y_bi rfl rfl (by decide) ?_
        refine y_rI rfl (Or.inl rfl) ?_
        have e : pT τ z p = _ := pT_n (by omega)
        rw [e] at k
        exact k _ h9 (CF_tr (CF_rf t V) f9)
      · refine y_nv ?_
        refine y_zeq rfl rfl rfl (by decide) (fun g6 => ?_) (fun g6 => absurd g6 (by decide))
        refine y_ld (x := .ref 115) rfl rfl (fun d => rfl) ?_
        refine y_bi rfl rfl (by decide) ?_
        refine y_cV (as := [.ref 115, iv 116]) rfl rfl rfl rfl rfl hR ⟨rfl, (Nat.le_of_ble_eq_true rfl), (Nat.le_of_ble_eq_true rfl)⟩ (by decide) (cr_takes hC hR hX ht hT (by decide) h (by omega) (fun q14 V13 h13 f13 => ?_) (fun q15 => ?_))
        · have pl16 := hr_le (τ := τ) (z := z) (p := p) (by omega)
          refine y_nv ?_
          refine y_zeq rfl rfl rfl (by decide) (fun g7 => absurd g7 (by decide)) (fun g7 => ?_)
          refine y_ic rfl rfl ?_
          refine y_go rfl rfl ?_
          refine y_st (lv' := [(1, iv 0), (0, .ref 115)]) rfl rfl (fun d => rfl) ?_
          refine y_ld (x := iv 0) rfl rfl (fun d => rfl) ?_
          refine y_zlt rfl rfl rfl (by decide) (fun g8 => absurd g8 (by decide)) (fun g8 => ?_)
          refine y_ld (x := .ref 115) rfl rfl (fun d => rfl) ?_
          refine y_ic rfl rfl ?_
          refine y_cV (as := [.ref 115, iv 3]) rfl rfl rfl rfl rfl hR ⟨rfl, (Nat.le_of_ble_eq_true rfl), (Nat.le_of_ble_eq_true rfl)⟩ (by decide) (cr_digit hC hR hX ht hT (by decide) h13 (by omega) (fun q18 V17 h17 f17 => ?_) (fun q19 => ?_))
          · have pl20 := hr_le (τ := τ) (z := z) (p := (p + 1)) (by omega)
            refine y_nv ?_
            refine y_st (lv' := [(2, iv (hr τ z (p + 1) - 48)), (1, iv 0), (0, .ref 115)]) rfl rfl (fun d => rfl) ?_
            refine y_ld (x := iv (hr τ z (p + 1) - 48)) rfl rfl (fun d => rfl) ?_
            refine y_zge rfl rfl rfl (by omega) (fun g9 => ?_) (fun g9 => absurd g9 (by omega))
            refine y_bi rfl rfl (by decide) ?_
            refine y_ld (x := iv 0) rfl rfl (fun d => rfl) ?_
            refine y_ic rfl rfl ?_
            refine y_mul (z := 0) rfl rfl rfl ?_
            refine y_add (z := 104) rfl rfl rfl ?_
            refine y_ld (x := iv (hr τ z (p + 1) - 48)) rfl rfl (fun d => rfl) ?_
            refine y_add (z := (104 + (hr τ z (p + 1) - 48))) rfl rfl rfl ?_
            refine y_rI rfl (Or.inl rfl) ?_
            have e : pT τ z p = _ := pT_c1 (by omega) (by omega)
            rw [e] at k
            have e2 : 104 + (hr τ z (p + 1) - 48) = (if hr τ z p = 116 then 104 else if hr τ z p = 115 then 108 else 112) + (hr τ z (p + 1) - 48) := by rw [if_pos (by omega)]
            rw [e2]
            exact k _ h17 (CF_tr (CF_tr (CF_rf t V) f13) f17)
          · refine y_nv ?_
            refine y_st (lv' := [(2, iv (-1)), (1, iv 0), (0, .ref 115)]) rfl rfl (fun d => rfl) ?_
            refine y_ld (x := iv (-1)) rfl rfl (fun d => rfl) ?_
            refine y_zge rfl rfl rfl (by decide) (fun g10 => absurd g10 (by decide)) (fun g10 => ?_)
            refine y_ic rfl rfl ?_
            refine y_go rfl rfl ?_
            refine y_rI rfl (Or.inl rfl) ?_
            have e : pT τ z p = _ := pT_c0 (by omega) (by omega)
            rw [e] at k
            exact k _ h13 (CF_tr (CF_rf t V) f13)
        · refine y_nv ?_
          refine y_zeq rfl rfl rfl (by decide) (fun g11 => ?_) (fun g11 => absurd g11 (by decide))
          refine y_ld (x := .ref 115) rfl rfl (fun d => rfl) ?_
          refine y_bi rfl rfl (by decide) ?_
          refine y_cV (as := [.ref 115, iv 115]) rfl rfl rfl rfl rfl hR ⟨rfl, (Nat.le_of_ble_eq_true rfl), (Nat.le_of_ble_eq_true rfl)⟩ (by decide) (cr_takes hC hR hX ht hT (by decide) h (by omega) (fun q22 V21 h21 f21 => ?_) (fun q23 => ?_))
          · have pl24 := hr_le (τ := τ) (z := z) (p := p) (by omega)
            refine y_nv ?_
            refine y_zeq rfl rfl rfl (by decide) (fun g12 => absurd g12 (by decide)) (fun g12 => ?_)
            refine y_ic rfl rfl ?_
            refine y_go rfl rfl ?_
            refine y_st (lv' := [(1, iv 1), (0, .ref 115)]) rfl rfl (fun d => rfl) ?_
            refine y_ld (x := iv 1) rfl rfl (fun d => rfl) ?_
            refine y_zlt rfl rfl rfl (by decide) (fun g13 => absurd g13 (by decide)) (fun g13 => ?_)
            refine y_ld (x := .ref 115) rfl rfl (fun d => rfl) ?_
            refine y_ic rfl rfl ?_
            refine y_cV (as := [.ref 115, iv 3]) rfl rfl rfl rfl rfl hR ⟨rfl, (Nat.le_of_ble_eq_true rfl), (Nat.le_of_ble_eq_true rfl)⟩ (by decide) (cr_digit hC hR hX ht hT (by decide) h21 (by omega) (fun q26 V25 h25 f25 => ?_) (fun q27 => ?_))
            · have pl28 := hr_le (τ := τ) (z := z) (p := (p + 1)) (by omega)
              refine y_nv ?_
              refine y_st (lv' := [(2, iv (hr τ z (p + 1) - 48)), (1, iv 1), (0, .ref 115)]) rfl rfl (fun d => rfl) ?_
              refine y_ld (x := iv (hr τ z (p + 1) - 48)) rfl rfl (fun d => rfl) ?_
              refine y_zge rfl rfl rfl (by omega) (fun g14 => ?_) (fun g14 => absurd g14 (by omega))
              refine y_bi rfl rfl (by decide) ?_
              refine y_ld (x := iv 1) rfl rfl (fun d => rfl) ?_
              refine y_ic rfl rfl ?_
              refine y_mul (z := 4) rfl rfl rfl ?_
              refine y_add (z := 108) rfl rfl rfl ?_
              refine y_ld (x := iv (hr τ z (p + 1) - 48)) rfl rfl (fun d => rfl) ?_
              refine y_add (z := (108 + (hr τ z (p + 1) - 48))) rfl rfl rfl ?_
              refine y_rI rfl (Or.inl rfl) ?_
              have e : pT τ z p = _ := pT_c1 (by omega) (by omega)
              rw [e] at k
              have e2 : 108 + (hr τ z (p + 1) - 48) = (if hr τ z p = 116 then 104 else if hr τ z p = 115 then 108 else 112) + (hr τ z (p + 1) - 48) := by rw [if_neg (by omega), if_pos (by omega)]
              rw [e2]
              exact k _ h25 (CF_tr (CF_tr (CF_rf t V) f21) f25)
            · refine y_nv ?_
              refine y_st (lv' := [(2, iv (-1)), (1, iv 1), (0, .ref 115)]) rfl rfl (fun d => rfl) ?_
              refine y_ld (x := iv (-1)) rfl rfl (fun d => rfl) ?_
              refine y_zge rfl rfl rfl (by decide) (fun g15 => absurd g15 (by decide)) (fun g15 => ?_)
              refine y_ic rfl rfl ?_
              refine y_go rfl rfl ?_
              refine y_rI rfl (Or.inl rfl) ?_
              have e : pT τ z p = _ := pT_c0 (by omega) (by omega)
              rw [e] at k
              exact k _ h21 (CF_tr (CF_rf t V) f21)
          · refine y_nv ?_
            refine y_zeq rfl rfl rfl (by decide) (fun g16 => ?_) (fun g16 => absurd g16 (by decide))
            refine y_ld (x := .ref 115) rfl rfl (fun d => rfl) ?_
            refine y_bi rfl rfl (by decide) ?_
            refine y_cV (as := [.ref 115, iv 103]) rfl rfl rfl rfl rfl hR ⟨rfl, (Nat.le_of_ble_eq_true rfl), (Nat.le_of_ble_eq_true rfl)⟩ (by decide) (cr_takes hC hR hX ht hT (by decide) h (by omega) (fun q30 V29 h29 f29 => ?_) (fun q31 => ?_))
            · have pl32 := hr_le (τ := τ) (z := z) (p := p) (by omega)
              refine y_nv ?_
              refine y_zeq rfl rfl rfl (by decide) (fun g17 => absurd g17 (by decide)) (fun g17 => ?_)
              refine y_ic rfl rfl ?_
              refine y_go rfl rfl ?_
              refine y_st (lv' := [(1, iv 2), (0, .ref 115)]) rfl rfl (fun d => rfl) ?_
              refine y_ld (x := iv 2) rfl rfl (fun d => rfl) ?_
              refine y_zlt rfl rfl rfl (by decide) (fun g18 => absurd g18 (by decide)) (fun g18 => ?_)
              refine y_ld (x := .ref 115) rfl rfl (fun d => rfl) ?_
              refine y_ic rfl rfl ?_
              refine y_cV (as := [.ref 115, iv 3]) rfl rfl rfl rfl rfl hR ⟨rfl, (Nat.le_of_ble_eq_true rfl), (Nat.le_of_ble_eq_true rfl)⟩ (by decide) (cr_digit hC hR hX ht hT (by decide) h29 (by omega) (fun q34 V33 h33 f33 => ?_) (fun q35 => ?_))
              · have pl36 := hr_le (τ := τ) (z := z) (p := (p + 1)) (by omega)
                refine y_nv ?_
                refine y_st (lv' := [(2, iv (hr τ z (p + 1) - 48)), (1, iv 2), (0, .ref 115)]) rfl rfl (fun d => rfl) ?_
                refine y_ld (x := iv (hr τ z (p + 1) - 48)) rfl rfl (fun d => rfl) ?_
                refine y_zge rfl rfl rfl (by omega) (fun g19 => ?_) (fun g19 => absurd g19 (by omega))
                refine y_bi rfl rfl (by decide) ?_
                refine y_ld (x := iv 2) rfl rfl (fun d => rfl) ?_
                refine y_ic rfl rfl ?_
                refine y_mul (z := 8) rfl rfl rfl ?_
                refine y_add (z := 112) rfl rfl rfl ?_
                refine y_ld (x := iv (hr τ z (p + 1) - 48)) rfl rfl (fun d => rfl) ?_
                refine y_add (z := (112 + (hr τ z (p + 1) - 48))) rfl rfl rfl ?_
                refine y_rI rfl (Or.inl rfl) ?_
                have e : pT τ z p = _ := pT_c1 (by omega) (by omega)
                rw [e] at k
                have e2 : 112 + (hr τ z (p + 1) - 48) = (if hr τ z p = 116 then 104 else if hr τ z p = 115 then 108 else 112) + (hr τ z (p + 1) - 48) := by rw [if_neg (by omega), if_neg (by omega)]
                rw [e2]
                exact k _ h33 (CF_tr (CF_tr (CF_rf t V) f29) f33)
              · refine y_nv ?_
                refine y_st (lv' := [(2, iv (-1)), (1, iv 2), (0, .ref 115)]) rfl rfl (fun d => rfl) ?_
                refine y_ld (x := iv (-1)) rfl rfl (fun d => rfl) ?_
                refine y_zge rfl rfl rfl (by decide) (fun g20 => absurd g20 (by decide)) (fun g20 => ?_)
                refine y_ic rfl rfl ?_
                refine y_go rfl rfl ?_
                refine y_rI rfl (Or.inl rfl) ?_
                have e : pT τ z p = _ := pT_c0 (by omega) (by omega)
                rw [e] at k
                exact k _ h29 (CF_tr (CF_rf t V) f29)
            · refine y_nv ?_
              refine y_zeq rfl rfl rfl (by decide) (fun g21 => ?_) (fun g21 => absurd g21 (by decide))
              refine y_ic rfl rfl ?_
              refine y_st (lv' := [(1, iv (-1)), (0, .ref 115)]) rfl rfl (fun d => rfl) ?_
              refine y_ld (x := iv (-1)) rfl rfl (fun d => rfl) ?_
              refine y_zlt rfl rfl rfl (by decide) (fun g22 => ?_) (fun g22 => absurd g22 (by decide))
              refine y_ld (x := .ref 115) rfl rfl (fun d => rfl) ?_
              refine y_bi rfl rfl (by decide) ?_
              refine y_cV (as := [.ref 115, iv 9]) rfl rfl rfl rfl rfl hR ⟨rfl, (Nat.le_of_ble_eq_true rfl), (Nat.le_of_ble_eq_true rfl)⟩ (by decide) (cr_digit hC hR hX ht hT (by decide) h (by omega) (fun q38 V37 h37 f37 => ?_) (fun q39 => ?_))
              · have pl40 := hr_le (τ := τ) (z := z) (p := p) (by omega)
                refine y_nv ?_
                refine y_st (lv' := [(2, iv (hr τ z p - 48)), (1, iv (-1)), (0, .ref 115)]) rfl rfl (fun d => rfl) ?_
                refine y_ld (x := iv (hr τ z p - 48)) rfl rfl (fun d => rfl) ?_
                refine y_zgt rfl rfl rfl (by omega) (fun g23 => ?_) (fun g23 => ?_)
                · refine y_ld (x := .ref 115) rfl rfl (fun d => rfl) ?_
                  refine y_bi rfl rfl (by decide) ?_
                  refine y_cV (as := [.ref 115, iv 9]) rfl rfl rfl rfl rfl hR ⟨rfl, (Nat.le_of_ble_eq_true rfl), (Nat.le_of_ble_eq_true rfl)⟩ (by decide) (cr_digit hC hR hX ht hT (by decide) h37 (by omega) (fun q42 V41 h41 f41 => ?_) (fun q43 => ?_))
                  · have pl44 := hr_le (τ := τ) (z := z) (p := (p + 1)) (by omega)
                    refine y_nv ?_
                    refine y_st (lv' := [(3, iv (hr τ z (p + 1) - 48)), (2, iv (hr τ z p - 48)), (1, iv (-1)), (0, .ref 115)]) rfl rfl (fun d => rfl) ?_
                    refine y_ld (x := iv (hr τ z (p + 1) - 48)) rfl rfl (fun d => rfl) ?_
                    refine y_zge rfl rfl rfl (by omega) (fun g24 => ?_) (fun g24 => absurd g24 (by omega))
                    refine y_ld (x := iv (hr τ z p - 48)) rfl rfl (fun d => rfl) ?_
                    refine y_bi rfl rfl (by decide) ?_
                    refine y_mul (z := ((hr τ z p - 48) * 10)) rfl rfl rfl ?_
                    refine y_ld (x := iv (hr τ z (p + 1) - 48)) rfl rfl (fun d => rfl) ?_
                    refine y_add (z := (((hr τ z p - 48) * 10) + (hr τ z (p + 1) - 48))) rfl rfl rfl ?_
                    refine y_rI rfl (Or.inl rfl) ?_
                    have e : pT τ z p = _ := pT_2 (by omega) (by omega)
                    rw [e] at k
                    exact k _ h41 (CF_tr (CF_tr (CF_rf t V) f37) f41)
                  · refine y_nv ?_
                    refine y_st (lv' := [(3, iv (-1)), (2, iv (hr τ z p - 48)), (1, iv (-1)), (0, .ref 115)]) rfl rfl (fun d => rfl) ?_
                    refine y_ld (x := iv (-1)) rfl rfl (fun d => rfl) ?_
                    refine y_zge rfl rfl rfl (by decide) (fun g25 => absurd g25 (by decide)) (fun g25 => ?_)
                    refine y_ld (x := iv (hr τ z p - 48)) rfl rfl (fun d => rfl) ?_
                    refine y_go rfl rfl ?_
                    refine y_rI rfl (Or.inl rfl) ?_
                    have e : pT τ z p = _ := pT_1 (by omega) (by omega)
                    rw [e] at k
                    exact k _ h37 (CF_tr (CF_rf t V) f37)
                · refine y_ld (x := iv (hr τ z p - 48)) rfl rfl (fun d => rfl) ?_
                  refine y_rI rfl (Or.inl rfl) ?_
                  have e : pT τ z p = _ := pT_0 (by omega)
                  rw [e] at k
                  have e2 : hr τ z p - 48 = 0 := by omega
                  rw [e2]
                  exact k _ h37 (CF_tr (CF_rf t V) f37)
              · refine y_nv ?_
                refine y_st (lv' := [(2, iv (-1)), (1, iv (-1)), (0, .ref 115)]) rfl rfl (fun d => rfl) ?_
                refine y_ld (x := iv (-1)) rfl rfl (fun d => rfl) ?_
                refine y_zgt rfl rfl rfl (by decide) (fun g26 => absurd g26 (by decide)) (fun g26 => ?_)
                refine y_ld (x := iv (-1)) rfl rfl (fun d => rfl) ?_
                refine y_rI rfl (Or.inl rfl) ?_
                have e : pT τ z p = _ := pT_x (by omega)
                rw [e] at k
                exact k _ h (CF_rf t V)
end
