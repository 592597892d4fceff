/-! shown, ways: the class -/
/-- what the search's calls leave -/
def SrE (S : m_H) (V : v_V) (S2 : m_H) (V2 : v_V) : Prop := SQ2 S S2 ∧ ce S2 116 4 (S116l (.ref 7)) ∧ XsA S2 ∧ FrV V V2
section
variable {X : Nat → List Int32} {u w : Nat} {S : m_H} {V : v_V} {K : v_K}
set_option maxRecDepth 100000 in
set_option maxHeartbeats 4000000 in
theorem cs_shown (hC : ClF S) {tl : Nat → List p_Li} {cnt : Nat} {σ : Nat → Int} (hRS : RS S V 1 σ tl) (hSO : SO cnt σ) (hTO : ∀ i : Nat, (i : Int) < σ 0 → TO (tl i)) {lf : Value} (h116 : ce S 116 4 (S116l lf)) (hX : XsA S) (hSg : SgC V 0 0 4 (fun _ _ => 0) aw0) {x : Int} (hx : (-2147483648 ≤ x ∧ x < 2147483648)) {y : Int} (hy : (-2147483648 ≤ y ∧ y < 2147483648)) {n : Int} (hn : (-2147483648 ≤ n ∧ n < 2147483648)) {d : Int} (hd : (-2147483648 ≤ d ∧ d < 2147483648)) {i : Int} (hi : (-2147483648 ≤ i ∧ i < 2147483648)) (k0 : ¬ ((0 ≤ x ∧ x < σ 0) ∧ (0 ≤ y ∧ y ≤ 4) ∧ -2 ≤ i) → K u w (some (iv (-1))) S V) (k1 : ((0 ≤ x ∧ x < σ 0) ∧ (0 ≤ y ∧ y ≤ 4) ∧ -2 ≤ i) → ¬ ((0 ≤ n ∧ n ≤ 99) ∧ (1 ≤ d ∧ d ≤ 3)) → K u w (some (iv (-2))) S V) (k2 : ∀ al : Nat, ((0 ≤ x ∧ x < σ 0) ∧ (0 ≤ y ∧ y ≤ 4) ∧ -2 ≤ i) → ((0 ≤ n ∧ n ≤ 99) ∧ (1 ≤ d ∧ d ≤ 3)) → σ 5 = (al : Int) → ∀ dn : Nat, d = (dn : Int) → ∀ l v, resP (hitV y n σ (fun _ => tl x.toNat) 1 al) al dn l v → ∀ S2 V2, SrE S V S2 V2 → K u w (some (iv (shA al l v i))) S2 V2) : y_R X 15 88 u w [.ref 0, iv x, iv y, iv n, iv d, iv i] S V K := by
  obtain ⟨n1, n2, n3, n4⟩ := hRS.1
  have hsz := hSO.1
  obtain ⟨ta, hT, hTt⟩ := TAx_RT hRS.2.1 hRS.1 hSO
  obtain ⟨al, hal⟩ : ∃ al : Nat, σ 5 = (al : Int) := ⟨(σ 5).toNat, by omega⟩
  have hal5 : al ≤ 5 := by omega
  have hpq : ∀ q : Nat, q < al → pkO (σ (1770 + 4 * q)) (σ (1770 + 4 * q + 1)) (σ (1770 + 4 * q + 2)) (σ (1770 + 4 * q + 3)) := fun q hq => hSO.2.2.2.2.2.2 q (by omega)
  refine y_ent (lv' := [(0, .ref 0), (1, iv x), (2, iv y), (3, iv n), (4, iv d), (5, iv i)]) (Nat.le_of_ble_eq_true rfl) rfl ?_
  refine y_ld (x := .ref 0) rfl rfl (fun d => rfl) ?_
  refine y_gR (i := 0) rfl rfl rfl (hC 0 _ _ rfl) rfl ?_
  refine y_ld (x := iv x) rfl rfl (fun d => rfl) ?_
  refine y_cV (as := [.ref 1, iv x]) rfl rfl rfl rfl rfl (hC 1 _ _ rfl) ⟨rfl, (Nat.le_of_ble_eq_true rfl), (Nat.le_of_ble_eq_true rfl)⟩ (by decide) (cb_textAt (x := x) hC hT (by omega) (fun gT1 => ?_) (fun (t : Nat) gT1 ht1a ht1b ht1c => ?_))
  · refine y_nv ?_
    refine y_st (lv' := [(6, .null), (0, .ref 0), (1, iv x), (2, iv y), (3, iv n), (4, iv d), (5, iv i)]) rfl rfl (fun d => rfl) ?_
    refine y_ld (x := .null) rfl rfl (fun d => rfl) ?_
    refine y_in (pc' := 29) rfl rfl (fun d => rfl) ?_
    refine y_ic rfl rfl ?_
    refine y_rI rfl (Or.inl rfl) ?_
    exact k0 (by omega)
  · obtain ⟨-, -, hct1⟩ := hTt x.toNat t (by omega) ht1a
    refine y_nv ?_
    refine y_st (lv' := [(6, .ref t), (0, .ref 0), (1, iv x), (2, iv y), (3, iv n), (4, iv d), (5, iv i)]) rfl rfl (fun d => rfl) ?_
    refine y_ld (x := .ref t) rfl rfl (fun d => rfl) ?_
    refine y_in (pc' := 15) rfl rfl (fun d => rfl) ?_
    refine y_ld (x := iv y) rfl rfl (fun d => rfl) ?_
    refine y_cS (as := [iv y]) rfl (by decide) rfl rfl rfl rfl ⟨(Nat.le_of_ble_eq_true rfl), (Nat.le_of_ble_eq_true rfl)⟩ (by decide) (cc_isForm (by omega) ?_)
    refine y_nv ?_
    refine y_beq rfl rfl rfl (fun g1 => ?_) (fun g1 => ?_)
    · refine y_ic rfl rfl ?_
      refine y_rI rfl (Or.inl rfl) ?_
      exact k0 (by omega)
    · refine y_ld (x := iv i) rfl rfl (fun d => rfl) ?_
      refine y_bi rfl rfl (by decide) ?_
      refine y_jge rfl rfl rfl (by omega) (fun g2 => ?_) (fun g2 => ?_)
      · refine y_ld (x := iv n) rfl rfl (fun d => rfl) ?_
        refine y_cS (as := [iv n]) rfl (by decide) rfl rfl rfl rfl ⟨(Nat.le_of_ble_eq_true rfl), (Nat.le_of_ble_eq_true rfl)⟩ (by decide) (cc_isN (by omega) ?_)
        refine y_nv ?_
        refine y_beq rfl rfl rfl (fun g3 => ?_) (fun g3 => ?_)
        · refine y_bi rfl rfl (by decide) ?_
          refine y_rI rfl (Or.inl rfl) ?_
          exact k1 (by omega) (by omega)
        · refine y_ld (x := iv d) rfl rfl (fun d => rfl) ?_
          refine y_cS (as := [iv d]) rfl (by decide) rfl rfl rfl rfl ⟨(Nat.le_of_ble_eq_true rfl), (Nat.le_of_ble_eq_true rfl)⟩ (by decide) (cc_isDepth (by omega) ?_)
          refine y_nv ?_
          refine y_bne rfl rfl rfl (fun g4 => ?_) (fun g4 => ?_)
          · obtain ⟨dn, rfl⟩ : ∃ dn : Nat, d = (dn : Int) := ⟨d.toNat, by omega⟩
            refine y_ld (x := .ref 0) rfl rfl (fun d => rfl) ?_
            refine y_gR (i := 4) rfl rfl rfl (hC 0 _ _ rfl) rfl ?_
            refine y_ld (x := .ref 0) rfl rfl (fun d => rfl) ?_
            refine y_gR (i := 0) rfl rfl rfl (hC 0 _ _ rfl) rfl ?_
            refine y_gR (i := 11) rfl rfl rfl (hC 1 _ _ rfl) rfl ?_
            refine y_ld (x := .ref 0) rfl rfl (fun d => rfl) ?_
            refine y_gR (i := 0) rfl rfl rfl (hC 0 _ _ rfl) rfl ?_
            refine y_gI (i := 12) (e := (al : Int)) rfl rfl rfl (hC 1 _ _ rfl) rfl (n1.2.2.2.2.2.2.trans hal) ?_
            refine y_ld (x := iv y) rfl rfl (fun d => rfl) ?_
            refine y_ld (x := iv n) rfl rfl (fun d => rfl) ?_
            refine y_cV (as := [.ref 116, .ref 7, iv (al : Int), iv y, iv n]) rfl rfl rfl rfl rfl h116 ⟨rfl, (Nat.le_of_ble_eq_true rfl), (Nat.le_of_ble_eq_true rfl)⟩ (by decide) (cs_begin (form := y) (N := n) (ts := (fun _ => tl x.toNat)) hC h116 hX hRS hal (fun S1 V1 hSr1 hX1 q1 f1 hC1 => ?_))
            refine y_n0 ?_
            refine y_ld (x := .ref 0) rfl rfl (fun d => rfl) ?_
            refine y_gR (i := 4) rfl rfl rfl (hC1 0 _ _ rfl) rfl ?_
            refine y_ld (x := .ref t) rfl rfl (fun d => rfl) ?_
            refine y_ic rfl rfl ?_
            refine y_cV (as := [.ref 116, .ref t, iv (-1)]) rfl rfl rfl rfl rfl hSr1.1 ⟨rfl, (Nat.le_of_ble_eq_true rfl), (Nat.le_of_ble_eq_true rfl)⟩ (by decide) (cs_add (ts2 := (fun _ => tl x.toNat)) hC1 hSr1 hX1 (by decide) ht1b (TxS_2 ht1b ht1c q1) (CT_hi (fun k hk => f1 k (by omega) (by omega) (by omega) (by omega)) ht1b hct1) rfl (fun i hi => absurd hi (by omega)) (fun S2 V2 hSr2 hX2 q2 f2 hC2 o2 => ?_))
            refine y_n0 ?_
            refine y_ld (x := .ref 0) rfl rfl (fun d => rfl) ?_
            refine y_gR (i := 4) rfl rfl rfl (hC2 0 _ _ rfl) rfl ?_
            refine y_ld (x := iv (dn : Int)) rfl rfl (fun d => rfl) ?_
            have hfr := (FrV_tr f1 f2)
            refine y_cV (as := [.ref 116, iv (dn : Int)]) rfl rfl rfl rfl rfl hSr2.1 ⟨rfl, (Nat.le_of_ble_eq_true rfl), (Nat.le_of_ble_eq_true rfl)⟩ (by decide) (cc_shortest (mt := 1) hC2 (by decide) hal5 (fun _ _ => hTO x.toNat (by omega)) hpq (by omega) (by omega) (by omega) hSr2 (SgC_0 hSg hfr (by decide)) (fun l v V4 b1 b2 b3 b4 => ?_) (fun b2 V4 b4 => ?_))
            · have hl1 := b2.1
              have hl3 : l ≤ 3 := by omega
              have hfx := FrV_tr hfr (FrV_S b4)
              have hres := (Or.inl ⟨b1, b2⟩ : resP _ al dn l v)
              refine y_nv ?_
              refine y_st (lv' := [(7, iv (l : Int)), (6, .ref t), (0, .ref 0), (1, iv x), (2, iv y), (3, iv n), (4, iv (dn : Int)), (5, iv i)]) rfl rfl (fun d => rfl) ?_
              refine y_ld (x := iv i) rfl rfl (fun d => rfl) ?_
              refine y_ic rfl rfl ?_
              refine y_jne rfl rfl rfl (by omega) (fun g5 => ?_) (fun g5 => ?_)
              · refine y_ld (x := iv i) rfl rfl (fun d => rfl) ?_
                refine y_bi rfl rfl (by decide) ?_
                refine y_jne rfl rfl rfl (by omega) (fun g6 => ?_) (fun g6 => ?_)
                · refine y_ld (x := iv i) rfl rfl (fun d => rfl) ?_
                  refine y_ld (x := iv (l : Int)) rfl rfl (fun d => rfl) ?_
                  refine y_jge rfl rfl rfl (by omega) (fun g7 => ?_) (fun g7 => ?_)
                  · refine y_ic rfl rfl ?_
                    refine y_rI rfl (Or.inl rfl) ?_
                    have k3 := k2 al (by omega) (by omega) hal dn rfl l v hres S2 V4 ⟨(SQ2_tr q1 q2), hSr2.1, hX2, hfx⟩
                    have e9 : shA al l v i = -1 := by
                      unfold shA
                      rw [if_neg (by omega), if_neg (by omega), if_neg (by omega)]
                    rwa [e9] at k3
                  · refine y_ld (x := .ref 0) rfl rfl (fun d => rfl) ?_
                    refine y_gR (i := 4) rfl rfl rfl (hC2 0 _ _ rfl) rfl ?_
                    refine y_gR (i := 9) rfl rfl rfl hSr2.1 rfl ?_
                    refine y_ld (x := iv i) rfl rfl (fun d => rfl) ?_
                    refine y_ild (x := ((v / al ^ (l - 1 - i.toNat) % al : Nat) : Int)) (q := i.toNat) rfl rfl (cl_ia hC2 (k := 121) (N := 3) rfl) (by omega) (by decide) (by omega) (b3 i.toNat (by omega)) ?_
                    refine y_go rfl rfl ?_
                    refine y_rI rfl (Or.inl rfl) ?_
                    have k3 := k2 al (by omega) (by omega) hal dn rfl l v hres S2 V4 ⟨(SQ2_tr q1 q2), hSr2.1, hX2, hfx⟩
                    have e9 : shA al l v i = ((v / al ^ (l - 1 - i.toNat) % al : Nat) : Int) := by
                      unfold shA
                      rw [if_neg (by omega), if_neg (by omega), if_pos (by omega)]
                    rwa [e9] at k3
                · refine y_ld (x := iv (l : Int)) rfl rfl (fun d => rfl) ?_
                  refine y_rI rfl (Or.inl rfl) ?_
                  have k3 := k2 al (by omega) (by omega) hal dn rfl l v hres S2 V4 ⟨(SQ2_tr q1 q2), hSr2.1, hX2, hfx⟩
                  have e9 : shA al l v i = (l : Int) := by
                    unfold shA
                    rw [if_neg (by omega), if_pos (by omega)]
                  rwa [e9] at k3
              · refine y_ld (x := iv (l : Int)) rfl rfl (fun d => rfl) ?_
                refine y_zne rfl rfl rfl (by omega) (fun g8 => ?_) (fun g8 => absurd g8 (by omega))
                refine y_ic rfl rfl ?_
                refine y_rI rfl (Or.inl rfl) ?_
                have k3 := k2 al (by omega) (by omega) hal dn rfl l v hres S2 V4 ⟨(SQ2_tr q1 q2), hSr2.1, hX2, hfx⟩
                have e9 : shA al l v i = 0 := by
                  unfold shA
                  rw [if_pos (by omega), if_neg (by omega)]
                rwa [e9] at k3
            · have hfx := FrV_tr hfr (FrV_S b4)
              have hres := (Or.inr ⟨rfl, rfl, b2⟩ : resP _ al dn 0 0)
              refine y_nv ?_
              refine y_st (lv' := [(7, iv 0), (6, .ref t), (0, .ref 0), (1, iv x), (2, iv y), (3, iv n), (4, iv (dn : Int)), (5, iv i)]) rfl rfl (fun d => rfl) ?_
              refine y_ld (x := iv i) rfl rfl (fun d => rfl) ?_
              refine y_ic rfl rfl ?_
              refine y_jne rfl rfl rfl (by omega) (fun g9 => ?_) (fun g9 => ?_)
              · refine y_ld (x := iv i) rfl rfl (fun d => rfl) ?_
                refine y_bi rfl rfl (by decide) ?_
                refine y_jne rfl rfl rfl (by omega) (fun g10 => ?_) (fun g10 => ?_)
                · refine y_ld (x := iv i) rfl rfl (fun d => rfl) ?_
                  refine y_ld (x := iv 0) rfl rfl (fun d => rfl) ?_
                  refine y_jge rfl rfl rfl (by omega) (fun g11 => ?_) (fun g11 => absurd g11 (by omega))
                  refine y_ic rfl rfl ?_
                  refine y_rI rfl (Or.inl rfl) ?_
                  have k3 := k2 al (by omega) (by omega) hal dn rfl 0 0 hres S2 V4 ⟨(SQ2_tr q1 q2), hSr2.1, hX2, hfx⟩
                  have e9 : shA al 0 0 i = -1 := by
                    unfold shA
                    rw [if_neg (by omega), if_neg (by omega), if_neg (by omega)]
                  rwa [e9] at k3
                · refine y_ld (x := iv 0) rfl rfl (fun d => rfl) ?_
                  refine y_rI rfl (Or.inl rfl) ?_
                  have k3 := k2 al (by omega) (by omega) hal dn rfl 0 0 hres S2 V4 ⟨(SQ2_tr q1 q2), hSr2.1, hX2, hfx⟩
                  have e9 : shA al 0 0 i = 0 := by
                    unfold shA
                    rw [if_neg (by omega), if_pos (by omega)]
                    rfl
                  rwa [e9] at k3
              · refine y_ld (x := iv 0) rfl rfl (fun d => rfl) ?_
                refine y_zne rfl rfl rfl (by decide) (fun g12 => absurd g12 (by decide)) (fun g12 => ?_)
                refine y_ic rfl rfl ?_
                refine y_go rfl rfl ?_
                refine y_rI rfl (Or.inl rfl) ?_
                have k3 := k2 al (by omega) (by omega) hal dn rfl 0 0 hres S2 V4 ⟨(SQ2_tr q1 q2), hSr2.1, hX2, hfx⟩
                have e9 : shA al 0 0 i = 1 := by
                  unfold shA
                  rw [if_pos (by omega), if_pos (by omega)]
                rwa [e9] at k3
          · refine y_bi rfl rfl (by decide) ?_
            refine y_rI rfl (Or.inl rfl) ?_
            exact k1 (by omega) (by omega)
      · refine y_ic rfl rfl ?_
        refine y_rI rfl (Or.inl rfl) ?_
        exact k0 (by omega)
set_option maxRecDepth 100000 in
set_option maxHeartbeats 4000000 in
theorem cs_ways (hC : ClF S) {tl : Nat → List p_Li} {cnt : Nat} {σ : Nat → Int} (hRS : RS S V 1 σ tl) (hSO : SO cnt σ) (hTO : ∀ i : Nat, (i : Int) < σ 0 → TO (tl i)) {lf : Value} (h116 : ce S 116 4 (S116l lf)) (hX : XsA S) (hSg : SgC V 0 0 4 (fun _ _ => 0) aw0) {x : Int} (hx : (-2147483648 ≤ x ∧ x < 2147483648)) {y : Int} (hy : (-2147483648 ≤ y ∧ y < 2147483648)) {d : Int} (hd : (-2147483648 ≤ d ∧ d < 2147483648)) {i : Int} (hi : (-2147483648 ≤ i ∧ i < 2147483648)) (k0 : ¬ ((0 ≤ x ∧ x < σ 0) ∧ (0 ≤ y ∧ y < σ 0) ∧ -1 ≤ i) → K u w (some (iv (-1))) S V) (k1 : ((0 ≤ x ∧ x < σ 0) ∧ (0 ≤ y ∧ y < σ 0) ∧ -1 ≤ i) → ¬ (1 ≤ d ∧ d ≤ 3) → K u w (some (iv (-2))) S V) (k2 : ∀ al : Nat, ((0 ≤ x ∧ x < σ 0) ∧ (0 ≤ y ∧ y < σ 0) ∧ -1 ≤ i) → (1 ≤ d ∧ d ≤ 3) → σ 5 = (al : Int) → ∀ dn : Nat, d = (dn : Int) → ∀ l v, resP (hitV (-1) 0 σ (fun i => if i = 0 then tl x.toNat else tl y.toNat) 2 al) al dn l v → ∀ S2 V2, SrE S V S2 V2 → K u w (some (iv (wyA al l v i))) S2 V2) : y_R X 15 89 u w [.ref 0, iv x, iv y, iv d, iv i] S V K := by
  obtain ⟨n1, n2, n3, n4⟩ := hRS.1
  have hsz := hSO.1
  obtain ⟨ta, hT, hTt⟩ := TAx_RT hRS.2.1 hRS.1 hSO
  obtain ⟨al, hal⟩ : ∃ al : Nat, σ 5 = (al : Int) := ⟨(σ 5).toNat, by omega⟩
  have hal5 : al ≤ 5 := by omega
  have hpq : ∀ q : Nat, q < al → pkO (σ (1770 + 4 * q)) (σ (1770 + 4 * q + 1)) (σ (1770 + 4 * q + 2)) (σ (1770 + 4 * q + 3)) := fun q hq => hSO.2.2.2.2.2.2 q (by omega)
  refine y_ent (lv' := [(0, .ref 0), (1, iv x), (2, iv y), (3, iv d), (4, iv i)]) (Nat.le_of_ble_eq_true rfl) rfl ?_
  refine y_ld (x := .ref 0) rfl rfl (fun d => rfl) ?_
  refine y_gR (i := 0) rfl rfl rfl (hC 0 _ _ rfl) rfl ?_
  refine y_ld (x := iv x) rfl rfl (fun d => rfl) ?_
  refine y_cV (as := [.ref 1, iv x]) rfl rfl rfl rfl rfl (hC 1 _ _ rfl) ⟨rfl, (Nat.le_of_ble_eq_true rfl), (Nat.le_of_ble_eq_true rfl)⟩ (by decide) (cb_textAt (x := x) hC hT (by omega) (fun gT1 => ?_) (fun (t : Nat) gT1 ht1a ht1b ht1c => ?_))
  · refine y_nv ?_
    refine y_st (lv' := [(5, .null), (0, .ref 0), (1, iv x), (2, iv y), (3, iv d), (4, iv i)]) rfl rfl (fun d => rfl) ?_
    refine y_ld (x := .ref 0) rfl rfl (fun d => rfl) ?_
    refine y_gR (i := 0) rfl rfl rfl (hC 0 _ _ rfl) rfl ?_
    refine y_ld (x := iv y) rfl rfl (fun d => rfl) ?_
    refine y_cV (as := [.ref 1, iv y]) rfl rfl rfl rfl rfl (hC 1 _ _ rfl) ⟨rfl, (Nat.le_of_ble_eq_true rfl), (Nat.le_of_ble_eq_true rfl)⟩ (by decide) (cb_textAt (x := y) hC hT (by omega) (fun gT2 => ?_) (fun (t2 : Nat) gT2 ht2a ht2b ht2c => ?_))
    · refine y_nv ?_
      refine y_st (lv' := [(6, .null), (5, .null), (0, .ref 0), (1, iv x), (2, iv y), (3, iv d), (4, iv i)]) rfl rfl (fun d => rfl) ?_
      refine y_ld (x := .null) rfl rfl (fun d => rfl) ?_
      refine y_in (pc' := 36) rfl rfl (fun d => rfl) ?_
      refine y_ic rfl rfl ?_
      refine y_rI rfl (Or.inl rfl) ?_
      exact k0 (by omega)
    · obtain ⟨-, -, hct2⟩ := hTt y.toNat t2 (by omega) ht2a
      refine y_nv ?_
      refine y_st (lv' := [(6, .ref t2), (5, .null), (0, .ref 0), (1, iv x), (2, iv y), (3, iv d), (4, iv i)]) rfl rfl (fun d => rfl) ?_
      refine y_ld (x := .null) rfl rfl (fun d => rfl) ?_
      refine y_in (pc' := 36) rfl rfl (fun d => rfl) ?_
      refine y_ic rfl rfl ?_
      refine y_rI rfl (Or.inl rfl) ?_
      exact k0 (by omega)
  · obtain ⟨-, -, hct1⟩ := hTt x.toNat t (by omega) ht1a
    refine y_nv ?_
    refine y_st (lv' := [(5, .ref t), (0, .ref 0), (1, iv x), (2, iv y), (3, iv d), (4, iv i)]) rfl rfl (fun d => rfl) ?_
    refine y_ld (x := .ref 0) rfl rfl (fun d => rfl) ?_
    refine y_gR (i := 0) rfl rfl rfl (hC 0 _ _ rfl) rfl ?_
    refine y_ld (x := iv y) rfl rfl (fun d => rfl) ?_
    refine y_cV (as := [.ref 1, iv y]) rfl rfl rfl rfl rfl (hC 1 _ _ rfl) ⟨rfl, (Nat.le_of_ble_eq_true rfl), (Nat.le_of_ble_eq_true rfl)⟩ (by decide) (cb_textAt (x := y) hC hT (by omega) (fun gT2 => ?_) (fun (t2 : Nat) gT2 ht2a ht2b ht2c => ?_))
    · refine y_nv ?_
      refine y_st (lv' := [(6, .null), (5, .ref t), (0, .ref 0), (1, iv x), (2, iv y), (3, iv d), (4, iv i)]) rfl rfl (fun d => rfl) ?_
      refine y_ld (x := .ref t) rfl rfl (fun d => rfl) ?_
      refine y_in (pc' := 25) rfl rfl (fun d => rfl) ?_
      refine y_ld (x := .null) rfl rfl (fun d => rfl) ?_
      refine y_in (pc' := 36) rfl rfl (fun d => rfl) ?_
      refine y_ic rfl rfl ?_
      refine y_rI rfl (Or.inl rfl) ?_
      exact k0 (by omega)
    · obtain ⟨-, -, hct2⟩ := hTt y.toNat t2 (by omega) ht2a
      refine y_nv ?_
      refine y_st (lv' := [(6, .ref t2), (5, .ref t), (0, .ref 0), (1, iv x), (2, iv y), (3, iv d), (4, iv i)]) rfl rfl (fun d => rfl) ?_
      refine y_ld (x := .ref t) rfl rfl (fun d => rfl) ?_
      refine y_in (pc' := 25) rfl rfl (fun d => rfl) ?_
      refine y_ld (x := .ref t2) rfl rfl (fun d => rfl) ?_
      refine y_in (pc' := 30) rfl rfl (fun d => rfl) ?_
      refine y_ld (x := iv i) rfl rfl (fun d => rfl) ?_
      refine y_ic rfl rfl ?_
      refine y_jge rfl rfl rfl (by omega) (fun g1 => ?_) (fun g1 => ?_)
      · refine y_ld (x := iv d) rfl rfl (fun d => rfl) ?_
        refine y_cS (as := [iv d]) rfl (by decide) rfl rfl rfl rfl ⟨(Nat.le_of_ble_eq_true rfl), (Nat.le_of_ble_eq_true rfl)⟩ (by decide) (cc_isDepth (by omega) ?_)
        refine y_nv ?_
        refine y_bne rfl rfl rfl (fun g2 => ?_) (fun g2 => ?_)
        · obtain ⟨dn, rfl⟩ : ∃ dn : Nat, d = (dn : Int) := ⟨d.toNat, by omega⟩
          refine y_ld (x := .ref 0) rfl rfl (fun d => rfl) ?_
          refine y_gR (i := 4) rfl rfl rfl (hC 0 _ _ rfl) rfl ?_
          refine y_ld (x := .ref 0) rfl rfl (fun d => rfl) ?_
          refine y_gR (i := 0) rfl rfl rfl (hC 0 _ _ rfl) rfl ?_
          refine y_gR (i := 11) rfl rfl rfl (hC 1 _ _ rfl) rfl ?_
          refine y_ld (x := .ref 0) rfl rfl (fun d => rfl) ?_
          refine y_gR (i := 0) rfl rfl rfl (hC 0 _ _ rfl) rfl ?_
          refine y_gI (i := 12) (e := (al : Int)) rfl rfl rfl (hC 1 _ _ rfl) rfl (n1.2.2.2.2.2.2.trans hal) ?_
          refine y_ic rfl rfl ?_
          refine y_ic rfl rfl ?_
          refine y_cV (as := [.ref 116, .ref 7, iv (al : Int), iv (-1), iv 0]) rfl rfl rfl rfl rfl h116 ⟨rfl, (Nat.le_of_ble_eq_true rfl), (Nat.le_of_ble_eq_true rfl)⟩ (by decide) (cs_begin (form := (-1)) (N := 0) (ts := (fun i => if i = 0 then tl x.toNat else tl y.toNat)) hC h116 hX hRS hal (fun S1 V1 hSr1 hX1 q1 f1 hC1 => ?_))
          refine y_n0 ?_
          refine y_ld (x := .ref 0) rfl rfl (fun d => rfl) ?_
          refine y_gR (i := 4) rfl rfl rfl (hC1 0 _ _ rfl) rfl ?_
          refine y_ld (x := .ref t) rfl rfl (fun d => rfl) ?_
          refine y_ic rfl rfl ?_
          refine y_cV (as := [.ref 116, .ref t, iv (-1)]) rfl rfl rfl rfl rfl hSr1.1 ⟨rfl, (Nat.le_of_ble_eq_true rfl), (Nat.le_of_ble_eq_true rfl)⟩ (by decide) (cs_add (ts2 := (fun i => if i = 0 then tl x.toNat else tl y.toNat)) hC1 hSr1 hX1 (by decide) ht1b (TxS_2 ht1b ht1c q1) (CT_hi (fun k hk => f1 k (by omega) (by omega) (by omega) (by omega)) ht1b hct1) rfl (fun i hi => absurd hi (by omega)) (fun S2 V2 hSr2 hX2 q2 f2 hC2 o2 => ?_))
          refine y_n0 ?_
          refine y_ld (x := .ref 0) rfl rfl (fun d => rfl) ?_
          refine y_gR (i := 4) rfl rfl rfl (hC2 0 _ _ rfl) rfl ?_
          refine y_ld (x := .ref t2) rfl rfl (fun d => rfl) ?_
          refine y_ic rfl rfl ?_
          refine y_cV (as := [.ref 116, .ref t2, iv (-1)]) rfl rfl rfl rfl rfl hSr2.1 ⟨rfl, (Nat.le_of_ble_eq_true rfl), (Nat.le_of_ble_eq_true rfl)⟩ (by decide) (cs_add (ts2 := (fun i => if i = 0 then tl x.toNat else tl y.toNat)) hC2 hSr2 hX2 (by decide) ht2b (TxS_2 ht2b (TxS_2 ht2b ht2c q1) q2) (CT_hi (fun k hk => (FrV_tr f1 f2) k (by omega) (by omega) (by omega) (by omega)) ht2b hct2) rfl (fun i hi => rfl) (fun S3 V3 hSr3 hX3 q3 f3 hC3 o3 => ?_))
          refine y_n0 ?_
          refine y_ld (x := .ref 0) rfl rfl (fun d => rfl) ?_
          refine y_gR (i := 4) rfl rfl rfl (hC3 0 _ _ rfl) rfl ?_
          refine y_ld (x := iv (dn : Int)) rfl rfl (fun d => rfl) ?_
          have hfr := (FrV_tr (FrV_tr f1 f2) f3)
          refine y_cV (as := [.ref 116, iv (dn : Int)]) rfl rfl rfl rfl rfl hSr3.1 ⟨rfl, (Nat.le_of_ble_eq_true rfl), (Nat.le_of_ble_eq_true rfl)⟩ (by decide) (cc_shortest (mt := 2) hC3 (by decide) hal5 (fun i hi => by split <;> first | exact hTO x.toNat (by omega) | exact hTO y.toNat (by omega)) hpq (by omega) (by omega) (by omega) hSr3 (SgC_0 hSg hfr (by decide)) (fun l v V4 b1 b2 b3 b4 => ?_) (fun b2 V4 b4 => ?_))
          · have hl1 := b2.1
            have hl3 : l ≤ 3 := by omega
            have hfx := FrV_tr hfr (FrV_S b4)
            have hres := (Or.inl ⟨b1, b2⟩ : resP _ al dn l v)
            refine y_nv ?_
            refine y_st (lv' := [(7, iv (l : Int)), (6, .ref t2), (5, .ref t), (0, .ref 0), (1, iv x), (2, iv y), (3, iv (dn : Int)), (4, iv i)]) rfl rfl (fun d => rfl) ?_
            refine y_ld (x := iv i) rfl rfl (fun d => rfl) ?_
            refine y_ic rfl rfl ?_
            refine y_jne rfl rfl rfl (by omega) (fun g3 => ?_) (fun g3 => ?_)
            · refine y_ld (x := iv i) rfl rfl (fun d => rfl) ?_
              refine y_ld (x := iv (l : Int)) rfl rfl (fun d => rfl) ?_
              refine y_jge rfl rfl rfl (by omega) (fun g4 => ?_) (fun g4 => ?_)
              · refine y_ic rfl rfl ?_
                refine y_rI rfl (Or.inl rfl) ?_
                have k3 := k2 al (by omega) (by omega) hal dn rfl l v hres S3 V4 ⟨(SQ2_tr (SQ2_tr q1 q2) q3), hSr3.1, hX3, hfx⟩
                have e9 : wyA al l v i = -1 := by
                  unfold wyA
                  rw [if_neg (by omega), if_neg (by omega)]
                rwa [e9] at k3
              · refine y_ld (x := .ref 0) rfl rfl (fun d => rfl) ?_
                refine y_gR (i := 4) rfl rfl rfl (hC3 0 _ _ rfl) rfl ?_
                refine y_gR (i := 9) rfl rfl rfl hSr3.1 rfl ?_
                refine y_ld (x := iv i) rfl rfl (fun d => rfl) ?_
                refine y_ild (x := ((v / al ^ (l - 1 - i.toNat) % al : Nat) : Int)) (q := i.toNat) rfl rfl (cl_ia hC3 (k := 121) (N := 3) rfl) (by omega) (by decide) (by omega) (b3 i.toNat (by omega)) ?_
                refine y_go rfl rfl ?_
                refine y_rI rfl (Or.inl rfl) ?_
                have k3 := k2 al (by omega) (by omega) hal dn rfl l v hres S3 V4 ⟨(SQ2_tr (SQ2_tr q1 q2) q3), hSr3.1, hX3, hfx⟩
                have e9 : wyA al l v i = ((v / al ^ (l - 1 - i.toNat) % al : Nat) : Int) := by
                  unfold wyA
                  rw [if_neg (by omega), if_pos (by omega)]
                rwa [e9] at k3
            · refine y_ld (x := iv (l : Int)) rfl rfl (fun d => rfl) ?_
              refine y_rI rfl (Or.inl rfl) ?_
              have k3 := k2 al (by omega) (by omega) hal dn rfl l v hres S3 V4 ⟨(SQ2_tr (SQ2_tr q1 q2) q3), hSr3.1, hX3, hfx⟩
              have e9 : wyA al l v i = (l : Int) := by
                unfold wyA
                rw [if_pos (by omega)]
              rwa [e9] at k3
          · have hfx := FrV_tr hfr (FrV_S b4)
            have hres := (Or.inr ⟨rfl, rfl, b2⟩ : resP _ al dn 0 0)
            refine y_nv ?_
            refine y_st (lv' := [(7, iv 0), (6, .ref t2), (5, .ref t), (0, .ref 0), (1, iv x), (2, iv y), (3, iv (dn : Int)), (4, iv i)]) rfl rfl (fun d => rfl) ?_
            refine y_ld (x := iv i) rfl rfl (fun d => rfl) ?_
            refine y_ic rfl rfl ?_
            refine y_jne rfl rfl rfl (by omega) (fun g5 => ?_) (fun g5 => ?_)
            · refine y_ld (x := iv i) rfl rfl (fun d => rfl) ?_
              refine y_ld (x := iv 0) rfl rfl (fun d => rfl) ?_
              refine y_jge rfl rfl rfl (by omega) (fun g6 => ?_) (fun g6 => absurd g6 (by omega))
              refine y_ic rfl rfl ?_
              refine y_rI rfl (Or.inl rfl) ?_
              have k3 := k2 al (by omega) (by omega) hal dn rfl 0 0 hres S3 V4 ⟨(SQ2_tr (SQ2_tr q1 q2) q3), hSr3.1, hX3, hfx⟩
              have e9 : wyA al 0 0 i = -1 := by
                unfold wyA
                rw [if_neg (by omega), if_neg (by omega)]
              rwa [e9] at k3
            · refine y_ld (x := iv 0) rfl rfl (fun d => rfl) ?_
              refine y_rI rfl (Or.inl rfl) ?_
              have k3 := k2 al (by omega) (by omega) hal dn rfl 0 0 hres S3 V4 ⟨(SQ2_tr (SQ2_tr q1 q2) q3), hSr3.1, hX3, hfx⟩
              have e9 : wyA al 0 0 i = 0 := by
                unfold wyA
                rw [if_pos (by omega)]
                rfl
              rwa [e9] at k3
        · refine y_bi rfl rfl (by decide) ?_
          refine y_rI rfl (Or.inl rfl) ?_
          exact k1 (by omega) (by omega)
      · refine y_ic rfl rfl ?_
        refine y_rI rfl (Or.inl rfl) ?_
        exact k0 (by omega)
end
