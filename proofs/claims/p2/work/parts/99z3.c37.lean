/-! work, send, release: the class -/
section
variable {X : Nat → List Int32} {u w : Nat} {S : m_H} {V : v_V} {K : v_K}
set_option maxRecDepth 100000 in
set_option maxHeartbeats 4000000 in
theorem cs_work (hC : ClF S) (hSl : 193 ≤ S.length ∧ S.length + 7 < 1000000) {tl : Nat → List p_Li} {cnt : Nat} {σ : Nat → Int} (hRS : RS S V 1 σ tl) (hSO : SO cnt σ) (hTO : ∀ i : Nat, (i : Int) < σ 0 → TO (tl i)) {x : Int} (hx : (-2147483648 ≤ x ∧ x < 2147483648)) {t : Int} (ht : (-2147483648 ≤ t ∧ t < 2147483648)) {h : Int} (hh1 : (-2147483648 ≤ h ∧ h < 2147483648)) {y : Int} (hy : (-2147483648 ≤ y ∧ y < 2147483648)) {o : Int} (ho : (-2147483648 ≤ o ∧ o < 2147483648)) (k0 : ¬ (0 ≤ x ∧ x < V 1 5) → K u w (some (iv (-1))) S V) (k1 : 0 ≤ x ∧ x < V 1 5 → ¬ z_rf t h y o = 0 → K u w (some (iv (z_rf t h y o))) S V) (k2 : 0 ≤ x ∧ x < V 1 5 → z_rf t h y o = 0 → ∀ V2, RS (S ++ [(2, m_dfl 2)]) V2 1 (sgW tl σ x.toNat t h y o).2 tl → FrN S V V2 → K (u + 1) (w + 4) (some (iv (sgW tl σ x.toNat t h y o).1)) (S ++ [(2, m_dfl 2)]) V2) : y_R X 7 75 u w [.ref 0, iv x, iv t, iv h, iv y, iv o] S V K := by
  obtain ⟨n1, n2, n3, n4⟩ := hRS.1
  have hsz := hSO.1
  have hrf := rf_vals t h y o
  have hB : 0 ≤ V 1 5 ∧ V 1 5 ≤ 8 := by omega
  refine y_ent (lv' := [(0, .ref 0), (1, iv x), (2, iv t), (3, iv h), (4, iv y), (5, iv o)]) (Nat.le_of_ble_eq_true rfl) rfl ?_
  refine y_ld (x := .ref 0) rfl rfl (fun d => rfl) ?_
  refine y_gR (i := 0) rfl rfl rfl (hC 0 _ _ rfl) rfl ?_
  refine y_ld (x := iv x) rfl rfl (fun d => rfl) ?_
  refine y_cV (as := [.ref 1, iv x]) rfl rfl rfl rfl rfl (hC 1 _ _ rfl) ⟨rfl, (Nat.le_of_ble_eq_true rfl), (Nat.le_of_ble_eq_true rfl)⟩ (by decide) (cb_boxAt (x := x) hC hB (by omega) (fun gb1 => ?_) (fun gb1 => ?_))
  · refine y_nv ?_
    refine y_st (lv' := [(6, .null), (0, .ref 0), (1, iv x), (2, iv t), (3, iv h), (4, iv y), (5, iv o)]) rfl rfl (fun d => rfl) ?_
    refine y_ld (x := .null) rfl rfl (fun d => rfl) ?_
    refine y_in (pc' := 15) rfl rfl (fun d => rfl) ?_
    refine y_ic rfl rfl ?_
    refine y_rI rfl (Or.inl rfl) ?_
    exact k0 (by omega)
  · refine y_nv ?_
    refine y_st (lv' := [(6, .ref (10 + 6 * x.toNat)), (0, .ref 0), (1, iv x), (2, iv t), (3, iv h), (4, iv y), (5, iv o)]) rfl rfl (fun d => rfl) ?_
    refine y_ld (x := .ref (10 + 6 * x.toNat)) rfl rfl (fun d => rfl) ?_
    refine y_in (pc' := 17) rfl rfl (fun d => rfl) ?_
    refine y_ld (x := iv t) rfl rfl (fun d => rfl) ?_
    refine y_ld (x := iv h) rfl rfl (fun d => rfl) ?_
    refine y_ld (x := iv y) rfl rfl (fun d => rfl) ?_
    refine y_ld (x := iv o) rfl rfl (fun d => rfl) ?_
    refine y_cS (as := [iv t, iv h, iv y, iv o]) rfl (by decide) rfl rfl rfl rfl ⟨(Nat.le_of_ble_eq_true rfl), (Nat.le_of_ble_eq_true rfl)⟩ (by decide) (cc_refusalOf (by omega) ?_)
    refine y_nv ?_
    refine y_st (lv' := [(7, iv (z_rf t h y o)), (6, .ref (10 + 6 * x.toNat)), (0, .ref 0), (1, iv x), (2, iv t), (3, iv h), (4, iv y), (5, iv o)]) rfl rfl (fun d => rfl) ?_
    refine y_ld (x := iv (z_rf t h y o)) rfl rfl (fun d => rfl) ?_
    refine y_zeq rfl rfl rfl (by omega) (fun g1 => ?_) (fun g1 => ?_)
    · refine y_ld (x := .ref (10 + 6 * x.toNat)) rfl rfl (fun d => rfl) ?_
      refine y_new (z := 4) rfl rfl (by omega) rfl (dfl_ok (by decide)) ?_
      refine y_V (V' := v_ur V S.length (fun _ => 0)) rfl ?_
      have hp : ce (S ++ [(2, m_dfl 2)]) S.length 2 [.int 0, .int 0, .int 0, .int 0] := ce_new (by omega)
      have hCp : ClF (S ++ [(2, m_dfl 2)]) := cl_app hC
      refine y_in rfl rfl (fun d => rfl) ?_
      refine y_ld (x := iv t) rfl rfl (fun d => rfl) ?_
      refine y_ld (x := iv h) rfl rfl (fun d => rfl) ?_
      refine y_ld (x := iv y) rfl rfl (fun d => rfl) ?_
      refine y_ld (x := iv o) rfl rfl (fun d => rfl) ?_
      refine y_cI (as := [.ref S.length, iv t, iv h, iv y, iv o]) rfl (by decide) rfl rfl rfl rfl ⟨(Nat.le_of_ble_eq_true rfl), (Nat.le_of_ble_eq_true rfl), (by omega)⟩ (by decide) (cp_init hp ?_)
      have hPk := pkV_pk (S := S) (V := V) (t := t) (h := h) (y := y) (o := o) (by omega)
      have hfr : ∀ k, k < S.length → (pkV V S.length t h y o) k = V k := fun k hk => pkV_fr (by omega)
      have hRS2 := RS_ap hRS (Or.inl rfl) (SQ_app 0 S (2, m_dfl 2)) (by decide) hfr hSl.1
      refine y_n0 ?_
      have hpk := rf_pkO (by assumption : z_rf t h y o = 0)
      have hb8 : x.toNat < 8 := by omega
      have hbn : ((x.toNat : Nat) : Int) < σ 1 := by omega
      have hx2t := (hSO.2.2.1 x.toNat hb8).2.1
      have hTx := hx2t.2.2 hbn
      have hl := hTO (σ (178 + x.toNat)).toNat (by omega)
      obtain ⟨ta, hT, hTt⟩ := TAx_RT hRS2.2.1 hRS2.1 hSO
      obtain ⟨m1, m2, m3, m4⟩ := hRS2.1
      have hbw := m4 x.toNat hb8
      have et : (pkV V S.length t h y o) (10 + 6 * x.toNat) 2 = σ (178 + x.toNat) := hbw.2.2.1
      have hsg := RS_sg hRS2 hSO hTO hb8 hbn hpk
      have hmu : muO ((pkV V S.length t h y o) (10 + 6 * x.toNat + 3)) := fun p hp => by rw [show (pkV V S.length t h y o) (10 + 6 * x.toNat + 3) p = σ (200 + 84 * x.toNat + p) from hbw.2.2.2.2.2.2.1 p hp]; exact (hSO.2.2.1 _ hb8).2.2.2.2.1 p hp
      refine y_ld (x := .ref 0) rfl rfl (fun d => rfl) ?_
      refine y_gR (i := 0) rfl rfl rfl (hCp 0 _ _ rfl) rfl ?_
      refine y_ld (x := .ref (10 + 6 * x.toNat)) rfl rfl (fun d => rfl) ?_
      refine y_gI (i := 2) (e := (σ (178 + x.toNat))) rfl rfl rfl (bx_ob hCp (i := x.toNat) (by omega)) rfl et ?_
      refine y_cV (as := [.ref 1, iv (σ (178 + x.toNat))]) rfl rfl rfl rfl rfl (hCp 1 _ _ rfl) ⟨rfl, (Nat.le_of_ble_eq_true rfl), (Nat.le_of_ble_eq_true rfl)⟩ (by decide) (cb_textAt (x := σ (178 + x.toNat)) hCp hT (by omega) (fun hno => absurd (show 0 ≤ σ (178 + x.toNat) ∧ σ (178 + x.toNat) < (pkV V S.length t h y o) 1 3 by omega) hno) (fun (t1 : Nat) gT ht1 ht2 ht3 => ?_))
      obtain ⟨-, -, hct⟩ := hTt _ t1 (by omega) ht1
      refine y_nv ?_
      refine y_cV (as := [.ref (10 + 6 * x.toNat), .ref S.length, .ref t1]) rfl rfl rfl rfl rfl (bx_ob hCp (i := x.toNat) (by omega)) ⟨rfl, (Nat.le_of_ble_eq_true rfl), (Nat.le_of_ble_eq_true rfl)⟩ (by decide) (cc_steps (b := x.toNat) (l := (tl (σ (178 + x.toNat)).toNat)) hCp hb8 ht3 ht2 hSl.1 hPk hpk hmu (CT_w6 hct hl) hct hl.1 hl.2.1 hl.2.2.1 ?_)
      refine y_nv ?_
      refine y_iv hsg.1 ?_
      refine y_rI rfl (Or.inl rfl) ?_
      exact k2 (by omega) (by assumption) _ hsg.2 (FrN_W hfr (FrW_st hb8))
    · refine y_ld (x := iv (z_rf t h y o)) rfl rfl (fun d => rfl) ?_
      refine y_rI rfl (Or.inl rfl) ?_
      exact k1 (by omega) (by assumption)
theorem pkV_1 {S : m_H} {V : v_V} {t h y o : Int} (hl : 193 ≤ S.length) : pkV V S.length t h y o 1 = V 1 := pkV_fr (by omega)
set_option maxRecDepth 100000 in
set_option maxHeartbeats 4000000 in
theorem cs_send (hC : ClF S) (hSl : 193 ≤ S.length ∧ S.length + 7 < 1000000) {tl : Nat → List p_Li} {cnt : Nat} {σ : Nat → Int} (hRS : RS S V 1 σ tl) (hSO : SO cnt σ) (hTO : ∀ i : Nat, (i : Int) < σ 0 → TO (tl i)) {t : Int} (ht : (-2147483648 ≤ t ∧ t < 2147483648)) {h : Int} (hh1 : (-2147483648 ≤ h ∧ h < 2147483648)) {y : Int} (hy : (-2147483648 ≤ y ∧ y < 2147483648)) {o : Int} (ho : (-2147483648 ≤ o ∧ o < 2147483648)) {n : Nat} (hn : V 1 9 = (n : Int)) {wa : List Value} (hwa : ce S 6 24 wa) (hwl : wa.length = 20) (k0 : ¬ z_rf t h y o = 0 → K u w (some (iv (z_rf t h y o))) S V) (k1 : z_rf t h y o = 0 → V 1 7 = 0 → K u w (some (iv (-3))) S V) (k2 : z_rf t h y o = 0 → ¬ V 1 7 = 0 → V 1 10 / 2 ^ t.toNat % 2 = 1 → 20 ≤ (n : Int) → K u w (some (iv (-4))) S V) (k3 : z_rf t h y o = 0 → ¬ V 1 7 = 0 → V 1 10 / 2 ^ t.toNat % 2 = 1 → (n : Int) < 20 → K (u + 1) (w + 4) (some (iv (-6))) ((S ++ [(2, m_dfl 2)]).set 6 (24, wa.set n (.ref S.length))) (v_up (pkV V S.length t h y o) 1 9 ((n : Int) + 1))) (k4 : z_rf t h y o = 0 → ¬ V 1 7 = 0 → V 1 10 / 2 ^ t.toNat % 2 = 0 → ∀ V2, RS (S ++ [(2, m_dfl 2)]) V2 1 (sgS tl t h y o (σ 2).toNat 0 σ).2 tl → FrN S V V2 → K (u + 1) (w + 4) (some (iv (sgS tl t h y o (σ 2).toNat 0 σ).1)) (S ++ [(2, m_dfl 2)]) V2) : y_R X 8 79 u w [.ref 0, iv t, iv h, iv y, iv o] S V K := by
  obtain ⟨n1, n2, n3, n4⟩ := hRS.1
  have hsz := hSO.1
  have hrf := rf_vals t h y o
  refine y_ent (lv' := [(0, .ref 0), (1, iv t), (2, iv h), (3, iv y), (4, iv o)]) (Nat.le_of_ble_eq_true rfl) rfl ?_
  refine y_ld (x := iv t) rfl rfl (fun d => rfl) ?_
  refine y_ld (x := iv h) rfl rfl (fun d => rfl) ?_
  refine y_ld (x := iv y) rfl rfl (fun d => rfl) ?_
  refine y_ld (x := iv o) rfl rfl (fun d => rfl) ?_
  refine y_cS (as := [iv t, iv h, iv y, iv o]) rfl (by decide) rfl rfl rfl rfl ⟨(Nat.le_of_ble_eq_true rfl), (Nat.le_of_ble_eq_true rfl)⟩ (by decide) (cc_refusalOf (by omega) ?_)
  refine y_nv ?_
  refine y_st (lv' := [(5, iv (z_rf t h y o)), (0, .ref 0), (1, iv t), (2, iv h), (3, iv y), (4, iv o)]) rfl rfl (fun d => rfl) ?_
  refine y_ld (x := iv (z_rf t h y o)) rfl rfl (fun d => rfl) ?_
  refine y_zeq rfl rfl rfl (by omega) (fun g1 => ?_) (fun g1 => ?_)
  · refine y_ld (x := .ref 0) rfl rfl (fun d => rfl) ?_
    refine y_gR (i := 0) rfl rfl rfl (hC 0 _ _ rfl) rfl ?_
    refine y_gI (i := 7) (e := (V 1 7)) rfl rfl rfl (hC 1 _ _ rfl) rfl rfl ?_
    refine y_zne rfl rfl rfl (by omega) (fun g2 => ?_) (fun g2 => ?_)
    · refine y_ld (x := .ref 0) rfl rfl (fun d => rfl) ?_
      refine y_gR (i := 0) rfl rfl rfl (hC 0 _ _ rfl) rfl ?_
      refine y_gI (i := 10) (e := (V 1 10)) rfl rfl rfl (hC 1 _ _ rfl) rfl rfl ?_
      have hpk := rf_pkO (by assumption : z_rf t h y o = 0)
      obtain ⟨p1, p2, p3, p4⟩ := hpk
      have hp2 := v_p2 t.toNat
      have hp3 : (2 : Int) ^ t.toNat ≤ 32768 := z_p2le (by omega)
      rcases (show V 1 10 / 2 ^ t.toNat % 2 = 0 ∨ V 1 10 / 2 ^ t.toNat % 2 = 1 by have := v_bit01 (V 1 10) t.toNat; omega) with hd | hd
      · refine y_ic rfl rfl ?_
        refine y_ld (x := iv t) rfl rfl (fun d => rfl) ?_
        refine y_op (z := (2 ^ t.toNat)) rfl rfl (fun d => rfl) (v_shl1 (k := t) (by omega)) ?_
        refine y_op (z := 0) rfl rfl (fun d => rfl) ((v_and2 (x := V 1 10) (k := t.toNat) (by omega) (by omega)).trans (by rw [hd, Int.mul_zero])) ?_
        refine y_zeq rfl rfl rfl (by decide) (fun g3 => ?_) (fun g3 => absurd g3 (by decide))
        refine y_ic rfl rfl ?_
        refine y_st (lv' := [(6, iv 0), (5, iv (z_rf t h y o)), (0, .ref 0), (1, iv t), (2, iv h), (3, iv y), (4, iv o)]) rfl rfl (fun d => rfl) ?_
        refine y_ld (x := iv 0) rfl rfl (fun d => rfl) ?_
        refine y_zeq rfl rfl rfl (by decide) (fun g4 => ?_) (fun g4 => absurd g4 (by decide))
        refine y_new (z := 4) rfl rfl (by omega) rfl (dfl_ok (by decide)) ?_
        refine y_V (V' := v_ur V S.length (fun _ => 0)) rfl ?_
        have hp : ce (S ++ [(2, m_dfl 2)]) S.length 2 [.int 0, .int 0, .int 0, .int 0] := ce_new (by omega)
        have hCp : ClF (S ++ [(2, m_dfl 2)]) := cl_app hC
        refine y_in rfl rfl (fun d => rfl) ?_
        refine y_ld (x := iv t) rfl rfl (fun d => rfl) ?_
        refine y_ld (x := iv h) rfl rfl (fun d => rfl) ?_
        refine y_ld (x := iv y) rfl rfl (fun d => rfl) ?_
        refine y_ld (x := iv o) rfl rfl (fun d => rfl) ?_
        refine y_cI (as := [.ref S.length, iv t, iv h, iv y, iv o]) rfl (by decide) rfl rfl rfl rfl ⟨(Nat.le_of_ble_eq_true rfl), (Nat.le_of_ble_eq_true rfl), (by omega)⟩ (by decide) (cp_init hp ?_)
        have hPk := pkV_pk (S := S) (V := V) (t := t) (h := h) (y := y) (o := o) (by omega)
        have hfr : ∀ k, k < S.length → (pkV V S.length t h y o) k = V k := fun k hk => pkV_fr (by omega)
        have hRS2 := RS_ap hRS (Or.inl rfl) (SQ_app 0 S (2, m_dfl 2)) (by decide) hfr hSl.1
        refine y_n0 ?_
        refine y_st (lv' := [(7, .ref S.length), (6, iv 0), (5, iv (z_rf t h y o)), (0, .ref 0), (1, iv t), (2, iv h), (3, iv y), (4, iv o)]) rfl rfl (fun d => rfl) ?_
        refine y_ld (x := iv 0) rfl rfl (fun d => rfl) ?_
        refine y_zne rfl rfl rfl (by decide) (fun g5 => absurd g5 (by decide)) (fun g5 => ?_)
        refine y_ld (x := .ref 0) rfl rfl (fun d => rfl) ?_
        refine y_gR (i := 0) rfl rfl rfl (hCp 0 _ _ rfl) rfl ?_
        refine y_ld (x := .ref S.length) rfl rfl (fun d => rfl) ?_
        refine y_cV (as := [.ref 1, .ref S.length]) rfl rfl rfl rfl rfl (hCp 1 _ _ rfl) ⟨rfl, (Nat.le_of_ble_eq_true rfl), (Nat.le_of_ble_eq_true rfl)⟩ (by decide) (cc_pass (σ := σ) (tl := tl) (cnt := cnt) hCp hSl.1 (rf_pkO (by assumption)) hRS2 hSO hTO hPk (fun V2 a1 a2 => ?_))
        refine y_nv ?_
        refine y_rI rfl (Or.inl rfl) ?_
        exact k4 (by assumption) (by omega) hd V2 a1 (FrN_W hfr a2)
      · refine y_ic rfl rfl ?_
        refine y_ld (x := iv t) rfl rfl (fun d => rfl) ?_
        refine y_op (z := (2 ^ t.toNat)) rfl rfl (fun d => rfl) (v_shl1 (k := t) (by omega)) ?_
        refine y_op (z := (2 ^ t.toNat)) rfl rfl (fun d => rfl) ((v_and2 (x := V 1 10) (k := t.toNat) (by omega) (by omega)).trans (by rw [hd, Int.mul_one])) ?_
        refine y_zeq rfl rfl rfl (by omega) (fun g6 => absurd g6 (by omega)) (fun g6 => ?_)
        refine y_ic rfl rfl ?_
        refine y_go rfl rfl ?_
        refine y_st (lv' := [(6, iv 1), (5, iv (z_rf t h y o)), (0, .ref 0), (1, iv t), (2, iv h), (3, iv y), (4, iv o)]) rfl rfl (fun d => rfl) ?_
        refine y_ld (x := iv 1) rfl rfl (fun d => rfl) ?_
        refine y_zeq rfl rfl rfl (by decide) (fun g7 => absurd g7 (by decide)) (fun g7 => ?_)
        refine y_ld (x := .ref 0) rfl rfl (fun d => rfl) ?_
        refine y_gR (i := 0) rfl rfl rfl (hC 0 _ _ rfl) rfl ?_
        refine y_gI (i := 9) (e := (n : Int)) rfl rfl rfl (hC 1 _ _ rfl) rfl hn ?_
        refine y_bi rfl rfl (by decide) ?_
        refine y_jlt rfl rfl rfl (by omega) (fun g8 => ?_) (fun g8 => ?_)
        · refine y_new (z := 4) rfl rfl (by omega) rfl (dfl_ok (by decide)) ?_
          refine y_V (V' := v_ur V S.length (fun _ => 0)) rfl ?_
          have hp : ce (S ++ [(2, m_dfl 2)]) S.length 2 [.int 0, .int 0, .int 0, .int 0] := ce_new (by omega)
          have hCp : ClF (S ++ [(2, m_dfl 2)]) := cl_app hC
          refine y_in rfl rfl (fun d => rfl) ?_
          refine y_ld (x := iv t) rfl rfl (fun d => rfl) ?_
          refine y_ld (x := iv h) rfl rfl (fun d => rfl) ?_
          refine y_ld (x := iv y) rfl rfl (fun d => rfl) ?_
          refine y_ld (x := iv o) rfl rfl (fun d => rfl) ?_
          refine y_cI (as := [.ref S.length, iv t, iv h, iv y, iv o]) rfl (by decide) rfl rfl rfl rfl ⟨(Nat.le_of_ble_eq_true rfl), (Nat.le_of_ble_eq_true rfl), (by omega)⟩ (by decide) (cp_init hp ?_)
          have hPk := pkV_pk (S := S) (V := V) (t := t) (h := h) (y := y) (o := o) (by omega)
          have hfr : ∀ k, k < S.length → (pkV V S.length t h y o) k = V k := fun k hk => pkV_fr (by omega)
          have hRS2 := RS_ap hRS (Or.inl rfl) (SQ_app 0 S (2, m_dfl 2)) (by decide) hfr hSl.1
          refine y_n0 ?_
          refine y_st (lv' := [(7, .ref S.length), (6, iv 1), (5, iv (z_rf t h y o)), (0, .ref 0), (1, iv t), (2, iv h), (3, iv y), (4, iv o)]) rfl rfl (fun d => rfl) ?_
          refine y_ld (x := iv 1) rfl rfl (fun d => rfl) ?_
          refine y_zne rfl rfl rfl (by decide) (fun g9 => ?_) (fun g9 => absurd g9 (by decide))
          refine y_ld (x := .ref 0) rfl rfl (fun d => rfl) ?_
          refine y_gR (i := 0) rfl rfl rfl (hCp 0 _ _ rfl) rfl ?_
          refine y_gR (i := 8) rfl rfl rfl (hCp 1 _ _ rfl) rfl ?_
          refine y_ld (x := .ref 0) rfl rfl (fun d => rfl) ?_
          refine y_gR (i := 0) rfl rfl rfl (hCp 0 _ _ rfl) rfl ?_
          refine y_gI (i := 9) (e := (n : Int)) rfl rfl rfl (hCp 1 _ _ rfl) rfl ((congrFun (pkV_1 hSl.1) 9).trans hn) ?_
          refine y_ld (x := .ref S.length) rfl rfl (fun d => rfl) ?_
          have h6c : ce (S ++ [(2, m_dfl 2)]) 6 24 wa := ce_app hwa
          refine y_rst (i := n) rfl rfl h6c (by decide) (by omega) (by omega) (by omega) (Or.inr ⟨S.length, _, rfl, hp⟩) ?_
          have hCq : ClF ((S ++ [(2, m_dfl 2)]).set 6 (24, wa.set n (.ref S.length))) := cl_set hCp (by decide)
          refine y_ld (x := .ref 0) rfl rfl (fun d => rfl) ?_
          refine y_gR (i := 0) rfl rfl rfl (hCq 0 _ _ rfl) rfl ?_
          refine y_in rfl rfl (fun d => rfl) ?_
          refine y_gI (i := 9) (e := (n : Int)) rfl rfl rfl (hCq 1 _ _ rfl) rfl ((congrFun (pkV_1 hSl.1) 9).trans hn) ?_
          refine y_ic rfl rfl ?_
          refine y_add (z := ((n : Int) + 1)) rfl rfl rfl ?_
          refine y_pI (i := 9) rfl rfl rfl (hCq 1 _ _ rfl) rfl rfl ?_
          refine y_bi rfl rfl (by decide) ?_
          refine y_rI rfl (Or.inl rfl) ?_
          exact k3 (by assumption) (by omega) hd (by omega)
        · refine y_bi rfl rfl (by decide) ?_
          refine y_rI rfl (Or.inl rfl) ?_
          exact k2 (by assumption) (by omega) hd (by omega)
    · refine y_bi rfl rfl (by decide) ?_
      refine y_rI rfl (Or.inl rfl) ?_
      exact k1 (by assumption) (by omega)
  · refine y_ld (x := iv (z_rf t h y o)) rfl rfl (fun d => rfl) ?_
    refine y_rI rfl (Or.inl rfl) ?_
    exact k0 (by assumption)
set_option maxRecDepth 100000 in
set_option maxHeartbeats 4000000 in
theorem lp_release (hC : ClF S) {tl : Nat → List p_Li} {cnt : Nat} {wa : List Value} (hwa : ce S 6 24 wa) {N : Int} (hN : 0 ≤ N ∧ N ≤ 20) {F : Nat} : ∀ (m : Nat) (r i : Nat) (σ : Nat → Int) (W : v_V), r < m → (RS S W 1 σ tl) → (SO cnt σ) → (∀ i : Nat, (i : Int) < σ 0 → TO (tl i)) → (((i + r : Nat) : Int) = N) → (PkA S W wa 20 N σ 1690) → (∀ j : Nat, i ≤ j → j < i + r → pkO (σ (1690 + 4 * j)) (σ (1690 + 4 * j + 1)) (σ (1690 + 4 * j + 2)) (σ (1690 + 4 * j + 3))) → (∀ V2, RS S V2 1 (rlS tl r i σ) tl → FrW W V2 → K u w (some (iv N)) S V2) → y_E X 7 83 (60 * m + F) u w 49 [(0, .ref 0), (1, iv N), (2, iv (i : Int))] [] S W K := by
  intro m
  induction m with
  | zero => intros; omega
  | succ m ih =>
    intro r i σ W hm hRS hSO hTO hir hWA hPO hx2
    refine y_mono (F' := (60 * m + F) + 60) ?_ (by omega)
    refine y_ld (x := iv (i : Int)) rfl rfl (fun d => rfl) ?_
    refine y_ld (x := iv N) rfl rfl (fun d => rfl) ?_
    refine y_jge rfl rfl rfl (by omega) (fun g1 => ?_) (fun g1 => ?_)
    · refine y_ld (x := iv N) rfl rfl (fun d => rfl) ?_
      refine y_rI rfl (Or.inl rfl) ?_
      obtain rfl : r = 0 := by omega
      exact hx2 W hRS (FrW_rf W)
    · obtain ⟨r, rfl⟩ : ∃ e, r = e + 1 := ⟨r - 1, by omega⟩
      obtain ⟨pk, c1, c2, c3⟩ := hWA.2.2 i (by omega)
      have hpk := hPO i (by omega) (by omega)
      have hss := sgS_SO (cnt := cnt) (tl := tl) (h := σ (1690 + 4 * i + 1)) (k := σ (1690 + 4 * i + 2)) (n := σ (1690 + 4 * i + 3)) hpk.1 (σ 2).toNat 0 σ hSO hTO (by have := hSO.1; omega)
      refine y_ld (x := .ref 0) rfl rfl (fun d => rfl) ?_
      refine y_gR (i := 0) rfl rfl rfl (hC 0 _ _ rfl) rfl ?_
      refine y_ld (x := .ref 0) rfl rfl (fun d => rfl) ?_
      refine y_gR (i := 0) rfl rfl rfl (hC 0 _ _ rfl) rfl ?_
      refine y_gR (i := 8) rfl rfl rfl (hC 1 _ _ rfl) rfl ?_
      refine y_ld (x := iv (i : Int)) rfl rfl (fun d => rfl) ?_
      refine y_rld (i := i) (x := pk) rfl rfl hwa (by decide) (by omega) (by omega) c1 ?_
      refine y_cV (as := [.ref 1, .ref pk]) rfl rfl rfl rfl rfl (hC 1 _ _ rfl) ⟨rfl, (Nat.le_of_ble_eq_true rfl), (Nat.le_of_ble_eq_true rfl)⟩ (by decide) (cc_pass (σ := σ) (tl := tl) (cnt := cnt) hC c2 hpk hRS hSO hTO c3 (fun V2 a1 a2 => ?_))
      refine y_nv ?_
      refine y_in rfl rfl (fun d => rfl) ?_
      refine y_inc (z := ((i + 1 : Nat) : Int)) (lv' := [(2, iv ((i + 1 : Nat) : Int)), (0, .ref 0), (1, iv N)]) rfl rfl rfl (by omega) rfl ?_
      refine y_go rfl rfl ?_
      refine y_lv (l' := [(0, .ref 0), (1, iv N), (2, iv ((i + 1 : Nat) : Int))]) rfl ⟨rfl, rfl, rfl, trivial⟩ ?_
      have es := hss.2.1
      refine y_mono (ih r (i + 1) (sgS tl (σ (1690 + 4 * i)) (σ (1690 + 4 * i + 1)) (σ (1690 + 4 * i + 2)) (σ (1690 + 4 * i + 3)) (σ 2).toNat 0 σ).2 V2 (by omega) a1 hss.1 (by rw [es 0 (by omega)]; exact hTO) (by omega) (PkA_fr hWA (SQ_rf 0 S) (by decide) (fun k _ _ _ _ hk _ => FrW_hi a2 k (by omega)) (Int.le_refl _) (fun j hj q hq => es _ (by omega))) (fun j h2 h3 => by rw [es _ (by omega), es _ (by omega), es _ (by omega), es _ (by omega)]; exact hPO j (by omega) (by omega)) (fun V3 b1 b2 => hx2 V3 b1 (FrW_tr a2 b2))) (by omega)
set_option maxRecDepth 100000 in
set_option maxHeartbeats 4000000 in
theorem cs_release (hC : ClF S) (hSl : 193 ≤ S.length ∧ S.length + 7 < 1000000) {tl : Nat → List p_Li} {cnt : Nat} {σ : Nat → Int} (hRS : RS S V 1 σ tl) (hSO : SO cnt σ) (hTO : ∀ i : Nat, (i : Int) < σ 0 → TO (tl i)) {wa : List Value} (hwa : ce S 6 24 wa) (hWA : PkA S V wa 20 (σ 3) σ 1690) (k0 : σ 2 = 0 ∧ 0 < σ 3 → K u w (some (iv (-3))) S V) (k1 : ¬ (σ 2 = 0 ∧ 0 < σ 3) → ∀ V2, RS S V2 1 (rlS tl (σ 3).toNat 0 (relS σ)) tl → FrW (v_up (v_up V 1 10 0) 1 9 0) V2 → K u w (some (iv (σ 3))) S V2) : y_R X 8 83 u w [.ref 0] S V K := by
  obtain ⟨n1, n2, n3, n4⟩ := hRS.1
  have hsz := hSO.1
  have n5 : V 1 9 = σ 3 := by omega
  refine y_ent (lv' := [(0, .ref 0)]) (Nat.le_of_ble_eq_true rfl) rfl ?_
  refine y_ld (x := .ref 0) rfl rfl (fun d => rfl) ?_
  refine y_gR (i := 0) rfl rfl rfl (hC 0 _ _ rfl) rfl ?_
  refine y_gI (i := 7) (e := (V 1 7)) rfl rfl rfl (hC 1 _ _ rfl) rfl rfl ?_
  refine y_zne rfl rfl rfl (by omega) (fun g1 => ?_) (fun g1 => ?_)
  · refine y_ld (x := .ref 0) rfl rfl (fun d => rfl) ?_
    refine y_gR (i := 0) rfl rfl rfl (hC 0 _ _ rfl) rfl ?_
    refine y_gI (i := 9) (e := (V 1 9)) rfl rfl rfl (hC 1 _ _ rfl) rfl rfl ?_
    refine y_st (lv' := [(1, iv (V 1 9)), (0, .ref 0)]) rfl rfl (fun d => rfl) ?_
    refine y_ld (x := .ref 0) rfl rfl (fun d => rfl) ?_
    refine y_gR (i := 0) rfl rfl rfl (hC 0 _ _ rfl) rfl ?_
    refine y_ic rfl rfl ?_
    refine y_pI (i := 10) rfl rfl rfl (hC 1 _ _ rfl) rfl rfl ?_
    refine y_ld (x := .ref 0) rfl rfl (fun d => rfl) ?_
    refine y_gR (i := 0) rfl rfl rfl (hC 0 _ _ rfl) rfl ?_
    refine y_ic rfl rfl ?_
    refine y_pI (i := 9) rfl rfl rfl (hC 1 _ _ rfl) rfl rfl ?_
    refine y_ic rfl rfl ?_
    refine y_st (lv' := [(2, iv 0), (1, iv (V 1 9)), (0, .ref 0)]) rfl rfl (fun d => rfl) ?_
    refine y_lv (l' := [(0, .ref 0), (1, iv (σ 3)), (2, iv ((0 : Nat) : Int))]) rfl ⟨rfl, congrArg (fun e => some (iv e)) n5, rfl, trivial⟩ ?_
    have er : ∀ j, j ≠ 3 ∧ j ≠ 4 → relS σ j = σ j := fun j hj => relS_ne hj
    have ef : ∀ k, k ≠ 1 → v_up (v_up V 1 10 0) 1 9 0 k = V k := fun k hk => by rw [v_up_ne hk, v_up_ne hk]
    exact y_mono (lp_release (F := 100) hC hwa (by omega) 21 (σ 3).toNat 0 (relS σ) _ (by omega) (RS_rel hRS hSO) (relS_SO hSO) (by rw [er 0 (by omega)]; exact hTO) (by omega) (PkA_fr hWA (SQ_rf 0 S) (by decide) (fun k _ _ _ _ hk _ => ef k (by omega)) (Int.le_refl _) (fun j hj q hq => er _ (by omega))) (fun j h2 h3 => by rw [er _ (by omega), er _ (by omega), er _ (by omega), er _ (by omega)]; exact hSO.2.2.2.2.2.1 j (by omega)) (k1 (by omega))) (by decide)
  · refine y_ld (x := .ref 0) rfl rfl (fun d => rfl) ?_
    refine y_gR (i := 0) rfl rfl rfl (hC 0 _ _ rfl) rfl ?_
    refine y_gI (i := 9) (e := (V 1 9)) rfl rfl rfl (hC 1 _ _ rfl) rfl rfl ?_
    refine y_zle rfl rfl rfl (by omega) (fun g2 => ?_) (fun g2 => ?_)
    · refine y_ld (x := .ref 0) rfl rfl (fun d => rfl) ?_
      refine y_gR (i := 0) rfl rfl rfl (hC 0 _ _ rfl) rfl ?_
      refine y_gI (i := 9) (e := (V 1 9)) rfl rfl rfl (hC 1 _ _ rfl) rfl rfl ?_
      refine y_st (lv' := [(1, iv (V 1 9)), (0, .ref 0)]) rfl rfl (fun d => rfl) ?_
      refine y_ld (x := .ref 0) rfl rfl (fun d => rfl) ?_
      refine y_gR (i := 0) rfl rfl rfl (hC 0 _ _ rfl) rfl ?_
      refine y_ic rfl rfl ?_
      refine y_pI (i := 10) rfl rfl rfl (hC 1 _ _ rfl) rfl rfl ?_
      refine y_ld (x := .ref 0) rfl rfl (fun d => rfl) ?_
      refine y_gR (i := 0) rfl rfl rfl (hC 0 _ _ rfl) rfl ?_
      refine y_ic rfl rfl ?_
      refine y_pI (i := 9) rfl rfl rfl (hC 1 _ _ rfl) rfl rfl ?_
      refine y_ic rfl rfl ?_
      refine y_st (lv' := [(2, iv 0), (1, iv (V 1 9)), (0, .ref 0)]) rfl rfl (fun d => rfl) ?_
      refine y_lv (l' := [(0, .ref 0), (1, iv (σ 3)), (2, iv ((0 : Nat) : Int))]) rfl ⟨rfl, congrArg (fun e => some (iv e)) n5, rfl, trivial⟩ ?_
      have er : ∀ j, j ≠ 3 ∧ j ≠ 4 → relS σ j = σ j := fun j hj => relS_ne hj
      have ef : ∀ k, k ≠ 1 → v_up (v_up V 1 10 0) 1 9 0 k = V k := fun k hk => by rw [v_up_ne hk, v_up_ne hk]
      exact y_mono (lp_release (F := 100) hC hwa (by omega) 21 (σ 3).toNat 0 (relS σ) _ (by omega) (RS_rel hRS hSO) (relS_SO hSO) (by rw [er 0 (by omega)]; exact hTO) (by omega) (PkA_fr hWA (SQ_rf 0 S) (by decide) (fun k _ _ _ _ hk _ => ef k (by omega)) (Int.le_refl _) (fun j hj q hq => er _ (by omega))) (fun j h2 h3 => by rw [er _ (by omega), er _ (by omega), er _ (by omega), er _ (by omega)]; exact hSO.2.2.2.2.2.1 j (by omega)) (k1 (by omega))) (by decide)
    · refine y_bi rfl rfl (by decide) ?_
      refine y_rI rfl (Or.inl rfl) ?_
      exact k0 (by omega)
end
