section
variable {X : Nat → List Int32} {u w : Nat} {S : m_H} {V : v_V} {K : v_K}
theorem pS_not {τ : Nat → Int} {z p : Nat} (h : hr τ z p = 33) : pS τ z p = (none, p) := by
  unfold pS
  rw [pT_x (by omega)]
  rfl
set_option maxRecDepth 100000 in
set_option maxHeartbeats 4000000 in
theorem sr_FA (hC : ClF S) {t z : Nat} {τ : Nat → Int} {ln : Int} {st0 : List Int} {g0 : Nat → Int} (hR : RdS S t) (hX : TxS S t) (ht : 193 ≤ t) (hT : Tp τ 0 z) (hln : 1 ≤ ln ∧ ln ≤ 8) (hg0 : ∀ c, c < 8 → 0 ≤ g0 c ∧ g0 c ≤ 10) {n : Nat} (hA : qRF X S t z τ ln st0 g0 22 n) (hE : qR X S t z τ ln st0 g0 3 20 6 3 n) : qRF X S t z τ ln st0 g0 22 (n + 1) := by
  intro V K u w p o wi D acc howi hwi hp hn hl hD htk h k1 k2
  have hz := hT.2.1
  have hq0 := hr_rg hT p
  refine y_mono (F' := (40 * n + 500) + 40) ?_ (by omega)
  refine y_ld (x := iv (wi : Int)) rfl rfl (fun d => rfl) ?_
  refine y_ic rfl rfl ?_
  refine y_jge rfl rfl rfl (by omega) (fun g1 => ?_) (fun g1 => ?_)
  · refine y_ld (x := .ref 115) rfl rfl (fun d => rfl) ?_
    refine y_cV (as := [.ref 115]) rfl rfl rfl rfl rfl hR ⟨rfl, (Nat.le_of_ble_eq_true rfl), (Nat.le_of_ble_eq_true rfl)⟩ (by omega) (cr_next hC hR hX ht hT h (by omega) ?_)
    have hq23 := hr_rg hT (p)
    refine y_nv ?_
    refine y_bi rfl rfl (by decide) ?_
    refine y_jne rfl rfl rfl (by omega) (fun g2 => ?_) (fun g2 => ?_)
    · refine y_ld (x := .ref 115) rfl rfl (fun d => rfl) ?_
      refine y_cV (as := [.ref 115]) rfl rfl rfl rfl rfl hR ⟨rfl, (Nat.le_of_ble_eq_true rfl), (Nat.le_of_ble_eq_true rfl)⟩ (by omega) (cr_test hC hR hX ht hT hln (mkT_bd (by omega) acc g0 htk hg0) (by simp; omega) h (by omega) (fun y1 r1 V1 x1 h1 f1 => ?_) (fun r2 V2 s2 g_2 x2 h2 f2 => ?_))
      · have ps1 := pS_ok (by omega) x1
        have pt1 := ps1.2.2 _ rfl
        refine y_nv ?_
        refine y_zne rfl rfl rfl (by decide) (fun g3 => ?_) (fun g3 => absurd g3 (by decide))
        have n33 : ¬ hr τ z p = 33 := fun q => by rw [pS_not q] at x1; cases x1
        refine y_ld (x := iv (o : Int)) rfl rfl (fun d => rfl) ?_
        refine y_st (lv' := [(3, iv (o : Int)), (0, .ref 115), (1, iv (o : Int)), (2, iv (wi : Int))]) rfl rfl (fun d => rfl) ?_
        refine y_lv (l' := [(0, .ref 115), (1, iv (o : Int)), (2, iv (wi : Int)), (3, iv (o : Int))]) rfl ⟨rfl, rfl, rfl, rfl, trivial⟩ ?_
        obtain ⟨tc, ta, tb⟩ := y1
        have e2 : tc ≤ 122 := pt1.2.2.1
        have e3 := pt1.1
        have eX : pX τ z (n + 1) 0 wi p acc = (some (acc ++ [(tc, ta, tb)]), r1) := by rw [pX_F, if_neg n33, if_neg g2, x1]
        have e4 : encTc [(tc, ta, tb)] = [tc, ta, tb] := by unfold encTc; rw [if_pos e2]; rfl
        have e5 : (encTc (acc ++ [(tc, ta, tb)])).length = (encTc acc).length + 3 := by rw [encTc_app, List.length_append, e4]; rfl
        have e6 : mkT (ln - 1) g0 (acc ++ [(tc, ta, tb)]) = mk (ln - 1) (mk (ln - 1) (mkT (ln - 1) g0 acc) ta true) tb true := by rw [mkT_app]; exact if_pos e2
        have hh : CP V1 t z τ r1 ln (st0 ++ encTc ((acc ++ [(tc, ta, tb)]) ++ List.replicate (o - o) (123, 0, 0))) (mkT (ln - 1) g0 ((acc ++ [(tc, ta, tb)]) ++ List.replicate (o - o) (123, 0, 0))) := by
          rw [Nat.sub_self, show (acc ++ [(tc, ta, tb)]) ++ List.replicate 0 ((123 : Int), (0 : Int), (0 : Int)) = (acc ++ [(tc, ta, tb)]) from List.append_nil _, e6, encTc_app, e4, ← List.append_assoc]
          exact h1
        refine y_mono (lp_not (l := (acc ++ [(tc, ta, tb)])) hC hR hX ht hT hln hg0 (D := D) (p := r1) (by omega) ⟨howi, hwi⟩ (by omega) (by omega) 6 o _ (by omega) (Nat.le_refl _) howi hh ?_) (by omega)
        intro V' a1 a2
        exact k1 _ _ V' eX a1 (CF_tr (CF_tr (CF_rf t V) f1) a2)
      · refine y_nv ?_
        refine y_zne rfl rfl rfl (by decide) (fun g4 => absurd g4 (by decide)) (fun g4 => ?_)
        refine y_ic rfl rfl ?_
        refine y_rI rfl (by decide) ?_
        by_cases n33 : hr τ z p = 33
        · rw [pS_not n33] at x2
          cases x2
          exact k2 _ _ _ _ (by rw [pX_F, if_pos n33, if_pos (by omega)]) h2 (CF_tr (CF_rf t V) f2)
        · exact k2 _ _ _ _ (by rw [pX_F, if_neg n33, if_neg g2, x2]) h2 (CF_tr (CF_rf t V) f2)
    · refine y_ld (x := iv (wi : Int)) rfl rfl (fun d => rfl) ?_
      refine y_ic rfl rfl ?_
      refine y_jlt rfl rfl rfl (by omega) (fun g5 => ?_) (fun g5 => ?_)
      · refine y_ld (x := .ref 115) rfl rfl (fun d => rfl) ?_
        refine y_in rfl rfl (fun d => rfl) ?_
        refine y_gI (i := 2) (e := ((p : Nat) : Int)) rfl rfl rfl hR rfl h.2.1 ?_
        refine y_ic rfl rfl ?_
        refine y_add (z := (((p : Nat) : Int) + 1)) rfl rfl rfl ?_
        refine y_pI (i := 2) rfl rfl rfl hR rfl rfl ?_
        have pl3 := hr_le (τ := τ) (z := z) (p := p) (by omega)
        have h4 := CP_at (p' := p + 1) ht h
        refine y_ld (x := .ref 115) rfl rfl (fun d => rfl) ?_
        refine y_ld (x := iv (wi : Int)) rfl rfl (fun d => rfl) ?_
        refine y_ic rfl rfl ?_
        refine y_add (z := ((wi + 1 : Nat) : Int)) rfl rfl (by omega) ?_
        refine y_cV (as := [.ref 115, iv ((wi + 1 : Nat) : Int)]) rfl rfl rfl rfl rfl hR ⟨rfl, (Nat.le_of_ble_eq_true rfl), (Nat.le_of_ble_eq_true rfl)⟩ (by omega) (hE _ _ _ _ (p + 1) (wi + 1) D acc (by omega) (by omega) (by omega) (by omega) (by omega) htk h4 (fun l5 r5 V5 x5 h5 f5 => ?_) (fun r6 V6 s6 g_6 x6 h6 f6 => ?_))
        · have kk5 := pX_ok _ _ _ _ _ _ _ (by decide) (by omega) x5
          have mm5 := kk5.2.2 _ rfl
          have cc5 := pX_c _ _ _ _ _ _ _ (by decide) (by omega) x5
          have tt5 := pX_tk _ _ _ _ _ _ _ (by decide) (by omega) htk x5
          refine y_nv ?_
          refine y_zeq rfl rfl rfl (by decide) (fun g6 => absurd g6 (by decide)) (fun g6 => ?_)
          refine y_ld (x := .ref 115) rfl rfl (fun d => rfl) ?_
          refine y_bi rfl rfl (by decide) ?_
          refine y_cV (as := [.ref 115, iv 41]) rfl rfl rfl rfl rfl hR ⟨rfl, (Nat.le_of_ble_eq_true rfl), (Nat.le_of_ble_eq_true rfl)⟩ (by omega) (cr_takes hC hR hX ht hT (by decide) h5 (by omega) (fun q8 V7 h7 f7 => ?_) (fun q9 => ?_))
          · have pl10 := hr_le (τ := τ) (z := z) (p := r5) (by omega)
            refine y_nv ?_
            refine y_zne rfl rfl rfl (by decide) (fun g7 => ?_) (fun g7 => absurd g7 (by decide))
            refine y_ld (x := iv (o : Int)) rfl rfl (fun d => rfl) ?_
            refine y_st (lv' := [(3, iv (o : Int)), (0, .ref 115), (1, iv (o : Int)), (2, iv (wi : Int))]) rfl rfl (fun d => rfl) ?_
            refine y_lv (l' := [(0, .ref 115), (1, iv (o : Int)), (2, iv (wi : Int)), (3, iv (o : Int))]) rfl ⟨rfl, rfl, rfl, rfl, trivial⟩ ?_
            have eX : pX τ z (n + 1) 0 wi p acc = (some l5, (r5 + 1)) := by rw [pX_F, if_neg (by omega), if_pos (by omega), if_neg (by omega), x5]; exact if_pos q8
            have hh : CP V7 t z τ (r5 + 1) ln (st0 ++ encTc (l5 ++ List.replicate (o - o) (123, 0, 0))) (mkT (ln - 1) g0 (l5 ++ List.replicate (o - o) (123, 0, 0))) := by
              rw [Nat.sub_self, show l5 ++ List.replicate 0 ((123 : Int), (0 : Int), (0 : Int)) = l5 from List.append_nil _]
              exact h7
            refine y_mono (lp_not (l := l5) hC hR hX ht hT hln hg0 (D := D) (p := (r5 + 1)) (by omega) ⟨howi, hwi⟩ (by omega) (by omega) 6 o _ (by omega) (Nat.le_refl _) howi hh ?_) (by omega)
            intro V' a1 a2
            exact k1 _ _ V' eX a1 (CF_tr (CF_tr (CF_tr (CF_at ht) f5) f7) a2)
          · refine y_nv ?_
            refine y_zne rfl rfl rfl (by decide) (fun g8 => absurd g8 (by decide)) (fun g8 => ?_)
            refine y_ic rfl rfl ?_
            refine y_rI rfl (by decide) ?_
            exact k2 _ _ _ _ (by rw [pX_F, if_neg (by omega), if_pos (by omega), if_neg (by omega), x5]; exact if_neg q9) h5 (CF_tr (CF_at ht) f5)
        · have kk6 := pX_ok _ _ _ _ _ _ _ (by decide) (by omega) x6
          refine y_nv ?_
          refine y_zeq rfl rfl rfl (by decide) (fun g9 => ?_) (fun g9 => absurd g9 (by decide))
          refine y_ic rfl rfl ?_
          refine y_rI rfl (by decide) ?_
          exact k2 _ _ _ _ (by rw [pX_F, if_neg (by omega), if_pos (by omega), if_neg (by omega), x6]) h6 (CF_tr (CF_at ht) f6)
      · refine y_ic rfl rfl ?_
        refine y_rI rfl (by decide) ?_
        exact k2 _ _ _ _ (by rw [pX_F, if_neg (by omega), if_pos (by omega), if_pos (by omega)]) h (CF_rf t V)
  · refine y_ld (x := .ref 115) rfl rfl (fun d => rfl) ?_
    refine y_bi rfl rfl (by decide) ?_
    refine y_cV (as := [.ref 115, iv 33]) rfl rfl rfl rfl rfl hR ⟨rfl, (Nat.le_of_ble_eq_true rfl), (Nat.le_of_ble_eq_true rfl)⟩ (by omega) (cr_takes hC hR hX ht hT (by decide) h (by omega) (fun q12 V11 h11 f11 => ?_) (fun q13 => ?_))
    · have pl14 := hr_le (τ := τ) (z := z) (p := p) (by omega)
      refine y_nv ?_
      refine y_zeq rfl rfl rfl (by decide) (fun g10 => absurd g10 (by decide)) (fun g10 => ?_)
      refine y_inc (z := ((wi + 1 : Nat) : Int)) (lv' := [(2, iv ((wi + 1 : Nat) : Int)), (0, .ref 115), (1, iv (o : Int))]) rfl rfl rfl (by omega) rfl ?_
      refine y_go rfl rfl ?_
      refine y_lv (l' := [(0, .ref 115), (1, iv (o : Int)), (2, iv ((wi + 1 : Nat) : Int))]) rfl ⟨rfl, rfl, rfl, trivial⟩ ?_
      refine y_mono (hA _ _ _ _ (p + 1) o (wi + 1) D acc (by omega) (by omega) (by omega) (by omega) (by omega) (by omega) htk h11 ?_ ?_) (by omega)
      · intro lz qz V' a1 a2 a3
        refine k1 (lz ++ [(123, 0, 0)]) qz V' (by rw [pX_F, if_pos q12, if_neg (by omega), a1]) ?_ (CF_tr (CF_tr (CF_rf t V) f11) a3)
        rw [show wi + 1 - o = (wi - o) + 1 by omega] at a2
        rw [List.append_assoc lz, show [((123 : Int), (0 : Int), (0 : Int))] ++ List.replicate (wi - o) (123, 0, 0) = List.replicate ((wi - o) + 1) (123, 0, 0) from rfl]
        exact a2
      · intro qz V' st' g' a1 a2 a3
        exact k2 qz V' st' g' (by rw [pX_F, if_pos q12, if_neg (by omega), a1]) a2 (CF_tr (CF_tr (CF_rf t V) f11) a3)
    · refine y_nv ?_
      refine y_zeq rfl rfl rfl (by decide) (fun g11 => ?_) (fun g11 => absurd g11 (by decide))
      refine y_ld (x := .ref 115) rfl rfl (fun d => rfl) ?_
      refine y_cV (as := [.ref 115]) rfl rfl rfl rfl rfl hR ⟨rfl, (Nat.le_of_ble_eq_true rfl), (Nat.le_of_ble_eq_true rfl)⟩ (by omega) (cr_next hC hR hX ht hT h (by omega) ?_)
      have hq23 := hr_rg hT (p)
      refine y_nv ?_
      refine y_bi rfl rfl (by decide) ?_
      refine y_jne rfl rfl rfl (by omega) (fun g12 => ?_) (fun g12 => ?_)
      · refine y_ld (x := .ref 115) rfl rfl (fun d => rfl) ?_
        refine y_cV (as := [.ref 115]) rfl rfl rfl rfl rfl hR ⟨rfl, (Nat.le_of_ble_eq_true rfl), (Nat.le_of_ble_eq_true rfl)⟩ (by omega) (cr_test hC hR hX ht hT hln (mkT_bd (by omega) acc g0 htk hg0) (by simp; omega) h (by omega) (fun y15 r15 V15 x15 h15 f15 => ?_) (fun r16 V16 s16 g_16 x16 h16 f16 => ?_))
        · have ps15 := pS_ok (by omega) x15
          have pt15 := ps15.2.2 _ rfl
          refine y_nv ?_
          refine y_zne rfl rfl rfl (by decide) (fun g13 => ?_) (fun g13 => absurd g13 (by decide))
          refine y_ld (x := iv (o : Int)) rfl rfl (fun d => rfl) ?_
          refine y_st (lv' := [(3, iv (o : Int)), (0, .ref 115), (1, iv (o : Int)), (2, iv (wi : Int))]) rfl rfl (fun d => rfl) ?_
          refine y_lv (l' := [(0, .ref 115), (1, iv (o : Int)), (2, iv (wi : Int)), (3, iv (o : Int))]) rfl ⟨rfl, rfl, rfl, rfl, trivial⟩ ?_
          obtain ⟨tc, ta, tb⟩ := y15
          have e2 : tc ≤ 122 := pt15.2.2.1
          have e3 := pt15.1
          have eX : pX τ z (n + 1) 0 wi p acc = (some (acc ++ [(tc, ta, tb)]), r15) := by rw [pX_F, if_neg q13, if_neg g12, x15]
          have e4 : encTc [(tc, ta, tb)] = [tc, ta, tb] := by unfold encTc; rw [if_pos e2]; rfl
          have e5 : (encTc (acc ++ [(tc, ta, tb)])).length = (encTc acc).length + 3 := by rw [encTc_app, List.length_append, e4]; rfl
          have e6 : mkT (ln - 1) g0 (acc ++ [(tc, ta, tb)]) = mk (ln - 1) (mk (ln - 1) (mkT (ln - 1) g0 acc) ta true) tb true := by rw [mkT_app]; exact if_pos e2
          have hh : CP V15 t z τ r15 ln (st0 ++ encTc ((acc ++ [(tc, ta, tb)]) ++ List.replicate (o - o) (123, 0, 0))) (mkT (ln - 1) g0 ((acc ++ [(tc, ta, tb)]) ++ List.replicate (o - o) (123, 0, 0))) := by
            rw [Nat.sub_self, show (acc ++ [(tc, ta, tb)]) ++ List.replicate 0 ((123 : Int), (0 : Int), (0 : Int)) = (acc ++ [(tc, ta, tb)]) from List.append_nil _, e6, encTc_app, e4, ← List.append_assoc]
            exact h15
          refine y_mono (lp_not (l := (acc ++ [(tc, ta, tb)])) hC hR hX ht hT hln hg0 (D := D) (p := r15) (by omega) ⟨howi, hwi⟩ (by omega) (by omega) 6 o _ (by omega) (Nat.le_refl _) howi hh ?_) (by omega)
          intro V' a1 a2
          exact k1 _ _ V' eX a1 (CF_tr (CF_tr (CF_rf t V) f15) a2)
        · refine y_nv ?_
          refine y_zne rfl rfl rfl (by decide) (fun g14 => absurd g14 (by decide)) (fun g14 => ?_)
          refine y_ic rfl rfl ?_
          refine y_rI rfl (by decide) ?_
          exact k2 _ _ _ _ (by rw [pX_F, if_neg q13, if_neg g12, x16]) h16 (CF_tr (CF_rf t V) f16)
      · refine y_ld (x := iv (wi : Int)) rfl rfl (fun d => rfl) ?_
        refine y_ic rfl rfl ?_
        refine y_jlt rfl rfl rfl (by omega) (fun g15 => ?_) (fun g15 => ?_)
        · refine y_ld (x := .ref 115) rfl rfl (fun d => rfl) ?_
          refine y_in rfl rfl (fun d => rfl) ?_
          refine y_gI (i := 2) (e := ((p : Nat) : Int)) rfl rfl rfl hR rfl h.2.1 ?_
          refine y_ic rfl rfl ?_
          refine y_add (z := (((p : Nat) : Int) + 1)) rfl rfl rfl ?_
          refine y_pI (i := 2) rfl rfl rfl hR rfl rfl ?_
          have pl17 := hr_le (τ := τ) (z := z) (p := p) (by omega)
          have h18 := CP_at (p' := p + 1) ht h
          refine y_ld (x := .ref 115) rfl rfl (fun d => rfl) ?_
          refine y_ld (x := iv (wi : Int)) rfl rfl (fun d => rfl) ?_
          refine y_ic rfl rfl ?_
          refine y_add (z := ((wi + 1 : Nat) : Int)) rfl rfl (by omega) ?_
          refine y_cV (as := [.ref 115, iv ((wi + 1 : Nat) : Int)]) rfl rfl rfl rfl rfl hR ⟨rfl, (Nat.le_of_ble_eq_true rfl), (Nat.le_of_ble_eq_true rfl)⟩ (by omega) (hE _ _ _ _ (p + 1) (wi + 1) D acc (by omega) (by omega) (by omega) (by omega) (by omega) htk h18 (fun l19 r19 V19 x19 h19 f19 => ?_) (fun r20 V20 s20 g_20 x20 h20 f20 => ?_))
          · have kk19 := pX_ok _ _ _ _ _ _ _ (by decide) (by omega) x19
            have mm19 := kk19.2.2 _ rfl
            have cc19 := pX_c _ _ _ _ _ _ _ (by decide) (by omega) x19
            have tt19 := pX_tk _ _ _ _ _ _ _ (by decide) (by omega) htk x19
            refine y_nv ?_
            refine y_zeq rfl rfl rfl (by decide) (fun g16 => absurd g16 (by decide)) (fun g16 => ?_)
            refine y_ld (x := .ref 115) rfl rfl (fun d => rfl) ?_
            refine y_bi rfl rfl (by decide) ?_
            refine y_cV (as := [.ref 115, iv 41]) rfl rfl rfl rfl rfl hR ⟨rfl, (Nat.le_of_ble_eq_true rfl), (Nat.le_of_ble_eq_true rfl)⟩ (by omega) (cr_takes hC hR hX ht hT (by decide) h19 (by omega) (fun q22 V21 h21 f21 => ?_) (fun q23 => ?_))
            · have pl24 := hr_le (τ := τ) (z := z) (p := r19) (by omega)
              refine y_nv ?_
              refine y_zne rfl rfl rfl (by decide) (fun g17 => ?_) (fun g17 => absurd g17 (by decide))
              refine y_ld (x := iv (o : Int)) rfl rfl (fun d => rfl) ?_
              refine y_st (lv' := [(3, iv (o : Int)), (0, .ref 115), (1, iv (o : Int)), (2, iv (wi : Int))]) rfl rfl (fun d => rfl) ?_
              refine y_lv (l' := [(0, .ref 115), (1, iv (o : Int)), (2, iv (wi : Int)), (3, iv (o : Int))]) rfl ⟨rfl, rfl, rfl, rfl, trivial⟩ ?_
              have eX : pX τ z (n + 1) 0 wi p acc = (some l19, (r19 + 1)) := by rw [pX_F, if_neg (by omega), if_pos (by omega), if_neg (by omega), x19]; exact if_pos q22
              have hh : CP V21 t z τ (r19 + 1) ln (st0 ++ encTc (l19 ++ List.replicate (o - o) (123, 0, 0))) (mkT (ln - 1) g0 (l19 ++ List.replicate (o - o) (123, 0, 0))) := by
                rw [Nat.sub_self, show l19 ++ List.replicate 0 ((123 : Int), (0 : Int), (0 : Int)) = l19 from List.append_nil _]
                exact h21
              refine y_mono (lp_not (l := l19) hC hR hX ht hT hln hg0 (D := D) (p := (r19 + 1)) (by omega) ⟨howi, hwi⟩ (by omega) (by omega) 6 o _ (by omega) (Nat.le_refl _) howi hh ?_) (by omega)
              intro V' a1 a2
              exact k1 _ _ V' eX a1 (CF_tr (CF_tr (CF_tr (CF_at ht) f19) f21) a2)
            · refine y_nv ?_
              refine y_zne rfl rfl rfl (by decide) (fun g18 => absurd g18 (by decide)) (fun g18 => ?_)
              refine y_ic rfl rfl ?_
              refine y_rI rfl (by decide) ?_
              exact k2 _ _ _ _ (by rw [pX_F, if_neg (by omega), if_pos (by omega), if_neg (by omega), x19]; exact if_neg q23) h19 (CF_tr (CF_at ht) f19)
          · have kk20 := pX_ok _ _ _ _ _ _ _ (by decide) (by omega) x20
            refine y_nv ?_
            refine y_zeq rfl rfl rfl (by decide) (fun g19 => ?_) (fun g19 => absurd g19 (by decide))
            refine y_ic rfl rfl ?_
            refine y_rI rfl (by decide) ?_
            exact k2 _ _ _ _ (by rw [pX_F, if_neg (by omega), if_pos (by omega), if_neg (by omega), x20]) h20 (CF_tr (CF_at ht) f20)
        · refine y_ic rfl rfl ?_
          refine y_rI rfl (by decide) ?_
          exact k2 _ _ _ _ (by rw [pX_F, if_neg (by omega), if_pos (by omega), if_pos (by omega)]) h (CF_rf t V)
set_option maxRecDepth 100000 in
set_option maxHeartbeats 4000000 in
theorem sr_F (hC : ClF S) {t z : Nat} {τ : Nat → Int} {ln : Int} {st0 : List Int} {g0 : Nat → Int} (hR : RdS S t) (hX : TxS S t) (ht : 193 ≤ t) (hT : Tp τ 0 z) (hln : 1 ≤ ln ∧ ln ≤ 8) (hg0 : ∀ c, c < 8 → 0 ≤ g0 c ∧ g0 c ≤ 10) {n : Nat} (hn1 : n ≤ 2000) (hA : qRF X S t z τ ln st0 g0 22 n) : qR X S t z τ ln st0 g0 0 22 4 1 n := by
  intro V K u w p o D acc ho hp hn hl hD htk h k1 k2
  obtain ⟨D, rfl⟩ : ∃ q, D = q + 1 := ⟨D - 1, by omega⟩
  refine y_ent (lv' := [(0, .ref 115), (1, iv (o : Int))]) (Nat.le_of_ble_eq_true rfl) rfl ?_
  refine y_ld (x := iv (o : Int)) rfl rfl (fun d => rfl) ?_
  refine y_st (lv' := [(2, iv (o : Int)), (0, .ref 115), (1, iv (o : Int))]) rfl rfl (fun d => rfl) ?_
  refine y_lv (l' := [(0, .ref 115), (1, iv (o : Int)), (2, iv (o : Int))]) rfl ⟨rfl, rfl, rfl, trivial⟩ ?_
  refine y_mono (hA _ _ _ _ p o o D acc (Nat.le_refl _) ho hp hn (by omega) (by omega) htk h ?_ k2) (by omega)
  intro l q V' a1 a2 a3
  rw [Nat.sub_self, show l ++ List.replicate 0 ((123 : Int), (0 : Int), (0 : Int)) = l from List.append_nil _] at a2
  exact k1 l q V' a1 a2 a3
theorem sr_all (hC : ClF S) {t z : Nat} {τ : Nat → Int} {ln : Int} {st0 : List Int} {g0 : Nat → Int} (hR : RdS S t) (hX : TxS S t) (ht : 193 ≤ t) (hT : Tp τ 0 z) (hln : 1 ≤ ln ∧ ln ≤ 8) (hg0 : ∀ c, c < 8 → 0 ≤ g0 c ∧ g0 c ≤ 10) : ∀ n, n ≤ 2000 → qRF X S t z τ ln st0 g0 22 n ∧ qR X S t z τ ln st0 g0 1 21 5 2 n ∧ qRL X S t z τ ln st0 g0 2 21 4 1 n ∧ qR X S t z τ ln st0 g0 3 20 6 3 n ∧ qRL X S t z τ ln st0 g0 4 20 5 1 n
  | 0, _ => ⟨fun _ _ _ _ _ _ _ _ _ _ _ _ h => absurd h (by omega), fun _ _ _ _ _ _ _ _ _ _ h => absurd h (by omega), fun _ _ _ _ _ _ _ _ _ _ h => absurd h (by omega), fun _ _ _ _ _ _ _ _ _ _ h => absurd h (by omega), fun _ _ _ _ _ _ _ _ _ _ h => absurd h (by omega)⟩
  | n + 1, hn => by
    obtain ⟨a1, a2, a3, a4, a5⟩ := sr_all hC hR hX ht hT hln hg0 n (by omega)
    have b1 := sr_F hC hR hX ht hT hln hg0 (by omega) a1
    exact ⟨sr_FA hC hR hX ht hT hln hg0 a1 a4, sr_T hC hR hX ht hT hln hg0 (by omega) b1 a3, sr_TL hC hR hX ht hT hln hg0 b1 a3, sr_E hC hR hX ht hT hln hg0 (by omega) a2 a5, sr_EL hC hR hX ht hT hln hg0 a2 a5⟩
end
