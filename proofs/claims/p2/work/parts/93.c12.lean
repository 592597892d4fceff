theorem pAs_c {τ : Nat → Int} {z : Nat} : ∀ (k p : Nat) (acc l : List p_Ac) (q : Nat), p ≤ z → pAs τ z k p acc = (some l, q) → (encAc l).length + p ≤ (encAc acc).length + q
  | 0, p, acc, l, q, hp, h => by
    unfold pAs at h
    cases h
    omega
  | k + 1, p, acc, l, q, hp, h => by
    rw [pAs_s] at h
    split at h
    · rename_i x q1 ee
      have k1 := pA_ok hp ee
      have k2 := encAc_len hp ee
      have h0 : hr τ z q1 ≠ -1 → q1 < z := hr_le
      split at h
      · have := h0 (by omega)
        have kk := pAs_c k (q1 + 1) (acc ++ [x]) l q (by omega) h
        rw [encAc_app, List.length_append] at kk
        omega
      · cases h
        rw [encAc_app, List.length_append]
        omega
    · cases h
/-- what a reading leaves as it was -/
def CX (t : Nat) (V V' : v_V) : Prop := (∀ k, k ≠ 115 → k < t ∨ t + 6 < k → V' k = V k) ∧ ∀ i, i ≠ 2 → V' 115 i = V 115 i
theorem CX_tr {t : Nat} {V V' V'' : v_V} (h : CX t V V') (h2 : CX t V' V'') : CX t V V'' :=
  ⟨fun k q1 q2 => (h2.1 k q1 q2).trans (h.1 k q1 q2), fun i q => (h2.2 i q).trans (h.2 i q)⟩
theorem CX_cl {t n : Nat} {V V' : v_V} (h : CL t n V V') : CX t V V' := ⟨h.1, h.2.1⟩
theorem LN_mv {V V' : v_V} {t : Nat} {l : List p_Li} (ht : 193 ≤ t) (h : CF t V V') (hl : LN V t l) : LN V' t l := by
  intro i x hi
  have e : ∀ k, k ≠ 115 → k ≠ t → k ≠ t + 5 → k ≠ t + 6 → V' k = V k := h.1
  rw [e (t + 1) (by omega) (by omega) (by omega) (by omega), e (t + 2) (by omega) (by omega) (by omega) (by omega), e (t + 3) (by omega) (by omega) (by omega) (by omega), e (t + 4) (by omega) (by omega) (by omega) (by omega)]
  exact hl i x hi
theorem pL_c {τ : Nat → Int} {z p q : Nat} {x : p_Li} (hp : p ≤ z) (hz : z ≤ 160) (h : pL τ z p = (some x, q)) : (encTc x.2.2.1).length + (encAc x.2.2.2).length + p ≤ q := by
  have h0 : hr τ z p ≠ -1 → p < z := hr_le
  unfold pL at h
  split at h
  · have := h0 (by omega)
    split at h
    · rename_i e q1 e1
      have k := pE_ok (by omega) hz e1
      have kc : (encTc e.2).length + (p + 1) ≤ q1 := by
        unfold pE at e1
        have h3 : hr τ z (p + 1) ≠ -1 → p + 1 < z := hr_le
        split at e1
        · have := h3 (by omega)
          split at e1
          · rename_i l1 q2 e2
            have c := pX_c _ _ _ _ _ _ _ (by decide) (by omega) e2
            simp only [encTc, List.length_nil] at c
            split at e1
            · cases e1
              show (encTc l1).length + (p + 1) ≤ q2 + 1
              omega
            · cases e1
          · cases e1
        · cases e1
          show 0 + (p + 1) ≤ p + 1
          omega
      have h2 : hr τ z q1 ≠ -1 → q1 < z := hr_le
      split at h
      · have := h2 (by omega)
        split at h
        · rename_i l q2 e2
          have c := pAs_c _ _ _ _ _ (by omega) e2
          simp only [encAc, List.length_nil] at c
          cases h
          show (encTc e.2).length + (encAc l).length + p ≤ q
          omega
        · cases h
      · cases h
    · cases h
  · cases h
section
variable {X : Nat → List Int32} {u w : Nat} {S : m_H} {V : v_V} {K : v_K}
set_option maxRecDepth 100000 in
set_option maxHeartbeats 4000000 in
theorem cr_hands {t : Nat} (hR : RdS S t) (k : K u w (some (.ref t)) (S.set 115 (3, [.ref 2, .int 0, .int 0, .null])) V) : y_R X 1 18 u w [.ref 115] S V K := by
  refine y_ent (lv' := [(0, .ref 115)]) (Nat.le_of_ble_eq_true rfl) rfl ?_
  refine y_ld (x := .ref 115) rfl rfl (fun d => rfl) ?_
  refine y_gR (i := 3) rfl rfl rfl hR rfl ?_
  refine y_st (lv' := [(1, .ref t), (0, .ref 115)]) rfl rfl (fun d => rfl) ?_
  refine y_ld (x := .ref 115) rfl rfl (fun d => rfl) ?_
  refine y_ld rfl rfl (fun d => rfl) ?_
  refine y_pR (i := 3) rfl rfl rfl hR (show 3 < 4 by decide) ⟨rfl, fun x hx => by cases hx⟩ ?_
  refine y_ld (x := .ref t) rfl rfl (fun d => rfl) ?_
  refine y_ret rfl (fun d => rfl) ?_
  exact k
set_option maxRecDepth 100000 in
set_option maxHeartbeats 4000000 in
theorem lp_reads (hC : ClF S) {t z : Nat} {τ : Nat → Int} (hR : RdS S t) (hX : TxS S t) (ht : 193 ≤ t) (hT : Tp τ 0 z) : ∀ (m n : Nat) (V : v_V) (K : v_K) (u w p : Nat) (acc : List p_Li), n + m = 8 → 1 ≤ m → acc.length = n → p ≤ z → (encPc acc).length ≤ p → lsO acc → CP V t z τ p (n : Int) (encPc acc) (mkP 0 (fun _ => 0) acc) → LN V t acc → (∀ l V', pLs τ z (8 - n) p acc = (some l, z) → CT V' t l → CX t V V' → K u w (some (.ref t)) (S.set 115 (3, [.ref 2, .int 0, .int 0, .null])) V') → (∀ q V', (pLs τ z (8 - n) p acc = (none, q) ∨ ∃ l, pLs τ z (8 - n) p acc = (some l, q) ∧ q ≠ z) → V' 115 2 = (q : Int) → q ≤ z → CX t V V' → K u w (some .null) S V') → y_E X 22 17 (200 * m) u w 42 [(0, .ref 115), (1, .ref 2), (2, iv (z : Int)), (3, iv (n : Int))] [] S V K := by
  intro m
  induction m with
  | zero => intros; omega
  | succ m ih =>
    intro n V K u w p acc hnm hm1 hal hp hl hlo h hLN k1 k2
    have hz := hT.2.1
    have hq0 := hr_rg hT p
    have hgP := mkP_bd acc 0 (fun _ => 0) (by omega) (by omega) hlo (fun _ _ => ⟨Int.le_refl 0, (by decide : (0 : Int) ≤ 10)⟩)
    refine y_mono (F' := 200 * m + 200) ?_ (by omega)
    refine y_ld (x := iv (n : Int)) rfl rfl (fun d => rfl) ?_
    refine y_bi rfl rfl (by decide) ?_
    refine y_jge rfl rfl rfl (by omega) (fun g1 => absurd g1 (by omega)) (fun g1 => ?_)
    refine y_ld (x := .ref 115) rfl rfl (fun d => rfl) ?_
    refine y_ld (x := iv (n : Int)) rfl rfl (fun d => rfl) ?_
    refine y_cV (as := [.ref 115, iv (n : Int)]) rfl rfl rfl rfl rfl hR ⟨rfl, (Nat.le_of_ble_eq_true rfl), (Nat.le_of_ble_eq_true rfl)⟩ (by decide) (cr_kind hC hR hX ht hT (by omega) h (by omega) (fun q1 V1 h1 f1 ek1 ek2 => ?_) (fun q2 => ?_))
    · have plk := hr_le (τ := τ) (z := z) (p := p) (by omega)
      refine y_nv ?_
      refine y_zne rfl rfl rfl (by decide) (fun g2 => ?_) (fun g2 => absurd g2 (by decide))
      refine y_ld (x := .ref 115) rfl rfl (fun d => rfl) ?_
      refine y_bi rfl rfl (by decide) ?_
      refine y_cV (as := [.ref 115, iv 40]) rfl rfl rfl rfl rfl hR ⟨rfl, (Nat.le_of_ble_eq_true rfl), (Nat.le_of_ble_eq_true rfl)⟩ (by decide) (cr_takes hC hR hX ht hT (by decide) h1 (by omega) (fun q3 V3 h3 f3 => ?_) (fun q4 => ?_))
      · have pl3 := hr_le (τ := τ) (z := z) (p := (p + 1)) (by omega)
        refine y_nv ?_
        refine y_zeq rfl rfl rfl (by decide) (fun g3 => absurd g3 (by decide)) (fun g3 => ?_)
        refine y_ld (x := .ref 115) rfl rfl (fun d => rfl) ?_
        refine y_ic rfl rfl ?_
        refine y_cV (as := [.ref 115, iv 1]) rfl rfl rfl rfl rfl hR ⟨rfl, (Nat.le_of_ble_eq_true rfl), (Nat.le_of_ble_eq_true rfl)⟩ (by decide) ((sr_all (ln := (n : Int) + 1) (st0 := encPc acc) (g0 := mkP 0 (fun _ => 0) acc) hC hR hX ht hT (by omega) hgP 1000 (by decide)).2.2.2.1 _ _ _ _ ((p + 1) + 1) 1 21 [] (by decide) (by omega) (by omega) (by simp only [encTc, List.length_nil]; omega) (by decide) (fun t ht => by cases ht) (by have e := h3; rw [show encTc [] = [] from rfl, List.append_nil]; exact e) (fun l5 r5 V5 x5 h5 f5 => ?_) (fun r6 V6 s6 g_6 x6 h6 f6 => ?_))
        · have kk5 := pX_ok _ _ _ _ _ _ _ (by decide) (by omega) x5
          have mm5 := kk5.2.2 _ rfl
          have cc5 := pX_c _ _ _ _ _ _ _ (by decide) (by omega) x5
          have tt5 := pX_tk _ _ _ _ _ _ _ (by decide) (by omega) (fun t ht => by cases ht) x5
          simp only [encTc, List.length_nil] at cc5
          refine y_nv ?_
          refine y_zeq rfl rfl rfl (by decide) (fun g4 => absurd g4 (by decide)) (fun g4 => ?_)
          refine y_ld (x := .ref 115) rfl rfl (fun d => rfl) ?_
          refine y_bi rfl rfl (by decide) ?_
          refine y_cV (as := [.ref 115, iv 41]) rfl rfl rfl rfl rfl hR ⟨rfl, (Nat.le_of_ble_eq_true rfl), (Nat.le_of_ble_eq_true rfl)⟩ (by decide) (cr_takes hC hR hX ht hT (by decide) h5 (by omega) (fun q7 V7 h7 f7 => ?_) (fun q8 => ?_))
          · have pl7 := hr_le (τ := τ) (z := z) (p := r5) (by omega)
            refine y_nv ?_
            refine y_zne rfl rfl rfl (by decide) (fun g5 => ?_) (fun g5 => absurd g5 (by decide))
            refine y_ld (x := .ref 115) rfl rfl (fun d => rfl) ?_
            refine y_gR (i := 3) rfl rfl rfl hR rfl ?_
            refine y_gR (i := 3) rfl rfl rfl hX.1 rfl ?_
            refine y_ld (x := iv (n : Int)) rfl rfl (fun d => rfl) ?_
            refine y_ld (x := .ref 115) rfl rfl (fun d => rfl) ?_
            refine y_gR (i := 3) rfl rfl rfl hR rfl ?_
            refine y_gI (i := 6) (e := (((encPc acc ++ encTc l5)).length : Int)) rfl rfl rfl hX.1 rfl h7.2.2.2.2.1 ?_
            refine y_ist (q := n) rfl rfl hX.2.2.2.1 (by omega) (by decide) (by omega) ?_
            refine y_ld (x := .ref 115) rfl rfl (fun d => rfl) ?_
            refine y_bi rfl rfl (by decide) ?_
            refine y_cV (as := [.ref 115, iv 58]) rfl rfl rfl rfl rfl hR ⟨rfl, (Nat.le_of_ble_eq_true rfl), (Nat.le_of_ble_eq_true rfl)⟩ (by decide) (cr_takes hC hR hX ht hT (by decide) (CP_3 ht h7) (by omega) (fun q9 V9 h9 f9 => ?_) (fun q10 => ?_))
            · have pl9 := hr_le (τ := τ) (z := z) (p := (r5 + 1)) (by omega)
              refine y_nv ?_
              refine y_zeq rfl rfl rfl (by decide) (fun g6 => absurd g6 (by decide)) (fun g6 => ?_)
              refine y_ld (x := .ref 115) rfl rfl (fun d => rfl) ?_
              refine y_ld (x := iv (n : Int)) rfl rfl (fun d => rfl) ?_
              refine y_cV (as := [.ref 115, iv (n : Int)]) rfl rfl rfl rfl rfl hR ⟨rfl, (Nat.le_of_ble_eq_true rfl), (Nat.le_of_ble_eq_true rfl)⟩ (by decide) (cr_acts (st0 := (encPc acc ++ encTc l5)) (g0 := (mkT ((n : Int) + 1 - 1) (mkP 0 (fun _ => 0) acc) l5)) (lnn := n) hC hR hX ht hT (by omega) (mkT_bd (by omega) l5 _ tt5 hgP) (by omega) (by omega) (by first | omega | (simp only [List.length_append]; omega)) h9 (fun l11 r11 V11 x11 ec11 h11 f11 => ?_) (fun r12 V12 s12 g_12 x12 h12 f12 => ?_))
              · have pa11 := pAs_ok _ _ _ _ _ (by omega) (fun x hx => by cases hx) x11
                have pb11 := pa11.2.2 _ rfl
                have pd11 := pAs_c _ _ _ _ _ (by omega) x11
                simp only [encAc, List.length_nil] at pd11
                refine y_nv ?_
                refine y_zne rfl rfl rfl (by decide) (fun g7 => ?_) (fun g7 => absurd g7 (by decide))
                refine y_ld (x := .ref 115) rfl rfl (fun d => rfl) ?_
                refine y_gI (i := 2) (e := ((r11 : Nat) : Int)) rfl rfl rfl hR rfl h11.2.1 ?_
                refine y_ld (x := .ref 115) rfl rfl (fun d => rfl) ?_
                refine y_gI (i := 1) (e := (z : Int)) rfl rfl rfl hR rfl h11.1 ?_
                refine y_jne rfl rfl rfl (by omega) (fun g8 => ?_) (fun g8 => ?_)
                · refine y_ld (x := iv (n : Int)) rfl rfl (fun d => rfl) ?_
                  refine y_bi rfl rfl (by decide) ?_
                  refine y_jeq rfl rfl rfl (by omega) (fun g9 => ?_) (fun g9 => ?_)
                  · refine y_ld rfl rfl (fun d => rfl) ?_
                    refine y_ret rfl (fun d => rfl) ?_
                    have eL : pL τ z p = (some ((if hr τ z p = 42 then (4 : Int) else hr τ z p - 48), (true, l5).1, (true, l5).2, l11), r11) := pL_4 q1 (pE_1 q3 x5 q7) q9 x11
                    generalize hX1 : (((if hr τ z p = 42 then (4 : Int) else hr τ z p - 48), (true, l5).1, (true, l5).2, l11) : p_Li) = x at eL
                    have x1 : x.1 = (if hr τ z p = 42 then (4 : Int) else hr τ z p - 48) := by rw [← hX1]
                    have x3 : x.2.2.1 = l5 := by rw [← hX1]
                    have x4 : x.2.2.2 = l11 := by rw [← hX1]
                    have hcl := (CL_tr (CL_tr (CL_tr (CL_tr (CL_tr (CL_tr (CL_tr (CL_rf t n V) f1) (CL_cf ht f3)) (CL_cf ht f5)) (CL_cf ht f7)) (CL_3 ht)) (CL_cf ht f9)) (CL_ch ht f11))
                    have r1 : V11 (t + 1) n = x.1 := by rw [x1, ← ek1, f11.1 (t + 1) (by omega) (by omega) (by omega) (by omega) (by omega), f9.1 (t + 1) (by omega) (by omega) (by omega) (by omega), v_up_ne (by omega), f7.1 (t + 1) (by omega) (by omega) (by omega) (by omega), f5.1 (t + 1) (by omega) (by omega) (by omega) (by omega), f3.1 (t + 1) (by omega) (by omega) (by omega) (by omega)]
                    have r2 : V11 (t + 2) n = ((encPc acc).length : Int) := by rw [← ek2, f11.1 (t + 2) (by omega) (by omega) (by omega) (by omega) (by omega), f9.1 (t + 2) (by omega) (by omega) (by omega) (by omega), v_up_ne (by omega), f7.1 (t + 2) (by omega) (by omega) (by omega) (by omega), f5.1 (t + 2) (by omega) (by omega) (by omega) (by omega), f3.1 (t + 2) (by omega) (by omega) (by omega) (by omega)]
                    have r3 : V11 (t + 3) n = ((encPc acc).length : Int) + (encTc x.2.2.1).length := by rw [x3, f11.1 (t + 3) (by omega) (by omega) (by omega) (by omega) (by omega), f9.1 (t + 3) (by omega) (by omega) (by omega) (by omega), v_up_eq]; rw [List.length_append]; rfl
                    have r4 : V11 (t + 4) n = (x.2.2.2.length : Int) := by rw [x4]; exact ec11
                    have hln2 : LN V11 t (acc ++ [x]) := LN_app hLN (fun i hi => hcl.2.2 i (by rw [← hal]; exact hi)) (by rw [hal]; exact r1) (by rw [hal]; exact r2) (by rw [hal]; exact r3) (by rw [hal]; exact r4)
                    have hcp : CP V11 t z τ r11 ((n : Int) + 1) (encPc (acc ++ [x])) (mkP 0 (fun _ => 0) (acc ++ [x])) := by
                      rw [encPc_app, mkP_app, hal, show (0 : Int) + (n : Int) = (n : Int) + 1 - 1 by omega]
                      unfold mkL
                      rw [x3, x4]
                      have e := h11
                      exact e
                    have ePs : pLs τ z (8 - n) p acc = (if 8 - (n + 1) ≠ 0 ∧ hr τ z r11 = 59 then pLs τ z (8 - (n + 1)) (r11 + 1) (acc ++ [x]) else (some (acc ++ [x]), r11)) := by
                      rw [show 8 - n = (8 - (n + 1)) + 1 by omega, pLs_s]; simp only [eL]
                    exact k2 r11 _ (Or.inr ⟨_, ePs.trans (if_neg (by omega)), by omega⟩) (h11.2.1) (by omega) (CX_cl (CL_tr (CL_tr (CL_tr (CL_tr (CL_tr (CL_tr (CL_tr (CL_rf t n V) f1) (CL_cf ht f3)) (CL_cf ht f5)) (CL_cf ht f7)) (CL_3 ht)) (CL_cf ht f9)) (CL_ch ht f11)))
                  · refine y_ld (x := .ref 115) rfl rfl (fun d => rfl) ?_
                    refine y_bi rfl rfl (by decide) ?_
                    refine y_cV (as := [.ref 115, iv 59]) rfl rfl rfl rfl rfl hR ⟨rfl, (Nat.le_of_ble_eq_true rfl), (Nat.le_of_ble_eq_true rfl)⟩ (by decide) (cr_takes hC hR hX ht hT (by decide) h11 (by omega) (fun q13 V13 h13 f13 => ?_) (fun q14 => ?_))
                    · have pl13 := hr_le (τ := τ) (z := z) (p := r11) (by omega)
                      refine y_nv ?_
                      refine y_zne rfl rfl rfl (by decide) (fun g10 => ?_) (fun g10 => absurd g10 (by decide))
                      refine y_inc (z := ((n + 1 : Nat) : Int)) (lv' := [(3, iv ((n + 1 : Nat) : Int)), (0, .ref 115), (1, .ref 2), (2, iv (z : Int))]) rfl rfl rfl (by omega) rfl ?_
                      refine y_go rfl rfl ?_
                      refine y_lv (l' := [(0, .ref 115), (1, .ref 2), (2, iv (z : Int)), (3, iv ((n + 1 : Nat) : Int))]) rfl ⟨rfl, rfl, rfl, rfl, trivial⟩ ?_
                      have eL : pL τ z p = (some ((if hr τ z p = 42 then (4 : Int) else hr τ z p - 48), (true, l5).1, (true, l5).2, l11), r11) := pL_4 q1 (pE_1 q3 x5 q7) q9 x11
                      generalize hX1 : (((if hr τ z p = 42 then (4 : Int) else hr τ z p - 48), (true, l5).1, (true, l5).2, l11) : p_Li) = x at eL
                      have x1 : x.1 = (if hr τ z p = 42 then (4 : Int) else hr τ z p - 48) := by rw [← hX1]
                      have x3 : x.2.2.1 = l5 := by rw [← hX1]
                      have x4 : x.2.2.2 = l11 := by rw [← hX1]
                      have hcl := (CL_tr (CL_tr (CL_tr (CL_tr (CL_tr (CL_tr (CL_tr (CL_rf t n V) f1) (CL_cf ht f3)) (CL_cf ht f5)) (CL_cf ht f7)) (CL_3 ht)) (CL_cf ht f9)) (CL_ch ht f11))
                      have r1 : V11 (t + 1) n = x.1 := by rw [x1, ← ek1, f11.1 (t + 1) (by omega) (by omega) (by omega) (by omega) (by omega), f9.1 (t + 1) (by omega) (by omega) (by omega) (by omega), v_up_ne (by omega), f7.1 (t + 1) (by omega) (by omega) (by omega) (by omega), f5.1 (t + 1) (by omega) (by omega) (by omega) (by omega), f3.1 (t + 1) (by omega) (by omega) (by omega) (by omega)]
                      have r2 : V11 (t + 2) n = ((encPc acc).length : Int) := by rw [← ek2, f11.1 (t + 2) (by omega) (by omega) (by omega) (by omega) (by omega), f9.1 (t + 2) (by omega) (by omega) (by omega) (by omega), v_up_ne (by omega), f7.1 (t + 2) (by omega) (by omega) (by omega) (by omega), f5.1 (t + 2) (by omega) (by omega) (by omega) (by omega), f3.1 (t + 2) (by omega) (by omega) (by omega) (by omega)]
                      have r3 : V11 (t + 3) n = ((encPc acc).length : Int) + (encTc x.2.2.1).length := by rw [x3, f11.1 (t + 3) (by omega) (by omega) (by omega) (by omega) (by omega), f9.1 (t + 3) (by omega) (by omega) (by omega) (by omega), v_up_eq]; rw [List.length_append]; rfl
                      have r4 : V11 (t + 4) n = (x.2.2.2.length : Int) := by rw [x4]; exact ec11
                      have hln2 : LN V11 t (acc ++ [x]) := LN_app hLN (fun i hi => hcl.2.2 i (by rw [← hal]; exact hi)) (by rw [hal]; exact r1) (by rw [hal]; exact r2) (by rw [hal]; exact r3) (by rw [hal]; exact r4)
                      have hcp : CP V11 t z τ r11 ((n : Int) + 1) (encPc (acc ++ [x])) (mkP 0 (fun _ => 0) (acc ++ [x])) := by
                        rw [encPc_app, mkP_app, hal, show (0 : Int) + (n : Int) = (n : Int) + 1 - 1 by omega]
                        unfold mkL
                        rw [x3, x4]
                        have e := h11
                        exact e
                      have ePs : pLs τ z (8 - n) p acc = (if 8 - (n + 1) ≠ 0 ∧ hr τ z r11 = 59 then pLs τ z (8 - (n + 1)) (r11 + 1) (acc ++ [x]) else (some (acc ++ [x]), r11)) := by
                        rw [show 8 - n = (8 - (n + 1)) + 1 by omega, pLs_s]; simp only [eL]
                      have hO : liO x := ((pL_ok (by omega) hz eL).2.2 x rfl).2
                      have hLen : (encPc (acc ++ [x])).length ≤ r11 := by have e := pL_c (by omega) hz eL; rw [encPc_app, List.length_append, List.length_append]; omega
                      refine y_mono (ih (n + 1) _ _ _ _ (r11 + 1) (acc ++ [x]) (by omega) (by omega) (by simp; omega) (by omega) (by omega) (lsO_app hlo hO) ?_ ?_ ?_ ?_) (by omega)
                      · rw [encPc_app, mkP_app, hal, show (0 : Int) + (n : Int) = (n : Int) + 1 - 1 by omega]
                        unfold mkL
                        rw [x3, x4]
                        have e := h13
                        exact e
                      · exact LN_mv ht f13 hln2
                      · intro lz V' a1 a2 a3
                        exact k1 lz V' (ePs.trans ((if_pos ⟨by omega, q13⟩).trans a1)) a2 (CX_tr (CX_cl (CL_tr (CL_tr (CL_tr (CL_tr (CL_tr (CL_tr (CL_tr (CL_tr (CL_rf t n V) f1) (CL_cf ht f3)) (CL_cf ht f5)) (CL_cf ht f7)) (CL_3 ht)) (CL_cf ht f9)) (CL_ch ht f11)) (CL_cf ht f13))) a3)
                      · intro qz V' a1 a2 a3 a4
                        refine k2 qz V' ?_ a2 a3 (CX_tr (CX_cl (CL_tr (CL_tr (CL_tr (CL_tr (CL_tr (CL_tr (CL_tr (CL_tr (CL_rf t n V) f1) (CL_cf ht f3)) (CL_cf ht f5)) (CL_cf ht f7)) (CL_3 ht)) (CL_cf ht f9)) (CL_ch ht f11)) (CL_cf ht f13))) a4)
                        rw [ePs, if_pos ⟨by omega, q13⟩]; exact a1
                    · refine y_nv ?_
                      refine y_zne rfl rfl rfl (by decide) (fun g11 => absurd g11 (by decide)) (fun g11 => ?_)
                      refine y_ld rfl rfl (fun d => rfl) ?_
                      refine y_ret rfl (fun d => rfl) ?_
                      have eL : pL τ z p = (some ((if hr τ z p = 42 then (4 : Int) else hr τ z p - 48), (true, l5).1, (true, l5).2, l11), r11) := pL_4 q1 (pE_1 q3 x5 q7) q9 x11
                      generalize hX1 : (((if hr τ z p = 42 then (4 : Int) else hr τ z p - 48), (true, l5).1, (true, l5).2, l11) : p_Li) = x at eL
                      have x1 : x.1 = (if hr τ z p = 42 then (4 : Int) else hr τ z p - 48) := by rw [← hX1]
                      have x3 : x.2.2.1 = l5 := by rw [← hX1]
                      have x4 : x.2.2.2 = l11 := by rw [← hX1]
                      have hcl := (CL_tr (CL_tr (CL_tr (CL_tr (CL_tr (CL_tr (CL_tr (CL_rf t n V) f1) (CL_cf ht f3)) (CL_cf ht f5)) (CL_cf ht f7)) (CL_3 ht)) (CL_cf ht f9)) (CL_ch ht f11))
                      have r1 : V11 (t + 1) n = x.1 := by rw [x1, ← ek1, f11.1 (t + 1) (by omega) (by omega) (by omega) (by omega) (by omega), f9.1 (t + 1) (by omega) (by omega) (by omega) (by omega), v_up_ne (by omega), f7.1 (t + 1) (by omega) (by omega) (by omega) (by omega), f5.1 (t + 1) (by omega) (by omega) (by omega) (by omega), f3.1 (t + 1) (by omega) (by omega) (by omega) (by omega)]
                      have r2 : V11 (t + 2) n = ((encPc acc).length : Int) := by rw [← ek2, f11.1 (t + 2) (by omega) (by omega) (by omega) (by omega) (by omega), f9.1 (t + 2) (by omega) (by omega) (by omega) (by omega), v_up_ne (by omega), f7.1 (t + 2) (by omega) (by omega) (by omega) (by omega), f5.1 (t + 2) (by omega) (by omega) (by omega) (by omega), f3.1 (t + 2) (by omega) (by omega) (by omega) (by omega)]
                      have r3 : V11 (t + 3) n = ((encPc acc).length : Int) + (encTc x.2.2.1).length := by rw [x3, f11.1 (t + 3) (by omega) (by omega) (by omega) (by omega) (by omega), f9.1 (t + 3) (by omega) (by omega) (by omega) (by omega), v_up_eq]; rw [List.length_append]; rfl
                      have r4 : V11 (t + 4) n = (x.2.2.2.length : Int) := by rw [x4]; exact ec11
                      have hln2 : LN V11 t (acc ++ [x]) := LN_app hLN (fun i hi => hcl.2.2 i (by rw [← hal]; exact hi)) (by rw [hal]; exact r1) (by rw [hal]; exact r2) (by rw [hal]; exact r3) (by rw [hal]; exact r4)
                      have hcp : CP V11 t z τ r11 ((n : Int) + 1) (encPc (acc ++ [x])) (mkP 0 (fun _ => 0) (acc ++ [x])) := by
                        rw [encPc_app, mkP_app, hal, show (0 : Int) + (n : Int) = (n : Int) + 1 - 1 by omega]
                        unfold mkL
                        rw [x3, x4]
                        have e := h11
                        exact e
                      have ePs : pLs τ z (8 - n) p acc = (if 8 - (n + 1) ≠ 0 ∧ hr τ z r11 = 59 then pLs τ z (8 - (n + 1)) (r11 + 1) (acc ++ [x]) else (some (acc ++ [x]), r11)) := by
                        rw [show 8 - n = (8 - (n + 1)) + 1 by omega, pLs_s]; simp only [eL]
                      exact k2 r11 _ (Or.inr ⟨_, ePs.trans (if_neg (by omega)), by omega⟩) (h11.2.1) (by omega) (CX_cl (CL_tr (CL_tr (CL_tr (CL_tr (CL_tr (CL_tr (CL_tr (CL_rf t n V) f1) (CL_cf ht f3)) (CL_cf ht f5)) (CL_cf ht f7)) (CL_3 ht)) (CL_cf ht f9)) (CL_ch ht f11)))
                · refine y_ld (x := .ref 115) rfl rfl (fun d => rfl) ?_
                  refine y_cV (as := [.ref 115]) rfl rfl rfl rfl rfl hR ⟨rfl, (Nat.le_of_ble_eq_true rfl), (Nat.le_of_ble_eq_true rfl)⟩ (by decide) (cr_hands hR ?_)
                  refine y_nv ?_
                  refine y_ret rfl (fun d => rfl) ?_
                  have eL : pL τ z p = (some ((if hr τ z p = 42 then (4 : Int) else hr τ z p - 48), (true, l5).1, (true, l5).2, l11), r11) := pL_4 q1 (pE_1 q3 x5 q7) q9 x11
                  generalize hX1 : (((if hr τ z p = 42 then (4 : Int) else hr τ z p - 48), (true, l5).1, (true, l5).2, l11) : p_Li) = x at eL
                  have x1 : x.1 = (if hr τ z p = 42 then (4 : Int) else hr τ z p - 48) := by rw [← hX1]
                  have x3 : x.2.2.1 = l5 := by rw [← hX1]
                  have x4 : x.2.2.2 = l11 := by rw [← hX1]
                  have hcl := (CL_tr (CL_tr (CL_tr (CL_tr (CL_tr (CL_tr (CL_tr (CL_rf t n V) f1) (CL_cf ht f3)) (CL_cf ht f5)) (CL_cf ht f7)) (CL_3 ht)) (CL_cf ht f9)) (CL_ch ht f11))
                  have r1 : V11 (t + 1) n = x.1 := by rw [x1, ← ek1, f11.1 (t + 1) (by omega) (by omega) (by omega) (by omega) (by omega), f9.1 (t + 1) (by omega) (by omega) (by omega) (by omega), v_up_ne (by omega), f7.1 (t + 1) (by omega) (by omega) (by omega) (by omega), f5.1 (t + 1) (by omega) (by omega) (by omega) (by omega), f3.1 (t + 1) (by omega) (by omega) (by omega) (by omega)]
                  have r2 : V11 (t + 2) n = ((encPc acc).length : Int) := by rw [← ek2, f11.1 (t + 2) (by omega) (by omega) (by omega) (by omega) (by omega), f9.1 (t + 2) (by omega) (by omega) (by omega) (by omega), v_up_ne (by omega), f7.1 (t + 2) (by omega) (by omega) (by omega) (by omega), f5.1 (t + 2) (by omega) (by omega) (by omega) (by omega), f3.1 (t + 2) (by omega) (by omega) (by omega) (by omega)]
                  have r3 : V11 (t + 3) n = ((encPc acc).length : Int) + (encTc x.2.2.1).length := by rw [x3, f11.1 (t + 3) (by omega) (by omega) (by omega) (by omega) (by omega), f9.1 (t + 3) (by omega) (by omega) (by omega) (by omega), v_up_eq]; rw [List.length_append]; rfl
                  have r4 : V11 (t + 4) n = (x.2.2.2.length : Int) := by rw [x4]; exact ec11
                  have hln2 : LN V11 t (acc ++ [x]) := LN_app hLN (fun i hi => hcl.2.2 i (by rw [← hal]; exact hi)) (by rw [hal]; exact r1) (by rw [hal]; exact r2) (by rw [hal]; exact r3) (by rw [hal]; exact r4)
                  have hcp : CP V11 t z τ r11 ((n : Int) + 1) (encPc (acc ++ [x])) (mkP 0 (fun _ => 0) (acc ++ [x])) := by
                    rw [encPc_app, mkP_app, hal, show (0 : Int) + (n : Int) = (n : Int) + 1 - 1 by omega]
                    unfold mkL
                    rw [x3, x4]
                    have e := h11
                    exact e
                  have ePs : pLs τ z (8 - n) p acc = (if 8 - (n + 1) ≠ 0 ∧ hr τ z r11 = 59 then pLs τ z (8 - (n + 1)) (r11 + 1) (acc ++ [x]) else (some (acc ++ [x]), r11)) := by
                    rw [show 8 - n = (8 - (n + 1)) + 1 by omega, pLs_s]; simp only [eL]
                  have hqz : r11 = z := by omega
                  refine k1 (acc ++ [x]) _ (ePs.trans ((if_neg (by rw [hqz]; intro hh; have := hr_le (τ := τ) (z := z) (p := z) (by omega); omega)).trans (by rw [hqz]))) ?_ (CX_cl (CL_tr (CL_tr (CL_tr (CL_tr (CL_tr (CL_tr (CL_tr (CL_rf t n V) f1) (CL_cf ht f3)) (CL_cf ht f5)) (CL_cf ht f7)) (CL_3 ht)) (CL_cf ht f9)) (CL_ch ht f11)))
                  have hcp2 := hcp
                  obtain ⟨c1, c2, c3, c4, c5, c6, c7, c8⟩ := hcp
                  exact ⟨by rw [c4]; simp; omega, c5, c6, hln2, c7, c8⟩
              · refine y_nv ?_
                refine y_zne rfl rfl rfl (by decide) (fun g12 => absurd g12 (by decide)) (fun g12 => ?_)
                refine y_ld rfl rfl (fun d => rfl) ?_
                refine y_ret rfl (fun d => rfl) ?_
                rcases x12 with ea | ⟨la, ea, eb⟩
                · exact k2 r12 _ (Or.inl (by rw [show 8 - n = (8 - (n + 1)) + 1 by omega, pLs_s]; simp only [pL_3 q1 (pE_1 q3 x5 q7) q9 ea])) (h12.2.1) (by have := pAs_ok _ _ _ _ _ (by omega) (fun x hx => by cases hx) ea; omega) (CX_cl (CL_tr (CL_tr (CL_tr (CL_tr (CL_tr (CL_tr (CL_tr (CL_rf t n V) f1) (CL_cf ht f3)) (CL_cf ht f5)) (CL_cf ht f7)) (CL_3 ht)) (CL_cf ht f9)) (CL_ch ht f12)))
                · have hb : hr τ z r12 = 43 ∨ hr τ z r12 = 45 ∨ hr τ z r12 = 44 := eb
                  have hlt := hr_le (τ := τ) (z := z) (p := r12) (by omega)
                  refine k2 r12 _ (Or.inr ⟨_, (by rw [show 8 - n = (8 - (n + 1)) + 1 by omega, pLs_s]; simp only [pL_4 q1 (pE_1 q3 x5 q7) q9 ea]; exact if_neg (by omega)), by omega⟩) (h12.2.1) (by omega) (CX_cl (CL_tr (CL_tr (CL_tr (CL_tr (CL_tr (CL_tr (CL_tr (CL_rf t n V) f1) (CL_cf ht f3)) (CL_cf ht f5)) (CL_cf ht f7)) (CL_3 ht)) (CL_cf ht f9)) (CL_ch ht f12)))
            · refine y_nv ?_
              refine y_zeq rfl rfl rfl (by decide) (fun g13 => ?_) (fun g13 => absurd g13 (by decide))
              refine y_ld rfl rfl (fun d => rfl) ?_
              refine y_ret rfl (fun d => rfl) ?_
              exact k2 (r5 + 1) _ (Or.inl (by rw [show 8 - n = (8 - (n + 1)) + 1 by omega, pLs_s]; simp only [(pL_2 q1 (pE_1 q3 x5 q7) q10)])) ((CP_3 ht h7).2.1) (by omega) (CX_cl (CL_tr (CL_tr (CL_tr (CL_tr (CL_tr (CL_rf t n V) f1) (CL_cf ht f3)) (CL_cf ht f5)) (CL_cf ht f7)) (CL_3 ht)))
          · refine y_nv ?_
            refine y_zne rfl rfl rfl (by decide) (fun g14 => absurd g14 (by decide)) (fun g14 => ?_)
            refine y_ld rfl rfl (fun d => rfl) ?_
            refine y_ret rfl (fun d => rfl) ?_
            exact k2 r5 _ (Or.inl (by rw [show 8 - n = (8 - (n + 1)) + 1 by omega, pLs_s]; simp only [(pL_1 q1 (pE_2 q3 x5 q8))])) (h5.2.1) (by omega) (CX_cl (CL_tr (CL_tr (CL_tr (CL_rf t n V) f1) (CL_cf ht f3)) (CL_cf ht f5)))
        · have kk6 := pX_ok _ _ _ _ _ _ _ (by decide) (by omega) x6
          refine y_nv ?_
          refine y_zeq rfl rfl rfl (by decide) (fun g15 => ?_) (fun g15 => absurd g15 (by decide))
          refine y_ld rfl rfl (fun d => rfl) ?_
          refine y_ret rfl (fun d => rfl) ?_
          exact k2 r6 _ (Or.inl (by rw [show 8 - n = (8 - (n + 1)) + 1 by omega, pLs_s]; simp only [(pL_1 q1 (pE_3 q3 x6))])) (h6.2.1) (by omega) (CX_cl (CL_tr (CL_tr (CL_tr (CL_rf t n V) f1) (CL_cf ht f3)) (CL_cf ht f6)))
      · refine y_nv ?_
        refine y_zeq rfl rfl rfl (by decide) (fun g16 => ?_) (fun g16 => absurd g16 (by decide))
        refine y_ld (x := .ref 115) rfl rfl (fun d => rfl) ?_
        refine y_gR (i := 3) rfl rfl rfl hR rfl ?_
        refine y_gR (i := 3) rfl rfl rfl hX.1 rfl ?_
        refine y_ld (x := iv (n : Int)) rfl rfl (fun d => rfl) ?_
        refine y_ld (x := .ref 115) rfl rfl (fun d => rfl) ?_
        refine y_gR (i := 3) rfl rfl rfl hR rfl ?_
        refine y_gI (i := 6) (e := (((encPc acc)).length : Int)) rfl rfl rfl hX.1 rfl h1.2.2.2.2.1 ?_
        refine y_ist (q := n) rfl rfl hX.2.2.2.1 (by omega) (by decide) (by omega) ?_
        refine y_ld (x := .ref 115) rfl rfl (fun d => rfl) ?_
        refine y_bi rfl rfl (by decide) ?_
        refine y_cV (as := [.ref 115, iv 58]) rfl rfl rfl rfl rfl hR ⟨rfl, (Nat.le_of_ble_eq_true rfl), (Nat.le_of_ble_eq_true rfl)⟩ (by decide) (cr_takes hC hR hX ht hT (by decide) (CP_3 ht h1) (by omega) (fun q15 V15 h15 f15 => ?_) (fun q16 => ?_))
        · have pl15 := hr_le (τ := τ) (z := z) (p := (p + 1)) (by omega)
          refine y_nv ?_
          refine y_zeq rfl rfl rfl (by decide) (fun g17 => absurd g17 (by decide)) (fun g17 => ?_)
          refine y_ld (x := .ref 115) rfl rfl (fun d => rfl) ?_
          refine y_ld (x := iv (n : Int)) rfl rfl (fun d => rfl) ?_
          refine y_cV (as := [.ref 115, iv (n : Int)]) rfl rfl rfl rfl rfl hR ⟨rfl, (Nat.le_of_ble_eq_true rfl), (Nat.le_of_ble_eq_true rfl)⟩ (by decide) (cr_acts (st0 := (encPc acc)) (g0 := (mkP 0 (fun _ => 0) acc)) (lnn := n) hC hR hX ht hT (by omega) hgP (by omega) (by omega) (by first | omega | (simp only [List.length_append]; omega)) h15 (fun l17 r17 V17 x17 ec17 h17 f17 => ?_) (fun r18 V18 s18 g_18 x18 h18 f18 => ?_))
          · have pa17 := pAs_ok _ _ _ _ _ (by omega) (fun x hx => by cases hx) x17
            have pb17 := pa17.2.2 _ rfl
            have pd17 := pAs_c _ _ _ _ _ (by omega) x17
            simp only [encAc, List.length_nil] at pd17
            refine y_nv ?_
            refine y_zne rfl rfl rfl (by decide) (fun g18 => ?_) (fun g18 => absurd g18 (by decide))
            refine y_ld (x := .ref 115) rfl rfl (fun d => rfl) ?_
            refine y_gI (i := 2) (e := ((r17 : Nat) : Int)) rfl rfl rfl hR rfl h17.2.1 ?_
            refine y_ld (x := .ref 115) rfl rfl (fun d => rfl) ?_
            refine y_gI (i := 1) (e := (z : Int)) rfl rfl rfl hR rfl h17.1 ?_
            refine y_jne rfl rfl rfl (by omega) (fun g19 => ?_) (fun g19 => ?_)
            · refine y_ld (x := iv (n : Int)) rfl rfl (fun d => rfl) ?_
              refine y_bi rfl rfl (by decide) ?_
              refine y_jeq rfl rfl rfl (by omega) (fun g20 => ?_) (fun g20 => ?_)
              · refine y_ld rfl rfl (fun d => rfl) ?_
                refine y_ret rfl (fun d => rfl) ?_
                have eL : pL τ z p = (some ((if hr τ z p = 42 then (4 : Int) else hr τ z p - 48), ((false, []) : Bool × List p_Tk).1, ((false, []) : Bool × List p_Tk).2, l17), r17) := pL_4 q1 (pE_0 q4) q15 x17
                generalize hX1 : (((if hr τ z p = 42 then (4 : Int) else hr τ z p - 48), ((false, []) : Bool × List p_Tk).1, ((false, []) : Bool × List p_Tk).2, l17) : p_Li) = x at eL
                have x1 : x.1 = (if hr τ z p = 42 then (4 : Int) else hr τ z p - 48) := by rw [← hX1]
                have x3 : x.2.2.1 = ([] : List p_Tk) := by rw [← hX1]
                have x4 : x.2.2.2 = l17 := by rw [← hX1]
                have hcl := (CL_tr (CL_tr (CL_tr (CL_tr (CL_rf t n V) f1) (CL_3 ht)) (CL_cf ht f15)) (CL_ch ht f17))
                have r1 : V17 (t + 1) n = x.1 := by rw [x1, ← ek1, f17.1 (t + 1) (by omega) (by omega) (by omega) (by omega) (by omega), f15.1 (t + 1) (by omega) (by omega) (by omega) (by omega), v_up_ne (by omega)]
                have r2 : V17 (t + 2) n = ((encPc acc).length : Int) := by rw [← ek2, f17.1 (t + 2) (by omega) (by omega) (by omega) (by omega) (by omega), f15.1 (t + 2) (by omega) (by omega) (by omega) (by omega), v_up_ne (by omega)]
                have r3 : V17 (t + 3) n = ((encPc acc).length : Int) + (encTc x.2.2.1).length := by rw [x3, f17.1 (t + 3) (by omega) (by omega) (by omega) (by omega) (by omega), f15.1 (t + 3) (by omega) (by omega) (by omega) (by omega), v_up_eq]; simp [encTc]
                have r4 : V17 (t + 4) n = (x.2.2.2.length : Int) := by rw [x4]; exact ec17
                have hln2 : LN V17 t (acc ++ [x]) := LN_app hLN (fun i hi => hcl.2.2 i (by rw [← hal]; exact hi)) (by rw [hal]; exact r1) (by rw [hal]; exact r2) (by rw [hal]; exact r3) (by rw [hal]; exact r4)
                have hcp : CP V17 t z τ r17 ((n : Int) + 1) (encPc (acc ++ [x])) (mkP 0 (fun _ => 0) (acc ++ [x])) := by
                  rw [encPc_app, mkP_app, hal, show (0 : Int) + (n : Int) = (n : Int) + 1 - 1 by omega]
                  unfold mkL
                  rw [x3, x4]
                  have e := h17
                  rw [show encTc [] = [] from rfl, List.append_nil]
                  exact e
                have ePs : pLs τ z (8 - n) p acc = (if 8 - (n + 1) ≠ 0 ∧ hr τ z r17 = 59 then pLs τ z (8 - (n + 1)) (r17 + 1) (acc ++ [x]) else (some (acc ++ [x]), r17)) := by
                  rw [show 8 - n = (8 - (n + 1)) + 1 by omega, pLs_s]; simp only [eL]
                exact k2 r17 _ (Or.inr ⟨_, ePs.trans (if_neg (by omega)), by omega⟩) (h17.2.1) (by omega) (CX_cl (CL_tr (CL_tr (CL_tr (CL_tr (CL_rf t n V) f1) (CL_3 ht)) (CL_cf ht f15)) (CL_ch ht f17)))
              · refine y_ld (x := .ref 115) rfl rfl (fun d => rfl) ?_
                refine y_bi rfl rfl (by decide) ?_
                refine y_cV (as := [.ref 115, iv 59]) rfl rfl rfl rfl rfl hR ⟨rfl, (Nat.le_of_ble_eq_true rfl), (Nat.le_of_ble_eq_true rfl)⟩ (by decide) (cr_takes hC hR hX ht hT (by decide) h17 (by omega) (fun q19 V19 h19 f19 => ?_) (fun q20 => ?_))
                · have pl19 := hr_le (τ := τ) (z := z) (p := r17) (by omega)
                  refine y_nv ?_
                  refine y_zne rfl rfl rfl (by decide) (fun g21 => ?_) (fun g21 => absurd g21 (by decide))
                  refine y_inc (z := ((n + 1 : Nat) : Int)) (lv' := [(3, iv ((n + 1 : Nat) : Int)), (0, .ref 115), (1, .ref 2), (2, iv (z : Int))]) rfl rfl rfl (by omega) rfl ?_
                  refine y_go rfl rfl ?_
                  refine y_lv (l' := [(0, .ref 115), (1, .ref 2), (2, iv (z : Int)), (3, iv ((n + 1 : Nat) : Int))]) rfl ⟨rfl, rfl, rfl, rfl, trivial⟩ ?_
                  have eL : pL τ z p = (some ((if hr τ z p = 42 then (4 : Int) else hr τ z p - 48), ((false, []) : Bool × List p_Tk).1, ((false, []) : Bool × List p_Tk).2, l17), r17) := pL_4 q1 (pE_0 q4) q15 x17
                  generalize hX1 : (((if hr τ z p = 42 then (4 : Int) else hr τ z p - 48), ((false, []) : Bool × List p_Tk).1, ((false, []) : Bool × List p_Tk).2, l17) : p_Li) = x at eL
                  have x1 : x.1 = (if hr τ z p = 42 then (4 : Int) else hr τ z p - 48) := by rw [← hX1]
                  have x3 : x.2.2.1 = ([] : List p_Tk) := by rw [← hX1]
                  have x4 : x.2.2.2 = l17 := by rw [← hX1]
                  have hcl := (CL_tr (CL_tr (CL_tr (CL_tr (CL_rf t n V) f1) (CL_3 ht)) (CL_cf ht f15)) (CL_ch ht f17))
                  have r1 : V17 (t + 1) n = x.1 := by rw [x1, ← ek1, f17.1 (t + 1) (by omega) (by omega) (by omega) (by omega) (by omega), f15.1 (t + 1) (by omega) (by omega) (by omega) (by omega), v_up_ne (by omega)]
                  have r2 : V17 (t + 2) n = ((encPc acc).length : Int) := by rw [← ek2, f17.1 (t + 2) (by omega) (by omega) (by omega) (by omega) (by omega), f15.1 (t + 2) (by omega) (by omega) (by omega) (by omega), v_up_ne (by omega)]
                  have r3 : V17 (t + 3) n = ((encPc acc).length : Int) + (encTc x.2.2.1).length := by rw [x3, f17.1 (t + 3) (by omega) (by omega) (by omega) (by omega) (by omega), f15.1 (t + 3) (by omega) (by omega) (by omega) (by omega), v_up_eq]; simp [encTc]
                  have r4 : V17 (t + 4) n = (x.2.2.2.length : Int) := by rw [x4]; exact ec17
                  have hln2 : LN V17 t (acc ++ [x]) := LN_app hLN (fun i hi => hcl.2.2 i (by rw [← hal]; exact hi)) (by rw [hal]; exact r1) (by rw [hal]; exact r2) (by rw [hal]; exact r3) (by rw [hal]; exact r4)
                  have hcp : CP V17 t z τ r17 ((n : Int) + 1) (encPc (acc ++ [x])) (mkP 0 (fun _ => 0) (acc ++ [x])) := by
                    rw [encPc_app, mkP_app, hal, show (0 : Int) + (n : Int) = (n : Int) + 1 - 1 by omega]
                    unfold mkL
                    rw [x3, x4]
                    have e := h17
                    rw [show encTc [] = [] from rfl, List.append_nil]
                    exact e
                  have ePs : pLs τ z (8 - n) p acc = (if 8 - (n + 1) ≠ 0 ∧ hr τ z r17 = 59 then pLs τ z (8 - (n + 1)) (r17 + 1) (acc ++ [x]) else (some (acc ++ [x]), r17)) := by
                    rw [show 8 - n = (8 - (n + 1)) + 1 by omega, pLs_s]; simp only [eL]
                  have hO : liO x := ((pL_ok (by omega) hz eL).2.2 x rfl).2
                  have hLen : (encPc (acc ++ [x])).length ≤ r17 := by have e := pL_c (by omega) hz eL; rw [encPc_app, List.length_append, List.length_append]; omega
                  refine y_mono (ih (n + 1) _ _ _ _ (r17 + 1) (acc ++ [x]) (by omega) (by omega) (by simp; omega) (by omega) (by omega) (lsO_app hlo hO) ?_ ?_ ?_ ?_) (by omega)
                  · rw [encPc_app, mkP_app, hal, show (0 : Int) + (n : Int) = (n : Int) + 1 - 1 by omega]
                    unfold mkL
                    rw [x3, x4]
                    have e := h19
                    rw [show encTc [] = [] from rfl, List.append_nil]
                    exact e
                  · exact LN_mv ht f19 hln2
                  · intro lz V' a1 a2 a3
                    exact k1 lz V' (ePs.trans ((if_pos ⟨by omega, q19⟩).trans a1)) a2 (CX_tr (CX_cl (CL_tr (CL_tr (CL_tr (CL_tr (CL_tr (CL_rf t n V) f1) (CL_3 ht)) (CL_cf ht f15)) (CL_ch ht f17)) (CL_cf ht f19))) a3)
                  · intro qz V' a1 a2 a3 a4
                    refine k2 qz V' ?_ a2 a3 (CX_tr (CX_cl (CL_tr (CL_tr (CL_tr (CL_tr (CL_tr (CL_rf t n V) f1) (CL_3 ht)) (CL_cf ht f15)) (CL_ch ht f17)) (CL_cf ht f19))) a4)
                    rw [ePs, if_pos ⟨by omega, q19⟩]; exact a1
                · refine y_nv ?_
                  refine y_zne rfl rfl rfl (by decide) (fun g22 => absurd g22 (by decide)) (fun g22 => ?_)
                  refine y_ld rfl rfl (fun d => rfl) ?_
                  refine y_ret rfl (fun d => rfl) ?_
                  have eL : pL τ z p = (some ((if hr τ z p = 42 then (4 : Int) else hr τ z p - 48), ((false, []) : Bool × List p_Tk).1, ((false, []) : Bool × List p_Tk).2, l17), r17) := pL_4 q1 (pE_0 q4) q15 x17
                  generalize hX1 : (((if hr τ z p = 42 then (4 : Int) else hr τ z p - 48), ((false, []) : Bool × List p_Tk).1, ((false, []) : Bool × List p_Tk).2, l17) : p_Li) = x at eL
                  have x1 : x.1 = (if hr τ z p = 42 then (4 : Int) else hr τ z p - 48) := by rw [← hX1]
                  have x3 : x.2.2.1 = ([] : List p_Tk) := by rw [← hX1]
                  have x4 : x.2.2.2 = l17 := by rw [← hX1]
                  have hcl := (CL_tr (CL_tr (CL_tr (CL_tr (CL_rf t n V) f1) (CL_3 ht)) (CL_cf ht f15)) (CL_ch ht f17))
                  have r1 : V17 (t + 1) n = x.1 := by rw [x1, ← ek1, f17.1 (t + 1) (by omega) (by omega) (by omega) (by omega) (by omega), f15.1 (t + 1) (by omega) (by omega) (by omega) (by omega), v_up_ne (by omega)]
                  have r2 : V17 (t + 2) n = ((encPc acc).length : Int) := by rw [← ek2, f17.1 (t + 2) (by omega) (by omega) (by omega) (by omega) (by omega), f15.1 (t + 2) (by omega) (by omega) (by omega) (by omega), v_up_ne (by omega)]
                  have r3 : V17 (t + 3) n = ((encPc acc).length : Int) + (encTc x.2.2.1).length := by rw [x3, f17.1 (t + 3) (by omega) (by omega) (by omega) (by omega) (by omega), f15.1 (t + 3) (by omega) (by omega) (by omega) (by omega), v_up_eq]; simp [encTc]
                  have r4 : V17 (t + 4) n = (x.2.2.2.length : Int) := by rw [x4]; exact ec17
                  have hln2 : LN V17 t (acc ++ [x]) := LN_app hLN (fun i hi => hcl.2.2 i (by rw [← hal]; exact hi)) (by rw [hal]; exact r1) (by rw [hal]; exact r2) (by rw [hal]; exact r3) (by rw [hal]; exact r4)
                  have hcp : CP V17 t z τ r17 ((n : Int) + 1) (encPc (acc ++ [x])) (mkP 0 (fun _ => 0) (acc ++ [x])) := by
                    rw [encPc_app, mkP_app, hal, show (0 : Int) + (n : Int) = (n : Int) + 1 - 1 by omega]
                    unfold mkL
                    rw [x3, x4]
                    have e := h17
                    rw [show encTc [] = [] from rfl, List.append_nil]
                    exact e
                  have ePs : pLs τ z (8 - n) p acc = (if 8 - (n + 1) ≠ 0 ∧ hr τ z r17 = 59 then pLs τ z (8 - (n + 1)) (r17 + 1) (acc ++ [x]) else (some (acc ++ [x]), r17)) := by
                    rw [show 8 - n = (8 - (n + 1)) + 1 by omega, pLs_s]; simp only [eL]
                  exact k2 r17 _ (Or.inr ⟨_, ePs.trans (if_neg (by omega)), by omega⟩) (h17.2.1) (by omega) (CX_cl (CL_tr (CL_tr (CL_tr (CL_tr (CL_rf t n V) f1) (CL_3 ht)) (CL_cf ht f15)) (CL_ch ht f17)))
            · refine y_ld (x := .ref 115) rfl rfl (fun d => rfl) ?_
              refine y_cV (as := [.ref 115]) rfl rfl rfl rfl rfl hR ⟨rfl, (Nat.le_of_ble_eq_true rfl), (Nat.le_of_ble_eq_true rfl)⟩ (by decide) (cr_hands hR ?_)
              refine y_nv ?_
              refine y_ret rfl (fun d => rfl) ?_
              have eL : pL τ z p = (some ((if hr τ z p = 42 then (4 : Int) else hr τ z p - 48), ((false, []) : Bool × List p_Tk).1, ((false, []) : Bool × List p_Tk).2, l17), r17) := pL_4 q1 (pE_0 q4) q15 x17
              generalize hX1 : (((if hr τ z p = 42 then (4 : Int) else hr τ z p - 48), ((false, []) : Bool × List p_Tk).1, ((false, []) : Bool × List p_Tk).2, l17) : p_Li) = x at eL
              have x1 : x.1 = (if hr τ z p = 42 then (4 : Int) else hr τ z p - 48) := by rw [← hX1]
              have x3 : x.2.2.1 = ([] : List p_Tk) := by rw [← hX1]
              have x4 : x.2.2.2 = l17 := by rw [← hX1]
              have hcl := (CL_tr (CL_tr (CL_tr (CL_tr (CL_rf t n V) f1) (CL_3 ht)) (CL_cf ht f15)) (CL_ch ht f17))
              have r1 : V17 (t + 1) n = x.1 := by rw [x1, ← ek1, f17.1 (t + 1) (by omega) (by omega) (by omega) (by omega) (by omega), f15.1 (t + 1) (by omega) (by omega) (by omega) (by omega), v_up_ne (by omega)]
              have r2 : V17 (t + 2) n = ((encPc acc).length : Int) := by rw [← ek2, f17.1 (t + 2) (by omega) (by omega) (by omega) (by omega) (by omega), f15.1 (t + 2) (by omega) (by omega) (by omega) (by omega), v_up_ne (by omega)]
              have r3 : V17 (t + 3) n = ((encPc acc).length : Int) + (encTc x.2.2.1).length := by rw [x3, f17.1 (t + 3) (by omega) (by omega) (by omega) (by omega) (by omega), f15.1 (t + 3) (by omega) (by omega) (by omega) (by omega), v_up_eq]; simp [encTc]
              have r4 : V17 (t + 4) n = (x.2.2.2.length : Int) := by rw [x4]; exact ec17
              have hln2 : LN V17 t (acc ++ [x]) := LN_app hLN (fun i hi => hcl.2.2 i (by rw [← hal]; exact hi)) (by rw [hal]; exact r1) (by rw [hal]; exact r2) (by rw [hal]; exact r3) (by rw [hal]; exact r4)
              have hcp : CP V17 t z τ r17 ((n : Int) + 1) (encPc (acc ++ [x])) (mkP 0 (fun _ => 0) (acc ++ [x])) := by
                rw [encPc_app, mkP_app, hal, show (0 : Int) + (n : Int) = (n : Int) + 1 - 1 by omega]
                unfold mkL
                rw [x3, x4]
                have e := h17
                rw [show encTc [] = [] from rfl, List.append_nil]
                exact e
              have ePs : pLs τ z (8 - n) p acc = (if 8 - (n + 1) ≠ 0 ∧ hr τ z r17 = 59 then pLs τ z (8 - (n + 1)) (r17 + 1) (acc ++ [x]) else (some (acc ++ [x]), r17)) := by
                rw [show 8 - n = (8 - (n + 1)) + 1 by omega, pLs_s]; simp only [eL]
              have hqz : r17 = z := by omega
              refine k1 (acc ++ [x]) _ (ePs.trans ((if_neg (by rw [hqz]; intro hh; have := hr_le (τ := τ) (z := z) (p := z) (by omega); omega)).trans (by rw [hqz]))) ?_ (CX_cl (CL_tr (CL_tr (CL_tr (CL_tr (CL_rf t n V) f1) (CL_3 ht)) (CL_cf ht f15)) (CL_ch ht f17)))
              have hcp2 := hcp
              obtain ⟨c1, c2, c3, c4, c5, c6, c7, c8⟩ := hcp
              exact ⟨by rw [c4]; simp; omega, c5, c6, hln2, c7, c8⟩
          · refine y_nv ?_
            refine y_zne rfl rfl rfl (by decide) (fun g23 => absurd g23 (by decide)) (fun g23 => ?_)
            refine y_ld rfl rfl (fun d => rfl) ?_
            refine y_ret rfl (fun d => rfl) ?_
            rcases x18 with ea | ⟨la, ea, eb⟩
            · exact k2 r18 _ (Or.inl (by rw [show 8 - n = (8 - (n + 1)) + 1 by omega, pLs_s]; simp only [pL_3 q1 (pE_0 q4) q15 ea])) (h18.2.1) (by have := pAs_ok _ _ _ _ _ (by omega) (fun x hx => by cases hx) ea; omega) (CX_cl (CL_tr (CL_tr (CL_tr (CL_tr (CL_rf t n V) f1) (CL_3 ht)) (CL_cf ht f15)) (CL_ch ht f18)))
            · have hb : hr τ z r18 = 43 ∨ hr τ z r18 = 45 ∨ hr τ z r18 = 44 := eb
              have hlt := hr_le (τ := τ) (z := z) (p := r18) (by omega)
              refine k2 r18 _ (Or.inr ⟨_, (by rw [show 8 - n = (8 - (n + 1)) + 1 by omega, pLs_s]; simp only [pL_4 q1 (pE_0 q4) q15 ea]; exact if_neg (by omega)), by omega⟩) (h18.2.1) (by omega) (CX_cl (CL_tr (CL_tr (CL_tr (CL_tr (CL_rf t n V) f1) (CL_3 ht)) (CL_cf ht f15)) (CL_ch ht f18)))
        · refine y_nv ?_
          refine y_zeq rfl rfl rfl (by decide) (fun g24 => ?_) (fun g24 => absurd g24 (by decide))
          refine y_ld rfl rfl (fun d => rfl) ?_
          refine y_ret rfl (fun d => rfl) ?_
          exact k2 (p + 1) _ (Or.inl (by rw [show 8 - n = (8 - (n + 1)) + 1 by omega, pLs_s]; simp only [(pL_2 q1 (pE_0 q4) q16)])) ((CP_3 ht h1).2.1) (by omega) (CX_cl (CL_tr (CL_tr (CL_rf t n V) f1) (CL_3 ht)))
    · refine y_nv ?_
      refine y_zne rfl rfl rfl (by decide) (fun g25 => absurd g25 (by decide)) (fun g25 => ?_)
      refine y_ld rfl rfl (fun d => rfl) ?_
      refine y_ret rfl (fun d => rfl) ?_
      exact k2 p _ (Or.inl (by rw [show 8 - n = (8 - (n + 1)) + 1 by omega, pLs_s]; simp only [(pL_0 q2)])) (h.2.1) (by omega) (CX_cl (CL_rf t n V))
end
