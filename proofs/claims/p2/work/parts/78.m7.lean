section
variable {X : Nat → List Int32} {u w : Nat} {S : m_H} {V : v_V} {K : v_K}
set_option maxRecDepth 100000 in
set_option maxHeartbeats 4000000 in
theorem ct_actHere (hM : MdS S) {a z p : Nat} {τ : Nat → Int} {o : Int} {ln : Int} {st0 : List Int} {g0 : Nat → Int} (hT : Tp τ a z) (hln : 0 ≤ ln ∧ ln ≤ 8) (hg0 : ∀ c, c < 8 → 0 ≤ g0 c ∧ g0 c ≤ 10) (hp : p ≤ z) (hl : st0.length ≤ p + 2) (h : MP V a z τ p 0 o ln st0 g0) (k1 : ∀ x q V', pA τ z p = (some x, q) → MP V' a z τ q 0 o ln (st0 ++ encA [x]) (mkA ln g0 [x]) → MF a V V' → V' 176 = V 176 → K u w none S V') (k2 : ∀ q V' st' g', pA τ z p = (none, q) → MP V' a z τ q 1 o ln st' g' → MF a V V' → V' 176 = V 176 → K u w none S V') : y_R X 5 122 u w [.ref 170] S V K := by
  have hz := hT.2.1
  refine y_ent (lv' := [(0, .ref 170)]) (Nat.le_of_ble_eq_true rfl) rfl ?_
  refine y_ld (x := .ref 170) rfl rfl (fun d => rfl) ?_
  refine y_cV (as := [.ref 170]) rfl rfl rfl rfl rfl (md170 hM) ⟨rfl, (Nat.le_of_ble_eq_true rfl), (Nat.le_of_ble_eq_true rfl)⟩ (by decide) (ct_here hM h (by omega) ?_)
  have hq1 := hr_rg hT (p)
  refine y_nv ?_
  refine y_st (lv' := [(1, iv (hr τ z p)), (0, .ref 170)]) rfl rfl (fun d => rfl) ?_
  refine y_ld (x := iv (hr τ z p)) rfl rfl (fun d => rfl) ?_
  refine y_bi rfl rfl (by decide) ?_
  refine y_jeq rfl rfl rfl (by omega) (fun g1 => ?_) (fun g1 => ?_)
  · refine y_ld (x := .ref 170) rfl rfl (fun d => rfl) ?_
    refine y_in rfl rfl (fun d => rfl) ?_
    refine y_gI (i := 10) (e := (p : Int)) rfl rfl rfl (md170 hM) rfl h.2.1 ?_
    refine y_ic rfl rfl ?_
    refine y_add (z := ((p : Int) + 1)) rfl rfl rfl ?_
    refine y_pI (i := 10) rfl rfl rfl (md170 hM) rfl rfl ?_
    have pl0 := hr_le (τ := τ) (z := z) (p := p) (by omega)
    refine y_ld (x := .ref 170) rfl rfl (fun d => rfl) ?_
    refine y_si rfl rfl (by decide) ?_
    refine y_ld (x := iv (hr τ z p)) rfl rfl (fun d => rfl) ?_
    refine y_bi rfl rfl (by decide) ?_
    refine y_jne rfl rfl rfl (by omega) (fun g2 => absurd g2 (by omega)) (fun g2 => ?_)
    refine y_ic rfl rfl ?_
    refine y_go rfl rfl ?_
    refine y_add (z := 5001) rfl rfl rfl ?_
    refine y_cV (as := [.ref 170, iv 5001]) rfl rfl rfl rfl rfl (md170 hM) ⟨rfl, (Nat.le_of_ble_eq_true rfl), (Nat.le_of_ble_eq_true rfl)⟩ (by decide) (ct_emits hM (MP_f (p' := (p + 1)) (wr' := 0) (o' := o) (ln' := ln) h ⟨rfl, rfl, rfl, rfl, rfl, rfl⟩ rfl h.2.2.2.1 h.2.2.2.2.1 h.2.2.2.2.2.1) hT.1 (by first | omega | (simp [encT_len]; omega)) (fun V1 h1 f1 e1 => ?_))
    refine y_n0 ?_
    refine y_ret rfl (fun d => rfl) ?_
    exact k1 (126, []) _ _ (by unfold pA; rw [if_pos g1]) h1 (MF_tr (MF_u0 (by decide) (MF_rf a V)) f1) (e1.trans rfl)
  · refine y_ld (x := iv (hr τ z p)) rfl rfl (fun d => rfl) ?_
    refine y_bi rfl rfl (by decide) ?_
    refine y_jeq rfl rfl rfl (by omega) (fun g3 => ?_) (fun g3 => ?_)
    · refine y_ld (x := .ref 170) rfl rfl (fun d => rfl) ?_
      refine y_in rfl rfl (fun d => rfl) ?_
      refine y_gI (i := 10) (e := (p : Int)) rfl rfl rfl (md170 hM) rfl h.2.1 ?_
      refine y_ic rfl rfl ?_
      refine y_add (z := ((p : Int) + 1)) rfl rfl rfl ?_
      refine y_pI (i := 10) rfl rfl rfl (md170 hM) rfl rfl ?_
      have pl0 := hr_le (τ := τ) (z := z) (p := p) (by omega)
      refine y_ld (x := .ref 170) rfl rfl (fun d => rfl) ?_
      refine y_si rfl rfl (by decide) ?_
      refine y_ld (x := iv (hr τ z p)) rfl rfl (fun d => rfl) ?_
      refine y_bi rfl rfl (by decide) ?_
      refine y_jne rfl rfl rfl (by omega) (fun g4 => ?_) (fun g4 => absurd g4 (by omega))
      refine y_ld (x := iv (hr τ z p)) rfl rfl (fun d => rfl) ?_
      refine y_bi rfl rfl (by decide) ?_
      refine y_jne rfl rfl rfl (by omega) (fun g5 => absurd g5 (by omega)) (fun g5 => ?_)
      refine y_ic rfl rfl ?_
      refine y_go rfl rfl ?_
      refine y_add (z := 5000) rfl rfl rfl ?_
      refine y_cV (as := [.ref 170, iv 5000]) rfl rfl rfl rfl rfl (md170 hM) ⟨rfl, (Nat.le_of_ble_eq_true rfl), (Nat.le_of_ble_eq_true rfl)⟩ (by decide) (ct_emits hM (MP_f (p' := (p + 1)) (wr' := 0) (o' := o) (ln' := ln) h ⟨rfl, rfl, rfl, rfl, rfl, rfl⟩ rfl h.2.2.2.1 h.2.2.2.2.1 h.2.2.2.2.2.1) hT.1 (by first | omega | (simp [encT_len]; omega)) (fun V2 h2 f2 e2 => ?_))
      refine y_n0 ?_
      refine y_ret rfl (fun d => rfl) ?_
      exact k1 (127, []) _ _ (by unfold pA; rw [if_neg g1, if_pos g3]) h2 (MF_tr (MF_u0 (by decide) (MF_rf a V)) f2) (e2.trans rfl)
    · refine y_ld (x := iv (hr τ z p)) rfl rfl (fun d => rfl) ?_
      refine y_bi rfl rfl (by decide) ?_
      refine y_jne rfl rfl rfl (by omega) (fun g6 => ?_) (fun g6 => ?_)
      · refine y_ld (x := iv (hr τ z p)) rfl rfl (fun d => rfl) ?_
        refine y_bi rfl rfl (by decide) ?_
        refine y_jeq rfl rfl rfl (by omega) (fun g7 => ?_) (fun g7 => ?_)
        · refine y_ld (x := .ref 170) rfl rfl (fun d => rfl) ?_
          refine y_cV (as := [.ref 170]) rfl rfl rfl rfl rfl (md170 hM) ⟨rfl, (Nat.le_of_ble_eq_true rfl), (Nat.le_of_ble_eq_true rfl)⟩ (by decide) (ct_cellHere hM hT (by omega) h (by omega) (hr_le (τ := τ) (z := z) (p := p) (by omega)) (fun V3 q4 h3 f3 e3 => ?_) (fun V5 x7 q6 h5 f5 e5 b8 => ?_))
          · have pl9 := pT_le τ z p (by omega)
            have mr10 := mcd_rg (pT_cd τ z p q4)
            refine y_nv ?_
            refine y_st (lv' := [(2, iv (mcd (pT τ z p).1)), (1, iv (hr τ z p)), (0, .ref 170)]) rfl rfl (fun d => rfl) ?_
            refine y_ld (x := .ref 170) rfl rfl (fun d => rfl) ?_
            refine y_bi rfl rfl (by decide) ?_
            refine y_cV (as := [.ref 170, iv 61]) rfl rfl rfl rfl rfl (md170 hM) ⟨rfl, (Nat.le_of_ble_eq_true rfl), (Nat.le_of_ble_eq_true rfl)⟩ (by decide) (ct_mustA hM hT (by decide) h3 (by omega) (fun q12 V11 h11 f11 e11 => ?_) (fun q14 V13 h13 f13 e13 => ?_))
            · have pl15 := (hr_le (τ := τ) (z := z) (p := (pT τ z p).2) (by omega))
              refine y_n0 ?_
              refine y_ld (x := .ref 170) rfl rfl (fun d => rfl) ?_
              refine y_si rfl rfl (by decide) ?_
              refine y_ld (x := iv (mcd (pT τ z p).1)) rfl rfl (fun d => rfl) ?_
              refine y_add (z := (2000 + (mcd (pT τ z p).1))) rfl rfl rfl ?_
              refine y_cV (as := [.ref 170, iv (2000 + (mcd (pT τ z p).1))]) rfl rfl rfl rfl rfl (md170 hM) ⟨rfl, (Nat.le_of_ble_eq_true rfl), (Nat.le_of_ble_eq_true rfl)⟩ (by decide) (ct_emits hM h11 hT.1 (by first | omega | (simp [encT_len]; omega)) (fun V16 h16 f16 e16 => ?_))
              refine y_n0 ?_
              refine y_ld (x := .ref 170) rfl rfl (fun d => rfl) ?_
              refine y_ld (x := iv (mcd (pT τ z p).1)) rfl rfl (fun d => rfl) ?_
              refine y_cV (as := [.ref 170, iv (mcd (pT τ z p).1)]) rfl rfl rfl rfl rfl (md170 hM) ⟨rfl, (Nat.le_of_ble_eq_true rfl), (Nat.le_of_ble_eq_true rfl)⟩ (by decide) (ct_sum hM hT hln hg0 (pT_cd τ z p q4) (by omega) (by first | omega | (simp [encT_len]; omega)) h16 (fun l17 r17 V17 x17 h17 f17 e17 => ?_) (fun r18 V18 s18 g_18 x18 h18 f18 e18 => ?_))
              · have pm19 := pM_ok _ _ _ _ _ _ (by omega) (Or.inl rfl) (fun t ht => by cases ht) x17
                refine y_n0 ?_
                refine y_ret rfl (fun d => rfl) ?_
                refine k1 ((pT τ z p).1, l17) _ _ (by unfold pA; rw [if_neg g1, if_neg g3, if_neg (by omega), if_pos (by omega), if_neg (by omega), if_pos q12, x17]) ?_ (MF_tr (MF_tr (MF_tr (MF_tr (MF_rf a V) f3) f11) f16) f17) (e17.trans (e16.trans (e11.trans (e3.trans rfl))))
                have e0 : ¬ 126 ≤ (pT τ z p).1 := by have := tcd_le (pT_cd τ z p q4); omega
                have hh := h17
                rw [List.append_assoc] at hh
                unfold encA mkA
                rw [if_neg e0, if_neg e0]
                unfold encA mkA
                rw [List.append_nil]
                exact hh
              · have pm20 := pM_ok _ _ _ _ _ _ (by omega) (Or.inl rfl) (fun t ht => by cases ht) x18
                refine y_n0 ?_
                refine y_ret rfl (fun d => rfl) ?_
                exact k2 _ _ _ _ (by unfold pA; rw [if_neg g1, if_neg g3, if_neg (by omega), if_pos (by omega), if_neg (by omega), if_pos q12, x18]) h18 (MF_tr (MF_tr (MF_tr (MF_tr (MF_rf a V) f3) f11) f16) f18) (e18.trans (e16.trans (e11.trans (e3.trans rfl))))
            · refine y_n0 ?_
              refine y_ld (x := .ref 170) rfl rfl (fun d => rfl) ?_
              refine y_si rfl rfl (by decide) ?_
              refine y_ld (x := iv (mcd (pT τ z p).1)) rfl rfl (fun d => rfl) ?_
              refine y_add (z := (2000 + (mcd (pT τ z p).1))) rfl rfl rfl ?_
              refine y_cV (as := [.ref 170, iv (2000 + (mcd (pT τ z p).1))]) rfl rfl rfl rfl rfl (md170 hM) ⟨rfl, (Nat.le_of_ble_eq_true rfl), (Nat.le_of_ble_eq_true rfl)⟩ (by decide) (ct_emits1 hM h13 ?_)
              refine y_n0 ?_
              refine y_ld (x := .ref 170) rfl rfl (fun d => rfl) ?_
              refine y_ld (x := iv (mcd (pT τ z p).1)) rfl rfl (fun d => rfl) ?_
              refine y_cV (as := [.ref 170, iv (mcd (pT τ z p).1)]) rfl rfl rfl rfl rfl (md170 hM) ⟨rfl, (Nat.le_of_ble_eq_true rfl), (Nat.le_of_ble_eq_true rfl)⟩ (by decide) (ct_sum1 hM (by omega) h13 (by omega) (fun V21 h21 f21 e21 => ?_))
              refine y_n0 ?_
              refine y_ret rfl (fun d => rfl) ?_
              exact k2 _ _ _ _ (by unfold pA; rw [if_neg g1, if_neg g3, if_neg (by omega), if_pos (by omega), if_neg (by omega), if_neg q14]) h21 (MF_tr (MF_tr (MF_tr (MF_rf a V) f3) f13) f21) (e21.trans (e13.trans (e3.trans rfl)))
          · have pl9 := pT_le τ z p (by omega)
            refine y_nv ?_
            refine y_st (lv' := [(2, iv x7), (1, iv (hr τ z p)), (0, .ref 170)]) rfl rfl (fun d => rfl) ?_
            refine y_ld (x := .ref 170) rfl rfl (fun d => rfl) ?_
            refine y_bi rfl rfl (by decide) ?_
            refine y_cV (as := [.ref 170, iv 61]) rfl rfl rfl rfl rfl (md170 hM) ⟨rfl, (Nat.le_of_ble_eq_true rfl), (Nat.le_of_ble_eq_true rfl)⟩ (by decide) (ct_must1 hM h5 (fun V22 h22 f22 e22 => ?_))
            refine y_n0 ?_
            refine y_ld (x := .ref 170) rfl rfl (fun d => rfl) ?_
            refine y_si rfl rfl (by decide) ?_
            refine y_ld (x := iv x7) rfl rfl (fun d => rfl) ?_
            refine y_add (z := (2000 + x7)) rfl rfl rfl ?_
            refine y_cV (as := [.ref 170, iv (2000 + x7)]) rfl rfl rfl rfl rfl (md170 hM) ⟨rfl, (Nat.le_of_ble_eq_true rfl), (Nat.le_of_ble_eq_true rfl)⟩ (by decide) (ct_emits1 hM h22 ?_)
            refine y_n0 ?_
            refine y_ld (x := .ref 170) rfl rfl (fun d => rfl) ?_
            refine y_ld (x := iv x7) rfl rfl (fun d => rfl) ?_
            refine y_cV (as := [.ref 170, iv x7]) rfl rfl rfl rfl rfl (md170 hM) ⟨rfl, (Nat.le_of_ble_eq_true rfl), (Nat.le_of_ble_eq_true rfl)⟩ (by decide) (ct_sum1 hM (by omega) h22 (by omega) (fun V23 h23 f23 e23 => ?_))
            refine y_n0 ?_
            refine y_ret rfl (fun d => rfl) ?_
            exact k2 _ _ _ _ (by unfold pA; rw [if_neg g1, if_neg g3, if_neg (by omega), if_pos (by omega), if_pos q6]) h23 (MF_tr (MF_tr (MF_tr (MF_rf a V) f5) f22) f23) (e23.trans (e22.trans (e5.trans rfl)))
        · refine y_ld (x := iv (hr τ z p)) rfl rfl (fun d => rfl) ?_
          refine y_bi rfl rfl (by decide) ?_
          refine y_jeq rfl rfl rfl (by omega) (fun g8 => ?_) (fun g8 => ?_)
          · refine y_ld (x := .ref 170) rfl rfl (fun d => rfl) ?_
            refine y_cV (as := [.ref 170]) rfl rfl rfl rfl rfl (md170 hM) ⟨rfl, (Nat.le_of_ble_eq_true rfl), (Nat.le_of_ble_eq_true rfl)⟩ (by decide) (ct_cellHere hM hT (by omega) h (by omega) (hr_le (τ := τ) (z := z) (p := p) (by omega)) (fun V24 q25 h24 f24 e24 => ?_) (fun V26 x28 q27 h26 f26 e26 b29 => ?_))
            · have pl30 := pT_le τ z p (by omega)
              have mr31 := mcd_rg (pT_cd τ z p q25)
              refine y_nv ?_
              refine y_st (lv' := [(2, iv (mcd (pT τ z p).1)), (1, iv (hr τ z p)), (0, .ref 170)]) rfl rfl (fun d => rfl) ?_
              refine y_ld (x := .ref 170) rfl rfl (fun d => rfl) ?_
              refine y_bi rfl rfl (by decide) ?_
              refine y_cV (as := [.ref 170, iv 61]) rfl rfl rfl rfl rfl (md170 hM) ⟨rfl, (Nat.le_of_ble_eq_true rfl), (Nat.le_of_ble_eq_true rfl)⟩ (by decide) (ct_mustA hM hT (by decide) h24 (by omega) (fun q33 V32 h32 f32 e32 => ?_) (fun q35 V34 h34 f34 e34 => ?_))
              · have pl36 := (hr_le (τ := τ) (z := z) (p := (pT τ z p).2) (by omega))
                refine y_n0 ?_
                refine y_ld (x := .ref 170) rfl rfl (fun d => rfl) ?_
                refine y_si rfl rfl (by decide) ?_
                refine y_ld (x := iv (mcd (pT τ z p).1)) rfl rfl (fun d => rfl) ?_
                refine y_add (z := (2000 + (mcd (pT τ z p).1))) rfl rfl rfl ?_
                refine y_cV (as := [.ref 170, iv (2000 + (mcd (pT τ z p).1))]) rfl rfl rfl rfl rfl (md170 hM) ⟨rfl, (Nat.le_of_ble_eq_true rfl), (Nat.le_of_ble_eq_true rfl)⟩ (by decide) (ct_emits hM h32 hT.1 (by first | omega | (simp [encT_len]; omega)) (fun V37 h37 f37 e37 => ?_))
                refine y_n0 ?_
                refine y_ld (x := .ref 170) rfl rfl (fun d => rfl) ?_
                refine y_ld (x := iv (mcd (pT τ z p).1)) rfl rfl (fun d => rfl) ?_
                refine y_cV (as := [.ref 170, iv (mcd (pT τ z p).1)]) rfl rfl rfl rfl rfl (md170 hM) ⟨rfl, (Nat.le_of_ble_eq_true rfl), (Nat.le_of_ble_eq_true rfl)⟩ (by decide) (ct_sum hM hT hln hg0 (pT_cd τ z p q25) (by omega) (by first | omega | (simp [encT_len]; omega)) h37 (fun l38 r38 V38 x38 h38 f38 e38 => ?_) (fun r39 V39 s39 g_39 x39 h39 f39 e39 => ?_))
                · have pm40 := pM_ok _ _ _ _ _ _ (by omega) (Or.inl rfl) (fun t ht => by cases ht) x38
                  refine y_n0 ?_
                  refine y_ret rfl (fun d => rfl) ?_
                  refine k1 ((pT τ z p).1, l38) _ _ (by unfold pA; rw [if_neg g1, if_neg g3, if_neg (by omega), if_pos (by omega), if_neg (by omega), if_pos q33, x38]) ?_ (MF_tr (MF_tr (MF_tr (MF_tr (MF_rf a V) f24) f32) f37) f38) (e38.trans (e37.trans (e32.trans (e24.trans rfl))))
                  have e0 : ¬ 126 ≤ (pT τ z p).1 := by have := tcd_le (pT_cd τ z p q25); omega
                  have hh := h38
                  rw [List.append_assoc] at hh
                  unfold encA mkA
                  rw [if_neg e0, if_neg e0]
                  unfold encA mkA
                  rw [List.append_nil]
                  exact hh
                · have pm41 := pM_ok _ _ _ _ _ _ (by omega) (Or.inl rfl) (fun t ht => by cases ht) x39
                  refine y_n0 ?_
                  refine y_ret rfl (fun d => rfl) ?_
                  exact k2 _ _ _ _ (by unfold pA; rw [if_neg g1, if_neg g3, if_neg (by omega), if_pos (by omega), if_neg (by omega), if_pos q33, x39]) h39 (MF_tr (MF_tr (MF_tr (MF_tr (MF_rf a V) f24) f32) f37) f39) (e39.trans (e37.trans (e32.trans (e24.trans rfl))))
              · refine y_n0 ?_
                refine y_ld (x := .ref 170) rfl rfl (fun d => rfl) ?_
                refine y_si rfl rfl (by decide) ?_
                refine y_ld (x := iv (mcd (pT τ z p).1)) rfl rfl (fun d => rfl) ?_
                refine y_add (z := (2000 + (mcd (pT τ z p).1))) rfl rfl rfl ?_
                refine y_cV (as := [.ref 170, iv (2000 + (mcd (pT τ z p).1))]) rfl rfl rfl rfl rfl (md170 hM) ⟨rfl, (Nat.le_of_ble_eq_true rfl), (Nat.le_of_ble_eq_true rfl)⟩ (by decide) (ct_emits1 hM h34 ?_)
                refine y_n0 ?_
                refine y_ld (x := .ref 170) rfl rfl (fun d => rfl) ?_
                refine y_ld (x := iv (mcd (pT τ z p).1)) rfl rfl (fun d => rfl) ?_
                refine y_cV (as := [.ref 170, iv (mcd (pT τ z p).1)]) rfl rfl rfl rfl rfl (md170 hM) ⟨rfl, (Nat.le_of_ble_eq_true rfl), (Nat.le_of_ble_eq_true rfl)⟩ (by decide) (ct_sum1 hM (by omega) h34 (by omega) (fun V42 h42 f42 e42 => ?_))
                refine y_n0 ?_
                refine y_ret rfl (fun d => rfl) ?_
                exact k2 _ _ _ _ (by unfold pA; rw [if_neg g1, if_neg g3, if_neg (by omega), if_pos (by omega), if_neg (by omega), if_neg q35]) h42 (MF_tr (MF_tr (MF_tr (MF_rf a V) f24) f34) f42) (e42.trans (e34.trans (e24.trans rfl)))
            · have pl30 := pT_le τ z p (by omega)
              refine y_nv ?_
              refine y_st (lv' := [(2, iv x28), (1, iv (hr τ z p)), (0, .ref 170)]) rfl rfl (fun d => rfl) ?_
              refine y_ld (x := .ref 170) rfl rfl (fun d => rfl) ?_
              refine y_bi rfl rfl (by decide) ?_
              refine y_cV (as := [.ref 170, iv 61]) rfl rfl rfl rfl rfl (md170 hM) ⟨rfl, (Nat.le_of_ble_eq_true rfl), (Nat.le_of_ble_eq_true rfl)⟩ (by decide) (ct_must1 hM h26 (fun V43 h43 f43 e43 => ?_))
              refine y_n0 ?_
              refine y_ld (x := .ref 170) rfl rfl (fun d => rfl) ?_
              refine y_si rfl rfl (by decide) ?_
              refine y_ld (x := iv x28) rfl rfl (fun d => rfl) ?_
              refine y_add (z := (2000 + x28)) rfl rfl rfl ?_
              refine y_cV (as := [.ref 170, iv (2000 + x28)]) rfl rfl rfl rfl rfl (md170 hM) ⟨rfl, (Nat.le_of_ble_eq_true rfl), (Nat.le_of_ble_eq_true rfl)⟩ (by decide) (ct_emits1 hM h43 ?_)
              refine y_n0 ?_
              refine y_ld (x := .ref 170) rfl rfl (fun d => rfl) ?_
              refine y_ld (x := iv x28) rfl rfl (fun d => rfl) ?_
              refine y_cV (as := [.ref 170, iv x28]) rfl rfl rfl rfl rfl (md170 hM) ⟨rfl, (Nat.le_of_ble_eq_true rfl), (Nat.le_of_ble_eq_true rfl)⟩ (by decide) (ct_sum1 hM (by omega) h43 (by omega) (fun V44 h44 f44 e44 => ?_))
              refine y_n0 ?_
              refine y_ret rfl (fun d => rfl) ?_
              exact k2 _ _ _ _ (by unfold pA; rw [if_neg g1, if_neg g3, if_neg (by omega), if_pos (by omega), if_pos q27]) h44 (MF_tr (MF_tr (MF_tr (MF_rf a V) f26) f43) f44) (e44.trans (e43.trans (e26.trans rfl)))
          · refine y_ld (x := iv (hr τ z p)) rfl rfl (fun d => rfl) ?_
            refine y_bi rfl rfl (by decide) ?_
            refine y_jeq rfl rfl rfl (by omega) (fun g9 => ?_) (fun g9 => ?_)
            · refine y_ld (x := .ref 170) rfl rfl (fun d => rfl) ?_
              refine y_cV (as := [.ref 170]) rfl rfl rfl rfl rfl (md170 hM) ⟨rfl, (Nat.le_of_ble_eq_true rfl), (Nat.le_of_ble_eq_true rfl)⟩ (by decide) (ct_cellHere hM hT (by omega) h (by omega) (hr_le (τ := τ) (z := z) (p := p) (by omega)) (fun V45 q46 h45 f45 e45 => ?_) (fun V47 x49 q48 h47 f47 e47 b50 => ?_))
              · have pl51 := pT_le τ z p (by omega)
                have mr52 := mcd_rg (pT_cd τ z p q46)
                refine y_nv ?_
                refine y_st (lv' := [(2, iv (mcd (pT τ z p).1)), (1, iv (hr τ z p)), (0, .ref 170)]) rfl rfl (fun d => rfl) ?_
                refine y_ld (x := .ref 170) rfl rfl (fun d => rfl) ?_
                refine y_bi rfl rfl (by decide) ?_
                refine y_cV (as := [.ref 170, iv 61]) rfl rfl rfl rfl rfl (md170 hM) ⟨rfl, (Nat.le_of_ble_eq_true rfl), (Nat.le_of_ble_eq_true rfl)⟩ (by decide) (ct_mustA hM hT (by decide) h45 (by omega) (fun q54 V53 h53 f53 e53 => ?_) (fun q56 V55 h55 f55 e55 => ?_))
                · have pl57 := (hr_le (τ := τ) (z := z) (p := (pT τ z p).2) (by omega))
                  refine y_n0 ?_
                  refine y_ld (x := .ref 170) rfl rfl (fun d => rfl) ?_
                  refine y_si rfl rfl (by decide) ?_
                  refine y_ld (x := iv (mcd (pT τ z p).1)) rfl rfl (fun d => rfl) ?_
                  refine y_add (z := (2000 + (mcd (pT τ z p).1))) rfl rfl rfl ?_
                  refine y_cV (as := [.ref 170, iv (2000 + (mcd (pT τ z p).1))]) rfl rfl rfl rfl rfl (md170 hM) ⟨rfl, (Nat.le_of_ble_eq_true rfl), (Nat.le_of_ble_eq_true rfl)⟩ (by decide) (ct_emits hM h53 hT.1 (by first | omega | (simp [encT_len]; omega)) (fun V58 h58 f58 e58 => ?_))
                  refine y_n0 ?_
                  refine y_ld (x := .ref 170) rfl rfl (fun d => rfl) ?_
                  refine y_ld (x := iv (mcd (pT τ z p).1)) rfl rfl (fun d => rfl) ?_
                  refine y_cV (as := [.ref 170, iv (mcd (pT τ z p).1)]) rfl rfl rfl rfl rfl (md170 hM) ⟨rfl, (Nat.le_of_ble_eq_true rfl), (Nat.le_of_ble_eq_true rfl)⟩ (by decide) (ct_sum hM hT hln hg0 (pT_cd τ z p q46) (by omega) (by first | omega | (simp [encT_len]; omega)) h58 (fun l59 r59 V59 x59 h59 f59 e59 => ?_) (fun r60 V60 s60 g_60 x60 h60 f60 e60 => ?_))
                  · have pm61 := pM_ok _ _ _ _ _ _ (by omega) (Or.inl rfl) (fun t ht => by cases ht) x59
                    refine y_n0 ?_
                    refine y_ret rfl (fun d => rfl) ?_
                    refine k1 ((pT τ z p).1, l59) _ _ (by unfold pA; rw [if_neg g1, if_neg g3, if_neg (by omega), if_pos (by omega), if_neg (by omega), if_pos q54, x59]) ?_ (MF_tr (MF_tr (MF_tr (MF_tr (MF_rf a V) f45) f53) f58) f59) (e59.trans (e58.trans (e53.trans (e45.trans rfl))))
                    have e0 : ¬ 126 ≤ (pT τ z p).1 := by have := tcd_le (pT_cd τ z p q46); omega
                    have hh := h59
                    rw [List.append_assoc] at hh
                    unfold encA mkA
                    rw [if_neg e0, if_neg e0]
                    unfold encA mkA
                    rw [List.append_nil]
                    exact hh
                  · have pm62 := pM_ok _ _ _ _ _ _ (by omega) (Or.inl rfl) (fun t ht => by cases ht) x60
                    refine y_n0 ?_
                    refine y_ret rfl (fun d => rfl) ?_
                    exact k2 _ _ _ _ (by unfold pA; rw [if_neg g1, if_neg g3, if_neg (by omega), if_pos (by omega), if_neg (by omega), if_pos q54, x60]) h60 (MF_tr (MF_tr (MF_tr (MF_tr (MF_rf a V) f45) f53) f58) f60) (e60.trans (e58.trans (e53.trans (e45.trans rfl))))
                · refine y_n0 ?_
                  refine y_ld (x := .ref 170) rfl rfl (fun d => rfl) ?_
                  refine y_si rfl rfl (by decide) ?_
                  refine y_ld (x := iv (mcd (pT τ z p).1)) rfl rfl (fun d => rfl) ?_
                  refine y_add (z := (2000 + (mcd (pT τ z p).1))) rfl rfl rfl ?_
                  refine y_cV (as := [.ref 170, iv (2000 + (mcd (pT τ z p).1))]) rfl rfl rfl rfl rfl (md170 hM) ⟨rfl, (Nat.le_of_ble_eq_true rfl), (Nat.le_of_ble_eq_true rfl)⟩ (by decide) (ct_emits1 hM h55 ?_)
                  refine y_n0 ?_
                  refine y_ld (x := .ref 170) rfl rfl (fun d => rfl) ?_
                  refine y_ld (x := iv (mcd (pT τ z p).1)) rfl rfl (fun d => rfl) ?_
                  refine y_cV (as := [.ref 170, iv (mcd (pT τ z p).1)]) rfl rfl rfl rfl rfl (md170 hM) ⟨rfl, (Nat.le_of_ble_eq_true rfl), (Nat.le_of_ble_eq_true rfl)⟩ (by decide) (ct_sum1 hM (by omega) h55 (by omega) (fun V63 h63 f63 e63 => ?_))
                  refine y_n0 ?_
                  refine y_ret rfl (fun d => rfl) ?_
                  exact k2 _ _ _ _ (by unfold pA; rw [if_neg g1, if_neg g3, if_neg (by omega), if_pos (by omega), if_neg (by omega), if_neg q56]) h63 (MF_tr (MF_tr (MF_tr (MF_rf a V) f45) f55) f63) (e63.trans (e55.trans (e45.trans rfl)))
              · have pl51 := pT_le τ z p (by omega)
                refine y_nv ?_
                refine y_st (lv' := [(2, iv x49), (1, iv (hr τ z p)), (0, .ref 170)]) rfl rfl (fun d => rfl) ?_
                refine y_ld (x := .ref 170) rfl rfl (fun d => rfl) ?_
                refine y_bi rfl rfl (by decide) ?_
                refine y_cV (as := [.ref 170, iv 61]) rfl rfl rfl rfl rfl (md170 hM) ⟨rfl, (Nat.le_of_ble_eq_true rfl), (Nat.le_of_ble_eq_true rfl)⟩ (by decide) (ct_must1 hM h47 (fun V64 h64 f64 e64 => ?_))
                refine y_n0 ?_
                refine y_ld (x := .ref 170) rfl rfl (fun d => rfl) ?_
                refine y_si rfl rfl (by decide) ?_
                refine y_ld (x := iv x49) rfl rfl (fun d => rfl) ?_
                refine y_add (z := (2000 + x49)) rfl rfl rfl ?_
                refine y_cV (as := [.ref 170, iv (2000 + x49)]) rfl rfl rfl rfl rfl (md170 hM) ⟨rfl, (Nat.le_of_ble_eq_true rfl), (Nat.le_of_ble_eq_true rfl)⟩ (by decide) (ct_emits1 hM h64 ?_)
                refine y_n0 ?_
                refine y_ld (x := .ref 170) rfl rfl (fun d => rfl) ?_
                refine y_ld (x := iv x49) rfl rfl (fun d => rfl) ?_
                refine y_cV (as := [.ref 170, iv x49]) rfl rfl rfl rfl rfl (md170 hM) ⟨rfl, (Nat.le_of_ble_eq_true rfl), (Nat.le_of_ble_eq_true rfl)⟩ (by decide) (ct_sum1 hM (by omega) h64 (by omega) (fun V65 h65 f65 e65 => ?_))
                refine y_n0 ?_
                refine y_ret rfl (fun d => rfl) ?_
                exact k2 _ _ _ _ (by unfold pA; rw [if_neg g1, if_neg g3, if_neg (by omega), if_pos (by omega), if_pos q48]) h65 (MF_tr (MF_tr (MF_tr (MF_rf a V) f47) f64) f65) (e65.trans (e64.trans (e47.trans rfl)))
            · refine y_ld (x := .ref 170) rfl rfl (fun d => rfl) ?_
              refine y_ic rfl rfl ?_
              refine y_pZ (i := 12) rfl rfl rfl (md170 hM) rfl rfl (by decide) ?_
              refine y_ret rfl (fun d => rfl) ?_
              exact k2 _ _ _ _ (by unfold pA; rw [if_neg g1, if_neg g3, if_neg (by omega), if_neg (by omega)]) (MP_f (p' := p) (wr' := 1) (o' := o) (ln' := ln) h ⟨rfl, rfl, rfl, rfl, rfl, rfl⟩ h.2.1 rfl h.2.2.2.2.1 h.2.2.2.2.2.1) (MF_u0 (by decide) (MF_rf a V)) rfl
      · refine y_ld (x := .ref 170) rfl rfl (fun d => rfl) ?_
        refine y_in rfl rfl (fun d => rfl) ?_
        refine y_gI (i := 10) (e := (p : Int)) rfl rfl rfl (md170 hM) rfl h.2.1 ?_
        refine y_ic rfl rfl ?_
        refine y_add (z := ((p : Int) + 1)) rfl rfl rfl ?_
        refine y_pI (i := 10) rfl rfl rfl (md170 hM) rfl rfl ?_
        have pl0 := hr_le (τ := τ) (z := z) (p := p) (by omega)
        refine y_ld (x := .ref 170) rfl rfl (fun d => rfl) ?_
        refine y_si rfl rfl (by decide) ?_
        refine y_ld (x := iv (hr τ z p)) rfl rfl (fun d => rfl) ?_
        refine y_bi rfl rfl (by decide) ?_
        refine y_jne rfl rfl rfl (by omega) (fun g10 => ?_) (fun g10 => absurd g10 (by omega))
        refine y_ld (x := iv (hr τ z p)) rfl rfl (fun d => rfl) ?_
        refine y_bi rfl rfl (by decide) ?_
        refine y_jne rfl rfl rfl (by omega) (fun g11 => ?_) (fun g11 => absurd g11 (by omega))
        refine y_ic rfl rfl ?_
        refine y_add (z := 5002) rfl rfl rfl ?_
        refine y_cV (as := [.ref 170, iv 5002]) rfl rfl rfl rfl rfl (md170 hM) ⟨rfl, (Nat.le_of_ble_eq_true rfl), (Nat.le_of_ble_eq_true rfl)⟩ (by decide) (ct_emits hM (MP_f (p' := (p + 1)) (wr' := 0) (o' := o) (ln' := ln) h ⟨rfl, rfl, rfl, rfl, rfl, rfl⟩ rfl h.2.2.2.1 h.2.2.2.2.1 h.2.2.2.2.2.1) hT.1 (by first | omega | (simp [encT_len]; omega)) (fun V66 h66 f66 e66 => ?_))
        refine y_n0 ?_
        refine y_ret rfl (fun d => rfl) ?_
        exact k1 (128, []) _ _ (by unfold pA; rw [if_neg g1, if_neg g3, if_pos (by omega)]) h66 (MF_tr (MF_u0 (by decide) (MF_rf a V)) f66) (e66.trans rfl)
/-- ACTS that a reading makes -/
def acO (l : List p_Ac) : Prop := ∀ x ∈ l, (126 ≤ x.1 ∧ x.1 ≤ 128 ∧ x.2 = []) ∨ (104 ≤ x.1 ∧ x.1 ≤ 115 ∧ smO x.2 ∧ 1 ≤ x.2.length ∧ x.2.length ≤ 4)
theorem pA_ok {τ : Nat → Int} {z p q : Nat} {r : Option p_Ac} (hp : p ≤ z) (h : pA τ z p = (r, q)) : p ≤ q ∧ q ≤ z ∧ ∀ x, r = some x → (encA [x]).length + p ≤ q ∧ acO [x] := by
  have h0 : hr τ z p ≠ -1 → p < z := hr_le
  have h1 := pT_le τ z p hp
  have h2 : hr τ z (pT τ z p).2 ≠ -1 → (pT τ z p).2 < z := hr_le
  have c1 := pT_cd τ z p
  have e1 : ∀ x : p_Ac, 126 ≤ x.1 ∧ x.1 ≤ 128 ∧ x.2 = [] → (encA [x]).length = 1 ∧ acO [x] := by
    intro x hx
    obtain ⟨c, l⟩ := x
    refine ⟨?_, fun y hy => ?_⟩
    · unfold encA
      rw [if_pos hx.1]
      rfl
    · rw [List.mem_singleton.mp hy]
      exact Or.inl hx
  unfold pA at h
  split at h
  · cases h
    have := h0 (by omega)
    exact ⟨by omega, by omega, fun x e => by cases e; have := e1 (126, []) (by decide); exact ⟨by omega, this.2⟩⟩
  split at h
  · cases h
    have := h0 (by omega)
    exact ⟨by omega, by omega, fun x e => by cases e; have := e1 (127, []) (by decide); exact ⟨by omega, this.2⟩⟩
  split at h
  · cases h
    have := h0 (by omega)
    exact ⟨by omega, by omega, fun x e => by cases e; have := e1 (128, []) (by decide); exact ⟨by omega, this.2⟩⟩
  split at h
  · rename_i hc
    split at h
    · cases h
      exact ⟨h1.1, h1.2.1, fun x e => by cases e⟩
    · have h3 := pT_cell hc (by omega)
      split at h
      · have h4 := h2 (by omega)
        split at h
        · rename_i l1 q1 ee
          have kk := pM_ok _ _ _ _ _ _ (by omega) (Or.inl rfl) (fun t ht => by cases ht) ee
          cases h
          refine ⟨by omega, kk.2.1, fun x e => ?_⟩
          cases e
          have k3 := kk.2.2 l1 rfl
          have k4 := k3.1
          have k5 := k3.2.2.1
          have k6 := k3.2.2.2 (by decide)
          simp only [List.length_nil] at k4 k5 k6
          refine ⟨?_, fun y hy => ?_⟩
          · unfold encA
            rw [if_neg (by omega)]
            unfold encA
            simp only [List.append_nil, List.length_cons, List.length_map]
            omega
          · rw [List.mem_singleton.mp hy]
            exact Or.inr ⟨h3.1, h3.2, k3.2.1, (show 1 ≤ l1.length by omega), (show l1.length ≤ 4 by omega)⟩
        · rename_i q1 ee
          have kk := pM_ok _ _ _ _ _ _ (by omega) (Or.inl rfl) (fun t ht => by cases ht) ee
          cases h
          exact ⟨by omega, kk.2.1, fun x e => by cases e⟩
      · cases h
        exact ⟨h1.1, h1.2.1, fun x e => by cases e⟩
  · cases h
    exact ⟨Nat.le_refl _, hp, fun x e => by cases e⟩
theorem acO_app {l r : List p_Ac} (h1 : acO l) (h2 : acO r) : acO (l ++ r) := by
  intro x hx
  rcases List.mem_append.mp hx with h | h
  · exact h1 x h
  · exact h2 x h
theorem mkA_bd {ln : Int} (hln : 0 ≤ ln ∧ ln ≤ 8) : ∀ (l : List p_Ac) (g : Nat → Int), acO l → (∀ c, c < 8 → 0 ≤ g c ∧ g c ≤ 10) → ∀ c, c < 8 → 0 ≤ mkA ln g l c ∧ mkA ln g l c ≤ 10
  | [], g, _, hg => hg
  | (c, l) :: r, g, ha, hg => by
    unfold mkA
    refine mkA_bd hln r _ (fun x hx => ha x (List.mem_cons_of_mem _ hx)) ?_
    split
    · exact hg
    · rcases ha (c, l) List.mem_cons_self with h | h
      · simp only at h; omega
      · exact mkS_bd hln h.2.1 l true g h.2.2.1 hg
theorem pAs_ok {τ : Nat → Int} {z : Nat} : ∀ (k p : Nat) (acc : List p_Ac) (r : Option (List p_Ac)) (q : Nat), p ≤ z → acO acc → pAs τ z k p acc = (r, q) → p ≤ q ∧ q ≤ z ∧ ∀ l, r = some l → (encA l).length + p ≤ (encA acc).length + q ∧ acO l ∧ l.length ≤ acc.length + k
  | 0, p, acc, r, q, hp, ha, h => by
    unfold pAs at h
    cases h
    exact ⟨Nat.le_refl _, hp, fun l e => by cases e; exact ⟨by omega, ha, by omega⟩⟩
  | k + 1, p, acc, r, q, hp, ha, h => by
    unfold pAs at h
    split at h
    · rename_i x q1 ee
      have k1 := pA_ok hp ee
      have k2 := k1.2.2 x rfl
      have h0 : hr τ z q1 ≠ -1 → q1 < z := hr_le
      split at h
      · have := h0 (by omega)
        have kk := pAs_ok k (q1 + 1) (acc ++ [x]) r q (by omega) (acO_app ha k2.2) h
        refine ⟨by omega, kk.2.1, fun l e => ?_⟩
        have k3 := kk.2.2 l e
        have k4 := k3.1
        have k5 := k3.2.2
        rw [encA_app, List.length_append] at k4
        simp only [List.length_append, List.length_cons, List.length_nil] at k5
        exact ⟨by omega, k3.2.1, by omega⟩
      · cases h
        refine ⟨by omega, k1.2.1, fun l e => ?_⟩
        cases e
        rw [encA_app, List.length_append]
        simp only [List.length_append, List.length_cons, List.length_nil]
        exact ⟨by omega, acO_app ha k2.2, by omega⟩
    · rename_i q1 ee
      have k1 := pA_ok hp ee
      cases h
      exact ⟨k1.1, k1.2.1, fun l e => by cases e⟩
end
