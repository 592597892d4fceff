section
section
variable {X : Nat → List Int32} {u w : Nat} {S : m_H} {V : v_V} {K : v_K}
set_option maxRecDepth 100000 in
set_option maxHeartbeats 4000000 in
theorem ct_actHere (hM : MdS S) {a z p : Nat} {τ : Nat → Int} {o : Int} {ln : Int} {st0 : List Int} {g0 : Nat → Int} (hT : Tp τ a z) (hln : 0 ≤ ln ∧ ln ≤ 8) (hg0 : ∀ c, c < 8 → 0 ≤ g0 c ∧ g0 c ≤ 10) (hp : p ≤ z) (hl : st0.length ≤ p + 2) (h : MP V a z τ p 0 o ln st0 g0) (k1 : ∀ x q V', pA τ z p = (some x, q) → MP V' a z τ q 0 o ln (st0 ++ encA [x]) (mkA ln g0 [x]) → MF a V V' → V' 176 = V 176 → K u w none S V') (k2 : ∀ q V' st' g', pA τ z p = (none, q) → MP V' a z τ q 1 o ln st' g' → MF a V V' → V' 176 = V 176 → K u w none S V') : y_R X 5 122 u w [.ref 170] S V K := by
  have hz := hT.2.1
  refine y_ent (lv' := [(0, .ref 170)]) (Nat.le_of_ble_eq_true rfl) rfl ?_
  refine y_ld (x := .ref 170) rfl rfl (fun d => rfl) ?_
  refine y_cV (as := [.ref 170]) rfl rfl rfl rfl rfl (md170 hM) ⟨rfl, (Nat.le_of_ble_eq_true rfl), (Nat.le_of_ble_eq_true rfl)⟩ (by decide) (ct_here hM h (by omega) ?_)
  have hq1 := hr_rg hT (p)
  refine y_nv ?_
  refine y_st (lv' := [(1, iv (hr τ z p)), (0, .ref 170)]) rfl rfl (fun d => rfl) ?_
  refine y_ld (x := iv (hr τ z p)) rfl rfl (fun d => rfl) ?_
  refine y_bi rfl rfl (by decide) ?_
  refine y_jeq rfl rfl rfl (by omega) (fun g1 => ?_) (fun g1 => ?_)
  · refine y_ld (x := .ref 170) rfl rfl (fun d => rfl) ?_
    refine y_in rfl rfl (fun d => rfl) ?_
    refine y_gI (i := 10) (e := (p : Int)) rfl rfl rfl (md170 hM) rfl h.2.1 ?_
    refine y_ic rfl rfl ?_
    refine y_add (z := ((p : Int) + 1)) rfl rfl rfl ?_
    refine y_pI (i := 10) rfl rfl rfl (md170 hM) rfl rfl ?_
    have pl0 := hr_le (τ := τ) (z := z) (p := p) (by omega)
    refine y_ld (x := .ref 170) rfl rfl (fun d => rfl) ?_
    refine y_si rfl rfl (by decide) ?_
    refine y_ld (x := iv (hr τ z p)) rfl rfl (fun d => rfl) ?_
    refine y_bi rfl rfl (by decide) ?_
    refine y_jne rfl rfl rfl (by omega) (fun g2 => absurd g2 (by omega)) (fun g2 => ?_)
    refine y_ic rfl rfl ?_
    refine y_go rfl rfl ?_
    refine y_add (z := 5001) rfl rfl rfl ?_
    refine y_cV (as := [.ref 170, iv 5001]) rfl rfl rfl rfl rfl (md170 hM) ⟨rfl, (Nat.le_of_ble_eq_true rfl), (Nat.le_of_ble_eq_true rfl)⟩ (by decide) (ct_emits hM (MP_f (p' := (p + 1)) (wr' := 0) (o' := o) (ln' := ln) h ⟨rfl, rfl, rfl, rfl, rfl, rfl⟩ rfl h.2.2.2.1 h.2.2.2.2.1 h.2.2.2.2.2.1) hT.1 (by first | omega | (simp [encT_len]; omega)) (fun V1 h1 f1 e1 => ?_))
    refine y_n0 ?_
    refine y_ret rfl (fun d => rfl) ?_
    exact k1 (126, []) _ _ (by unfold pA; rw [if_pos g1]) h1 (MF_tr (MF_u0 (by decide) (MF_rf a V)) f1) (e1.trans rfl)
  · refine y_ld (x := iv (hr τ z p)) rfl rfl (fun d => rfl) ?_
    refine y_bi rfl rfl (by decide) ?_
    refine y_jeq rfl rfl rfl (by omega) (fun g3 => ?_) (fun g3 => ?_)
    · refine y_ld (x := .ref 170) rfl rfl (fun d => rfl) ?_
      refine y_in rfl rfl (fun d => rfl) ?_
      refine y_gI (i := 10) (e := (p : Int)) rfl rfl rfl (md170 hM) rfl h.2.1 ?_
      refine y_ic rfl rfl ?_
      refine y_add (z := ((p : Int) + 1)) rfl rfl rfl ?_
      refine y_pI (i := 10) rfl rfl rfl (md170 hM) rfl rfl ?_
      have pl0 := hr_le (τ := τ) (z := z) (p := p) (by omega)
      refine y_ld (x := .ref 170) rfl rfl (fun d => rfl) ?_
      refine y_si rfl rfl (by decide) ?_
      refine y_ld (x := iv (hr τ z p)) rfl rfl (fun d => rfl) ?_
      refine y_bi rfl rfl (by decide) ?_
      refine y_jne rfl rfl rfl (by omega) (fun g4 => ?_) (fun g4 => absurd g4 (by omega))
      refine y_ld (x := iv (hr τ z p)) rfl rfl (fun d => rfl) ?_
      refine y_bi rfl rfl (by decide) ?_
      refine y_jne rfl rfl rfl (by omega) (fun g5 => absurd g5 (by omega)) (fun g5 => ?_)
      refine y_ic rfl rfl ?_
      refine y_go rfl rfl ?_
      refine y_add (z := 5000) rfl rfl rfl ?_
      refine y_cV (as := [.ref 170, iv 5000]) rfl rfl rfl rfl rfl (md170 hM) ⟨rfl, (Nat.le_of_ble_eq_true rfl), (Nat.le_of_ble_eq_true rfl)⟩ (by decide) (ct_emits hM (MP_f (p' := (p + 1)) (wr' := 0) (o' := o) (ln' := ln) h ⟨rfl, rfl, rfl, rfl, rfl, rfl⟩ rfl h.2.2.2.1 h.2.2.2.2.1 h.2.2.2.2.2.1) hT.1 (by first | omega | (simp [encT_len]; omega)) (fun V2 h2 f2 e2 => ?_))
      refine y_n0 ?_
      refine y_ret rfl (fun d => rfl) ?_
      exact k1 (127, []) _ _ (by unfold pA; rw [if_neg g1, if_pos g3]) h2 (MF_tr (MF_u0 (by decide) (MF_rf a V)) f2) (e2.trans rfl)
    · refine y_ld (x := iv (hr τ z p)) rfl rfl (fun d => rfl) ?_
      refine y_bi rfl rfl (by decide) ?_
      refine y_jne rfl rfl rfl (by omega) (fun g6 => ?_) (fun g6 => ?_)
      · refine y_ld (x := iv (hr τ z p)) rfl rfl (fun d => rfl) ?_
        refine y_bi rfl rfl (by decide) ?_
        refine y_jeq rfl rfl rfl (by omega) (fun g7 => ?_) (fun g7 => ?_)
        · refine y_ld (x := .ref 170) rfl rfl (fun d => rfl) ?_
          refine y_cV (as := [.ref 170]) rfl rfl rfl rfl rfl (md170 hM) ⟨rfl, (Nat.le_of_ble_eq_true rfl), (Nat.le_of_ble_eq_true rfl)⟩ (by decide) (ct_cellHere hM hT (by omega) h (by omega) (hr_le (τ := τ) (z := z) (p := p) (by omega)) (fun V3 q4 h3 f3 e3 => ?_) (fun V5 x7 q6 h5 f5 e5 b8 => ?_))
          · have pl9 := pT_le τ z p (by omega)
            have mr10 := mcd_rg (pT_cd τ z p q4)
            refine y_nv ?_
            refine y_st (lv' := [(2, iv (mcd (pT τ z p).1)), (1, iv (hr τ z p)), (0, .ref 170)]) rfl rfl (fun d => rfl) ?_
            refine y_ld (x := .ref 170) rfl rfl (fun d => rfl) ?_
            refine y_bi rfl rfl (by decide) ?_
            refine y_cV (as := [.ref 170, iv 61]) rfl rfl rfl rfl rfl (md170 hM) ⟨rfl, (Nat.le_of_ble_eq_true rfl), (Nat.le_of_ble_eq_true rfl)⟩ (by decide) (ct_mustA hM hT (by decide) h3 (by omega) (fun q12 V11 h11 f11 e11 => ?_) (fun q14 V13 h13 f13 e13 => ?_))
            · have pl15 := (hr_le (τ := τ) (z := z) (p := (pT τ z p).2) (by omega))
              refine y_n0 ?_
              refine y_ld (x := .ref 170) rfl rfl (fun d => rfl) ?_
              refine y_si rfl rfl (by decide) ?_
              refine y_ld (x := iv (mcd (pT τ z p).1)) rfl rfl (fun d => rfl) ?_
              refine y_add (z := (2000 + (mcd (pT τ z p).1))) rfl rfl rfl ?_
              refine y_cV (as := [.ref 170, iv (2000 + (mcd (pT τ z p).1))]) rfl rfl rfl rfl rfl (md170 hM) ⟨rfl, (Nat.le_of_ble_eq_true rfl), (Nat.le_of_ble_eq_true rfl)⟩ (by decide) (ct_emits hM h11 hT.1 (by first | omega | (simp [encT_len]; omega)) (fun V16 h16 f16 e16 => ?_))
              refine y_n0 ?_
              refine y_ld (x := .ref 170) rfl rfl (fun d => rfl) ?_
              refine y_ld (x := iv (mcd (pT τ z p).1)) rfl rfl (fun d => rfl) ?_
              refine y_cV (as := [.ref 170, iv (mcd (pT τ z p).1)]) rfl rfl rfl rfl rfl (md170 hM) ⟨rfl, (Nat.le_of_ble_eq_true rfl), (Nat.le_of_ble_eq_true rfl)⟩ (by decide) (ct_sum hM hT hln hg0 (pT_cd τ z p q4) (by omega) (by first | omega | (simp [encT_len]; omega)) h16 (fun l17 r17 V17 x17 h17 f17 e17 => ?_) (fun r18 V18 s18 g_18 x18 h18 f18 e18 => ?_))
              · have pm19 := pM_ok _ _ _ _ _ _ (by omega) (Or.inl rfl) (fun t ht => by cases ht) x17
                refine y_n0 ?_
                refine y_ret rfl (fun d => rfl) ?_
                refine k1 ((pT τ z p).1, l17) _ _ (by unfold pA; rw [if_neg g1, if_neg g3, if_neg (by omega), if_pos (by omega), if_neg (by omega), if_pos q12, x17]) ?_ (MF_tr (MF_tr (MF_tr (MF_tr (MF_rf a V) f3) f11) f16) f17) (e17.trans (e16.trans (e11.trans (e3.trans rfl))))
                have e0 : ¬ 126 ≤ (pT τ z p).1 := by have := tcd_le (pT_cd τ z p q4); omega
                have hh := h17
                rw [List.append_assoc] at hh
                unfold encA mkA
                rw [if_neg e0, if_neg e0]
                unfold encA mkA
                rw [List.append_nil]
                exact hh
              · have pm20 := pM_ok _ _ _ _ _ _ (by omega) (Or.inl rfl) (fun t ht => by cases ht) x18
                refine y_n0 ?_
                refine y_ret rfl (fun d => rfl) ?_
                exact k2 _ _ _ _ (by unfold pA; rw [if_neg g1, if_neg g3, if_neg (by omega), if_pos (by omega), if_neg (by omega), if_pos q12, x18]) h18 (MF_tr (MF_tr (MF_tr (MF_tr (MF_rf a V) f3) f11) f16) f18) (e18.trans (e16.trans (e11.trans (e3.trans rfl))))
            · refine y_n0 ?_
              refine y_ld (x := .ref 170) rfl rfl (fun d => rfl) ?_
              refine y_si rfl rfl (by decide) ?_
              refine y_ld (x := iv (mcd (pT τ z p).1)) rfl rfl (fun d => rfl) ?_
              refine y_add (z := (2000 + (mcd (pT τ z p).1))) rfl rfl rfl ?_
              refine y_cV (as := [.ref 170, iv (2000 + (mcd (pT τ z p).1))]) rfl rfl rfl rfl rfl (md170 hM) ⟨rfl, (Nat.le_of_ble_eq_true rfl), (Nat.le_of_ble_eq_true rfl)⟩ (by decide) (ct_emits1 hM h13 ?_)
              refine y_n0 ?_
              refine y_ld (x := .ref 170) rfl rfl (fun d => rfl) ?_
              refine y_ld (x := iv (mcd (pT τ z p).1)) rfl rfl (fun d => rfl) ?_
              refine y_cV (as := [.ref 170, iv (mcd (pT τ z p).1)]) rfl rfl rfl rfl rfl (md170 hM) ⟨rfl, (Nat.le_of_ble_eq_true rfl), (Nat.le_of_ble_eq_true rfl)⟩ (by decide) (ct_sum1 hM (by omega) h13 (by omega) (fun V21 h21 f21 e21 => ?_))
              refine y_n0 ?_
              refine y_ret rfl (fun d => rfl) ?_
              exact k2 _ _ _ _ (by unfold pA; rw [if_neg g1, if_neg g3, if_neg (by omega), if_pos (by omega), if_neg (by omega), if_neg q14]) h21 (MF_tr (MF_tr (MF_tr (MF_rf a V) f3) f13) f21) (e21.trans (e13.trans (e3.trans rfl)))
          · have pl9 := pT_le τ z p (by omega)
            refine y_nv ?_
            refine y_st (lv' := [(2, iv x7), (1, iv (hr τ z p)), (0, .ref 170)]) rfl rfl (fun d => rfl) ?_
            refine y_ld (x := .ref 170) rfl rfl (fun d => rfl) ?_
            refine y_bi rfl rfl (by decide) ?_
            refine y_cV (as := [.ref 170, iv 61]) rfl rfl rfl rfl rfl (md170 hM) ⟨rfl, (Nat.le_of_ble_eq_true rfl), (Nat.le_of_ble_eq_true rfl)⟩ (by decide) (ct_must1 hM h5 (fun V22 h22 f22 e22 => ?_))
            refine y_n0 ?_
            refine y_ld (x := .ref 170) rfl rfl (fun d => rfl) ?_
            refine y_si rfl rfl (by decide) ?_
            refine y_ld (x := iv x7) rfl rfl (fun d => rfl) ?_
            refine y_add (z := (2000 + x7)) rfl rfl rfl ?_
            refine y_cV (as := [.ref 170, iv (2000 + x7)]) rfl rfl rfl rfl rfl (md170 hM) ⟨rfl, (Nat.le_of_ble_eq_true rfl), (Nat.le_of_ble_eq_true rfl)⟩ (by decide) (ct_emits1 hM h22 ?_)
            refine y_n0 ?_
            refine y_ld (x := .ref 170) rfl rfl (fun d => rfl) ?_
            refine y_ld (x := iv x7) rfl rfl (fun d => rfl) ?_
            refine y_cV (as := [.ref 170, iv x7]) rfl rfl rfl rfl rfl (md170 hM) ⟨rfl, (Nat.le_of_ble_eq_true rfl), (Nat.le_of_ble_eq_true rfl)⟩ (by decide) (ct_sum1 hM (by omega) h22 (by omega) (fun V23 h23 f23 e23 => ?_))
            refine y_n0 ?_
            refine y_ret rfl (fun d => rfl) ?_
            exact k2 _ _ _ _ (by unfold pA; rw [if_neg g1, if_neg g3, if_neg (by omega), if_pos (by omega), if_pos q6]) h23 (MF_tr (MF_tr (MF_tr (MF_rf a V) f5) f22) f23) (e23.trans (e22.trans (e5.trans rfl)))
        · refine y_ld (x := iv (hr τ z p)) rfl rfl (fun d => rfl) ?_
          refine y_bi rfl rfl (by decide) ?_
          refine y_jeq rfl rfl rfl (by omega) (fun g8 => ?_) (fun g8 => ?_)
          · refine y_ld (x := .ref 170) rfl rfl (fun d => rfl) ?_
            refine y_cV (as := [.ref 170]) rfl rfl rfl rfl rfl (md170 hM) ⟨rfl, (Nat.le_of_ble_eq_true rfl), (Nat.le_of_ble_eq_true rfl)⟩ (by decide) (ct_cellHere hM hT (by omega) h (by omega) (hr_le (τ := τ) (z := z) (p := p) (by omega)) (fun V24 q25 h24 f24 e24 => ?_) (fun V26 x28 q27 h26 f26 e26 b29 => ?_))
            · have pl30 := pT_le τ z p (by omega)
              have mr31 := mcd_rg (pT_cd τ z p q25)
              refine y_nv ?_
              refine y_st (lv' := [(2, iv (mcd (pT τ z p).1)), (1, iv (hr τ z p)), (0, .ref 170)]) rfl rfl (fun d => rfl) ?_
              refine y_ld (x := .ref 170) rfl rfl (fun d => rfl) ?_
              refine y_bi rfl rfl (by decide) ?_
              refine y_cV (as := [.ref 170, iv 61]) rfl rfl rfl rfl rfl (md170 hM) ⟨rfl, (Nat.le_of_ble_eq_true rfl), (Nat.le_of_ble_eq_true rfl)⟩ (by decide) (ct_mustA hM hT (by decide) h24 (by omega) (fun q33 V32 h32 f32 e32 => ?_) (fun q35 V34 h34 f34 e34 => ?_))
              · have pl36 := (hr_le (τ := τ) (z := z) (p := (pT τ z p).2) (by omega))
                refine y_n0 ?_
                refine y_ld (x := .ref 170) rfl rfl (fun d => rfl) ?_
                refine y_si rfl rfl (by decide) ?_
                refine y_ld (x := iv (mcd (pT τ z p).1)) rfl rfl (fun d => rfl) ?_
                refine y_add (z := (2000 + (mcd (pT τ z p).1))) rfl rfl rfl ?_
                refine y_cV (as := [.ref 170, iv (2000 + (mcd (pT τ z p).1))]) rfl rfl rfl rfl rfl (md170 hM) ⟨rfl, (Nat.le_of_ble_eq_true rfl), (Nat.le_of_ble_eq_true rfl)⟩ (by decide) (ct_emits hM h32 hT.1 (by first | omega | (simp [encT_len]; omega)) (fun V37 h37 f37 e37 => ?_))
                refine y_n0 ?_
                refine y_ld (x := .ref 170) rfl rfl (fun d => rfl) ?_
                refine y_ld (x := iv (mcd (pT τ z p).1)) rfl rfl (fun d => rfl) ?_
                refine y_cV (as := [.ref 170, iv (mcd (pT τ z p).1)]) rfl rfl rfl rfl rfl (md170 hM) ⟨rfl, (Nat.le_of_ble_eq_true rfl), (Nat.le_of_ble_eq_true rfl)⟩ (by decide) (ct_sum hM hT hln hg0 (pT_cd τ z p q25) (by omega) (by first | omega | (simp [encT_len]; omega)) h37 (fun l38 r38 V38 x38 h38 f38 e38 => ?_) (fun r39 V39 s39 g_39 x39 h39 f39 e39 => ?_))
                · have pm40 := pM_ok _ _ _ _ _ _ (by omega) (Or.inl rfl) (fun t ht => by cases ht) x38
                  refine y_n0 ?_
                  refine y_ret rfl (fun d => rfl) ?_
                  refine k1 ((pT τ z p).1, l38) _ _ (by unfold pA; rw [if_neg g1, if_neg g3, if_neg (by omega), if_pos (by omega), if_neg (by omega), if_pos q33, x38]) ?_ (MF_tr (MF_tr (MF_tr (MF_tr (MF_rf a V) f24) f32) f37) f38) (e38.trans (e37.trans (e32.trans (e24.trans rfl))))
                  have e0 : ¬ 126 ≤ (pT τ z p).1 := by have := tcd_le (pT_cd τ z p q25); omega
                  have hh := h38
                  rw [List.append_assoc] at hh
                  unfold encA mkA
                  rw [if_neg e0, if_neg e0]
                  unfold encA mkA
                  rw [List.append_nil]
                  exact hh
                · have pm41 := pM_ok _ _ _ _ _ _ (by omega) (Or.inl rfl) (fun t ht => by cases ht) x39
                  refine y_n0 ?_
                  refine y_ret rfl (fun d => rfl) ?_
                  exact k2 _ _ _ _ (by unfold pA; rw [if_neg g1, if_neg g3, if_neg (by omega), if_pos (by omega), if_neg (by omega), if_pos q33, x39]) h39 (MF_tr (MF_tr (MF_tr (MF_tr (MF_rf a V) f24) f32) f37) f39) (e39.trans (e37.trans (e32.trans (e24.trans rfl))))
              · refine y_n0 ?_
                refine y_ld (x := .ref 170) rfl rfl (fun d => rfl) ?_
                refine y_si rfl rfl (by decide) ?_
                refine y_ld (x := iv (mcd (pT τ z p).1)) rfl rfl (fun d => rfl) ?_
                refine y_add (z := (2000 + (mcd (pT τ z p).1))) rfl rfl rfl ?_
                refine y_cV (as := [.ref 170, iv (2000 + (mcd (pT τ z p).1))]) rfl rfl rfl rfl rfl (md170 hM) ⟨rfl, (Nat.le_of_ble_eq_true rfl), (Nat.le_of_ble_eq_true rfl)⟩ (by decide) (ct_emits1 hM h34 ?_)
                refine y_n0 ?_
                refine y_ld (x := .ref 170) rfl rfl (fun d => rfl) ?_
                refine y_ld (x := iv (mcd (pT τ z p).1)) rfl rfl (fun d => rfl) ?_
                refine y_cV (as := [.ref 170, iv (mcd (pT τ z p).1)]) rfl rfl rfl rfl rfl (md170 hM) ⟨rfl, (Nat.le_of_ble_eq_true rfl), (Nat.le_of_ble_eq_true rfl)⟩ (by decide) (ct_sum1 hM (by omega) h34 (by omega) (fun V42 h42 f42 e42 => ?_))
                refine y_n0 ?_
                refine y_ret rfl (fun d => rfl) ?_
                exact k2 _ _ _ _ (by unfold pA; rw [if_neg g1, if_neg g3, if_neg (by omega), if_pos (by omega), if_neg (by omega), if_neg q35]) h42 (MF_tr (MF_tr (MF_tr (MF_rf a V) f24) f34) f42) (e42.trans (e34.trans (e24.trans rfl)))
            · have pl30 := pT_le τ z p (by omega)
              refine y_nv ?_
              refine y_st (lv' := [(2, iv x28), (1, iv (hr τ z p)), (0, .ref 170)]) rfl rfl (fun d => rfl) ?_
              refine y_ld (x := .ref 170) rfl rfl (fun d => rfl) ?_
              refine y_bi rfl rfl (by decide) ?_
              refine y_cV (as := [.ref 170, iv 61]) rfl rfl rfl rfl rfl (md170 hM) ⟨rfl, (Nat.le_of_ble_eq_true rfl), (Nat.le_of_ble_eq_true rfl)⟩ (by decide) (ct_must1 hM h26 (fun V43 h43 f43 e43 => ?_))
              refine y_n0 ?_
              refine y_ld (x := .ref 170) rfl rfl (fun d => rfl) ?_
              refine y_si rfl rfl (by decide) ?_
              refine y_ld (x := iv x28) rfl rfl (fun d => rfl) ?_
              refine y_add (z := (2000 + x28)) rfl rfl rfl ?_
              refine y_cV (as := [.ref 170, iv (2000 + x28)]) rfl rfl rfl rfl rfl (md170 hM) ⟨rfl, (Nat.le_of_ble_eq_true rfl), (Nat.le_of_ble_eq_true rfl)⟩ (by decide) (ct_emits1 hM h43 ?_)
              refine y_n0 ?_
              refine y_ld (x := .ref 170) rfl rfl (fun d => rfl) ?_
              refine y_ld (x := iv x28) rfl rfl (fun d => rfl) ?_
              refine y_cV (as := [.ref 170, iv x28]) rfl rfl rfl rfl rfl (md170 hM) ⟨rfl, (Nat.le_of_ble_eq_true rfl), (Nat.le_of_ble_eq_true rfl)⟩ (by decide) (ct_sum1 hM (by omega) h43 (by omega) (fun V44 h44 f44 e44 => ?_))
              refine y_n0 ?_
              refine y_ret rfl (fun d => rfl) ?_
              exact k2 _ _ _ _ (by unfold pA; rw [if_neg g1, if_neg g3, if_neg (by omega), if_pos (by omega), if_pos q27]) h44 (MF_tr (MF_tr (MF_tr (MF_rf a V) f26) f43) f44) (e44.trans (e43.trans (e26.trans rfl)))
          · refine y_ld (x := iv (hr τ z p)) rfl rfl (fun d => rfl) ?_
            refine y_bi rfl rfl (by decide) ?_
            refine y_jeq rfl rfl rfl (by omega) (fun g9 => ?_) (fun g9 => ?_)
            · refine y_ld (x := .ref 170) rfl rfl (fun d => rfl) ?_
              refine y_cV (as := [.ref 170]) rfl rfl rfl rfl rfl (md170 hM) ⟨rfl, (Nat.le_of_ble_eq_true rfl), (Nat.le_of_ble_eq_true rfl)⟩ (by decide) (ct_cellHere hM hT (by omega) h (by omega) (hr_le (τ := τ) (z := z) (p := p) (by omega)) (fun V45 q46 h45 f45 e45 => ?_) (fun V47 x49 q48 h47 f47 e47 b50 => ?_))
              · have pl51 := pT_le τ z p (by omega)
                have mr52 := mcd_rg (pT_cd τ z p q46)
                refine y_nv ?_
                refine y_st (lv' := [(2, iv (mcd (pT τ z p).1)), (1, iv (hr τ z p)), (0, .ref 170)]) rfl rfl (fun d => rfl) ?_
                refine y_ld (x := .ref 170) rfl rfl (fun d => rfl) ?_
                refine y_bi rfl rfl (by decide) ?_
                refine y_cV (as := [.ref 170, iv 61]) rfl rfl rfl rfl rfl (md170 hM) ⟨rfl, (Nat.le_of_ble_eq_true rfl), (Nat.le_of_ble_eq_true rfl)⟩ (by decide) (ct_mustA hM hT (by decide) h45 (by omega) (fun q54 V53 h53 f53 e53 => ?_) (fun q56 V55 h55 f55 e55 => ?_))
                · have pl57 := (hr_le (τ := τ) (z := z) (p := (pT τ z p).2) (by omega))
                  refine y_n0 ?_
                  refine y_ld (x := .ref 170) rfl rfl (fun d => rfl) ?_
                  refine y_si rfl rfl (by decide) ?_
                  refine y_ld (x := iv (mcd (pT τ z p).1)) rfl rfl (fun d => rfl) ?_
                  refine y_add (z := (2000 + (mcd (pT τ z p).1))) rfl rfl rfl ?_
                  refine y_cV (as := [.ref 170, iv (2000 + (mcd (pT τ z p).1))]) rfl rfl rfl rfl rfl (md170 hM) ⟨rfl, (Nat.le_of_ble_eq_true rfl), (Nat.le_of_ble_eq_true rfl)⟩ (by decide) (ct_emits hM h53 hT.1 (by first | omega | (simp [encT_len]; omega)) (fun V58 h58 f58 e58 => ?_))
                  refine y_n0 ?_
                  refine y_ld (x := .ref 170) rfl rfl (fun d => rfl) ?_
                  refine y_ld (x := iv (mcd (pT τ z p).1)) rfl rfl (fun d => rfl) ?_
                  refine y_cV (as := [.ref 170, iv (mcd (pT τ z p).1)]) rfl rfl rfl rfl rfl (md170 hM) ⟨rfl, (Nat.le_of_ble_eq_true rfl), (Nat.le_of_ble_eq_true rfl)⟩ (by decide) (ct_sum hM hT hln hg0 (pT_cd τ z p q46) (by omega) (by first | omega | (simp [encT_len]; omega)) h58 (fun l59 r59 V59 x59 h59 f59 e59 => ?_) (fun r60 V60 s60 g_60 x60 h60 f60 e60 => ?_))
                  · have pm61 := pM_ok _ _ _ _ _ _ (by omega) (Or.inl rfl) (fun t ht => by cases ht) x59
                    refine y_n0 ?_
                    refine y_ret rfl (fun d => rfl) ?_
                    refine k1 ((pT τ z p).1, l59) _ _ (by unfold pA; rw [if_neg g1, if_neg g3, if_neg (by omega), if_pos (by omega), if_neg (by omega), if_pos q54, x59]) ?_ (MF_tr (MF_tr (MF_tr (MF_tr (MF_rf a V) f45) f53) f58) f59) (e59.trans (e58.trans (e53.trans (e45.trans rfl))))
                    have e0 : ¬ 126 ≤ (pT τ z p).1 := by have := tcd_le (pT_cd τ z p q46); omega
                    have hh := h59
                    rw [List.append_assoc] at hh
                    unfold encA mkA
                    rw [if_neg e0, if_neg e0]
                    unfold encA mkA
                    rw [List.append_nil]
                    exact hh
                  · have pm62 := pM_ok _ _ _ _ _ _ (by omega) (Or.inl rfl) (fun t ht => by cases ht) x60
                    refine y_n0 ?_
                    refine y_ret rfl (fun d => rfl) ?_
                    exact k2 _ _ _ _ (by unfold pA; rw [if_neg g1, if_neg g3, if_neg (by omega), if_pos (by omega), if_neg (by omega), if_pos q54, x60]) h60 (MF_tr (MF_tr (MF_tr (MF_tr (MF_rf a V) f45) f53) f58) f60) (e60.trans (e58.trans (e53.trans (e45.trans rfl))))
                · refine y_n0 ?_
                  refine y_ld (x := .ref 170) rfl rfl (fun d => rfl) ?_
                  refine y_si rfl rfl (by decide) ?_
                  refine y_ld (x := iv (mcd (pT τ z p).1)) rfl rfl (fun d => rfl) ?_
                  refine y_add (z := (2000 + (mcd (pT τ z p).1))) rfl rfl rfl ?_
                  refine y_cV (as := [.ref 170, iv (2000 + (mcd (pT τ z p).1))]) rfl rfl rfl rfl rfl (md170 hM) ⟨rfl, (Nat.le_of_ble_eq_true rfl), (Nat.le_of_ble_eq_true rfl)⟩ (by decide) (ct_emits1 hM h55 ?_)
                  refine y_n0 ?_
                  refine y_ld (x := .ref 170) rfl rfl (fun d => rfl) ?_
                  refine y_ld (x := iv (mcd (pT τ z p).1)) rfl rfl (fun d => rfl) ?_
                  refine y_cV (as := [.ref 170, iv (mcd (pT τ z p).1)]) rfl rfl rfl rfl rfl (md170 hM) ⟨rfl, (Nat.le_of_ble_eq_true rfl), (Nat.le_of_ble_eq_true rfl)⟩ (by decide) (ct_sum1 hM (by omega) h55 (by omega) (fun V63 h63 f63 e63 => ?_))
                  refine y_n0 ?_
                  refine y_ret rfl (fun d => rfl) ?_
                  exact k2 _ _ _ _ (by unfold pA; rw [if_neg g1, if_neg g3, if_neg (by omega), if_pos (by omega), if_neg (by omega), if_neg q56]) h63 (MF_tr (MF_tr (MF_tr (MF_rf a V) f45) f55) f63) (e63.trans (e55.trans (e45.trans rfl)))
              · have pl51 := pT_le τ z p (by omega)
                refine y_nv ?_
                refine y_st (lv' := [(2, iv x49), (1, iv (hr τ z p)), (0, .ref 170)]) rfl rfl (fun d => rfl) ?_
                refine y_ld (x := .ref 170) rfl rfl (fun d => rfl) ?_
                refine y_bi rfl rfl (by decide) ?_
                refine y_cV (as := [.ref 170, iv 61]) rfl rfl rfl rfl rfl (md170 hM) ⟨rfl, (Nat.le_of_ble_eq_true rfl), (Nat.le_of_ble_eq_true rfl)⟩ (by decide) (ct_must1 hM h47 (fun V64 h64 f64 e64 => ?_))
                refine y_n0 ?_
                refine y_ld (x := .ref 170) rfl rfl (fun d => rfl) ?_
                refine y_si rfl rfl (by decide) ?_
                refine y_ld (x := iv x49) rfl rfl (fun d => rfl) ?_
                refine y_add (z := (2000 + x49)) rfl rfl rfl ?_
                refine y_cV (as := [.ref 170, iv (2000 + x49)]) rfl rfl rfl rfl rfl (md170 hM) ⟨rfl, (Nat.le_of_ble_eq_true rfl), (Nat.le_of_ble_eq_true rfl)⟩ (by decide) (ct_emits1 hM h64 ?_)
                refine y_n0 ?_
                refine y_ld (x := .ref 170) rfl rfl (fun d => rfl) ?_
                refine y_ld (x := iv x49) rfl rfl (fun d => rfl) ?_
                refine y_cV (as := [.ref 170, iv x49]) rfl rfl rfl rfl rfl (md170 hM) ⟨rfl, (Nat.le_of_ble_eq_true rfl), (Nat.le_of_ble_eq_true rfl)⟩ (by decide) (ct_sum1 hM (by omega) h64 (by omega) (fun V65 h65 f65 e65 => ?_))
                refine y_n0 ?_
                refine y_ret rfl (fun d => rfl) ?_
                exact k2 _ _ _ _ (by unfold pA; rw [if_neg g1, if_neg g3, if_neg (by omega), if_pos (by omega), if_pos q48]) h65 (MF_tr (MF_tr (MF_tr (MF_rf a V) f47) f64) f65) (e65.trans (e64.trans (e47.trans rfl)))
            · refine y_ld (x := .ref 170) rfl rfl (fun d => rfl) ?_
              refine y_ic rfl rfl ?_
              refine y_pZ (i := 12) rfl rfl rfl (md170 hM) rfl rfl (by decide) ?_
              refine y_ret rfl (fun d => rfl) ?_
              exact k2 _ _ _ _ (by unfold pA; rw [if_neg g1, if_neg g3, if_neg (by omega), if_neg (by omega)]) (MP_f (p' := p) (wr' := 1) (o' := o) (ln' := ln) h ⟨rfl, rfl, rfl, rfl, rfl, rfl⟩ h.2.1 rfl h.2.2.2.2.1 h.2.2.2.2.2.1) (MF_u0 (by decide) (MF_rf a V)) rfl
      · refine y_ld (x := .ref 170) rfl rfl (fun d => rfl) ?_
        refine y_in rfl rfl (fun d => rfl) ?_
        refine y_gI (i := 10) (e := (p : Int)) rfl rfl rfl (md170 hM) rfl h.2.1 ?_
        refine y_ic rfl rfl ?_
        refine y_add (z := ((p : Int) + 1)) rfl rfl rfl ?_
        refine y_pI (i := 10) rfl rfl rfl (md170 hM) rfl rfl ?_
        have pl0 := hr_le (τ := τ) (z := z) (p := p) (by omega)
        refine y_ld (x := .ref 170) rfl rfl (fun d => rfl) ?_
        refine y_si rfl rfl (by decide) ?_
        refine y_ld (x := iv (hr τ z p)) rfl rfl (fun d => rfl) ?_
        refine y_bi rfl rfl (by decide) ?_
        refine y_jne rfl rfl rfl (by omega) (fun g10 => ?_) (fun g10 => absurd g10 (by omega))
        refine y_ld (x := iv (hr τ z p)) rfl rfl (fun d => rfl) ?_
        refine y_bi rfl rfl (by decide) ?_
        refine y_jne rfl rfl rfl (by omega) (fun g11 => ?_) (fun g11 => absurd g11 (by omega))
        refine y_ic rfl rfl ?_
        refine y_add (z := 5002) rfl rfl rfl ?_
        refine y_cV (as := [.ref 170, iv 5002]) rfl rfl rfl rfl rfl (md170 hM) ⟨rfl, (Nat.le_of_ble_eq_true rfl), (Nat.le_of_ble_eq_true rfl)⟩ (by decide) (ct_emits hM (MP_f (p' := (p + 1)) (wr' := 0) (o' := o) (ln' := ln) h ⟨rfl, rfl, rfl, rfl, rfl, rfl⟩ rfl h.2.2.2.1 h.2.2.2.2.1 h.2.2.2.2.2.1) hT.1 (by first | omega | (simp [encT_len]; omega)) (fun V66 h66 f66 e66 => ?_))
        refine y_n0 ?_
        refine y_ret rfl (fun d => rfl) ?_
        exact k1 (128, []) _ _ (by unfold pA; rw [if_neg g1, if_neg g3, if_pos (by omega)]) h66 (MF_tr (MF_u0 (by decide) (MF_rf a V)) f66) (e66.trans rfl)
/-- ACTS that a reading makes -/
def acO (l : List p_Ac) : Prop := ∀ x ∈ l, (126 ≤ x.1 ∧ x.1 ≤ 128 ∧ x.2 = []) ∨ (104 ≤ x.1 ∧ x.1 ≤ 115 ∧ smO x.2 ∧ 1 ≤ x.2.length ∧ x.2.length ≤ 4)
theorem pA_ok {τ : Nat → Int} {z p q : Nat} {r : Option p_Ac} (hp : p ≤ z) (h : pA τ z p = (r, q)) : p ≤ q ∧ q ≤ z ∧ ∀ x, r = some x → (encA [x]).length + p ≤ q ∧ acO [x] := by
  have h0 : hr τ z p ≠ -1 → p < z := hr_le
  have h1 := pT_le τ z p hp
  have h2 : hr τ z (pT τ z p).2 ≠ -1 → (pT τ z p).2 < z := hr_le
  have c1 := pT_cd τ z p
  have e1 : ∀ x : p_Ac, 126 ≤ x.1 ∧ x.1 ≤ 128 ∧ x.2 = [] → (encA [x]).length = 1 ∧ acO [x] := by
    intro x hx
    obtain ⟨c, l⟩ := x
    refine ⟨?_, fun y hy => ?_⟩
    · unfold encA
      rw [if_pos hx.1]
      rfl
    · rw [List.mem_singleton.mp hy]
      exact Or.inl hx
  unfold pA at h
  split at h
  · cases h
    have := h0 (by omega)
    exact ⟨by omega, by omega, fun x e => by cases e; have := e1 (126, []) (by decide); exact ⟨by omega, this.2⟩⟩
  split at h
  · cases h
    have := h0 (by omega)
    exact ⟨by omega, by omega, fun x e => by cases e; have := e1 (127, []) (by decide); exact ⟨by omega, this.2⟩⟩
  split at h
  · cases h
    have := h0 (by omega)
    exact ⟨by omega, by omega, fun x e => by cases e; have := e1 (128, []) (by decide); exact ⟨by omega, this.2⟩⟩
  split at h
  · rename_i hc
    split at h
    · cases h
      exact ⟨h1.1, h1.2.1, fun x e => by cases e⟩
    · have h3 := pT_cell hc (by omega)
      split at h
      · have h4 := h2 (by omega)
        split at h
        · rename_i l1 q1 ee
          have kk := pM_ok _ _ _ _ _ _ (by omega) (Or.inl rfl) (fun t ht => by cases ht) ee
          cases h
          refine ⟨by omega, kk.2.1, fun x e => ?_⟩
          cases e
          have k3 := kk.2.2 l1 rfl
          have k4 := k3.1
          have k5 := k3.2.2.1
          have k6 := k3.2.2.2 (by decide)
          simp only [List.length_nil] at k4 k5 k6
          refine ⟨?_, fun y hy => ?_⟩
          · unfold encA
            rw [if_neg (by omega)]
            unfold encA
            simp only [List.append_nil, List.length_cons, List.length_map]
            omega
          · rw [List.mem_singleton.mp hy]
            exact Or.inr ⟨h3.1, h3.2, k3.2.1, (show 1 ≤ l1.length by omega), (show l1.length ≤ 4 by omega)⟩
        · rename_i q1 ee
          have kk := pM_ok _ _ _ _ _ _ (by omega) (Or.inl rfl) (fun t ht => by cases ht) ee
          cases h
          exact ⟨by omega, kk.2.1, fun x e => by cases e⟩
      · cases h
        exact ⟨h1.1, h1.2.1, fun x e => by cases e⟩
  · cases h
    exact ⟨Nat.le_refl _, hp, fun x e => by cases e⟩
theorem acO_app {l r : List p_Ac} (h1 : acO l) (h2 : acO r) : acO (l ++ r) := by
  intro x hx
  rcases List.mem_append.mp hx with h | h
  · exact h1 x h
  · exact h2 x h
theorem mkA_bd {ln : Int} (hln : 0 ≤ ln ∧ ln ≤ 8) : ∀ (l : List p_Ac) (g : Nat → Int), acO l → (∀ c, c < 8 → 0 ≤ g c ∧ g c ≤ 10) → ∀ c, c < 8 → 0 ≤ mkA ln g l c ∧ mkA ln g l c ≤ 10
  | [], g, _, hg => hg
  | (c, l) :: r, g, ha, hg => by
    unfold mkA
    refine mkA_bd hln r _ (fun x hx => ha x (List.mem_cons_of_mem _ hx)) ?_
    split
    · exact hg
    · rcases ha (c, l) List.mem_cons_self with h | h
      · simp only at h; omega
      · exact mkS_bd hln h.2.1 l true g h.2.2.1 hg
theorem pAs_ok {τ : Nat → Int} {z : Nat} : ∀ (k p : Nat) (acc : List p_Ac) (r : Option (List p_Ac)) (q : Nat), p ≤ z → acO acc → pAs τ z k p acc = (r, q) → p ≤ q ∧ q ≤ z ∧ ∀ l, r = some l → (encA l).length + p ≤ (encA acc).length + q ∧ acO l ∧ l.length ≤ acc.length + k
  | 0, p, acc, r, q, hp, ha, h => by
    unfold pAs at h
    cases h
    exact ⟨Nat.le_refl _, hp, fun l e => by cases e; exact ⟨by omega, ha, by omega⟩⟩
  | k + 1, p, acc, r, q, hp, ha, h => by
    unfold pAs at h
    split at h
    · rename_i x q1 ee
      have k1 := pA_ok hp ee
      have k2 := k1.2.2 x rfl
      have h0 : hr τ z q1 ≠ -1 → q1 < z := hr_le
      split at h
      · have := h0 (by omega)
        have kk := pAs_ok k (q1 + 1) (acc ++ [x]) r q (by omega) (acO_app ha k2.2) h
        refine ⟨by omega, kk.2.1, fun l e => ?_⟩
        have k3 := kk.2.2 l e
        have k4 := k3.1
        have k5 := k3.2.2
        rw [encA_app, List.length_append] at k4
        simp only [List.length_append, List.length_cons, List.length_nil] at k5
        exact ⟨by omega, k3.2.1, by omega⟩
      · cases h
        refine ⟨by omega, k1.2.1, fun l e => ?_⟩
        cases e
        rw [encA_app, List.length_append]
        simp only [List.length_append, List.length_cons, List.length_nil]
        exact ⟨by omega, acO_app ha k2.2, by omega⟩
    · rename_i q1 ee
      have k1 := pA_ok hp ee
      cases h
      exact ⟨k1.1, k1.2.1, fun l e => by cases e⟩
end
end
section
/-! LINES in the reference -/
def bodyL (x : p_Li) : List Int := encT x.2.2.1 ++ ((if x.2.1 = true then [-4] else []) ++ encA x.2.2.2)
def encL (n0 : Nat) (x : p_Li) : List Int := (1000 + x.1) :: ((n0 + 2 + (bodyL x).length : Nat) : Int) :: bodyL x
def mkL (ln : Int) (g : Nat → Int) (x : p_Li) : Nat → Int := mkA ln (mkT ln g x.2.2.1) x.2.2.2
section PL
variable {τ : Nat → Int} {z p q q' : Nat} {e : Bool × List p_Tk} {l : List p_Ac}
theorem pE_0 (h : ¬ hr τ z p = 40) : pE τ z p = (some (false, []), p) := if_neg h
theorem pE_1 {l : List p_Tk} (h : hr τ z p = 40) (h1 : pX τ z 1000 3 1 (p + 1) [] = (some l, q)) (h2 : hr τ z q = 41) : pE τ z p = (some (true, l), q + 1) := by
  unfold pE
  rw [if_pos h, h1]
  exact if_pos h2
theorem pE_2 {l : List p_Tk} (h : hr τ z p = 40) (h1 : pX τ z 1000 3 1 (p + 1) [] = (some l, q)) (h2 : ¬ hr τ z q = 41) : pE τ z p = (none, q) := by
  unfold pE
  rw [if_pos h, h1]
  exact if_neg h2
theorem pE_3 (h : hr τ z p = 40) (h1 : pX τ z 1000 3 1 (p + 1) [] = (none, q)) : pE τ z p = (none, q) := by
  unfold pE
  rw [if_pos h, h1]
theorem pL_0 (h : ¬ (hr τ z p = 42 ∨ (48 ≤ hr τ z p ∧ hr τ z p ≤ 51))) : pL τ z p = (none, p) := if_neg h
theorem pL_1 (h : hr τ z p = 42 ∨ (48 ≤ hr τ z p ∧ hr τ z p ≤ 51)) (h1 : pE τ z (p + 1) = (none, q)) : pL τ z p = (none, q) := by
  unfold pL
  rw [if_pos h, h1]
theorem pL_2 (h : hr τ z p = 42 ∨ (48 ≤ hr τ z p ∧ hr τ z p ≤ 51)) (h1 : pE τ z (p + 1) = (some e, q)) (h2 : ¬ hr τ z q = 58) : pL τ z p = (none, q) := by
  unfold pL
  rw [if_pos h, h1]
  exact if_neg h2
theorem pL_3 (h : hr τ z p = 42 ∨ (48 ≤ hr τ z p ∧ hr τ z p ≤ 51)) (h1 : pE τ z (p + 1) = (some e, q)) (h2 : hr τ z q = 58) (h3 : pAs τ z 5 (q + 1) [] = (none, q')) : pL τ z p = (none, q') := by
  unfold pL
  rw [if_pos h, h1]
  refine (if_pos h2).trans ?_
  rw [h3]
theorem pL_4 (h : hr τ z p = 42 ∨ (48 ≤ hr τ z p ∧ hr τ z p ≤ 51)) (h1 : pE τ z (p + 1) = (some e, q)) (h2 : hr τ z q = 58) (h3 : pAs τ z 5 (q + 1) [] = (some l, q')) : pL τ z p = (some (if hr τ z p = 42 then 4 else hr τ z p - 48, e.1, e.2, l), q') := by
  unfold pL
  rw [if_pos h, h1]
  refine (if_pos h2).trans ?_
  rw [h3]
end PL
theorem MP_set {V : v_V} {a z : Nat} {τ : Nat → Int} {p : Nat} {wr o ln x : Int} {st : List Int} {g : Nat → Int} {i : Nat} (h : MP V a z τ p wr o ln st g) (hi : i < st.length) : MP (v_up V 173 (200 * a + i) x) a z τ p wr o ln (st.set i x) g := by
  obtain ⟨a1, a2, a3, a4, a5, a6, a7, a8, a9, a10⟩ := h
  refine ⟨a1, a2, a3, a4, a5, a6, a7, ?_, ?_, a10⟩
  · rw [List.length_set]
    exact a8
  · intro j y hj
    rw [m_nth_set] at hj
    by_cases h2 : j = i
    · subst h2
      rw [if_pos rfl] at hj
      rw [v_up_eq]
      cases hm : m_nth st j with
      | none => rw [hm] at hj; cases hj
      | some w => rw [hm] at hj; cases hj; rfl
    · rw [if_neg h2] at hj
      rw [v_up_ni (by omega)]
      exact a9 j y hj
theorem MP_6 {V : v_V} {a z : Nat} {τ : Nat → Int} {p : Nat} {wr o ln x : Int} {st : List Int} {g : Nat → Int} {i : Nat} (h : MP V a z τ p wr o ln st g) : MP (v_up V 176 i x) a z τ p wr o ln st g := h
theorem v_set2 (x y w : Int) (r : List Int) : ∀ l : List Int, ((l ++ [x]) ++ ([y] ++ r)).set (l.length + 1) w = l ++ (x :: w :: r)
  | [] => rfl
  | b :: l => by
    show b :: (((l ++ [x]) ++ ([y] ++ r)).set (l.length + 1) w) = b :: (l ++ (x :: w :: r))
    rw [v_set2 x y w r l]
section
variable {X : Nat → List Int32} {u w : Nat} {S : m_H} {V : v_V} {K : v_K}
set_option maxRecDepth 100000 in
set_option maxHeartbeats 4000000 in
theorem lp_acts (hM : MdS S) {a z D F : Nat} (hDD : 5 ≤ D) {τ : Nat → Int} {o atv : Int} {ln : Int} {st0 : List Int} {g0 : Nat → Int} (hT : Tp τ a z) (hln : 0 ≤ ln ∧ ln ≤ 8) (hg0 : ∀ c, c < 8 → 0 ≤ g0 c ∧ g0 c ≤ 10) : ∀ (m n : Nat) (V : v_V) (K : v_K) (u w p : Nat) (acc : List p_Ac), n + m = 5 → 1 ≤ m → acc.length = n → p ≤ z → st0.length + (encA acc).length ≤ p + 2 → acO acc → MP V a z τ p 0 o ln (st0 ++ encA acc) (mkA ln g0 acc) → (∀ l q V', pAs τ z (5 - n) p acc = (some l, q) → MP V' a z τ q 0 o ln (st0 ++ encA l) (mkA ln g0 l) → MF a V V' → V' 176 = V 176 → y_E X D 123 F u w 234 [(0, .ref 170), (2, iv atv), (3, iv (l.length : Nat))] [] S V' K) → (∀ q V' st' g', pAs τ z (5 - n) p acc = (none, q) → MP V' a z τ q 1 o ln st' g' → MF a V V' → V' 176 = V 176 → y_E X D 123 F u w 234 [(0, .ref 170)] [] S V' K) → y_E X D 123 (100 * m + F) u w 172 [(0, .ref 170), (2, iv atv), (3, iv (n : Int)), (4, iv 1)] [] S V K := by
  intro m
  induction m with
  | zero => intros; omega
  | succ m ih =>
    intro n V K u w p acc hnm hm1 hal hp hl hac h k1 k2
    have hz := hT.2.1
    refine y_mono (F' := (100 * m + F) + 100) ?_ (by omega)
    refine y_ld (x := iv 1) rfl rfl (fun d => rfl) ?_
    refine y_zeq rfl rfl rfl (by decide) (fun g1 => absurd g1 (by decide)) (fun g1 => ?_)
    refine y_ld (x := .ref 170) rfl rfl (fun d => rfl) ?_
    refine y_cV (as := [.ref 170]) rfl rfl rfl rfl rfl (md170 hM) ⟨rfl, (Nat.le_of_ble_eq_true rfl), (Nat.le_of_ble_eq_true rfl)⟩ (by omega) (ct_actHere hM hT hln (mkA_bd hln acc g0 hac hg0) (by omega) (by simp; omega) h (fun y1 r1 V1 x1 h1 f1 e1 => ?_) (fun r2 V2 s2 g_2 x2 h2 f2 e2 => ?_))
    · have pa3 := pA_ok (by omega) x1
      have ppa3 := pa3.2.2 _ rfl
      refine y_n0 ?_
      refine y_inc (z := ((n + 1 : Nat) : Int)) (lv' := [(3, iv ((n + 1 : Nat) : Int)), (0, .ref 170), (2, iv atv), (4, iv 1)]) rfl rfl rfl (by omega) rfl ?_
      refine y_ld (x := .ref 170) rfl rfl (fun d => rfl) ?_
      refine y_gI (i := 12) (e := 0) rfl rfl rfl (md170 hM) rfl h1.2.2.2.1 ?_
      refine y_zne rfl rfl rfl (by decide) (fun g2 => absurd g2 (by decide)) (fun g2 => ?_)
      refine y_ld (x := iv ((n + 1 : Nat) : Int)) rfl rfl (fun d => rfl) ?_
      refine y_ic rfl rfl ?_
      refine y_jge rfl rfl rfl (by omega) (fun g3 => ?_) (fun g3 => ?_)
      · refine y_ic rfl rfl ?_
        refine y_st (lv' := [(4, iv 0), (3, iv ((n + 1 : Nat) : Int)), (0, .ref 170), (2, iv atv)]) rfl rfl (fun d => rfl) ?_
        refine y_ld (x := .ref 170) rfl rfl (fun d => rfl) ?_
        refine y_in rfl rfl (fun d => rfl) ?_
        refine y_gI (i := 10) (e := (r1 : Int)) rfl rfl rfl (md170 hM) rfl h1.2.1 ?_
        refine y_ld (x := iv 0) rfl rfl (fun d => rfl) ?_
        refine y_zeq rfl rfl rfl (by decide) (fun g4 => ?_) (fun g4 => absurd g4 (by decide))
        refine y_ic rfl rfl ?_
        refine y_add (z := ((r1 : Int) + 0)) rfl rfl rfl ?_
        refine y_pI (i := 10) rfl rfl rfl (md170 hM) rfl rfl ?_
        refine y_go rfl rfl ?_
        refine y_ld (x := iv 0) rfl rfl (fun d => rfl) ?_
        refine y_zeq rfl rfl rfl (by decide) (fun g5 => ?_) (fun g5 => absurd g5 (by decide))
        refine y_lv (l' := [(0, .ref 170), (2, iv atv), (3, iv ((n + 1 : Nat) : Int))]) rfl ⟨rfl, rfl, rfl, trivial⟩ ?_
        rw [show ((n + 1 : Nat) : Int) = ((acc ++ [y1]).length : Nat) by simp; omega]
        refine y_mono (k1 (acc ++ [y1]) _ _ (by rw [show 5 - n = (5 - (n + 1)) + 1 by omega]; unfold pAs; rw [x1]; exact if_neg (by omega)) ?_ (MF_u0 (by decide) (MF_tr (MF_rf a V) f1)) (e1.trans rfl)) (by omega)
        rw [encA_app, mkA_app, ← List.append_assoc]
        exact (MP_f (p' := r1) (wr' := 0) (o' := o) (ln' := ln) h1 ⟨rfl, rfl, rfl, rfl, rfl, rfl⟩ rfl h1.2.2.2.1 h1.2.2.2.2.1 h1.2.2.2.2.2.1)
      · refine y_ld (x := .ref 170) rfl rfl (fun d => rfl) ?_
        refine y_cV (as := [.ref 170]) rfl rfl rfl rfl rfl (md170 hM) ⟨rfl, (Nat.le_of_ble_eq_true rfl), (Nat.le_of_ble_eq_true rfl)⟩ (by omega) (ct_here hM h1 (by omega) ?_)
        have hq197 := hr_rg hT (r1)
        refine y_nv ?_
        refine y_bi rfl rfl (by decide) ?_
        refine y_jne rfl rfl rfl (by omega) (fun g6 => ?_) (fun g6 => ?_)
        · refine y_ic rfl rfl ?_
          refine y_st (lv' := [(4, iv 0), (3, iv ((n + 1 : Nat) : Int)), (0, .ref 170), (2, iv atv)]) rfl rfl (fun d => rfl) ?_
          refine y_ld (x := .ref 170) rfl rfl (fun d => rfl) ?_
          refine y_in rfl rfl (fun d => rfl) ?_
          refine y_gI (i := 10) (e := (r1 : Int)) rfl rfl rfl (md170 hM) rfl h1.2.1 ?_
          refine y_ld (x := iv 0) rfl rfl (fun d => rfl) ?_
          refine y_zeq rfl rfl rfl (by decide) (fun g7 => ?_) (fun g7 => absurd g7 (by decide))
          refine y_ic rfl rfl ?_
          refine y_add (z := ((r1 : Int) + 0)) rfl rfl rfl ?_
          refine y_pI (i := 10) rfl rfl rfl (md170 hM) rfl rfl ?_
          refine y_go rfl rfl ?_
          refine y_ld (x := iv 0) rfl rfl (fun d => rfl) ?_
          refine y_zeq rfl rfl rfl (by decide) (fun g8 => ?_) (fun g8 => absurd g8 (by decide))
          refine y_lv (l' := [(0, .ref 170), (2, iv atv), (3, iv ((n + 1 : Nat) : Int))]) rfl ⟨rfl, rfl, rfl, trivial⟩ ?_
          rw [show ((n + 1 : Nat) : Int) = ((acc ++ [y1]).length : Nat) by simp; omega]
          refine y_mono (k1 (acc ++ [y1]) _ _ (by rw [show 5 - n = (5 - (n + 1)) + 1 by omega]; unfold pAs; rw [x1]; exact if_neg (by omega)) ?_ (MF_u0 (by decide) (MF_tr (MF_rf a V) f1)) (e1.trans rfl)) (by omega)
          rw [encA_app, mkA_app, ← List.append_assoc]
          exact (MP_f (p' := r1) (wr' := 0) (o' := o) (ln' := ln) h1 ⟨rfl, rfl, rfl, rfl, rfl, rfl⟩ rfl h1.2.2.2.1 h1.2.2.2.2.1 h1.2.2.2.2.2.1)
        · refine y_ic rfl rfl ?_
          refine y_go rfl rfl ?_
          refine y_st (lv' := [(4, iv 1), (3, iv ((n + 1 : Nat) : Int)), (0, .ref 170), (2, iv atv)]) rfl rfl (fun d => rfl) ?_
          refine y_ld (x := .ref 170) rfl rfl (fun d => rfl) ?_
          refine y_in rfl rfl (fun d => rfl) ?_
          refine y_gI (i := 10) (e := (r1 : Int)) rfl rfl rfl (md170 hM) rfl h1.2.1 ?_
          refine y_ld (x := iv 1) rfl rfl (fun d => rfl) ?_
          refine y_zeq rfl rfl rfl (by decide) (fun g9 => absurd g9 (by decide)) (fun g9 => ?_)
          refine y_ic rfl rfl ?_
          refine y_go rfl rfl ?_
          refine y_add (z := ((r1 : Int) + 1)) rfl rfl rfl ?_
          refine y_pI (i := 10) rfl rfl rfl (md170 hM) rfl rfl ?_
          have pl7 := hr_le (τ := τ) (z := z) (p := r1) (by omega)
          refine y_go rfl rfl ?_
          refine y_lv (l' := [(0, .ref 170), (2, iv atv), (3, iv ((n + 1 : Nat) : Int)), (4, iv 1)]) rfl ⟨rfl, rfl, rfl, rfl, trivial⟩ ?_
          refine y_mono (ih (n + 1) _ _ _ _ ((r1 + 1)) (acc ++ [y1]) (by omega) (by omega) (by simp; omega) (by omega) (by rw [encA_app, List.length_append]; omega) (acO_app hac ppa3.2) ?_ ?_ ?_) (by omega)
          · rw [encA_app, mkA_app, ← List.append_assoc]
            exact (MP_f (p' := (r1 + 1)) (wr' := 0) (o' := o) (ln' := ln) h1 ⟨rfl, rfl, rfl, rfl, rfl, rfl⟩ rfl h1.2.2.2.1 h1.2.2.2.2.1 h1.2.2.2.2.2.1)
          · intro l2 q2 V' a1 a2 a3 a4
            exact k1 l2 q2 V' (by rw [show 5 - n = (5 - (n + 1)) + 1 by omega]; unfold pAs; rw [x1]; exact (if_pos ⟨by omega, by omega⟩).trans a1) a2 (MF_tr (MF_u0 (by decide) (MF_tr (MF_rf a V) f1)) a3) (a4.trans (e1.trans rfl))
          · intro q2 V' st' g' a1 a2 a3 a4
            exact k2 q2 V' st' g' (by rw [show 5 - n = (5 - (n + 1)) + 1 by omega]; unfold pAs; rw [x1]; exact (if_pos ⟨by omega, by omega⟩).trans a1) a2 (MF_tr (MF_u0 (by decide) (MF_tr (MF_rf a V) f1)) a3) (a4.trans (e1.trans rfl))
    · have pa4 := pA_ok (by omega) x2
      refine y_n0 ?_
      refine y_inc (z := ((n + 1 : Nat) : Int)) (lv' := [(3, iv ((n + 1 : Nat) : Int)), (0, .ref 170), (2, iv atv), (4, iv 1)]) rfl rfl rfl (by omega) rfl ?_
      refine y_ld (x := .ref 170) rfl rfl (fun d => rfl) ?_
      refine y_gI (i := 12) (e := 1) rfl rfl rfl (md170 hM) rfl h2.2.2.2.1 ?_
      refine y_zne rfl rfl rfl (by decide) (fun g10 => ?_) (fun g10 => absurd g10 (by decide))
      refine y_ic rfl rfl ?_
      refine y_st (lv' := [(4, iv 0), (3, iv ((n + 1 : Nat) : Int)), (0, .ref 170), (2, iv atv)]) rfl rfl (fun d => rfl) ?_
      refine y_ld (x := .ref 170) rfl rfl (fun d => rfl) ?_
      refine y_in rfl rfl (fun d => rfl) ?_
      refine y_gI (i := 10) (e := (r2 : Int)) rfl rfl rfl (md170 hM) rfl h2.2.1 ?_
      refine y_ld (x := iv 0) rfl rfl (fun d => rfl) ?_
      refine y_zeq rfl rfl rfl (by decide) (fun g11 => ?_) (fun g11 => absurd g11 (by decide))
      refine y_ic rfl rfl ?_
      refine y_add (z := ((r2 : Int) + 0)) rfl rfl rfl ?_
      refine y_pI (i := 10) rfl rfl rfl (md170 hM) rfl rfl ?_
      refine y_go rfl rfl ?_
      refine y_ld (x := iv 0) rfl rfl (fun d => rfl) ?_
      refine y_zeq rfl rfl rfl (by decide) (fun g12 => ?_) (fun g12 => absurd g12 (by decide))
      refine y_lv (l' := [(0, .ref 170)]) rfl ⟨rfl, trivial⟩ ?_
      exact y_mono (k2 _ _ _ _ (by rw [show 5 - n = (5 - (n + 1)) + 1 by omega]; unfold pAs; rw [x2]) (MP_f (p' := r2) (wr' := 1) (o' := o) (ln' := ln) h2 ⟨rfl, rfl, rfl, rfl, rfl, rfl⟩ rfl h2.2.2.2.1 h2.2.2.2.2.1 h2.2.2.2.2.2.1) (MF_u0 (by decide) (MF_tr (MF_rf a V) f2)) (e2.trans rfl)) (by omega)
end
end
section
section
variable {X : Nat → List Int32} {u w : Nat} {S : m_H} {V : v_V} {K : v_K}
set_option maxRecDepth 100000 in
set_option maxHeartbeats 4000000 in
theorem ct_lineHere (hM : MdS S) {a z p lnn : Nat} {τ : Nat → Int} {ln : Int} {st0 : List Int} {g0 : Nat → Int} (hT : Tp τ a z) (hln : 0 ≤ ln ∧ ln ≤ 8) (hg0 : ∀ c, c < 8 → 0 ≤ g0 c ∧ g0 c ≤ 10) (hlnn : ln = lnn ∧ lnn < 8) (hp : p ≤ z) (hl : st0.length ≤ p) (h : MP V a z τ p 0 ((0 : Nat) : Int) ln st0 g0) (k1 : ∀ x q V', pL τ z p = (some x, q) → MP V' a z τ q 0 ((0 : Nat) : Int) (ln + 1) (st0 ++ encL st0.length x) (mkL ln g0 x) → MF a V V' → V' 176 = v_uf (V 176) (8 * a + lnn) (x.2.2.2.length : Int) → K u w none S V') (k2 : ∀ q V' st' g' o', pL τ z p = (none, q) → MP V' a z τ q 1 o' ln st' g' → MF a V V' → V' 176 = V 176 → K u w none S V') : y_R X 22 123 u w [.ref 170] S V K := by
  have hz := hT.2.1
  have ha8 := hT.1
  refine y_ent (lv' := [(0, .ref 170)]) (Nat.le_of_ble_eq_true rfl) rfl ?_
  refine y_ld (x := .ref 170) rfl rfl (fun d => rfl) ?_
  refine y_cV (as := [.ref 170]) rfl rfl rfl rfl rfl (md170 hM) ⟨rfl, (Nat.le_of_ble_eq_true rfl), (Nat.le_of_ble_eq_true rfl)⟩ (by decide) (ct_here hM h (by omega) ?_)
  have hq1 := hr_rg hT (p)
  refine y_nv ?_
  refine y_st (lv' := [(1, iv (hr τ z p)), (0, .ref 170)]) rfl rfl (fun d => rfl) ?_
  refine y_ld (x := .ref 170) rfl rfl (fun d => rfl) ?_
  refine y_ld (x := iv (hr τ z p)) rfl rfl (fun d => rfl) ?_
  refine y_bi rfl rfl (by decide) ?_
  refine y_jeq rfl rfl rfl (by omega) (fun g1 => ?_) (fun g1 => ?_)
  · refine y_ic rfl rfl ?_
    refine y_pZ (i := 12) rfl rfl rfl (md170 hM) rfl rfl (by decide) ?_
    refine y_ld (x := .ref 170) rfl rfl (fun d => rfl) ?_
    refine y_in rfl rfl (fun d => rfl) ?_
    refine y_gI (i := 10) (e := ((p : Nat) : Int)) rfl rfl rfl (md170 hM) rfl h.2.1 ?_
    refine y_ld (x := .ref 170) rfl rfl (fun d => rfl) ?_
    refine y_gI (i := 12) (e := 0) rfl rfl rfl (md170 hM) rfl rfl ?_
    refine y_zeq rfl rfl rfl (by decide) (fun g2 => ?_) (fun g2 => absurd g2 (by decide))
    refine y_ic rfl rfl ?_
    refine y_add (z := (((p : Nat) : Int) + 1)) rfl rfl rfl ?_
    refine y_pI (i := 10) rfl rfl rfl (md170 hM) rfl rfl ?_
    have pl0 := hr_le (τ := τ) (z := z) (p := p) (by omega)
    refine y_si rfl rfl (by decide) ?_
    refine y_ld (x := .ref 170) rfl rfl (fun d => rfl) ?_
    refine y_gI (i := 9) (e := (a : Int)) rfl rfl rfl (md170 hM) rfl h.1 ?_
    refine y_mul (z := (200 * (a : Int))) rfl rfl rfl ?_
    refine y_ld (x := .ref 170) rfl rfl (fun d => rfl) ?_
    refine y_gR (i := 5) rfl rfl rfl (md170 hM) rfl ?_
    refine y_ld (x := .ref 170) rfl rfl (fun d => rfl) ?_
    refine y_gI (i := 9) (e := (a : Int)) rfl rfl rfl (md170 hM) rfl h.1 ?_
    refine y_ild (x := ((st0).length : Int)) (q := a) rfl rfl (md174 hM) (by omega) (by decide) (by omega) h.2.2.2.2.2.2.2.1 ?_
    refine y_add (z := (200 * a + st0.length : Nat)) rfl rfl (by omega) ?_
    refine y_st (lv' := [(2, iv (200 * a + st0.length : Nat)), (1, iv (hr τ z p)), (0, .ref 170)]) rfl rfl (fun d => rfl) ?_
    refine y_ld (x := .ref 170) rfl rfl (fun d => rfl) ?_
    refine y_si rfl rfl (by decide) ?_
    refine y_ld (x := iv (hr τ z p)) rfl rfl (fun d => rfl) ?_
    refine y_bi rfl rfl (by decide) ?_
    refine y_jne rfl rfl rfl (by omega) (fun g3 => absurd g3 (by omega)) (fun g3 => ?_)
    refine y_ic rfl rfl ?_
    refine y_go rfl rfl ?_
    refine y_add (z := 1004) rfl rfl rfl ?_
    refine y_cV (as := [.ref 170, iv 1004]) rfl rfl rfl rfl rfl (md170 hM) ⟨rfl, (Nat.le_of_ble_eq_true rfl), (Nat.le_of_ble_eq_true rfl)⟩ (by decide) (ct_emits hM (MP_f (p' := (p + 1)) (wr' := 0) (o' := ((0 : Nat) : Int)) (ln' := ln) h ⟨rfl, rfl, rfl, rfl, rfl, rfl⟩ rfl rfl h.2.2.2.2.1 h.2.2.2.2.2.1) hT.1 (by first | omega | (simp [encT_len]; omega)) (fun V1 h1 f1 e1 => ?_))
    refine y_n0 ?_
    refine y_ld (x := .ref 170) rfl rfl (fun d => rfl) ?_
    refine y_ic rfl rfl ?_
    refine y_cV (as := [.ref 170, iv 0]) rfl rfl rfl rfl rfl (md170 hM) ⟨rfl, (Nat.le_of_ble_eq_true rfl), (Nat.le_of_ble_eq_true rfl)⟩ (by decide) (ct_emits hM h1 hT.1 (by first | omega | (simp [encT_len]; omega)) (fun V2 h2 f2 e2 => ?_))
    refine y_n0 ?_
    refine y_ld (x := .ref 170) rfl rfl (fun d => rfl) ?_
    refine y_gI (i := 12) (e := 0) rfl rfl rfl (md170 hM) rfl h2.2.2.2.1 ?_
    refine y_zne rfl rfl rfl (by decide) (fun g4 => absurd g4 (by decide)) (fun g4 => ?_)
    refine y_ld (x := .ref 170) rfl rfl (fun d => rfl) ?_
    refine y_cV (as := [.ref 170]) rfl rfl rfl rfl rfl (md170 hM) ⟨rfl, (Nat.le_of_ble_eq_true rfl), (Nat.le_of_ble_eq_true rfl)⟩ (by decide) (ct_here hM h2 (by omega) ?_)
    have hq106 := hr_rg hT ((p + 1))
    refine y_nv ?_
    refine y_bi rfl rfl (by decide) ?_
    refine y_jne rfl rfl rfl (by omega) (fun g5 => ?_) (fun g5 => ?_)
    · refine y_ld (x := .ref 170) rfl rfl (fun d => rfl) ?_
      refine y_bi rfl rfl (by decide) ?_
      refine y_cV (as := [.ref 170, iv 58]) rfl rfl rfl rfl rfl (md170 hM) ⟨rfl, (Nat.le_of_ble_eq_true rfl), (Nat.le_of_ble_eq_true rfl)⟩ (by decide) (ct_mustA hM hT (by decide) h2 (by omega) (fun q4 V3 h3 f3 e3 => ?_) (fun q6 V5 h5 f5 e5 => ?_))
      · have pl7 := (hr_le (τ := τ) (z := z) (p := (p + 1)) (by omega))
        refine y_n0 ?_
        refine y_ic rfl rfl ?_
        refine y_st (lv' := [(3, iv 0), (2, iv (200 * a + st0.length : Nat)), (1, iv (hr τ z p)), (0, .ref 170)]) rfl rfl (fun d => rfl) ?_
        refine y_ld (x := .ref 170) rfl rfl (fun d => rfl) ?_
        refine y_gI (i := 12) (e := 0) rfl rfl rfl (md170 hM) rfl h3.2.2.2.1 ?_
        refine y_zne rfl rfl rfl (by decide) (fun g6 => absurd g6 (by decide)) (fun g6 => ?_)
        refine y_ic rfl rfl ?_
        refine y_go rfl rfl ?_
        refine y_st (lv' := [(4, iv 1), (3, iv 0), (2, iv (200 * a + st0.length : Nat)), (1, iv (hr τ z p)), (0, .ref 170)]) rfl rfl (fun d => rfl) ?_
        refine y_lv (l' := [(0, .ref 170), (2, iv (200 * a + st0.length : Nat)), (3, iv 0), (4, iv 1)]) rfl ⟨rfl, rfl, rfl, rfl, trivial⟩ ?_
        refine y_mono (lp_acts (D := 21) (F := 500) (atv := (200 * a + st0.length : Nat)) (st0 := ((st0 ++ [1004]) ++ [0])) (g0 := g0) hM (by decide) hT hln hg0 5 0 _ _ _ _ ((p + 1) + 1) [] rfl (by decide) rfl (by omega) (by simp [encA, encT_len]; omega) (fun x hx => by cases hx) (by have hh := h3; rw [show encA [] = [] from rfl, List.append_nil]; exact hh) ?_ ?_) (by decide)
        · intro l8 r8 V8 x8 h8 f8 e8
          have ka := pAs_ok _ _ _ _ _ (by omega) (fun x hx => by cases hx) x8
          have kb := ka.2.2 _ rfl
          simp only [encA, List.length_nil] at kb
          refine y_ld (x := .ref 170) rfl rfl (fun d => rfl) ?_
          refine y_gI (i := 12) (e := 0) rfl rfl rfl (md170 hM) rfl h8.2.2.2.1 ?_
          refine y_zne rfl rfl rfl (by decide) (fun g7 => absurd g7 (by decide)) (fun g7 => ?_)
          refine y_ld (x := .ref 170) rfl rfl (fun d => rfl) ?_
          refine y_gR (i := 4) rfl rfl rfl (md170 hM) rfl ?_
          refine y_ld (x := iv (200 * a + st0.length : Nat)) rfl rfl (fun d => rfl) ?_
          refine y_ic rfl rfl ?_
          refine y_add (z := ((200 * a + st0.length : Nat) + 1)) rfl rfl rfl ?_
          refine y_ld (x := .ref 170) rfl rfl (fun d => rfl) ?_
          refine y_gR (i := 5) rfl rfl rfl (md170 hM) rfl ?_
          refine y_ld (x := .ref 170) rfl rfl (fun d => rfl) ?_
          refine y_gI (i := 9) (e := (a : Int)) rfl rfl rfl (md170 hM) rfl h8.1 ?_
          refine y_ild (x := (((((st0 ++ [1004]) ++ [0]) ++ encA l8)).length : Int)) (q := a) rfl rfl (md174 hM) (by omega) (by decide) (by omega) h8.2.2.2.2.2.2.2.1 ?_
          refine y_ist (q := (200 * a + (st0.length + 1))) rfl rfl (md173 hM) (by omega) (by decide) (by simp; omega) ?_
          refine y_ld (x := .ref 170) rfl rfl (fun d => rfl) ?_
          refine y_gR (i := 7) rfl rfl rfl (md170 hM) rfl ?_
          refine y_bi rfl rfl (by decide) ?_
          refine y_ld (x := .ref 170) rfl rfl (fun d => rfl) ?_
          refine y_gI (i := 9) (e := (a : Int)) rfl rfl rfl (md170 hM) rfl h8.1 ?_
          refine y_mul (z := (8 * (a : Int))) rfl rfl rfl ?_
          refine y_ld (x := .ref 170) rfl rfl (fun d => rfl) ?_
          refine y_gI (i := 14) (e := ln) rfl rfl rfl (md170 hM) rfl h8.2.2.2.2.2.1 ?_
          refine y_add (z := ((8 * (a : Int)) + ln)) rfl rfl rfl ?_
          refine y_ld (x := iv (l8.length : Int)) rfl rfl (fun d => rfl) ?_
          refine y_ist (q := (8 * a + lnn)) rfl rfl (md176 hM) (by omega) (by decide) (by omega) ?_
          refine y_ld (x := .ref 170) rfl rfl (fun d => rfl) ?_
          refine y_in rfl rfl (fun d => rfl) ?_
          refine y_gI (i := 14) (e := ln) rfl rfl rfl (md170 hM) rfl h8.2.2.2.2.2.1 ?_
          refine y_ic rfl rfl ?_
          refine y_add (z := (ln + 1)) rfl rfl rfl ?_
          refine y_pI (i := 14) rfl rfl rfl (md170 hM) rfl rfl ?_
          refine y_ret rfl (fun d => rfl) ?_
          refine k1 _ _ _ (pL_4 (Or.inl g1) (pE_0 g5) q4 x8) ?_ (MF_u0 (by decide) (MF_u6 (by omega) (MF_u3 (by omega) (MF_tr (MF_tr (MF_tr (MF_tr (MF_u0 (by decide) (MF_u0 (by decide) (MF_rf a V))) f1) f2) f3) f8)))) (by show v_uf (V8 176) _ _ = _; rw [show V8 176 = V 176 from (e8.trans (e3.trans (e2.trans (e1.trans rfl))))])
          have hh := h8
          have ek : 1000 + (if hr τ z p = 42 then (4 : Int) else hr τ z p - 48) = 1004 := by rw [if_pos (by omega)]; rfl
          have eb : bodyL ((if hr τ z p = 42 then (4 : Int) else hr τ z p - 48), ((false, []) : Bool × List p_Tk).1, ((false, []) : Bool × List p_Tk).2, l8) = encA l8 := by unfold bodyL; simp [encT]
          have el : encL st0.length ((if hr τ z p = 42 then (4 : Int) else hr τ z p - 48), ((false, []) : Bool × List p_Tk).1, ((false, []) : Bool × List p_Tk).2, l8) = (1004) :: ((st0.length + 2 + (encA l8).length : Nat) : Int) :: (encA l8) := by
            unfold encL
            rw [eb]
            show (1000 + (if hr τ z p = 42 then (4 : Int) else hr τ z p - 48)) :: _ = _
            rw [ek]
          have ev : ((((st0 ++ [1004]) ++ [0]) ++ encA l8).length : Int) = ((st0.length + 2 + (encA l8).length : Nat) : Int) := by simp; omega
          rw [el, ← ev]
          have hs := MP_set (i := st0.length + 1) (x := ((((st0 ++ [1004]) ++ [0]) ++ encA l8).length : Int)) hh (by simp)
          have ea : ((st0 ++ [1004]) ++ [0]) ++ encA l8 = (st0 ++ [1004]) ++ ([0] ++ (encA l8)) := by simp only [List.append_assoc]
          have eq2 : (((st0 ++ [1004]) ++ [0]) ++ encA l8).set (st0.length + 1) ((((st0 ++ [1004]) ++ [0]) ++ encA l8).length : Int) = st0 ++ ((1004) :: ((((st0 ++ [1004]) ++ [0]) ++ encA l8).length : Int) :: (encA l8)) := (congrArg (fun l => List.set l (st0.length + 1) ((((st0 ++ [1004]) ++ [0]) ++ encA l8).length : Int)) ea).trans (v_set2 _ _ _ _ _)
          rw [eq2] at hs
          exact MP_f (MP_6 (i := 8 * a + lnn) (x := (l8.length : Int)) hs) ⟨rfl, rfl, rfl, rfl, rfl, rfl⟩ h8.2.1 h8.2.2.2.1 h8.2.2.2.2.1 rfl
        · intro r9 V9 s9 g_9 x9 h9 f9 e9
          refine y_ld (x := .ref 170) rfl rfl (fun d => rfl) ?_
          refine y_gI (i := 12) (e := 1) rfl rfl rfl (md170 hM) rfl h9.2.2.2.1 ?_
          refine y_zne rfl rfl rfl (by decide) (fun g8 => ?_) (fun g8 => absurd g8 (by decide))
          refine y_ret rfl (fun d => rfl) ?_
          exact k2 _ _ _ _ _ (pL_3 (Or.inl g1) (pE_0 g5) q4 x9) h9 (MF_tr (MF_tr (MF_tr (MF_tr (MF_u0 (by decide) (MF_u0 (by decide) (MF_rf a V))) f1) f2) f3) f9) (e9.trans (e3.trans (e2.trans (e1.trans rfl))))
      · refine y_n0 ?_
        refine y_ic rfl rfl ?_
        refine y_st (lv' := [(3, iv 0), (2, iv (200 * a + st0.length : Nat)), (1, iv (hr τ z p)), (0, .ref 170)]) rfl rfl (fun d => rfl) ?_
        refine y_ld (x := .ref 170) rfl rfl (fun d => rfl) ?_
        refine y_gI (i := 12) (e := 1) rfl rfl rfl (md170 hM) rfl h5.2.2.2.1 ?_
        refine y_zne rfl rfl rfl (by decide) (fun g9 => ?_) (fun g9 => absurd g9 (by decide))
        refine y_ic rfl rfl ?_
        refine y_st (lv' := [(4, iv 0), (3, iv 0), (2, iv (200 * a + st0.length : Nat)), (1, iv (hr τ z p)), (0, .ref 170)]) rfl rfl (fun d => rfl) ?_
        refine y_ld (x := iv 0) rfl rfl (fun d => rfl) ?_
        refine y_zeq rfl rfl rfl (by decide) (fun g10 => ?_) (fun g10 => absurd g10 (by decide))
        refine y_ld (x := .ref 170) rfl rfl (fun d => rfl) ?_
        refine y_gI (i := 12) (e := 1) rfl rfl rfl (md170 hM) rfl h5.2.2.2.1 ?_
        refine y_zne rfl rfl rfl (by decide) (fun g11 => ?_) (fun g11 => absurd g11 (by decide))
        refine y_ret rfl (fun d => rfl) ?_
        exact k2 _ _ _ _ _ (pL_2 (Or.inl g1) (pE_0 g5) q6) h5 (MF_tr (MF_tr (MF_tr (MF_u0 (by decide) (MF_u0 (by decide) (MF_rf a V))) f1) f2) f5) (e5.trans (e2.trans (e1.trans rfl)))
    · refine y_ld (x := .ref 170) rfl rfl (fun d => rfl) ?_
      refine y_in rfl rfl (fun d => rfl) ?_
      refine y_gI (i := 10) (e := (((p + 1) : Nat) : Int)) rfl rfl rfl (md170 hM) rfl h2.2.1 ?_
      refine y_ic rfl rfl ?_
      refine y_add (z := ((((p + 1) : Nat) : Int) + 1)) rfl rfl rfl ?_
      refine y_pI (i := 10) rfl rfl rfl (md170 hM) rfl rfl ?_
      have pl1 := hr_le (τ := τ) (z := z) (p := p + 1) (by omega)
      refine y_ld (x := .ref 170) rfl rfl (fun d => rfl) ?_
      refine y_ic rfl rfl ?_
      refine y_pI (i := 13) rfl rfl rfl (md170 hM) rfl rfl ?_
      refine y_ld (x := .ref 170) rfl rfl (fun d => rfl) ?_
      refine y_cV (as := [.ref 170]) rfl rfl rfl rfl rfl (md170 hM) ⟨rfl, (Nat.le_of_ble_eq_true rfl), (Nat.le_of_ble_eq_true rfl)⟩ (by decide) ((st_all (st0 := ((st0 ++ [1004]) ++ [0])) (g0 := g0) hM hT hln hg0 1000 (by decide)).2.2.2.1 _ _ _ _ (p + 1 + 1) 1 _ [] (by decide) (by omega) (by omega) (by simp; omega) (by decide : 3 * (6 - 1) + 6 ≤ 21) (fun t ht => by cases ht) (by have hh := (MP_f (V' := (v_up (v_up V2 170 10 ((((p + 1) : Nat) : Int) + 1)) 170 13 1)) (p' := (p + 1 + 1)) (wr' := 0) (o' := ((1 : Nat) : Int)) (ln' := ln) h2 ⟨rfl, rfl, rfl, rfl, rfl, rfl⟩ rfl h2.2.2.2.1 rfl h2.2.2.2.2.2.1); rw [show encT [] = [] from rfl, List.append_nil]; exact hh) (fun l10 r10 V10 x10 h10 f10 e10 => ?_) (fun r11 V11 s11 g_11 y10 h11 f11 e11 => ?_))
      · have kk10 := pX_ok _ _ _ _ _ _ _ (by decide) (by omega) x10
        have mm10 := (kk10.2.2 _ rfl)
        have tt10 := pX_tk _ _ _ _ _ _ _ (by decide) (by omega) (fun t ht => by cases ht) x10
        simp only [List.length_nil] at mm10
        refine y_n0 ?_
        refine y_ld (x := .ref 170) rfl rfl (fun d => rfl) ?_
        refine y_bi rfl rfl (by decide) ?_
        refine y_cV (as := [.ref 170, iv 41]) rfl rfl rfl rfl rfl (md170 hM) ⟨rfl, (Nat.le_of_ble_eq_true rfl), (Nat.le_of_ble_eq_true rfl)⟩ (by decide) (ct_mustA hM hT (by decide) h10 (by omega) (fun q13 V12 h12 f12 e12 => ?_) (fun q15 V14 h14 f14 e14 => ?_))
        · have pl16 := (hr_le (τ := τ) (z := z) (p := r10) (by omega))
          refine y_n0 ?_
          refine y_ld (x := .ref 170) rfl rfl (fun d => rfl) ?_
          refine y_ic rfl rfl ?_
          refine y_pI (i := 13) rfl rfl rfl (md170 hM) rfl rfl ?_
          refine y_ld (x := .ref 170) rfl rfl (fun d => rfl) ?_
          refine y_bi rfl rfl (by decide) ?_
          refine y_cV (as := [.ref 170, iv (-4)]) rfl rfl rfl rfl rfl (md170 hM) ⟨rfl, (Nat.le_of_ble_eq_true rfl), (Nat.le_of_ble_eq_true rfl)⟩ (by decide) (ct_emits hM (MP_f (p' := (r10 + 1)) (wr' := 0) (o' := ((0 : Nat) : Int)) (ln' := ln) h12 ⟨rfl, rfl, rfl, rfl, rfl, rfl⟩ h12.2.1 h12.2.2.2.1 rfl h12.2.2.2.2.2.1) hT.1 (by first | omega | (simp [encT_len]; omega)) (fun V17 h17 f17 e17 => ?_))
          refine y_n0 ?_
          refine y_ld (x := .ref 170) rfl rfl (fun d => rfl) ?_
          refine y_bi rfl rfl (by decide) ?_
          refine y_cV (as := [.ref 170, iv 58]) rfl rfl rfl rfl rfl (md170 hM) ⟨rfl, (Nat.le_of_ble_eq_true rfl), (Nat.le_of_ble_eq_true rfl)⟩ (by decide) (ct_mustA hM hT (by decide) h17 (by omega) (fun q19 V18 h18 f18 e18 => ?_) (fun q21 V20 h20 f20 e20 => ?_))
          · have pl22 := (hr_le (τ := τ) (z := z) (p := (r10 + 1)) (by omega))
            refine y_n0 ?_
            refine y_ic rfl rfl ?_
            refine y_st (lv' := [(3, iv 0), (2, iv (200 * a + st0.length : Nat)), (1, iv (hr τ z p)), (0, .ref 170)]) rfl rfl (fun d => rfl) ?_
            refine y_ld (x := .ref 170) rfl rfl (fun d => rfl) ?_
            refine y_gI (i := 12) (e := 0) rfl rfl rfl (md170 hM) rfl h18.2.2.2.1 ?_
            refine y_zne rfl rfl rfl (by decide) (fun g12 => absurd g12 (by decide)) (fun g12 => ?_)
            refine y_ic rfl rfl ?_
            refine y_go rfl rfl ?_
            refine y_st (lv' := [(4, iv 1), (3, iv 0), (2, iv (200 * a + st0.length : Nat)), (1, iv (hr τ z p)), (0, .ref 170)]) rfl rfl (fun d => rfl) ?_
            refine y_lv (l' := [(0, .ref 170), (2, iv (200 * a + st0.length : Nat)), (3, iv 0), (4, iv 1)]) rfl ⟨rfl, rfl, rfl, rfl, trivial⟩ ?_
            refine y_mono (lp_acts (D := 21) (F := 500) (atv := (200 * a + st0.length : Nat)) (st0 := ((((st0 ++ [1004]) ++ [0]) ++ encT l10) ++ [-4])) (g0 := (mkT ln g0 l10)) hM (by decide) hT hln (mkT_bd hln l10 g0 tt10 hg0) 5 0 _ _ _ _ ((r10 + 1) + 1) [] rfl (by decide) rfl (by omega) (by simp [encA, encT_len]; omega) (fun x hx => by cases hx) (by have hh := h18; rw [show encA [] = [] from rfl, List.append_nil]; exact hh) ?_ ?_) (by decide)
            · intro l23 r23 V23 x23 h23 f23 e23
              have ka := pAs_ok _ _ _ _ _ (by omega) (fun x hx => by cases hx) x23
              have kb := ka.2.2 _ rfl
              simp only [encA, List.length_nil] at kb
              refine y_ld (x := .ref 170) rfl rfl (fun d => rfl) ?_
              refine y_gI (i := 12) (e := 0) rfl rfl rfl (md170 hM) rfl h23.2.2.2.1 ?_
              refine y_zne rfl rfl rfl (by decide) (fun g13 => absurd g13 (by decide)) (fun g13 => ?_)
              refine y_ld (x := .ref 170) rfl rfl (fun d => rfl) ?_
              refine y_gR (i := 4) rfl rfl rfl (md170 hM) rfl ?_
              refine y_ld (x := iv (200 * a + st0.length : Nat)) rfl rfl (fun d => rfl) ?_
              refine y_ic rfl rfl ?_
              refine y_add (z := ((200 * a + st0.length : Nat) + 1)) rfl rfl rfl ?_
              refine y_ld (x := .ref 170) rfl rfl (fun d => rfl) ?_
              refine y_gR (i := 5) rfl rfl rfl (md170 hM) rfl ?_
              refine y_ld (x := .ref 170) rfl rfl (fun d => rfl) ?_
              refine y_gI (i := 9) (e := (a : Int)) rfl rfl rfl (md170 hM) rfl h23.1 ?_
              refine y_ild (x := (((((((st0 ++ [1004]) ++ [0]) ++ encT l10) ++ [-4]) ++ encA l23)).length : Int)) (q := a) rfl rfl (md174 hM) (by omega) (by decide) (by omega) h23.2.2.2.2.2.2.2.1 ?_
              refine y_ist (q := (200 * a + (st0.length + 1))) rfl rfl (md173 hM) (by omega) (by decide) (by simp; omega) ?_
              refine y_ld (x := .ref 170) rfl rfl (fun d => rfl) ?_
              refine y_gR (i := 7) rfl rfl rfl (md170 hM) rfl ?_
              refine y_bi rfl rfl (by decide) ?_
              refine y_ld (x := .ref 170) rfl rfl (fun d => rfl) ?_
              refine y_gI (i := 9) (e := (a : Int)) rfl rfl rfl (md170 hM) rfl h23.1 ?_
              refine y_mul (z := (8 * (a : Int))) rfl rfl rfl ?_
              refine y_ld (x := .ref 170) rfl rfl (fun d => rfl) ?_
              refine y_gI (i := 14) (e := ln) rfl rfl rfl (md170 hM) rfl h23.2.2.2.2.2.1 ?_
              refine y_add (z := ((8 * (a : Int)) + ln)) rfl rfl rfl ?_
              refine y_ld (x := iv (l23.length : Int)) rfl rfl (fun d => rfl) ?_
              refine y_ist (q := (8 * a + lnn)) rfl rfl (md176 hM) (by omega) (by decide) (by omega) ?_
              refine y_ld (x := .ref 170) rfl rfl (fun d => rfl) ?_
              refine y_in rfl rfl (fun d => rfl) ?_
              refine y_gI (i := 14) (e := ln) rfl rfl rfl (md170 hM) rfl h23.2.2.2.2.2.1 ?_
              refine y_ic rfl rfl ?_
              refine y_add (z := (ln + 1)) rfl rfl rfl ?_
              refine y_pI (i := 14) rfl rfl rfl (md170 hM) rfl rfl ?_
              refine y_ret rfl (fun d => rfl) ?_
              refine k1 _ _ _ (pL_4 (Or.inl g1) (pE_1 g5 x10 q13) q19 x23) ?_ (MF_u0 (by decide) (MF_u6 (by omega) (MF_u3 (by omega) (MF_tr (MF_tr (MF_tr (MF_u0 (by decide) (MF_tr (MF_tr (MF_u0 (by decide) (MF_u0 (by decide) (MF_tr (MF_tr (MF_u0 (by decide) (MF_u0 (by decide) (MF_rf a V))) f1) f2))) f10) f12)) f17) f18) f23)))) (by show v_uf (V23 176) _ _ = _; rw [show V23 176 = V 176 from (e23.trans (e18.trans (e17.trans (e12.trans (e10.trans (e2.trans (e1.trans rfl)))))))])
              have hh := h23
              have ek : 1000 + (if hr τ z p = 42 then (4 : Int) else hr τ z p - 48) = 1004 := by rw [if_pos (by omega)]; rfl
              have eb : bodyL ((if hr τ z p = 42 then (4 : Int) else hr τ z p - 48), (true, l10).1, (true, l10).2, l23) = encT l10 ++ ([-4] ++ encA l23) := by unfold bodyL; simp
              have el : encL st0.length ((if hr τ z p = 42 then (4 : Int) else hr τ z p - 48), (true, l10).1, (true, l10).2, l23) = (1004) :: ((st0.length + 2 + (encT l10 ++ ([-4] ++ encA l23)).length : Nat) : Int) :: (encT l10 ++ ([-4] ++ encA l23)) := by
                unfold encL
                rw [eb]
                show (1000 + (if hr τ z p = 42 then (4 : Int) else hr τ z p - 48)) :: _ = _
                rw [ek]
              have ev : ((((((st0 ++ [1004]) ++ [0]) ++ encT l10) ++ [-4]) ++ encA l23).length : Int) = ((st0.length + 2 + (encT l10 ++ ([-4] ++ encA l23)).length : Nat) : Int) := by simp; omega
              rw [el, ← ev]
              have hs := MP_set (i := st0.length + 1) (x := ((((((st0 ++ [1004]) ++ [0]) ++ encT l10) ++ [-4]) ++ encA l23).length : Int)) hh (by simp)
              have ea : ((((st0 ++ [1004]) ++ [0]) ++ encT l10) ++ [-4]) ++ encA l23 = (st0 ++ [1004]) ++ ([0] ++ (encT l10 ++ ([-4] ++ encA l23))) := by simp only [List.append_assoc]
              have eq2 : (((((st0 ++ [1004]) ++ [0]) ++ encT l10) ++ [-4]) ++ encA l23).set (st0.length + 1) ((((((st0 ++ [1004]) ++ [0]) ++ encT l10) ++ [-4]) ++ encA l23).length : Int) = st0 ++ ((1004) :: ((((((st0 ++ [1004]) ++ [0]) ++ encT l10) ++ [-4]) ++ encA l23).length : Int) :: (encT l10 ++ ([-4] ++ encA l23))) := (congrArg (fun l => List.set l (st0.length + 1) ((((((st0 ++ [1004]) ++ [0]) ++ encT l10) ++ [-4]) ++ encA l23).length : Int)) ea).trans (v_set2 _ _ _ _ _)
              rw [eq2] at hs
              exact MP_f (MP_6 (i := 8 * a + lnn) (x := (l23.length : Int)) hs) ⟨rfl, rfl, rfl, rfl, rfl, rfl⟩ h23.2.1 h23.2.2.2.1 h23.2.2.2.2.1 rfl
            · intro r24 V24 s24 g_24 x24 h24 f24 e24
              refine y_ld (x := .ref 170) rfl rfl (fun d => rfl) ?_
              refine y_gI (i := 12) (e := 1) rfl rfl rfl (md170 hM) rfl h24.2.2.2.1 ?_
              refine y_zne rfl rfl rfl (by decide) (fun g14 => ?_) (fun g14 => absurd g14 (by decide))
              refine y_ret rfl (fun d => rfl) ?_
              exact k2 _ _ _ _ _ (pL_3 (Or.inl g1) (pE_1 g5 x10 q13) q19 x24) h24 (MF_tr (MF_tr (MF_tr (MF_u0 (by decide) (MF_tr (MF_tr (MF_u0 (by decide) (MF_u0 (by decide) (MF_tr (MF_tr (MF_u0 (by decide) (MF_u0 (by decide) (MF_rf a V))) f1) f2))) f10) f12)) f17) f18) f24) (e24.trans (e18.trans (e17.trans (e12.trans (e10.trans (e2.trans (e1.trans rfl)))))))
          · refine y_n0 ?_
            refine y_ic rfl rfl ?_
            refine y_st (lv' := [(3, iv 0), (2, iv (200 * a + st0.length : Nat)), (1, iv (hr τ z p)), (0, .ref 170)]) rfl rfl (fun d => rfl) ?_
            refine y_ld (x := .ref 170) rfl rfl (fun d => rfl) ?_
            refine y_gI (i := 12) (e := 1) rfl rfl rfl (md170 hM) rfl h20.2.2.2.1 ?_
            refine y_zne rfl rfl rfl (by decide) (fun g15 => ?_) (fun g15 => absurd g15 (by decide))
            refine y_ic rfl rfl ?_
            refine y_st (lv' := [(4, iv 0), (3, iv 0), (2, iv (200 * a + st0.length : Nat)), (1, iv (hr τ z p)), (0, .ref 170)]) rfl rfl (fun d => rfl) ?_
            refine y_ld (x := iv 0) rfl rfl (fun d => rfl) ?_
            refine y_zeq rfl rfl rfl (by decide) (fun g16 => ?_) (fun g16 => absurd g16 (by decide))
            refine y_ld (x := .ref 170) rfl rfl (fun d => rfl) ?_
            refine y_gI (i := 12) (e := 1) rfl rfl rfl (md170 hM) rfl h20.2.2.2.1 ?_
            refine y_zne rfl rfl rfl (by decide) (fun g17 => ?_) (fun g17 => absurd g17 (by decide))
            refine y_ret rfl (fun d => rfl) ?_
            exact k2 _ _ _ _ _ (pL_2 (Or.inl g1) (pE_1 g5 x10 q13) q21) h20 (MF_tr (MF_tr (MF_u0 (by decide) (MF_tr (MF_tr (MF_u0 (by decide) (MF_u0 (by decide) (MF_tr (MF_tr (MF_u0 (by decide) (MF_u0 (by decide) (MF_rf a V))) f1) f2))) f10) f12)) f17) f20) (e20.trans (e17.trans (e12.trans (e10.trans (e2.trans (e1.trans rfl))))))
        · refine y_n0 ?_
          refine y_ld (x := .ref 170) rfl rfl (fun d => rfl) ?_
          refine y_ic rfl rfl ?_
          refine y_pI (i := 13) rfl rfl rfl (md170 hM) rfl rfl ?_
          refine y_ld (x := .ref 170) rfl rfl (fun d => rfl) ?_
          refine y_bi rfl rfl (by decide) ?_
          refine y_cV (as := [.ref 170, iv (-4)]) rfl rfl rfl rfl rfl (md170 hM) ⟨rfl, (Nat.le_of_ble_eq_true rfl), (Nat.le_of_ble_eq_true rfl)⟩ (by decide) (ct_emits1 hM (MP_f (p' := r10) (wr' := 1) (o' := ((0 : Nat) : Int)) (ln' := ln) h14 ⟨rfl, rfl, rfl, rfl, rfl, rfl⟩ h14.2.1 h14.2.2.2.1 rfl h14.2.2.2.2.2.1) ?_)
          refine y_n0 ?_
          refine y_ld (x := .ref 170) rfl rfl (fun d => rfl) ?_
          refine y_bi rfl rfl (by decide) ?_
          refine y_cV (as := [.ref 170, iv 58]) rfl rfl rfl rfl rfl (md170 hM) ⟨rfl, (Nat.le_of_ble_eq_true rfl), (Nat.le_of_ble_eq_true rfl)⟩ (by decide) (ct_must1 hM (MP_f (p' := r10) (wr' := 1) (o' := ((0 : Nat) : Int)) (ln' := ln) h14 ⟨rfl, rfl, rfl, rfl, rfl, rfl⟩ h14.2.1 h14.2.2.2.1 rfl h14.2.2.2.2.2.1) (fun V25 h25 f25 e25 => ?_))
          refine y_n0 ?_
          refine y_ic rfl rfl ?_
          refine y_st (lv' := [(3, iv 0), (2, iv (200 * a + st0.length : Nat)), (1, iv (hr τ z p)), (0, .ref 170)]) rfl rfl (fun d => rfl) ?_
          refine y_ld (x := .ref 170) rfl rfl (fun d => rfl) ?_
          refine y_gI (i := 12) (e := 1) rfl rfl rfl (md170 hM) rfl h25.2.2.2.1 ?_
          refine y_zne rfl rfl rfl (by decide) (fun g18 => ?_) (fun g18 => absurd g18 (by decide))
          refine y_ic rfl rfl ?_
          refine y_st (lv' := [(4, iv 0), (3, iv 0), (2, iv (200 * a + st0.length : Nat)), (1, iv (hr τ z p)), (0, .ref 170)]) rfl rfl (fun d => rfl) ?_
          refine y_ld (x := iv 0) rfl rfl (fun d => rfl) ?_
          refine y_zeq rfl rfl rfl (by decide) (fun g19 => ?_) (fun g19 => absurd g19 (by decide))
          refine y_ld (x := .ref 170) rfl rfl (fun d => rfl) ?_
          refine y_gI (i := 12) (e := 1) rfl rfl rfl (md170 hM) rfl h25.2.2.2.1 ?_
          refine y_zne rfl rfl rfl (by decide) (fun g20 => ?_) (fun g20 => absurd g20 (by decide))
          refine y_ret rfl (fun d => rfl) ?_
          exact k2 _ _ _ _ _ (pL_1 (Or.inl g1) (pE_2 g5 x10 q15)) h25 (MF_tr (MF_u0 (by decide) (MF_tr (MF_tr (MF_u0 (by decide) (MF_u0 (by decide) (MF_tr (MF_tr (MF_u0 (by decide) (MF_u0 (by decide) (MF_rf a V))) f1) f2))) f10) f14)) f25) (e25.trans (e14.trans (e10.trans (e2.trans (e1.trans rfl)))))
      · have kk11 := pX_ok _ _ _ _ _ _ _ (by decide) (by omega) y10
        refine y_n0 ?_
        refine y_ld (x := .ref 170) rfl rfl (fun d => rfl) ?_
        refine y_bi rfl rfl (by decide) ?_
        refine y_cV (as := [.ref 170, iv 41]) rfl rfl rfl rfl rfl (md170 hM) ⟨rfl, (Nat.le_of_ble_eq_true rfl), (Nat.le_of_ble_eq_true rfl)⟩ (by decide) (ct_must1 hM h11 (fun V26 h26 f26 e26 => ?_))
        refine y_n0 ?_
        refine y_ld (x := .ref 170) rfl rfl (fun d => rfl) ?_
        refine y_ic rfl rfl ?_
        refine y_pI (i := 13) rfl rfl rfl (md170 hM) rfl rfl ?_
        refine y_ld (x := .ref 170) rfl rfl (fun d => rfl) ?_
        refine y_bi rfl rfl (by decide) ?_
        refine y_cV (as := [.ref 170, iv (-4)]) rfl rfl rfl rfl rfl (md170 hM) ⟨rfl, (Nat.le_of_ble_eq_true rfl), (Nat.le_of_ble_eq_true rfl)⟩ (by decide) (ct_emits1 hM (MP_f (p' := r11) (wr' := 1) (o' := ((0 : Nat) : Int)) (ln' := ln) h26 ⟨rfl, rfl, rfl, rfl, rfl, rfl⟩ h26.2.1 h26.2.2.2.1 rfl h26.2.2.2.2.2.1) ?_)
        refine y_n0 ?_
        refine y_ld (x := .ref 170) rfl rfl (fun d => rfl) ?_
        refine y_bi rfl rfl (by decide) ?_
        refine y_cV (as := [.ref 170, iv 58]) rfl rfl rfl rfl rfl (md170 hM) ⟨rfl, (Nat.le_of_ble_eq_true rfl), (Nat.le_of_ble_eq_true rfl)⟩ (by decide) (ct_must1 hM (MP_f (p' := r11) (wr' := 1) (o' := ((0 : Nat) : Int)) (ln' := ln) h26 ⟨rfl, rfl, rfl, rfl, rfl, rfl⟩ h26.2.1 h26.2.2.2.1 rfl h26.2.2.2.2.2.1) (fun V27 h27 f27 e27 => ?_))
        refine y_n0 ?_
        refine y_ic rfl rfl ?_
        refine y_st (lv' := [(3, iv 0), (2, iv (200 * a + st0.length : Nat)), (1, iv (hr τ z p)), (0, .ref 170)]) rfl rfl (fun d => rfl) ?_
        refine y_ld (x := .ref 170) rfl rfl (fun d => rfl) ?_
        refine y_gI (i := 12) (e := 1) rfl rfl rfl (md170 hM) rfl h27.2.2.2.1 ?_
        refine y_zne rfl rfl rfl (by decide) (fun g21 => ?_) (fun g21 => absurd g21 (by decide))
        refine y_ic rfl rfl ?_
        refine y_st (lv' := [(4, iv 0), (3, iv 0), (2, iv (200 * a + st0.length : Nat)), (1, iv (hr τ z p)), (0, .ref 170)]) rfl rfl (fun d => rfl) ?_
        refine y_ld (x := iv 0) rfl rfl (fun d => rfl) ?_
        refine y_zeq rfl rfl rfl (by decide) (fun g22 => ?_) (fun g22 => absurd g22 (by decide))
        refine y_ld (x := .ref 170) rfl rfl (fun d => rfl) ?_
        refine y_gI (i := 12) (e := 1) rfl rfl rfl (md170 hM) rfl h27.2.2.2.1 ?_
        refine y_zne rfl rfl rfl (by decide) (fun g23 => ?_) (fun g23 => absurd g23 (by decide))
        refine y_ret rfl (fun d => rfl) ?_
        exact k2 _ _ _ _ _ (pL_1 (Or.inl g1) (pE_3 g5 y10)) h27 (MF_tr (MF_u0 (by decide) (MF_tr (MF_tr (MF_u0 (by decide) (MF_u0 (by decide) (MF_tr (MF_tr (MF_u0 (by decide) (MF_u0 (by decide) (MF_rf a V))) f1) f2))) f11) f26)) f27) (e27.trans (e26.trans (e11.trans (e2.trans (e1.trans rfl)))))
  · refine y_ld (x := iv (hr τ z p)) rfl rfl (fun d => rfl) ?_
    refine y_bi rfl rfl (by decide) ?_
    refine y_bi rfl rfl (by decide) ?_
    refine y_cS (as := [iv (hr τ z p), iv 48, iv 51]) rfl (by decide) rfl rfl rfl rfl ⟨(Nat.le_of_ble_eq_true rfl), (Nat.le_of_ble_eq_true rfl)⟩ (by decide) (ct_in (by omega) ?_)
    refine y_nv ?_
    refine y_bne rfl rfl rfl (fun g24 => ?_) (fun g24 => ?_)
    · refine y_ic rfl rfl ?_
      refine y_pZ (i := 12) rfl rfl rfl (md170 hM) rfl rfl (by decide) ?_
      refine y_ld (x := .ref 170) rfl rfl (fun d => rfl) ?_
      refine y_in rfl rfl (fun d => rfl) ?_
      refine y_gI (i := 10) (e := ((p : Nat) : Int)) rfl rfl rfl (md170 hM) rfl h.2.1 ?_
      refine y_ld (x := .ref 170) rfl rfl (fun d => rfl) ?_
      refine y_gI (i := 12) (e := 0) rfl rfl rfl (md170 hM) rfl rfl ?_
      refine y_zeq rfl rfl rfl (by decide) (fun g25 => ?_) (fun g25 => absurd g25 (by decide))
      refine y_ic rfl rfl ?_
      refine y_add (z := (((p : Nat) : Int) + 1)) rfl rfl rfl ?_
      refine y_pI (i := 10) rfl rfl rfl (md170 hM) rfl rfl ?_
      have pl0 := hr_le (τ := τ) (z := z) (p := p) (by omega)
      refine y_si rfl rfl (by decide) ?_
      refine y_ld (x := .ref 170) rfl rfl (fun d => rfl) ?_
      refine y_gI (i := 9) (e := (a : Int)) rfl rfl rfl (md170 hM) rfl h.1 ?_
      refine y_mul (z := (200 * (a : Int))) rfl rfl rfl ?_
      refine y_ld (x := .ref 170) rfl rfl (fun d => rfl) ?_
      refine y_gR (i := 5) rfl rfl rfl (md170 hM) rfl ?_
      refine y_ld (x := .ref 170) rfl rfl (fun d => rfl) ?_
      refine y_gI (i := 9) (e := (a : Int)) rfl rfl rfl (md170 hM) rfl h.1 ?_
      refine y_ild (x := ((st0).length : Int)) (q := a) rfl rfl (md174 hM) (by omega) (by decide) (by omega) h.2.2.2.2.2.2.2.1 ?_
      refine y_add (z := (200 * a + st0.length : Nat)) rfl rfl (by omega) ?_
      refine y_st (lv' := [(2, iv (200 * a + st0.length : Nat)), (1, iv (hr τ z p)), (0, .ref 170)]) rfl rfl (fun d => rfl) ?_
      refine y_ld (x := .ref 170) rfl rfl (fun d => rfl) ?_
      refine y_si rfl rfl (by decide) ?_
      refine y_ld (x := iv (hr τ z p)) rfl rfl (fun d => rfl) ?_
      refine y_bi rfl rfl (by decide) ?_
      refine y_jne rfl rfl rfl (by omega) (fun g26 => ?_) (fun g26 => absurd g26 (by omega))
      refine y_ld (x := iv (hr τ z p)) rfl rfl (fun d => rfl) ?_
      refine y_bi rfl rfl (by decide) ?_
      refine y_sub (z := ((hr τ z p) - 48)) rfl rfl rfl ?_
      refine y_add (z := (1000 + ((hr τ z p) - 48))) rfl rfl rfl ?_
      refine y_cV (as := [.ref 170, iv (1000 + ((hr τ z p) - 48))]) rfl rfl rfl rfl rfl (md170 hM) ⟨rfl, (Nat.le_of_ble_eq_true rfl), (Nat.le_of_ble_eq_true rfl)⟩ (by decide) (ct_emits hM (MP_f (p' := (p + 1)) (wr' := 0) (o' := ((0 : Nat) : Int)) (ln' := ln) h ⟨rfl, rfl, rfl, rfl, rfl, rfl⟩ rfl rfl h.2.2.2.2.1 h.2.2.2.2.2.1) hT.1 (by first | omega | (simp [encT_len]; omega)) (fun V28 h28 f28 e28 => ?_))
      refine y_n0 ?_
      refine y_ld (x := .ref 170) rfl rfl (fun d => rfl) ?_
      refine y_ic rfl rfl ?_
      refine y_cV (as := [.ref 170, iv 0]) rfl rfl rfl rfl rfl (md170 hM) ⟨rfl, (Nat.le_of_ble_eq_true rfl), (Nat.le_of_ble_eq_true rfl)⟩ (by decide) (ct_emits hM h28 hT.1 (by first | omega | (simp [encT_len]; omega)) (fun V29 h29 f29 e29 => ?_))
      refine y_n0 ?_
      refine y_ld (x := .ref 170) rfl rfl (fun d => rfl) ?_
      refine y_gI (i := 12) (e := 0) rfl rfl rfl (md170 hM) rfl h29.2.2.2.1 ?_
      refine y_zne rfl rfl rfl (by decide) (fun g27 => absurd g27 (by decide)) (fun g27 => ?_)
      refine y_ld (x := .ref 170) rfl rfl (fun d => rfl) ?_
      refine y_cV (as := [.ref 170]) rfl rfl rfl rfl rfl (md170 hM) ⟨rfl, (Nat.le_of_ble_eq_true rfl), (Nat.le_of_ble_eq_true rfl)⟩ (by decide) (ct_here hM h29 (by omega) ?_)
      have hq106 := hr_rg hT ((p + 1))
      refine y_nv ?_
      refine y_bi rfl rfl (by decide) ?_
      refine y_jne rfl rfl rfl (by omega) (fun g28 => ?_) (fun g28 => ?_)
      · refine y_ld (x := .ref 170) rfl rfl (fun d => rfl) ?_
        refine y_bi rfl rfl (by decide) ?_
        refine y_cV (as := [.ref 170, iv 58]) rfl rfl rfl rfl rfl (md170 hM) ⟨rfl, (Nat.le_of_ble_eq_true rfl), (Nat.le_of_ble_eq_true rfl)⟩ (by decide) (ct_mustA hM hT (by decide) h29 (by omega) (fun q31 V30 h30 f30 e30 => ?_) (fun q33 V32 h32 f32 e32 => ?_))
        · have pl34 := (hr_le (τ := τ) (z := z) (p := (p + 1)) (by omega))
          refine y_n0 ?_
          refine y_ic rfl rfl ?_
          refine y_st (lv' := [(3, iv 0), (2, iv (200 * a + st0.length : Nat)), (1, iv (hr τ z p)), (0, .ref 170)]) rfl rfl (fun d => rfl) ?_
          refine y_ld (x := .ref 170) rfl rfl (fun d => rfl) ?_
          refine y_gI (i := 12) (e := 0) rfl rfl rfl (md170 hM) rfl h30.2.2.2.1 ?_
          refine y_zne rfl rfl rfl (by decide) (fun g29 => absurd g29 (by decide)) (fun g29 => ?_)
          refine y_ic rfl rfl ?_
          refine y_go rfl rfl ?_
          refine y_st (lv' := [(4, iv 1), (3, iv 0), (2, iv (200 * a + st0.length : Nat)), (1, iv (hr τ z p)), (0, .ref 170)]) rfl rfl (fun d => rfl) ?_
          refine y_lv (l' := [(0, .ref 170), (2, iv (200 * a + st0.length : Nat)), (3, iv 0), (4, iv 1)]) rfl ⟨rfl, rfl, rfl, rfl, trivial⟩ ?_
          refine y_mono (lp_acts (D := 21) (F := 500) (atv := (200 * a + st0.length : Nat)) (st0 := ((st0 ++ [1000 + ((hr τ z p) - 48)]) ++ [0])) (g0 := g0) hM (by decide) hT hln hg0 5 0 _ _ _ _ ((p + 1) + 1) [] rfl (by decide) rfl (by omega) (by simp [encA, encT_len]; omega) (fun x hx => by cases hx) (by have hh := h30; rw [show encA [] = [] from rfl, List.append_nil]; exact hh) ?_ ?_) (by decide)
          · intro l35 r35 V35 x35 h35 f35 e35
            have ka := pAs_ok _ _ _ _ _ (by omega) (fun x hx => by cases hx) x35
            have kb := ka.2.2 _ rfl
            simp only [encA, List.length_nil] at kb
            refine y_ld (x := .ref 170) rfl rfl (fun d => rfl) ?_
            refine y_gI (i := 12) (e := 0) rfl rfl rfl (md170 hM) rfl h35.2.2.2.1 ?_
            refine y_zne rfl rfl rfl (by decide) (fun g30 => absurd g30 (by decide)) (fun g30 => ?_)
            refine y_ld (x := .ref 170) rfl rfl (fun d => rfl) ?_
            refine y_gR (i := 4) rfl rfl rfl (md170 hM) rfl ?_
            refine y_ld (x := iv (200 * a + st0.length : Nat)) rfl rfl (fun d => rfl) ?_
            refine y_ic rfl rfl ?_
            refine y_add (z := ((200 * a + st0.length : Nat) + 1)) rfl rfl rfl ?_
            refine y_ld (x := .ref 170) rfl rfl (fun d => rfl) ?_
            refine y_gR (i := 5) rfl rfl rfl (md170 hM) rfl ?_
            refine y_ld (x := .ref 170) rfl rfl (fun d => rfl) ?_
            refine y_gI (i := 9) (e := (a : Int)) rfl rfl rfl (md170 hM) rfl h35.1 ?_
            refine y_ild (x := (((((st0 ++ [1000 + ((hr τ z p) - 48)]) ++ [0]) ++ encA l35)).length : Int)) (q := a) rfl rfl (md174 hM) (by omega) (by decide) (by omega) h35.2.2.2.2.2.2.2.1 ?_
            refine y_ist (q := (200 * a + (st0.length + 1))) rfl rfl (md173 hM) (by omega) (by decide) (by simp; omega) ?_
            refine y_ld (x := .ref 170) rfl rfl (fun d => rfl) ?_
            refine y_gR (i := 7) rfl rfl rfl (md170 hM) rfl ?_
            refine y_bi rfl rfl (by decide) ?_
            refine y_ld (x := .ref 170) rfl rfl (fun d => rfl) ?_
            refine y_gI (i := 9) (e := (a : Int)) rfl rfl rfl (md170 hM) rfl h35.1 ?_
            refine y_mul (z := (8 * (a : Int))) rfl rfl rfl ?_
            refine y_ld (x := .ref 170) rfl rfl (fun d => rfl) ?_
            refine y_gI (i := 14) (e := ln) rfl rfl rfl (md170 hM) rfl h35.2.2.2.2.2.1 ?_
            refine y_add (z := ((8 * (a : Int)) + ln)) rfl rfl rfl ?_
            refine y_ld (x := iv (l35.length : Int)) rfl rfl (fun d => rfl) ?_
            refine y_ist (q := (8 * a + lnn)) rfl rfl (md176 hM) (by omega) (by decide) (by omega) ?_
            refine y_ld (x := .ref 170) rfl rfl (fun d => rfl) ?_
            refine y_in rfl rfl (fun d => rfl) ?_
            refine y_gI (i := 14) (e := ln) rfl rfl rfl (md170 hM) rfl h35.2.2.2.2.2.1 ?_
            refine y_ic rfl rfl ?_
            refine y_add (z := (ln + 1)) rfl rfl rfl ?_
            refine y_pI (i := 14) rfl rfl rfl (md170 hM) rfl rfl ?_
            refine y_ret rfl (fun d => rfl) ?_
            refine k1 _ _ _ (pL_4 (Or.inr (by omega)) (pE_0 g28) q31 x35) ?_ (MF_u0 (by decide) (MF_u6 (by omega) (MF_u3 (by omega) (MF_tr (MF_tr (MF_tr (MF_tr (MF_u0 (by decide) (MF_u0 (by decide) (MF_rf a V))) f28) f29) f30) f35)))) (by show v_uf (V35 176) _ _ = _; rw [show V35 176 = V 176 from (e35.trans (e30.trans (e29.trans (e28.trans rfl))))])
            have hh := h35
            have ek : 1000 + (if hr τ z p = 42 then (4 : Int) else hr τ z p - 48) = 1000 + ((hr τ z p) - 48) := by rw [if_neg (by omega)]
            have eb : bodyL ((if hr τ z p = 42 then (4 : Int) else hr τ z p - 48), ((false, []) : Bool × List p_Tk).1, ((false, []) : Bool × List p_Tk).2, l35) = encA l35 := by unfold bodyL; simp [encT]
            have el : encL st0.length ((if hr τ z p = 42 then (4 : Int) else hr τ z p - 48), ((false, []) : Bool × List p_Tk).1, ((false, []) : Bool × List p_Tk).2, l35) = (1000 + ((hr τ z p) - 48)) :: ((st0.length + 2 + (encA l35).length : Nat) : Int) :: (encA l35) := by
              unfold encL
              rw [eb]
              show (1000 + (if hr τ z p = 42 then (4 : Int) else hr τ z p - 48)) :: _ = _
              rw [ek]
            have ev : ((((st0 ++ [1000 + ((hr τ z p) - 48)]) ++ [0]) ++ encA l35).length : Int) = ((st0.length + 2 + (encA l35).length : Nat) : Int) := by simp; omega
            rw [el, ← ev]
            have hs := MP_set (i := st0.length + 1) (x := ((((st0 ++ [1000 + ((hr τ z p) - 48)]) ++ [0]) ++ encA l35).length : Int)) hh (by simp)
            have ea : ((st0 ++ [1000 + ((hr τ z p) - 48)]) ++ [0]) ++ encA l35 = (st0 ++ [1000 + ((hr τ z p) - 48)]) ++ ([0] ++ (encA l35)) := by simp only [List.append_assoc]
            have eq2 : (((st0 ++ [1000 + ((hr τ z p) - 48)]) ++ [0]) ++ encA l35).set (st0.length + 1) ((((st0 ++ [1000 + ((hr τ z p) - 48)]) ++ [0]) ++ encA l35).length : Int) = st0 ++ ((1000 + ((hr τ z p) - 48)) :: ((((st0 ++ [1000 + ((hr τ z p) - 48)]) ++ [0]) ++ encA l35).length : Int) :: (encA l35)) := (congrArg (fun l => List.set l (st0.length + 1) ((((st0 ++ [1000 + ((hr τ z p) - 48)]) ++ [0]) ++ encA l35).length : Int)) ea).trans (v_set2 _ _ _ _ _)
            rw [eq2] at hs
            exact MP_f (MP_6 (i := 8 * a + lnn) (x := (l35.length : Int)) hs) ⟨rfl, rfl, rfl, rfl, rfl, rfl⟩ h35.2.1 h35.2.2.2.1 h35.2.2.2.2.1 rfl
          · intro r36 V36 s36 g_36 x36 h36 f36 e36
            refine y_ld (x := .ref 170) rfl rfl (fun d => rfl) ?_
            refine y_gI (i := 12) (e := 1) rfl rfl rfl (md170 hM) rfl h36.2.2.2.1 ?_
            refine y_zne rfl rfl rfl (by decide) (fun g31 => ?_) (fun g31 => absurd g31 (by decide))
            refine y_ret rfl (fun d => rfl) ?_
            exact k2 _ _ _ _ _ (pL_3 (Or.inr (by omega)) (pE_0 g28) q31 x36) h36 (MF_tr (MF_tr (MF_tr (MF_tr (MF_u0 (by decide) (MF_u0 (by decide) (MF_rf a V))) f28) f29) f30) f36) (e36.trans (e30.trans (e29.trans (e28.trans rfl))))
        · refine y_n0 ?_
          refine y_ic rfl rfl ?_
          refine y_st (lv' := [(3, iv 0), (2, iv (200 * a + st0.length : Nat)), (1, iv (hr τ z p)), (0, .ref 170)]) rfl rfl (fun d => rfl) ?_
          refine y_ld (x := .ref 170) rfl rfl (fun d => rfl) ?_
          refine y_gI (i := 12) (e := 1) rfl rfl rfl (md170 hM) rfl h32.2.2.2.1 ?_
          refine y_zne rfl rfl rfl (by decide) (fun g32 => ?_) (fun g32 => absurd g32 (by decide))
          refine y_ic rfl rfl ?_
          refine y_st (lv' := [(4, iv 0), (3, iv 0), (2, iv (200 * a + st0.length : Nat)), (1, iv (hr τ z p)), (0, .ref 170)]) rfl rfl (fun d => rfl) ?_
          refine y_ld (x := iv 0) rfl rfl (fun d => rfl) ?_
          refine y_zeq rfl rfl rfl (by decide) (fun g33 => ?_) (fun g33 => absurd g33 (by decide))
          refine y_ld (x := .ref 170) rfl rfl (fun d => rfl) ?_
          refine y_gI (i := 12) (e := 1) rfl rfl rfl (md170 hM) rfl h32.2.2.2.1 ?_
          refine y_zne rfl rfl rfl (by decide) (fun g34 => ?_) (fun g34 => absurd g34 (by decide))
          refine y_ret rfl (fun d => rfl) ?_
          exact k2 _ _ _ _ _ (pL_2 (Or.inr (by omega)) (pE_0 g28) q33) h32 (MF_tr (MF_tr (MF_tr (MF_u0 (by decide) (MF_u0 (by decide) (MF_rf a V))) f28) f29) f32) (e32.trans (e29.trans (e28.trans rfl)))
      · refine y_ld (x := .ref 170) rfl rfl (fun d => rfl) ?_
        refine y_in rfl rfl (fun d => rfl) ?_
        refine y_gI (i := 10) (e := (((p + 1) : Nat) : Int)) rfl rfl rfl (md170 hM) rfl h29.2.1 ?_
        refine y_ic rfl rfl ?_
        refine y_add (z := ((((p + 1) : Nat) : Int) + 1)) rfl rfl rfl ?_
        refine y_pI (i := 10) rfl rfl rfl (md170 hM) rfl rfl ?_
        have pl1 := hr_le (τ := τ) (z := z) (p := p + 1) (by omega)
        refine y_ld (x := .ref 170) rfl rfl (fun d => rfl) ?_
        refine y_ic rfl rfl ?_
        refine y_pI (i := 13) rfl rfl rfl (md170 hM) rfl rfl ?_
        refine y_ld (x := .ref 170) rfl rfl (fun d => rfl) ?_
        refine y_cV (as := [.ref 170]) rfl rfl rfl rfl rfl (md170 hM) ⟨rfl, (Nat.le_of_ble_eq_true rfl), (Nat.le_of_ble_eq_true rfl)⟩ (by decide) ((st_all (st0 := ((st0 ++ [1000 + ((hr τ z p) - 48)]) ++ [0])) (g0 := g0) hM hT hln hg0 1000 (by decide)).2.2.2.1 _ _ _ _ (p + 1 + 1) 1 _ [] (by decide) (by omega) (by omega) (by simp; omega) (by decide : 3 * (6 - 1) + 6 ≤ 21) (fun t ht => by cases ht) (by have hh := (MP_f (V' := (v_up (v_up V29 170 10 ((((p + 1) : Nat) : Int) + 1)) 170 13 1)) (p' := (p + 1 + 1)) (wr' := 0) (o' := ((1 : Nat) : Int)) (ln' := ln) h29 ⟨rfl, rfl, rfl, rfl, rfl, rfl⟩ rfl h29.2.2.2.1 rfl h29.2.2.2.2.2.1); rw [show encT [] = [] from rfl, List.append_nil]; exact hh) (fun l37 r37 V37 x37 h37 f37 e37 => ?_) (fun r38 V38 s38 g_38 y37 h38 f38 e38 => ?_))
        · have kk37 := pX_ok _ _ _ _ _ _ _ (by decide) (by omega) x37
          have mm37 := (kk37.2.2 _ rfl)
          have tt37 := pX_tk _ _ _ _ _ _ _ (by decide) (by omega) (fun t ht => by cases ht) x37
          simp only [List.length_nil] at mm37
          refine y_n0 ?_
          refine y_ld (x := .ref 170) rfl rfl (fun d => rfl) ?_
          refine y_bi rfl rfl (by decide) ?_
          refine y_cV (as := [.ref 170, iv 41]) rfl rfl rfl rfl rfl (md170 hM) ⟨rfl, (Nat.le_of_ble_eq_true rfl), (Nat.le_of_ble_eq_true rfl)⟩ (by decide) (ct_mustA hM hT (by decide) h37 (by omega) (fun q40 V39 h39 f39 e39 => ?_) (fun q42 V41 h41 f41 e41 => ?_))
          · have pl43 := (hr_le (τ := τ) (z := z) (p := r37) (by omega))
            refine y_n0 ?_
            refine y_ld (x := .ref 170) rfl rfl (fun d => rfl) ?_
            refine y_ic rfl rfl ?_
            refine y_pI (i := 13) rfl rfl rfl (md170 hM) rfl rfl ?_
            refine y_ld (x := .ref 170) rfl rfl (fun d => rfl) ?_
            refine y_bi rfl rfl (by decide) ?_
            refine y_cV (as := [.ref 170, iv (-4)]) rfl rfl rfl rfl rfl (md170 hM) ⟨rfl, (Nat.le_of_ble_eq_true rfl), (Nat.le_of_ble_eq_true rfl)⟩ (by decide) (ct_emits hM (MP_f (p' := (r37 + 1)) (wr' := 0) (o' := ((0 : Nat) : Int)) (ln' := ln) h39 ⟨rfl, rfl, rfl, rfl, rfl, rfl⟩ h39.2.1 h39.2.2.2.1 rfl h39.2.2.2.2.2.1) hT.1 (by first | omega | (simp [encT_len]; omega)) (fun V44 h44 f44 e44 => ?_))
            refine y_n0 ?_
            refine y_ld (x := .ref 170) rfl rfl (fun d => rfl) ?_
            refine y_bi rfl rfl (by decide) ?_
            refine y_cV (as := [.ref 170, iv 58]) rfl rfl rfl rfl rfl (md170 hM) ⟨rfl, (Nat.le_of_ble_eq_true rfl), (Nat.le_of_ble_eq_true rfl)⟩ (by decide) (ct_mustA hM hT (by decide) h44 (by omega) (fun q46 V45 h45 f45 e45 => ?_) (fun q48 V47 h47 f47 e47 => ?_))
            · have pl49 := (hr_le (τ := τ) (z := z) (p := (r37 + 1)) (by omega))
              refine y_n0 ?_
              refine y_ic rfl rfl ?_
              refine y_st (lv' := [(3, iv 0), (2, iv (200 * a + st0.length : Nat)), (1, iv (hr τ z p)), (0, .ref 170)]) rfl rfl (fun d => rfl) ?_
              refine y_ld (x := .ref 170) rfl rfl (fun d => rfl) ?_
              refine y_gI (i := 12) (e := 0) rfl rfl rfl (md170 hM) rfl h45.2.2.2.1 ?_
              refine y_zne rfl rfl rfl (by decide) (fun g35 => absurd g35 (by decide)) (fun g35 => ?_)
              refine y_ic rfl rfl ?_
              refine y_go rfl rfl ?_
              refine y_st (lv' := [(4, iv 1), (3, iv 0), (2, iv (200 * a + st0.length : Nat)), (1, iv (hr τ z p)), (0, .ref 170)]) rfl rfl (fun d => rfl) ?_
              refine y_lv (l' := [(0, .ref 170), (2, iv (200 * a + st0.length : Nat)), (3, iv 0), (4, iv 1)]) rfl ⟨rfl, rfl, rfl, rfl, trivial⟩ ?_
              refine y_mono (lp_acts (D := 21) (F := 500) (atv := (200 * a + st0.length : Nat)) (st0 := ((((st0 ++ [1000 + ((hr τ z p) - 48)]) ++ [0]) ++ encT l37) ++ [-4])) (g0 := (mkT ln g0 l37)) hM (by decide) hT hln (mkT_bd hln l37 g0 tt37 hg0) 5 0 _ _ _ _ ((r37 + 1) + 1) [] rfl (by decide) rfl (by omega) (by simp [encA, encT_len]; omega) (fun x hx => by cases hx) (by have hh := h45; rw [show encA [] = [] from rfl, List.append_nil]; exact hh) ?_ ?_) (by decide)
              · intro l50 r50 V50 x50 h50 f50 e50
                have ka := pAs_ok _ _ _ _ _ (by omega) (fun x hx => by cases hx) x50
                have kb := ka.2.2 _ rfl
                simp only [encA, List.length_nil] at kb
                refine y_ld (x := .ref 170) rfl rfl (fun d => rfl) ?_
                refine y_gI (i := 12) (e := 0) rfl rfl rfl (md170 hM) rfl h50.2.2.2.1 ?_
                refine y_zne rfl rfl rfl (by decide) (fun g36 => absurd g36 (by decide)) (fun g36 => ?_)
                refine y_ld (x := .ref 170) rfl rfl (fun d => rfl) ?_
                refine y_gR (i := 4) rfl rfl rfl (md170 hM) rfl ?_
                refine y_ld (x := iv (200 * a + st0.length : Nat)) rfl rfl (fun d => rfl) ?_
                refine y_ic rfl rfl ?_
                refine y_add (z := ((200 * a + st0.length : Nat) + 1)) rfl rfl rfl ?_
                refine y_ld (x := .ref 170) rfl rfl (fun d => rfl) ?_
                refine y_gR (i := 5) rfl rfl rfl (md170 hM) rfl ?_
                refine y_ld (x := .ref 170) rfl rfl (fun d => rfl) ?_
                refine y_gI (i := 9) (e := (a : Int)) rfl rfl rfl (md170 hM) rfl h50.1 ?_
                refine y_ild (x := (((((((st0 ++ [1000 + ((hr τ z p) - 48)]) ++ [0]) ++ encT l37) ++ [-4]) ++ encA l50)).length : Int)) (q := a) rfl rfl (md174 hM) (by omega) (by decide) (by omega) h50.2.2.2.2.2.2.2.1 ?_
                refine y_ist (q := (200 * a + (st0.length + 1))) rfl rfl (md173 hM) (by omega) (by decide) (by simp; omega) ?_
                refine y_ld (x := .ref 170) rfl rfl (fun d => rfl) ?_
                refine y_gR (i := 7) rfl rfl rfl (md170 hM) rfl ?_
                refine y_bi rfl rfl (by decide) ?_
                refine y_ld (x := .ref 170) rfl rfl (fun d => rfl) ?_
                refine y_gI (i := 9) (e := (a : Int)) rfl rfl rfl (md170 hM) rfl h50.1 ?_
                refine y_mul (z := (8 * (a : Int))) rfl rfl rfl ?_
                refine y_ld (x := .ref 170) rfl rfl (fun d => rfl) ?_
                refine y_gI (i := 14) (e := ln) rfl rfl rfl (md170 hM) rfl h50.2.2.2.2.2.1 ?_
                refine y_add (z := ((8 * (a : Int)) + ln)) rfl rfl rfl ?_
                refine y_ld (x := iv (l50.length : Int)) rfl rfl (fun d => rfl) ?_
                refine y_ist (q := (8 * a + lnn)) rfl rfl (md176 hM) (by omega) (by decide) (by omega) ?_
                refine y_ld (x := .ref 170) rfl rfl (fun d => rfl) ?_
                refine y_in rfl rfl (fun d => rfl) ?_
                refine y_gI (i := 14) (e := ln) rfl rfl rfl (md170 hM) rfl h50.2.2.2.2.2.1 ?_
                refine y_ic rfl rfl ?_
                refine y_add (z := (ln + 1)) rfl rfl rfl ?_
                refine y_pI (i := 14) rfl rfl rfl (md170 hM) rfl rfl ?_
                refine y_ret rfl (fun d => rfl) ?_
                refine k1 _ _ _ (pL_4 (Or.inr (by omega)) (pE_1 g28 x37 q40) q46 x50) ?_ (MF_u0 (by decide) (MF_u6 (by omega) (MF_u3 (by omega) (MF_tr (MF_tr (MF_tr (MF_u0 (by decide) (MF_tr (MF_tr (MF_u0 (by decide) (MF_u0 (by decide) (MF_tr (MF_tr (MF_u0 (by decide) (MF_u0 (by decide) (MF_rf a V))) f28) f29))) f37) f39)) f44) f45) f50)))) (by show v_uf (V50 176) _ _ = _; rw [show V50 176 = V 176 from (e50.trans (e45.trans (e44.trans (e39.trans (e37.trans (e29.trans (e28.trans rfl)))))))])
                have hh := h50
                have ek : 1000 + (if hr τ z p = 42 then (4 : Int) else hr τ z p - 48) = 1000 + ((hr τ z p) - 48) := by rw [if_neg (by omega)]
                have eb : bodyL ((if hr τ z p = 42 then (4 : Int) else hr τ z p - 48), (true, l37).1, (true, l37).2, l50) = encT l37 ++ ([-4] ++ encA l50) := by unfold bodyL; simp
                have el : encL st0.length ((if hr τ z p = 42 then (4 : Int) else hr τ z p - 48), (true, l37).1, (true, l37).2, l50) = (1000 + ((hr τ z p) - 48)) :: ((st0.length + 2 + (encT l37 ++ ([-4] ++ encA l50)).length : Nat) : Int) :: (encT l37 ++ ([-4] ++ encA l50)) := by
                  unfold encL
                  rw [eb]
                  show (1000 + (if hr τ z p = 42 then (4 : Int) else hr τ z p - 48)) :: _ = _
                  rw [ek]
                have ev : ((((((st0 ++ [1000 + ((hr τ z p) - 48)]) ++ [0]) ++ encT l37) ++ [-4]) ++ encA l50).length : Int) = ((st0.length + 2 + (encT l37 ++ ([-4] ++ encA l50)).length : Nat) : Int) := by simp; omega
                rw [el, ← ev]
                have hs := MP_set (i := st0.length + 1) (x := ((((((st0 ++ [1000 + ((hr τ z p) - 48)]) ++ [0]) ++ encT l37) ++ [-4]) ++ encA l50).length : Int)) hh (by simp)
                have ea : ((((st0 ++ [1000 + ((hr τ z p) - 48)]) ++ [0]) ++ encT l37) ++ [-4]) ++ encA l50 = (st0 ++ [1000 + ((hr τ z p) - 48)]) ++ ([0] ++ (encT l37 ++ ([-4] ++ encA l50))) := by simp only [List.append_assoc]
                have eq2 : (((((st0 ++ [1000 + ((hr τ z p) - 48)]) ++ [0]) ++ encT l37) ++ [-4]) ++ encA l50).set (st0.length + 1) ((((((st0 ++ [1000 + ((hr τ z p) - 48)]) ++ [0]) ++ encT l37) ++ [-4]) ++ encA l50).length : Int) = st0 ++ ((1000 + ((hr τ z p) - 48)) :: ((((((st0 ++ [1000 + ((hr τ z p) - 48)]) ++ [0]) ++ encT l37) ++ [-4]) ++ encA l50).length : Int) :: (encT l37 ++ ([-4] ++ encA l50))) := (congrArg (fun l => List.set l (st0.length + 1) ((((((st0 ++ [1000 + ((hr τ z p) - 48)]) ++ [0]) ++ encT l37) ++ [-4]) ++ encA l50).length : Int)) ea).trans (v_set2 _ _ _ _ _)
                rw [eq2] at hs
                exact MP_f (MP_6 (i := 8 * a + lnn) (x := (l50.length : Int)) hs) ⟨rfl, rfl, rfl, rfl, rfl, rfl⟩ h50.2.1 h50.2.2.2.1 h50.2.2.2.2.1 rfl
              · intro r51 V51 s51 g_51 x51 h51 f51 e51
                refine y_ld (x := .ref 170) rfl rfl (fun d => rfl) ?_
                refine y_gI (i := 12) (e := 1) rfl rfl rfl (md170 hM) rfl h51.2.2.2.1 ?_
                refine y_zne rfl rfl rfl (by decide) (fun g37 => ?_) (fun g37 => absurd g37 (by decide))
                refine y_ret rfl (fun d => rfl) ?_
                exact k2 _ _ _ _ _ (pL_3 (Or.inr (by omega)) (pE_1 g28 x37 q40) q46 x51) h51 (MF_tr (MF_tr (MF_tr (MF_u0 (by decide) (MF_tr (MF_tr (MF_u0 (by decide) (MF_u0 (by decide) (MF_tr (MF_tr (MF_u0 (by decide) (MF_u0 (by decide) (MF_rf a V))) f28) f29))) f37) f39)) f44) f45) f51) (e51.trans (e45.trans (e44.trans (e39.trans (e37.trans (e29.trans (e28.trans rfl)))))))
            · refine y_n0 ?_
              refine y_ic rfl rfl ?_
              refine y_st (lv' := [(3, iv 0), (2, iv (200 * a + st0.length : Nat)), (1, iv (hr τ z p)), (0, .ref 170)]) rfl rfl (fun d => rfl) ?_
              refine y_ld (x := .ref 170) rfl rfl (fun d => rfl) ?_
              refine y_gI (i := 12) (e := 1) rfl rfl rfl (md170 hM) rfl h47.2.2.2.1 ?_
              refine y_zne rfl rfl rfl (by decide) (fun g38 => ?_) (fun g38 => absurd g38 (by decide))
              refine y_ic rfl rfl ?_
              refine y_st (lv' := [(4, iv 0), (3, iv 0), (2, iv (200 * a + st0.length : Nat)), (1, iv (hr τ z p)), (0, .ref 170)]) rfl rfl (fun d => rfl) ?_
              refine y_ld (x := iv 0) rfl rfl (fun d => rfl) ?_
              refine y_zeq rfl rfl rfl (by decide) (fun g39 => ?_) (fun g39 => absurd g39 (by decide))
              refine y_ld (x := .ref 170) rfl rfl (fun d => rfl) ?_
              refine y_gI (i := 12) (e := 1) rfl rfl rfl (md170 hM) rfl h47.2.2.2.1 ?_
              refine y_zne rfl rfl rfl (by decide) (fun g40 => ?_) (fun g40 => absurd g40 (by decide))
              refine y_ret rfl (fun d => rfl) ?_
              exact k2 _ _ _ _ _ (pL_2 (Or.inr (by omega)) (pE_1 g28 x37 q40) q48) h47 (MF_tr (MF_tr (MF_u0 (by decide) (MF_tr (MF_tr (MF_u0 (by decide) (MF_u0 (by decide) (MF_tr (MF_tr (MF_u0 (by decide) (MF_u0 (by decide) (MF_rf a V))) f28) f29))) f37) f39)) f44) f47) (e47.trans (e44.trans (e39.trans (e37.trans (e29.trans (e28.trans rfl))))))
          · refine y_n0 ?_
            refine y_ld (x := .ref 170) rfl rfl (fun d => rfl) ?_
            refine y_ic rfl rfl ?_
            refine y_pI (i := 13) rfl rfl rfl (md170 hM) rfl rfl ?_
            refine y_ld (x := .ref 170) rfl rfl (fun d => rfl) ?_
            refine y_bi rfl rfl (by decide) ?_
            refine y_cV (as := [.ref 170, iv (-4)]) rfl rfl rfl rfl rfl (md170 hM) ⟨rfl, (Nat.le_of_ble_eq_true rfl), (Nat.le_of_ble_eq_true rfl)⟩ (by decide) (ct_emits1 hM (MP_f (p' := r37) (wr' := 1) (o' := ((0 : Nat) : Int)) (ln' := ln) h41 ⟨rfl, rfl, rfl, rfl, rfl, rfl⟩ h41.2.1 h41.2.2.2.1 rfl h41.2.2.2.2.2.1) ?_)
            refine y_n0 ?_
            refine y_ld (x := .ref 170) rfl rfl (fun d => rfl) ?_
            refine y_bi rfl rfl (by decide) ?_
            refine y_cV (as := [.ref 170, iv 58]) rfl rfl rfl rfl rfl (md170 hM) ⟨rfl, (Nat.le_of_ble_eq_true rfl), (Nat.le_of_ble_eq_true rfl)⟩ (by decide) (ct_must1 hM (MP_f (p' := r37) (wr' := 1) (o' := ((0 : Nat) : Int)) (ln' := ln) h41 ⟨rfl, rfl, rfl, rfl, rfl, rfl⟩ h41.2.1 h41.2.2.2.1 rfl h41.2.2.2.2.2.1) (fun V52 h52 f52 e52 => ?_))
            refine y_n0 ?_
            refine y_ic rfl rfl ?_
            refine y_st (lv' := [(3, iv 0), (2, iv (200 * a + st0.length : Nat)), (1, iv (hr τ z p)), (0, .ref 170)]) rfl rfl (fun d => rfl) ?_
            refine y_ld (x := .ref 170) rfl rfl (fun d => rfl) ?_
            refine y_gI (i := 12) (e := 1) rfl rfl rfl (md170 hM) rfl h52.2.2.2.1 ?_
            refine y_zne rfl rfl rfl (by decide) (fun g41 => ?_) (fun g41 => absurd g41 (by decide))
            refine y_ic rfl rfl ?_
            refine y_st (lv' := [(4, iv 0), (3, iv 0), (2, iv (200 * a + st0.length : Nat)), (1, iv (hr τ z p)), (0, .ref 170)]) rfl rfl (fun d => rfl) ?_
            refine y_ld (x := iv 0) rfl rfl (fun d => rfl) ?_
            refine y_zeq rfl rfl rfl (by decide) (fun g42 => ?_) (fun g42 => absurd g42 (by decide))
            refine y_ld (x := .ref 170) rfl rfl (fun d => rfl) ?_
            refine y_gI (i := 12) (e := 1) rfl rfl rfl (md170 hM) rfl h52.2.2.2.1 ?_
            refine y_zne rfl rfl rfl (by decide) (fun g43 => ?_) (fun g43 => absurd g43 (by decide))
            refine y_ret rfl (fun d => rfl) ?_
            exact k2 _ _ _ _ _ (pL_1 (Or.inr (by omega)) (pE_2 g28 x37 q42)) h52 (MF_tr (MF_u0 (by decide) (MF_tr (MF_tr (MF_u0 (by decide) (MF_u0 (by decide) (MF_tr (MF_tr (MF_u0 (by decide) (MF_u0 (by decide) (MF_rf a V))) f28) f29))) f37) f41)) f52) (e52.trans (e41.trans (e37.trans (e29.trans (e28.trans rfl)))))
        · have kk38 := pX_ok _ _ _ _ _ _ _ (by decide) (by omega) y37
          refine y_n0 ?_
          refine y_ld (x := .ref 170) rfl rfl (fun d => rfl) ?_
          refine y_bi rfl rfl (by decide) ?_
          refine y_cV (as := [.ref 170, iv 41]) rfl rfl rfl rfl rfl (md170 hM) ⟨rfl, (Nat.le_of_ble_eq_true rfl), (Nat.le_of_ble_eq_true rfl)⟩ (by decide) (ct_must1 hM h38 (fun V53 h53 f53 e53 => ?_))
          refine y_n0 ?_
          refine y_ld (x := .ref 170) rfl rfl (fun d => rfl) ?_
          refine y_ic rfl rfl ?_
          refine y_pI (i := 13) rfl rfl rfl (md170 hM) rfl rfl ?_
          refine y_ld (x := .ref 170) rfl rfl (fun d => rfl) ?_
          refine y_bi rfl rfl (by decide) ?_
          refine y_cV (as := [.ref 170, iv (-4)]) rfl rfl rfl rfl rfl (md170 hM) ⟨rfl, (Nat.le_of_ble_eq_true rfl), (Nat.le_of_ble_eq_true rfl)⟩ (by decide) (ct_emits1 hM (MP_f (p' := r38) (wr' := 1) (o' := ((0 : Nat) : Int)) (ln' := ln) h53 ⟨rfl, rfl, rfl, rfl, rfl, rfl⟩ h53.2.1 h53.2.2.2.1 rfl h53.2.2.2.2.2.1) ?_)
          refine y_n0 ?_
          refine y_ld (x := .ref 170) rfl rfl (fun d => rfl) ?_
          refine y_bi rfl rfl (by decide) ?_
          refine y_cV (as := [.ref 170, iv 58]) rfl rfl rfl rfl rfl (md170 hM) ⟨rfl, (Nat.le_of_ble_eq_true rfl), (Nat.le_of_ble_eq_true rfl)⟩ (by decide) (ct_must1 hM (MP_f (p' := r38) (wr' := 1) (o' := ((0 : Nat) : Int)) (ln' := ln) h53 ⟨rfl, rfl, rfl, rfl, rfl, rfl⟩ h53.2.1 h53.2.2.2.1 rfl h53.2.2.2.2.2.1) (fun V54 h54 f54 e54 => ?_))
          refine y_n0 ?_
          refine y_ic rfl rfl ?_
          refine y_st (lv' := [(3, iv 0), (2, iv (200 * a + st0.length : Nat)), (1, iv (hr τ z p)), (0, .ref 170)]) rfl rfl (fun d => rfl) ?_
          refine y_ld (x := .ref 170) rfl rfl (fun d => rfl) ?_
          refine y_gI (i := 12) (e := 1) rfl rfl rfl (md170 hM) rfl h54.2.2.2.1 ?_
          refine y_zne rfl rfl rfl (by decide) (fun g44 => ?_) (fun g44 => absurd g44 (by decide))
          refine y_ic rfl rfl ?_
          refine y_st (lv' := [(4, iv 0), (3, iv 0), (2, iv (200 * a + st0.length : Nat)), (1, iv (hr τ z p)), (0, .ref 170)]) rfl rfl (fun d => rfl) ?_
          refine y_ld (x := iv 0) rfl rfl (fun d => rfl) ?_
          refine y_zeq rfl rfl rfl (by decide) (fun g45 => ?_) (fun g45 => absurd g45 (by decide))
          refine y_ld (x := .ref 170) rfl rfl (fun d => rfl) ?_
          refine y_gI (i := 12) (e := 1) rfl rfl rfl (md170 hM) rfl h54.2.2.2.1 ?_
          refine y_zne rfl rfl rfl (by decide) (fun g46 => ?_) (fun g46 => absurd g46 (by decide))
          refine y_ret rfl (fun d => rfl) ?_
          exact k2 _ _ _ _ _ (pL_1 (Or.inr (by omega)) (pE_3 g28 y37)) h54 (MF_tr (MF_u0 (by decide) (MF_tr (MF_tr (MF_u0 (by decide) (MF_u0 (by decide) (MF_tr (MF_tr (MF_u0 (by decide) (MF_u0 (by decide) (MF_rf a V))) f28) f29))) f38) f53)) f54) (e54.trans (e53.trans (e38.trans (e29.trans (e28.trans rfl)))))
    · refine y_ic rfl rfl ?_
      refine y_go rfl rfl ?_
      refine y_pZ (i := 12) rfl rfl rfl (md170 hM) rfl rfl (by decide) ?_
      refine y_ld (x := .ref 170) rfl rfl (fun d => rfl) ?_
      refine y_in rfl rfl (fun d => rfl) ?_
      refine y_gI (i := 10) (e := ((p : Nat) : Int)) rfl rfl rfl (md170 hM) rfl h.2.1 ?_
      refine y_ld (x := .ref 170) rfl rfl (fun d => rfl) ?_
      refine y_gI (i := 12) (e := 1) rfl rfl rfl (md170 hM) rfl rfl ?_
      refine y_zeq rfl rfl rfl (by decide) (fun g47 => absurd g47 (by decide)) (fun g47 => ?_)
      refine y_ic rfl rfl ?_
      refine y_go rfl rfl ?_
      refine y_add (z := (((p : Nat) : Int) + 0)) rfl rfl rfl ?_
      refine y_pI (i := 10) rfl rfl rfl (md170 hM) rfl rfl ?_
      refine y_si rfl rfl (by decide) ?_
      refine y_ld (x := .ref 170) rfl rfl (fun d => rfl) ?_
      refine y_gI (i := 9) (e := (a : Int)) rfl rfl rfl (md170 hM) rfl h.1 ?_
      refine y_mul (z := (200 * (a : Int))) rfl rfl rfl ?_
      refine y_ld (x := .ref 170) rfl rfl (fun d => rfl) ?_
      refine y_gR (i := 5) rfl rfl rfl (md170 hM) rfl ?_
      refine y_ld (x := .ref 170) rfl rfl (fun d => rfl) ?_
      refine y_gI (i := 9) (e := (a : Int)) rfl rfl rfl (md170 hM) rfl h.1 ?_
      refine y_ild (x := ((st0).length : Int)) (q := a) rfl rfl (md174 hM) (by omega) (by decide) (by omega) h.2.2.2.2.2.2.2.1 ?_
      refine y_add (z := (200 * a + st0.length : Nat)) rfl rfl (by omega) ?_
      refine y_st (lv' := [(2, iv (200 * a + st0.length : Nat)), (1, iv (hr τ z p)), (0, .ref 170)]) rfl rfl (fun d => rfl) ?_
      refine y_ld (x := .ref 170) rfl rfl (fun d => rfl) ?_
      refine y_si rfl rfl (by decide) ?_
      refine y_ld (x := iv (hr τ z p)) rfl rfl (fun d => rfl) ?_
      refine y_bi rfl rfl (by decide) ?_
      refine y_jne rfl rfl rfl (by omega) (fun g48 => ?_) (fun g48 => absurd g48 (by omega))
      refine y_ld (x := iv (hr τ z p)) rfl rfl (fun d => rfl) ?_
      refine y_bi rfl rfl (by decide) ?_
      refine y_sub (z := ((hr τ z p) - 48)) rfl rfl rfl ?_
      refine y_add (z := (1000 + ((hr τ z p) - 48))) rfl rfl rfl ?_
      refine y_cV (as := [.ref 170, iv (1000 + ((hr τ z p) - 48))]) rfl rfl rfl rfl rfl (md170 hM) ⟨rfl, (Nat.le_of_ble_eq_true rfl), (Nat.le_of_ble_eq_true rfl)⟩ (by decide) (ct_emits1 hM (MP_f (p' := p) (wr' := 1) (o' := ((0 : Nat) : Int)) (ln' := ln) h ⟨rfl, rfl, rfl, rfl, rfl, rfl⟩ rfl rfl h.2.2.2.2.1 h.2.2.2.2.2.1) ?_)
      refine y_n0 ?_
      refine y_ld (x := .ref 170) rfl rfl (fun d => rfl) ?_
      refine y_ic rfl rfl ?_
      refine y_cV (as := [.ref 170, iv 0]) rfl rfl rfl rfl rfl (md170 hM) ⟨rfl, (Nat.le_of_ble_eq_true rfl), (Nat.le_of_ble_eq_true rfl)⟩ (by decide) (ct_emits1 hM (MP_f (p' := p) (wr' := 1) (o' := ((0 : Nat) : Int)) (ln' := ln) h ⟨rfl, rfl, rfl, rfl, rfl, rfl⟩ rfl rfl h.2.2.2.2.1 h.2.2.2.2.2.1) ?_)
      refine y_n0 ?_
      refine y_ld (x := .ref 170) rfl rfl (fun d => rfl) ?_
      refine y_gI (i := 12) (e := 1) rfl rfl rfl (md170 hM) rfl rfl ?_
      refine y_zne rfl rfl rfl (by decide) (fun g49 => ?_) (fun g49 => absurd g49 (by decide))
      refine y_ld (x := .ref 170) rfl rfl (fun d => rfl) ?_
      refine y_bi rfl rfl (by decide) ?_
      refine y_cV (as := [.ref 170, iv 58]) rfl rfl rfl rfl rfl (md170 hM) ⟨rfl, (Nat.le_of_ble_eq_true rfl), (Nat.le_of_ble_eq_true rfl)⟩ (by decide) (ct_must1 hM (MP_f (p' := p) (wr' := 1) (o' := ((0 : Nat) : Int)) (ln' := ln) h ⟨rfl, rfl, rfl, rfl, rfl, rfl⟩ rfl rfl h.2.2.2.2.1 h.2.2.2.2.2.1) (fun V55 h55 f55 e55 => ?_))
      refine y_n0 ?_
      refine y_ic rfl rfl ?_
      refine y_st (lv' := [(3, iv 0), (2, iv (200 * a + st0.length : Nat)), (1, iv (hr τ z p)), (0, .ref 170)]) rfl rfl (fun d => rfl) ?_
      refine y_ld (x := .ref 170) rfl rfl (fun d => rfl) ?_
      refine y_gI (i := 12) (e := 1) rfl rfl rfl (md170 hM) rfl h55.2.2.2.1 ?_
      refine y_zne rfl rfl rfl (by decide) (fun g50 => ?_) (fun g50 => absurd g50 (by decide))
      refine y_ic rfl rfl ?_
      refine y_st (lv' := [(4, iv 0), (3, iv 0), (2, iv (200 * a + st0.length : Nat)), (1, iv (hr τ z p)), (0, .ref 170)]) rfl rfl (fun d => rfl) ?_
      refine y_ld (x := iv 0) rfl rfl (fun d => rfl) ?_
      refine y_zeq rfl rfl rfl (by decide) (fun g51 => ?_) (fun g51 => absurd g51 (by decide))
      refine y_ld (x := .ref 170) rfl rfl (fun d => rfl) ?_
      refine y_gI (i := 12) (e := 1) rfl rfl rfl (md170 hM) rfl h55.2.2.2.1 ?_
      refine y_zne rfl rfl rfl (by decide) (fun g52 => ?_) (fun g52 => absurd g52 (by decide))
      refine y_ret rfl (fun d => rfl) ?_
      exact k2 _ _ _ _ _ (pL_0 (by omega)) h55 (MF_tr (MF_u0 (by decide) (MF_u0 (by decide) (MF_rf a V))) f55) (e55.trans rfl)
end
end
section
/-! a whole TEXT in the reference -/
def encP : Nat → List p_Li → List Int
  | _, [] => []
  | n0, x :: r => encL n0 x ++ encP (n0 + (encL n0 x).length) r
theorem encP_app (x : p_Li) : ∀ (l : List p_Li) (n0 : Nat), encP n0 (l ++ [x]) = encP n0 l ++ encL (n0 + (encP n0 l).length) x
  | [], n0 => by simp [encP]
  | y :: l, n0 => by
    show encL n0 y ++ encP (n0 + (encL n0 y).length) (l ++ [x]) = encL n0 y ++ encP (n0 + (encL n0 y).length) l ++ encL _ x
    rw [encP_app x l, List.append_assoc, show encP n0 (y :: l) = encL n0 y ++ encP (n0 + (encL n0 y).length) l from rfl, List.length_append, Nat.add_assoc]
def mkP : Int → (Nat → Int) → List p_Li → Nat → Int
  | _, g, [] => g
  | ln, g, x :: r => mkP (ln + 1) (mkL ln g x) r
theorem mkP_app (x : p_Li) : ∀ (l : List p_Li) (ln : Int) (g : Nat → Int), mkP ln g (l ++ [x]) = mkL (ln + l.length) (mkP ln g l) x
  | [], ln, g => by simp [mkP]
  | y :: l, ln, g => by
    show mkP (ln + 1) (mkL ln g y) (l ++ [x]) = mkL _ (mkP (ln + 1) (mkL ln g y) l) x
    rw [mkP_app x l, show ln + 1 + (l.length : Int) = ln + ((y :: l).length : Int) by simp; omega]
/-- a LINE that a reading makes -/
def liO (x : p_Li) : Prop := tkO x.2.2.1 ∧ acO x.2.2.2 ∧ 0 ≤ x.1 ∧ x.1 ≤ 4 ∧ x.2.2.2.length ≤ 5
theorem pE_ok {τ : Nat → Int} {z p q : Nat} {r : Option (Bool × List p_Tk)} (hp : p ≤ z) (hz : z ≤ 160) (h : pE τ z p = (r, q)) : p ≤ q ∧ q ≤ z ∧ ∀ e, r = some e → (encT e.2).length + (if e.1 = true then 1 else 0) + p ≤ q ∧ tkO e.2 := by
  have h0 : hr τ z p ≠ -1 → p < z := hr_le
  unfold pE at h
  split at h
  · have := h0 (by omega)
    split at h
    · rename_i l1 q1 e1
      have k := pX_ok _ _ _ _ _ _ _ (by decide) (by omega) e1
      have k2 := k.2.2 l1 rfl
      have k3 := pX_tk _ _ _ _ _ _ _ (by decide) (by omega) (fun t ht => by cases ht) e1
      have h2 : hr τ z q1 ≠ -1 → q1 < z := hr_le
      have k4 := k2.1
      simp only [List.length_nil] at k4
      split at h
      · cases h
        have := h2 (by omega)
        refine ⟨by omega, by omega, fun e he => ?_⟩
        cases he
        refine ⟨?_, k3⟩
        rw [encT_len, if_pos rfl]
        show l1.length + 1 + p ≤ q1 + 1
        omega
      · cases h
        exact ⟨by omega, k.2.1, fun e he => by cases he⟩
    · rename_i q1 e1
      have k := pX_ok _ _ _ _ _ _ _ (by decide) (by omega) e1
      cases h
      exact ⟨by omega, k.2.1, fun e he => by cases he⟩
  · cases h
    refine ⟨Nat.le_refl _, hp, fun e he => ?_⟩
    cases he
    exact ⟨by simp [encT], fun t ht => by cases ht⟩
theorem pL_ok {τ : Nat → Int} {z p q : Nat} {r : Option p_Li} (hp : p ≤ z) (hz : z ≤ 160) (h : pL τ z p = (r, q)) : p ≤ q ∧ q ≤ z ∧ ∀ x, r = some x → (bodyL x).length + 2 + p ≤ q ∧ liO x := by
  have h0 : hr τ z p ≠ -1 → p < z := hr_le
  unfold pL at h
  split at h
  · rename_i hk
    have := h0 (by omega)
    split at h
    · rename_i e q1 e1
      have k := pE_ok (by omega) hz e1
      have k2 := k.2.2 e rfl
      have h2 : hr τ z q1 ≠ -1 → q1 < z := hr_le
      split at h
      · have := h2 (by omega)
        split at h
        · rename_i l q2 e2
          have ka := pAs_ok _ _ _ _ _ (by omega) (fun x hx => by cases hx) e2
          have kb := ka.2.2 l rfl
          cases h
          refine ⟨by omega, ka.2.1, fun x hx => ?_⟩
          cases hx
          have kc := kb.1
          simp only [encA, List.length_nil] at kc
          have kd := kb.2.2
          simp only [List.length_nil] at kd
          refine ⟨?_, k2.2, kb.2.1, ?_, ?_, by show l.length ≤ 5; omega⟩
          · show (encT e.2 ++ ((if e.1 = true then [-4] else []) ++ encA l)).length + 2 + p ≤ q
            have k5 := k2.1
            rw [List.length_append, List.length_append]
            by_cases he : e.1 = true
            · rw [if_pos he] at k5 ⊢
              simp only [List.length_cons, List.length_nil]
              omega
            · rw [if_neg he] at k5 ⊢
              simp only [List.length_nil]
              omega
          · show 0 ≤ (if hr τ z p = 42 then (4 : Int) else hr τ z p - 48)
            split <;> omega
          · show (if hr τ z p = 42 then (4 : Int) else hr τ z p - 48) ≤ 4
            split <;> omega
        · rename_i q2 e2
          have ka := pAs_ok _ _ _ _ _ (by omega) (fun x hx => by cases hx) e2
          cases h
          exact ⟨by omega, ka.2.1, fun e he => by cases he⟩
      · cases h
        exact ⟨by omega, k.2.1, fun e he => by cases he⟩
    · rename_i q1 e1
      have k := pE_ok (by omega) hz e1
      cases h
      exact ⟨by omega, k.2.1, fun e he => by cases he⟩
  · cases h
    exact ⟨Nat.le_refl _, hp, fun e he => by cases he⟩
theorem encL_len (n0 : Nat) (x : p_Li) : (encL n0 x).length = (bodyL x).length + 2 := rfl
def lsO (l : List p_Li) : Prop := ∀ x ∈ l, liO x
theorem lsO_app {l : List p_Li} {x : p_Li} (h : lsO l) (hx : liO x) : lsO (l ++ [x]) := by
  intro y hy
  rcases List.mem_append.mp hy with h2 | h2
  · exact h y h2
  · rw [List.mem_singleton.mp h2]
    exact hx
theorem pLs_ok {τ : Nat → Int} {z : Nat} (hz : z ≤ 160) : ∀ (k p : Nat) (acc : List p_Li) (r : Option (List p_Li)) (q : Nat), p ≤ z → lsO acc → pLs τ z k p acc = (r, q) → p ≤ q ∧ q ≤ z ∧ ∀ l, r = some l → (encP 0 l).length + p ≤ (encP 0 acc).length + q ∧ lsO l ∧ l.length ≤ acc.length + k
  | 0, p, acc, r, q, hp, ha, h => by
    unfold pLs at h
    cases h
    exact ⟨Nat.le_refl _, hp, fun l e => by cases e; exact ⟨by omega, ha, by omega⟩⟩
  | k + 1, p, acc, r, q, hp, ha, h => by
    unfold pLs at h
    split at h
    · rename_i x q1 ee
      have k1 := pL_ok hp hz ee
      have k2 := k1.2.2 x rfl
      have h0 : hr τ z q1 ≠ -1 → q1 < z := hr_le
      have e3 : (encP 0 (acc ++ [x])).length = (encP 0 acc).length + ((bodyL x).length + 2) := by
        rw [encP_app, List.length_append, encL_len]
      split at h
      · have := h0 (by omega)
        have kk := pLs_ok hz k (q1 + 1) (acc ++ [x]) r q (by omega) (lsO_app ha k2.2) h
        refine ⟨by omega, kk.2.1, fun l e => ?_⟩
        have k3 := kk.2.2 l e
        have k4 := k3.1
        have k5 := k3.2.2
        simp only [List.length_append, List.length_cons, List.length_nil] at k5
        exact ⟨by omega, k3.2.1, by omega⟩
      · cases h
        refine ⟨by omega, k1.2.1, fun l e => ?_⟩
        cases e
        simp only [List.length_append, List.length_cons, List.length_nil]
        exact ⟨by omega, lsO_app ha k2.2, by omega⟩
    · rename_i q1 ee
      have k1 := pL_ok hp hz ee
      cases h
      exact ⟨k1.1, k1.2.1, fun l e => by cases e⟩
theorem mkL_bd {ln : Int} (hln : 0 ≤ ln ∧ ln ≤ 8) {g : Nat → Int} {x : p_Li} (hx : liO x) (hg : ∀ c, c < 8 → 0 ≤ g c ∧ g c ≤ 10) : ∀ c, c < 8 → 0 ≤ mkL ln g x c ∧ mkL ln g x c ≤ 10 :=
  mkA_bd hln _ _ hx.2.1 (mkT_bd hln _ _ hx.1 hg)
theorem mkP_bd : ∀ (l : List p_Li) (ln : Int) (g : Nat → Int), 0 ≤ ln → ln + l.length ≤ 8 → lsO l → (∀ c, c < 8 → 0 ≤ g c ∧ g c ≤ 10) → ∀ c, c < 8 → 0 ≤ mkP ln g l c ∧ mkP ln g l c ≤ 10
  | [], ln, g, _, _, _, hg => hg
  | x :: r, ln, g, h1, h2, hl, hg => by
    have e : ((x :: r).length : Int) = r.length + 1 := by simp
    exact mkP_bd r (ln + 1) _ (by omega) (by omega) (fun y hy => hl y (List.mem_cons_of_mem _ hy)) (mkL_bd (by omega) (hl x List.mem_cons_self) hg)
theorem pLs_s {τ : Nat → Int} {z k p : Nat} {acc : List p_Li} : pLs τ z (k + 1) p acc = (match pL τ z p with
    | (some a, q) => if k ≠ 0 ∧ hr τ z q = 59 then pLs τ z k (q + 1) (acc ++ [a]) else (some (acc ++ [a]), q)
    | (none, q) => (none, q)) := rfl
/-- the counts of ACTS of the LINES so far -/
def AM (V : v_V) (a : Nat) (l : List p_Li) : Prop := ∀ i x, m_nth l i = some x → V 176 (8 * a + i) = (x.2.2.2.length : Int)
theorem AM_app {V V' : v_V} {a : Nat} {l : List p_Li} {x : p_Li} (h : AM V a l) (e : V' 176 = v_uf (V 176) (8 * a + l.length) (x.2.2.2.length : Int)) : AM V' a (l ++ [x]) := by
  intro i y hi
  rw [e]
  rw [m_nth_app] at hi
  by_cases h2 : i = l.length
  · rw [if_pos h2] at hi
    cases hi
    rw [h2, v_uf_eq]
  · rw [if_neg h2] at hi
    rw [v_uf_ne (by omega)]
    exact h i y hi
/-- a TEXT as the reference has it -/
def MT (V : v_V) (a : Nat) (l : List p_Li) : Prop := V 174 a = ((encP 0 l).length : Int) ∧ (∀ i x, m_nth (encP 0 l) i = some x → V 173 (200 * a + i) = x) ∧ V 175 a = (l.length : Int) ∧ AM V a l ∧ ∀ c, c < 8 → V 177 (8 * a + c) = mkP 0 (fun _ => 0) l c
section
variable {X : Nat → List Int32} {u w : Nat} {S : m_H} {V : v_V} {K : v_K}
theorem v_zero_up (V : v_V) (r b k : Nat) : v_up (v_ur V r (fun i => if b ≤ i ∧ i < b + k then 0 else V r i)) r (b + k) 0 = v_ur V r (fun i => if b ≤ i ∧ i < b + (k + 1) then 0 else V r i) := by
  rw [v_up_ur, v_ur_ur, v_ur_eq]
  congr 1
  funext j
  unfold v_uf
  by_cases h : j = b + k
  · rw [if_pos h, if_pos (by omega)]
  · rw [if_neg h]
    show (if b ≤ j ∧ j < b + k then 0 else V r j) = _
    by_cases h2 : b ≤ j ∧ j < b + k
    · rw [if_pos h2, if_pos (by omega)]
    · rw [if_neg h2, if_neg (by omega)]
set_option maxRecDepth 100000 in
set_option maxHeartbeats 4000000 in
theorem lp_text0 (hM : MdS S) {a : Nat} (ha : a < 8) (hact : V 170 9 = a) {F : Nat} : ∀ (m : Nat) (k : Nat), 8 - k < m → (k ≤ 8) → (y_E X 22 124 F u w 102 [(0, .ref 170), (1, iv ((8 : Nat) : Int))] [] S (v_ur V 177 (fun i => if 8 * a ≤ i ∧ i < 8 * a + 8 then 0 else V 177 i)) K) → y_E X 22 124 (20 * m + F) u w 75 [(0, .ref 170), (1, iv (k : Int))] [] S (v_ur V 177 (fun i => if 8 * a ≤ i ∧ i < 8 * a + k then 0 else V 177 i)) K := by
  intro m
  induction m with
  | zero => intros; omega
  | succ m ih =>
    intro k hm hI hx
    refine y_mono (F' := (20 * m + F) + 20) ?_ (by omega)
    refine y_ld (x := iv (k : Int)) rfl rfl (fun d => rfl) ?_
    refine y_bi rfl rfl (by decide) ?_
    refine y_jge rfl rfl rfl (by omega) (fun g1 => ?_) (fun g1 => ?_)
    · obtain rfl : k = 8 := by omega
      exact y_mono hx (by omega)
    · refine y_ld (x := .ref 170) rfl rfl (fun d => rfl) ?_
      refine y_gR (i := 8) rfl rfl rfl (md170 hM) rfl ?_
      refine y_bi rfl rfl (by decide) ?_
      refine y_ld (x := .ref 170) rfl rfl (fun d => rfl) ?_
      refine y_gI (i := 9) (e := (a : Int)) rfl rfl rfl (md170 hM) rfl hact ?_
      refine y_mul (z := (8 * (a : Int))) rfl rfl rfl ?_
      refine y_ld (x := iv (k : Int)) rfl rfl (fun d => rfl) ?_
      refine y_add (z := ((8 * (a : Int)) + (k : Int))) rfl rfl rfl ?_
      refine y_ic rfl rfl ?_
      refine y_ist (q := (8 * a + k)) rfl rfl (md177 hM) (by omega) (by decide) (by omega) ?_
      refine y_inc (z := ((k + 1 : Nat) : Int)) (lv' := [(1, iv ((k + 1 : Nat) : Int)), (0, .ref 170)]) rfl rfl rfl (by omega) rfl ?_
      refine y_go rfl rfl ?_
      refine y_lv (l' := [(0, .ref 170), (1, iv ((k + 1 : Nat) : Int))]) rfl ⟨rfl, rfl, trivial⟩ ?_
      refine y_V (V' := v_ur V 177 (fun i => if 8 * a ≤ i ∧ i < 8 * a + (k + 1) then 0 else V 177 i)) ?_ ?_
      · exact v_zero_up V 177 (8 * a) k
      exact y_mono (ih (k + 1) (by omega) (by omega) hx) (by omega)
end
end
section
section
variable {X : Nat → List Int32} {u w : Nat} {S : m_H} {V : v_V} {K : v_K}
set_option maxRecDepth 100000 in
set_option maxHeartbeats 4000000 in
theorem lp_lines (hM : MdS S) {a z F : Nat} {τ : Nat → Int} (hT : Tp τ a z) : ∀ (m n : Nat) (V : v_V) (K : v_K) (u w p : Nat) (acc : List p_Li), n + m = 9 → 1 ≤ m → acc.length = n → 1 ≤ n → p ≤ z → (encP 0 acc).length ≤ p → lsO acc → MP V a z τ p 0 ((0 : Nat) : Int) (n : Int) (encP 0 acc) (mkP 0 (fun _ => 0) acc) → AM V a acc → (∀ l q V', (if 8 - n ≠ 0 ∧ hr τ z p = 59 then pLs τ z (8 - n) (p + 1) acc else (some acc, p)) = (some l, q) → MP V' a z τ q 0 ((0 : Nat) : Int) (l.length : Int) (encP 0 l) (mkP 0 (fun _ => 0) l) → AM V' a l → MF a V V' → y_E X 22 124 F u w 148 [(0, .ref 170)] [] S V' K) → (∀ q V' st' g' o' ln', (if 8 - n ≠ 0 ∧ hr τ z p = 59 then pLs τ z (8 - n) (p + 1) acc else (some acc, p)) = (none, q) → MP V' a z τ q 1 o' ln' st' g' → MF a V V' → y_E X 22 124 F u w 148 [(0, .ref 170)] [] S V' K) → y_E X 22 124 (100 * m + F) u w 106 [(0, .ref 170)] [] S V K := by
  intro m
  induction m with
  | zero => intros; omega
  | succ m ih =>
    intro n V K u w p acc hnm hm1 hal hn1 hp hle hlo h hAM k1 k2
    have hz := hT.2.1
    have hq0 := hr_rg hT p
    refine y_mono (F' := (100 * m + F) + 100) ?_ (by omega)
    refine y_ld (x := .ref 170) rfl rfl (fun d => rfl) ?_
    refine y_gI (i := 12) (e := 0) rfl rfl rfl (md170 hM) rfl h.2.2.2.1 ?_
    refine y_zne rfl rfl rfl (by decide) (fun g1 => absurd g1 (by decide)) (fun g1 => ?_)
    refine y_ld (x := .ref 170) rfl rfl (fun d => rfl) ?_
    refine y_gI (i := 14) (e := (n : Int)) rfl rfl rfl (md170 hM) rfl h.2.2.2.2.2.1 ?_
    refine y_bi rfl rfl (by decide) ?_
    refine y_jge rfl rfl rfl (by omega) (fun g2 => ?_) (fun g2 => ?_)
    · refine y_lv (l' := [(0, .ref 170)]) rfl ⟨rfl, trivial⟩ ?_
      exact y_mono (k1 acc p V (if_neg (by omega)) (by rw [hal]; exact h) hAM (MF_rf a V)) (by omega)
    · refine y_ld (x := .ref 170) rfl rfl (fun d => rfl) ?_
      refine y_cV (as := [.ref 170]) rfl rfl rfl rfl rfl (md170 hM) ⟨rfl, (Nat.le_of_ble_eq_true rfl), (Nat.le_of_ble_eq_true rfl)⟩ (by decide) (ct_here hM h (by omega) ?_)
      have hq123 := hr_rg hT (p)
      refine y_nv ?_
      refine y_bi rfl rfl (by decide) ?_
      refine y_jne rfl rfl rfl (by omega) (fun g3 => ?_) (fun g3 => ?_)
      · refine y_lv (l' := [(0, .ref 170)]) rfl ⟨rfl, trivial⟩ ?_
        exact y_mono (k1 acc p V (if_neg (by omega)) (by rw [hal]; exact h) hAM (MF_rf a V)) (by omega)
      · refine y_ld (x := .ref 170) rfl rfl (fun d => rfl) ?_
        refine y_in rfl rfl (fun d => rfl) ?_
        refine y_gI (i := 10) (e := ((p : Nat) : Int)) rfl rfl rfl (md170 hM) rfl h.2.1 ?_
        refine y_ic rfl rfl ?_
        refine y_add (z := (((p : Nat) : Int) + 1)) rfl rfl rfl ?_
        refine y_pI (i := 10) rfl rfl rfl (md170 hM) rfl rfl ?_
        have pl0 := hr_le (τ := τ) (z := z) (p := p) (by omega)
        refine y_ld (x := .ref 170) rfl rfl (fun d => rfl) ?_
        refine y_cV (as := [.ref 170]) rfl rfl rfl rfl rfl (md170 hM) ⟨rfl, (Nat.le_of_ble_eq_true rfl), (Nat.le_of_ble_eq_true rfl)⟩ (by decide) (ct_lineHere (lnn := n) hM hT (by omega) (mkP_bd acc 0 _ (by omega) (by omega) hlo (fun _ _ => ⟨Int.le_refl 0, (by decide : (0 : Int) ≤ 10)⟩)) ⟨rfl, by omega⟩ (by omega) (by omega) (MP_f (p' := (p + 1)) (wr' := 0) (o' := ((0 : Nat) : Int)) (ln' := (n : Int)) h ⟨rfl, rfl, rfl, rfl, rfl, rfl⟩ rfl h.2.2.2.1 h.2.2.2.2.1 h.2.2.2.2.2.1) (fun y1 r1 V1 x1 h1 f1 e1 => ?_) (fun r2 V2 s2 g_2 o2 x2 h2 f2 e2 => ?_))
        · have po3 := pL_ok (by omega) hz x1
          have ppo3 := po3.2.2 _ rfl
          refine y_n0 ?_
          refine y_go rfl rfl ?_
          refine y_lv (l' := [(0, .ref 170)]) rfl ⟨rfl, trivial⟩ ?_
          have eR : pLs τ z (8 - n) (p + 1) acc = (if 8 - (n + 1) ≠ 0 ∧ hr τ z r1 = 59 then pLs τ z (8 - (n + 1)) (r1 + 1) (acc ++ [y1]) else (some (acc ++ [y1]), r1)) := by
            rw [show 8 - n = (8 - (n + 1)) + 1 by omega, pLs_s]; simp only [x1]
          have el : (encP 0 (acc ++ [y1])).length = (encP 0 acc).length + ((bodyL y1).length + 2) := by rw [encP_app, List.length_append, encL_len]
          refine y_mono (ih (n + 1) _ _ _ _ r1 (acc ++ [y1]) (by omega) (by omega) (by simp; omega) (by omega) (by omega) (by omega) (lsO_app hlo ppo3.2) ?_ (AM_app hAM (by rw [hal]; exact e1)) ?_ ?_) (by omega)
          · rw [encP_app, mkP_app, hal, Nat.zero_add, show (0 : Int) + (n : Int) = (n : Int) by omega]
            exact h1
          · intro l2 q2 V' a1 a2 a3 a4
            exact k1 l2 q2 V' (by rw [if_pos ⟨by omega, g3⟩, eR]; exact a1) a2 a3 (MF_tr (MF_tr (MF_u0 (by decide) (MF_rf a V)) f1) a4)
          · intro q2 V' st' g' o' ln' a1 a2 a3
            exact k2 q2 V' st' g' o' ln' (by rw [if_pos ⟨by omega, g3⟩, eR]; exact a1) a2 (MF_tr (MF_tr (MF_u0 (by decide) (MF_rf a V)) f1) a3)
        · have po4 := pL_ok (by omega) hz x2
          refine y_n0 ?_
          refine y_go rfl rfl ?_
          refine y_lv (l' := [(0, .ref 170)]) rfl ⟨rfl, trivial⟩ ?_
          refine y_ld (x := .ref 170) rfl rfl (fun d => rfl) ?_
          refine y_gI (i := 12) (e := 1) rfl rfl rfl (md170 hM) rfl h2.2.2.2.1 ?_
          refine y_zne rfl rfl rfl (by decide) (fun g4 => ?_) (fun g4 => absurd g4 (by decide))
          refine y_lv (l' := [(0, .ref 170)]) rfl ⟨rfl, trivial⟩ ?_
          exact y_mono (k2 _ _ _ _ _ _ (by rw [if_pos ⟨by omega, g3⟩, show 8 - n = (8 - (n + 1)) + 1 by omega]; unfold pLs; rw [x2]) h2 (MF_tr (MF_u0 (by decide) (MF_rf a V)) f2)) (by omega)
end
end
section
/-- what a reading leaves as it was, behind its beginning -/
def TX (a : Nat) (V V' : v_V) : Prop :=
  (∀ k, k ≠ 170 → k ≠ 171 → k ≠ 173 → k ≠ 174 → k ≠ 175 → k ≠ 176 → k ≠ 177 → V' k = V k) ∧ (∀ i, i < 9 ∨ 14 < i → V' 170 i = V 170 i) ∧
  (∀ i, i < 200 * a ∨ 200 * a + 200 ≤ i → V' 173 i = V 173 i) ∧ (∀ i, i ≠ a → V' 174 i = V 174 i) ∧ (∀ i, i ≠ a → V' 175 i = V 175 i) ∧ (∀ i, i < 8 * a ∨ 8 * a + 8 ≤ i → V' 176 i = V 176 i ∧ V' 177 i = V 177 i)
theorem TX_tr {a : Nat} {V V' V'' : v_V} (h : TX a V V') (h2 : TX a V' V'') : TX a V V'' :=
  ⟨fun k q1 q2 q3 q4 q5 q6 q7 => (h2.1 k q1 q2 q3 q4 q5 q6 q7).trans (h.1 k q1 q2 q3 q4 q5 q6 q7), fun i q => (h2.2.1 i q).trans (h.2.1 i q), fun i q => (h2.2.2.1 i q).trans (h.2.2.1 i q), fun i q => (h2.2.2.2.1 i q).trans (h.2.2.2.1 i q), fun i q => (h2.2.2.2.2.1 i q).trans (h.2.2.2.2.1 i q), fun i q => ⟨(h2.2.2.2.2.2 i q).1.trans (h.2.2.2.2.2 i q).1, (h2.2.2.2.2.2 i q).2.trans (h.2.2.2.2.2 i q).2⟩⟩
theorem TX_mf {a : Nat} {V V' : v_V} (h : MF a V V') : TX a V V' :=
  ⟨fun k q1 q2 q3 q4 q5 q6 q7 => h.1 k q1 q3 q4 q6 q7, fun i q => h.2.1 i (by omega) (by omega) (by omega) (by omega), h.2.2.1, h.2.2.2.1, fun i _ => congrFun (h.1 175 (by decide) (by decide) (by decide) (by decide) (by decide)) i, h.2.2.2.2⟩
theorem TX_end (a : Nat) (V : v_V) (x y : Int) : TX a V (v_up (v_up V 175 a x) 171 0 y) := by
  refine ⟨fun k q1 q2 q3 q4 q5 q6 q7 => ?_, fun i q => rfl, fun i q => rfl, fun i q => rfl, fun i q => ?_, fun i q => ⟨rfl, rfl⟩⟩
  · rw [v_up_ne q2, v_up_ne q5]
  · rw [v_up_ne (by decide), v_up_ni q]
theorem pTx_eq {τ : Nat → Int} {z q : Nat} {l : List p_Li} (h : pLs τ z 8 0 [] = (some l, q)) : pTx τ z = if q = z then (some l, q) else (none, q) := by
  unfold pTx
  rw [h]
theorem pTx_no {τ : Nat → Int} {z q : Nat} (h : pLs τ z 8 0 [] = (none, q)) : pTx τ z = (none, q) := by
  unfold pTx
  rw [h]
section
variable {X : Nat → List Int32} {u w : Nat} {S : m_H} {V : v_V} {K : v_K}
set_option maxRecDepth 100000 in
set_option maxHeartbeats 4000000 in
theorem tx_102 (hM : MdS S) {a z : Nat} {τ : Nat → Int} (hT : Tp τ a z) (h : MP V a z τ 0 0 ((0 : Nat) : Int) ((0 : Nat) : Int) [] (fun _ => 0)) (h0 : V 171 0 = a) (k1 : ∀ l V', pTx τ z = (some l, z) → MT V' a l → lsO l ∧ l.length ≤ 8 → TX a V V' → V' 171 = v_uf (V 171) 0 ((a : Int) + 1) → K u w (some (iv a)) S V') (k2 : ∀ q V', pTx τ z = (none, q) → TX a V V' → V' 171 = V 171 → q ≤ z → K u w (some (iv (-10 - (q : Int)))) S V') : y_E X 22 124 5000 u w 102 [(0, .ref 170)] [] S V K := by
  refine y_mono (F' := 2000) ?_ (by decide)
  have hz := hT.2.1
  have ha8 := hT.1
  refine y_ld (x := .ref 170) rfl rfl (fun d => rfl) ?_
  refine y_cV (as := [.ref 170]) rfl rfl rfl rfl rfl (md170 hM) ⟨rfl, (Nat.le_of_ble_eq_true rfl), (Nat.le_of_ble_eq_true rfl)⟩ (by decide) (ct_lineHere (lnn := 0) hM hT (by omega) (fun _ _ => ⟨Int.le_refl 0, (by decide : (0 : Int) ≤ 10)⟩) ⟨rfl, by omega⟩ (by omega) (Nat.le_refl 0) h (fun y1 r1 V1 x1 h1 f1 e1 => ?_) (fun r2 V2 s2 g_2 o2 x2 h2 f2 e2 => ?_))
  · have po3 := pL_ok (by omega) hz x1
    have ppo3 := po3.2.2 _ rfl
    refine y_n0 ?_
    refine y_lv (l' := [(0, .ref 170)]) rfl ⟨rfl, trivial⟩ ?_
    have eR : pLs τ z 8 0 [] = (if 8 - 1 ≠ 0 ∧ hr τ z r1 = 59 then pLs τ z (8 - 1) (r1 + 1) [y1] else (some [y1], r1)) := by rw [pLs_s]; simp only [x1]; rfl
    have eQ : encP 0 [y1] = encL 0 y1 := List.append_nil _
    refine y_mono (lp_lines (F := 100) hM hT 8 1 _ _ _ _ r1 [y1] rfl (by decide) rfl (by decide) (by omega) (by rw [eQ, encL_len]; omega) (fun y hy => by rw [List.mem_singleton.mp hy]; exact ppo3.2) (by rw [eQ]; exact h1) (AM_app (l := []) (fun i x h => by cases h) e1) ?_ ?_) (by decide)
    · intro l5 r5 V5 x5 h5 am5 f5
      have eP : pLs τ z 8 0 [] = (some l5, r5) := by rw [eR]; exact x5
      have po := pLs_ok hz _ _ _ _ _ (by omega) (fun x hx => by cases hx) eP
      have pp := po.2.2 _ rfl
      simp only [List.length_nil] at pp
      refine y_ld (x := .ref 170) rfl rfl (fun d => rfl) ?_
      refine y_gI (i := 12) (e := 0) rfl rfl rfl (md170 hM) rfl h5.2.2.2.1 ?_
      refine y_zne rfl rfl rfl (by decide) (fun g1 => absurd g1 (by decide)) (fun g1 => ?_)
      refine y_ld (x := .ref 170) rfl rfl (fun d => rfl) ?_
      refine y_gI (i := 10) (e := ((r5 : Nat) : Int)) rfl rfl rfl (md170 hM) rfl h5.2.1 ?_
      refine y_ld (x := .ref 170) rfl rfl (fun d => rfl) ?_
      refine y_gI (i := 11) (e := (z : Int)) rfl rfl rfl (md170 hM) rfl h5.2.2.1 ?_
      refine y_jeq rfl rfl rfl (by omega) (fun g2 => ?_) (fun g2 => ?_)
      · refine y_ld (x := .ref 170) rfl rfl (fun d => rfl) ?_
        refine y_gR (i := 6) rfl rfl rfl (md170 hM) rfl ?_
        refine y_ld (x := .ref 170) rfl rfl (fun d => rfl) ?_
        refine y_gI (i := 9) (e := (a : Int)) rfl rfl rfl (md170 hM) rfl h5.1 ?_
        refine y_ld (x := .ref 170) rfl rfl (fun d => rfl) ?_
        refine y_gI (i := 14) (e := (l5.length : Int)) rfl rfl rfl (md170 hM) rfl h5.2.2.2.2.2.1 ?_
        refine y_ist (q := a) rfl rfl (md175 hM) (by omega) (by decide) (by omega) ?_
        have e171b := (MF_tr (MF_tr (MF_rf a V) f1) f5).1 171 (by decide) (by decide) (by decide) (by decide) (by decide)
        refine y_ld (x := .ref 170) rfl rfl (fun d => rfl) ?_
        refine y_gR (i := 1) rfl rfl rfl (md170 hM) rfl ?_
        refine y_ic rfl rfl ?_
        refine y_in rfl rfl (fun d => rfl) ?_
        refine y_ild (x := (a : Int)) (q := 0) rfl rfl (md171 hM) (by decide) (by decide) rfl (by rw [v_up_ne (by decide), e171b]; exact h0) ?_
        refine y_ic rfl rfl ?_
        refine y_add (z := ((a : Int) + 1)) rfl rfl rfl ?_
        refine y_ist (q := 0) rfl rfl (md171 hM) (by decide) (by decide) rfl ?_
        refine y_ld (x := .ref 170) rfl rfl (fun d => rfl) ?_
        refine y_gI (i := 9) (e := (a : Int)) rfl rfl rfl (md170 hM) rfl h5.1 ?_
        refine y_rI rfl (Or.inl rfl) ?_
        have hqz : r5 = z := by omega
        have hfr := (MF_tr (MF_tr (MF_rf a V) f1) f5)
        have e171 := hfr.1 171 (by decide) (by decide) (by decide) (by decide) (by decide)
        refine k1 l5 _ ((pTx_eq eP).trans ((if_pos hqz).trans (by rw [hqz]))) ⟨h5.2.2.2.2.2.2.2.1, h5.2.2.2.2.2.2.2.2.1, ?_, am5, h5.2.2.2.2.2.2.2.2.2⟩ ⟨pp.2.1, by omega⟩ (TX_tr (TX_mf hfr) (TX_end a _ _ _)) ?_
        · rw [v_up_ne (by decide), v_up_eq]
        · rw [v_up_row, v_up_ne (by decide), e171]
      · refine y_bi rfl rfl (by decide) ?_
        refine y_ld (x := .ref 170) rfl rfl (fun d => rfl) ?_
        refine y_gI (i := 10) (e := ((r5 : Nat) : Int)) rfl rfl rfl (md170 hM) rfl h5.2.1 ?_
        refine y_sub (z := ((-10) - ((r5 : Nat) : Int))) rfl rfl rfl ?_
        refine y_rI rfl (Or.inl rfl) ?_
        exact k2 _ _ ((pTx_eq eP).trans (if_neg (by omega))) (TX_mf (MF_tr (MF_tr (MF_rf a V) f1) f5)) ((MF_tr (MF_tr (MF_rf a V) f1) f5).1 171 (by decide) (by decide) (by decide) (by decide) (by decide)) (by omega)
    · intro r6 V6 st' g' o' ln' x6 h6 f6
      have eP : pLs τ z 8 0 [] = (none, r6) := by rw [eR]; exact x6
      have po := pLs_ok hz _ _ _ _ _ (by omega) (fun x hx => by cases hx) eP
      refine y_ld (x := .ref 170) rfl rfl (fun d => rfl) ?_
      refine y_gI (i := 12) (e := 1) rfl rfl rfl (md170 hM) rfl h6.2.2.2.1 ?_
      refine y_zne rfl rfl rfl (by decide) (fun g3 => ?_) (fun g3 => absurd g3 (by decide))
      refine y_bi rfl rfl (by decide) ?_
      refine y_ld (x := .ref 170) rfl rfl (fun d => rfl) ?_
      refine y_gI (i := 10) (e := ((r6 : Nat) : Int)) rfl rfl rfl (md170 hM) rfl h6.2.1 ?_
      refine y_sub (z := ((-10) - ((r6 : Nat) : Int))) rfl rfl rfl ?_
      refine y_rI rfl (Or.inl rfl) ?_
      exact k2 _ _ (pTx_no eP) (TX_mf (MF_tr (MF_tr (MF_rf a V) f1) f6)) ((MF_tr (MF_tr (MF_rf a V) f1) f6).1 171 (by decide) (by decide) (by decide) (by decide) (by decide)) (by omega)
  · have po4 := pL_ok (by omega) hz x2
    refine y_n0 ?_
    refine y_lv (l' := [(0, .ref 170)]) rfl ⟨rfl, trivial⟩ ?_
    have eP : pLs τ z 8 0 [] = (none, r2) := by rw [pLs_s]; simp only [x2]
    refine y_ld (x := .ref 170) rfl rfl (fun d => rfl) ?_
    refine y_gI (i := 12) (e := 1) rfl rfl rfl (md170 hM) rfl h2.2.2.2.1 ?_
    refine y_zne rfl rfl rfl (by decide) (fun g4 => ?_) (fun g4 => absurd g4 (by decide))
    refine y_ld (x := .ref 170) rfl rfl (fun d => rfl) ?_
    refine y_gI (i := 12) (e := 1) rfl rfl rfl (md170 hM) rfl h2.2.2.2.1 ?_
    refine y_zne rfl rfl rfl (by decide) (fun g5 => ?_) (fun g5 => absurd g5 (by decide))
    refine y_bi rfl rfl (by decide) ?_
    refine y_ld (x := .ref 170) rfl rfl (fun d => rfl) ?_
    refine y_gI (i := 10) (e := ((r2 : Nat) : Int)) rfl rfl rfl (md170 hM) rfl h2.2.1 ?_
    refine y_sub (z := ((-10) - ((r2 : Nat) : Int))) rfl rfl rfl ?_
    refine y_rI rfl (Or.inl rfl) ?_
    exact k2 _ _ (pTx_no eP) (TX_mf (MF_tr (MF_rf a V) f2)) ((MF_tr (MF_rf a V) f2).1 171 (by decide) (by decide) (by decide) (by decide) (by decide)) (by omega)
end
end
section
section
variable {X : Nat → List Int32} {u w : Nat} {S : m_H} {V : v_V} {K : v_K}
set_option maxRecDepth 100000 in
set_option maxHeartbeats 4000000 in
theorem ct_text (hM : MdS S) {a z : Nat} (h0 : V 171 0 = a) (ha8 : a ≤ 8) (h6 : V 171 6 = z) (hz : z ≤ 160) (hb : ∀ i, i < z → 0 ≤ V 171 (10 + i) ∧ V 171 (10 + i) ≤ 255) (k0 : a = 8 → K u w (some (iv (-4))) S V) (k1 : ∀ l V', a < 8 → pTx (fun i => V 171 (10 + i)) z = (some l, z) → MT V' a l → lsO l ∧ l.length ≤ 8 → TX a V V' → V' 171 = v_uf (v_uf (V 171) 6 0) 0 ((a : Int) + 1) → K u w (some (iv a)) S V') (k2 : ∀ q V', a < 8 → pTx (fun i => V 171 (10 + i)) z = (none, q) → TX a V V' → V' 171 = v_uf (V 171) 6 0 → q ≤ z → K u w (some (iv (-10 - (q : Int)))) S V') : y_R X 23 124 u w [.ref 170] S V K := by
  refine y_ent (lv' := [(0, .ref 170)]) (Nat.le_of_ble_eq_true rfl) rfl ?_
  refine y_ld (x := .ref 170) rfl rfl (fun d => rfl) ?_
  refine y_gR (i := 1) rfl rfl rfl (md170 hM) rfl ?_
  refine y_ic rfl rfl ?_
  refine y_ild (x := (a : Int)) (q := 0) rfl rfl (md171 hM) (by decide) (by decide) rfl h0 ?_
  refine y_bi rfl rfl (by decide) ?_
  refine y_jne rfl rfl rfl (by omega) (fun g1 => ?_) (fun g1 => ?_)
  · have ha : a < 8 := by omega
    refine y_ld (x := .ref 170) rfl rfl (fun d => rfl) ?_
    refine y_ld (x := .ref 170) rfl rfl (fun d => rfl) ?_
    refine y_gR (i := 1) rfl rfl rfl (md170 hM) rfl ?_
    refine y_ic rfl rfl ?_
    refine y_ild (x := (a : Int)) (q := 0) rfl rfl (md171 hM) (by decide) (by decide) rfl h0 ?_
    refine y_pI (i := 9) rfl rfl rfl (md170 hM) rfl rfl ?_
    refine y_ld (x := .ref 170) rfl rfl (fun d => rfl) ?_
    refine y_ld (x := .ref 170) rfl rfl (fun d => rfl) ?_
    refine y_gR (i := 1) rfl rfl rfl (md170 hM) rfl ?_
    refine y_bi rfl rfl (by decide) ?_
    refine y_ild (x := (z : Int)) (q := 6) rfl rfl (md171 hM) (by decide) (by decide) rfl h6 ?_
    refine y_pI (i := 11) rfl rfl rfl (md170 hM) rfl rfl ?_
    refine y_ld (x := .ref 170) rfl rfl (fun d => rfl) ?_
    refine y_gR (i := 1) rfl rfl rfl (md170 hM) rfl ?_
    refine y_bi rfl rfl (by decide) ?_
    refine y_ic rfl rfl ?_
    refine y_ist (q := 6) rfl rfl (md171 hM) (by decide) (by decide) rfl ?_
    refine y_ld (x := .ref 170) rfl rfl (fun d => rfl) ?_
    refine y_gR (i := 5) rfl rfl rfl (md170 hM) rfl ?_
    refine y_ld (x := .ref 170) rfl rfl (fun d => rfl) ?_
    refine y_gI (i := 9) (e := (a : Int)) rfl rfl rfl (md170 hM) rfl rfl ?_
    refine y_ic rfl rfl ?_
    refine y_ist (q := a) rfl rfl (md174 hM) (by omega) (by decide) (by omega) ?_
    refine y_ld (x := .ref 170) rfl rfl (fun d => rfl) ?_
    refine y_ic rfl rfl ?_
    refine y_pI (i := 10) rfl rfl rfl (md170 hM) rfl rfl ?_
    refine y_ld (x := .ref 170) rfl rfl (fun d => rfl) ?_
    refine y_ic rfl rfl ?_
    refine y_pZ (i := 12) rfl rfl rfl (md170 hM) rfl rfl (by decide) ?_
    refine y_ld (x := .ref 170) rfl rfl (fun d => rfl) ?_
    refine y_ic rfl rfl ?_
    refine y_pI (i := 13) rfl rfl rfl (md170 hM) rfl rfl ?_
    refine y_ld (x := .ref 170) rfl rfl (fun d => rfl) ?_
    refine y_ic rfl rfl ?_
    refine y_pI (i := 14) rfl rfl rfl (md170 hM) rfl rfl ?_
    refine y_ic rfl rfl ?_
    refine y_st (lv' := [(1, iv 0), (0, .ref 170)]) rfl rfl (fun d => rfl) ?_
    refine y_lv (l' := [(0, .ref 170), (1, iv 0)]) rfl ⟨rfl, rfl, trivial⟩ ?_
    refine y_V (V' := v_ur (v_up (v_up (v_up (v_up (v_up (v_up (v_up (v_up V 170 9 (a : Int)) 170 11 (z : Int)) 171 6 0) 174 a 0) 170 10 0) 170 12 0) 170 13 0) 170 14 0) 177 (fun i => if 8 * a ≤ i ∧ i < 8 * a + 0 then 0 else (v_up (v_up (v_up (v_up (v_up (v_up (v_up (v_up V 170 9 (a : Int)) 170 11 (z : Int)) 171 6 0) 174 a 0) 170 10 0) 170 12 0) 170 13 0) 170 14 0) 177 i)) ?_ ?_
    · rw [show (fun i => if 8 * a ≤ i ∧ i < 8 * a + 0 then 0 else (v_up (v_up (v_up (v_up (v_up (v_up (v_up (v_up V 170 9 (a : Int)) 170 11 (z : Int)) 171 6 0) 174 a 0) 170 10 0) 170 12 0) 170 13 0) 170 14 0) 177 i) = (v_up (v_up (v_up (v_up (v_up (v_up (v_up (v_up V 170 9 (a : Int)) 170 11 (z : Int)) 171 6 0) 174 a 0) 170 10 0) 170 12 0) 170 13 0) 170 14 0) 177 from funext (fun i => if_neg (by omega)), v_ur_self]
    refine y_mono (lp_text0 hM ha rfl 9 0 (by omega) (by omega) ?_) (by decide : 20 * 9 + 6000 ≤ _)
    refine y_lv (l' := [(0, .ref 170)]) rfl ⟨rfl, trivial⟩ ?_
    refine y_mono (tx_102 hM ⟨ha, hz, hb⟩ ⟨rfl, rfl, rfl, rfl, rfl, rfl, ?_, ?_, fun i x h => (by cases h), ?_⟩ h0 (fun l V' a1 a2 a3 a4 a5 => k1 l V' ha a1 a2 a3 (TX_tr ?_ a4) a5) (fun q V' a1 a2 a3 a4 => k2 q V' ha a1 (TX_tr ?_ a2) a3 a4)) (by decide)
    · intro i hi
      show v_uf (V 171) 6 0 (10 + i) = V 171 (10 + i)
      exact v_uf_ne (by omega)
    · show v_uf (V 174) a 0 a = 0
      exact v_uf_eq _ _ _
    · intro c hc
      show (if 8 * a ≤ 8 * a + c ∧ 8 * a + c < 8 * a + 8 then (0 : Int) else V 177 (8 * a + c)) = 0
      exact if_pos (by omega)
    · refine ⟨fun k q1 q2 q3 q4 q5 q6 q7 => ?_, fun i q => ?_, fun i q => rfl, fun i q => ?_, fun i q => rfl, fun i q => ⟨rfl, ?_⟩⟩
      · rw [v_ur_ne q7, v_up_ne q1, v_up_ne q1, v_up_ne q1, v_up_ne q1, v_up_ne q4, v_up_ne q2, v_up_ne q1, v_up_ne q1]
      · show v_uf (v_uf (v_uf (v_uf (v_uf (v_uf (V 170) 9 a) 11 z) 10 0) 12 0) 13 0) 14 0 i = V 170 i
        rw [v_uf_ne (by omega), v_uf_ne (by omega), v_uf_ne (by omega), v_uf_ne (by omega), v_uf_ne (by omega), v_uf_ne (by omega)]
      · show v_uf (V 174) a 0 i = V 174 i
        exact v_uf_ne q
      · show (if 8 * a ≤ i ∧ i < 8 * a + 8 then (0 : Int) else V 177 i) = V 177 i
        exact if_neg (by omega)
    · refine ⟨fun k q1 q2 q3 q4 q5 q6 q7 => ?_, fun i q => ?_, fun i q => rfl, fun i q => ?_, fun i q => rfl, fun i q => ⟨rfl, ?_⟩⟩
      · rw [v_ur_ne q7, v_up_ne q1, v_up_ne q1, v_up_ne q1, v_up_ne q1, v_up_ne q4, v_up_ne q2, v_up_ne q1, v_up_ne q1]
      · show v_uf (v_uf (v_uf (v_uf (v_uf (v_uf (V 170) 9 a) 11 z) 10 0) 12 0) 13 0) 14 0 i = V 170 i
        rw [v_uf_ne (by omega), v_uf_ne (by omega), v_uf_ne (by omega), v_uf_ne (by omega), v_uf_ne (by omega), v_uf_ne (by omega)]
      · show v_uf (V 174) a 0 i = V 174 i
        exact v_uf_ne q
      · show (if 8 * a ≤ i ∧ i < 8 * a + 8 then (0 : Int) else V 177 i) = V 177 i
        exact if_neg (by omega)
  · refine y_bi rfl rfl (by decide) ?_
    refine y_rI rfl (Or.inl rfl) ?_
    exact k0 (by omega)
end
end
section
/-! THE CLASS' READER: a TEXT at t, half made; what it has read so far -/
def tx_obj (t : Nat) : List Value := [.int 0, .ref (t + 1), .ref (t + 2), .ref (t + 3), .ref (t + 4), .ref (t + 5), .int 0, .int 0, .ref (t + 6)]
def TxS (S : m_H) (t : Nat) : Prop := ce S t 6 (tx_obj t) ∧ v_ia S (t + 1) 20 8 ∧ v_ia S (t + 2) 20 8 ∧ v_ia S (t + 3) 20 8 ∧ v_ia S (t + 4) 20 8 ∧ v_ia S (t + 5) 20 160 ∧ v_ia S (t + 6) 20 8
def RdS (S : m_H) (t : Nat) : Prop := ce S 115 3 [.ref 2, .int 0, .int 0, .ref t]
def CP (V : v_V) (t z : Nat) (τ : Nat → Int) (p : Nat) (ln : Int) (st : List Int) (g : Nat → Int) : Prop :=
  V 115 1 = z ∧ V 115 2 = p ∧ (∀ i, i < z → V 2 i = τ i) ∧ V t 0 = ln ∧ V t 6 = st.length ∧ (∀ i x, m_nth st i = some x → V (t + 5) i = x) ∧ (∀ c, c < 8 → V (t + 6) c = if 1 < g c then g c - 2 else -5) ∧ (0 ≤ V t 7 ∧ V t 7 < 256 ∧ ∀ c, c < 8 → V t 7 / 2 ^ c % 2 = if g c = 0 then 0 else 1)
/-- what a part of a reading leaves as it was -/
def CF (t : Nat) (V V' : v_V) : Prop := (∀ k, k ≠ 115 → k ≠ t → k ≠ t + 5 → k ≠ t + 6 → V' k = V k) ∧ (∀ i, i ≠ 2 → V' 115 i = V 115 i) ∧ V' t 0 = V t 0
theorem CF_rf (t : Nat) (V : v_V) : CF t V V := ⟨fun _ _ _ _ _ => rfl, fun _ _ => rfl, rfl⟩
theorem CF_tr {t : Nat} {V V' V'' : v_V} (h : CF t V V') (h2 : CF t V' V'') : CF t V V'' :=
  ⟨fun k q1 q2 q3 q4 => (h2.1 k q1 q2 q3 q4).trans (h.1 k q1 q2 q3 q4), fun i q => (h2.2.1 i q).trans (h.2.1 i q), h2.2.2.trans h.2.2⟩
theorem CF_at {t : Nat} {V : v_V} {x : Int} (ht : 193 ≤ t) : CF t V (v_up V 115 2 x) :=
  ⟨fun k q1 _ _ _ => v_up_ne q1, fun i q => v_up_ni q, congrFun (v_up_ne (by omega)) 0⟩
theorem CP_at {V : v_V} {t z : Nat} {τ : Nat → Int} {p p' : Nat} {ln : Int} {st : List Int} {g : Nat → Int} (ht : 193 ≤ t) (h : CP V t z τ p ln st g) : CP (v_up V 115 2 p') t z τ p' ln st g := by
  obtain ⟨a1, a2, a3, a4, a5, a6, a7, a8⟩ := h
  refine ⟨?_, v_up_eq _ _ _ _, ?_, ?_, ?_, ?_, ?_, ?_⟩
  · rw [v_up_ni (by decide)]; exact a1
  · rw [v_up_ne (by decide)]; exact a3
  · rw [v_up_ne (by omega)]; exact a4
  · rw [v_up_ne (by omega)]; exact a5
  · rw [v_up_ne (by omega)]; exact a6
  · rw [v_up_ne (by omega)]; exact a7
  · rw [v_up_ne (by omega)]; exact a8
theorem CP_add {V : v_V} {t z : Nat} {τ : Nat → Int} {p : Nat} {ln x : Int} {st : List Int} {g : Nat → Int} (ht : 193 ≤ t) (h : CP V t z τ p ln st g) : CP (v_up (v_up V (t + 5) st.length x) t 6 (st.length + 1)) t z τ p ln (st ++ [x]) g := by
  obtain ⟨a1, a2, a3, a4, a5, a6, a7, a8⟩ := h
  refine ⟨?_, ?_, ?_, ?_, ?_, ?_, ?_, ?_⟩
  · rw [v_up_ne (by omega), v_up_ne (by omega)]; exact a1
  · rw [v_up_ne (by omega), v_up_ne (by omega)]; exact a2
  · rw [v_up_ne (by omega), v_up_ne (by omega)]; exact a3
  · rw [v_up_ni (by decide), v_up_ne (by omega)]; exact a4
  · rw [v_up_eq, List.length_append]; rfl
  · intro i y hi
    rw [v_up_ne (by omega)]
    rw [m_nth_app] at hi
    by_cases h2 : i = st.length
    · rw [if_pos h2] at hi
      cases hi
      rw [h2, v_up_eq]
    · rw [if_neg h2] at hi
      rw [v_up_ni h2]
      exact a6 i y hi
  · rw [v_up_ne (by omega), v_up_ne (by omega)]; exact a7
  · rw [v_up_ni (by decide), v_up_ne (by omega)]; exact a8
theorem CF_add {V : v_V} {t i : Nat} {x y : Int} (ht : 193 ≤ t) : CF t V (v_up (v_up V (t + 5) i x) t 6 y) := by
  refine ⟨fun k q1 q2 q3 q4 => ?_, fun i q => ?_, ?_⟩
  · rw [v_up_ne q2, v_up_ne q3]
  · rw [v_up_ne (by omega), v_up_ne (by omega)]
  · rw [v_up_ni (by decide), v_up_ne (by omega)]
theorem CP_set {V : v_V} {t z : Nat} {τ : Nat → Int} {p : Nat} {ln x : Int} {st : List Int} {g : Nat → Int} {i : Nat} (ht : 193 ≤ t) (h : CP V t z τ p ln st g) (hi : i < st.length) : CP (v_up V (t + 5) i x) t z τ p ln (st.set i x) g := by
  obtain ⟨a1, a2, a3, a4, a5, a6, a7, a8⟩ := h
  refine ⟨?_, ?_, ?_, ?_, ?_, ?_, ?_, ?_⟩
  · rw [v_up_ne (by omega)]; exact a1
  · rw [v_up_ne (by omega)]; exact a2
  · rw [v_up_ne (by omega)]; exact a3
  · rw [v_up_ne (by omega)]; exact a4
  · rw [v_up_ne (by omega), List.length_set]; exact a5
  · intro j y hj
    rw [m_nth_set] at hj
    by_cases h2 : j = i
    · subst h2
      rw [if_pos rfl] at hj
      rw [v_up_eq]
      cases hm : m_nth st j with
      | none => rw [hm] at hj; cases hj
      | some w => rw [hm] at hj; cases hj; rfl
    · rw [if_neg h2] at hj
      rw [v_up_ni h2]
      exact a6 j y hj
  · rw [v_up_ne (by omega)]; exact a7
  · rw [v_up_ne (by omega)]; exact a8
theorem CF_set {V : v_V} {t i : Nat} {x : Int} (ht : 193 ≤ t) : CF t V (v_up V (t + 5) i x) := by
  refine ⟨fun k q1 q2 q3 q4 => v_up_ne q3, fun i q => ?_, ?_⟩
  · rw [v_up_ne (by omega)]
  · rw [v_up_ne (by omega)]
/-- bits: one more of the lowest eight -/
theorem v_bitI {x : Int} (hx : 0 ≤ x) (c : Nat) : x / 2 ^ c % 2 = if x.toNat.testBit c then 1 else 0 := by
  obtain ⟨n, rfl⟩ : ∃ n : Nat, x = n := ⟨x.toNat, (Int.toNat_of_nonneg hx).symm⟩
  rw [Int.toNat_natCast, Nat.testBit_eq_decide_div_mod_eq]
  have e : ((n : Int) / 2 ^ c % 2) = ((n / 2 ^ c % 2 : Nat) : Int) := by
    rw [Int.natCast_emod, Int.natCast_ediv, Int.natCast_pow]
    rfl
  rw [e]
  have h2 : n / 2 ^ c % 2 = 0 ∨ n / 2 ^ c % 2 = 1 := by omega
  rcases h2 with h2 | h2 <;> rw [h2] <;> rfl
def v_o2 (x : Int) (c : Nat) : Int := ((x.toNat ||| 2 ^ c : Nat) : Int)
theorem v_o2_bit {x : Int} (hx : 0 ≤ x) (c c' : Nat) : v_o2 x c / 2 ^ c' % 2 = if c' = c then 1 else x / 2 ^ c' % 2 := by
  rw [v_bitI (by unfold v_o2; omega), v_bitI hx]
  unfold v_o2
  rw [Int.toNat_natCast, Nat.testBit_or, Nat.testBit_two_pow]
  by_cases h : c' = c
  · subst h
    simp
  · rw [if_neg h]
    simp [show ¬ c = c' from fun e => h e.symm]
theorem v_o2_lt {x : Int} (hx : 0 ≤ x ∧ x < 256) {c : Nat} (hc : c < 8) : 0 ≤ v_o2 x c ∧ v_o2 x c < 256 := by
  have h : x.toNat ||| 2 ^ c < 2 ^ 8 := Nat.or_lt_two_pow (by omega) (Nat.pow_lt_pow_right (by decide) hc)
  unfold v_o2
  omega
theorem v_or_o2 {x : Int} (hx : 0 ≤ x) (c : Nat) : Int32.ofInt x ||| Int32.ofInt (2 ^ c) = Int32.ofInt (v_o2 x c) := by
  rw [v_or hx (Int.le_of_lt (v_p2 c))]
  unfold v_o2
  rw [show (2 : Int) ^ c = ((2 ^ c : Nat) : Int) by rw [Int.natCast_pow]; rfl, Int.toNat_natCast]
end
section
section
variable {X : Nat → List Int32} {u w : Nat} {S : m_H} {V : v_V} {K : v_K}
set_option maxRecDepth 100000 in
set_option maxHeartbeats 4000000 in
theorem cr_next (hC : ClF S) {t z p : Nat} {τ : Nat → Int} {ln : Int} {st : List Int} {g : Nat → Int} (hR : RdS S t) (hX : TxS S t) (ht : 193 ≤ t) (hT : Tp τ 0 z) (h : CP V t z τ p ln st g) (hp : p ≤ z) (k : K u w (some (iv (hr τ z p))) S V) : y_R X 1 29 u w [.ref 115] S V K := by
  have hz := hT.2.1
  refine y_ent (lv' := [(0, .ref 115)]) (Nat.le_of_ble_eq_true rfl) rfl ?_
  refine y_ld (x := .ref 115) rfl rfl (fun d => rfl) ?_
  refine y_gI (i := 2) (e := ((p : Nat) : Int)) rfl rfl rfl hR rfl h.2.1 ?_
  refine y_ld (x := .ref 115) rfl rfl (fun d => rfl) ?_
  refine y_gI (i := 1) (e := (z : Int)) rfl rfl rfl hR rfl h.1 ?_
  refine y_jge rfl rfl rfl (by omega) (fun g1 => ?_) (fun g1 => ?_)
  · refine y_ic rfl rfl ?_
    refine y_rI rfl (Or.inl rfl) ?_
    rwa [show hr τ z p = -1 from if_neg (by omega)] at k
  · refine y_ld (x := .ref 115) rfl rfl (fun d => rfl) ?_
    refine y_gR (i := 0) rfl rfl rfl hR rfl ?_
    refine y_ld (x := .ref 115) rfl rfl (fun d => rfl) ?_
    refine y_gI (i := 2) (e := ((p : Nat) : Int)) rfl rfl rfl hR rfl h.2.1 ?_
    refine y_ild (x := (τ p)) (q := p) rfl rfl (cl_ia hC (k := 2) (N := 160) rfl) (by omega) (by decide) (by omega) (h.2.2.1 p (by omega)) ?_
    refine y_go rfl rfl ?_
    refine y_rI rfl (Or.inl rfl) ?_
    rwa [show hr τ z p = τ p from if_pos (by omega)] at k
set_option maxRecDepth 100000 in
set_option maxHeartbeats 4000000 in
theorem cr_takes (hC : ClF S) {t z p : Nat} {τ : Nat → Int} {ln : Int} {st : List Int} {g : Nat → Int} (hR : RdS S t) (hX : TxS S t) (ht : 193 ≤ t) (hT : Tp τ 0 z) {c : Int} (hc : 0 ≤ c ∧ c ≤ 255) (h : CP V t z τ p ln st g) (hp : p ≤ z) (k1 : hr τ z p = c → ∀ V', CP V' t z τ (p + 1) ln st g → CF t V V' → K u w (some (iv 1)) S V') (k2 : ¬ hr τ z p = c → K u w (some (iv 0)) S V) : y_R X 1 30 u w [.ref 115, iv c] S V K := by
  have hz := hT.2.1
  refine y_ent (lv' := [(0, .ref 115), (1, iv c)]) (Nat.le_of_ble_eq_true rfl) rfl ?_
  refine y_ld (x := .ref 115) rfl rfl (fun d => rfl) ?_
  refine y_gI (i := 2) (e := ((p : Nat) : Int)) rfl rfl rfl hR rfl h.2.1 ?_
  refine y_ld (x := .ref 115) rfl rfl (fun d => rfl) ?_
  refine y_gI (i := 1) (e := (z : Int)) rfl rfl rfl hR rfl h.1 ?_
  refine y_jge rfl rfl rfl (by omega) (fun g1 => ?_) (fun g1 => ?_)
  · refine y_ic rfl rfl ?_
    refine y_rI rfl (by decide) ?_
    exact k2 (by unfold hr; first | rw [if_neg (by omega)]; omega | rw [if_pos (by omega)]; omega)
  · refine y_ld (x := .ref 115) rfl rfl (fun d => rfl) ?_
    refine y_gR (i := 0) rfl rfl rfl hR rfl ?_
    refine y_ld (x := .ref 115) rfl rfl (fun d => rfl) ?_
    refine y_gI (i := 2) (e := ((p : Nat) : Int)) rfl rfl rfl hR rfl h.2.1 ?_
    refine y_ild (x := (τ p)) (q := p) rfl rfl (cl_ia hC (k := 2) (N := 160) rfl) (by omega) (by decide) (by omega) (h.2.2.1 p (by omega)) ?_
    refine y_ld (x := iv c) rfl rfl (fun d => rfl) ?_
    have ht0 := hT.2.2 p (by omega)
    refine y_jeq rfl rfl rfl (by omega) (fun g2 => ?_) (fun g2 => ?_)
    · refine y_ld (x := .ref 115) rfl rfl (fun d => rfl) ?_
      refine y_in rfl rfl (fun d => rfl) ?_
      refine y_gI (i := 2) (e := ((p : Nat) : Int)) rfl rfl rfl hR rfl h.2.1 ?_
      refine y_ic rfl rfl ?_
      refine y_add (z := (((p : Nat) : Int) + 1)) rfl rfl rfl ?_
      refine y_pI (i := 2) rfl rfl rfl hR rfl rfl ?_
      refine y_ic rfl rfl ?_
      refine y_rI rfl (by decide) ?_
      exact k1 ((if_pos (by omega)).trans (by omega)) _ (CP_at (p' := p + 1) ht h) (CF_at ht)
    · refine y_ic rfl rfl ?_
      refine y_rI rfl (by decide) ?_
      exact k2 (by unfold hr; first | rw [if_neg (by omega)]; omega | rw [if_pos (by omega)]; omega)
set_option maxRecDepth 100000 in
set_option maxHeartbeats 4000000 in
theorem cr_digit (hC : ClF S) {t z p : Nat} {τ : Nat → Int} {ln : Int} {st : List Int} {g : Nat → Int} (hR : RdS S t) (hX : TxS S t) (ht : 193 ≤ t) (hT : Tp τ 0 z) {m : Int} (hm : 0 ≤ m ∧ m ≤ 9) (h : CP V t z τ p ln st g) (hp : p ≤ z) (k1 : 48 ≤ hr τ z p ∧ hr τ z p ≤ 48 + m → ∀ V', CP V' t z τ (p + 1) ln st g → CF t V V' → K u w (some (iv (hr τ z p - 48))) S V') (k2 : ¬ (48 ≤ hr τ z p ∧ hr τ z p ≤ 48 + m) → K u w (some (iv (-1))) S V) : y_R X 1 28 u w [.ref 115, iv m] S V K := by
  have hz := hT.2.1
  refine y_ent (lv' := [(0, .ref 115), (1, iv m)]) (Nat.le_of_ble_eq_true rfl) rfl ?_
  refine y_ld (x := .ref 115) rfl rfl (fun d => rfl) ?_
  refine y_gI (i := 2) (e := ((p : Nat) : Int)) rfl rfl rfl hR rfl h.2.1 ?_
  refine y_ld (x := .ref 115) rfl rfl (fun d => rfl) ?_
  refine y_gI (i := 1) (e := (z : Int)) rfl rfl rfl hR rfl h.1 ?_
  refine y_jge rfl rfl rfl (by omega) (fun g1 => ?_) (fun g1 => ?_)
  · refine y_ic rfl rfl ?_
    refine y_st (lv' := [(2, iv (-1)), (0, .ref 115), (1, iv m)]) rfl rfl (fun d => rfl) ?_
    refine y_ld (x := iv (-1)) rfl rfl (fun d => rfl) ?_
    refine y_zlt rfl rfl rfl (by decide) (fun g2 => ?_) (fun g2 => absurd g2 (by decide))
    refine y_ic rfl rfl ?_
    refine y_rI rfl (Or.inl rfl) ?_
    exact k2 (by unfold hr; first | rw [if_neg (by omega)]; omega | rw [if_pos (by omega)]; omega)
  · refine y_ld (x := .ref 115) rfl rfl (fun d => rfl) ?_
    refine y_gR (i := 0) rfl rfl rfl hR rfl ?_
    refine y_ld (x := .ref 115) rfl rfl (fun d => rfl) ?_
    refine y_gI (i := 2) (e := ((p : Nat) : Int)) rfl rfl rfl hR rfl h.2.1 ?_
    refine y_ild (x := (τ p)) (q := p) rfl rfl (cl_ia hC (k := 2) (N := 160) rfl) (by omega) (by decide) (by omega) (h.2.2.1 p (by omega)) ?_
    have ht0 := hT.2.2 p (by omega)
    refine y_bi rfl rfl (by decide) ?_
    refine y_sub (z := ((τ p) - 48)) rfl rfl rfl ?_
    refine y_go rfl rfl ?_
    refine y_st (lv' := [(2, iv ((τ p) - 48)), (0, .ref 115), (1, iv m)]) rfl rfl (fun d => rfl) ?_
    refine y_ld (x := iv ((τ p) - 48)) rfl rfl (fun d => rfl) ?_
    refine y_zlt rfl rfl rfl (by omega) (fun g3 => ?_) (fun g3 => ?_)
    · refine y_ic rfl rfl ?_
      refine y_rI rfl (Or.inl rfl) ?_
      exact k2 (by unfold hr; first | rw [if_neg (by omega)]; omega | rw [if_pos (by omega)]; omega)
    · refine y_ld (x := iv ((τ p) - 48)) rfl rfl (fun d => rfl) ?_
      refine y_ld (x := iv m) rfl rfl (fun d => rfl) ?_
      refine y_jle rfl rfl rfl (by omega) (fun g4 => ?_) (fun g4 => ?_)
      · refine y_ld (x := .ref 115) rfl rfl (fun d => rfl) ?_
        refine y_in rfl rfl (fun d => rfl) ?_
        refine y_gI (i := 2) (e := ((p : Nat) : Int)) rfl rfl rfl hR rfl h.2.1 ?_
        refine y_ic rfl rfl ?_
        refine y_add (z := (((p : Nat) : Int) + 1)) rfl rfl rfl ?_
        refine y_pI (i := 2) rfl rfl rfl hR rfl rfl ?_
        refine y_ld (x := iv ((τ p) - 48)) rfl rfl (fun d => rfl) ?_
        refine y_rI rfl (Or.inl rfl) ?_
        have e : hr τ z p = τ p := if_pos (by omega)
        rw [← e]
        exact k1 (by omega) _ (CP_at (p' := p + 1) ht h) (CF_at ht)
      · refine y_ic rfl rfl ?_
        refine y_rI rfl (Or.inl rfl) ?_
        exact k2 (by unfold hr; first | rw [if_neg (by omega)]; omega | rw [if_pos (by omega)]; omega)
set_option maxRecDepth 100000 in
set_option maxHeartbeats 4000000 in
theorem cr_term (hC : ClF S) {t z p : Nat} {τ : Nat → Int} {ln : Int} {st : List Int} {g : Nat → Int} (hR : RdS S t) (hX : TxS S t) (ht : 193 ≤ t) (hT : Tp τ 0 z) (h : CP V t z τ p ln st g) (hp : p ≤ z) (k : ∀ V', CP V' t z τ (pT τ z p).2 ln st g → CF t V V' → K u w (some (iv (pT τ z p).1)) S V') : y_R X 2 27 u w [.ref 115] S V K := by
  have hz := hT.2.1
  have hq0 := hr_rg hT p
  refine y_ent (lv' := [(0, .ref 115)]) (Nat.le_of_ble_eq_true rfl) rfl ?_
  refine y_ld (x := .ref 115) rfl rfl (fun d => rfl) ?_
  refine y_bi rfl rfl (by decide) ?_
  refine y_cV (as := [.ref 115, iv 107]) rfl rfl rfl rfl rfl hR ⟨rfl, (Nat.le_of_ble_eq_true rfl), (Nat.le_of_ble_eq_true rfl)⟩ (by decide) (cr_takes hC hR hX ht hT (by decide) h (by omega) (fun q2 V1 h1 f1 => ?_) (fun q3 => ?_))
  · have pl4 := hr_le (τ := τ) (z := z) (p := p) (by omega)
    refine y_nv ?_
    refine y_zeq rfl rfl rfl (by decide) (fun g1 => absurd g1 (by decide)) (fun g1 => ?_)
    refine y_bi rfl rfl (by decide) ?_
    refine y_rI rfl (Or.inl rfl) ?_
    have e : pT τ z p = _ := pT_k (by omega)
    rw [e] at k
    exact k _ h1 (CF_tr (CF_rf t V) f1)
  · refine y_nv ?_
    refine y_zeq rfl rfl rfl (by decide) (fun g2 => ?_) (fun g2 => absurd g2 (by decide))
    refine y_ld (x := .ref 115) rfl rfl (fun d => rfl) ?_
    refine y_bi rfl rfl (by decide) ?_
    refine y_cV (as := [.ref 115, iv 104]) rfl rfl rfl rfl rfl hR ⟨rfl, (Nat.le_of_ble_eq_true rfl), (Nat.le_of_ble_eq_true rfl)⟩ (by decide) (cr_takes hC hR hX ht hT (by decide) h (by omega) (fun q6 V5 h5 f5 => ?_) (fun q7 => ?_))
    · have pl8 := hr_le (τ := τ) (z := z) (p := p) (by omega)
      refine y_nv ?_
      refine y_zeq rfl rfl rfl (by decide) (fun g3 => absurd g3 (by decide)) (fun g3 => ?_)
      refine y_bi rfl rfl (by decide) ?_
      refine y_rI rfl (Or.inl rfl) ?_
      have e : pT τ z p = _ := pT_h (by omega)
      rw [e] at k
      exact k _ h5 (CF_tr (CF_rf t V) f5)
    · refine y_nv ?_
      refine y_zeq rfl rfl rfl (by decide) (fun g4 => ?_) (fun g4 => absurd g4 (by decide))
      refine y_ld (x := .ref 115) rfl rfl (fun d => rfl) ?_
      refine y_bi rfl rfl (by decide) ?_
      refine y_cV (as := [.ref 115, iv 110]) rfl rfl rfl rfl rfl hR ⟨rfl, (Nat.le_of_ble_eq_true rfl), (Nat.le_of_ble_eq_true rfl)⟩ (by decide) (cr_takes hC hR hX ht hT (by decide) h (by omega) (fun q10 V9 h9 f9 => ?_) (fun q11 => ?_))
      · have pl12 := hr_le (τ := τ) (z := z) (p := p) (by omega)
        refine y_nv ?_
        refine y_zeq rfl rfl rfl (by decide) (fun g5 => absurd g5 (by decide)) (fun g5 => ?_)
        refine y_bi rfl rfl (by decide) ?_
        refine y_rI rfl (Or.inl rfl) ?_
        have e : pT τ z p = _ := pT_n (by omega)
        rw [e] at k
        exact k _ h9 (CF_tr (CF_rf t V) f9)
      · refine y_nv ?_
        refine y_zeq rfl rfl rfl (by decide) (fun g6 => ?_) (fun g6 => absurd g6 (by decide))
        refine y_ld (x := .ref 115) rfl rfl (fun d => rfl) ?_
        refine y_bi rfl rfl (by decide) ?_
        refine y_cV (as := [.ref 115, iv 116]) rfl rfl rfl rfl rfl hR ⟨rfl, (Nat.le_of_ble_eq_true rfl), (Nat.le_of_ble_eq_true rfl)⟩ (by decide) (cr_takes hC hR hX ht hT (by decide) h (by omega) (fun q14 V13 h13 f13 => ?_) (fun q15 => ?_))
        · have pl16 := hr_le (τ := τ) (z := z) (p := p) (by omega)
          refine y_nv ?_
          refine y_zeq rfl rfl rfl (by decide) (fun g7 => absurd g7 (by decide)) (fun g7 => ?_)
          refine y_ic rfl rfl ?_
          refine y_go rfl rfl ?_
          refine y_st (lv' := [(1, iv 0), (0, .ref 115)]) rfl rfl (fun d => rfl) ?_
          refine y_ld (x := iv 0) rfl rfl (fun d => rfl) ?_
          refine y_zlt rfl rfl rfl (by decide) (fun g8 => absurd g8 (by decide)) (fun g8 => ?_)
          refine y_ld (x := .ref 115) rfl rfl (fun d => rfl) ?_
          refine y_ic rfl rfl ?_
          refine y_cV (as := [.ref 115, iv 3]) rfl rfl rfl rfl rfl hR ⟨rfl, (Nat.le_of_ble_eq_true rfl), (Nat.le_of_ble_eq_true rfl)⟩ (by decide) (cr_digit hC hR hX ht hT (by decide) h13 (by omega) (fun q18 V17 h17 f17 => ?_) (fun q19 => ?_))
          · have pl20 := hr_le (τ := τ) (z := z) (p := (p + 1)) (by omega)
            refine y_nv ?_
            refine y_st (lv' := [(2, iv (hr τ z (p + 1) - 48)), (1, iv 0), (0, .ref 115)]) rfl rfl (fun d => rfl) ?_
            refine y_ld (x := iv (hr τ z (p + 1) - 48)) rfl rfl (fun d => rfl) ?_
            refine y_zge rfl rfl rfl (by omega) (fun g9 => ?_) (fun g9 => absurd g9 (by omega))
            refine y_bi rfl rfl (by decide) ?_
            refine y_ld (x := iv 0) rfl rfl (fun d => rfl) ?_
            refine y_ic rfl rfl ?_
            refine y_mul (z := 0) rfl rfl rfl ?_
            refine y_add (z := 104) rfl rfl rfl ?_
            refine y_ld (x := iv (hr τ z (p + 1) - 48)) rfl rfl (fun d => rfl) ?_
            refine y_add (z := (104 + (hr τ z (p + 1) - 48))) rfl rfl rfl ?_
            refine y_rI rfl (Or.inl rfl) ?_
            have e : pT τ z p = _ := pT_c1 (by omega) (by omega)
            rw [e] at k
            have e2 : 104 + (hr τ z (p + 1) - 48) = (if hr τ z p = 116 then 104 else if hr τ z p = 115 then 108 else 112) + (hr τ z (p + 1) - 48) := by rw [if_pos (by omega)]
            rw [e2]
            exact k _ h17 (CF_tr (CF_tr (CF_rf t V) f13) f17)
          · refine y_nv ?_
            refine y_st (lv' := [(2, iv (-1)), (1, iv 0), (0, .ref 115)]) rfl rfl (fun d => rfl) ?_
            refine y_ld (x := iv (-1)) rfl rfl (fun d => rfl) ?_
            refine y_zge rfl rfl rfl (by decide) (fun g10 => absurd g10 (by decide)) (fun g10 => ?_)
            refine y_ic rfl rfl ?_
            refine y_go rfl rfl ?_
            refine y_rI rfl (Or.inl rfl) ?_
            have e : pT τ z p = _ := pT_c0 (by omega) (by omega)
            rw [e] at k
            exact k _ h13 (CF_tr (CF_rf t V) f13)
        · refine y_nv ?_
          refine y_zeq rfl rfl rfl (by decide) (fun g11 => ?_) (fun g11 => absurd g11 (by decide))
          refine y_ld (x := .ref 115) rfl rfl (fun d => rfl) ?_
          refine y_bi rfl rfl (by decide) ?_
          refine y_cV (as := [.ref 115, iv 115]) rfl rfl rfl rfl rfl hR ⟨rfl, (Nat.le_of_ble_eq_true rfl), (Nat.le_of_ble_eq_true rfl)⟩ (by decide) (cr_takes hC hR hX ht hT (by decide) h (by omega) (fun q22 V21 h21 f21 => ?_) (fun q23 => ?_))
          · have pl24 := hr_le (τ := τ) (z := z) (p := p) (by omega)
            refine y_nv ?_
            refine y_zeq rfl rfl rfl (by decide) (fun g12 => absurd g12 (by decide)) (fun g12 => ?_)
            refine y_ic rfl rfl ?_
            refine y_go rfl rfl ?_
            refine y_st (lv' := [(1, iv 1), (0, .ref 115)]) rfl rfl (fun d => rfl) ?_
            refine y_ld (x := iv 1) rfl rfl (fun d => rfl) ?_
            refine y_zlt rfl rfl rfl (by decide) (fun g13 => absurd g13 (by decide)) (fun g13 => ?_)
            refine y_ld (x := .ref 115) rfl rfl (fun d => rfl) ?_
            refine y_ic rfl rfl ?_
            refine y_cV (as := [.ref 115, iv 3]) rfl rfl rfl rfl rfl hR ⟨rfl, (Nat.le_of_ble_eq_true rfl), (Nat.le_of_ble_eq_true rfl)⟩ (by decide) (cr_digit hC hR hX ht hT (by decide) h21 (by omega) (fun q26 V25 h25 f25 => ?_) (fun q27 => ?_))
            · have pl28 := hr_le (τ := τ) (z := z) (p := (p + 1)) (by omega)
              refine y_nv ?_
              refine y_st (lv' := [(2, iv (hr τ z (p + 1) - 48)), (1, iv 1), (0, .ref 115)]) rfl rfl (fun d => rfl) ?_
              refine y_ld (x := iv (hr τ z (p + 1) - 48)) rfl rfl (fun d => rfl) ?_
              refine y_zge rfl rfl rfl (by omega) (fun g14 => ?_) (fun g14 => absurd g14 (by omega))
              refine y_bi rfl rfl (by decide) ?_
              refine y_ld (x := iv 1) rfl rfl (fun d => rfl) ?_
              refine y_ic rfl rfl ?_
              refine y_mul (z := 4) rfl rfl rfl ?_
              refine y_add (z := 108) rfl rfl rfl ?_
              refine y_ld (x := iv (hr τ z (p + 1) - 48)) rfl rfl (fun d => rfl) ?_
              refine y_add (z := (108 + (hr τ z (p + 1) - 48))) rfl rfl rfl ?_
              refine y_rI rfl (Or.inl rfl) ?_
              have e : pT τ z p = _ := pT_c1 (by omega) (by omega)
              rw [e] at k
              have e2 : 108 + (hr τ z (p + 1) - 48) = (if hr τ z p = 116 then 104 else if hr τ z p = 115 then 108 else 112) + (hr τ z (p + 1) - 48) := by rw [if_neg (by omega), if_pos (by omega)]
              rw [e2]
              exact k _ h25 (CF_tr (CF_tr (CF_rf t V) f21) f25)
            · refine y_nv ?_
              refine y_st (lv' := [(2, iv (-1)), (1, iv 1), (0, .ref 115)]) rfl rfl (fun d => rfl) ?_
              refine y_ld (x := iv (-1)) rfl rfl (fun d => rfl) ?_
              refine y_zge rfl rfl rfl (by decide) (fun g15 => absurd g15 (by decide)) (fun g15 => ?_)
              refine y_ic rfl rfl ?_
              refine y_go rfl rfl ?_
              refine y_rI rfl (Or.inl rfl) ?_
              have e : pT τ z p = _ := pT_c0 (by omega) (by omega)
              rw [e] at k
              exact k _ h21 (CF_tr (CF_rf t V) f21)
          · refine y_nv ?_
            refine y_zeq rfl rfl rfl (by decide) (fun g16 => ?_) (fun g16 => absurd g16 (by decide))
            refine y_ld (x := .ref 115) rfl rfl (fun d => rfl) ?_
            refine y_bi rfl rfl (by decide) ?_
            refine y_cV (as := [.ref 115, iv 103]) rfl rfl rfl rfl rfl hR ⟨rfl, (Nat.le_of_ble_eq_true rfl), (Nat.le_of_ble_eq_true rfl)⟩ (by decide) (cr_takes hC hR hX ht hT (by decide) h (by omega) (fun q30 V29 h29 f29 => ?_) (fun q31 => ?_))
            · have pl32 := hr_le (τ := τ) (z := z) (p := p) (by omega)
              refine y_nv ?_
              refine y_zeq rfl rfl rfl (by decide) (fun g17 => absurd g17 (by decide)) (fun g17 => ?_)
              refine y_ic rfl rfl ?_
              refine y_go rfl rfl ?_
              refine y_st (lv' := [(1, iv 2), (0, .ref 115)]) rfl rfl (fun d => rfl) ?_
              refine y_ld (x := iv 2) rfl rfl (fun d => rfl) ?_
              refine y_zlt rfl rfl rfl (by decide) (fun g18 => absurd g18 (by decide)) (fun g18 => ?_)
              refine y_ld (x := .ref 115) rfl rfl (fun d => rfl) ?_
              refine y_ic rfl rfl ?_
              refine y_cV (as := [.ref 115, iv 3]) rfl rfl rfl rfl rfl hR ⟨rfl, (Nat.le_of_ble_eq_true rfl), (Nat.le_of_ble_eq_true rfl)⟩ (by decide) (cr_digit hC hR hX ht hT (by decide) h29 (by omega) (fun q34 V33 h33 f33 => ?_) (fun q35 => ?_))
              · have pl36 := hr_le (τ := τ) (z := z) (p := (p + 1)) (by omega)
                refine y_nv ?_
                refine y_st (lv' := [(2, iv (hr τ z (p + 1) - 48)), (1, iv 2), (0, .ref 115)]) rfl rfl (fun d => rfl) ?_
                refine y_ld (x := iv (hr τ z (p + 1) - 48)) rfl rfl (fun d => rfl) ?_
                refine y_zge rfl rfl rfl (by omega) (fun g19 => ?_) (fun g19 => absurd g19 (by omega))
                refine y_bi rfl rfl (by decide) ?_
                refine y_ld (x := iv 2) rfl rfl (fun d => rfl) ?_
                refine y_ic rfl rfl ?_
                refine y_mul (z := 8) rfl rfl rfl ?_
                refine y_add (z := 112) rfl rfl rfl ?_
                refine y_ld (x := iv (hr τ z (p + 1) - 48)) rfl rfl (fun d => rfl) ?_
                refine y_add (z := (112 + (hr τ z (p + 1) - 48))) rfl rfl rfl ?_
                refine y_rI rfl (Or.inl rfl) ?_
                have e : pT τ z p = _ := pT_c1 (by omega) (by omega)
                rw [e] at k
                have e2 : 112 + (hr τ z (p + 1) - 48) = (if hr τ z p = 116 then 104 else if hr τ z p = 115 then 108 else 112) + (hr τ z (p + 1) - 48) := by rw [if_neg (by omega), if_neg (by omega)]
                rw [e2]
                exact k _ h33 (CF_tr (CF_tr (CF_rf t V) f29) f33)
              · refine y_nv ?_
                refine y_st (lv' := [(2, iv (-1)), (1, iv 2), (0, .ref 115)]) rfl rfl (fun d => rfl) ?_
                refine y_ld (x := iv (-1)) rfl rfl (fun d => rfl) ?_
                refine y_zge rfl rfl rfl (by decide) (fun g20 => absurd g20 (by decide)) (fun g20 => ?_)
                refine y_ic rfl rfl ?_
                refine y_go rfl rfl ?_
                refine y_rI rfl (Or.inl rfl) ?_
                have e : pT τ z p = _ := pT_c0 (by omega) (by omega)
                rw [e] at k
                exact k _ h29 (CF_tr (CF_rf t V) f29)
            · refine y_nv ?_
              refine y_zeq rfl rfl rfl (by decide) (fun g21 => ?_) (fun g21 => absurd g21 (by decide))
              refine y_ic rfl rfl ?_
              refine y_st (lv' := [(1, iv (-1)), (0, .ref 115)]) rfl rfl (fun d => rfl) ?_
              refine y_ld (x := iv (-1)) rfl rfl (fun d => rfl) ?_
              refine y_zlt rfl rfl rfl (by decide) (fun g22 => ?_) (fun g22 => absurd g22 (by decide))
              refine y_ld (x := .ref 115) rfl rfl (fun d => rfl) ?_
              refine y_bi rfl rfl (by decide) ?_
              refine y_cV (as := [.ref 115, iv 9]) rfl rfl rfl rfl rfl hR ⟨rfl, (Nat.le_of_ble_eq_true rfl), (Nat.le_of_ble_eq_true rfl)⟩ (by decide) (cr_digit hC hR hX ht hT (by decide) h (by omega) (fun q38 V37 h37 f37 => ?_) (fun q39 => ?_))
              · have pl40 := hr_le (τ := τ) (z := z) (p := p) (by omega)
                refine y_nv ?_
                refine y_st (lv' := [(2, iv (hr τ z p - 48)), (1, iv (-1)), (0, .ref 115)]) rfl rfl (fun d => rfl) ?_
                refine y_ld (x := iv (hr τ z p - 48)) rfl rfl (fun d => rfl) ?_
                refine y_zgt rfl rfl rfl (by omega) (fun g23 => ?_) (fun g23 => ?_)
                · refine y_ld (x := .ref 115) rfl rfl (fun d => rfl) ?_
                  refine y_bi rfl rfl (by decide) ?_
                  refine y_cV (as := [.ref 115, iv 9]) rfl rfl rfl rfl rfl hR ⟨rfl, (Nat.le_of_ble_eq_true rfl), (Nat.le_of_ble_eq_true rfl)⟩ (by decide) (cr_digit hC hR hX ht hT (by decide) h37 (by omega) (fun q42 V41 h41 f41 => ?_) (fun q43 => ?_))
                  · have pl44 := hr_le (τ := τ) (z := z) (p := (p + 1)) (by omega)
                    refine y_nv ?_
                    refine y_st (lv' := [(3, iv (hr τ z (p + 1) - 48)), (2, iv (hr τ z p - 48)), (1, iv (-1)), (0, .ref 115)]) rfl rfl (fun d => rfl) ?_
                    refine y_ld (x := iv (hr τ z (p + 1) - 48)) rfl rfl (fun d => rfl) ?_
                    refine y_zge rfl rfl rfl (by omega) (fun g24 => ?_) (fun g24 => absurd g24 (by omega))
                    refine y_ld (x := iv (hr τ z p - 48)) rfl rfl (fun d => rfl) ?_
                    refine y_bi rfl rfl (by decide) ?_
                    refine y_mul (z := ((hr τ z p - 48) * 10)) rfl rfl rfl ?_
                    refine y_ld (x := iv (hr τ z (p + 1) - 48)) rfl rfl (fun d => rfl) ?_
                    refine y_add (z := (((hr τ z p - 48) * 10) + (hr τ z (p + 1) - 48))) rfl rfl rfl ?_
                    refine y_rI rfl (Or.inl rfl) ?_
                    have e : pT τ z p = _ := pT_2 (by omega) (by omega)
                    rw [e] at k
                    exact k _ h41 (CF_tr (CF_tr (CF_rf t V) f37) f41)
                  · refine y_nv ?_
                    refine y_st (lv' := [(3, iv (-1)), (2, iv (hr τ z p - 48)), (1, iv (-1)), (0, .ref 115)]) rfl rfl (fun d => rfl) ?_
                    refine y_ld (x := iv (-1)) rfl rfl (fun d => rfl) ?_
                    refine y_zge rfl rfl rfl (by decide) (fun g25 => absurd g25 (by decide)) (fun g25 => ?_)
                    refine y_ld (x := iv (hr τ z p - 48)) rfl rfl (fun d => rfl) ?_
                    refine y_go rfl rfl ?_
                    refine y_rI rfl (Or.inl rfl) ?_
                    have e : pT τ z p = _ := pT_1 (by omega) (by omega)
                    rw [e] at k
                    exact k _ h37 (CF_tr (CF_rf t V) f37)
                · refine y_ld (x := iv (hr τ z p - 48)) rfl rfl (fun d => rfl) ?_
                  refine y_rI rfl (Or.inl rfl) ?_
                  have e : pT τ z p = _ := pT_0 (by omega)
                  rw [e] at k
                  have e2 : hr τ z p - 48 = 0 := by omega
                  rw [e2]
                  exact k _ h37 (CF_tr (CF_rf t V) f37)
              · refine y_nv ?_
                refine y_st (lv' := [(2, iv (-1)), (1, iv (-1)), (0, .ref 115)]) rfl rfl (fun d => rfl) ?_
                refine y_ld (x := iv (-1)) rfl rfl (fun d => rfl) ?_
                refine y_zgt rfl rfl rfl (by decide) (fun g26 => absurd g26 (by decide)) (fun g26 => ?_)
                refine y_ld (x := iv (-1)) rfl rfl (fun d => rfl) ?_
                refine y_rI rfl (Or.inl rfl) ?_
                have e : pT τ z p = _ := pT_x (by omega)
                rw [e] at k
                exact k _ h (CF_rf t V)
end
end
section
/-! TEXT's add, note, countTerms; a TEST; E in the class -/
def encTc : List p_Tk → List Int
  | [] => []
  | (c, a, b) :: r => (if c ≤ 122 then [c, a, b] else [c]) ++ encTc r
theorem encTc_app (l r : List p_Tk) : encTc (l ++ r) = encTc l ++ encTc r := by
  induction l with
  | nil => rfl
  | cons x l ih =>
    obtain ⟨c, a, b⟩ := x
    simp [encTc, ih]
theorem CP_note {V : v_V} {t z : Nat} {τ : Nat → Int} {p : Nat} {ln : Int} {st : List Int} {g g' : Nat → Int} {c : Nat} {y : Int} (ht : 193 ≤ t) (hc : c < 8) (h : CP V t z τ p ln st g) (hg : ∀ i, i ≠ c → g' i = g i) (h0 : ¬ g' c = 0) (h1 : y = if 1 < g' c then g' c - 2 else -5) :
    CP (v_up (v_up V t 7 (v_o2 (V t 7) c)) (t + 6) c y) t z τ p ln st g' := by
  obtain ⟨a1, a2, a3, a4, a5, a6, a7, a8⟩ := h
  refine ⟨?_, ?_, ?_, ?_, ?_, ?_, ?_, ?_⟩
  · rw [v_up_ne (by omega), v_up_ne (by omega)]; exact a1
  · rw [v_up_ne (by omega), v_up_ne (by omega)]; exact a2
  · rw [v_up_ne (by omega), v_up_ne (by omega)]; exact a3
  · rw [v_up_ne (by omega), v_up_ni (by decide)]; exact a4
  · rw [v_up_ne (by omega), v_up_ni (by decide)]; exact a5
  · rw [v_up_ne (by omega), v_up_ne (by omega)]; exact a6
  · intro q hq
    by_cases h2 : q = c
    · rw [h2, v_up_eq, h1]
    · rw [v_up_ni h2, v_up_ne (by omega), hg q h2]
      exact a7 q hq
  · have hl := v_o2_lt ⟨a8.1, a8.2.1⟩ hc
    rw [v_up_ne (by omega), v_up_eq]
    refine ⟨hl.1, hl.2, fun q hq => ?_⟩
    rw [v_o2_bit a8.1]
    by_cases h2 : q = c
    · rw [if_pos h2, h2, if_neg h0]
    · rw [if_neg h2, hg q h2]
      exact a8.2.2 q hq
theorem CF_note {V : v_V} {t c : Nat} {x y : Int} (ht : 193 ≤ t) : CF t V (v_up (v_up V t 7 x) (t + 6) c y) := by
  refine ⟨fun k q1 q2 q3 q4 => ?_, fun i q => ?_, ?_⟩
  · rw [v_up_ne q4, v_up_ne q2]
  · rw [v_up_ne (by omega), v_up_ne (by omega)]
  · rw [v_up_ne (by omega), v_up_ni (by decide)]
section
variable {X : Nat → List Int32} {u w : Nat} {S : m_H} {V : v_V} {K : v_K}
set_option maxRecDepth 100000 in
set_option maxHeartbeats 4000000 in
theorem cr_add (hC : ClF S) {t z p : Nat} {τ : Nat → Int} {ln : Int} {st : List Int} {g : Nat → Int} (hR : RdS S t) (hX : TxS S t) (ht : 193 ≤ t) (hT : Tp τ 0 z) {x : Int} (h : CP V t z τ p ln st g) (hl : st.length < 160) (k : ∀ V', CP V' t z τ p ln (st ++ [x]) g → CF t V V' → K u w none S V') : y_R X 1 50 u w [.ref t, iv x] S V K := by
  refine y_ent (lv' := [(0, .ref t), (1, iv x)]) (Nat.le_of_ble_eq_true rfl) rfl ?_
  refine y_ld (x := .ref t) rfl rfl (fun d => rfl) ?_
  refine y_gI (i := 6) (e := ((st).length : Int)) rfl rfl rfl hX.1 rfl h.2.2.2.2.1 ?_
  refine y_si rfl rfl (by decide) ?_
  refine y_jlt rfl rfl rfl (by omega) (fun g1 => ?_) (fun g1 => ?_)
  · refine y_ld (x := .ref t) rfl rfl (fun d => rfl) ?_
    refine y_gR (i := 5) rfl rfl rfl hX.1 rfl ?_
    refine y_ld (x := .ref t) rfl rfl (fun d => rfl) ?_
    refine y_gI (i := 6) (e := ((st).length : Int)) rfl rfl rfl hX.1 rfl h.2.2.2.2.1 ?_
    refine y_ld (x := iv x) rfl rfl (fun d => rfl) ?_
    refine y_ist (q := st.length) rfl rfl hX.2.2.2.2.2.1 (by omega) (by decide) (by omega) ?_
    refine y_ld (x := .ref t) rfl rfl (fun d => rfl) ?_
    refine y_in rfl rfl (fun d => rfl) ?_
    refine y_gI (i := 6) (e := ((st).length : Int)) rfl rfl rfl hX.1 rfl (by rw [v_up_ne (by omega)]; exact h.2.2.2.2.1) ?_
    refine y_ic rfl rfl ?_
    refine y_add (z := (((st).length : Int) + 1)) rfl rfl rfl ?_
    refine y_pI (i := 6) rfl rfl rfl hX.1 rfl rfl ?_
    refine y_ret rfl (fun d => rfl) ?_
    exact k _ (CP_add ht h) (CF_add ht)
  · refine y_ret rfl (fun d => rfl) ?_
    exact absurd g1 (by omega)
set_option maxRecDepth 100000 in
set_option maxHeartbeats 4000000 in
theorem cr_note (hC : ClF S) {t z p : Nat} {τ : Nat → Int} {ln : Int} {st : List Int} {g : Nat → Int} (hR : RdS S t) (hX : TxS S t) (ht : 193 ≤ t) (hT : Tp τ 0 z) {x : Int} {b : Bool} (hx : tcd x) (hln : 1 ≤ ln ∧ ln ≤ 8) (hg : ∀ c, c < 8 → 0 ≤ g c ∧ g c ≤ 10) (h : CP V t z τ p ln st g) (k : ∀ V', CP V' t z τ p ln st (mk (ln - 1) g x (!b)) → CF t V V' → K u w none S V') : y_R X 1 53 u w [.ref t, iv x, iv (v_b (b = true))] S V K := by
  have hx2 := tcd_le hx
  have hx3 : 0 ≤ x := by unfold tcd at hx; omega
  refine y_ent (lv' := [(0, .ref t), (1, iv x), (2, iv (v_b (b = true)))]) (Nat.le_of_ble_eq_true rfl) rfl ?_
  refine y_ld (x := iv x) rfl rfl (fun d => rfl) ?_
  refine y_bi rfl rfl (by decide) ?_
  refine y_sub (z := (x - 104)) rfl rfl rfl ?_
  refine y_ic rfl rfl ?_
  refine y_sub (z := (x - 108)) rfl rfl (by omega) ?_
  refine y_st (lv' := [(3, iv (x - 108)), (0, .ref t), (1, iv x), (2, iv (v_b (b = true)))]) rfl rfl (fun d => rfl) ?_
  refine y_ld (x := iv (x - 108)) rfl rfl (fun d => rfl) ?_
  refine y_zlt rfl rfl rfl (by omega) (fun g1 => ?_) (fun g1 => ?_)
  · refine y_ret rfl (fun d => rfl) ?_
    rw [show mk (ln - 1) g x (!b) = g from if_neg (by omega)] at k
    exact k _ h (CF_rf t V)
  · refine y_ld (x := iv (x - 108)) rfl rfl (fun d => rfl) ?_
    refine y_bi rfl rfl (by decide) ?_
    refine y_jlt rfl rfl rfl (by omega) (fun g2 => ?_) (fun g2 => ?_)
    · have h8 := h.2.2.2.2.2.2.2
      refine y_ld (x := .ref t) rfl rfl (fun d => rfl) ?_
      refine y_in rfl rfl (fun d => rfl) ?_
      refine y_gI (i := 7) (e := (V t 7)) rfl rfl rfl hX.1 rfl rfl ?_
      refine y_ic rfl rfl ?_
      refine y_ld (x := iv (x - 108)) rfl rfl (fun d => rfl) ?_
      refine y_op (z := (2 ^ (x - 108).toNat)) rfl rfl (fun d => rfl) (v_shl1 (by omega)) ?_
      refine y_op (z := (v_o2 (V t 7) (x - 108).toNat)) rfl rfl (fun d => rfl) (v_or_o2 h.2.2.2.2.2.2.2.1 _) ?_
      refine y_pI (i := 7) rfl rfl rfl hX.1 rfl rfl ?_
      refine y_ld (x := iv (v_b (b = true))) rfl rfl (fun d => rfl) ?_
      refine y_bne rfl rfl rfl (fun g3 => ?_) (fun g3 => ?_)
      · refine y_ret rfl (fun d => rfl) ?_
        have hgc := hg (x - 108).toNat (by omega)
        have e7 := h.2.2.2.2.2.2.1 (x - 108).toNat (by omega)
        have em : mk (ln - 1) g x (!b) = v_uf g (x - 108).toNat (if 1 < g (x - 108).toNat then g (x - 108).toNat else if (!b) = true then 2 + (ln - 1) else 1) := if_pos (by omega)
        rw [em] at k
        have ev : v_up V t 7 (v_o2 (V t 7) (x - 108).toNat) = v_up (v_up V t 7 (v_o2 (V t 7) (x - 108).toNat)) (t + 6) (x - 108).toNat (V (t + 6) (x - 108).toNat) := by rw [v_up_ur (v_up V t 7 _), show V (t + 6) = v_up V t 7 (v_o2 (V t 7) (x - 108).toNat) (t + 6) from (v_up_ne (by omega)).symm, v_uf_self, v_ur_self]
        rw [ev]
        refine k _ (CP_note ht (by omega) h (fun i hi => v_uf_ne hi) ?_ ?_) (CF_note ht)
        · rw [v_uf_eq]; cases b
          · exact absurd g3 (by decide)
          · simp only [Bool.not_true, Bool.false_eq_true, if_false]; split <;> omega
        · rw [v_uf_eq, e7]; cases b
          · exact absurd g3 (by decide)
          · simp only [Bool.not_true, Bool.false_eq_true, if_false]; by_cases q : 1 < g (x - 108).toNat
            · rw [if_pos q, if_pos q, if_pos q]
            · rw [if_neg q, if_neg q, if_neg (by decide)]
      · refine y_ld (x := .ref t) rfl rfl (fun d => rfl) ?_
        refine y_gR (i := 8) rfl rfl rfl hX.1 rfl ?_
        refine y_ld (x := iv (x - 108)) rfl rfl (fun d => rfl) ?_
        refine y_ild (x := (V (t + 6) ((x - 108).toNat))) (q := ((x - 108).toNat)) rfl rfl hX.2.2.2.2.2.2 (by omega) (by decide) (by omega) (by rw [v_up_ne (by omega)]) ?_
        refine y_bi rfl rfl (by decide) ?_
        have hgc0 := hg (x - 108).toNat (by omega)
        have e70 := h.2.2.2.2.2.2.1 (x - 108).toNat (by omega)
        have hrn : -5 ≤ V (t + 6) (x - 108).toNat ∧ V (t + 6) (x - 108).toNat ≤ 8 := by rw [e70]; split <;> omega
        refine y_jne rfl rfl rfl (by omega) (fun g4 => ?_) (fun g4 => ?_)
        · refine y_ret rfl (fun d => rfl) ?_
          have hgc := hg (x - 108).toNat (by omega)
          have e7 := h.2.2.2.2.2.2.1 (x - 108).toNat (by omega)
          have em : mk (ln - 1) g x (!b) = v_uf g (x - 108).toNat (if 1 < g (x - 108).toNat then g (x - 108).toNat else if (!b) = true then 2 + (ln - 1) else 1) := if_pos (by omega)
          rw [em] at k
          have ev : v_up V t 7 (v_o2 (V t 7) (x - 108).toNat) = v_up (v_up V t 7 (v_o2 (V t 7) (x - 108).toNat)) (t + 6) (x - 108).toNat (V (t + 6) (x - 108).toNat) := by rw [v_up_ur (v_up V t 7 _), show V (t + 6) = v_up V t 7 (v_o2 (V t 7) (x - 108).toNat) (t + 6) from (v_up_ne (by omega)).symm, v_uf_self, v_ur_self]
          rw [ev]
          refine k _ (CP_note ht (by omega) h (fun i hi => v_uf_ne hi) ?_ ?_) (CF_note ht)
          · rw [v_uf_eq, if_pos (by by_cases q : 1 < g (x - 108).toNat; exact q; rw [if_neg q] at e7; omega)]; omega
          · have q1 : 1 < g (x - 108).toNat := by by_cases q : 1 < g (x - 108).toNat; exact q; rw [if_neg q] at e7; omega
            rw [v_uf_eq, if_pos q1, if_pos q1, e7, if_pos q1]
        · refine y_ld (x := .ref t) rfl rfl (fun d => rfl) ?_
          refine y_gR (i := 8) rfl rfl rfl hX.1 rfl ?_
          refine y_ld (x := iv (x - 108)) rfl rfl (fun d => rfl) ?_
          refine y_ld (x := .ref t) rfl rfl (fun d => rfl) ?_
          refine y_gI (i := 0) (e := ln) rfl rfl rfl hX.1 rfl (by rw [v_up_ni (by omega)]; exact h.2.2.2.1) ?_
          refine y_ic rfl rfl ?_
          refine y_sub (z := (ln - 1)) rfl rfl rfl ?_
          refine y_ist (q := ((x - 108).toNat)) rfl rfl hX.2.2.2.2.2.2 (by omega) (by decide) (by omega) ?_
          refine y_ret rfl (fun d => rfl) ?_
          have hgc := hg (x - 108).toNat (by omega)
          have e7 := h.2.2.2.2.2.2.1 (x - 108).toNat (by omega)
          have em : mk (ln - 1) g x (!b) = v_uf g (x - 108).toNat (if 1 < g (x - 108).toNat then g (x - 108).toNat else if (!b) = true then 2 + (ln - 1) else 1) := if_pos (by omega)
          rw [em] at k
          refine k _ (CP_note (y := ln - 1) ht (by omega) h (fun i hi => v_uf_ne hi) ?_ ?_) (CF_note ht)
          · rw [v_uf_eq]; cases b
            · rw [if_neg (by intro q; rw [if_pos q] at e7; omega)]; simp only [Bool.not_false, if_true]; omega
            · exact absurd rfl g3
          · rw [v_uf_eq]; cases b
            · rw [if_neg (show ¬ 1 < g (x - 108).toNat by intro q; rw [if_pos q] at e7; omega)]; simp only [Bool.not_false, if_true]; rw [if_pos (by omega)]; omega
            · exact absurd rfl g3
    · refine y_ret rfl (fun d => rfl) ?_
      rw [show mk (ln - 1) g x (!b) = g from if_neg (by omega)] at k
      exact k _ h (CF_rf t V)
set_option maxRecDepth 100000 in
set_option maxHeartbeats 4000000 in
theorem cr_count (hC : ClF S) {t z p : Nat} {τ : Nat → Int} {ln : Int} {st : List Int} {g : Nat → Int} (hR : RdS S t) (hX : TxS S t) (ht : 193 ≤ t) (hT : Tp τ 0 z) {x : Int} {i : Nat} (h : CP V t z τ p ln st g) (hi : i < st.length) (hl : st.length ≤ 160) (k : ∀ V', CP V' t z τ p ln (st.set i x) g → CF t V V' → K u w none S V') : y_R X 1 51 u w [.ref t, iv i, iv x] S V K := by
  refine y_ent (lv' := [(0, .ref t), (1, iv (i : Int)), (2, iv x)]) (Nat.le_of_ble_eq_true rfl) rfl ?_
  refine y_ld (x := iv (i : Int)) rfl rfl (fun d => rfl) ?_
  refine y_zlt rfl rfl rfl (by omega) (fun g1 => ?_) (fun g1 => ?_)
  · refine y_ret rfl (fun d => rfl) ?_
    exact absurd g1 (by omega)
  · refine y_ld (x := iv (i : Int)) rfl rfl (fun d => rfl) ?_
    refine y_ld (x := .ref t) rfl rfl (fun d => rfl) ?_
    refine y_gI (i := 6) (e := ((st).length : Int)) rfl rfl rfl hX.1 rfl h.2.2.2.2.1 ?_
    refine y_jge rfl rfl rfl (by omega) (fun g2 => ?_) (fun g2 => ?_)
    · refine y_ret rfl (fun d => rfl) ?_
      exact absurd g2 (by omega)
    · refine y_ld (x := .ref t) rfl rfl (fun d => rfl) ?_
      refine y_gR (i := 5) rfl rfl rfl hX.1 rfl ?_
      refine y_ld (x := iv (i : Int)) rfl rfl (fun d => rfl) ?_
      refine y_ld (x := iv x) rfl rfl (fun d => rfl) ?_
      refine y_ist (q := i) rfl rfl hX.2.2.2.2.2.1 (by omega) (by decide) (by omega) ?_
      refine y_ret rfl (fun d => rfl) ?_
      exact k _ (CP_set ht h (by omega)) (CF_set ht)
theorem pT_rg (τ : Nat → Int) (z p : Nat) : -1 ≤ (pT τ z p).1 ∧ (pT τ z p).1 ≤ 115 := by
  by_cases h : 0 ≤ (pT τ z p).1
  · have := tcd_le (pT_cd τ z p h)
    omega
  · refine ⟨?_, by omega⟩
    unfold pT at h ⊢
    split
    · simp only; omega
    split
    · simp only; omega
    split
    · simp only; omega
    split
    · split
      · simp only
        split
        · omega
        · split <;> omega
      · simp only; omega
    split
    · simp only; omega
    split
    · split <;> (simp only; omega)
    · simp only; omega
set_option maxRecDepth 100000 in
set_option maxHeartbeats 4000000 in
theorem cr_test (hC : ClF S) {t z p : Nat} {τ : Nat → Int} {ln : Int} {st : List Int} {g : Nat → Int} (hR : RdS S t) (hX : TxS S t) (ht : 193 ≤ t) (hT : Tp τ 0 z) (hln : 1 ≤ ln ∧ ln ≤ 8) (hg : ∀ c, c < 8 → 0 ≤ g c ∧ g c ≤ 10) (hl : st.length ≤ p) (h : CP V t z τ p ln st g) (hp : p ≤ z) (k1 : ∀ tk q V', pS τ z p = (some tk, q) → CP V' t z τ q ln (st ++ [tk.1, tk.2.1, tk.2.2]) (mk (ln - 1) (mk (ln - 1) g tk.2.1 true) tk.2.2 true) → CF t V V' → K u w (some (iv 1)) S V') (k2 : ∀ q V' st' g', pS τ z p = (none, q) → CP V' t z τ q ln st' g' → CF t V V' → K u w (some (iv 0)) S V') : y_R X 3 23 u w [.ref 115] S V K := by
  have hz := hT.2.1
  have hq0 := hr_rg hT p
  refine y_ent (lv' := [(0, .ref 115)]) (Nat.le_of_ble_eq_true rfl) rfl ?_
  refine y_ld (x := .ref 115) rfl rfl (fun d => rfl) ?_
  refine y_cV (as := [.ref 115]) rfl rfl rfl rfl rfl hR ⟨rfl, (Nat.le_of_ble_eq_true rfl), (Nat.le_of_ble_eq_true rfl)⟩ (by decide) (cr_term hC hR hX ht hT h (by omega) (fun V1 h1 f1 => ?_))
  have pl2 := pT_le τ z p (by omega)
  have cd3 := pT_cd τ z p
  have rg4 : -1 ≤ (pT τ z p).1 ∧ (pT τ z p).1 ≤ 115 := pT_rg τ z p
  refine y_nv ?_
  refine y_st (lv' := [(1, iv ((pT τ z p).1)), (0, .ref 115)]) rfl rfl (fun d => rfl) ?_
  refine y_ld (x := iv ((pT τ z p).1)) rfl rfl (fun d => rfl) ?_
  refine y_zge rfl rfl rfl (by omega) (fun g1 => ?_) (fun g1 => ?_)
  · refine y_ld (x := .ref 115) rfl rfl (fun d => rfl) ?_
    refine y_bi rfl rfl (by decide) ?_
    refine y_cV (as := [.ref 115, iv 60]) rfl rfl rfl rfl rfl hR ⟨rfl, (Nat.le_of_ble_eq_true rfl), (Nat.le_of_ble_eq_true rfl)⟩ (by decide) (cr_takes hC hR hX ht hT (by decide) h1 (by omega) (fun q6 V5 h5 f5 => ?_) (fun q7 => ?_))
    · have pl8 := hr_le (τ := τ) (z := z) (p := (pT τ z p).2) (by omega)
      refine y_nv ?_
      refine y_zeq rfl rfl rfl (by decide) (fun g2 => absurd g2 (by decide)) (fun g2 => ?_)
      refine y_bi rfl rfl (by decide) ?_
      refine y_go rfl rfl ?_
      refine y_st (lv' := [(2, iv 120), (1, iv ((pT τ z p).1)), (0, .ref 115)]) rfl rfl (fun d => rfl) ?_
      refine y_ld (x := iv 120) rfl rfl (fun d => rfl) ?_
      refine y_zge rfl rfl rfl (by decide) (fun g3 => ?_) (fun g3 => absurd g3 (by decide))
      refine y_ld (x := .ref 115) rfl rfl (fun d => rfl) ?_
      refine y_cV (as := [.ref 115]) rfl rfl rfl rfl rfl hR ⟨rfl, (Nat.le_of_ble_eq_true rfl), (Nat.le_of_ble_eq_true rfl)⟩ (by decide) (cr_term hC hR hX ht hT h5 (by omega) (fun V9 h9 f9 => ?_))
      have pl10 := pT_le τ z ((pT τ z p).2 + 1) (by omega)
      have cd11 := pT_cd τ z ((pT τ z p).2 + 1)
      have rg12 : -1 ≤ (pT τ z ((pT τ z p).2 + 1)).1 ∧ (pT τ z ((pT τ z p).2 + 1)).1 ≤ 115 := pT_rg τ z ((pT τ z p).2 + 1)
      refine y_nv ?_
      refine y_st (lv' := [(3, iv ((pT τ z ((pT τ z p).2 + 1)).1)), (2, iv 120), (1, iv ((pT τ z p).1)), (0, .ref 115)]) rfl rfl (fun d => rfl) ?_
      refine y_ld (x := iv ((pT τ z ((pT τ z p).2 + 1)).1)) rfl rfl (fun d => rfl) ?_
      refine y_zge rfl rfl rfl (by omega) (fun g4 => ?_) (fun g4 => ?_)
      · refine y_ld (x := .ref 115) rfl rfl (fun d => rfl) ?_
        refine y_gR (i := 3) rfl rfl rfl hR rfl ?_
        refine y_ld (x := iv 120) rfl rfl (fun d => rfl) ?_
        refine y_cV (as := [.ref t, iv 120]) rfl rfl rfl rfl rfl hX.1 ⟨rfl, (Nat.le_of_ble_eq_true rfl), (Nat.le_of_ble_eq_true rfl)⟩ (by decide) (cr_add hC hR hX ht hT h9 (by first | omega | (simp; omega)) (fun V13 h13 f13 => ?_))
        refine y_n0 ?_
        refine y_ld (x := .ref 115) rfl rfl (fun d => rfl) ?_
        refine y_gR (i := 3) rfl rfl rfl hR rfl ?_
        refine y_ld (x := iv ((pT τ z p).1)) rfl rfl (fun d => rfl) ?_
        refine y_cV (as := [.ref t, iv ((pT τ z p).1)]) rfl rfl rfl rfl rfl hX.1 ⟨rfl, (Nat.le_of_ble_eq_true rfl), (Nat.le_of_ble_eq_true rfl)⟩ (by decide) (cr_add hC hR hX ht hT h13 (by first | omega | (simp; omega)) (fun V14 h14 f14 => ?_))
        refine y_n0 ?_
        refine y_ld (x := .ref 115) rfl rfl (fun d => rfl) ?_
        refine y_gR (i := 3) rfl rfl rfl hR rfl ?_
        refine y_ld (x := iv ((pT τ z ((pT τ z p).2 + 1)).1)) rfl rfl (fun d => rfl) ?_
        refine y_cV (as := [.ref t, iv ((pT τ z ((pT τ z p).2 + 1)).1)]) rfl rfl rfl rfl rfl hX.1 ⟨rfl, (Nat.le_of_ble_eq_true rfl), (Nat.le_of_ble_eq_true rfl)⟩ (by decide) (cr_add hC hR hX ht hT h14 (by first | omega | (simp; omega)) (fun V15 h15 f15 => ?_))
        refine y_n0 ?_
        refine y_ld (x := .ref 115) rfl rfl (fun d => rfl) ?_
        refine y_gR (i := 3) rfl rfl rfl hR rfl ?_
        refine y_ld (x := iv ((pT τ z p).1)) rfl rfl (fun d => rfl) ?_
        refine y_ic rfl rfl ?_
        refine y_cV (as := [.ref t, iv ((pT τ z p).1), iv 0]) rfl rfl rfl rfl rfl hX.1 ⟨rfl, (Nat.le_of_ble_eq_true rfl), (Nat.le_of_ble_eq_true rfl)⟩ (by decide) (cr_note (b := false) hC hR hX ht hT (pT_cd τ z p (by omega)) hln hg h15 (fun V16 h16 f16 => ?_))
        refine y_n0 ?_
        refine y_ld (x := .ref 115) rfl rfl (fun d => rfl) ?_
        refine y_gR (i := 3) rfl rfl rfl hR rfl ?_
        refine y_ld (x := iv ((pT τ z ((pT τ z p).2 + 1)).1)) rfl rfl (fun d => rfl) ?_
        refine y_ic rfl rfl ?_
        refine y_cV (as := [.ref t, iv ((pT τ z ((pT τ z p).2 + 1)).1), iv 0]) rfl rfl rfl rfl rfl hX.1 ⟨rfl, (Nat.le_of_ble_eq_true rfl), (Nat.le_of_ble_eq_true rfl)⟩ (by decide) (cr_note (b := false) hC hR hX ht hT (pT_cd τ z ((pT τ z p).2 + 1) (by omega)) hln (mk_bd (by omega) hg _ _ (tcd_le (pT_cd τ z p (by omega)))) h16 (fun V17 h17 f17 => ?_))
        refine y_n0 ?_
        refine y_ic rfl rfl ?_
        refine y_rI rfl (by decide) ?_
        have eS : pS τ z p = (some (hr τ z (pT τ z p).2 + 60, (pT τ z p).1, (pT τ z ((pT τ z p).2 + 1)).1), (pT τ z ((pT τ z p).2 + 1)).2) := (if_neg (by omega)).trans ((if_pos (by omega)).trans (if_neg (by omega)))
        refine k1 _ _ _ eS ?_ (CF_tr (CF_tr (CF_tr (CF_tr (CF_tr (CF_tr (CF_tr (CF_tr (CF_rf t V) f1) f5) f9) f13) f14) f15) f16) f17)
        have hh := h17
        rw [show hr τ z (pT τ z p).2 + 60 = 120 by omega]
        rw [List.append_assoc, List.append_assoc] at hh
        exact hh
      · refine y_ic rfl rfl ?_
        refine y_rI rfl (by decide) ?_
        exact k2 _ _ _ _ ((if_neg (by omega)).trans ((if_pos (by omega)).trans (if_pos (by omega)))) h9 (CF_tr (CF_tr (CF_tr (CF_rf t V) f1) f5) f9)
    · refine y_nv ?_
      refine y_zeq rfl rfl rfl (by decide) (fun g5 => ?_) (fun g5 => absurd g5 (by decide))
      refine y_ld (x := .ref 115) rfl rfl (fun d => rfl) ?_
      refine y_bi rfl rfl (by decide) ?_
      refine y_cV (as := [.ref 115, iv 61]) rfl rfl rfl rfl rfl hR ⟨rfl, (Nat.le_of_ble_eq_true rfl), (Nat.le_of_ble_eq_true rfl)⟩ (by decide) (cr_takes hC hR hX ht hT (by decide) h1 (by omega) (fun q19 V18 h18 f18 => ?_) (fun q20 => ?_))
      · have pl21 := hr_le (τ := τ) (z := z) (p := (pT τ z p).2) (by omega)
        refine y_nv ?_
        refine y_zeq rfl rfl rfl (by decide) (fun g6 => absurd g6 (by decide)) (fun g6 => ?_)
        refine y_bi rfl rfl (by decide) ?_
        refine y_go rfl rfl ?_
        refine y_st (lv' := [(2, iv 121), (1, iv ((pT τ z p).1)), (0, .ref 115)]) rfl rfl (fun d => rfl) ?_
        refine y_ld (x := iv 121) rfl rfl (fun d => rfl) ?_
        refine y_zge rfl rfl rfl (by decide) (fun g7 => ?_) (fun g7 => absurd g7 (by decide))
        refine y_ld (x := .ref 115) rfl rfl (fun d => rfl) ?_
        refine y_cV (as := [.ref 115]) rfl rfl rfl rfl rfl hR ⟨rfl, (Nat.le_of_ble_eq_true rfl), (Nat.le_of_ble_eq_true rfl)⟩ (by decide) (cr_term hC hR hX ht hT h18 (by omega) (fun V22 h22 f22 => ?_))
        have pl23 := pT_le τ z ((pT τ z p).2 + 1) (by omega)
        have cd24 := pT_cd τ z ((pT τ z p).2 + 1)
        have rg25 : -1 ≤ (pT τ z ((pT τ z p).2 + 1)).1 ∧ (pT τ z ((pT τ z p).2 + 1)).1 ≤ 115 := pT_rg τ z ((pT τ z p).2 + 1)
        refine y_nv ?_
        refine y_st (lv' := [(3, iv ((pT τ z ((pT τ z p).2 + 1)).1)), (2, iv 121), (1, iv ((pT τ z p).1)), (0, .ref 115)]) rfl rfl (fun d => rfl) ?_
        refine y_ld (x := iv ((pT τ z ((pT τ z p).2 + 1)).1)) rfl rfl (fun d => rfl) ?_
        refine y_zge rfl rfl rfl (by omega) (fun g8 => ?_) (fun g8 => ?_)
        · refine y_ld (x := .ref 115) rfl rfl (fun d => rfl) ?_
          refine y_gR (i := 3) rfl rfl rfl hR rfl ?_
          refine y_ld (x := iv 121) rfl rfl (fun d => rfl) ?_
          refine y_cV (as := [.ref t, iv 121]) rfl rfl rfl rfl rfl hX.1 ⟨rfl, (Nat.le_of_ble_eq_true rfl), (Nat.le_of_ble_eq_true rfl)⟩ (by decide) (cr_add hC hR hX ht hT h22 (by first | omega | (simp; omega)) (fun V26 h26 f26 => ?_))
          refine y_n0 ?_
          refine y_ld (x := .ref 115) rfl rfl (fun d => rfl) ?_
          refine y_gR (i := 3) rfl rfl rfl hR rfl ?_
          refine y_ld (x := iv ((pT τ z p).1)) rfl rfl (fun d => rfl) ?_
          refine y_cV (as := [.ref t, iv ((pT τ z p).1)]) rfl rfl rfl rfl rfl hX.1 ⟨rfl, (Nat.le_of_ble_eq_true rfl), (Nat.le_of_ble_eq_true rfl)⟩ (by decide) (cr_add hC hR hX ht hT h26 (by first | omega | (simp; omega)) (fun V27 h27 f27 => ?_))
          refine y_n0 ?_
          refine y_ld (x := .ref 115) rfl rfl (fun d => rfl) ?_
          refine y_gR (i := 3) rfl rfl rfl hR rfl ?_
          refine y_ld (x := iv ((pT τ z ((pT τ z p).2 + 1)).1)) rfl rfl (fun d => rfl) ?_
          refine y_cV (as := [.ref t, iv ((pT τ z ((pT τ z p).2 + 1)).1)]) rfl rfl rfl rfl rfl hX.1 ⟨rfl, (Nat.le_of_ble_eq_true rfl), (Nat.le_of_ble_eq_true rfl)⟩ (by decide) (cr_add hC hR hX ht hT h27 (by first | omega | (simp; omega)) (fun V28 h28 f28 => ?_))
          refine y_n0 ?_
          refine y_ld (x := .ref 115) rfl rfl (fun d => rfl) ?_
          refine y_gR (i := 3) rfl rfl rfl hR rfl ?_
          refine y_ld (x := iv ((pT τ z p).1)) rfl rfl (fun d => rfl) ?_
          refine y_ic rfl rfl ?_
          refine y_cV (as := [.ref t, iv ((pT τ z p).1), iv 0]) rfl rfl rfl rfl rfl hX.1 ⟨rfl, (Nat.le_of_ble_eq_true rfl), (Nat.le_of_ble_eq_true rfl)⟩ (by decide) (cr_note (b := false) hC hR hX ht hT (pT_cd τ z p (by omega)) hln hg h28 (fun V29 h29 f29 => ?_))
          refine y_n0 ?_
          refine y_ld (x := .ref 115) rfl rfl (fun d => rfl) ?_
          refine y_gR (i := 3) rfl rfl rfl hR rfl ?_
          refine y_ld (x := iv ((pT τ z ((pT τ z p).2 + 1)).1)) rfl rfl (fun d => rfl) ?_
          refine y_ic rfl rfl ?_
          refine y_cV (as := [.ref t, iv ((pT τ z ((pT τ z p).2 + 1)).1), iv 0]) rfl rfl rfl rfl rfl hX.1 ⟨rfl, (Nat.le_of_ble_eq_true rfl), (Nat.le_of_ble_eq_true rfl)⟩ (by decide) (cr_note (b := false) hC hR hX ht hT (pT_cd τ z ((pT τ z p).2 + 1) (by omega)) hln (mk_bd (by omega) hg _ _ (tcd_le (pT_cd τ z p (by omega)))) h29 (fun V30 h30 f30 => ?_))
          refine y_n0 ?_
          refine y_ic rfl rfl ?_
          refine y_rI rfl (by decide) ?_
          have eS : pS τ z p = (some (hr τ z (pT τ z p).2 + 60, (pT τ z p).1, (pT τ z ((pT τ z p).2 + 1)).1), (pT τ z ((pT τ z p).2 + 1)).2) := (if_neg (by omega)).trans ((if_pos (by omega)).trans (if_neg (by omega)))
          refine k1 _ _ _ eS ?_ (CF_tr (CF_tr (CF_tr (CF_tr (CF_tr (CF_tr (CF_tr (CF_tr (CF_rf t V) f1) f18) f22) f26) f27) f28) f29) f30)
          have hh := h30
          rw [show hr τ z (pT τ z p).2 + 60 = 121 by omega]
          rw [List.append_assoc, List.append_assoc] at hh
          exact hh
        · refine y_ic rfl rfl ?_
          refine y_rI rfl (by decide) ?_
          exact k2 _ _ _ _ ((if_neg (by omega)).trans ((if_pos (by omega)).trans (if_pos (by omega)))) h22 (CF_tr (CF_tr (CF_tr (CF_rf t V) f1) f18) f22)
      · refine y_nv ?_
        refine y_zeq rfl rfl rfl (by decide) (fun g9 => ?_) (fun g9 => absurd g9 (by decide))
        refine y_ld (x := .ref 115) rfl rfl (fun d => rfl) ?_
        refine y_bi rfl rfl (by decide) ?_
        refine y_cV (as := [.ref 115, iv 62]) rfl rfl rfl rfl rfl hR ⟨rfl, (Nat.le_of_ble_eq_true rfl), (Nat.le_of_ble_eq_true rfl)⟩ (by decide) (cr_takes hC hR hX ht hT (by decide) h1 (by omega) (fun q32 V31 h31 f31 => ?_) (fun q33 => ?_))
        · have pl34 := hr_le (τ := τ) (z := z) (p := (pT τ z p).2) (by omega)
          refine y_nv ?_
          refine y_zeq rfl rfl rfl (by decide) (fun g10 => absurd g10 (by decide)) (fun g10 => ?_)
          refine y_bi rfl rfl (by decide) ?_
          refine y_go rfl rfl ?_
          refine y_st (lv' := [(2, iv 122), (1, iv ((pT τ z p).1)), (0, .ref 115)]) rfl rfl (fun d => rfl) ?_
          refine y_ld (x := iv 122) rfl rfl (fun d => rfl) ?_
          refine y_zge rfl rfl rfl (by decide) (fun g11 => ?_) (fun g11 => absurd g11 (by decide))
          refine y_ld (x := .ref 115) rfl rfl (fun d => rfl) ?_
          refine y_cV (as := [.ref 115]) rfl rfl rfl rfl rfl hR ⟨rfl, (Nat.le_of_ble_eq_true rfl), (Nat.le_of_ble_eq_true rfl)⟩ (by decide) (cr_term hC hR hX ht hT h31 (by omega) (fun V35 h35 f35 => ?_))
          have pl36 := pT_le τ z ((pT τ z p).2 + 1) (by omega)
          have cd37 := pT_cd τ z ((pT τ z p).2 + 1)
          have rg38 : -1 ≤ (pT τ z ((pT τ z p).2 + 1)).1 ∧ (pT τ z ((pT τ z p).2 + 1)).1 ≤ 115 := pT_rg τ z ((pT τ z p).2 + 1)
          refine y_nv ?_
          refine y_st (lv' := [(3, iv ((pT τ z ((pT τ z p).2 + 1)).1)), (2, iv 122), (1, iv ((pT τ z p).1)), (0, .ref 115)]) rfl rfl (fun d => rfl) ?_
          refine y_ld (x := iv ((pT τ z ((pT τ z p).2 + 1)).1)) rfl rfl (fun d => rfl) ?_
          refine y_zge rfl rfl rfl (by omega) (fun g12 => ?_) (fun g12 => ?_)
          · refine y_ld (x := .ref 115) rfl rfl (fun d => rfl) ?_
            refine y_gR (i := 3) rfl rfl rfl hR rfl ?_
            refine y_ld (x := iv 122) rfl rfl (fun d => rfl) ?_
            refine y_cV (as := [.ref t, iv 122]) rfl rfl rfl rfl rfl hX.1 ⟨rfl, (Nat.le_of_ble_eq_true rfl), (Nat.le_of_ble_eq_true rfl)⟩ (by decide) (cr_add hC hR hX ht hT h35 (by first | omega | (simp; omega)) (fun V39 h39 f39 => ?_))
            refine y_n0 ?_
            refine y_ld (x := .ref 115) rfl rfl (fun d => rfl) ?_
            refine y_gR (i := 3) rfl rfl rfl hR rfl ?_
            refine y_ld (x := iv ((pT τ z p).1)) rfl rfl (fun d => rfl) ?_
            refine y_cV (as := [.ref t, iv ((pT τ z p).1)]) rfl rfl rfl rfl rfl hX.1 ⟨rfl, (Nat.le_of_ble_eq_true rfl), (Nat.le_of_ble_eq_true rfl)⟩ (by decide) (cr_add hC hR hX ht hT h39 (by first | omega | (simp; omega)) (fun V40 h40 f40 => ?_))
            refine y_n0 ?_
            refine y_ld (x := .ref 115) rfl rfl (fun d => rfl) ?_
            refine y_gR (i := 3) rfl rfl rfl hR rfl ?_
            refine y_ld (x := iv ((pT τ z ((pT τ z p).2 + 1)).1)) rfl rfl (fun d => rfl) ?_
            refine y_cV (as := [.ref t, iv ((pT τ z ((pT τ z p).2 + 1)).1)]) rfl rfl rfl rfl rfl hX.1 ⟨rfl, (Nat.le_of_ble_eq_true rfl), (Nat.le_of_ble_eq_true rfl)⟩ (by decide) (cr_add hC hR hX ht hT h40 (by first | omega | (simp; omega)) (fun V41 h41 f41 => ?_))
            refine y_n0 ?_
            refine y_ld (x := .ref 115) rfl rfl (fun d => rfl) ?_
            refine y_gR (i := 3) rfl rfl rfl hR rfl ?_
            refine y_ld (x := iv ((pT τ z p).1)) rfl rfl (fun d => rfl) ?_
            refine y_ic rfl rfl ?_
            refine y_cV (as := [.ref t, iv ((pT τ z p).1), iv 0]) rfl rfl rfl rfl rfl hX.1 ⟨rfl, (Nat.le_of_ble_eq_true rfl), (Nat.le_of_ble_eq_true rfl)⟩ (by decide) (cr_note (b := false) hC hR hX ht hT (pT_cd τ z p (by omega)) hln hg h41 (fun V42 h42 f42 => ?_))
            refine y_n0 ?_
            refine y_ld (x := .ref 115) rfl rfl (fun d => rfl) ?_
            refine y_gR (i := 3) rfl rfl rfl hR rfl ?_
            refine y_ld (x := iv ((pT τ z ((pT τ z p).2 + 1)).1)) rfl rfl (fun d => rfl) ?_
            refine y_ic rfl rfl ?_
            refine y_cV (as := [.ref t, iv ((pT τ z ((pT τ z p).2 + 1)).1), iv 0]) rfl rfl rfl rfl rfl hX.1 ⟨rfl, (Nat.le_of_ble_eq_true rfl), (Nat.le_of_ble_eq_true rfl)⟩ (by decide) (cr_note (b := false) hC hR hX ht hT (pT_cd τ z ((pT τ z p).2 + 1) (by omega)) hln (mk_bd (by omega) hg _ _ (tcd_le (pT_cd τ z p (by omega)))) h42 (fun V43 h43 f43 => ?_))
            refine y_n0 ?_
            refine y_ic rfl rfl ?_
            refine y_rI rfl (by decide) ?_
            have eS : pS τ z p = (some (hr τ z (pT τ z p).2 + 60, (pT τ z p).1, (pT τ z ((pT τ z p).2 + 1)).1), (pT τ z ((pT τ z p).2 + 1)).2) := (if_neg (by omega)).trans ((if_pos (by omega)).trans (if_neg (by omega)))
            refine k1 _ _ _ eS ?_ (CF_tr (CF_tr (CF_tr (CF_tr (CF_tr (CF_tr (CF_tr (CF_tr (CF_rf t V) f1) f31) f35) f39) f40) f41) f42) f43)
            have hh := h43
            rw [show hr τ z (pT τ z p).2 + 60 = 122 by omega]
            rw [List.append_assoc, List.append_assoc] at hh
            exact hh
          · refine y_ic rfl rfl ?_
            refine y_rI rfl (by decide) ?_
            exact k2 _ _ _ _ ((if_neg (by omega)).trans ((if_pos (by omega)).trans (if_pos (by omega)))) h35 (CF_tr (CF_tr (CF_tr (CF_rf t V) f1) f31) f35)
        · refine y_nv ?_
          refine y_zeq rfl rfl rfl (by decide) (fun g13 => ?_) (fun g13 => absurd g13 (by decide))
          refine y_ic rfl rfl ?_
          refine y_st (lv' := [(2, iv (-1)), (1, iv ((pT τ z p).1)), (0, .ref 115)]) rfl rfl (fun d => rfl) ?_
          refine y_ld (x := iv (-1)) rfl rfl (fun d => rfl) ?_
          refine y_zge rfl rfl rfl (by decide) (fun g14 => absurd g14 (by decide)) (fun g14 => ?_)
          refine y_ic rfl rfl ?_
          refine y_rI rfl (by decide) ?_
          exact k2 _ _ _ _ ((if_neg (by omega)).trans (if_neg (by omega))) h1 (CF_tr (CF_rf t V) f1)
  · refine y_ic rfl rfl ?_
    refine y_rI rfl (by decide) ?_
    exact k2 _ _ _ _ (if_pos (by omega)) h1 (CF_tr (CF_rf t V) f1)
end
end
section
/-! E in the class -/
theorem encTc_ops (c : Int) (hc : ¬ c ≤ 122) (k : Nat) : (encTc (List.replicate k (c, 0, 0))).length = k := by
  induction k with
  | zero => rfl
  | succ k ih =>
    rw [List.replicate_succ]
    show ((if c ≤ 122 then [c, 0, 0] else [c]) ++ encTc (List.replicate k (c, 0, 0))).length = k + 1
    rw [if_neg hc, List.length_append, ih]
    simp
    omega
theorem pX_c {τ : Nat → Int} {z : Nat} : ∀ (n md o p : Nat) (acc l : List p_Tk) (q : Nat), md ≤ 4 → p ≤ z → pX τ z n md o p acc = (some l, q) → (encTc l).length + p ≤ (encTc acc).length + q
  | 0, md, o, p, acc, l, q, hm, hp, h => by
    unfold pX at h
    cases h
  | n + 1, 0, o, p, acc, l, q, hm, hp, h => by
    have h0 : hr τ z p ≠ -1 → p < z := hr_le
    rw [pX_F] at h
    split at h
    · split at h
      · cases h
      · have hlt := h0 (by omega)
        split at h
        · rename_i l1 q1 e1
          have k := pX_c n 0 (o + 1) (p + 1) acc _ _ (by decide) (by omega) e1
          cases h
          rw [encTc_app, List.length_append]
          show (encTc l1).length + 1 + p ≤ _
          omega
        · cases h
    · split at h
      · split at h
        · cases h
        · have hlt := h0 (by omega)
          split at h
          · rename_i l1 q1 e1
            have k := pX_c n 3 (o + 1) (p + 1) acc _ _ (by decide) (by omega) e1
            split at h
            · cases h
              omega
            · cases h
          · cases h
      · split at h
        · rename_i t1 q1 e1
          have k := pS_ok hp e1
          have k2 := k.2.2 t1 rfl
          cases h
          obtain ⟨c1, a1, b1⟩ := t1
          rw [encTc_app, List.length_append]
          have e3 : (encTc [(c1, a1, b1)]).length = 3 := by
            unfold encTc
            rw [if_pos k2.2.2.1]
            rfl
          omega
        · cases h
  | n + 1, 1, o, p, acc, l, q, hm, hp, h => by
    rw [pX_T] at h
    split at h
    · rename_i l1 q1 e1
      have k := pX_c n 0 o p acc _ _ (by decide) hp e1
      have k2 := pX_c n 2 o q1 l1 _ _ (by decide) (pX_ok n 0 o p acc _ _ (by decide) hp e1).2.1 h
      omega
    · cases h
  | n + 1, 2, o, p, acc, l, q, hm, hp, h => by
    have h0 : hr τ z p ≠ -1 → p < z := hr_le
    rw [pX_Tl] at h
    split at h
    · have hlt := h0 (by omega)
      split at h
      · rename_i l1 q1 e1
        have k := pX_c n 0 o (p + 1) acc _ _ (by decide) (by omega) e1
        have k2 := pX_c n 2 o q1 _ _ _ (by decide) (pX_ok n 0 o (p + 1) acc _ _ (by decide) (by omega) e1).2.1 h
        rw [encTc_app, List.length_append] at k2
        have e3 : (encTc [((124 : Int), (0 : Int), (0 : Int))]).length = 1 := rfl
        omega
      · cases h
    · cases h
      omega
  | n + 1, 3, o, p, acc, l, q, hm, hp, h => by
    rw [pX_E] at h
    split at h
    · rename_i l1 q1 e1
      have k := pX_c n 1 o p acc _ _ (by decide) hp e1
      have k2 := pX_c n 4 o q1 l1 _ _ (by decide) (pX_ok n 1 o p acc _ _ (by decide) hp e1).2.1 h
      omega
    · cases h
  | n + 1, 4, o, p, acc, l, q, hm, hp, h => by
    have h0 : hr τ z p ≠ -1 → p < z := hr_le
    rw [pX_El] at h
    split at h
    · have hlt := h0 (by omega)
      split at h
      · rename_i l1 q1 e1
        have k := pX_c n 1 o (p + 1) acc _ _ (by decide) (by omega) e1
        have k2 := pX_c n 4 o q1 _ _ _ (by decide) (pX_ok n 1 o (p + 1) acc _ _ (by decide) (by omega) e1).2.1 h
        rw [encTc_app, List.length_append] at k2
        have e3 : (encTc [((125 : Int), (0 : Int), (0 : Int))]).length = 1 := rfl
        omega
      · cases h
    · cases h
      omega
  | n + 1, md + 5, o, p, acc, l, q, hm, hp, h => absurd hm (by omega)
/-- what a reading method of the class does, by pX -/
def qR (X : Nat → List Int32) (S : m_H) (t z : Nat) (τ : Nat → Int) (ln : Int) (st0 : List Int) (g0 : Nat → Int) (md j lev c n : Nat) : Prop :=
  ∀ (V : v_V) (K : v_K) (u w p o D : Nat) (acc : List p_Tk), o ≤ 5 → p ≤ z → 5 * (z - p) + c ≤ n → st0.length + (encTc acc).length ≤ p → 3 * (6 - o) + lev ≤ D → tkO acc →
    CP V t z τ p ln (st0 ++ encTc acc) (mkT (ln - 1) g0 acc) →
    (∀ l q V', pX τ z n md o p acc = (some l, q) → CP V' t z τ q ln (st0 ++ encTc l) (mkT (ln - 1) g0 l) → CF t V V' → K u w (some (iv 1)) S V') →
    (∀ q V' st' g', pX τ z n md o p acc = (none, q) → CP V' t z τ q ln st' g' → CF t V V' → K u w (some (iv 0)) S V') → y_R X D j u w [.ref 115, iv (o : Int)] S V K
def qRL (X : Nat → List Int32) (S : m_H) (t z : Nat) (τ : Nat → Int) (ln : Int) (st0 : List Int) (g0 : Nat → Int) (md j lev c n : Nat) : Prop :=
  ∀ (V : v_V) (K : v_K) (u w p o D : Nat) (acc : List p_Tk), o ≤ 5 → p ≤ z → 5 * (z - p) + c ≤ n → st0.length + (encTc acc).length ≤ p → 3 * (6 - o) + lev ≤ D → tkO acc →
    CP V t z τ p ln (st0 ++ encTc acc) (mkT (ln - 1) g0 acc) →
    (∀ l q V', pX τ z n md o p acc = (some l, q) → CP V' t z τ q ln (st0 ++ encTc l) (mkT (ln - 1) g0 l) → CF t V V' → K u w (some (iv 1)) S V') →
    (∀ q V' st' g', pX τ z n md o p acc = (none, q) → CP V' t z τ q ln st' g' → CF t V V' → K u w (some (iv 0)) S V') → y_E X D j (40 * n + 40) u w 10 [(0, .ref 115), (1, iv (o : Int))] [] S V K
/-- behind so many ! -/
def qRF (X : Nat → List Int32) (S : m_H) (t z : Nat) (τ : Nat → Int) (ln : Int) (st0 : List Int) (g0 : Nat → Int) (j n : Nat) : Prop :=
  ∀ (V : v_V) (K : v_K) (u w p o wi D : Nat) (acc : List p_Tk), o ≤ wi → wi ≤ 5 → p ≤ z → 5 * (z - p) + 1 ≤ n → st0.length + (encTc acc).length + (wi - o) ≤ p → 3 * (6 - wi) + 4 ≤ D + 1 → tkO acc →
    CP V t z τ p ln (st0 ++ encTc acc) (mkT (ln - 1) g0 acc) →
    (∀ l q V', pX τ z n 0 wi p acc = (some l, q) → CP V' t z τ q ln (st0 ++ encTc (l ++ List.replicate (wi - o) (123, 0, 0))) (mkT (ln - 1) g0 (l ++ List.replicate (wi - o) (123, 0, 0))) → CF t V V' → K u w (some (iv 1)) S V') →
    (∀ q V' st' g', pX τ z n 0 wi p acc = (none, q) → CP V' t z τ q ln st' g' → CF t V V' → K u w (some (iv 0)) S V') → y_E X D j (40 * n + 500) u w 2 [(0, .ref 115), (1, iv (o : Int)), (2, iv (wi : Int))] [] S V K
section
variable {X : Nat → List Int32} {u w : Nat} {S : m_H} {V : v_V} {K : v_K}
set_option maxRecDepth 100000 in
set_option maxHeartbeats 4000000 in
theorem sr_TL (hC : ClF S) {t z : Nat} {τ : Nat → Int} {ln : Int} {st0 : List Int} {g0 : Nat → Int} (hR : RdS S t) (hX : TxS S t) (ht : 193 ≤ t) (hT : Tp τ 0 z) (hln : 1 ≤ ln ∧ ln ≤ 8) (hg0 : ∀ c, c < 8 → 0 ≤ g0 c ∧ g0 c ≤ 10) {n : Nat} (hF : qR X S t z τ ln st0 g0 0 22 4 1 n) (hL : qRL X S t z τ ln st0 g0 2 21 4 1 n) : qRL X S t z τ ln st0 g0 2 21 4 1 (n + 1) := by
  intro V K u w p o D acc ho hp hn hl hD htk h k1 k2
  have hz := hT.2.1
  have hq0 := hr_rg hT p
  refine y_mono (F' := (40 * n + 40) + 40) ?_ (by omega)
  refine y_ld (x := .ref 115) rfl rfl (fun d => rfl) ?_
  refine y_gI (i := 2) (e := ((p : Nat) : Int)) rfl rfl rfl hR rfl h.2.1 ?_
  refine y_ld (x := .ref 115) rfl rfl (fun d => rfl) ?_
  refine y_gI (i := 1) (e := (z : Int)) rfl rfl rfl hR rfl h.1 ?_
  refine y_jge rfl rfl rfl (by omega) (fun g1 => ?_) (fun g1 => ?_)
  · refine y_ic rfl rfl ?_
    refine y_rI rfl (by decide) ?_
    exact k1 _ _ _ (by rw [pX_Tl]; exact if_neg (by unfold hr; rw [if_neg (by omega)]; decide)) h (CF_rf t V)
  · refine y_ld (x := .ref 115) rfl rfl (fun d => rfl) ?_
    refine y_bi rfl rfl (by decide) ?_
    refine y_cV (as := [.ref 115, iv 38]) rfl rfl rfl rfl rfl hR ⟨rfl, (Nat.le_of_ble_eq_true rfl), (Nat.le_of_ble_eq_true rfl)⟩ (by omega) (cr_takes hC hR hX ht hT (by decide) h (by omega) (fun q2 V1 h1 f1 => ?_) (fun q3 => ?_))
    · have pl4 := hr_le (τ := τ) (z := z) (p := p) (by omega)
      refine y_nv ?_
      refine y_zeq rfl rfl rfl (by decide) (fun g2 => absurd g2 (by decide)) (fun g2 => ?_)
      refine y_ld (x := .ref 115) rfl rfl (fun d => rfl) ?_
      refine y_ld (x := iv (o : Int)) rfl rfl (fun d => rfl) ?_
      refine y_cV (as := [.ref 115, iv (o : Int)]) rfl rfl rfl rfl rfl hR ⟨rfl, (Nat.le_of_ble_eq_true rfl), (Nat.le_of_ble_eq_true rfl)⟩ (by omega) (hF _ _ _ _ (p + 1) o D acc (by omega) (by omega) (by omega) (by omega) (by omega) htk h1 (fun l5 r5 V5 x5 h5 f5 => ?_) (fun r6 V6 s6 g_6 x6 h6 f6 => ?_))
      · have kk5 := pX_ok _ _ _ _ _ _ _ (by decide) (by omega) x5
        have mm5 := kk5.2.2 _ rfl
        have cc5 := pX_c _ _ _ _ _ _ _ (by decide) (by omega) x5
        have tt5 := pX_tk _ _ _ _ _ _ _ (by decide) (by omega) htk x5
        refine y_nv ?_
        refine y_zne rfl rfl rfl (by decide) (fun g3 => ?_) (fun g3 => absurd g3 (by decide))
        refine y_ld (x := .ref 115) rfl rfl (fun d => rfl) ?_
        refine y_gR (i := 3) rfl rfl rfl hR rfl ?_
        refine y_bi rfl rfl (by decide) ?_
        refine y_cV (as := [.ref t, iv 124]) rfl rfl rfl rfl rfl hX.1 ⟨rfl, (Nat.le_of_ble_eq_true rfl), (Nat.le_of_ble_eq_true rfl)⟩ (by omega) (cr_add hC hR hX ht hT h5 (by first | omega | (simp; omega)) (fun V7 h7 f7 => ?_))
        refine y_n0 ?_
        refine y_go rfl rfl ?_
        refine y_lv (l' := [(0, .ref 115), (1, iv (o : Int))]) rfl ⟨rfl, rfl, trivial⟩ ?_
        refine y_mono (hL _ _ _ _ r5 o D (l5 ++ [(124, 0, 0)]) (by omega) (by omega) (by omega) (by rw [encTc_app, List.length_append, show (encTc [((124 : Int), (0 : Int), (0 : Int))]).length = 1 from rfl]; omega) (by omega) (tkO_op tt5 (by decide)) ?_ ?_ ?_) (by omega)
        · rw [encTc_app, mkT_app, ← List.append_assoc]
          exact h7
        · intro lz qz V' a1 a2 a3
          exact k1 lz qz V' (by rw [pX_Tl, if_pos q2, x5]; exact a1) a2 (CF_tr (CF_tr (CF_tr (CF_tr (CF_rf t V) f1) f5) f7) a3)
        · intro qz V' st' g' a1 a2 a3
          exact k2 qz V' st' g' (by rw [pX_Tl, if_pos q2, x5]; exact a1) a2 (CF_tr (CF_tr (CF_tr (CF_tr (CF_rf t V) f1) f5) f7) a3)
      · have kk6 := pX_ok _ _ _ _ _ _ _ (by decide) (by omega) x6
        refine y_nv ?_
        refine y_zne rfl rfl rfl (by decide) (fun g4 => absurd g4 (by decide)) (fun g4 => ?_)
        refine y_ic rfl rfl ?_
        refine y_rI rfl (by decide) ?_
        exact k2 _ _ _ _ (by rw [pX_Tl, if_pos q2, x6]) h6 (CF_tr (CF_tr (CF_rf t V) f1) f6)
    · refine y_nv ?_
      refine y_zeq rfl rfl rfl (by decide) (fun g5 => ?_) (fun g5 => absurd g5 (by decide))
      refine y_ic rfl rfl ?_
      refine y_rI rfl (by decide) ?_
      exact k1 _ _ _ (by rw [pX_Tl, if_neg q3]) h (CF_rf t V)
set_option maxRecDepth 100000 in
set_option maxHeartbeats 4000000 in
theorem sr_T (hC : ClF S) {t z : Nat} {τ : Nat → Int} {ln : Int} {st0 : List Int} {g0 : Nat → Int} (hR : RdS S t) (hX : TxS S t) (ht : 193 ≤ t) (hT : Tp τ 0 z) (hln : 1 ≤ ln ∧ ln ≤ 8) (hg0 : ∀ c, c < 8 → 0 ≤ g0 c ∧ g0 c ≤ 10) {n : Nat} (hn1 : n ≤ 2000) (hF : qR X S t z τ ln st0 g0 0 22 4 1 n) (hL : qRL X S t z τ ln st0 g0 2 21 4 1 n) : qR X S t z τ ln st0 g0 1 21 5 2 (n + 1) := by
  intro V K u w p o D acc ho hp hn hl hD htk h k1 k2
  have hz := hT.2.1
  obtain ⟨D, rfl⟩ : ∃ q, D = q + 1 := ⟨D - 1, by omega⟩
  refine y_ent (lv' := [(0, .ref 115), (1, iv (o : Int))]) (Nat.le_of_ble_eq_true rfl) rfl ?_
  refine y_ld (x := .ref 115) rfl rfl (fun d => rfl) ?_
  refine y_ld (x := iv (o : Int)) rfl rfl (fun d => rfl) ?_
  refine y_cV (as := [.ref 115, iv (o : Int)]) rfl rfl rfl rfl rfl hR ⟨rfl, (Nat.le_of_ble_eq_true rfl), (Nat.le_of_ble_eq_true rfl)⟩ (by omega) (hF _ _ _ _ p o D acc (by omega) (by omega) (by omega) (by omega) (by omega) htk h (fun l1 r1 V1 x1 h1 f1 => ?_) (fun r2 V2 s2 g_2 x2 h2 f2 => ?_))
  · have kk1 := pX_ok _ _ _ _ _ _ _ (by decide) (by omega) x1
    have mm1 := kk1.2.2 _ rfl
    have cc1 := pX_c _ _ _ _ _ _ _ (by decide) (by omega) x1
    have tt1 := pX_tk _ _ _ _ _ _ _ (by decide) (by omega) htk x1
    refine y_nv ?_
    refine y_zne rfl rfl rfl (by decide) (fun g1 => ?_) (fun g1 => absurd g1 (by decide))
    refine y_mono (hL _ _ _ _ r1 o D l1 (by omega) (by omega) (by omega) (by omega) (by omega) tt1 h1 ?_ ?_) (by omega)
    · intro lz qz V' a1 a2 a3
      exact k1 lz qz V' (by rw [pX_T, x1]; exact a1) a2 (CF_tr (CF_tr (CF_rf t V) f1) a3)
    · intro qz V' st' g' a1 a2 a3
      exact k2 qz V' st' g' (by rw [pX_T, x1]; exact a1) a2 (CF_tr (CF_tr (CF_rf t V) f1) a3)
  · have kk2 := pX_ok _ _ _ _ _ _ _ (by decide) (by omega) x2
    refine y_nv ?_
    refine y_zne rfl rfl rfl (by decide) (fun g2 => absurd g2 (by decide)) (fun g2 => ?_)
    refine y_ic rfl rfl ?_
    refine y_rI rfl (by decide) ?_
    exact k2 _ _ _ _ (by rw [pX_T, x2]) h2 (CF_tr (CF_rf t V) f2)
set_option maxRecDepth 100000 in
set_option maxHeartbeats 4000000 in
theorem sr_EL (hC : ClF S) {t z : Nat} {τ : Nat → Int} {ln : Int} {st0 : List Int} {g0 : Nat → Int} (hR : RdS S t) (hX : TxS S t) (ht : 193 ≤ t) (hT : Tp τ 0 z) (hln : 1 ≤ ln ∧ ln ≤ 8) (hg0 : ∀ c, c < 8 → 0 ≤ g0 c ∧ g0 c ≤ 10) {n : Nat} (hF : qR X S t z τ ln st0 g0 1 21 5 2 n) (hL : qRL X S t z τ ln st0 g0 4 20 5 1 n) : qRL X S t z τ ln st0 g0 4 20 5 1 (n + 1) := by
  intro V K u w p o D acc ho hp hn hl hD htk h k1 k2
  have hz := hT.2.1
  have hq0 := hr_rg hT p
  refine y_mono (F' := (40 * n + 40) + 40) ?_ (by omega)
  refine y_ld (x := .ref 115) rfl rfl (fun d => rfl) ?_
  refine y_gI (i := 2) (e := ((p : Nat) : Int)) rfl rfl rfl hR rfl h.2.1 ?_
  refine y_ld (x := .ref 115) rfl rfl (fun d => rfl) ?_
  refine y_gI (i := 1) (e := (z : Int)) rfl rfl rfl hR rfl h.1 ?_
  refine y_jge rfl rfl rfl (by omega) (fun g1 => ?_) (fun g1 => ?_)
  · refine y_ic rfl rfl ?_
    refine y_rI rfl (by decide) ?_
    exact k1 _ _ _ (by rw [pX_El]; exact if_neg (by unfold hr; rw [if_neg (by omega)]; decide)) h (CF_rf t V)
  · refine y_ld (x := .ref 115) rfl rfl (fun d => rfl) ?_
    refine y_bi rfl rfl (by decide) ?_
    refine y_cV (as := [.ref 115, iv 124]) rfl rfl rfl rfl rfl hR ⟨rfl, (Nat.le_of_ble_eq_true rfl), (Nat.le_of_ble_eq_true rfl)⟩ (by omega) (cr_takes hC hR hX ht hT (by decide) h (by omega) (fun q2 V1 h1 f1 => ?_) (fun q3 => ?_))
    · have pl4 := hr_le (τ := τ) (z := z) (p := p) (by omega)
      refine y_nv ?_
      refine y_zeq rfl rfl rfl (by decide) (fun g2 => absurd g2 (by decide)) (fun g2 => ?_)
      refine y_ld (x := .ref 115) rfl rfl (fun d => rfl) ?_
      refine y_ld (x := iv (o : Int)) rfl rfl (fun d => rfl) ?_
      refine y_cV (as := [.ref 115, iv (o : Int)]) rfl rfl rfl rfl rfl hR ⟨rfl, (Nat.le_of_ble_eq_true rfl), (Nat.le_of_ble_eq_true rfl)⟩ (by omega) (hF _ _ _ _ (p + 1) o D acc (by omega) (by omega) (by omega) (by omega) (by omega) htk h1 (fun l5 r5 V5 x5 h5 f5 => ?_) (fun r6 V6 s6 g_6 x6 h6 f6 => ?_))
      · have kk5 := pX_ok _ _ _ _ _ _ _ (by decide) (by omega) x5
        have mm5 := kk5.2.2 _ rfl
        have cc5 := pX_c _ _ _ _ _ _ _ (by decide) (by omega) x5
        have tt5 := pX_tk _ _ _ _ _ _ _ (by decide) (by omega) htk x5
        refine y_nv ?_
        refine y_zne rfl rfl rfl (by decide) (fun g3 => ?_) (fun g3 => absurd g3 (by decide))
        refine y_ld (x := .ref 115) rfl rfl (fun d => rfl) ?_
        refine y_gR (i := 3) rfl rfl rfl hR rfl ?_
        refine y_bi rfl rfl (by decide) ?_
        refine y_cV (as := [.ref t, iv 125]) rfl rfl rfl rfl rfl hX.1 ⟨rfl, (Nat.le_of_ble_eq_true rfl), (Nat.le_of_ble_eq_true rfl)⟩ (by omega) (cr_add hC hR hX ht hT h5 (by first | omega | (simp; omega)) (fun V7 h7 f7 => ?_))
        refine y_n0 ?_
        refine y_go rfl rfl ?_
        refine y_lv (l' := [(0, .ref 115), (1, iv (o : Int))]) rfl ⟨rfl, rfl, trivial⟩ ?_
        refine y_mono (hL _ _ _ _ r5 o D (l5 ++ [(125, 0, 0)]) (by omega) (by omega) (by omega) (by rw [encTc_app, List.length_append, show (encTc [((125 : Int), (0 : Int), (0 : Int))]).length = 1 from rfl]; omega) (by omega) (tkO_op tt5 (by decide)) ?_ ?_ ?_) (by omega)
        · rw [encTc_app, mkT_app, ← List.append_assoc]
          exact h7
        · intro lz qz V' a1 a2 a3
          exact k1 lz qz V' (by rw [pX_El, if_pos q2, x5]; exact a1) a2 (CF_tr (CF_tr (CF_tr (CF_tr (CF_rf t V) f1) f5) f7) a3)
        · intro qz V' st' g' a1 a2 a3
          exact k2 qz V' st' g' (by rw [pX_El, if_pos q2, x5]; exact a1) a2 (CF_tr (CF_tr (CF_tr (CF_tr (CF_rf t V) f1) f5) f7) a3)
      · have kk6 := pX_ok _ _ _ _ _ _ _ (by decide) (by omega) x6
        refine y_nv ?_
        refine y_zne rfl rfl rfl (by decide) (fun g4 => absurd g4 (by decide)) (fun g4 => ?_)
        refine y_ic rfl rfl ?_
        refine y_rI rfl (by decide) ?_
        exact k2 _ _ _ _ (by rw [pX_El, if_pos q2, x6]) h6 (CF_tr (CF_tr (CF_rf t V) f1) f6)
    · refine y_nv ?_
      refine y_zeq rfl rfl rfl (by decide) (fun g5 => ?_) (fun g5 => absurd g5 (by decide))
      refine y_ic rfl rfl ?_
      refine y_rI rfl (by decide) ?_
      exact k1 _ _ _ (by rw [pX_El, if_neg q3]) h (CF_rf t V)
set_option maxRecDepth 100000 in
set_option maxHeartbeats 4000000 in
theorem sr_E (hC : ClF S) {t z : Nat} {τ : Nat → Int} {ln : Int} {st0 : List Int} {g0 : Nat → Int} (hR : RdS S t) (hX : TxS S t) (ht : 193 ≤ t) (hT : Tp τ 0 z) (hln : 1 ≤ ln ∧ ln ≤ 8) (hg0 : ∀ c, c < 8 → 0 ≤ g0 c ∧ g0 c ≤ 10) {n : Nat} (hn1 : n ≤ 2000) (hF : qR X S t z τ ln st0 g0 1 21 5 2 n) (hL : qRL X S t z τ ln st0 g0 4 20 5 1 n) : qR X S t z τ ln st0 g0 3 20 6 3 (n + 1) := by
  intro V K u w p o D acc ho hp hn hl hD htk h k1 k2
  have hz := hT.2.1
  obtain ⟨D, rfl⟩ : ∃ q, D = q + 1 := ⟨D - 1, by omega⟩
  refine y_ent (lv' := [(0, .ref 115), (1, iv (o : Int))]) (Nat.le_of_ble_eq_true rfl) rfl ?_
  refine y_ld (x := .ref 115) rfl rfl (fun d => rfl) ?_
  refine y_ld (x := iv (o : Int)) rfl rfl (fun d => rfl) ?_
  refine y_cV (as := [.ref 115, iv (o : Int)]) rfl rfl rfl rfl rfl hR ⟨rfl, (Nat.le_of_ble_eq_true rfl), (Nat.le_of_ble_eq_true rfl)⟩ (by omega) (hF _ _ _ _ p o D acc (by omega) (by omega) (by omega) (by omega) (by omega) htk h (fun l1 r1 V1 x1 h1 f1 => ?_) (fun r2 V2 s2 g_2 x2 h2 f2 => ?_))
  · have kk1 := pX_ok _ _ _ _ _ _ _ (by decide) (by omega) x1
    have mm1 := kk1.2.2 _ rfl
    have cc1 := pX_c _ _ _ _ _ _ _ (by decide) (by omega) x1
    have tt1 := pX_tk _ _ _ _ _ _ _ (by decide) (by omega) htk x1
    refine y_nv ?_
    refine y_zne rfl rfl rfl (by decide) (fun g1 => ?_) (fun g1 => absurd g1 (by decide))
    refine y_mono (hL _ _ _ _ r1 o D l1 (by omega) (by omega) (by omega) (by omega) (by omega) tt1 h1 ?_ ?_) (by omega)
    · intro lz qz V' a1 a2 a3
      exact k1 lz qz V' (by rw [pX_E, x1]; exact a1) a2 (CF_tr (CF_tr (CF_rf t V) f1) a3)
    · intro qz V' st' g' a1 a2 a3
      exact k2 qz V' st' g' (by rw [pX_E, x1]; exact a1) a2 (CF_tr (CF_tr (CF_rf t V) f1) a3)
  · have kk2 := pX_ok _ _ _ _ _ _ _ (by decide) (by omega) x2
    refine y_nv ?_
    refine y_zne rfl rfl rfl (by decide) (fun g2 => absurd g2 (by decide)) (fun g2 => ?_)
    refine y_ic rfl rfl ?_
    refine y_rI rfl (by decide) ?_
    exact k2 _ _ _ _ (by rw [pX_E, x2]) h2 (CF_tr (CF_rf t V) f2)
set_option maxRecDepth 100000 in
set_option maxHeartbeats 4000000 in
theorem lp_not (hC : ClF S) {t z : Nat} {τ : Nat → Int} {ln : Int} {st0 : List Int} {g0 : Nat → Int} (hR : RdS S t) (hX : TxS S t) (ht : 193 ≤ t) (hT : Tp τ 0 z) (hln : 1 ≤ ln ∧ ln ≤ 8) (hg0 : ∀ c, c < 8 → 0 ≤ g0 c ∧ g0 c ≤ 10) {p o wi D : Nat} {l : List p_Tk} (hD : 1 ≤ D) (howi : o ≤ wi ∧ wi ≤ 5) (hp : p ≤ z) (hl : st0.length + (encTc l).length + (wi - o) ≤ p) : ∀ (m i : Nat) (V : v_V), wi - i < m → o ≤ i → i ≤ wi → CP V t z τ p ln (st0 ++ encTc (l ++ List.replicate (i - o) (123, 0, 0))) (mkT (ln - 1) g0 (l ++ List.replicate (i - o) (123, 0, 0))) → (∀ V', CP V' t z τ p ln (st0 ++ encTc (l ++ List.replicate (wi - o) (123, 0, 0))) (mkT (ln - 1) g0 (l ++ List.replicate (wi - o) (123, 0, 0))) → CF t V V' → K u w (some (iv 1)) S V') → y_E X D 22 (30 * m) u w 80 [(0, .ref 115), (1, iv (o : Int)), (2, iv (wi : Int)), (3, iv (i : Int))] [] S V K := by
  intro m
  induction m with
  | zero => intros; omega
  | succ m ih =>
    intro i V hm hi1 hi2 h k
    have hz := hT.2.1
    have hop := encTc_ops 123 (by decide) (i - o)
    have hln2 : (encTc (l ++ List.replicate (i - o) (123, 0, 0))).length = (encTc l).length + (i - o) := by rw [encTc_app, List.length_append, hop]
    refine y_mono (F' := 30 * m + 30) ?_ (by omega)
    refine y_ld (x := iv (i : Int)) rfl rfl (fun d => rfl) ?_
    refine y_ld (x := iv (wi : Int)) rfl rfl (fun d => rfl) ?_
    refine y_jge rfl rfl rfl (by omega) (fun g1 => ?_) (fun g1 => ?_)
    · refine y_ic rfl rfl ?_
      refine y_rI rfl (by decide) ?_
      obtain rfl : i = wi := by omega
      exact k V h (CF_rf t V)
    · refine y_ld (x := .ref 115) rfl rfl (fun d => rfl) ?_
      refine y_gR (i := 3) rfl rfl rfl hR rfl ?_
      refine y_bi rfl rfl (by decide) ?_
      refine y_cV (as := [.ref t, iv 123]) rfl rfl rfl rfl rfl hX.1 ⟨rfl, (Nat.le_of_ble_eq_true rfl), (Nat.le_of_ble_eq_true rfl)⟩ (by omega) (cr_add hC hR hX ht hT h (by first | omega | (simp; omega)) (fun V1 h1 f1 => ?_))
      refine y_n0 ?_
      refine y_inc (z := ((i + 1 : Nat) : Int)) (lv' := [(3, iv ((i + 1 : Nat) : Int)), (0, .ref 115), (1, iv (o : Int)), (2, iv (wi : Int))]) rfl rfl rfl (by omega) rfl ?_
      refine y_go rfl rfl ?_
      refine y_lv (l' := [(0, .ref 115), (1, iv (o : Int)), (2, iv (wi : Int)), (3, iv ((i + 1 : Nat) : Int))]) rfl ⟨rfl, rfl, rfl, rfl, trivial⟩ ?_
      refine y_mono (ih (i + 1) _ (by omega) (by omega) (by omega) ?_ ?_) (by omega)
      · rw [show i + 1 - o = (i - o) + 1 by omega, List.replicate_succ', ← List.append_assoc l, encTc_app (l ++ _), mkT_app _ (l ++ _), ← List.append_assoc st0]
        exact h1
      · intro V' a1 a2
        exact k V' a1 (CF_tr (CF_tr (CF_rf t V) f1) a2)
end
end
section
section
variable {X : Nat → List Int32} {u w : Nat} {S : m_H} {V : v_V} {K : v_K}
theorem pS_not {τ : Nat → Int} {z p : Nat} (h : hr τ z p = 33) : pS τ z p = (none, p) := by
  unfold pS
  rw [pT_x (by omega)]
  rfl
set_option maxRecDepth 100000 in
set_option maxHeartbeats 4000000 in
theorem sr_FA (hC : ClF S) {t z : Nat} {τ : Nat → Int} {ln : Int} {st0 : List Int} {g0 : Nat → Int} (hR : RdS S t) (hX : TxS S t) (ht : 193 ≤ t) (hT : Tp τ 0 z) (hln : 1 ≤ ln ∧ ln ≤ 8) (hg0 : ∀ c, c < 8 → 0 ≤ g0 c ∧ g0 c ≤ 10) {n : Nat} (hA : qRF X S t z τ ln st0 g0 22 n) (hE : qR X S t z τ ln st0 g0 3 20 6 3 n) : qRF X S t z τ ln st0 g0 22 (n + 1) := by
  intro V K u w p o wi D acc howi hwi hp hn hl hD htk h k1 k2
  have hz := hT.2.1
  have hq0 := hr_rg hT p
  refine y_mono (F' := (40 * n + 500) + 40) ?_ (by omega)
  refine y_ld (x := iv (wi : Int)) rfl rfl (fun d => rfl) ?_
  refine y_ic rfl rfl ?_
  refine y_jge rfl rfl rfl (by omega) (fun g1 => ?_) (fun g1 => ?_)
  · refine y_ld (x := .ref 115) rfl rfl (fun d => rfl) ?_
    refine y_cV (as := [.ref 115]) rfl rfl rfl rfl rfl hR ⟨rfl, (Nat.le_of_ble_eq_true rfl), (Nat.le_of_ble_eq_true rfl)⟩ (by omega) (cr_next hC hR hX ht hT h (by omega) ?_)
    have hq23 := hr_rg hT (p)
    refine y_nv ?_
    refine y_bi rfl rfl (by decide) ?_
    refine y_jne rfl rfl rfl (by omega) (fun g2 => ?_) (fun g2 => ?_)
    · refine y_ld (x := .ref 115) rfl rfl (fun d => rfl) ?_
      refine y_cV (as := [.ref 115]) rfl rfl rfl rfl rfl hR ⟨rfl, (Nat.le_of_ble_eq_true rfl), (Nat.le_of_ble_eq_true rfl)⟩ (by omega) (cr_test hC hR hX ht hT hln (mkT_bd (by omega) acc g0 htk hg0) (by simp; omega) h (by omega) (fun y1 r1 V1 x1 h1 f1 => ?_) (fun r2 V2 s2 g_2 x2 h2 f2 => ?_))
      · have ps1 := pS_ok (by omega) x1
        have pt1 := ps1.2.2 _ rfl
        refine y_nv ?_
        refine y_zne rfl rfl rfl (by decide) (fun g3 => ?_) (fun g3 => absurd g3 (by decide))
        have n33 : ¬ hr τ z p = 33 := fun q => by rw [pS_not q] at x1; cases x1
        refine y_ld (x := iv (o : Int)) rfl rfl (fun d => rfl) ?_
        refine y_st (lv' := [(3, iv (o : Int)), (0, .ref 115), (1, iv (o : Int)), (2, iv (wi : Int))]) rfl rfl (fun d => rfl) ?_
        refine y_lv (l' := [(0, .ref 115), (1, iv (o : Int)), (2, iv (wi : Int)), (3, iv (o : Int))]) rfl ⟨rfl, rfl, rfl, rfl, trivial⟩ ?_
        obtain ⟨tc, ta, tb⟩ := y1
        have e2 : tc ≤ 122 := pt1.2.2.1
        have e3 := pt1.1
        have eX : pX τ z (n + 1) 0 wi p acc = (some (acc ++ [(tc, ta, tb)]), r1) := by rw [pX_F, if_neg n33, if_neg g2, x1]
        have e4 : encTc [(tc, ta, tb)] = [tc, ta, tb] := by unfold encTc; rw [if_pos e2]; rfl
        have e5 : (encTc (acc ++ [(tc, ta, tb)])).length = (encTc acc).length + 3 := by rw [encTc_app, List.length_append, e4]; rfl
        have e6 : mkT (ln - 1) g0 (acc ++ [(tc, ta, tb)]) = mk (ln - 1) (mk (ln - 1) (mkT (ln - 1) g0 acc) ta true) tb true := by rw [mkT_app]; exact if_pos e2
        have hh : CP V1 t z τ r1 ln (st0 ++ encTc ((acc ++ [(tc, ta, tb)]) ++ List.replicate (o - o) (123, 0, 0))) (mkT (ln - 1) g0 ((acc ++ [(tc, ta, tb)]) ++ List.replicate (o - o) (123, 0, 0))) := by
          rw [Nat.sub_self, show (acc ++ [(tc, ta, tb)]) ++ List.replicate 0 ((123 : Int), (0 : Int), (0 : Int)) = (acc ++ [(tc, ta, tb)]) from List.append_nil _, e6, encTc_app, e4, ← List.append_assoc]
          exact h1
        refine y_mono (lp_not (l := (acc ++ [(tc, ta, tb)])) hC hR hX ht hT hln hg0 (D := D) (p := r1) (by omega) ⟨howi, hwi⟩ (by omega) (by omega) 6 o _ (by omega) (Nat.le_refl _) howi hh ?_) (by omega)
        intro V' a1 a2
        exact k1 _ _ V' eX a1 (CF_tr (CF_tr (CF_rf t V) f1) a2)
      · refine y_nv ?_
        refine y_zne rfl rfl rfl (by decide) (fun g4 => absurd g4 (by decide)) (fun g4 => ?_)
        refine y_ic rfl rfl ?_
        refine y_rI rfl (by decide) ?_
        by_cases n33 : hr τ z p = 33
        · rw [pS_not n33] at x2
          cases x2
          exact k2 _ _ _ _ (by rw [pX_F, if_pos n33, if_pos (by omega)]) h2 (CF_tr (CF_rf t V) f2)
        · exact k2 _ _ _ _ (by rw [pX_F, if_neg n33, if_neg g2, x2]) h2 (CF_tr (CF_rf t V) f2)
    · refine y_ld (x := iv (wi : Int)) rfl rfl (fun d => rfl) ?_
      refine y_ic rfl rfl ?_
      refine y_jlt rfl rfl rfl (by omega) (fun g5 => ?_) (fun g5 => ?_)
      · refine y_ld (x := .ref 115) rfl rfl (fun d => rfl) ?_
        refine y_in rfl rfl (fun d => rfl) ?_
        refine y_gI (i := 2) (e := ((p : Nat) : Int)) rfl rfl rfl hR rfl h.2.1 ?_
        refine y_ic rfl rfl ?_
        refine y_add (z := (((p : Nat) : Int) + 1)) rfl rfl rfl ?_
        refine y_pI (i := 2) rfl rfl rfl hR rfl rfl ?_
        have pl3 := hr_le (τ := τ) (z := z) (p := p) (by omega)
        have h4 := CP_at (p' := p + 1) ht h
        refine y_ld (x := .ref 115) rfl rfl (fun d => rfl) ?_
        refine y_ld (x := iv (wi : Int)) rfl rfl (fun d => rfl) ?_
        refine y_ic rfl rfl ?_
        refine y_add (z := ((wi + 1 : Nat) : Int)) rfl rfl (by omega) ?_
        refine y_cV (as := [.ref 115, iv ((wi + 1 : Nat) : Int)]) rfl rfl rfl rfl rfl hR ⟨rfl, (Nat.le_of_ble_eq_true rfl), (Nat.le_of_ble_eq_true rfl)⟩ (by omega) (hE _ _ _ _ (p + 1) (wi + 1) D acc (by omega) (by omega) (by omega) (by omega) (by omega) htk h4 (fun l5 r5 V5 x5 h5 f5 => ?_) (fun r6 V6 s6 g_6 x6 h6 f6 => ?_))
        · have kk5 := pX_ok _ _ _ _ _ _ _ (by decide) (by omega) x5
          have mm5 := kk5.2.2 _ rfl
          have cc5 := pX_c _ _ _ _ _ _ _ (by decide) (by omega) x5
          have tt5 := pX_tk _ _ _ _ _ _ _ (by decide) (by omega) htk x5
          refine y_nv ?_
          refine y_zeq rfl rfl rfl (by decide) (fun g6 => absurd g6 (by decide)) (fun g6 => ?_)
          refine y_ld (x := .ref 115) rfl rfl (fun d => rfl) ?_
          refine y_bi rfl rfl (by decide) ?_
          refine y_cV (as := [.ref 115, iv 41]) rfl rfl rfl rfl rfl hR ⟨rfl, (Nat.le_of_ble_eq_true rfl), (Nat.le_of_ble_eq_true rfl)⟩ (by omega) (cr_takes hC hR hX ht hT (by decide) h5 (by omega) (fun q8 V7 h7 f7 => ?_) (fun q9 => ?_))
          · have pl10 := hr_le (τ := τ) (z := z) (p := r5) (by omega)
            refine y_nv ?_
            refine y_zne rfl rfl rfl (by decide) (fun g7 => ?_) (fun g7 => absurd g7 (by decide))
            refine y_ld (x := iv (o : Int)) rfl rfl (fun d => rfl) ?_
            refine y_st (lv' := [(3, iv (o : Int)), (0, .ref 115), (1, iv (o : Int)), (2, iv (wi : Int))]) rfl rfl (fun d => rfl) ?_
            refine y_lv (l' := [(0, .ref 115), (1, iv (o : Int)), (2, iv (wi : Int)), (3, iv (o : Int))]) rfl ⟨rfl, rfl, rfl, rfl, trivial⟩ ?_
            have eX : pX τ z (n + 1) 0 wi p acc = (some l5, (r5 + 1)) := by rw [pX_F, if_neg (by omega), if_pos (by omega), if_neg (by omega), x5]; exact if_pos q8
            have hh : CP V7 t z τ (r5 + 1) ln (st0 ++ encTc (l5 ++ List.replicate (o - o) (123, 0, 0))) (mkT (ln - 1) g0 (l5 ++ List.replicate (o - o) (123, 0, 0))) := by
              rw [Nat.sub_self, show l5 ++ List.replicate 0 ((123 : Int), (0 : Int), (0 : Int)) = l5 from List.append_nil _]
              exact h7
            refine y_mono (lp_not (l := l5) hC hR hX ht hT hln hg0 (D := D) (p := (r5 + 1)) (by omega) ⟨howi, hwi⟩ (by omega) (by omega) 6 o _ (by omega) (Nat.le_refl _) howi hh ?_) (by omega)
            intro V' a1 a2
            exact k1 _ _ V' eX a1 (CF_tr (CF_tr (CF_tr (CF_at ht) f5) f7) a2)
          · refine y_nv ?_
            refine y_zne rfl rfl rfl (by decide) (fun g8 => absurd g8 (by decide)) (fun g8 => ?_)
            refine y_ic rfl rfl ?_
            refine y_rI rfl (by decide) ?_
            exact k2 _ _ _ _ (by rw [pX_F, if_neg (by omega), if_pos (by omega), if_neg (by omega), x5]; exact if_neg q9) h5 (CF_tr (CF_at ht) f5)
        · have kk6 := pX_ok _ _ _ _ _ _ _ (by decide) (by omega) x6
          refine y_nv ?_
          refine y_zeq rfl rfl rfl (by decide) (fun g9 => ?_) (fun g9 => absurd g9 (by decide))
          refine y_ic rfl rfl ?_
          refine y_rI rfl (by decide) ?_
          exact k2 _ _ _ _ (by rw [pX_F, if_neg (by omega), if_pos (by omega), if_neg (by omega), x6]) h6 (CF_tr (CF_at ht) f6)
      · refine y_ic rfl rfl ?_
        refine y_rI rfl (by decide) ?_
        exact k2 _ _ _ _ (by rw [pX_F, if_neg (by omega), if_pos (by omega), if_pos (by omega)]) h (CF_rf t V)
  · refine y_ld (x := .ref 115) rfl rfl (fun d => rfl) ?_
    refine y_bi rfl rfl (by decide) ?_
    refine y_cV (as := [.ref 115, iv 33]) rfl rfl rfl rfl rfl hR ⟨rfl, (Nat.le_of_ble_eq_true rfl), (Nat.le_of_ble_eq_true rfl)⟩ (by omega) (cr_takes hC hR hX ht hT (by decide) h (by omega) (fun q12 V11 h11 f11 => ?_) (fun q13 => ?_))
    · have pl14 := hr_le (τ := τ) (z := z) (p := p) (by omega)
      refine y_nv ?_
      refine y_zeq rfl rfl rfl (by decide) (fun g10 => absurd g10 (by decide)) (fun g10 => ?_)
      refine y_inc (z := ((wi + 1 : Nat) : Int)) (lv' := [(2, iv ((wi + 1 : Nat) : Int)), (0, .ref 115), (1, iv (o : Int))]) rfl rfl rfl (by omega) rfl ?_
      refine y_go rfl rfl ?_
      refine y_lv (l' := [(0, .ref 115), (1, iv (o : Int)), (2, iv ((wi + 1 : Nat) : Int))]) rfl ⟨rfl, rfl, rfl, trivial⟩ ?_
      refine y_mono (hA _ _ _ _ (p + 1) o (wi + 1) D acc (by omega) (by omega) (by omega) (by omega) (by omega) (by omega) htk h11 ?_ ?_) (by omega)
      · intro lz qz V' a1 a2 a3
        refine k1 (lz ++ [(123, 0, 0)]) qz V' (by rw [pX_F, if_pos q12, if_neg (by omega), a1]) ?_ (CF_tr (CF_tr (CF_rf t V) f11) a3)
        rw [show wi + 1 - o = (wi - o) + 1 by omega] at a2
        rw [List.append_assoc lz, show [((123 : Int), (0 : Int), (0 : Int))] ++ List.replicate (wi - o) (123, 0, 0) = List.replicate ((wi - o) + 1) (123, 0, 0) from rfl]
        exact a2
      · intro qz V' st' g' a1 a2 a3
        exact k2 qz V' st' g' (by rw [pX_F, if_pos q12, if_neg (by omega), a1]) a2 (CF_tr (CF_tr (CF_rf t V) f11) a3)
    · refine y_nv ?_
      refine y_zeq rfl rfl rfl (by decide) (fun g11 => ?_) (fun g11 => absurd g11 (by decide))
      refine y_ld (x := .ref 115) rfl rfl (fun d => rfl) ?_
      refine y_cV (as := [.ref 115]) rfl rfl rfl rfl rfl hR ⟨rfl, (Nat.le_of_ble_eq_true rfl), (Nat.le_of_ble_eq_true rfl)⟩ (by omega) (cr_next hC hR hX ht hT h (by omega) ?_)
      have hq23 := hr_rg hT (p)
      refine y_nv ?_
      refine y_bi rfl rfl (by decide) ?_
      refine y_jne rfl rfl rfl (by omega) (fun g12 => ?_) (fun g12 => ?_)
      · refine y_ld (x := .ref 115) rfl rfl (fun d => rfl) ?_
        refine y_cV (as := [.ref 115]) rfl rfl rfl rfl rfl hR ⟨rfl, (Nat.le_of_ble_eq_true rfl), (Nat.le_of_ble_eq_true rfl)⟩ (by omega) (cr_test hC hR hX ht hT hln (mkT_bd (by omega) acc g0 htk hg0) (by simp; omega) h (by omega) (fun y15 r15 V15 x15 h15 f15 => ?_) (fun r16 V16 s16 g_16 x16 h16 f16 => ?_))
        · have ps15 := pS_ok (by omega) x15
          have pt15 := ps15.2.2 _ rfl
          refine y_nv ?_
          refine y_zne rfl rfl rfl (by decide) (fun g13 => ?_) (fun g13 => absurd g13 (by decide))
          refine y_ld (x := iv (o : Int)) rfl rfl (fun d => rfl) ?_
          refine y_st (lv' := [(3, iv (o : Int)), (0, .ref 115), (1, iv (o : Int)), (2, iv (wi : Int))]) rfl rfl (fun d => rfl) ?_
          refine y_lv (l' := [(0, .ref 115), (1, iv (o : Int)), (2, iv (wi : Int)), (3, iv (o : Int))]) rfl ⟨rfl, rfl, rfl, rfl, trivial⟩ ?_
          obtain ⟨tc, ta, tb⟩ := y15
          have e2 : tc ≤ 122 := pt15.2.2.1
          have e3 := pt15.1
          have eX : pX τ z (n + 1) 0 wi p acc = (some (acc ++ [(tc, ta, tb)]), r15) := by rw [pX_F, if_neg q13, if_neg g12, x15]
          have e4 : encTc [(tc, ta, tb)] = [tc, ta, tb] := by unfold encTc; rw [if_pos e2]; rfl
          have e5 : (encTc (acc ++ [(tc, ta, tb)])).length = (encTc acc).length + 3 := by rw [encTc_app, List.length_append, e4]; rfl
          have e6 : mkT (ln - 1) g0 (acc ++ [(tc, ta, tb)]) = mk (ln - 1) (mk (ln - 1) (mkT (ln - 1) g0 acc) ta true) tb true := by rw [mkT_app]; exact if_pos e2
          have hh : CP V15 t z τ r15 ln (st0 ++ encTc ((acc ++ [(tc, ta, tb)]) ++ List.replicate (o - o) (123, 0, 0))) (mkT (ln - 1) g0 ((acc ++ [(tc, ta, tb)]) ++ List.replicate (o - o) (123, 0, 0))) := by
            rw [Nat.sub_self, show (acc ++ [(tc, ta, tb)]) ++ List.replicate 0 ((123 : Int), (0 : Int), (0 : Int)) = (acc ++ [(tc, ta, tb)]) from List.append_nil _, e6, encTc_app, e4, ← List.append_assoc]
            exact h15
          refine y_mono (lp_not (l := (acc ++ [(tc, ta, tb)])) hC hR hX ht hT hln hg0 (D := D) (p := r15) (by omega) ⟨howi, hwi⟩ (by omega) (by omega) 6 o _ (by omega) (Nat.le_refl _) howi hh ?_) (by omega)
          intro V' a1 a2
          exact k1 _ _ V' eX a1 (CF_tr (CF_tr (CF_rf t V) f15) a2)
        · refine y_nv ?_
          refine y_zne rfl rfl rfl (by decide) (fun g14 => absurd g14 (by decide)) (fun g14 => ?_)
          refine y_ic rfl rfl ?_
          refine y_rI rfl (by decide) ?_
          exact k2 _ _ _ _ (by rw [pX_F, if_neg q13, if_neg g12, x16]) h16 (CF_tr (CF_rf t V) f16)
      · refine y_ld (x := iv (wi : Int)) rfl rfl (fun d => rfl) ?_
        refine y_ic rfl rfl ?_
        refine y_jlt rfl rfl rfl (by omega) (fun g15 => ?_) (fun g15 => ?_)
        · refine y_ld (x := .ref 115) rfl rfl (fun d => rfl) ?_
          refine y_in rfl rfl (fun d => rfl) ?_
          refine y_gI (i := 2) (e := ((p : Nat) : Int)) rfl rfl rfl hR rfl h.2.1 ?_
          refine y_ic rfl rfl ?_
          refine y_add (z := (((p : Nat) : Int) + 1)) rfl rfl rfl ?_
          refine y_pI (i := 2) rfl rfl rfl hR rfl rfl ?_
          have pl17 := hr_le (τ := τ) (z := z) (p := p) (by omega)
          have h18 := CP_at (p' := p + 1) ht h
          refine y_ld (x := .ref 115) rfl rfl (fun d => rfl) ?_
          refine y_ld (x := iv (wi : Int)) rfl rfl (fun d => rfl) ?_
          refine y_ic rfl rfl ?_
          refine y_add (z := ((wi + 1 : Nat) : Int)) rfl rfl (by omega) ?_
          refine y_cV (as := [.ref 115, iv ((wi + 1 : Nat) : Int)]) rfl rfl rfl rfl rfl hR ⟨rfl, (Nat.le_of_ble_eq_true rfl), (Nat.le_of_ble_eq_true rfl)⟩ (by omega) (hE _ _ _ _ (p + 1) (wi + 1) D acc (by omega) (by omega) (by omega) (by omega) (by omega) htk h18 (fun l19 r19 V19 x19 h19 f19 => ?_) (fun r20 V20 s20 g_20 x20 h20 f20 => ?_))
          · have kk19 := pX_ok _ _ _ _ _ _ _ (by decide) (by omega) x19
            have mm19 := kk19.2.2 _ rfl
            have cc19 := pX_c _ _ _ _ _ _ _ (by decide) (by omega) x19
            have tt19 := pX_tk _ _ _ _ _ _ _ (by decide) (by omega) htk x19
            refine y_nv ?_
            refine y_zeq rfl rfl rfl (by decide) (fun g16 => absurd g16 (by decide)) (fun g16 => ?_)
            refine y_ld (x := .ref 115) rfl rfl (fun d => rfl) ?_
            refine y_bi rfl rfl (by decide) ?_
            refine y_cV (as := [.ref 115, iv 41]) rfl rfl rfl rfl rfl hR ⟨rfl, (Nat.le_of_ble_eq_true rfl), (Nat.le_of_ble_eq_true rfl)⟩ (by omega) (cr_takes hC hR hX ht hT (by decide) h19 (by omega) (fun q22 V21 h21 f21 => ?_) (fun q23 => ?_))
            · have pl24 := hr_le (τ := τ) (z := z) (p := r19) (by omega)
              refine y_nv ?_
              refine y_zne rfl rfl rfl (by decide) (fun g17 => ?_) (fun g17 => absurd g17 (by decide))
              refine y_ld (x := iv (o : Int)) rfl rfl (fun d => rfl) ?_
              refine y_st (lv' := [(3, iv (o : Int)), (0, .ref 115), (1, iv (o : Int)), (2, iv (wi : Int))]) rfl rfl (fun d => rfl) ?_
              refine y_lv (l' := [(0, .ref 115), (1, iv (o : Int)), (2, iv (wi : Int)), (3, iv (o : Int))]) rfl ⟨rfl, rfl, rfl, rfl, trivial⟩ ?_
              have eX : pX τ z (n + 1) 0 wi p acc = (some l19, (r19 + 1)) := by rw [pX_F, if_neg (by omega), if_pos (by omega), if_neg (by omega), x19]; exact if_pos q22
              have hh : CP V21 t z τ (r19 + 1) ln (st0 ++ encTc (l19 ++ List.replicate (o - o) (123, 0, 0))) (mkT (ln - 1) g0 (l19 ++ List.replicate (o - o) (123, 0, 0))) := by
                rw [Nat.sub_self, show l19 ++ List.replicate 0 ((123 : Int), (0 : Int), (0 : Int)) = l19 from List.append_nil _]
                exact h21
              refine y_mono (lp_not (l := l19) hC hR hX ht hT hln hg0 (D := D) (p := (r19 + 1)) (by omega) ⟨howi, hwi⟩ (by omega) (by omega) 6 o _ (by omega) (Nat.le_refl _) howi hh ?_) (by omega)
              intro V' a1 a2
              exact k1 _ _ V' eX a1 (CF_tr (CF_tr (CF_tr (CF_at ht) f19) f21) a2)
            · refine y_nv ?_
              refine y_zne rfl rfl rfl (by decide) (fun g18 => absurd g18 (by decide)) (fun g18 => ?_)
              refine y_ic rfl rfl ?_
              refine y_rI rfl (by decide) ?_
              exact k2 _ _ _ _ (by rw [pX_F, if_neg (by omega), if_pos (by omega), if_neg (by omega), x19]; exact if_neg q23) h19 (CF_tr (CF_at ht) f19)
          · have kk20 := pX_ok _ _ _ _ _ _ _ (by decide) (by omega) x20
            refine y_nv ?_
            refine y_zeq rfl rfl rfl (by decide) (fun g19 => ?_) (fun g19 => absurd g19 (by decide))
            refine y_ic rfl rfl ?_
            refine y_rI rfl (by decide) ?_
            exact k2 _ _ _ _ (by rw [pX_F, if_neg (by omega), if_pos (by omega), if_neg (by omega), x20]) h20 (CF_tr (CF_at ht) f20)
        · refine y_ic rfl rfl ?_
          refine y_rI rfl (by decide) ?_
          exact k2 _ _ _ _ (by rw [pX_F, if_neg (by omega), if_pos (by omega), if_pos (by omega)]) h (CF_rf t V)
set_option maxRecDepth 100000 in
set_option maxHeartbeats 4000000 in
theorem sr_F (hC : ClF S) {t z : Nat} {τ : Nat → Int} {ln : Int} {st0 : List Int} {g0 : Nat → Int} (hR : RdS S t) (hX : TxS S t) (ht : 193 ≤ t) (hT : Tp τ 0 z) (hln : 1 ≤ ln ∧ ln ≤ 8) (hg0 : ∀ c, c < 8 → 0 ≤ g0 c ∧ g0 c ≤ 10) {n : Nat} (hn1 : n ≤ 2000) (hA : qRF X S t z τ ln st0 g0 22 n) : qR X S t z τ ln st0 g0 0 22 4 1 n := by
  intro V K u w p o D acc ho hp hn hl hD htk h k1 k2
  obtain ⟨D, rfl⟩ : ∃ q, D = q + 1 := ⟨D - 1, by omega⟩
  refine y_ent (lv' := [(0, .ref 115), (1, iv (o : Int))]) (Nat.le_of_ble_eq_true rfl) rfl ?_
  refine y_ld (x := iv (o : Int)) rfl rfl (fun d => rfl) ?_
  refine y_st (lv' := [(2, iv (o : Int)), (0, .ref 115), (1, iv (o : Int))]) rfl rfl (fun d => rfl) ?_
  refine y_lv (l' := [(0, .ref 115), (1, iv (o : Int)), (2, iv (o : Int))]) rfl ⟨rfl, rfl, rfl, trivial⟩ ?_
  refine y_mono (hA _ _ _ _ p o o D acc (Nat.le_refl _) ho hp hn (by omega) (by omega) htk h ?_ k2) (by omega)
  intro l q V' a1 a2 a3
  rw [Nat.sub_self, show l ++ List.replicate 0 ((123 : Int), (0 : Int), (0 : Int)) = l from List.append_nil _] at a2
  exact k1 l q V' a1 a2 a3
theorem sr_all (hC : ClF S) {t z : Nat} {τ : Nat → Int} {ln : Int} {st0 : List Int} {g0 : Nat → Int} (hR : RdS S t) (hX : TxS S t) (ht : 193 ≤ t) (hT : Tp τ 0 z) (hln : 1 ≤ ln ∧ ln ≤ 8) (hg0 : ∀ c, c < 8 → 0 ≤ g0 c ∧ g0 c ≤ 10) : ∀ n, n ≤ 2000 → qRF X S t z τ ln st0 g0 22 n ∧ qR X S t z τ ln st0 g0 1 21 5 2 n ∧ qRL X S t z τ ln st0 g0 2 21 4 1 n ∧ qR X S t z τ ln st0 g0 3 20 6 3 n ∧ qRL X S t z τ ln st0 g0 4 20 5 1 n
  | 0, _ => ⟨fun _ _ _ _ _ _ _ _ _ _ _ _ h => absurd h (by omega), fun _ _ _ _ _ _ _ _ _ _ h => absurd h (by omega), fun _ _ _ _ _ _ _ _ _ _ h => absurd h (by omega), fun _ _ _ _ _ _ _ _ _ _ h => absurd h (by omega), fun _ _ _ _ _ _ _ _ _ _ h => absurd h (by omega)⟩
  | n + 1, hn => by
    obtain ⟨a1, a2, a3, a4, a5⟩ := sr_all hC hR hX ht hT hln hg0 n (by omega)
    have b1 := sr_F hC hR hX ht hT hln hg0 (by omega) a1
    exact ⟨sr_FA hC hR hX ht hT hln hg0 a1 a4, sr_T hC hR hX ht hT hln hg0 (by omega) b1 a3, sr_TL hC hR hX ht hT hln hg0 b1 a3, sr_E hC hR hX ht hT hln hg0 (by omega) a2 a5, sr_EL hC hR hX ht hT hln hg0 a2 a5⟩
end
end
