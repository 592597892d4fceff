section
/-! SUM, ACTS in the class -/
theorem mk_comm {ln : Int} {g : Nat → Int} {s t : Int} (h : s ≠ t) (hs : 0 ≤ s) (ht : 0 ≤ t) : mk ln (mk ln g s true) t true = mk ln (mk ln g t true) s true := by
  unfold mk
  by_cases h1 : 108 ≤ s
  · by_cases h2 : 108 ≤ t
    · simp only [if_pos h1, if_pos h2]
      rw [v_uf_ne (show (t - 108).toNat ≠ (s - 108).toNat by omega), v_uf_ne (show (s - 108).toNat ≠ (t - 108).toNat by omega), v_uf_comm _ _ _ (show (s - 108).toNat ≠ (t - 108).toNat by omega)]
    · simp only [if_pos h1, if_neg h2]
  · by_cases h2 : 108 ≤ t
    · simp only [if_neg h1, if_pos h2]
    · simp only [if_neg h1, if_neg h2]
theorem mk_idem {ln : Int} {g : Nat → Int} {t : Int} : mk ln (mk ln g t false) t false = mk ln g t false := by
  unfold mk
  by_cases h1 : 108 ≤ t
  · simp only [if_pos h1]
    rw [v_uf_eq, v_uf_uf]
    congr 1
    by_cases h2 : 1 < g (t - 108).toNat
    · simp only [if_pos h2]
    · simp [h2]
  · simp only [if_neg h1]
theorem pM_s {τ : Nat → Int} {z k p : Nat} {s : Int} {acc : List Int} : pM τ z (k + 1) s p acc = (if (pT τ z p).1 < 0 then (none, (pT τ z p).2)
    else if k ≠ 0 ∧ (hr τ z (pT τ z p).2 = 43 ∨ hr τ z (pT τ z p).2 = 45) then pM τ z k (if hr τ z (pT τ z p).2 = 45 then 256 else 0) ((pT τ z p).2 + 1) (acc ++ [(pT τ z p).1 + s])
    else (some (acc ++ [(pT τ z p).1 + s]), (pT τ z p).2)) := rfl
theorem set_mid {l r : List Int} {x y : Int} : (l ++ x :: r).set l.length y = l ++ y :: r := by
  induction l with
  | nil => rfl
  | cons a l ih =>
    show a :: (l ++ x :: r).set l.length y = a :: (l ++ y :: r)
    rw [ih]
section
variable {X : Nat → List Int32} {u w : Nat} {S : m_H} {V : v_V} {K : v_K}
set_option maxRecDepth 100000 in
set_option maxHeartbeats 4000000 in
theorem lp_rsum (hC : ClF S) {t z : Nat} {τ : Nat → Int} {ln : Int} {st0 : List Int} {g0 : Nat → Int} (hR : RdS S t) (hX : TxS S t) (ht : 193 ≤ t) (hT : Tp τ 0 z) (hln : 1 ≤ ln ∧ ln ≤ 8) (hg0 : ∀ c, c < 8 → 0 ≤ g0 c ∧ g0 c ≤ 10) {cell : Int} (hcell : tcd cell) : ∀ (m n : Nat) (V : v_V) (K : v_K) (u w p : Nat) (s : Int) (acc : List Int), n + m = 4 → 1 ≤ m → acc.length = n → (s = 0 ∨ s = 256) → (n = 0 → s = 0) → p ≤ z → st0.length + 1 + acc.length ≤ p → smO acc → CP V t z τ p ln (st0 ++ (n : Int) :: acc) (mkS (ln - 1) cell true g0 acc) → (∀ l q V', pM τ z (4 - n) s p acc = (some l, q) → ¬ (hr τ z q = 43 ∨ hr τ z q = 45) → CP V' t z τ q ln (st0 ++ (l.length : Int) :: l) (mkS (ln - 1) cell true g0 l) → CF t V V' → K u w (some (iv 1)) S V') → (∀ q V' st' g', (pM τ z (4 - n) s p acc = (none, q) ∨ ∃ l, pM τ z (4 - n) s p acc = (some l, q) ∧ (hr τ z q = 43 ∨ hr τ z q = 45)) → CP V' t z τ q ln st' g' → CF t V V' → K u w (some (iv 0)) S V') → y_E X 3 26 (200 * m) u w 21 [(0, .ref 115), (1, iv cell), (2, iv (st0.length : Int)), (3, iv s), (4, iv ((n + 1 : Nat) : Int))] [] S V K := by
  intro m
  induction m with
  | zero => intros; omega
  | succ m ih =>
    intro n V K u w p s acc hnm hm1 hal hs hs0 hp hl hsa h k1 k2
    have hz := hT.2.1
    have hc2 := tcd_le hcell
    have hc0 : 0 ≤ cell := by have := hcell; unfold tcd at this; omega
    refine y_mono (F' := 200 * m + 200) ?_ (by omega)
    refine y_ld (x := iv ((n + 1 : Nat) : Int)) rfl rfl (fun d => rfl) ?_
    refine y_ic rfl rfl ?_
    refine y_jgt rfl rfl rfl (by omega) (fun g1 => absurd g1 (by omega)) (fun g1 => ?_)
    refine y_ld (x := .ref 115) rfl rfl (fun d => rfl) ?_
    refine y_cV (as := [.ref 115]) rfl rfl rfl rfl rfl hR ⟨rfl, (Nat.le_of_ble_eq_true rfl), (Nat.le_of_ble_eq_true rfl)⟩ (by omega) (cr_term hC hR hX ht hT h (by omega) (fun V1 h1 f1 => ?_))
    have pl2 := pT_le τ z p (by omega)
    have cd3 := pT_cd τ z p
    have rg4 : -1 ≤ (pT τ z p).1 ∧ (pT τ z p).1 ≤ 115 := pT_rg τ z p
    refine y_nv ?_
    refine y_st (lv' := [(5, iv ((pT τ z p).1)), (0, .ref 115), (1, iv cell), (2, iv (st0.length : Int)), (3, iv s), (4, iv ((n + 1 : Nat) : Int))]) rfl rfl (fun d => rfl) ?_
    refine y_ld (x := iv ((pT τ z p).1)) rfl rfl (fun d => rfl) ?_
    refine y_zge rfl rfl rfl (by omega) (fun g2 => ?_) (fun g2 => ?_)
    · refine y_ld (x := iv ((n + 1 : Nat) : Int)) rfl rfl (fun d => rfl) ?_
      refine y_ic rfl rfl ?_
      refine y_jne rfl rfl rfl (by omega) (fun g3 => ?_) (fun g3 => ?_)
      · refine y_ic rfl rfl ?_
        refine y_st (lv' := [(6, iv 0), (5, iv ((pT τ z p).1)), (0, .ref 115), (1, iv cell), (2, iv (st0.length : Int)), (3, iv s), (4, iv ((n + 1 : Nat) : Int))]) rfl rfl (fun d => rfl) ?_
        refine y_ld (x := .ref 115) rfl rfl (fun d => rfl) ?_
        refine y_gR (i := 3) rfl rfl rfl hR rfl ?_
        refine y_ld (x := iv ((pT τ z p).1)) rfl rfl (fun d => rfl) ?_
        refine y_ld (x := iv s) rfl rfl (fun d => rfl) ?_
        refine y_add (z := (((pT τ z p).1) + s)) rfl rfl rfl ?_
        refine y_cV (as := [.ref t, iv (((pT τ z p).1) + s)]) rfl rfl rfl rfl rfl hX.1 ⟨rfl, (Nat.le_of_ble_eq_true rfl), (Nat.le_of_ble_eq_true rfl)⟩ (by omega) (cr_add hC hR hX ht hT h1 (by first | omega | (simp; omega)) (fun V5 h5 f5 => ?_))
        refine y_n0 ?_
        refine y_ld (x := .ref 115) rfl rfl (fun d => rfl) ?_
        refine y_gR (i := 3) rfl rfl rfl hR rfl ?_
        refine y_ld (x := iv ((pT τ z p).1)) rfl rfl (fun d => rfl) ?_
        refine y_ld (x := iv 0) rfl rfl (fun d => rfl) ?_
        refine y_cV (as := [.ref t, iv ((pT τ z p).1), iv 0]) rfl rfl rfl rfl rfl hX.1 ⟨rfl, (Nat.le_of_ble_eq_true rfl), (Nat.le_of_ble_eq_true rfl)⟩ (by omega) (cr_note (b := false) hC hR hX ht hT (pT_cd τ z p (by omega)) hln (mkS_bd (by omega) (tcd_le hcell) acc true g0 hsa hg0) h5 (fun V6 h6 f6 => ?_))
        refine y_n0 ?_
        refine y_ld (x := iv ((n + 1 : Nat) : Int)) rfl rfl (fun d => rfl) ?_
        refine y_ic rfl rfl ?_
        refine y_jne rfl rfl rfl (by omega) (fun g4 => ?_) (fun g4 => absurd g4 (by omega))
        refine y_ld (x := .ref 115) rfl rfl (fun d => rfl) ?_
        refine y_gR (i := 3) rfl rfl rfl hR rfl ?_
        refine y_ld (x := iv (st0.length : Int)) rfl rfl (fun d => rfl) ?_
        refine y_ld (x := iv ((n + 1 : Nat) : Int)) rfl rfl (fun d => rfl) ?_
        refine y_cV (as := [.ref t, iv (st0.length : Int), iv ((n + 1 : Nat) : Int)]) rfl rfl rfl rfl rfl hX.1 ⟨rfl, (Nat.le_of_ble_eq_true rfl), (Nat.le_of_ble_eq_true rfl)⟩ (by omega) (cr_count hC hR hX ht hT h6 (by simp) (by simp; omega) (fun V7 h7 f7 => ?_))
        refine y_n0 ?_
        refine y_ld (x := .ref 115) rfl rfl (fun d => rfl) ?_
        refine y_cV (as := [.ref 115]) rfl rfl rfl rfl rfl hR ⟨rfl, (Nat.le_of_ble_eq_true rfl), (Nat.le_of_ble_eq_true rfl)⟩ (by omega) (cr_next hC hR hX ht hT h7 (by omega) ?_)
        have hq108 := hr_rg hT ((pT τ z p).2)
        refine y_nv ?_
        refine y_bi rfl rfl (by decide) ?_
        refine y_jeq rfl rfl rfl (by omega) (fun g5 => ?_) (fun g5 => ?_)
        · refine y_ld (x := .ref 115) rfl rfl (fun d => rfl) ?_
          refine y_cV (as := [.ref 115]) rfl rfl rfl rfl rfl hR ⟨rfl, (Nat.le_of_ble_eq_true rfl), (Nat.le_of_ble_eq_true rfl)⟩ (by omega) (cr_next hC hR hX ht hT h7 (by omega) ?_)
          have hq128 := hr_rg hT ((pT τ z p).2)
          refine y_nv ?_
          refine y_bi rfl rfl (by decide) ?_
          refine y_jne rfl rfl rfl (by omega) (fun g6 => ?_) (fun g6 => ?_)
          · refine y_ic rfl rfl ?_
            refine y_st (lv' := [(3, iv 0), (6, iv 0), (5, iv ((pT τ z p).1)), (0, .ref 115), (1, iv cell), (2, iv (st0.length : Int)), (4, iv ((n + 1 : Nat) : Int))]) rfl rfl (fun d => rfl) ?_
            refine y_ld (x := iv ((n + 1 : Nat) : Int)) rfl rfl (fun d => rfl) ?_
            refine y_ic rfl rfl ?_
            refine y_jge rfl rfl rfl (by omega) (fun g7 => ?_) (fun g7 => ?_)
            · refine y_inc (z := ((n + 1 + 1 : Nat) : Int)) (lv' := [(4, iv ((n + 1 + 1 : Nat) : Int)), (3, iv 0), (6, iv 0), (5, iv ((pT τ z p).1)), (0, .ref 115), (1, iv cell), (2, iv (st0.length : Int))]) rfl rfl rfl (by omega) rfl ?_
              refine y_go rfl rfl ?_
              refine y_ld (x := iv ((n + 1 + 1 : Nat) : Int)) rfl rfl (fun d => rfl) ?_
              refine y_ic rfl rfl ?_
              refine y_jgt rfl rfl rfl (by omega) (fun g8 => ?_) (fun g8 => absurd g8 (by omega))
              refine y_ic rfl rfl ?_
              refine y_rI rfl (by decide) ?_
              exact k2 _ _ _ _ (Or.inr ⟨_, (by rw [show 4 - n = (4 - (n + 1)) + 1 by omega, pM_s, if_neg (by omega), if_neg (by omega)]), by omega⟩) h7 (CF_tr (CF_tr (CF_tr (CF_tr (CF_rf t V) f1) f5) f6) f7)
            · refine y_ld (x := .ref 115) rfl rfl (fun d => rfl) ?_
              refine y_in rfl rfl (fun d => rfl) ?_
              refine y_gI (i := 2) (e := (((pT τ z p).2 : Nat) : Int)) rfl rfl rfl hR rfl h7.2.1 ?_
              refine y_ic rfl rfl ?_
              refine y_add (z := ((((pT τ z p).2 : Nat) : Int) + 1)) rfl rfl rfl ?_
              refine y_pI (i := 2) rfl rfl rfl hR rfl rfl ?_
              have hr1 := raw_t (s := s) (pT_cd τ z p (by omega)) (by omega)
              have hsm : smO (acc ++ [(pT τ z p).1 + s]) := smO_app hsa (by rw [hr1]; exact (pT_cd τ z p (by omega)))
              have hmk : mkS1 (ln - 1) cell (true && acc.isEmpty) (mkS (ln - 1) cell true g0 acc) ((pT τ z p).1 + s) = mk (ln - 1) (mkS (ln - 1) cell true g0 acc) (pT τ z p).1 true := by
                rw [acc_cons hal (by omega)]; unfold mkS1; rw [if_neg (by decide), hr1]
              have hst : (st0 ++ (n : Int) :: acc ++ [(pT τ z p).1 + s]).set st0.length ((n + 1 : Nat) : Int) = st0 ++ ((acc ++ [(pT τ z p).1 + s]).length : Int) :: (acc ++ [(pT τ z p).1 + s]) := by
                rw [List.append_assoc, show ((n : Int) :: acc) ++ [(pT τ z p).1 + s] = (n : Int) :: (acc ++ [(pT τ z p).1 + s]) from rfl, set_mid, show ((acc ++ [(pT τ z p).1 + s]).length : Int) = ((n + 1 : Nat) : Int) by simp; omega]
              have hh : CP V7 t z τ (pT τ z p).2 ln (st0 ++ ((acc ++ [(pT τ z p).1 + s]).length : Int) :: (acc ++ [(pT τ z p).1 + s])) (mkS (ln - 1) cell true g0 (acc ++ [(pT τ z p).1 + s])) := by
                rw [mkS_app, hmk, ← hst]
                exact h7
              have pl9 := hr_le (τ := τ) (z := z) (p := (pT τ z p).2) (by omega)
              have hh2 := CP_at (p' := (pT τ z p).2 + 1) ht hh
              refine y_inc (z := ((n + 1 + 1 : Nat) : Int)) (lv' := [(4, iv ((n + 1 + 1 : Nat) : Int)), (3, iv 0), (6, iv 0), (5, iv ((pT τ z p).1)), (0, .ref 115), (1, iv cell), (2, iv (st0.length : Int))]) rfl rfl rfl (by omega) rfl ?_
              refine y_go rfl rfl ?_
              refine y_lv (l' := [(0, .ref 115), (1, iv cell), (2, iv (st0.length : Int)), (3, iv 0), (4, iv ((n + 1 + 1 : Nat) : Int))]) rfl ⟨rfl, rfl, rfl, rfl, rfl, trivial⟩ ?_
              refine y_mono (ih (n + 1) _ _ _ _ ((pT τ z p).2 + 1) 0 (acc ++ [(pT τ z p).1 + s]) (by omega) (by omega) (by simp; omega) (by decide) (fun q => absurd q (by omega)) (by omega) (by simp; omega) hsm (by have e := hh2; rw [show ((acc ++ [(pT τ z p).1 + s]).length : Int) = ((n + 1 : Nat) : Int) by simp; omega] at e; exact e) ?_ ?_) (by omega)
              · intro lz qz V' a1 a2 a3 a4
                exact k1 lz qz V' (by rw [show 4 - n = (4 - (n + 1)) + 1 by omega, pM_s, if_neg (by omega), if_pos ⟨by omega, by omega⟩, if_neg (by omega)]; exact a1) a2 a3 (CF_tr (CF_tr (CF_tr (CF_tr (CF_tr (CF_tr (CF_rf t V) f1) f5) f6) f7) (CF_at ht)) a4)
              · intro qz V' st' g' a1 a2 a3
                refine k2 qz V' st' g' ?_ a2 (CF_tr (CF_tr (CF_tr (CF_tr (CF_tr (CF_tr (CF_rf t V) f1) f5) f6) f7) (CF_at ht)) a3)
                have e : pM τ z (4 - n) s p acc = pM τ z (4 - (n + 1)) 0 ((pT τ z p).2 + 1) (acc ++ [(pT τ z p).1 + s]) := by rw [show 4 - n = (4 - (n + 1)) + 1 by omega, pM_s, if_neg (by omega), if_pos ⟨by omega, by omega⟩, if_neg (by omega)]
                rw [e]; exact a1
          · refine y_si rfl rfl (by decide) ?_
            refine y_go rfl rfl ?_
            refine y_st (lv' := [(3, iv 256), (6, iv 0), (5, iv ((pT τ z p).1)), (0, .ref 115), (1, iv cell), (2, iv (st0.length : Int)), (4, iv ((n + 1 : Nat) : Int))]) rfl rfl (fun d => rfl) ?_
            refine y_ld (x := iv ((n + 1 : Nat) : Int)) rfl rfl (fun d => rfl) ?_
            refine y_ic rfl rfl ?_
            refine y_jge rfl rfl rfl (by omega) (fun g9 => ?_) (fun g9 => ?_)
            · refine y_inc (z := ((n + 1 + 1 : Nat) : Int)) (lv' := [(4, iv ((n + 1 + 1 : Nat) : Int)), (3, iv 256), (6, iv 0), (5, iv ((pT τ z p).1)), (0, .ref 115), (1, iv cell), (2, iv (st0.length : Int))]) rfl rfl rfl (by omega) rfl ?_
              refine y_go rfl rfl ?_
              refine y_ld (x := iv ((n + 1 + 1 : Nat) : Int)) rfl rfl (fun d => rfl) ?_
              refine y_ic rfl rfl ?_
              refine y_jgt rfl rfl rfl (by omega) (fun g10 => ?_) (fun g10 => absurd g10 (by omega))
              refine y_ic rfl rfl ?_
              refine y_rI rfl (by decide) ?_
              exact k2 _ _ _ _ (Or.inr ⟨_, (by rw [show 4 - n = (4 - (n + 1)) + 1 by omega, pM_s, if_neg (by omega), if_neg (by omega)]), by omega⟩) h7 (CF_tr (CF_tr (CF_tr (CF_tr (CF_rf t V) f1) f5) f6) f7)
            · refine y_ld (x := .ref 115) rfl rfl (fun d => rfl) ?_
              refine y_in rfl rfl (fun d => rfl) ?_
              refine y_gI (i := 2) (e := (((pT τ z p).2 : Nat) : Int)) rfl rfl rfl hR rfl h7.2.1 ?_
              refine y_ic rfl rfl ?_
              refine y_add (z := ((((pT τ z p).2 : Nat) : Int) + 1)) rfl rfl rfl ?_
              refine y_pI (i := 2) rfl rfl rfl hR rfl rfl ?_
              have hr1 := raw_t (s := s) (pT_cd τ z p (by omega)) (by omega)
              have hsm : smO (acc ++ [(pT τ z p).1 + s]) := smO_app hsa (by rw [hr1]; exact (pT_cd τ z p (by omega)))
              have hmk : mkS1 (ln - 1) cell (true && acc.isEmpty) (mkS (ln - 1) cell true g0 acc) ((pT τ z p).1 + s) = mk (ln - 1) (mkS (ln - 1) cell true g0 acc) (pT τ z p).1 true := by
                rw [acc_cons hal (by omega)]; unfold mkS1; rw [if_neg (by decide), hr1]
              have hst : (st0 ++ (n : Int) :: acc ++ [(pT τ z p).1 + s]).set st0.length ((n + 1 : Nat) : Int) = st0 ++ ((acc ++ [(pT τ z p).1 + s]).length : Int) :: (acc ++ [(pT τ z p).1 + s]) := by
                rw [List.append_assoc, show ((n : Int) :: acc) ++ [(pT τ z p).1 + s] = (n : Int) :: (acc ++ [(pT τ z p).1 + s]) from rfl, set_mid, show ((acc ++ [(pT τ z p).1 + s]).length : Int) = ((n + 1 : Nat) : Int) by simp; omega]
              have hh : CP V7 t z τ (pT τ z p).2 ln (st0 ++ ((acc ++ [(pT τ z p).1 + s]).length : Int) :: (acc ++ [(pT τ z p).1 + s])) (mkS (ln - 1) cell true g0 (acc ++ [(pT τ z p).1 + s])) := by
                rw [mkS_app, hmk, ← hst]
                exact h7
              have pl9 := hr_le (τ := τ) (z := z) (p := (pT τ z p).2) (by omega)
              have hh2 := CP_at (p' := (pT τ z p).2 + 1) ht hh
              refine y_inc (z := ((n + 1 + 1 : Nat) : Int)) (lv' := [(4, iv ((n + 1 + 1 : Nat) : Int)), (3, iv 256), (6, iv 0), (5, iv ((pT τ z p).1)), (0, .ref 115), (1, iv cell), (2, iv (st0.length : Int))]) rfl rfl rfl (by omega) rfl ?_
              refine y_go rfl rfl ?_
              refine y_lv (l' := [(0, .ref 115), (1, iv cell), (2, iv (st0.length : Int)), (3, iv 256), (4, iv ((n + 1 + 1 : Nat) : Int))]) rfl ⟨rfl, rfl, rfl, rfl, rfl, trivial⟩ ?_
              refine y_mono (ih (n + 1) _ _ _ _ ((pT τ z p).2 + 1) 256 (acc ++ [(pT τ z p).1 + s]) (by omega) (by omega) (by simp; omega) (by decide) (fun q => absurd q (by omega)) (by omega) (by simp; omega) hsm (by have e := hh2; rw [show ((acc ++ [(pT τ z p).1 + s]).length : Int) = ((n + 1 : Nat) : Int) by simp; omega] at e; exact e) ?_ ?_) (by omega)
              · intro lz qz V' a1 a2 a3 a4
                exact k1 lz qz V' (by rw [show 4 - n = (4 - (n + 1)) + 1 by omega, pM_s, if_neg (by omega), if_pos ⟨by omega, by omega⟩, if_pos (by omega)]; exact a1) a2 a3 (CF_tr (CF_tr (CF_tr (CF_tr (CF_tr (CF_tr (CF_rf t V) f1) f5) f6) f7) (CF_at ht)) a4)
              · intro qz V' st' g' a1 a2 a3
                refine k2 qz V' st' g' ?_ a2 (CF_tr (CF_tr (CF_tr (CF_tr (CF_tr (CF_tr (CF_rf t V) f1) f5) f6) f7) (CF_at ht)) a3)
                have e : pM τ z (4 - n) s p acc = pM τ z (4 - (n + 1)) 256 ((pT τ z p).2 + 1) (acc ++ [(pT τ z p).1 + s]) := by rw [show 4 - n = (4 - (n + 1)) + 1 by omega, pM_s, if_neg (by omega), if_pos ⟨by omega, by omega⟩, if_pos (by omega)]
                rw [e]; exact a1
        · refine y_ld (x := .ref 115) rfl rfl (fun d => rfl) ?_
          refine y_cV (as := [.ref 115]) rfl rfl rfl rfl rfl hR ⟨rfl, (Nat.le_of_ble_eq_true rfl), (Nat.le_of_ble_eq_true rfl)⟩ (by omega) (cr_next hC hR hX ht hT h7 (by omega) ?_)
          have hq117 := hr_rg hT ((pT τ z p).2)
          refine y_nv ?_
          refine y_bi rfl rfl (by decide) ?_
          refine y_jeq rfl rfl rfl (by omega) (fun g11 => ?_) (fun g11 => ?_)
          · refine y_ld (x := .ref 115) rfl rfl (fun d => rfl) ?_
            refine y_cV (as := [.ref 115]) rfl rfl rfl rfl rfl hR ⟨rfl, (Nat.le_of_ble_eq_true rfl), (Nat.le_of_ble_eq_true rfl)⟩ (by omega) (cr_next hC hR hX ht hT h7 (by omega) ?_)
            have hq128 := hr_rg hT ((pT τ z p).2)
            refine y_nv ?_
            refine y_bi rfl rfl (by decide) ?_
            refine y_jne rfl rfl rfl (by omega) (fun g12 => ?_) (fun g12 => ?_)
            · refine y_ic rfl rfl ?_
              refine y_st (lv' := [(3, iv 0), (6, iv 0), (5, iv ((pT τ z p).1)), (0, .ref 115), (1, iv cell), (2, iv (st0.length : Int)), (4, iv ((n + 1 : Nat) : Int))]) rfl rfl (fun d => rfl) ?_
              refine y_ld (x := iv ((n + 1 : Nat) : Int)) rfl rfl (fun d => rfl) ?_
              refine y_ic rfl rfl ?_
              refine y_jge rfl rfl rfl (by omega) (fun g13 => ?_) (fun g13 => ?_)
              · refine y_inc (z := ((n + 1 + 1 : Nat) : Int)) (lv' := [(4, iv ((n + 1 + 1 : Nat) : Int)), (3, iv 0), (6, iv 0), (5, iv ((pT τ z p).1)), (0, .ref 115), (1, iv cell), (2, iv (st0.length : Int))]) rfl rfl rfl (by omega) rfl ?_
                refine y_go rfl rfl ?_
                refine y_ld (x := iv ((n + 1 + 1 : Nat) : Int)) rfl rfl (fun d => rfl) ?_
                refine y_ic rfl rfl ?_
                refine y_jgt rfl rfl rfl (by omega) (fun g14 => ?_) (fun g14 => absurd g14 (by omega))
                refine y_ic rfl rfl ?_
                refine y_rI rfl (by decide) ?_
                exact k2 _ _ _ _ (Or.inr ⟨_, (by rw [show 4 - n = (4 - (n + 1)) + 1 by omega, pM_s, if_neg (by omega), if_neg (by omega)]), by omega⟩) h7 (CF_tr (CF_tr (CF_tr (CF_tr (CF_rf t V) f1) f5) f6) f7)
              · refine y_ld (x := .ref 115) rfl rfl (fun d => rfl) ?_
                refine y_in rfl rfl (fun d => rfl) ?_
                refine y_gI (i := 2) (e := (((pT τ z p).2 : Nat) : Int)) rfl rfl rfl hR rfl h7.2.1 ?_
                refine y_ic rfl rfl ?_
                refine y_add (z := ((((pT τ z p).2 : Nat) : Int) + 1)) rfl rfl rfl ?_
                refine y_pI (i := 2) rfl rfl rfl hR rfl rfl ?_
                have hr1 := raw_t (s := s) (pT_cd τ z p (by omega)) (by omega)
                have hsm : smO (acc ++ [(pT τ z p).1 + s]) := smO_app hsa (by rw [hr1]; exact (pT_cd τ z p (by omega)))
                have hmk : mkS1 (ln - 1) cell (true && acc.isEmpty) (mkS (ln - 1) cell true g0 acc) ((pT τ z p).1 + s) = mk (ln - 1) (mkS (ln - 1) cell true g0 acc) (pT τ z p).1 true := by
                  rw [acc_cons hal (by omega)]; unfold mkS1; rw [if_neg (by decide), hr1]
                have hst : (st0 ++ (n : Int) :: acc ++ [(pT τ z p).1 + s]).set st0.length ((n + 1 : Nat) : Int) = st0 ++ ((acc ++ [(pT τ z p).1 + s]).length : Int) :: (acc ++ [(pT τ z p).1 + s]) := by
                  rw [List.append_assoc, show ((n : Int) :: acc) ++ [(pT τ z p).1 + s] = (n : Int) :: (acc ++ [(pT τ z p).1 + s]) from rfl, set_mid, show ((acc ++ [(pT τ z p).1 + s]).length : Int) = ((n + 1 : Nat) : Int) by simp; omega]
                have hh : CP V7 t z τ (pT τ z p).2 ln (st0 ++ ((acc ++ [(pT τ z p).1 + s]).length : Int) :: (acc ++ [(pT τ z p).1 + s])) (mkS (ln - 1) cell true g0 (acc ++ [(pT τ z p).1 + s])) := by
                  rw [mkS_app, hmk, ← hst]
                  exact h7
                have pl9 := hr_le (τ := τ) (z := z) (p := (pT τ z p).2) (by omega)
                have hh2 := CP_at (p' := (pT τ z p).2 + 1) ht hh
                refine y_inc (z := ((n + 1 + 1 : Nat) : Int)) (lv' := [(4, iv ((n + 1 + 1 : Nat) : Int)), (3, iv 0), (6, iv 0), (5, iv ((pT τ z p).1)), (0, .ref 115), (1, iv cell), (2, iv (st0.length : Int))]) rfl rfl rfl (by omega) rfl ?_
                refine y_go rfl rfl ?_
                refine y_lv (l' := [(0, .ref 115), (1, iv cell), (2, iv (st0.length : Int)), (3, iv 0), (4, iv ((n + 1 + 1 : Nat) : Int))]) rfl ⟨rfl, rfl, rfl, rfl, rfl, trivial⟩ ?_
                refine y_mono (ih (n + 1) _ _ _ _ ((pT τ z p).2 + 1) 0 (acc ++ [(pT τ z p).1 + s]) (by omega) (by omega) (by simp; omega) (by decide) (fun q => absurd q (by omega)) (by omega) (by simp; omega) hsm (by have e := hh2; rw [show ((acc ++ [(pT τ z p).1 + s]).length : Int) = ((n + 1 : Nat) : Int) by simp; omega] at e; exact e) ?_ ?_) (by omega)
                · intro lz qz V' a1 a2 a3 a4
                  exact k1 lz qz V' (by rw [show 4 - n = (4 - (n + 1)) + 1 by omega, pM_s, if_neg (by omega), if_pos ⟨by omega, by omega⟩, if_neg (by omega)]; exact a1) a2 a3 (CF_tr (CF_tr (CF_tr (CF_tr (CF_tr (CF_tr (CF_rf t V) f1) f5) f6) f7) (CF_at ht)) a4)
                · intro qz V' st' g' a1 a2 a3
                  refine k2 qz V' st' g' ?_ a2 (CF_tr (CF_tr (CF_tr (CF_tr (CF_tr (CF_tr (CF_rf t V) f1) f5) f6) f7) (CF_at ht)) a3)
                  have e : pM τ z (4 - n) s p acc = pM τ z (4 - (n + 1)) 0 ((pT τ z p).2 + 1) (acc ++ [(pT τ z p).1 + s]) := by rw [show 4 - n = (4 - (n + 1)) + 1 by omega, pM_s, if_neg (by omega), if_pos ⟨by omega, by omega⟩, if_neg (by omega)]
                  rw [e]; exact a1
            · refine y_si rfl rfl (by decide) ?_
              refine y_go rfl rfl ?_
              refine y_st (lv' := [(3, iv 256), (6, iv 0), (5, iv ((pT τ z p).1)), (0, .ref 115), (1, iv cell), (2, iv (st0.length : Int)), (4, iv ((n + 1 : Nat) : Int))]) rfl rfl (fun d => rfl) ?_
              refine y_ld (x := iv ((n + 1 : Nat) : Int)) rfl rfl (fun d => rfl) ?_
              refine y_ic rfl rfl ?_
              refine y_jge rfl rfl rfl (by omega) (fun g15 => ?_) (fun g15 => ?_)
              · refine y_inc (z := ((n + 1 + 1 : Nat) : Int)) (lv' := [(4, iv ((n + 1 + 1 : Nat) : Int)), (3, iv 256), (6, iv 0), (5, iv ((pT τ z p).1)), (0, .ref 115), (1, iv cell), (2, iv (st0.length : Int))]) rfl rfl rfl (by omega) rfl ?_
                refine y_go rfl rfl ?_
                refine y_ld (x := iv ((n + 1 + 1 : Nat) : Int)) rfl rfl (fun d => rfl) ?_
                refine y_ic rfl rfl ?_
                refine y_jgt rfl rfl rfl (by omega) (fun g16 => ?_) (fun g16 => absurd g16 (by omega))
                refine y_ic rfl rfl ?_
                refine y_rI rfl (by decide) ?_
                exact k2 _ _ _ _ (Or.inr ⟨_, (by rw [show 4 - n = (4 - (n + 1)) + 1 by omega, pM_s, if_neg (by omega), if_neg (by omega)]), by omega⟩) h7 (CF_tr (CF_tr (CF_tr (CF_tr (CF_rf t V) f1) f5) f6) f7)
              · refine y_ld (x := .ref 115) rfl rfl (fun d => rfl) ?_
                refine y_in rfl rfl (fun d => rfl) ?_
                refine y_gI (i := 2) (e := (((pT τ z p).2 : Nat) : Int)) rfl rfl rfl hR rfl h7.2.1 ?_
                refine y_ic rfl rfl ?_
                refine y_add (z := ((((pT τ z p).2 : Nat) : Int) + 1)) rfl rfl rfl ?_
                refine y_pI (i := 2) rfl rfl rfl hR rfl rfl ?_
                have hr1 := raw_t (s := s) (pT_cd τ z p (by omega)) (by omega)
                have hsm : smO (acc ++ [(pT τ z p).1 + s]) := smO_app hsa (by rw [hr1]; exact (pT_cd τ z p (by omega)))
                have hmk : mkS1 (ln - 1) cell (true && acc.isEmpty) (mkS (ln - 1) cell true g0 acc) ((pT τ z p).1 + s) = mk (ln - 1) (mkS (ln - 1) cell true g0 acc) (pT τ z p).1 true := by
                  rw [acc_cons hal (by omega)]; unfold mkS1; rw [if_neg (by decide), hr1]
                have hst : (st0 ++ (n : Int) :: acc ++ [(pT τ z p).1 + s]).set st0.length ((n + 1 : Nat) : Int) = st0 ++ ((acc ++ [(pT τ z p).1 + s]).length : Int) :: (acc ++ [(pT τ z p).1 + s]) := by
                  rw [List.append_assoc, show ((n : Int) :: acc) ++ [(pT τ z p).1 + s] = (n : Int) :: (acc ++ [(pT τ z p).1 + s]) from rfl, set_mid, show ((acc ++ [(pT τ z p).1 + s]).length : Int) = ((n + 1 : Nat) : Int) by simp; omega]
                have hh : CP V7 t z τ (pT τ z p).2 ln (st0 ++ ((acc ++ [(pT τ z p).1 + s]).length : Int) :: (acc ++ [(pT τ z p).1 + s])) (mkS (ln - 1) cell true g0 (acc ++ [(pT τ z p).1 + s])) := by
                  rw [mkS_app, hmk, ← hst]
                  exact h7
                have pl9 := hr_le (τ := τ) (z := z) (p := (pT τ z p).2) (by omega)
                have hh2 := CP_at (p' := (pT τ z p).2 + 1) ht hh
                refine y_inc (z := ((n + 1 + 1 : Nat) : Int)) (lv' := [(4, iv ((n + 1 + 1 : Nat) : Int)), (3, iv 256), (6, iv 0), (5, iv ((pT τ z p).1)), (0, .ref 115), (1, iv cell), (2, iv (st0.length : Int))]) rfl rfl rfl (by omega) rfl ?_
                refine y_go rfl rfl ?_
                refine y_lv (l' := [(0, .ref 115), (1, iv cell), (2, iv (st0.length : Int)), (3, iv 256), (4, iv ((n + 1 + 1 : Nat) : Int))]) rfl ⟨rfl, rfl, rfl, rfl, rfl, trivial⟩ ?_
                refine y_mono (ih (n + 1) _ _ _ _ ((pT τ z p).2 + 1) 256 (acc ++ [(pT τ z p).1 + s]) (by omega) (by omega) (by simp; omega) (by decide) (fun q => absurd q (by omega)) (by omega) (by simp; omega) hsm (by have e := hh2; rw [show ((acc ++ [(pT τ z p).1 + s]).length : Int) = ((n + 1 : Nat) : Int) by simp; omega] at e; exact e) ?_ ?_) (by omega)
                · intro lz qz V' a1 a2 a3 a4
                  exact k1 lz qz V' (by rw [show 4 - n = (4 - (n + 1)) + 1 by omega, pM_s, if_neg (by omega), if_pos ⟨by omega, by omega⟩, if_pos (by omega)]; exact a1) a2 a3 (CF_tr (CF_tr (CF_tr (CF_tr (CF_tr (CF_tr (CF_rf t V) f1) f5) f6) f7) (CF_at ht)) a4)
                · intro qz V' st' g' a1 a2 a3
                  refine k2 qz V' st' g' ?_ a2 (CF_tr (CF_tr (CF_tr (CF_tr (CF_tr (CF_tr (CF_rf t V) f1) f5) f6) f7) (CF_at ht)) a3)
                  have e : pM τ z (4 - n) s p acc = pM τ z (4 - (n + 1)) 256 ((pT τ z p).2 + 1) (acc ++ [(pT τ z p).1 + s]) := by rw [show 4 - n = (4 - (n + 1)) + 1 by omega, pM_s, if_neg (by omega), if_pos ⟨by omega, by omega⟩, if_pos (by omega)]
                  rw [e]; exact a1
          · refine y_ic rfl rfl ?_
            refine y_rI rfl (by decide) ?_
            have hr1 := raw_t (s := s) (pT_cd τ z p (by omega)) (by omega)
            have hsm : smO (acc ++ [(pT τ z p).1 + s]) := smO_app hsa (by rw [hr1]; exact (pT_cd τ z p (by omega)))
            have hmk : mkS1 (ln - 1) cell (true && acc.isEmpty) (mkS (ln - 1) cell true g0 acc) ((pT τ z p).1 + s) = mk (ln - 1) (mkS (ln - 1) cell true g0 acc) (pT τ z p).1 true := by
              rw [acc_cons hal (by omega)]; unfold mkS1; rw [if_neg (by decide), hr1]
            have hst : (st0 ++ (n : Int) :: acc ++ [(pT τ z p).1 + s]).set st0.length ((n + 1 : Nat) : Int) = st0 ++ ((acc ++ [(pT τ z p).1 + s]).length : Int) :: (acc ++ [(pT τ z p).1 + s]) := by
              rw [List.append_assoc, show ((n : Int) :: acc) ++ [(pT τ z p).1 + s] = (n : Int) :: (acc ++ [(pT τ z p).1 + s]) from rfl, set_mid, show ((acc ++ [(pT τ z p).1 + s]).length : Int) = ((n + 1 : Nat) : Int) by simp; omega]
            have hh : CP V7 t z τ (pT τ z p).2 ln (st0 ++ ((acc ++ [(pT τ z p).1 + s]).length : Int) :: (acc ++ [(pT τ z p).1 + s])) (mkS (ln - 1) cell true g0 (acc ++ [(pT τ z p).1 + s])) := by
              rw [mkS_app, hmk, ← hst]
              exact h7
            exact k1 _ _ _ (by rw [show 4 - n = (4 - (n + 1)) + 1 by omega, pM_s, if_neg (by omega), if_neg (by omega)]) (by omega) hh (CF_tr (CF_tr (CF_tr (CF_tr (CF_rf t V) f1) f5) f6) f7)
      · refine y_ld (x := iv ((pT τ z p).1)) rfl rfl (fun d => rfl) ?_
        refine y_ld (x := iv cell) rfl rfl (fun d => rfl) ?_
        refine y_jne rfl rfl rfl (by omega) (fun g17 => ?_) (fun g17 => ?_)
        · refine y_ic rfl rfl ?_
          refine y_st (lv' := [(6, iv 0), (5, iv ((pT τ z p).1)), (0, .ref 115), (1, iv cell), (2, iv (st0.length : Int)), (3, iv s), (4, iv ((n + 1 : Nat) : Int))]) rfl rfl (fun d => rfl) ?_
          refine y_ld (x := .ref 115) rfl rfl (fun d => rfl) ?_
          refine y_gR (i := 3) rfl rfl rfl hR rfl ?_
          refine y_ld (x := iv ((pT τ z p).1)) rfl rfl (fun d => rfl) ?_
          refine y_ld (x := iv s) rfl rfl (fun d => rfl) ?_
          refine y_add (z := (((pT τ z p).1) + s)) rfl rfl rfl ?_
          refine y_cV (as := [.ref t, iv (((pT τ z p).1) + s)]) rfl rfl rfl rfl rfl hX.1 ⟨rfl, (Nat.le_of_ble_eq_true rfl), (Nat.le_of_ble_eq_true rfl)⟩ (by omega) (cr_add hC hR hX ht hT h1 (by first | omega | (simp; omega)) (fun V8 h8 f8 => ?_))
          refine y_n0 ?_
          refine y_ld (x := .ref 115) rfl rfl (fun d => rfl) ?_
          refine y_gR (i := 3) rfl rfl rfl hR rfl ?_
          refine y_ld (x := iv ((pT τ z p).1)) rfl rfl (fun d => rfl) ?_
          refine y_ld (x := iv 0) rfl rfl (fun d => rfl) ?_
          refine y_cV (as := [.ref t, iv ((pT τ z p).1), iv 0]) rfl rfl rfl rfl rfl hX.1 ⟨rfl, (Nat.le_of_ble_eq_true rfl), (Nat.le_of_ble_eq_true rfl)⟩ (by omega) (cr_note (b := false) hC hR hX ht hT (pT_cd τ z p (by omega)) hln (mkS_bd (by omega) (tcd_le hcell) acc true g0 hsa hg0) h8 (fun V9 h9 f9 => ?_))
          refine y_n0 ?_
          refine y_ld (x := iv ((n + 1 : Nat) : Int)) rfl rfl (fun d => rfl) ?_
          refine y_ic rfl rfl ?_
          refine y_jne rfl rfl rfl (by omega) (fun g18 => absurd g18 (by omega)) (fun g18 => ?_)
          refine y_ld (x := .ref 115) rfl rfl (fun d => rfl) ?_
          refine y_gR (i := 3) rfl rfl rfl hR rfl ?_
          refine y_ld (x := iv cell) rfl rfl (fun d => rfl) ?_
          refine y_ld (x := iv 0) rfl rfl (fun d => rfl) ?_
          refine y_cV (as := [.ref t, iv cell, iv 0]) rfl rfl rfl rfl rfl hX.1 ⟨rfl, (Nat.le_of_ble_eq_true rfl), (Nat.le_of_ble_eq_true rfl)⟩ (by omega) (cr_note (b := false) hC hR hX ht hT hcell hln (mk_bd (by omega) (mkS_bd (by omega) (tcd_le hcell) acc true g0 hsa hg0) _ _ (tcd_le (pT_cd τ z p (by omega)))) h9 (fun V10 h10 f10 => ?_))
          refine y_n0 ?_
          refine y_ld (x := .ref 115) rfl rfl (fun d => rfl) ?_
          refine y_gR (i := 3) rfl rfl rfl hR rfl ?_
          refine y_ld (x := iv (st0.length : Int)) rfl rfl (fun d => rfl) ?_
          refine y_ld (x := iv ((n + 1 : Nat) : Int)) rfl rfl (fun d => rfl) ?_
          refine y_cV (as := [.ref t, iv (st0.length : Int), iv ((n + 1 : Nat) : Int)]) rfl rfl rfl rfl rfl hX.1 ⟨rfl, (Nat.le_of_ble_eq_true rfl), (Nat.le_of_ble_eq_true rfl)⟩ (by omega) (cr_count hC hR hX ht hT h10 (by simp) (by simp; omega) (fun V11 h11 f11 => ?_))
          refine y_n0 ?_
          refine y_ld (x := .ref 115) rfl rfl (fun d => rfl) ?_
          refine y_cV (as := [.ref 115]) rfl rfl rfl rfl rfl hR ⟨rfl, (Nat.le_of_ble_eq_true rfl), (Nat.le_of_ble_eq_true rfl)⟩ (by omega) (cr_next hC hR hX ht hT h11 (by omega) ?_)
          have hq108 := hr_rg hT ((pT τ z p).2)
          refine y_nv ?_
          refine y_bi rfl rfl (by decide) ?_
          refine y_jeq rfl rfl rfl (by omega) (fun g19 => ?_) (fun g19 => ?_)
          · refine y_ld (x := .ref 115) rfl rfl (fun d => rfl) ?_
            refine y_cV (as := [.ref 115]) rfl rfl rfl rfl rfl hR ⟨rfl, (Nat.le_of_ble_eq_true rfl), (Nat.le_of_ble_eq_true rfl)⟩ (by omega) (cr_next hC hR hX ht hT h11 (by omega) ?_)
            have hq128 := hr_rg hT ((pT τ z p).2)
            refine y_nv ?_
            refine y_bi rfl rfl (by decide) ?_
            refine y_jne rfl rfl rfl (by omega) (fun g20 => ?_) (fun g20 => ?_)
            · refine y_ic rfl rfl ?_
              refine y_st (lv' := [(3, iv 0), (6, iv 0), (5, iv ((pT τ z p).1)), (0, .ref 115), (1, iv cell), (2, iv (st0.length : Int)), (4, iv ((n + 1 : Nat) : Int))]) rfl rfl (fun d => rfl) ?_
              refine y_ld (x := iv ((n + 1 : Nat) : Int)) rfl rfl (fun d => rfl) ?_
              refine y_ic rfl rfl ?_
              refine y_jge rfl rfl rfl (by omega) (fun g21 => ?_) (fun g21 => ?_)
              · refine y_inc (z := ((n + 1 + 1 : Nat) : Int)) (lv' := [(4, iv ((n + 1 + 1 : Nat) : Int)), (3, iv 0), (6, iv 0), (5, iv ((pT τ z p).1)), (0, .ref 115), (1, iv cell), (2, iv (st0.length : Int))]) rfl rfl rfl (by omega) rfl ?_
                refine y_go rfl rfl ?_
                refine y_ld (x := iv ((n + 1 + 1 : Nat) : Int)) rfl rfl (fun d => rfl) ?_
                refine y_ic rfl rfl ?_
                refine y_jgt rfl rfl rfl (by omega) (fun g22 => ?_) (fun g22 => absurd g22 (by omega))
                refine y_ic rfl rfl ?_
                refine y_rI rfl (by decide) ?_
                exact k2 _ _ _ _ (Or.inr ⟨_, (by rw [show 4 - n = (4 - (n + 1)) + 1 by omega, pM_s, if_neg (by omega), if_neg (by omega)]), by omega⟩) h11 (CF_tr (CF_tr (CF_tr (CF_tr (CF_tr (CF_rf t V) f1) f8) f9) f10) f11)
              · refine y_ld (x := .ref 115) rfl rfl (fun d => rfl) ?_
                refine y_in rfl rfl (fun d => rfl) ?_
                refine y_gI (i := 2) (e := (((pT τ z p).2 : Nat) : Int)) rfl rfl rfl hR rfl h11.2.1 ?_
                refine y_ic rfl rfl ?_
                refine y_add (z := ((((pT τ z p).2 : Nat) : Int) + 1)) rfl rfl rfl ?_
                refine y_pI (i := 2) rfl rfl rfl hR rfl rfl ?_
                have hr1 := raw_t (s := s) (pT_cd τ z p (by omega)) (by omega)
                have hsm : smO (acc ++ [(pT τ z p).1 + s]) := smO_app hsa (by rw [hr1]; exact (pT_cd τ z p (by omega)))
                have hcc : (pT τ z p).1 ≠ cell := by omega
                have hmk : mkS1 (ln - 1) cell (true && acc.isEmpty) (mkS (ln - 1) cell true g0 acc) ((pT τ z p).1 + s) = mk (ln - 1) (mk (ln - 1) (mkS (ln - 1) cell true g0 acc) (pT τ z p).1 true) cell true := by
                  rw [acc_nil hal (by omega), mk_comm hcc (by omega) (by have := hcell; unfold tcd at this; omega)]; unfold mkS1; rw [if_pos rfl, if_neg (by omega), hr1]
                have hst : (st0 ++ (n : Int) :: acc ++ [(pT τ z p).1 + s]).set st0.length ((n + 1 : Nat) : Int) = st0 ++ ((acc ++ [(pT τ z p).1 + s]).length : Int) :: (acc ++ [(pT τ z p).1 + s]) := by
                  rw [List.append_assoc, show ((n : Int) :: acc) ++ [(pT τ z p).1 + s] = (n : Int) :: (acc ++ [(pT τ z p).1 + s]) from rfl, set_mid, show ((acc ++ [(pT τ z p).1 + s]).length : Int) = ((n + 1 : Nat) : Int) by simp; omega]
                have hh : CP V11 t z τ (pT τ z p).2 ln (st0 ++ ((acc ++ [(pT τ z p).1 + s]).length : Int) :: (acc ++ [(pT τ z p).1 + s])) (mkS (ln - 1) cell true g0 (acc ++ [(pT τ z p).1 + s])) := by
                  rw [mkS_app, hmk, ← hst]
                  exact h11
                have pl9 := hr_le (τ := τ) (z := z) (p := (pT τ z p).2) (by omega)
                have hh2 := CP_at (p' := (pT τ z p).2 + 1) ht hh
                refine y_inc (z := ((n + 1 + 1 : Nat) : Int)) (lv' := [(4, iv ((n + 1 + 1 : Nat) : Int)), (3, iv 0), (6, iv 0), (5, iv ((pT τ z p).1)), (0, .ref 115), (1, iv cell), (2, iv (st0.length : Int))]) rfl rfl rfl (by omega) rfl ?_
                refine y_go rfl rfl ?_
                refine y_lv (l' := [(0, .ref 115), (1, iv cell), (2, iv (st0.length : Int)), (3, iv 0), (4, iv ((n + 1 + 1 : Nat) : Int))]) rfl ⟨rfl, rfl, rfl, rfl, rfl, trivial⟩ ?_
                refine y_mono (ih (n + 1) _ _ _ _ ((pT τ z p).2 + 1) 0 (acc ++ [(pT τ z p).1 + s]) (by omega) (by omega) (by simp; omega) (by decide) (fun q => absurd q (by omega)) (by omega) (by simp; omega) hsm (by have e := hh2; rw [show ((acc ++ [(pT τ z p).1 + s]).length : Int) = ((n + 1 : Nat) : Int) by simp; omega] at e; exact e) ?_ ?_) (by omega)
                · intro lz qz V' a1 a2 a3 a4
                  exact k1 lz qz V' (by rw [show 4 - n = (4 - (n + 1)) + 1 by omega, pM_s, if_neg (by omega), if_pos ⟨by omega, by omega⟩, if_neg (by omega)]; exact a1) a2 a3 (CF_tr (CF_tr (CF_tr (CF_tr (CF_tr (CF_tr (CF_tr (CF_rf t V) f1) f8) f9) f10) f11) (CF_at ht)) a4)
                · intro qz V' st' g' a1 a2 a3
                  refine k2 qz V' st' g' ?_ a2 (CF_tr (CF_tr (CF_tr (CF_tr (CF_tr (CF_tr (CF_tr (CF_rf t V) f1) f8) f9) f10) f11) (CF_at ht)) a3)
                  have e : pM τ z (4 - n) s p acc = pM τ z (4 - (n + 1)) 0 ((pT τ z p).2 + 1) (acc ++ [(pT τ z p).1 + s]) := by rw [show 4 - n = (4 - (n + 1)) + 1 by omega, pM_s, if_neg (by omega), if_pos ⟨by omega, by omega⟩, if_neg (by omega)]
                  rw [e]; exact a1
            · refine y_si rfl rfl (by decide) ?_
              refine y_go rfl rfl ?_
              refine y_st (lv' := [(3, iv 256), (6, iv 0), (5, iv ((pT τ z p).1)), (0, .ref 115), (1, iv cell), (2, iv (st0.length : Int)), (4, iv ((n + 1 : Nat) : Int))]) rfl rfl (fun d => rfl) ?_
              refine y_ld (x := iv ((n + 1 : Nat) : Int)) rfl rfl (fun d => rfl) ?_
              refine y_ic rfl rfl ?_
              refine y_jge rfl rfl rfl (by omega) (fun g23 => ?_) (fun g23 => ?_)
              · refine y_inc (z := ((n + 1 + 1 : Nat) : Int)) (lv' := [(4, iv ((n + 1 + 1 : Nat) : Int)), (3, iv 256), (6, iv 0), (5, iv ((pT τ z p).1)), (0, .ref 115), (1, iv cell), (2, iv (st0.length : Int))]) rfl rfl rfl (by omega) rfl ?_
                refine y_go rfl rfl ?_
                refine y_ld (x := iv ((n + 1 + 1 : Nat) : Int)) rfl rfl (fun d => rfl) ?_
                refine y_ic rfl rfl ?_
                refine y_jgt rfl rfl rfl (by omega) (fun g24 => ?_) (fun g24 => absurd g24 (by omega))
                refine y_ic rfl rfl ?_
                refine y_rI rfl (by decide) ?_
                exact k2 _ _ _ _ (Or.inr ⟨_, (by rw [show 4 - n = (4 - (n + 1)) + 1 by omega, pM_s, if_neg (by omega), if_neg (by omega)]), by omega⟩) h11 (CF_tr (CF_tr (CF_tr (CF_tr (CF_tr (CF_rf t V) f1) f8) f9) f10) f11)
              · refine y_ld (x := .ref 115) rfl rfl (fun d => rfl) ?_
                refine y_in rfl rfl (fun d => rfl) ?_
                refine y_gI (i := 2) (e := (((pT τ z p).2 : Nat) : Int)) rfl rfl rfl hR rfl h11.2.1 ?_
                refine y_ic rfl rfl ?_
                refine y_add (z := ((((pT τ z p).2 : Nat) : Int) + 1)) rfl rfl rfl ?_
                refine y_pI (i := 2) rfl rfl rfl hR rfl rfl ?_
                have hr1 := raw_t (s := s) (pT_cd τ z p (by omega)) (by omega)
                have hsm : smO (acc ++ [(pT τ z p).1 + s]) := smO_app hsa (by rw [hr1]; exact (pT_cd τ z p (by omega)))
                have hcc : (pT τ z p).1 ≠ cell := by omega
                have hmk : mkS1 (ln - 1) cell (true && acc.isEmpty) (mkS (ln - 1) cell true g0 acc) ((pT τ z p).1 + s) = mk (ln - 1) (mk (ln - 1) (mkS (ln - 1) cell true g0 acc) (pT τ z p).1 true) cell true := by
                  rw [acc_nil hal (by omega), mk_comm hcc (by omega) (by have := hcell; unfold tcd at this; omega)]; unfold mkS1; rw [if_pos rfl, if_neg (by omega), hr1]
                have hst : (st0 ++ (n : Int) :: acc ++ [(pT τ z p).1 + s]).set st0.length ((n + 1 : Nat) : Int) = st0 ++ ((acc ++ [(pT τ z p).1 + s]).length : Int) :: (acc ++ [(pT τ z p).1 + s]) := by
                  rw [List.append_assoc, show ((n : Int) :: acc) ++ [(pT τ z p).1 + s] = (n : Int) :: (acc ++ [(pT τ z p).1 + s]) from rfl, set_mid, show ((acc ++ [(pT τ z p).1 + s]).length : Int) = ((n + 1 : Nat) : Int) by simp; omega]
                have hh : CP V11 t z τ (pT τ z p).2 ln (st0 ++ ((acc ++ [(pT τ z p).1 + s]).length : Int) :: (acc ++ [(pT τ z p).1 + s])) (mkS (ln - 1) cell true g0 (acc ++ [(pT τ z p).1 + s])) := by
                  rw [mkS_app, hmk, ← hst]
                  exact h11
                have pl9 := hr_le (τ := τ) (z := z) (p := (pT τ z p).2) (by omega)
                have hh2 := CP_at (p' := (pT τ z p).2 + 1) ht hh
                refine y_inc (z := ((n + 1 + 1 : Nat) : Int)) (lv' := [(4, iv ((n + 1 + 1 : Nat) : Int)), (3, iv 256), (6, iv 0), (5, iv ((pT τ z p).1)), (0, .ref 115), (1, iv cell), (2, iv (st0.length : Int))]) rfl rfl rfl (by omega) rfl ?_
                refine y_go rfl rfl ?_
                refine y_lv (l' := [(0, .ref 115), (1, iv cell), (2, iv (st0.length : Int)), (3, iv 256), (4, iv ((n + 1 + 1 : Nat) : Int))]) rfl ⟨rfl, rfl, rfl, rfl, rfl, trivial⟩ ?_
                refine y_mono (ih (n + 1) _ _ _ _ ((pT τ z p).2 + 1) 256 (acc ++ [(pT τ z p).1 + s]) (by omega) (by omega) (by simp; omega) (by decide) (fun q => absurd q (by omega)) (by omega) (by simp; omega) hsm (by have e := hh2; rw [show ((acc ++ [(pT τ z p).1 + s]).length : Int) = ((n + 1 : Nat) : Int) by simp; omega] at e; exact e) ?_ ?_) (by omega)
                · intro lz qz V' a1 a2 a3 a4
                  exact k1 lz qz V' (by rw [show 4 - n = (4 - (n + 1)) + 1 by omega, pM_s, if_neg (by omega), if_pos ⟨by omega, by omega⟩, if_pos (by omega)]; exact a1) a2 a3 (CF_tr (CF_tr (CF_tr (CF_tr (CF_tr (CF_tr (CF_tr (CF_rf t V) f1) f8) f9) f10) f11) (CF_at ht)) a4)
                · intro qz V' st' g' a1 a2 a3
                  refine k2 qz V' st' g' ?_ a2 (CF_tr (CF_tr (CF_tr (CF_tr (CF_tr (CF_tr (CF_tr (CF_rf t V) f1) f8) f9) f10) f11) (CF_at ht)) a3)
                  have e : pM τ z (4 - n) s p acc = pM τ z (4 - (n + 1)) 256 ((pT τ z p).2 + 1) (acc ++ [(pT τ z p).1 + s]) := by rw [show 4 - n = (4 - (n + 1)) + 1 by omega, pM_s, if_neg (by omega), if_pos ⟨by omega, by omega⟩, if_pos (by omega)]
                  rw [e]; exact a1
          · refine y_ld (x := .ref 115) rfl rfl (fun d => rfl) ?_
            refine y_cV (as := [.ref 115]) rfl rfl rfl rfl rfl hR ⟨rfl, (Nat.le_of_ble_eq_true rfl), (Nat.le_of_ble_eq_true rfl)⟩ (by omega) (cr_next hC hR hX ht hT h11 (by omega) ?_)
            have hq117 := hr_rg hT ((pT τ z p).2)
            refine y_nv ?_
            refine y_bi rfl rfl (by decide) ?_
            refine y_jeq rfl rfl rfl (by omega) (fun g25 => ?_) (fun g25 => ?_)
            · refine y_ld (x := .ref 115) rfl rfl (fun d => rfl) ?_
              refine y_cV (as := [.ref 115]) rfl rfl rfl rfl rfl hR ⟨rfl, (Nat.le_of_ble_eq_true rfl), (Nat.le_of_ble_eq_true rfl)⟩ (by omega) (cr_next hC hR hX ht hT h11 (by omega) ?_)
              have hq128 := hr_rg hT ((pT τ z p).2)
              refine y_nv ?_
              refine y_bi rfl rfl (by decide) ?_
              refine y_jne rfl rfl rfl (by omega) (fun g26 => ?_) (fun g26 => ?_)
              · refine y_ic rfl rfl ?_
                refine y_st (lv' := [(3, iv 0), (6, iv 0), (5, iv ((pT τ z p).1)), (0, .ref 115), (1, iv cell), (2, iv (st0.length : Int)), (4, iv ((n + 1 : Nat) : Int))]) rfl rfl (fun d => rfl) ?_
                refine y_ld (x := iv ((n + 1 : Nat) : Int)) rfl rfl (fun d => rfl) ?_
                refine y_ic rfl rfl ?_
                refine y_jge rfl rfl rfl (by omega) (fun g27 => ?_) (fun g27 => ?_)
                · refine y_inc (z := ((n + 1 + 1 : Nat) : Int)) (lv' := [(4, iv ((n + 1 + 1 : Nat) : Int)), (3, iv 0), (6, iv 0), (5, iv ((pT τ z p).1)), (0, .ref 115), (1, iv cell), (2, iv (st0.length : Int))]) rfl rfl rfl (by omega) rfl ?_
                  refine y_go rfl rfl ?_
                  refine y_ld (x := iv ((n + 1 + 1 : Nat) : Int)) rfl rfl (fun d => rfl) ?_
                  refine y_ic rfl rfl ?_
                  refine y_jgt rfl rfl rfl (by omega) (fun g28 => ?_) (fun g28 => absurd g28 (by omega))
                  refine y_ic rfl rfl ?_
                  refine y_rI rfl (by decide) ?_
                  exact k2 _ _ _ _ (Or.inr ⟨_, (by rw [show 4 - n = (4 - (n + 1)) + 1 by omega, pM_s, if_neg (by omega), if_neg (by omega)]), by omega⟩) h11 (CF_tr (CF_tr (CF_tr (CF_tr (CF_tr (CF_rf t V) f1) f8) f9) f10) f11)
                · refine y_ld (x := .ref 115) rfl rfl (fun d => rfl) ?_
                  refine y_in rfl rfl (fun d => rfl) ?_
                  refine y_gI (i := 2) (e := (((pT τ z p).2 : Nat) : Int)) rfl rfl rfl hR rfl h11.2.1 ?_
                  refine y_ic rfl rfl ?_
                  refine y_add (z := ((((pT τ z p).2 : Nat) : Int) + 1)) rfl rfl rfl ?_
                  refine y_pI (i := 2) rfl rfl rfl hR rfl rfl ?_
                  have hr1 := raw_t (s := s) (pT_cd τ z p (by omega)) (by omega)
                  have hsm : smO (acc ++ [(pT τ z p).1 + s]) := smO_app hsa (by rw [hr1]; exact (pT_cd τ z p (by omega)))
                  have hcc : (pT τ z p).1 ≠ cell := by omega
                  have hmk : mkS1 (ln - 1) cell (true && acc.isEmpty) (mkS (ln - 1) cell true g0 acc) ((pT τ z p).1 + s) = mk (ln - 1) (mk (ln - 1) (mkS (ln - 1) cell true g0 acc) (pT τ z p).1 true) cell true := by
                    rw [acc_nil hal (by omega), mk_comm hcc (by omega) (by have := hcell; unfold tcd at this; omega)]; unfold mkS1; rw [if_pos rfl, if_neg (by omega), hr1]
                  have hst : (st0 ++ (n : Int) :: acc ++ [(pT τ z p).1 + s]).set st0.length ((n + 1 : Nat) : Int) = st0 ++ ((acc ++ [(pT τ z p).1 + s]).length : Int) :: (acc ++ [(pT τ z p).1 + s]) := by
                    rw [List.append_assoc, show ((n : Int) :: acc) ++ [(pT τ z p).1 + s] = (n : Int) :: (acc ++ [(pT τ z p).1 + s]) from rfl, set_mid, show ((acc ++ [(pT τ z p).1 + s]).length : Int) = ((n + 1 : Nat) : Int) by simp; omega]
                  have hh : CP V11 t z τ (pT τ z p).2 ln (st0 ++ ((acc ++ [(pT τ z p).1 + s]).length : Int) :: (acc ++ [(pT τ z p).1 + s])) (mkS (ln - 1) cell true g0 (acc ++ [(pT τ z p).1 + s])) := by
                    rw [mkS_app, hmk, ← hst]
                    exact h11
                  have pl9 := hr_le (τ := τ) (z := z) (p := (pT τ z p).2) (by omega)
                  have hh2 := CP_at (p' := (pT τ z p).2 + 1) ht hh
                  refine y_inc (z := ((n + 1 + 1 : Nat) : Int)) (lv' := [(4, iv ((n + 1 + 1 : Nat) : Int)), (3, iv 0), (6, iv 0), (5, iv ((pT τ z p).1)), (0, .ref 115), (1, iv cell), (2, iv (st0.length : Int))]) rfl rfl rfl (by omega) rfl ?_
                  refine y_go rfl rfl ?_
                  refine y_lv (l' := [(0, .ref 115), (1, iv cell), (2, iv (st0.length : Int)), (3, iv 0), (4, iv ((n + 1 + 1 : Nat) : Int))]) rfl ⟨rfl, rfl, rfl, rfl, rfl, trivial⟩ ?_
                  refine y_mono (ih (n + 1) _ _ _ _ ((pT τ z p).2 + 1) 0 (acc ++ [(pT τ z p).1 + s]) (by omega) (by omega) (by simp; omega) (by decide) (fun q => absurd q (by omega)) (by omega) (by simp; omega) hsm (by have e := hh2; rw [show ((acc ++ [(pT τ z p).1 + s]).length : Int) = ((n + 1 : Nat) : Int) by simp; omega] at e; exact e) ?_ ?_) (by omega)
                  · intro lz qz V' a1 a2 a3 a4
                    exact k1 lz qz V' (by rw [show 4 - n = (4 - (n + 1)) + 1 by omega, pM_s, if_neg (by omega), if_pos ⟨by omega, by omega⟩, if_neg (by omega)]; exact a1) a2 a3 (CF_tr (CF_tr (CF_tr (CF_tr (CF_tr (CF_tr (CF_tr (CF_rf t V) f1) f8) f9) f10) f11) (CF_at ht)) a4)
                  · intro qz V' st' g' a1 a2 a3
                    refine k2 qz V' st' g' ?_ a2 (CF_tr (CF_tr (CF_tr (CF_tr (CF_tr (CF_tr (CF_tr (CF_rf t V) f1) f8) f9) f10) f11) (CF_at ht)) a3)
                    have e : pM τ z (4 - n) s p acc = pM τ z (4 - (n + 1)) 0 ((pT τ z p).2 + 1) (acc ++ [(pT τ z p).1 + s]) := by rw [show 4 - n = (4 - (n + 1)) + 1 by omega, pM_s, if_neg (by omega), if_pos ⟨by omega, by omega⟩, if_neg (by omega)]
                    rw [e]; exact a1
              · refine y_si rfl rfl (by decide) ?_
                refine y_go rfl rfl ?_
                refine y_st (lv' := [(3, iv 256), (6, iv 0), (5, iv ((pT τ z p).1)), (0, .ref 115), (1, iv cell), (2, iv (st0.length : Int)), (4, iv ((n + 1 : Nat) : Int))]) rfl rfl (fun d => rfl) ?_
                refine y_ld (x := iv ((n + 1 : Nat) : Int)) rfl rfl (fun d => rfl) ?_
                refine y_ic rfl rfl ?_
                refine y_jge rfl rfl rfl (by omega) (fun g29 => ?_) (fun g29 => ?_)
                · refine y_inc (z := ((n + 1 + 1 : Nat) : Int)) (lv' := [(4, iv ((n + 1 + 1 : Nat) : Int)), (3, iv 256), (6, iv 0), (5, iv ((pT τ z p).1)), (0, .ref 115), (1, iv cell), (2, iv (st0.length : Int))]) rfl rfl rfl (by omega) rfl ?_
                  refine y_go rfl rfl ?_
                  refine y_ld (x := iv ((n + 1 + 1 : Nat) : Int)) rfl rfl (fun d => rfl) ?_
                  refine y_ic rfl rfl ?_
                  refine y_jgt rfl rfl rfl (by omega) (fun g30 => ?_) (fun g30 => absurd g30 (by omega))
                  refine y_ic rfl rfl ?_
                  refine y_rI rfl (by decide) ?_
                  exact k2 _ _ _ _ (Or.inr ⟨_, (by rw [show 4 - n = (4 - (n + 1)) + 1 by omega, pM_s, if_neg (by omega), if_neg (by omega)]), by omega⟩) h11 (CF_tr (CF_tr (CF_tr (CF_tr (CF_tr (CF_rf t V) f1) f8) f9) f10) f11)
                · refine y_ld (x := .ref 115) rfl rfl (fun d => rfl) ?_
                  refine y_in rfl rfl (fun d => rfl) ?_
                  refine y_gI (i := 2) (e := (((pT τ z p).2 : Nat) : Int)) rfl rfl rfl hR rfl h11.2.1 ?_
                  refine y_ic rfl rfl ?_
                  refine y_add (z := ((((pT τ z p).2 : Nat) : Int) + 1)) rfl rfl rfl ?_
                  refine y_pI (i := 2) rfl rfl rfl hR rfl rfl ?_
                  have hr1 := raw_t (s := s) (pT_cd τ z p (by omega)) (by omega)
                  have hsm : smO (acc ++ [(pT τ z p).1 + s]) := smO_app hsa (by rw [hr1]; exact (pT_cd τ z p (by omega)))
                  have hcc : (pT τ z p).1 ≠ cell := by omega
                  have hmk : mkS1 (ln - 1) cell (true && acc.isEmpty) (mkS (ln - 1) cell true g0 acc) ((pT τ z p).1 + s) = mk (ln - 1) (mk (ln - 1) (mkS (ln - 1) cell true g0 acc) (pT τ z p).1 true) cell true := by
                    rw [acc_nil hal (by omega), mk_comm hcc (by omega) (by have := hcell; unfold tcd at this; omega)]; unfold mkS1; rw [if_pos rfl, if_neg (by omega), hr1]
                  have hst : (st0 ++ (n : Int) :: acc ++ [(pT τ z p).1 + s]).set st0.length ((n + 1 : Nat) : Int) = st0 ++ ((acc ++ [(pT τ z p).1 + s]).length : Int) :: (acc ++ [(pT τ z p).1 + s]) := by
                    rw [List.append_assoc, show ((n : Int) :: acc) ++ [(pT τ z p).1 + s] = (n : Int) :: (acc ++ [(pT τ z p).1 + s]) from rfl, set_mid, show ((acc ++ [(pT τ z p).1 + s]).length : Int) = ((n + 1 : Nat) : Int) by simp; omega]
                  have hh : CP V11 t z τ (pT τ z p).2 ln (st0 ++ ((acc ++ [(pT τ z p).1 + s]).length : Int) :: (acc ++ [(pT τ z p).1 + s])) (mkS (ln - 1) cell true g0 (acc ++ [(pT τ z p).1 + s])) := by
                    rw [mkS_app, hmk, ← hst]
                    exact h11
                  have pl9 := hr_le (τ := τ) (z := z) (p := (pT τ z p).2) (by omega)
                  have hh2 := CP_at (p' := (pT τ z p).2 + 1) ht hh
                  refine y_inc (z := ((n + 1 + 1 : Nat) : Int)) (lv' := [(4, iv ((n + 1 + 1 : Nat) : Int)), (3, iv 256), (6, iv 0), (5, iv ((pT τ z p).1)), (0, .ref 115), (1, iv cell), (2, iv (st0.length : Int))]) rfl rfl rfl (by omega) rfl ?_
                  refine y_go rfl rfl ?_
                  refine y_lv (l' := [(0, .ref 115), (1, iv cell), (2, iv (st0.length : Int)), (3, iv 256), (4, iv ((n + 1 + 1 : Nat) : Int))]) rfl ⟨rfl, rfl, rfl, rfl, rfl, trivial⟩ ?_
                  refine y_mono (ih (n + 1) _ _ _ _ ((pT τ z p).2 + 1) 256 (acc ++ [(pT τ z p).1 + s]) (by omega) (by omega) (by simp; omega) (by decide) (fun q => absurd q (by omega)) (by omega) (by simp; omega) hsm (by have e := hh2; rw [show ((acc ++ [(pT τ z p).1 + s]).length : Int) = ((n + 1 : Nat) : Int) by simp; omega] at e; exact e) ?_ ?_) (by omega)
                  · intro lz qz V' a1 a2 a3 a4
                    exact k1 lz qz V' (by rw [show 4 - n = (4 - (n + 1)) + 1 by omega, pM_s, if_neg (by omega), if_pos ⟨by omega, by omega⟩, if_pos (by omega)]; exact a1) a2 a3 (CF_tr (CF_tr (CF_tr (CF_tr (CF_tr (CF_tr (CF_tr (CF_rf t V) f1) f8) f9) f10) f11) (CF_at ht)) a4)
                  · intro qz V' st' g' a1 a2 a3
                    refine k2 qz V' st' g' ?_ a2 (CF_tr (CF_tr (CF_tr (CF_tr (CF_tr (CF_tr (CF_tr (CF_rf t V) f1) f8) f9) f10) f11) (CF_at ht)) a3)
                    have e : pM τ z (4 - n) s p acc = pM τ z (4 - (n + 1)) 256 ((pT τ z p).2 + 1) (acc ++ [(pT τ z p).1 + s]) := by rw [show 4 - n = (4 - (n + 1)) + 1 by omega, pM_s, if_neg (by omega), if_pos ⟨by omega, by omega⟩, if_pos (by omega)]
                    rw [e]; exact a1
            · refine y_ic rfl rfl ?_
              refine y_rI rfl (by decide) ?_
              have hr1 := raw_t (s := s) (pT_cd τ z p (by omega)) (by omega)
              have hsm : smO (acc ++ [(pT τ z p).1 + s]) := smO_app hsa (by rw [hr1]; exact (pT_cd τ z p (by omega)))
              have hcc : (pT τ z p).1 ≠ cell := by omega
              have hmk : mkS1 (ln - 1) cell (true && acc.isEmpty) (mkS (ln - 1) cell true g0 acc) ((pT τ z p).1 + s) = mk (ln - 1) (mk (ln - 1) (mkS (ln - 1) cell true g0 acc) (pT τ z p).1 true) cell true := by
                rw [acc_nil hal (by omega), mk_comm hcc (by omega) (by have := hcell; unfold tcd at this; omega)]; unfold mkS1; rw [if_pos rfl, if_neg (by omega), hr1]
              have hst : (st0 ++ (n : Int) :: acc ++ [(pT τ z p).1 + s]).set st0.length ((n + 1 : Nat) : Int) = st0 ++ ((acc ++ [(pT τ z p).1 + s]).length : Int) :: (acc ++ [(pT τ z p).1 + s]) := by
                rw [List.append_assoc, show ((n : Int) :: acc) ++ [(pT τ z p).1 + s] = (n : Int) :: (acc ++ [(pT τ z p).1 + s]) from rfl, set_mid, show ((acc ++ [(pT τ z p).1 + s]).length : Int) = ((n + 1 : Nat) : Int) by simp; omega]
              have hh : CP V11 t z τ (pT τ z p).2 ln (st0 ++ ((acc ++ [(pT τ z p).1 + s]).length : Int) :: (acc ++ [(pT τ z p).1 + s])) (mkS (ln - 1) cell true g0 (acc ++ [(pT τ z p).1 + s])) := by
                rw [mkS_app, hmk, ← hst]
                exact h11
              exact k1 _ _ _ (by rw [show 4 - n = (4 - (n + 1)) + 1 by omega, pM_s, if_neg (by omega), if_neg (by omega)]) (by omega) hh (CF_tr (CF_tr (CF_tr (CF_tr (CF_tr (CF_rf t V) f1) f8) f9) f10) f11)
        · refine y_ic rfl rfl ?_
          refine y_go rfl rfl ?_
          refine y_st (lv' := [(6, iv 1), (5, iv ((pT τ z p).1)), (0, .ref 115), (1, iv cell), (2, iv (st0.length : Int)), (3, iv s), (4, iv ((n + 1 : Nat) : Int))]) rfl rfl (fun d => rfl) ?_
          refine y_ld (x := .ref 115) rfl rfl (fun d => rfl) ?_
          refine y_gR (i := 3) rfl rfl rfl hR rfl ?_
          refine y_ld (x := iv ((pT τ z p).1)) rfl rfl (fun d => rfl) ?_
          refine y_ld (x := iv s) rfl rfl (fun d => rfl) ?_
          refine y_add (z := (((pT τ z p).1) + s)) rfl rfl rfl ?_
          refine y_cV (as := [.ref t, iv (((pT τ z p).1) + s)]) rfl rfl rfl rfl rfl hX.1 ⟨rfl, (Nat.le_of_ble_eq_true rfl), (Nat.le_of_ble_eq_true rfl)⟩ (by omega) (cr_add hC hR hX ht hT h1 (by first | omega | (simp; omega)) (fun V12 h12 f12 => ?_))
          refine y_n0 ?_
          refine y_ld (x := .ref 115) rfl rfl (fun d => rfl) ?_
          refine y_gR (i := 3) rfl rfl rfl hR rfl ?_
          refine y_ld (x := iv ((pT τ z p).1)) rfl rfl (fun d => rfl) ?_
          refine y_ld (x := iv 1) rfl rfl (fun d => rfl) ?_
          refine y_cV (as := [.ref t, iv ((pT τ z p).1), iv 1]) rfl rfl rfl rfl rfl hX.1 ⟨rfl, (Nat.le_of_ble_eq_true rfl), (Nat.le_of_ble_eq_true rfl)⟩ (by omega) (cr_note (b := true) hC hR hX ht hT (pT_cd τ z p (by omega)) hln (mkS_bd (by omega) (tcd_le hcell) acc true g0 hsa hg0) h12 (fun V13 h13 f13 => ?_))
          refine y_n0 ?_
          refine y_ld (x := iv ((n + 1 : Nat) : Int)) rfl rfl (fun d => rfl) ?_
          refine y_ic rfl rfl ?_
          refine y_jne rfl rfl rfl (by omega) (fun g31 => absurd g31 (by omega)) (fun g31 => ?_)
          refine y_ld (x := .ref 115) rfl rfl (fun d => rfl) ?_
          refine y_gR (i := 3) rfl rfl rfl hR rfl ?_
          refine y_ld (x := iv cell) rfl rfl (fun d => rfl) ?_
          refine y_ld (x := iv 1) rfl rfl (fun d => rfl) ?_
          refine y_cV (as := [.ref t, iv cell, iv 1]) rfl rfl rfl rfl rfl hX.1 ⟨rfl, (Nat.le_of_ble_eq_true rfl), (Nat.le_of_ble_eq_true rfl)⟩ (by omega) (cr_note (b := true) hC hR hX ht hT hcell hln (mk_bd (by omega) (mkS_bd (by omega) (tcd_le hcell) acc true g0 hsa hg0) _ _ (tcd_le (pT_cd τ z p (by omega)))) h13 (fun V14 h14 f14 => ?_))
          refine y_n0 ?_
          refine y_ld (x := .ref 115) rfl rfl (fun d => rfl) ?_
          refine y_gR (i := 3) rfl rfl rfl hR rfl ?_
          refine y_ld (x := iv (st0.length : Int)) rfl rfl (fun d => rfl) ?_
          refine y_ld (x := iv ((n + 1 : Nat) : Int)) rfl rfl (fun d => rfl) ?_
          refine y_cV (as := [.ref t, iv (st0.length : Int), iv ((n + 1 : Nat) : Int)]) rfl rfl rfl rfl rfl hX.1 ⟨rfl, (Nat.le_of_ble_eq_true rfl), (Nat.le_of_ble_eq_true rfl)⟩ (by omega) (cr_count hC hR hX ht hT h14 (by simp) (by simp; omega) (fun V15 h15 f15 => ?_))
          refine y_n0 ?_
          refine y_ld (x := .ref 115) rfl rfl (fun d => rfl) ?_
          refine y_cV (as := [.ref 115]) rfl rfl rfl rfl rfl hR ⟨rfl, (Nat.le_of_ble_eq_true rfl), (Nat.le_of_ble_eq_true rfl)⟩ (by omega) (cr_next hC hR hX ht hT h15 (by omega) ?_)
          have hq108 := hr_rg hT ((pT τ z p).2)
          refine y_nv ?_
          refine y_bi rfl rfl (by decide) ?_
          refine y_jeq rfl rfl rfl (by omega) (fun g32 => ?_) (fun g32 => ?_)
          · refine y_ld (x := .ref 115) rfl rfl (fun d => rfl) ?_
            refine y_cV (as := [.ref 115]) rfl rfl rfl rfl rfl hR ⟨rfl, (Nat.le_of_ble_eq_true rfl), (Nat.le_of_ble_eq_true rfl)⟩ (by omega) (cr_next hC hR hX ht hT h15 (by omega) ?_)
            have hq128 := hr_rg hT ((pT τ z p).2)
            refine y_nv ?_
            refine y_bi rfl rfl (by decide) ?_
            refine y_jne rfl rfl rfl (by omega) (fun g33 => ?_) (fun g33 => ?_)
            · refine y_ic rfl rfl ?_
              refine y_st (lv' := [(3, iv 0), (6, iv 1), (5, iv ((pT τ z p).1)), (0, .ref 115), (1, iv cell), (2, iv (st0.length : Int)), (4, iv ((n + 1 : Nat) : Int))]) rfl rfl (fun d => rfl) ?_
              refine y_ld (x := iv ((n + 1 : Nat) : Int)) rfl rfl (fun d => rfl) ?_
              refine y_ic rfl rfl ?_
              refine y_jge rfl rfl rfl (by omega) (fun g34 => ?_) (fun g34 => ?_)
              · refine y_inc (z := ((n + 1 + 1 : Nat) : Int)) (lv' := [(4, iv ((n + 1 + 1 : Nat) : Int)), (3, iv 0), (6, iv 1), (5, iv ((pT τ z p).1)), (0, .ref 115), (1, iv cell), (2, iv (st0.length : Int))]) rfl rfl rfl (by omega) rfl ?_
                refine y_go rfl rfl ?_
                refine y_ld (x := iv ((n + 1 + 1 : Nat) : Int)) rfl rfl (fun d => rfl) ?_
                refine y_ic rfl rfl ?_
                refine y_jgt rfl rfl rfl (by omega) (fun g35 => ?_) (fun g35 => absurd g35 (by omega))
                refine y_ic rfl rfl ?_
                refine y_rI rfl (by decide) ?_
                exact k2 _ _ _ _ (Or.inr ⟨_, (by rw [show 4 - n = (4 - (n + 1)) + 1 by omega, pM_s, if_neg (by omega), if_neg (by omega)]), by omega⟩) h15 (CF_tr (CF_tr (CF_tr (CF_tr (CF_tr (CF_rf t V) f1) f12) f13) f14) f15)
              · refine y_ld (x := .ref 115) rfl rfl (fun d => rfl) ?_
                refine y_in rfl rfl (fun d => rfl) ?_
                refine y_gI (i := 2) (e := (((pT τ z p).2 : Nat) : Int)) rfl rfl rfl hR rfl h15.2.1 ?_
                refine y_ic rfl rfl ?_
                refine y_add (z := ((((pT τ z p).2 : Nat) : Int) + 1)) rfl rfl rfl ?_
                refine y_pI (i := 2) rfl rfl rfl hR rfl rfl ?_
                have hr1 := raw_t (s := s) (pT_cd τ z p (by omega)) (by omega)
                have hsm : smO (acc ++ [(pT τ z p).1 + s]) := smO_app hsa (by rw [hr1]; exact (pT_cd τ z p (by omega)))
                have hcc : (pT τ z p).1 = cell := by omega
                have hmk : mkS1 (ln - 1) cell (true && acc.isEmpty) (mkS (ln - 1) cell true g0 acc) ((pT τ z p).1 + s) = mk (ln - 1) (mk (ln - 1) (mkS (ln - 1) cell true g0 acc) (pT τ z p).1 false) cell false := by
                  rw [acc_nil hal (by omega), hcc, mk_idem]; unfold mkS1; rw [if_pos rfl, if_pos (by rw [← hcc]; exact hr1)]
                have hst : (st0 ++ (n : Int) :: acc ++ [(pT τ z p).1 + s]).set st0.length ((n + 1 : Nat) : Int) = st0 ++ ((acc ++ [(pT τ z p).1 + s]).length : Int) :: (acc ++ [(pT τ z p).1 + s]) := by
                  rw [List.append_assoc, show ((n : Int) :: acc) ++ [(pT τ z p).1 + s] = (n : Int) :: (acc ++ [(pT τ z p).1 + s]) from rfl, set_mid, show ((acc ++ [(pT τ z p).1 + s]).length : Int) = ((n + 1 : Nat) : Int) by simp; omega]
                have hh : CP V15 t z τ (pT τ z p).2 ln (st0 ++ ((acc ++ [(pT τ z p).1 + s]).length : Int) :: (acc ++ [(pT τ z p).1 + s])) (mkS (ln - 1) cell true g0 (acc ++ [(pT τ z p).1 + s])) := by
                  rw [mkS_app, hmk, ← hst]
                  exact h15
                have pl9 := hr_le (τ := τ) (z := z) (p := (pT τ z p).2) (by omega)
                have hh2 := CP_at (p' := (pT τ z p).2 + 1) ht hh
                refine y_inc (z := ((n + 1 + 1 : Nat) : Int)) (lv' := [(4, iv ((n + 1 + 1 : Nat) : Int)), (3, iv 0), (6, iv 1), (5, iv ((pT τ z p).1)), (0, .ref 115), (1, iv cell), (2, iv (st0.length : Int))]) rfl rfl rfl (by omega) rfl ?_
                refine y_go rfl rfl ?_
                refine y_lv (l' := [(0, .ref 115), (1, iv cell), (2, iv (st0.length : Int)), (3, iv 0), (4, iv ((n + 1 + 1 : Nat) : Int))]) rfl ⟨rfl, rfl, rfl, rfl, rfl, trivial⟩ ?_
                refine y_mono (ih (n + 1) _ _ _ _ ((pT τ z p).2 + 1) 0 (acc ++ [(pT τ z p).1 + s]) (by omega) (by omega) (by simp; omega) (by decide) (fun q => absurd q (by omega)) (by omega) (by simp; omega) hsm (by have e := hh2; rw [show ((acc ++ [(pT τ z p).1 + s]).length : Int) = ((n + 1 : Nat) : Int) by simp; omega] at e; exact e) ?_ ?_) (by omega)
                · intro lz qz V' a1 a2 a3 a4
                  exact k1 lz qz V' (by rw [show 4 - n = (4 - (n + 1)) + 1 by omega, pM_s, if_neg (by omega), if_pos ⟨by omega, by omega⟩, if_neg (by omega)]; exact a1) a2 a3 (CF_tr (CF_tr (CF_tr (CF_tr (CF_tr (CF_tr (CF_tr (CF_rf t V) f1) f12) f13) f14) f15) (CF_at ht)) a4)
                · intro qz V' st' g' a1 a2 a3
                  refine k2 qz V' st' g' ?_ a2 (CF_tr (CF_tr (CF_tr (CF_tr (CF_tr (CF_tr (CF_tr (CF_rf t V) f1) f12) f13) f14) f15) (CF_at ht)) a3)
                  have e : pM τ z (4 - n) s p acc = pM τ z (4 - (n + 1)) 0 ((pT τ z p).2 + 1) (acc ++ [(pT τ z p).1 + s]) := by rw [show 4 - n = (4 - (n + 1)) + 1 by omega, pM_s, if_neg (by omega), if_pos ⟨by omega, by omega⟩, if_neg (by omega)]
                  rw [e]; exact a1
            · refine y_si rfl rfl (by decide) ?_
              refine y_go rfl rfl ?_
              refine y_st (lv' := [(3, iv 256), (6, iv 1), (5, iv ((pT τ z p).1)), (0, .ref 115), (1, iv cell), (2, iv (st0.length : Int)), (4, iv ((n + 1 : Nat) : Int))]) rfl rfl (fun d => rfl) ?_
              refine y_ld (x := iv ((n + 1 : Nat) : Int)) rfl rfl (fun d => rfl) ?_
              refine y_ic rfl rfl ?_
              refine y_jge rfl rfl rfl (by omega) (fun g36 => ?_) (fun g36 => ?_)
              · refine y_inc (z := ((n + 1 + 1 : Nat) : Int)) (lv' := [(4, iv ((n + 1 + 1 : Nat) : Int)), (3, iv 256), (6, iv 1), (5, iv ((pT τ z p).1)), (0, .ref 115), (1, iv cell), (2, iv (st0.length : Int))]) rfl rfl rfl (by omega) rfl ?_
                refine y_go rfl rfl ?_
                refine y_ld (x := iv ((n + 1 + 1 : Nat) : Int)) rfl rfl (fun d => rfl) ?_
                refine y_ic rfl rfl ?_
                refine y_jgt rfl rfl rfl (by omega) (fun g37 => ?_) (fun g37 => absurd g37 (by omega))
                refine y_ic rfl rfl ?_
                refine y_rI rfl (by decide) ?_
                exact k2 _ _ _ _ (Or.inr ⟨_, (by rw [show 4 - n = (4 - (n + 1)) + 1 by omega, pM_s, if_neg (by omega), if_neg (by omega)]), by omega⟩) h15 (CF_tr (CF_tr (CF_tr (CF_tr (CF_tr (CF_rf t V) f1) f12) f13) f14) f15)
              · refine y_ld (x := .ref 115) rfl rfl (fun d => rfl) ?_
                refine y_in rfl rfl (fun d => rfl) ?_
                refine y_gI (i := 2) (e := (((pT τ z p).2 : Nat) : Int)) rfl rfl rfl hR rfl h15.2.1 ?_
                refine y_ic rfl rfl ?_
                refine y_add (z := ((((pT τ z p).2 : Nat) : Int) + 1)) rfl rfl rfl ?_
                refine y_pI (i := 2) rfl rfl rfl hR rfl rfl ?_
                have hr1 := raw_t (s := s) (pT_cd τ z p (by omega)) (by omega)
                have hsm : smO (acc ++ [(pT τ z p).1 + s]) := smO_app hsa (by rw [hr1]; exact (pT_cd τ z p (by omega)))
                have hcc : (pT τ z p).1 = cell := by omega
                have hmk : mkS1 (ln - 1) cell (true && acc.isEmpty) (mkS (ln - 1) cell true g0 acc) ((pT τ z p).1 + s) = mk (ln - 1) (mk (ln - 1) (mkS (ln - 1) cell true g0 acc) (pT τ z p).1 false) cell false := by
                  rw [acc_nil hal (by omega), hcc, mk_idem]; unfold mkS1; rw [if_pos rfl, if_pos (by rw [← hcc]; exact hr1)]
                have hst : (st0 ++ (n : Int) :: acc ++ [(pT τ z p).1 + s]).set st0.length ((n + 1 : Nat) : Int) = st0 ++ ((acc ++ [(pT τ z p).1 + s]).length : Int) :: (acc ++ [(pT τ z p).1 + s]) := by
                  rw [List.append_assoc, show ((n : Int) :: acc) ++ [(pT τ z p).1 + s] = (n : Int) :: (acc ++ [(pT τ z p).1 + s]) from rfl, set_mid, show ((acc ++ [(pT τ z p).1 + s]).length : Int) = ((n + 1 : Nat) : Int) by simp; omega]
                have hh : CP V15 t z τ (pT τ z p).2 ln (st0 ++ ((acc ++ [(pT τ z p).1 + s]).length : Int) :: (acc ++ [(pT τ z p).1 + s])) (mkS (ln - 1) cell true g0 (acc ++ [(pT τ z p).1 + s])) := by
                  rw [mkS_app, hmk, ← hst]
                  exact h15
                have pl9 := hr_le (τ := τ) (z := z) (p := (pT τ z p).2) (by omega)
                have hh2 := CP_at (p' := (pT τ z p).2 + 1) ht hh
                refine y_inc (z := ((n + 1 + 1 : Nat) : Int)) (lv' := [(4, iv ((n + 1 + 1 : Nat) : Int)), (3, iv 256), (6, iv 1), (5, iv ((pT τ z p).1)), (0, .ref 115), (1, iv cell), (2, iv (st0.length : Int))]) rfl rfl rfl (by omega) rfl ?_
                refine y_go rfl rfl ?_
                refine y_lv (l' := [(0, .ref 115), (1, iv cell), (2, iv (st0.length : Int)), (3, iv 256), (4, iv ((n + 1 + 1 : Nat) : Int))]) rfl ⟨rfl, rfl, rfl, rfl, rfl, trivial⟩ ?_
                refine y_mono (ih (n + 1) _ _ _ _ ((pT τ z p).2 + 1) 256 (acc ++ [(pT τ z p).1 + s]) (by omega) (by omega) (by simp; omega) (by decide) (fun q => absurd q (by omega)) (by omega) (by simp; omega) hsm (by have e := hh2; rw [show ((acc ++ [(pT τ z p).1 + s]).length : Int) = ((n + 1 : Nat) : Int) by simp; omega] at e; exact e) ?_ ?_) (by omega)
                · intro lz qz V' a1 a2 a3 a4
                  exact k1 lz qz V' (by rw [show 4 - n = (4 - (n + 1)) + 1 by omega, pM_s, if_neg (by omega), if_pos ⟨by omega, by omega⟩, if_pos (by omega)]; exact a1) a2 a3 (CF_tr (CF_tr (CF_tr (CF_tr (CF_tr (CF_tr (CF_tr (CF_rf t V) f1) f12) f13) f14) f15) (CF_at ht)) a4)
                · intro qz V' st' g' a1 a2 a3
                  refine k2 qz V' st' g' ?_ a2 (CF_tr (CF_tr (CF_tr (CF_tr (CF_tr (CF_tr (CF_tr (CF_rf t V) f1) f12) f13) f14) f15) (CF_at ht)) a3)
                  have e : pM τ z (4 - n) s p acc = pM τ z (4 - (n + 1)) 256 ((pT τ z p).2 + 1) (acc ++ [(pT τ z p).1 + s]) := by rw [show 4 - n = (4 - (n + 1)) + 1 by omega, pM_s, if_neg (by omega), if_pos ⟨by omega, by omega⟩, if_pos (by omega)]
                  rw [e]; exact a1
          · refine y_ld (x := .ref 115) rfl rfl (fun d => rfl) ?_
            refine y_cV (as := [.ref 115]) rfl rfl rfl rfl rfl hR ⟨rfl, (Nat.le_of_ble_eq_true rfl), (Nat.le_of_ble_eq_true rfl)⟩ (by omega) (cr_next hC hR hX ht hT h15 (by omega) ?_)
            have hq117 := hr_rg hT ((pT τ z p).2)
            refine y_nv ?_
            refine y_bi rfl rfl (by decide) ?_
            refine y_jeq rfl rfl rfl (by omega) (fun g38 => ?_) (fun g38 => ?_)
            · refine y_ld (x := .ref 115) rfl rfl (fun d => rfl) ?_
              refine y_cV (as := [.ref 115]) rfl rfl rfl rfl rfl hR ⟨rfl, (Nat.le_of_ble_eq_true rfl), (Nat.le_of_ble_eq_true rfl)⟩ (by omega) (cr_next hC hR hX ht hT h15 (by omega) ?_)
              have hq128 := hr_rg hT ((pT τ z p).2)
              refine y_nv ?_
              refine y_bi rfl rfl (by decide) ?_
              refine y_jne rfl rfl rfl (by omega) (fun g39 => ?_) (fun g39 => ?_)
              · refine y_ic rfl rfl ?_
                refine y_st (lv' := [(3, iv 0), (6, iv 1), (5, iv ((pT τ z p).1)), (0, .ref 115), (1, iv cell), (2, iv (st0.length : Int)), (4, iv ((n + 1 : Nat) : Int))]) rfl rfl (fun d => rfl) ?_
                refine y_ld (x := iv ((n + 1 : Nat) : Int)) rfl rfl (fun d => rfl) ?_
                refine y_ic rfl rfl ?_
                refine y_jge rfl rfl rfl (by omega) (fun g40 => ?_) (fun g40 => ?_)
                · refine y_inc (z := ((n + 1 + 1 : Nat) : Int)) (lv' := [(4, iv ((n + 1 + 1 : Nat) : Int)), (3, iv 0), (6, iv 1), (5, iv ((pT τ z p).1)), (0, .ref 115), (1, iv cell), (2, iv (st0.length : Int))]) rfl rfl rfl (by omega) rfl ?_
                  refine y_go rfl rfl ?_
                  refine y_ld (x := iv ((n + 1 + 1 : Nat) : Int)) rfl rfl (fun d => rfl) ?_
                  refine y_ic rfl rfl ?_
                  refine y_jgt rfl rfl rfl (by omega) (fun g41 => ?_) (fun g41 => absurd g41 (by omega))
                  refine y_ic rfl rfl ?_
                  refine y_rI rfl (by decide) ?_
                  exact k2 _ _ _ _ (Or.inr ⟨_, (by rw [show 4 - n = (4 - (n + 1)) + 1 by omega, pM_s, if_neg (by omega), if_neg (by omega)]), by omega⟩) h15 (CF_tr (CF_tr (CF_tr (CF_tr (CF_tr (CF_rf t V) f1) f12) f13) f14) f15)
                · refine y_ld (x := .ref 115) rfl rfl (fun d => rfl) ?_
                  refine y_in rfl rfl (fun d => rfl) ?_
                  refine y_gI (i := 2) (e := (((pT τ z p).2 : Nat) : Int)) rfl rfl rfl hR rfl h15.2.1 ?_
                  refine y_ic rfl rfl ?_
                  refine y_add (z := ((((pT τ z p).2 : Nat) : Int) + 1)) rfl rfl rfl ?_
                  refine y_pI (i := 2) rfl rfl rfl hR rfl rfl ?_
                  have hr1 := raw_t (s := s) (pT_cd τ z p (by omega)) (by omega)
                  have hsm : smO (acc ++ [(pT τ z p).1 + s]) := smO_app hsa (by rw [hr1]; exact (pT_cd τ z p (by omega)))
                  have hcc : (pT τ z p).1 = cell := by omega
                  have hmk : mkS1 (ln - 1) cell (true && acc.isEmpty) (mkS (ln - 1) cell true g0 acc) ((pT τ z p).1 + s) = mk (ln - 1) (mk (ln - 1) (mkS (ln - 1) cell true g0 acc) (pT τ z p).1 false) cell false := by
                    rw [acc_nil hal (by omega), hcc, mk_idem]; unfold mkS1; rw [if_pos rfl, if_pos (by rw [← hcc]; exact hr1)]
                  have hst : (st0 ++ (n : Int) :: acc ++ [(pT τ z p).1 + s]).set st0.length ((n + 1 : Nat) : Int) = st0 ++ ((acc ++ [(pT τ z p).1 + s]).length : Int) :: (acc ++ [(pT τ z p).1 + s]) := by
                    rw [List.append_assoc, show ((n : Int) :: acc) ++ [(pT τ z p).1 + s] = (n : Int) :: (acc ++ [(pT τ z p).1 + s]) from rfl, set_mid, show ((acc ++ [(pT τ z p).1 + s]).length : Int) = ((n + 1 : Nat) : Int) by simp; omega]
                  have hh : CP V15 t z τ (pT τ z p).2 ln (st0 ++ ((acc ++ [(pT τ z p).1 + s]).length : Int) :: (acc ++ [(pT τ z p).1 + s])) (mkS (ln - 1) cell true g0 (acc ++ [(pT τ z p).1 + s])) := by
                    rw [mkS_app, hmk, ← hst]
                    exact h15
                  have pl9 := hr_le (τ := τ) (z := z) (p := (pT τ z p).2) (by omega)
                  have hh2 := CP_at (p' := (pT τ z p).2 + 1) ht hh
                  refine y_inc (z := ((n + 1 + 1 : Nat) : Int)) (lv' := [(4, iv ((n + 1 + 1 : Nat) : Int)), (3, iv 0), (6, iv 1), (5, iv ((pT τ z p).1)), (0, .ref 115), (1, iv cell), (2, iv (st0.length : Int))]) rfl rfl rfl (by omega) rfl ?_
                  refine y_go rfl rfl ?_
                  refine y_lv (l' := [(0, .ref 115), (1, iv cell), (2, iv (st0.length : Int)), (3, iv 0), (4, iv ((n + 1 + 1 : Nat) : Int))]) rfl ⟨rfl, rfl, rfl, rfl, rfl, trivial⟩ ?_
                  refine y_mono (ih (n + 1) _ _ _ _ ((pT τ z p).2 + 1) 0 (acc ++ [(pT τ z p).1 + s]) (by omega) (by omega) (by simp; omega) (by decide) (fun q => absurd q (by omega)) (by omega) (by simp; omega) hsm (by have e := hh2; rw [show ((acc ++ [(pT τ z p).1 + s]).length : Int) = ((n + 1 : Nat) : Int) by simp; omega] at e; exact e) ?_ ?_) (by omega)
                  · intro lz qz V' a1 a2 a3 a4
                    exact k1 lz qz V' (by rw [show 4 - n = (4 - (n + 1)) + 1 by omega, pM_s, if_neg (by omega), if_pos ⟨by omega, by omega⟩, if_neg (by omega)]; exact a1) a2 a3 (CF_tr (CF_tr (CF_tr (CF_tr (CF_tr (CF_tr (CF_tr (CF_rf t V) f1) f12) f13) f14) f15) (CF_at ht)) a4)
                  · intro qz V' st' g' a1 a2 a3
                    refine k2 qz V' st' g' ?_ a2 (CF_tr (CF_tr (CF_tr (CF_tr (CF_tr (CF_tr (CF_tr (CF_rf t V) f1) f12) f13) f14) f15) (CF_at ht)) a3)
                    have e : pM τ z (4 - n) s p acc = pM τ z (4 - (n + 1)) 0 ((pT τ z p).2 + 1) (acc ++ [(pT τ z p).1 + s]) := by rw [show 4 - n = (4 - (n + 1)) + 1 by omega, pM_s, if_neg (by omega), if_pos ⟨by omega, by omega⟩, if_neg (by omega)]
                    rw [e]; exact a1
              · refine y_si rfl rfl (by decide) ?_
                refine y_go rfl rfl ?_
                refine y_st (lv' := [(3, iv 256), (6, iv 1), (5, iv ((pT τ z p).1)), (0, .ref 115), (1, iv cell), (2, iv (st0.length : Int)), (4, iv ((n + 1 : Nat) : Int))]) rfl rfl (fun d => rfl) ?_
                refine y_ld (x := iv ((n + 1 : Nat) : Int)) rfl rfl (fun d => rfl) ?_
                refine y_ic rfl rfl ?_
                refine y_jge rfl rfl rfl (by omega) (fun g42 => ?_) (fun g42 => ?_)
                · refine y_inc (z := ((n + 1 + 1 : Nat) : Int)) (lv' := [(4, iv ((n + 1 + 1 : Nat) : Int)), (3, iv 256), (6, iv 1), (5, iv ((pT τ z p).1)), (0, .ref 115), (1, iv cell), (2, iv (st0.length : Int))]) rfl rfl rfl (by omega) rfl ?_
                  refine y_go rfl rfl ?_
                  refine y_ld (x := iv ((n + 1 + 1 : Nat) : Int)) rfl rfl (fun d => rfl) ?_
                  refine y_ic rfl rfl ?_
                  refine y_jgt rfl rfl rfl (by omega) (fun g43 => ?_) (fun g43 => absurd g43 (by omega))
                  refine y_ic rfl rfl ?_
                  refine y_rI rfl (by decide) ?_
                  exact k2 _ _ _ _ (Or.inr ⟨_, (by rw [show 4 - n = (4 - (n + 1)) + 1 by omega, pM_s, if_neg (by omega), if_neg (by omega)]), by omega⟩) h15 (CF_tr (CF_tr (CF_tr (CF_tr (CF_tr (CF_rf t V) f1) f12) f13) f14) f15)
                · refine y_ld (x := .ref 115) rfl rfl (fun d => rfl) ?_
                  refine y_in rfl rfl (fun d => rfl) ?_
                  refine y_gI (i := 2) (e := (((pT τ z p).2 : Nat) : Int)) rfl rfl rfl hR rfl h15.2.1 ?_
                  refine y_ic rfl rfl ?_
                  refine y_add (z := ((((pT τ z p).2 : Nat) : Int) + 1)) rfl rfl rfl ?_
                  refine y_pI (i := 2) rfl rfl rfl hR rfl rfl ?_
                  have hr1 := raw_t (s := s) (pT_cd τ z p (by omega)) (by omega)
                  have hsm : smO (acc ++ [(pT τ z p).1 + s]) := smO_app hsa (by rw [hr1]; exact (pT_cd τ z p (by omega)))
                  have hcc : (pT τ z p).1 = cell := by omega
                  have hmk : mkS1 (ln - 1) cell (true && acc.isEmpty) (mkS (ln - 1) cell true g0 acc) ((pT τ z p).1 + s) = mk (ln - 1) (mk (ln - 1) (mkS (ln - 1) cell true g0 acc) (pT τ z p).1 false) cell false := by
                    rw [acc_nil hal (by omega), hcc, mk_idem]; unfold mkS1; rw [if_pos rfl, if_pos (by rw [← hcc]; exact hr1)]
                  have hst : (st0 ++ (n : Int) :: acc ++ [(pT τ z p).1 + s]).set st0.length ((n + 1 : Nat) : Int) = st0 ++ ((acc ++ [(pT τ z p).1 + s]).length : Int) :: (acc ++ [(pT τ z p).1 + s]) := by
                    rw [List.append_assoc, show ((n : Int) :: acc) ++ [(pT τ z p).1 + s] = (n : Int) :: (acc ++ [(pT τ z p).1 + s]) from rfl, set_mid, show ((acc ++ [(pT τ z p).1 + s]).length : Int) = ((n + 1 : Nat) : Int) by simp; omega]
                  have hh : CP V15 t z τ (pT τ z p).2 ln (st0 ++ ((acc ++ [(pT τ z p).1 + s]).length : Int) :: (acc ++ [(pT τ z p).1 + s])) (mkS (ln - 1) cell true g0 (acc ++ [(pT τ z p).1 + s])) := by
                    rw [mkS_app, hmk, ← hst]
                    exact h15
                  have pl9 := hr_le (τ := τ) (z := z) (p := (pT τ z p).2) (by omega)
                  have hh2 := CP_at (p' := (pT τ z p).2 + 1) ht hh
                  refine y_inc (z := ((n + 1 + 1 : Nat) : Int)) (lv' := [(4, iv ((n + 1 + 1 : Nat) : Int)), (3, iv 256), (6, iv 1), (5, iv ((pT τ z p).1)), (0, .ref 115), (1, iv cell), (2, iv (st0.length : Int))]) rfl rfl rfl (by omega) rfl ?_
                  refine y_go rfl rfl ?_
                  refine y_lv (l' := [(0, .ref 115), (1, iv cell), (2, iv (st0.length : Int)), (3, iv 256), (4, iv ((n + 1 + 1 : Nat) : Int))]) rfl ⟨rfl, rfl, rfl, rfl, rfl, trivial⟩ ?_
                  refine y_mono (ih (n + 1) _ _ _ _ ((pT τ z p).2 + 1) 256 (acc ++ [(pT τ z p).1 + s]) (by omega) (by omega) (by simp; omega) (by decide) (fun q => absurd q (by omega)) (by omega) (by simp; omega) hsm (by have e := hh2; rw [show ((acc ++ [(pT τ z p).1 + s]).length : Int) = ((n + 1 : Nat) : Int) by simp; omega] at e; exact e) ?_ ?_) (by omega)
                  · intro lz qz V' a1 a2 a3 a4
                    exact k1 lz qz V' (by rw [show 4 - n = (4 - (n + 1)) + 1 by omega, pM_s, if_neg (by omega), if_pos ⟨by omega, by omega⟩, if_pos (by omega)]; exact a1) a2 a3 (CF_tr (CF_tr (CF_tr (CF_tr (CF_tr (CF_tr (CF_tr (CF_rf t V) f1) f12) f13) f14) f15) (CF_at ht)) a4)
                  · intro qz V' st' g' a1 a2 a3
                    refine k2 qz V' st' g' ?_ a2 (CF_tr (CF_tr (CF_tr (CF_tr (CF_tr (CF_tr (CF_tr (CF_rf t V) f1) f12) f13) f14) f15) (CF_at ht)) a3)
                    have e : pM τ z (4 - n) s p acc = pM τ z (4 - (n + 1)) 256 ((pT τ z p).2 + 1) (acc ++ [(pT τ z p).1 + s]) := by rw [show 4 - n = (4 - (n + 1)) + 1 by omega, pM_s, if_neg (by omega), if_pos ⟨by omega, by omega⟩, if_pos (by omega)]
                    rw [e]; exact a1
            · refine y_ic rfl rfl ?_
              refine y_rI rfl (by decide) ?_
              have hr1 := raw_t (s := s) (pT_cd τ z p (by omega)) (by omega)
              have hsm : smO (acc ++ [(pT τ z p).1 + s]) := smO_app hsa (by rw [hr1]; exact (pT_cd τ z p (by omega)))
              have hcc : (pT τ z p).1 = cell := by omega
              have hmk : mkS1 (ln - 1) cell (true && acc.isEmpty) (mkS (ln - 1) cell true g0 acc) ((pT τ z p).1 + s) = mk (ln - 1) (mk (ln - 1) (mkS (ln - 1) cell true g0 acc) (pT τ z p).1 false) cell false := by
                rw [acc_nil hal (by omega), hcc, mk_idem]; unfold mkS1; rw [if_pos rfl, if_pos (by rw [← hcc]; exact hr1)]
              have hst : (st0 ++ (n : Int) :: acc ++ [(pT τ z p).1 + s]).set st0.length ((n + 1 : Nat) : Int) = st0 ++ ((acc ++ [(pT τ z p).1 + s]).length : Int) :: (acc ++ [(pT τ z p).1 + s]) := by
                rw [List.append_assoc, show ((n : Int) :: acc) ++ [(pT τ z p).1 + s] = (n : Int) :: (acc ++ [(pT τ z p).1 + s]) from rfl, set_mid, show ((acc ++ [(pT τ z p).1 + s]).length : Int) = ((n + 1 : Nat) : Int) by simp; omega]
              have hh : CP V15 t z τ (pT τ z p).2 ln (st0 ++ ((acc ++ [(pT τ z p).1 + s]).length : Int) :: (acc ++ [(pT τ z p).1 + s])) (mkS (ln - 1) cell true g0 (acc ++ [(pT τ z p).1 + s])) := by
                rw [mkS_app, hmk, ← hst]
                exact h15
              exact k1 _ _ _ (by rw [show 4 - n = (4 - (n + 1)) + 1 by omega, pM_s, if_neg (by omega), if_neg (by omega)]) (by omega) hh (CF_tr (CF_tr (CF_tr (CF_tr (CF_tr (CF_rf t V) f1) f12) f13) f14) f15)
    · refine y_ic rfl rfl ?_
      refine y_rI rfl (by decide) ?_
      exact k2 _ _ _ _ (Or.inl (by rw [show 4 - n = (4 - (n + 1)) + 1 by omega, pM_s, if_pos (by omega)])) h1 (CF_tr (CF_rf t V) f1)
set_option maxRecDepth 100000 in
set_option maxHeartbeats 4000000 in
theorem cr_sum (hC : ClF S) {t z : Nat} {τ : Nat → Int} {ln : Int} {st0 : List Int} {g0 : Nat → Int} (hR : RdS S t) (hX : TxS S t) (ht : 193 ≤ t) (hT : Tp τ 0 z) (hln : 1 ≤ ln ∧ ln ≤ 8) (hg0 : ∀ c, c < 8 → 0 ≤ g0 c ∧ g0 c ≤ 10) {p : Nat} {cell : Int} (hcell : tcd cell) (hp : p ≤ z) (hl : st0.length + 1 ≤ p) (h : CP V t z τ p ln st0 g0) (k1 : ∀ l q V', pM τ z 4 0 p [] = (some l, q) → ¬ (hr τ z q = 43 ∨ hr τ z q = 45) → CP V' t z τ q ln (st0 ++ (l.length : Int) :: l) (mkS (ln - 1) cell true g0 l) → CF t V V' → K u w (some (iv 1)) S V') (k2 : ∀ q V' st' g', (pM τ z 4 0 p [] = (none, q) ∨ ∃ l, pM τ z 4 0 p [] = (some l, q) ∧ (hr τ z q = 43 ∨ hr τ z q = 45)) → CP V' t z τ q ln st' g' → CF t V V' → K u w (some (iv 0)) S V') : y_R X 4 26 u w [.ref 115, iv cell] S V K := by
  have hz := hT.2.1
  refine y_ent (lv' := [(0, .ref 115), (1, iv cell)]) (Nat.le_of_ble_eq_true rfl) rfl ?_
  refine y_ld (x := .ref 115) rfl rfl (fun d => rfl) ?_
  refine y_gR (i := 3) rfl rfl rfl hR rfl ?_
  refine y_gI (i := 6) (e := ((st0).length : Int)) rfl rfl rfl hX.1 rfl h.2.2.2.2.1 ?_
  refine y_st (lv' := [(2, iv ((st0).length : Int)), (0, .ref 115), (1, iv cell)]) rfl rfl (fun d => rfl) ?_
  refine y_ic rfl rfl ?_
  refine y_st (lv' := [(3, iv 0), (2, iv ((st0).length : Int)), (0, .ref 115), (1, iv cell)]) rfl rfl (fun d => rfl) ?_
  refine y_ld (x := .ref 115) rfl rfl (fun d => rfl) ?_
  refine y_gR (i := 3) rfl rfl rfl hR rfl ?_
  refine y_ic rfl rfl ?_
  refine y_cV (as := [.ref t, iv 0]) rfl rfl rfl rfl rfl hX.1 ⟨rfl, (Nat.le_of_ble_eq_true rfl), (Nat.le_of_ble_eq_true rfl)⟩ (by decide) (cr_add hC hR hX ht hT h (by first | omega | (simp; omega)) (fun V1 h1 f1 => ?_))
  refine y_n0 ?_
  refine y_ic rfl rfl ?_
  refine y_st (lv' := [(4, iv 1), (3, iv 0), (2, iv ((st0).length : Int)), (0, .ref 115), (1, iv cell)]) rfl rfl (fun d => rfl) ?_
  refine y_lv (l' := [(0, .ref 115), (1, iv cell), (2, iv ((st0).length : Int)), (3, iv 0), (4, iv 1)]) rfl ⟨rfl, rfl, rfl, rfl, rfl, trivial⟩ ?_
  exact y_mono (lp_rsum hC hR hX ht hT hln hg0 hcell 4 0 _ _ _ _ p 0 [] rfl (by decide) rfl (Or.inl rfl) (fun _ => rfl) hp (by simp; omega) (fun t ht => by cases ht) h1 (fun lz qz V' a1 a2 a3 a4 => k1 lz qz V' a1 a2 a3 (CF_tr (CF_tr (CF_rf t V) f1) a4)) (fun qz V' st' g' a1 a2 a3 => k2 qz V' st' g' a1 a2 (CF_tr (CF_tr (CF_rf t V) f1) a3))) (by decide)
end
end
section
/-! ACTS of a LINE in the class -/
def encAc : List p_Ac → List Int
  | [] => []
  | (c, l) :: r => (if 126 ≤ c then [c] else c :: (l.length : Int) :: l) ++ encAc r
theorem encAc_app (l r : List p_Ac) : encAc (l ++ r) = encAc l ++ encAc r := by
  induction l with
  | nil => rfl
  | cons x l ih =>
    obtain ⟨c, a⟩ := x
    simp [encAc, ih]
/-- where a LINE can't go on -/
def bdq (τ : Nat → Int) (z q : Nat) : Prop := hr τ z q = 43 ∨ hr τ z q = 45 ∨ hr τ z q = 44
/-- behind a SUM that can't go on -/
def pmq (τ : Nat → Int) (z q : Nat) : Prop := hr τ z q = 43 ∨ hr τ z q = 45
def CH (t ln0 : Nat) (V V' : v_V) : Prop := (∀ k, k ≠ 115 → k ≠ t → k ≠ t + 4 → k ≠ t + 5 → k ≠ t + 6 → V' k = V k) ∧ (∀ i, i ≠ 2 → V' 115 i = V 115 i) ∧ V' t 0 = V t 0 ∧ ∀ i, i ≠ ln0 → V' (t + 4) i = V (t + 4) i
theorem CH_rf (t n : Nat) (V : v_V) : CH t n V V := ⟨fun _ _ _ _ _ _ => rfl, fun _ _ => rfl, rfl, fun _ _ => rfl⟩
theorem CH_tr {t n : Nat} {V V' V'' : v_V} (h : CH t n V V') (h2 : CH t n V' V'') : CH t n V V'' :=
  ⟨fun k q1 q2 q3 q4 q5 => (h2.1 k q1 q2 q3 q4 q5).trans (h.1 k q1 q2 q3 q4 q5), fun i q => (h2.2.1 i q).trans (h.2.1 i q), h2.2.2.1.trans h.2.2.1, fun i q => (h2.2.2.2 i q).trans (h.2.2.2 i q)⟩
theorem CH_cf {t n : Nat} {V V' : v_V} (ht : 193 ≤ t) (h : CF t V V') : CH t n V V' :=
  ⟨fun k q1 q2 q3 q4 q5 => h.1 k q1 q2 q4 q5, h.2.1, h.2.2, fun i _ => congrFun (h.1 (t + 4) (by omega) (by omega) (by omega) (by omega)) i⟩
theorem CH_4 {t n : Nat} {V : v_V} {x : Int} (ht : 193 ≤ t) : CH t n V (v_up V (t + 4) n x) := by
  refine ⟨fun k q1 q2 q3 q4 q5 => v_up_ne q3, fun i q => ?_, ?_, fun i q => v_up_ni q⟩
  · rw [v_up_ne (by omega)]
  · rw [v_up_ne (by omega)]
theorem CP_r {V V' : v_V} {t z : Nat} {τ : Nat → Int} {p : Nat} {ln : Int} {st : List Int} {g : Nat → Int} (h : CP V t z τ p ln st g) (h1 : V' 115 = V 115) (h2 : V' 2 = V 2) (h3 : V' t = V t) (h5 : V' (t + 5) = V (t + 5)) (h6 : V' (t + 6) = V (t + 6)) : CP V' t z τ p ln st g := by
  obtain ⟨a1, a2, a3, a4, a5, a6, a7, a8⟩ := h
  exact ⟨by rw [h1]; exact a1, by rw [h1]; exact a2, by rw [h2]; exact a3, by rw [h3]; exact a4, by rw [h3]; exact a5, by rw [h5]; exact a6, by rw [h6]; exact a7, by rw [h3]; exact a8⟩
theorem CP_4 {V : v_V} {t z : Nat} {τ : Nat → Int} {p : Nat} {ln x : Int} {st : List Int} {g : Nat → Int} {i : Nat} (ht : 193 ≤ t) (h : CP V t z τ p ln st g) : CP (v_up V (t + 4) i x) t z τ p ln st g :=
  CP_r h (v_up_ne (by omega)) (v_up_ne (by omega)) (v_up_ne (by omega)) (v_up_ne (by omega)) (v_up_ne (by omega))
theorem encAc_len {x : p_Ac} {τ : Nat → Int} {z p q : Nat} (hp : p ≤ z) (h : pA τ z p = (some x, q)) : (encAc [x]).length + p ≤ q := by
  have h0 : hr τ z p ≠ -1 → p < z := hr_le
  have h1 := pT_le τ z p hp
  have h2 : hr τ z (pT τ z p).2 ≠ -1 → (pT τ z p).2 < z := hr_le
  unfold pA at h
  split at h
  · cases h; have := h0 (by omega); show 1 + p ≤ p + 1; omega
  split at h
  · cases h; have := h0 (by omega); show 1 + p ≤ p + 1; omega
  split at h
  · cases h; have := h0 (by omega); show 1 + p ≤ p + 1; omega
  split at h
  · rename_i hc
    split at h
    · cases h
    · have h3 := pT_cell hc (by omega)
      have h5 : p + 2 ≤ (pT τ z p).2 := by
        by_cases hd : 48 ≤ hr τ z (p + 1) ∧ hr τ z (p + 1) ≤ 51
        · rw [pT_c1 hc hd]
          exact Nat.le_refl _
        · rw [pT_c0 hc hd] at h3
          exact absurd h3.1 (by simp)
      split at h
      · have h4 := h2 (by omega)
        split at h
        · rename_i l1 q1 ee
          have kk := pM_ok _ _ _ _ _ _ (by omega) (Or.inl rfl) (fun t ht => by cases ht) ee
          cases h
          have k3 := kk.2.2 l1 rfl
          have k4 := k3.1
          simp only [List.length_nil] at k4
          unfold encAc
          rw [if_neg (by omega)]
          unfold encAc
          simp only [List.append_nil, List.length_cons]
          omega
        · cases h
      · cases h
  · cases h
section
variable {X : Nat → List Int32} {u w : Nat} {S : m_H} {V : v_V} {K : v_K}
set_option maxRecDepth 100000 in
set_option maxHeartbeats 4000000 in
theorem cr_act (hC : ClF S) {t z : Nat} {τ : Nat → Int} {ln : Int} {st0 : List Int} {g0 : Nat → Int} (hR : RdS S t) (hX : TxS S t) (ht : 193 ≤ t) (hT : Tp τ 0 z) (hln : 1 ≤ ln ∧ ln ≤ 8) (hg0 : ∀ c, c < 8 → 0 ≤ g0 c ∧ g0 c ≤ 10) {p : Nat} (hp : p ≤ z) (hl : st0.length ≤ p) (h : CP V t z τ p ln st0 g0) (k1 : ∀ x q V', pA τ z p = (some x, q) → CP V' t z τ q ln (st0 ++ encAc [x]) (mkA (ln - 1) g0 [x]) → CF t V V' → K u w (some (iv 1)) S V') (k2 : ∀ q V' st' g', (pA τ z p = (none, q) ∨ ∃ x, pA τ z p = (some x, q) ∧ pmq τ z q) → CP V' t z τ q ln st' g' → CF t V V' → K u w (some (iv 0)) S V') : y_R X 5 25 u w [.ref 115] S V K := by
  have hz := hT.2.1
  have hq0 := hr_rg hT p
  refine y_ent (lv' := [(0, .ref 115)]) (Nat.le_of_ble_eq_true rfl) rfl ?_
  refine y_ld (x := .ref 115) rfl rfl (fun d => rfl) ?_
  refine y_bi rfl rfl (by decide) ?_
  refine y_cV (as := [.ref 115, iv 112]) rfl rfl rfl rfl rfl hR ⟨rfl, (Nat.le_of_ble_eq_true rfl), (Nat.le_of_ble_eq_true rfl)⟩ (by decide) (cr_takes hC hR hX ht hT (by decide) h (by omega) (fun q2 V1 h1 f1 => ?_) (fun q3 => ?_))
  · have pl4 := hr_le (τ := τ) (z := z) (p := p) (by omega)
    refine y_nv ?_
    refine y_zeq rfl rfl rfl (by decide) (fun g1 => absurd g1 (by decide)) (fun g1 => ?_)
    refine y_bi rfl rfl (by decide) ?_
    refine y_go rfl rfl ?_
    refine y_st (lv' := [(1, iv 126), (0, .ref 115)]) rfl rfl (fun d => rfl) ?_
    refine y_ld (x := iv 126) rfl rfl (fun d => rfl) ?_
    refine y_zlt rfl rfl rfl (by decide) (fun g2 => absurd g2 (by decide)) (fun g2 => ?_)
    refine y_ld (x := .ref 115) rfl rfl (fun d => rfl) ?_
    refine y_gR (i := 3) rfl rfl rfl hR rfl ?_
    refine y_ld (x := iv 126) rfl rfl (fun d => rfl) ?_
    refine y_cV (as := [.ref t, iv 126]) rfl rfl rfl rfl rfl hX.1 ⟨rfl, (Nat.le_of_ble_eq_true rfl), (Nat.le_of_ble_eq_true rfl)⟩ (by decide) (cr_add hC hR hX ht hT h1 (by first | omega | (simp; omega)) (fun V5 h5 f5 => ?_))
    refine y_n0 ?_
    refine y_ic rfl rfl ?_
    refine y_rI rfl (by decide) ?_
    exact k1 (126, []) _ _ (by unfold pA; rw [if_pos q2]) h5 (CF_tr (CF_tr (CF_rf t V) f1) f5)
  · refine y_nv ?_
    refine y_zeq rfl rfl rfl (by decide) (fun g3 => ?_) (fun g3 => absurd g3 (by decide))
    refine y_ld (x := .ref 115) rfl rfl (fun d => rfl) ?_
    refine y_bi rfl rfl (by decide) ?_
    refine y_cV (as := [.ref 115, iv 100]) rfl rfl rfl rfl rfl hR ⟨rfl, (Nat.le_of_ble_eq_true rfl), (Nat.le_of_ble_eq_true rfl)⟩ (by decide) (cr_takes hC hR hX ht hT (by decide) h (by omega) (fun q7 V6 h6 f6 => ?_) (fun q8 => ?_))
    · have pl9 := hr_le (τ := τ) (z := z) (p := p) (by omega)
      refine y_nv ?_
      refine y_zeq rfl rfl rfl (by decide) (fun g4 => absurd g4 (by decide)) (fun g4 => ?_)
      refine y_bi rfl rfl (by decide) ?_
      refine y_go rfl rfl ?_
      refine y_st (lv' := [(1, iv 127), (0, .ref 115)]) rfl rfl (fun d => rfl) ?_
      refine y_ld (x := iv 127) rfl rfl (fun d => rfl) ?_
      refine y_zlt rfl rfl rfl (by decide) (fun g5 => absurd g5 (by decide)) (fun g5 => ?_)
      refine y_ld (x := .ref 115) rfl rfl (fun d => rfl) ?_
      refine y_gR (i := 3) rfl rfl rfl hR rfl ?_
      refine y_ld (x := iv 127) rfl rfl (fun d => rfl) ?_
      refine y_cV (as := [.ref t, iv 127]) rfl rfl rfl rfl rfl hX.1 ⟨rfl, (Nat.le_of_ble_eq_true rfl), (Nat.le_of_ble_eq_true rfl)⟩ (by decide) (cr_add hC hR hX ht hT h6 (by first | omega | (simp; omega)) (fun V10 h10 f10 => ?_))
      refine y_n0 ?_
      refine y_ic rfl rfl ?_
      refine y_rI rfl (by decide) ?_
      exact k1 (127, []) _ _ (by unfold pA; rw [if_neg q3, if_pos q7]) h10 (CF_tr (CF_tr (CF_rf t V) f6) f10)
    · refine y_nv ?_
      refine y_zeq rfl rfl rfl (by decide) (fun g6 => ?_) (fun g6 => absurd g6 (by decide))
      refine y_ld (x := .ref 115) rfl rfl (fun d => rfl) ?_
      refine y_bi rfl rfl (by decide) ?_
      refine y_cV (as := [.ref 115, iv 98]) rfl rfl rfl rfl rfl hR ⟨rfl, (Nat.le_of_ble_eq_true rfl), (Nat.le_of_ble_eq_true rfl)⟩ (by decide) (cr_takes hC hR hX ht hT (by decide) h (by omega) (fun q12 V11 h11 f11 => ?_) (fun q13 => ?_))
      · have pl14 := hr_le (τ := τ) (z := z) (p := p) (by omega)
        refine y_nv ?_
        refine y_zeq rfl rfl rfl (by decide) (fun g7 => absurd g7 (by decide)) (fun g7 => ?_)
        refine y_si rfl rfl (by decide) ?_
        refine y_go rfl rfl ?_
        refine y_st (lv' := [(1, iv 128), (0, .ref 115)]) rfl rfl (fun d => rfl) ?_
        refine y_ld (x := iv 128) rfl rfl (fun d => rfl) ?_
        refine y_zlt rfl rfl rfl (by decide) (fun g8 => absurd g8 (by decide)) (fun g8 => ?_)
        refine y_ld (x := .ref 115) rfl rfl (fun d => rfl) ?_
        refine y_gR (i := 3) rfl rfl rfl hR rfl ?_
        refine y_ld (x := iv 128) rfl rfl (fun d => rfl) ?_
        refine y_cV (as := [.ref t, iv 128]) rfl rfl rfl rfl rfl hX.1 ⟨rfl, (Nat.le_of_ble_eq_true rfl), (Nat.le_of_ble_eq_true rfl)⟩ (by decide) (cr_add hC hR hX ht hT h11 (by first | omega | (simp; omega)) (fun V15 h15 f15 => ?_))
        refine y_n0 ?_
        refine y_ic rfl rfl ?_
        refine y_rI rfl (by decide) ?_
        exact k1 (128, []) _ _ (by unfold pA; rw [if_neg q3, if_neg q8, if_pos q12]) h15 (CF_tr (CF_tr (CF_rf t V) f11) f15)
      · refine y_nv ?_
        refine y_zeq rfl rfl rfl (by decide) (fun g9 => ?_) (fun g9 => absurd g9 (by decide))
        refine y_ic rfl rfl ?_
        refine y_st (lv' := [(1, iv (-1)), (0, .ref 115)]) rfl rfl (fun d => rfl) ?_
        refine y_ld (x := iv (-1)) rfl rfl (fun d => rfl) ?_
        refine y_zlt rfl rfl rfl (by decide) (fun g10 => ?_) (fun g10 => absurd g10 (by decide))
        refine y_ld (x := .ref 115) rfl rfl (fun d => rfl) ?_
        refine y_cV (as := [.ref 115]) rfl rfl rfl rfl rfl hR ⟨rfl, (Nat.le_of_ble_eq_true rfl), (Nat.le_of_ble_eq_true rfl)⟩ (by decide) (cr_next hC hR hX ht hT h (by omega) ?_)
        have hq60 := hr_rg hT (p)
        refine y_nv ?_
        refine y_bi rfl rfl (by decide) ?_
        refine y_jeq rfl rfl rfl (by omega) (fun g11 => ?_) (fun g11 => ?_)
        · refine y_ld (x := .ref 115) rfl rfl (fun d => rfl) ?_
          refine y_cV (as := [.ref 115]) rfl rfl rfl rfl rfl hR ⟨rfl, (Nat.le_of_ble_eq_true rfl), (Nat.le_of_ble_eq_true rfl)⟩ (by decide) (cr_term hC hR hX ht hT h (by omega) (fun V16 h16 f16 => ?_))
          have pl17 := pT_le τ z p (by omega)
          have cd18 := pT_cd τ z p
          have rg19 : -1 ≤ (pT τ z p).1 ∧ (pT τ z p).1 ≤ 115 := pT_rg τ z p
          refine y_nv ?_
          refine y_st (lv' := [(2, iv ((pT τ z p).1)), (1, iv (-1)), (0, .ref 115)]) rfl rfl (fun d => rfl) ?_
          refine y_ld (x := iv ((pT τ z p).1)) rfl rfl (fun d => rfl) ?_
          refine y_zlt rfl rfl rfl (by omega) (fun g12 => ?_) (fun g12 => ?_)
          · refine y_ic rfl rfl ?_
            refine y_rI rfl (by decide) ?_
            exact k2 _ _ _ _ (Or.inl (by unfold pA; rw [if_neg q3, if_neg q8, if_neg q13, if_pos (by omega), if_pos (by omega)])) h16 (CF_tr (CF_rf t V) f16)
          · refine y_ld (x := .ref 115) rfl rfl (fun d => rfl) ?_
            refine y_bi rfl rfl (by decide) ?_
            refine y_cV (as := [.ref 115, iv 61]) rfl rfl rfl rfl rfl hR ⟨rfl, (Nat.le_of_ble_eq_true rfl), (Nat.le_of_ble_eq_true rfl)⟩ (by decide) (cr_takes hC hR hX ht hT (by decide) h16 (by omega) (fun q21 V20 h20 f20 => ?_) (fun q22 => ?_))
            · have pl23 := hr_le (τ := τ) (z := z) (p := (pT τ z p).2) (by omega)
              refine y_nv ?_
              refine y_zne rfl rfl rfl (by decide) (fun g13 => ?_) (fun g13 => absurd g13 (by decide))
              refine y_ld (x := .ref 115) rfl rfl (fun d => rfl) ?_
              refine y_gR (i := 3) rfl rfl rfl hR rfl ?_
              refine y_ld (x := iv ((pT τ z p).1)) rfl rfl (fun d => rfl) ?_
              refine y_cV (as := [.ref t, iv ((pT τ z p).1)]) rfl rfl rfl rfl rfl hX.1 ⟨rfl, (Nat.le_of_ble_eq_true rfl), (Nat.le_of_ble_eq_true rfl)⟩ (by decide) (cr_add hC hR hX ht hT h20 (by first | omega | (simp; omega)) (fun V24 h24 f24 => ?_))
              refine y_n0 ?_
              refine y_ld (x := .ref 115) rfl rfl (fun d => rfl) ?_
              refine y_ld (x := iv ((pT τ z p).1)) rfl rfl (fun d => rfl) ?_
              refine y_cV (as := [.ref 115, iv ((pT τ z p).1)]) rfl rfl rfl rfl rfl hR ⟨rfl, (Nat.le_of_ble_eq_true rfl), (Nat.le_of_ble_eq_true rfl)⟩ (by decide) (cr_sum hC hR hX ht hT hln hg0 (pT_cd τ z p (by omega)) (by omega) (by simp; omega) h24 (fun l25 r25 V25 x25 nb25 h25 f25 => ?_) (fun r26 V26 s26 g_26 x26 h26 f26 => ?_))
              · refine y_nv ?_
                refine y_rI rfl (by decide) ?_
                refine k1 ((pT τ z p).1, l25) _ _ (by unfold pA; rw [if_neg q3, if_neg q8, if_neg q13, if_pos (by omega), if_neg (by omega), if_pos q21, x25]) ?_ (CF_tr (CF_tr (CF_tr (CF_tr (CF_rf t V) f16) f20) f24) f25)
                have e0 : ¬ 126 ≤ (pT τ z p).1 := by omega
                have hh := h25
                rw [List.append_assoc] at hh
                unfold encAc mkA
                rw [if_neg e0, if_neg e0]
                unfold encAc mkA
                rw [List.append_nil]
                exact hh
              · refine y_nv ?_
                refine y_rI rfl (by decide) ?_
                refine k2 _ _ _ _ ?_ h26 (CF_tr (CF_tr (CF_tr (CF_tr (CF_rf t V) f16) f20) f24) f26)
                rcases x26 with e | ⟨le, e, eb⟩
                · exact Or.inl (by unfold pA; rw [if_neg q3, if_neg q8, if_neg q13, if_pos (by omega), if_neg (by omega), if_pos q21, e])
                · exact Or.inr ⟨_, (by unfold pA; rw [if_neg q3, if_neg q8, if_neg q13, if_pos (by omega), if_neg (by omega), if_pos q21, e]), eb⟩
            · refine y_nv ?_
              refine y_zne rfl rfl rfl (by decide) (fun g14 => absurd g14 (by decide)) (fun g14 => ?_)
              refine y_ic rfl rfl ?_
              refine y_rI rfl (by decide) ?_
              exact k2 _ _ _ _ (Or.inl (by unfold pA; rw [if_neg q3, if_neg q8, if_neg q13, if_pos (by omega), if_neg (by omega), if_neg q22])) h16 (CF_tr (CF_rf t V) f16)
        · refine y_ld (x := .ref 115) rfl rfl (fun d => rfl) ?_
          refine y_cV (as := [.ref 115]) rfl rfl rfl rfl rfl hR ⟨rfl, (Nat.le_of_ble_eq_true rfl), (Nat.le_of_ble_eq_true rfl)⟩ (by decide) (cr_next hC hR hX ht hT h (by omega) ?_)
          have hq69 := hr_rg hT (p)
          refine y_nv ?_
          refine y_bi rfl rfl (by decide) ?_
          refine y_jeq rfl rfl rfl (by omega) (fun g15 => ?_) (fun g15 => ?_)
          · refine y_ld (x := .ref 115) rfl rfl (fun d => rfl) ?_
            refine y_cV (as := [.ref 115]) rfl rfl rfl rfl rfl hR ⟨rfl, (Nat.le_of_ble_eq_true rfl), (Nat.le_of_ble_eq_true rfl)⟩ (by decide) (cr_term hC hR hX ht hT h (by omega) (fun V27 h27 f27 => ?_))
            have pl28 := pT_le τ z p (by omega)
            have cd29 := pT_cd τ z p
            have rg30 : -1 ≤ (pT τ z p).1 ∧ (pT τ z p).1 ≤ 115 := pT_rg τ z p
            refine y_nv ?_
            refine y_st (lv' := [(2, iv ((pT τ z p).1)), (1, iv (-1)), (0, .ref 115)]) rfl rfl (fun d => rfl) ?_
            refine y_ld (x := iv ((pT τ z p).1)) rfl rfl (fun d => rfl) ?_
            refine y_zlt rfl rfl rfl (by omega) (fun g16 => ?_) (fun g16 => ?_)
            · refine y_ic rfl rfl ?_
              refine y_rI rfl (by decide) ?_
              exact k2 _ _ _ _ (Or.inl (by unfold pA; rw [if_neg q3, if_neg q8, if_neg q13, if_pos (by omega), if_pos (by omega)])) h27 (CF_tr (CF_rf t V) f27)
            · refine y_ld (x := .ref 115) rfl rfl (fun d => rfl) ?_
              refine y_bi rfl rfl (by decide) ?_
              refine y_cV (as := [.ref 115, iv 61]) rfl rfl rfl rfl rfl hR ⟨rfl, (Nat.le_of_ble_eq_true rfl), (Nat.le_of_ble_eq_true rfl)⟩ (by decide) (cr_takes hC hR hX ht hT (by decide) h27 (by omega) (fun q32 V31 h31 f31 => ?_) (fun q33 => ?_))
              · have pl34 := hr_le (τ := τ) (z := z) (p := (pT τ z p).2) (by omega)
                refine y_nv ?_
                refine y_zne rfl rfl rfl (by decide) (fun g17 => ?_) (fun g17 => absurd g17 (by decide))
                refine y_ld (x := .ref 115) rfl rfl (fun d => rfl) ?_
                refine y_gR (i := 3) rfl rfl rfl hR rfl ?_
                refine y_ld (x := iv ((pT τ z p).1)) rfl rfl (fun d => rfl) ?_
                refine y_cV (as := [.ref t, iv ((pT τ z p).1)]) rfl rfl rfl rfl rfl hX.1 ⟨rfl, (Nat.le_of_ble_eq_true rfl), (Nat.le_of_ble_eq_true rfl)⟩ (by decide) (cr_add hC hR hX ht hT h31 (by first | omega | (simp; omega)) (fun V35 h35 f35 => ?_))
                refine y_n0 ?_
                refine y_ld (x := .ref 115) rfl rfl (fun d => rfl) ?_
                refine y_ld (x := iv ((pT τ z p).1)) rfl rfl (fun d => rfl) ?_
                refine y_cV (as := [.ref 115, iv ((pT τ z p).1)]) rfl rfl rfl rfl rfl hR ⟨rfl, (Nat.le_of_ble_eq_true rfl), (Nat.le_of_ble_eq_true rfl)⟩ (by decide) (cr_sum hC hR hX ht hT hln hg0 (pT_cd τ z p (by omega)) (by omega) (by simp; omega) h35 (fun l36 r36 V36 x36 nb36 h36 f36 => ?_) (fun r37 V37 s37 g_37 x37 h37 f37 => ?_))
                · refine y_nv ?_
                  refine y_rI rfl (by decide) ?_
                  refine k1 ((pT τ z p).1, l36) _ _ (by unfold pA; rw [if_neg q3, if_neg q8, if_neg q13, if_pos (by omega), if_neg (by omega), if_pos q32, x36]) ?_ (CF_tr (CF_tr (CF_tr (CF_tr (CF_rf t V) f27) f31) f35) f36)
                  have e0 : ¬ 126 ≤ (pT τ z p).1 := by omega
                  have hh := h36
                  rw [List.append_assoc] at hh
                  unfold encAc mkA
                  rw [if_neg e0, if_neg e0]
                  unfold encAc mkA
                  rw [List.append_nil]
                  exact hh
                · refine y_nv ?_
                  refine y_rI rfl (by decide) ?_
                  refine k2 _ _ _ _ ?_ h37 (CF_tr (CF_tr (CF_tr (CF_tr (CF_rf t V) f27) f31) f35) f37)
                  rcases x37 with e | ⟨le, e, eb⟩
                  · exact Or.inl (by unfold pA; rw [if_neg q3, if_neg q8, if_neg q13, if_pos (by omega), if_neg (by omega), if_pos q32, e])
                  · exact Or.inr ⟨_, (by unfold pA; rw [if_neg q3, if_neg q8, if_neg q13, if_pos (by omega), if_neg (by omega), if_pos q32, e]), eb⟩
              · refine y_nv ?_
                refine y_zne rfl rfl rfl (by decide) (fun g18 => absurd g18 (by decide)) (fun g18 => ?_)
                refine y_ic rfl rfl ?_
                refine y_rI rfl (by decide) ?_
                exact k2 _ _ _ _ (Or.inl (by unfold pA; rw [if_neg q3, if_neg q8, if_neg q13, if_pos (by omega), if_neg (by omega), if_neg q33])) h27 (CF_tr (CF_rf t V) f27)
          · refine y_ld (x := .ref 115) rfl rfl (fun d => rfl) ?_
            refine y_cV (as := [.ref 115]) rfl rfl rfl rfl rfl hR ⟨rfl, (Nat.le_of_ble_eq_true rfl), (Nat.le_of_ble_eq_true rfl)⟩ (by decide) (cr_next hC hR hX ht hT h (by omega) ?_)
            have hq78 := hr_rg hT (p)
            refine y_nv ?_
            refine y_bi rfl rfl (by decide) ?_
            refine y_jeq rfl rfl rfl (by omega) (fun g19 => ?_) (fun g19 => ?_)
            · refine y_ld (x := .ref 115) rfl rfl (fun d => rfl) ?_
              refine y_cV (as := [.ref 115]) rfl rfl rfl rfl rfl hR ⟨rfl, (Nat.le_of_ble_eq_true rfl), (Nat.le_of_ble_eq_true rfl)⟩ (by decide) (cr_term hC hR hX ht hT h (by omega) (fun V38 h38 f38 => ?_))
              have pl39 := pT_le τ z p (by omega)
              have cd40 := pT_cd τ z p
              have rg41 : -1 ≤ (pT τ z p).1 ∧ (pT τ z p).1 ≤ 115 := pT_rg τ z p
              refine y_nv ?_
              refine y_st (lv' := [(2, iv ((pT τ z p).1)), (1, iv (-1)), (0, .ref 115)]) rfl rfl (fun d => rfl) ?_
              refine y_ld (x := iv ((pT τ z p).1)) rfl rfl (fun d => rfl) ?_
              refine y_zlt rfl rfl rfl (by omega) (fun g20 => ?_) (fun g20 => ?_)
              · refine y_ic rfl rfl ?_
                refine y_rI rfl (by decide) ?_
                exact k2 _ _ _ _ (Or.inl (by unfold pA; rw [if_neg q3, if_neg q8, if_neg q13, if_pos (by omega), if_pos (by omega)])) h38 (CF_tr (CF_rf t V) f38)
              · refine y_ld (x := .ref 115) rfl rfl (fun d => rfl) ?_
                refine y_bi rfl rfl (by decide) ?_
                refine y_cV (as := [.ref 115, iv 61]) rfl rfl rfl rfl rfl hR ⟨rfl, (Nat.le_of_ble_eq_true rfl), (Nat.le_of_ble_eq_true rfl)⟩ (by decide) (cr_takes hC hR hX ht hT (by decide) h38 (by omega) (fun q43 V42 h42 f42 => ?_) (fun q44 => ?_))
                · have pl45 := hr_le (τ := τ) (z := z) (p := (pT τ z p).2) (by omega)
                  refine y_nv ?_
                  refine y_zne rfl rfl rfl (by decide) (fun g21 => ?_) (fun g21 => absurd g21 (by decide))
                  refine y_ld (x := .ref 115) rfl rfl (fun d => rfl) ?_
                  refine y_gR (i := 3) rfl rfl rfl hR rfl ?_
                  refine y_ld (x := iv ((pT τ z p).1)) rfl rfl (fun d => rfl) ?_
                  refine y_cV (as := [.ref t, iv ((pT τ z p).1)]) rfl rfl rfl rfl rfl hX.1 ⟨rfl, (Nat.le_of_ble_eq_true rfl), (Nat.le_of_ble_eq_true rfl)⟩ (by decide) (cr_add hC hR hX ht hT h42 (by first | omega | (simp; omega)) (fun V46 h46 f46 => ?_))
                  refine y_n0 ?_
                  refine y_ld (x := .ref 115) rfl rfl (fun d => rfl) ?_
                  refine y_ld (x := iv ((pT τ z p).1)) rfl rfl (fun d => rfl) ?_
                  refine y_cV (as := [.ref 115, iv ((pT τ z p).1)]) rfl rfl rfl rfl rfl hR ⟨rfl, (Nat.le_of_ble_eq_true rfl), (Nat.le_of_ble_eq_true rfl)⟩ (by decide) (cr_sum hC hR hX ht hT hln hg0 (pT_cd τ z p (by omega)) (by omega) (by simp; omega) h46 (fun l47 r47 V47 x47 nb47 h47 f47 => ?_) (fun r48 V48 s48 g_48 x48 h48 f48 => ?_))
                  · refine y_nv ?_
                    refine y_rI rfl (by decide) ?_
                    refine k1 ((pT τ z p).1, l47) _ _ (by unfold pA; rw [if_neg q3, if_neg q8, if_neg q13, if_pos (by omega), if_neg (by omega), if_pos q43, x47]) ?_ (CF_tr (CF_tr (CF_tr (CF_tr (CF_rf t V) f38) f42) f46) f47)
                    have e0 : ¬ 126 ≤ (pT τ z p).1 := by omega
                    have hh := h47
                    rw [List.append_assoc] at hh
                    unfold encAc mkA
                    rw [if_neg e0, if_neg e0]
                    unfold encAc mkA
                    rw [List.append_nil]
                    exact hh
                  · refine y_nv ?_
                    refine y_rI rfl (by decide) ?_
                    refine k2 _ _ _ _ ?_ h48 (CF_tr (CF_tr (CF_tr (CF_tr (CF_rf t V) f38) f42) f46) f48)
                    rcases x48 with e | ⟨le, e, eb⟩
                    · exact Or.inl (by unfold pA; rw [if_neg q3, if_neg q8, if_neg q13, if_pos (by omega), if_neg (by omega), if_pos q43, e])
                    · exact Or.inr ⟨_, (by unfold pA; rw [if_neg q3, if_neg q8, if_neg q13, if_pos (by omega), if_neg (by omega), if_pos q43, e]), eb⟩
                · refine y_nv ?_
                  refine y_zne rfl rfl rfl (by decide) (fun g22 => absurd g22 (by decide)) (fun g22 => ?_)
                  refine y_ic rfl rfl ?_
                  refine y_rI rfl (by decide) ?_
                  exact k2 _ _ _ _ (Or.inl (by unfold pA; rw [if_neg q3, if_neg q8, if_neg q13, if_pos (by omega), if_neg (by omega), if_neg q44])) h38 (CF_tr (CF_rf t V) f38)
            · refine y_ic rfl rfl ?_
              refine y_rI rfl (by decide) ?_
              exact k2 _ _ _ _ (Or.inl (by unfold pA; rw [if_neg q3, if_neg q8, if_neg q13, if_neg (by omega)])) h (CF_rf t V)
theorem pAs_s {τ : Nat → Int} {z k p : Nat} {acc : List p_Ac} : pAs τ z (k + 1) p acc = (match pA τ z p with
    | (some a, q) => if k ≠ 0 ∧ hr τ z q = 44 then pAs τ z k (q + 1) (acc ++ [a]) else (some (acc ++ [a]), q)
    | (none, q) => (none, q)) := rfl
set_option maxRecDepth 100000 in
set_option maxHeartbeats 4000000 in
theorem lp_racts (hC : ClF S) {t z : Nat} {τ : Nat → Int} {ln : Int} {st0 : List Int} {g0 : Nat → Int} (hR : RdS S t) (hX : TxS S t) (ht : 193 ≤ t) (hT : Tp τ 0 z) (hln : 1 ≤ ln ∧ ln ≤ 8) (hg0 : ∀ c, c < 8 → 0 ≤ g0 c ∧ g0 c ≤ 10) {lnn : Nat} (hlnn : lnn < 8) : ∀ (m n : Nat) (V : v_V) (K : v_K) (u w p : Nat) (acc : List p_Ac), n + m = 5 → 1 ≤ m → acc.length = n → p ≤ z → st0.length + (encAc acc).length ≤ p → acO acc → CP V t z τ p ln (st0 ++ encAc acc) (mkA (ln - 1) g0 acc) → (∀ l q V', pAs τ z (5 - n) p acc = (some l, q) → V' (t + 4) lnn = (l.length : Int) → CP V' t z τ q ln (st0 ++ encAc l) (mkA (ln - 1) g0 l) → CH t lnn V V' → K u w (some (iv 1)) S V') → (∀ q V' st' g', (pAs τ z (5 - n) p acc = (none, q) ∨ ∃ l, pAs τ z (5 - n) p acc = (some l, q) ∧ bdq τ z q) → CP V' t z τ q ln st' g' → CH t lnn V V' → K u w (some (iv 0)) S V') → y_E X 5 24 (100 * m) u w 2 [(0, .ref 115), (1, iv (lnn : Int)), (2, iv (n : Int))] [] S V K := by
  intro m
  induction m with
  | zero => intros; omega
  | succ m ih =>
    intro n V K u w p acc hnm hm1 hal hp hl hac h k1 k2
    have hz := hT.2.1
    refine y_mono (F' := 100 * m + 100) ?_ (by omega)
    refine y_ld (x := iv (n : Int)) rfl rfl (fun d => rfl) ?_
    refine y_ic rfl rfl ?_
    refine y_jge rfl rfl rfl (by omega) (fun g1 => absurd g1 (by omega)) (fun g1 => ?_)
    refine y_ld (x := .ref 115) rfl rfl (fun d => rfl) ?_
    refine y_cV (as := [.ref 115]) rfl rfl rfl rfl rfl hR ⟨rfl, (Nat.le_of_ble_eq_true rfl), (Nat.le_of_ble_eq_true rfl)⟩ (by omega) (cr_act hC hR hX ht hT hln (mkA_bd (by omega) acc g0 hac hg0) (by omega) (by simp; omega) h (fun y1 r1 V1 x1 h1 f1 => ?_) (fun r2 V2 s2 g_2 x2 h2 f2 => ?_))
    · have pa1 := pA_ok (by omega) x1
      have ppa1 := pa1.2.2 _ rfl
      have pc1 := encAc_len (by omega) x1
      refine y_nv ?_
      refine y_zne rfl rfl rfl (by decide) (fun g2 => ?_) (fun g2 => absurd g2 (by decide))
      refine y_ld (x := .ref 115) rfl rfl (fun d => rfl) ?_
      refine y_gR (i := 3) rfl rfl rfl hR rfl ?_
      refine y_gR (i := 4) rfl rfl rfl hX.1 rfl ?_
      refine y_ld (x := iv (lnn : Int)) rfl rfl (fun d => rfl) ?_
      refine y_ld (x := iv (n : Int)) rfl rfl (fun d => rfl) ?_
      refine y_ic rfl rfl ?_
      refine y_add (z := ((n + 1 : Nat) : Int)) rfl rfl (by omega) ?_
      refine y_ist (q := lnn) rfl rfl hX.2.2.2.2.1 (by omega) (by decide) (by omega) ?_
      refine y_ld (x := .ref 115) rfl rfl (fun d => rfl) ?_
      refine y_cV (as := [.ref 115]) rfl rfl rfl rfl rfl hR ⟨rfl, (Nat.le_of_ble_eq_true rfl), (Nat.le_of_ble_eq_true rfl)⟩ (by omega) (cr_next hC hR hX ht hT (CP_4 ht h1) (by omega) ?_)
      have hq29 := hr_rg hT (r1)
      refine y_nv ?_
      refine y_bi rfl rfl (by decide) ?_
      refine y_jeq rfl rfl rfl (by omega) (fun g3 => ?_) (fun g3 => ?_)
      · refine y_ld (x := iv (n : Int)) rfl rfl (fun d => rfl) ?_
        refine y_ic rfl rfl ?_
        refine y_jge rfl rfl rfl (by omega) (fun g4 => ?_) (fun g4 => ?_)
        · refine y_inc (z := ((n + 1 : Nat) : Int)) (lv' := [(2, iv ((n + 1 : Nat) : Int)), (0, .ref 115), (1, iv (lnn : Int))]) rfl rfl rfl (by omega) rfl ?_
          refine y_go rfl rfl ?_
          refine y_ld (x := iv ((n + 1 : Nat) : Int)) rfl rfl (fun d => rfl) ?_
          refine y_ic rfl rfl ?_
          refine y_jge rfl rfl rfl (by omega) (fun g5 => ?_) (fun g5 => absurd g5 (by omega))
          refine y_ic rfl rfl ?_
          refine y_rI rfl (by decide) ?_
          exact k2 _ _ _ _ (Or.inr ⟨acc ++ [y1], (by rw [show 5 - n = (5 - (n + 1)) + 1 by omega, pAs_s]; simp only [x1]; exact if_neg (by omega)), by unfold bdq; omega⟩) (CP_4 ht h1) (CH_tr (CH_tr (CH_rf t lnn V) (CH_cf ht f1)) (CH_4 ht))
        · refine y_ld (x := .ref 115) rfl rfl (fun d => rfl) ?_
          refine y_in rfl rfl (fun d => rfl) ?_
          refine y_gI (i := 2) (e := ((r1 : Nat) : Int)) rfl rfl rfl hR rfl (by rw [v_up_ne (by omega)]; exact h1.2.1) ?_
          refine y_ic rfl rfl ?_
          refine y_add (z := (((r1 : Nat) : Int) + 1)) rfl rfl rfl ?_
          refine y_pI (i := 2) rfl rfl rfl hR rfl rfl ?_
          refine y_inc (z := ((n + 1 : Nat) : Int)) (lv' := [(2, iv ((n + 1 : Nat) : Int)), (0, .ref 115), (1, iv (lnn : Int))]) rfl rfl rfl (by omega) rfl ?_
          refine y_go rfl rfl ?_
          refine y_lv (l' := [(0, .ref 115), (1, iv (lnn : Int)), (2, iv ((n + 1 : Nat) : Int))]) rfl ⟨rfl, rfl, rfl, trivial⟩ ?_
          have pl9 := hr_le (τ := τ) (z := z) (p := r1) (by omega)
          refine y_mono (ih (n + 1) _ _ _ _ (r1 + 1) (acc ++ [y1]) (by omega) (by omega) (by simp; omega) (by omega) (by rw [encAc_app, List.length_append]; omega) (acO_app hac ppa1.2) ?_ ?_ ?_) (by omega)
          · rw [encAc_app, mkA_app, ← List.append_assoc]
            exact CP_at ht (CP_4 ht h1)
          · intro lz qz V' a1 a2 a3 a4
            have eq : pAs τ z (5 - n) p acc = pAs τ z (5 - (n + 1)) (r1 + 1) (acc ++ [y1]) := (by rw [show 5 - n = (5 - (n + 1)) + 1 by omega, pAs_s]; simp only [x1]; exact if_pos ⟨by omega, by omega⟩)
            exact k1 lz qz V' (eq.trans a1) a2 a3 (CH_tr (CH_tr (CH_tr (CH_tr (CH_rf t lnn V) (CH_cf ht f1)) (CH_4 ht)) (CH_cf ht (CF_at ht))) a4)
          · intro qz V' st' g' a1 a2 a3
            have eq : pAs τ z (5 - n) p acc = pAs τ z (5 - (n + 1)) (r1 + 1) (acc ++ [y1]) := (by rw [show 5 - n = (5 - (n + 1)) + 1 by omega, pAs_s]; simp only [x1]; exact if_pos ⟨by omega, by omega⟩)
            exact k2 qz V' st' g' (by rw [eq]; exact a1) a2 (CH_tr (CH_tr (CH_tr (CH_tr (CH_rf t lnn V) (CH_cf ht f1)) (CH_4 ht)) (CH_cf ht (CF_at ht))) a3)
      · refine y_ic rfl rfl ?_
        refine y_rI rfl (by decide) ?_
        refine k1 (acc ++ [y1]) _ _ (by rw [show 5 - n = (5 - (n + 1)) + 1 by omega, pAs_s]; simp only [x1]; exact if_neg (by omega)) (by rw [v_up_eq]; simp; omega) (CP_4 ht ?_) (CH_tr (CH_tr (CH_rf t lnn V) (CH_cf ht f1)) (CH_4 ht))
        rw [encAc_app, mkA_app, ← List.append_assoc]
        exact h1
    · refine y_nv ?_
      refine y_zne rfl rfl rfl (by decide) (fun g6 => absurd g6 (by decide)) (fun g6 => ?_)
      refine y_ic rfl rfl ?_
      refine y_rI rfl (by decide) ?_
      refine k2 _ _ _ _ ?_ h2 (CH_tr (CH_rf t lnn V) (CH_cf ht f2))
      rcases x2 with e | ⟨xe, e, eb⟩
      · exact Or.inl (by rw [show 5 - n = (5 - (n + 1)) + 1 by omega, pAs_s]; simp only [e])
      · have eb2 : hr τ z r2 = 43 ∨ hr τ z r2 = 45 := eb
        rw [show 5 - n = (5 - (n + 1)) + 1 by omega, pAs_s]
        simp only [e]
        rw [if_neg (by omega)]
        exact Or.inr ⟨_, rfl, by unfold bdq; omega⟩
set_option maxRecDepth 100000 in
set_option maxHeartbeats 4000000 in
theorem cr_acts (hC : ClF S) {t z : Nat} {τ : Nat → Int} {ln : Int} {st0 : List Int} {g0 : Nat → Int} (hR : RdS S t) (hX : TxS S t) (ht : 193 ≤ t) (hT : Tp τ 0 z) (hln : 1 ≤ ln ∧ ln ≤ 8) (hg0 : ∀ c, c < 8 → 0 ≤ g0 c ∧ g0 c ≤ 10) {p lnn : Nat} (hlnn : lnn < 8) (hp : p ≤ z) (hl : st0.length ≤ p) (h : CP V t z τ p ln st0 g0) (k1 : ∀ l q V', pAs τ z 5 p [] = (some l, q) → V' (t + 4) lnn = (l.length : Int) → CP V' t z τ q ln (st0 ++ encAc l) (mkA (ln - 1) g0 l) → CH t lnn V V' → K u w (some (iv 1)) S V') (k2 : ∀ q V' st' g', (pAs τ z 5 p [] = (none, q) ∨ ∃ l, pAs τ z 5 p [] = (some l, q) ∧ bdq τ z q) → CP V' t z τ q ln st' g' → CH t lnn V V' → K u w (some (iv 0)) S V') : y_R X 6 24 u w [.ref 115, iv (lnn : Int)] S V K := by
  have hz := hT.2.1
  refine y_ent (lv' := [(0, .ref 115), (1, iv (lnn : Int))]) (Nat.le_of_ble_eq_true rfl) rfl ?_
  refine y_ic rfl rfl ?_
  refine y_st (lv' := [(2, iv 0), (0, .ref 115), (1, iv (lnn : Int))]) rfl rfl (fun d => rfl) ?_
  refine y_lv (l' := [(0, .ref 115), (1, iv (lnn : Int)), (2, iv 0)]) rfl ⟨rfl, rfl, rfl, trivial⟩ ?_
  exact y_mono (lp_racts hC hR hX ht hT hln hg0 hlnn 5 0 _ _ _ _ p [] rfl (by decide) rfl hp (by simpa [encAc] using hl) (fun x hx => by cases hx) (by simpa [encAc, mkA] using h) k1 k2) (by decide)
end
end
section
/-! LINES and a whole TEXT in the class' reader -/
def encPc : List p_Li → List Int
  | [] => []
  | x :: r => (encTc x.2.2.1 ++ encAc x.2.2.2) ++ encPc r
theorem encPc_app (x : p_Li) : ∀ l : List p_Li, encPc (l ++ [x]) = (encPc l ++ encTc x.2.2.1) ++ encAc x.2.2.2
  | [] => by simp [encPc]
  | y :: l => by
    show (encTc y.2.2.1 ++ encAc y.2.2.2) ++ encPc (l ++ [x]) = _
    rw [encPc_app x l]
    simp [encPc]
/-- the LINES' rows of a class' TEXT -/
def LN (V : v_V) (t : Nat) (l : List p_Li) : Prop := ∀ i x, m_nth l i = some x → V (t + 1) i = x.1 ∧ V (t + 2) i = ((encPc (l.take i)).length : Int) ∧ V (t + 3) i = ((encPc (l.take i)).length : Int) + (encTc x.2.2.1).length ∧ V (t + 4) i = (x.2.2.2.length : Int)
theorem LN_app {V V' : v_V} {t : Nat} {l : List p_Li} {x : p_Li} (h0 : LN V t l) (hf : ∀ i, i ≠ l.length → V' (t + 1) i = V (t + 1) i ∧ V' (t + 2) i = V (t + 2) i ∧ V' (t + 3) i = V (t + 3) i ∧ V' (t + 4) i = V (t + 4) i)
    (h1 : V' (t + 1) l.length = x.1) (h2 : V' (t + 2) l.length = ((encPc l).length : Int)) (h3 : V' (t + 3) l.length = ((encPc l).length : Int) + (encTc x.2.2.1).length) (h4 : V' (t + 4) l.length = (x.2.2.2.length : Int)) : LN V' t (l ++ [x]) := by
  intro i y hi
  rw [m_nth_app] at hi
  by_cases h : i = l.length
  · rw [if_pos h] at hi
    cases hi
    subst h
    rw [List.take_append_of_le_length (Nat.le_refl _), List.take_length]
    exact ⟨h1, h2, h3, h4⟩
  · rw [if_neg h] at hi
    have hlt := m_nth_lt hi
    obtain ⟨f1, f2, f3, f4⟩ := hf i h
    rw [f1, f2, f3, f4, List.take_append_of_le_length (by omega)]
    exact h0 i y hi
/-- a TEXT as the class has it -/
def CT (V : v_V) (t : Nat) (l : List p_Li) : Prop := V t 0 = (l.length : Int) ∧ V t 6 = ((encPc l).length : Int) ∧ (∀ i x, m_nth (encPc l) i = some x → V (t + 5) i = x) ∧ LN V t l ∧ (∀ c, c < 8 → V (t + 6) c = if 1 < mkP 0 (fun _ => 0) l c then mkP 0 (fun _ => 0) l c - 2 else -5) ∧ (0 ≤ V t 7 ∧ V t 7 < 256 ∧ ∀ c, c < 8 → V t 7 / 2 ^ c % 2 = if mkP 0 (fun _ => 0) l c = 0 then 0 else 1)
/-- what a LINE's reading leaves as it was -/
def CL (t n : Nat) (V V' : v_V) : Prop := (∀ k, k ≠ 115 → k < t ∨ t + 6 < k → V' k = V k) ∧ (∀ i, i ≠ 2 → V' 115 i = V 115 i) ∧ ∀ i, i ≠ n → V' (t + 1) i = V (t + 1) i ∧ V' (t + 2) i = V (t + 2) i ∧ V' (t + 3) i = V (t + 3) i ∧ V' (t + 4) i = V (t + 4) i
theorem CL_rf (t n : Nat) (V : v_V) : CL t n V V := ⟨fun _ _ _ => rfl, fun _ _ => rfl, fun _ _ => ⟨rfl, rfl, rfl, rfl⟩⟩
theorem CL_tr {t n : Nat} {V V' V'' : v_V} (h : CL t n V V') (h2 : CL t n V' V'') : CL t n V V'' :=
  ⟨fun k q1 q2 => (h2.1 k q1 q2).trans (h.1 k q1 q2), fun i q => (h2.2.1 i q).trans (h.2.1 i q), fun i q => ⟨(h2.2.2 i q).1.trans (h.2.2 i q).1, (h2.2.2 i q).2.1.trans (h.2.2 i q).2.1, (h2.2.2 i q).2.2.1.trans (h.2.2 i q).2.2.1, (h2.2.2 i q).2.2.2.trans (h.2.2 i q).2.2.2⟩⟩
theorem CL_cf {t n : Nat} {V V' : v_V} (ht : 193 ≤ t) (h : CF t V V') : CL t n V V' := by
  have e : ∀ k, k ≠ 115 → k ≠ t → k ≠ t + 5 → k ≠ t + 6 → V' k = V k := h.1
  refine ⟨fun k q1 q2 => e k q1 (by omega) (by omega) (by omega), h.2.1, fun i _ => ?_⟩
  rw [e (t + 1) (by omega) (by omega) (by omega) (by omega), e (t + 2) (by omega) (by omega) (by omega) (by omega), e (t + 3) (by omega) (by omega) (by omega) (by omega), e (t + 4) (by omega) (by omega) (by omega) (by omega)]
  exact ⟨rfl, rfl, rfl, rfl⟩
theorem CL_ch {t n : Nat} {V V' : v_V} (ht : 193 ≤ t) (h : CH t n V V') : CL t n V V' := by
  have e : ∀ k, k ≠ 115 → k ≠ t → k ≠ t + 4 → k ≠ t + 5 → k ≠ t + 6 → V' k = V k := h.1
  refine ⟨fun k q1 q2 => e k q1 (by omega) (by omega) (by omega) (by omega), h.2.1, fun i q => ?_⟩
  rw [e (t + 1) (by omega) (by omega) (by omega) (by omega) (by omega), e (t + 2) (by omega) (by omega) (by omega) (by omega) (by omega), e (t + 3) (by omega) (by omega) (by omega) (by omega) (by omega)]
  exact ⟨rfl, rfl, rfl, h.2.2.2 i q⟩
theorem CP_3 {V : v_V} {t z : Nat} {τ : Nat → Int} {p : Nat} {ln x : Int} {st : List Int} {g : Nat → Int} {i : Nat} (ht : 193 ≤ t) (h : CP V t z τ p ln st g) : CP (v_up V (t + 3) i x) t z τ p ln st g :=
  CP_r h (v_up_ne (by omega)) (v_up_ne (by omega)) (v_up_ne (by omega)) (v_up_ne (by omega)) (v_up_ne (by omega))
theorem CL_3 {t n : Nat} {V : v_V} {x : Int} (ht : 193 ≤ t) : CL t n V (v_up V (t + 3) n x) := by
  refine ⟨fun k q1 q2 => v_up_ne (by omega), fun i q => ?_, fun i q => ?_⟩
  · rw [v_up_ne (by omega)]
  · rw [v_up_ne (by omega), v_up_ne (by omega), v_up_ni q, v_up_ne (by omega)]
    exact ⟨rfl, rfl, rfl, rfl⟩
theorem CP_k {V : v_V} {t z : Nat} {τ : Nat → Int} {p : Nat} {ln ln' x y : Int} {st : List Int} {g : Nat → Int} {i : Nat} (ht : 193 ≤ t) (h : CP V t z τ p ln st g) : CP (v_up (v_up (v_up V t 0 ln') (t + 1) i x) (t + 2) i y) t z τ p ln' st g := by
  obtain ⟨a1, a2, a3, a4, a5, a6, a7, a8⟩ := h
  refine ⟨?_, ?_, ?_, ?_, ?_, ?_, ?_, ?_⟩
  · rw [v_up_ne (by omega), v_up_ne (by omega), v_up_ne (by omega)]; exact a1
  · rw [v_up_ne (by omega), v_up_ne (by omega), v_up_ne (by omega)]; exact a2
  · rw [v_up_ne (by omega), v_up_ne (by omega), v_up_ne (by omega)]; exact a3
  · rw [v_up_ne (by omega), v_up_ne (by omega), v_up_eq]
  · rw [v_up_ne (by omega), v_up_ne (by omega), v_up_ni (by decide)]; exact a5
  · rw [v_up_ne (by omega), v_up_ne (by omega), v_up_ne (by omega)]; exact a6
  · rw [v_up_ne (by omega), v_up_ne (by omega), v_up_ne (by omega)]; exact a7
  · rw [v_up_ne (by omega), v_up_ne (by omega), v_up_ni (by decide)]; exact a8
theorem CL_k {t n : Nat} {V : v_V} {ln x y : Int} (ht : 193 ≤ t) : CL t n V (v_up (v_up (v_up V t 0 ln) (t + 1) n x) (t + 2) n y) := by
  refine ⟨fun k q1 q2 => ?_, fun i q => ?_, fun i q => ?_⟩
  · rw [v_up_ne (by omega), v_up_ne (by omega), v_up_ne (by omega)]
  · rw [v_up_ne (by omega), v_up_ne (by omega), v_up_ne (by omega)]
  · rw [v_up_ne (by omega), v_up_ni q, v_up_ne (by omega), v_up_ni q, v_up_ne (by omega), v_up_ne (by omega), v_up_ne (by omega), v_up_ne (by omega), v_up_ne (by omega), v_up_ne (by omega), v_up_ne (by omega), v_up_ne (by omega)]
    exact ⟨rfl, rfl, rfl, rfl⟩
section
variable {X : Nat → List Int32} {u w : Nat} {S : m_H} {V : v_V} {K : v_K}
set_option maxRecDepth 100000 in
set_option maxHeartbeats 4000000 in
theorem cr_kind (hC : ClF S) {t z p : Nat} {τ : Nat → Int} {ln : Int} {st : List Int} {g : Nat → Int} (hR : RdS S t) (hX : TxS S t) (ht : 193 ≤ t) (hT : Tp τ 0 z) {n : Nat} (hn : n < 8) (h : CP V t z τ p ln st g) (hp : p ≤ z) (k1 : (hr τ z p = 42 ∨ (48 ≤ hr τ z p ∧ hr τ z p ≤ 51)) → ∀ V', CP V' t z τ (p + 1) ((n : Int) + 1) st g → CL t n V V' → V' (t + 1) n = (if hr τ z p = 42 then (4 : Int) else hr τ z p - 48) → V' (t + 2) n = (st.length : Int) → K u w (some (iv 1)) S V') (k2 : ¬ (hr τ z p = 42 ∨ (48 ≤ hr τ z p ∧ hr τ z p ≤ 51)) → K u w (some (iv 0)) S V) : y_R X 2 19 u w [.ref 115, iv (n : Int)] S V K := by
  have hz := hT.2.1
  have hq0 := hr_rg hT p
  refine y_ent (lv' := [(0, .ref 115), (1, iv (n : Int))]) (Nat.le_of_ble_eq_true rfl) rfl ?_
  refine y_ld (x := .ref 115) rfl rfl (fun d => rfl) ?_
  refine y_bi rfl rfl (by decide) ?_
  refine y_cV (as := [.ref 115, iv 42]) rfl rfl rfl rfl rfl hR ⟨rfl, (Nat.le_of_ble_eq_true rfl), (Nat.le_of_ble_eq_true rfl)⟩ (by decide) (cr_takes hC hR hX ht hT (by decide) h (by omega) (fun q2 V1 h1 f1 => ?_) (fun q3 => ?_))
  · have pl4 := hr_le (τ := τ) (z := z) (p := p) (by omega)
    refine y_nv ?_
    refine y_zeq rfl rfl rfl (by decide) (fun g1 => absurd g1 (by decide)) (fun g1 => ?_)
    refine y_ic rfl rfl ?_
    refine y_go rfl rfl ?_
    refine y_st (lv' := [(2, iv 4), (0, .ref 115), (1, iv (n : Int))]) rfl rfl (fun d => rfl) ?_
    refine y_ld (x := iv 4) rfl rfl (fun d => rfl) ?_
    refine y_zge rfl rfl rfl (by decide) (fun g2 => ?_) (fun g2 => absurd g2 (by decide))
    refine y_ld (x := .ref 115) rfl rfl (fun d => rfl) ?_
    refine y_gR (i := 3) rfl rfl rfl hR rfl ?_
    refine y_ld (x := iv (n : Int)) rfl rfl (fun d => rfl) ?_
    refine y_ic rfl rfl ?_
    refine y_add (z := ((n : Int) + 1)) rfl rfl rfl ?_
    refine y_pI (i := 0) rfl rfl rfl hX.1 rfl rfl ?_
    refine y_ld (x := .ref 115) rfl rfl (fun d => rfl) ?_
    refine y_gR (i := 3) rfl rfl rfl hR rfl ?_
    refine y_gR (i := 1) rfl rfl rfl hX.1 rfl ?_
    refine y_ld (x := iv (n : Int)) rfl rfl (fun d => rfl) ?_
    refine y_ld (x := iv 4) rfl rfl (fun d => rfl) ?_
    refine y_ist (q := n) rfl rfl hX.2.1 (by omega) (by decide) (by omega) ?_
    refine y_ld (x := .ref 115) rfl rfl (fun d => rfl) ?_
    refine y_gR (i := 3) rfl rfl rfl hR rfl ?_
    refine y_gR (i := 2) rfl rfl rfl hX.1 rfl ?_
    refine y_ld (x := iv (n : Int)) rfl rfl (fun d => rfl) ?_
    refine y_ld (x := .ref 115) rfl rfl (fun d => rfl) ?_
    refine y_gR (i := 3) rfl rfl rfl hR rfl ?_
    refine y_gI (i := 6) (e := ((st).length : Int)) rfl rfl rfl hX.1 rfl (by rw [v_up_ne (by omega), v_up_ni (by omega)]; exact h1.2.2.2.2.1) ?_
    refine y_ist (q := n) rfl rfl hX.2.2.1 (by omega) (by decide) (by omega) ?_
    refine y_ic rfl rfl ?_
    refine y_rI rfl (by decide) ?_
    have ek : (if hr τ z p = 42 then (4 : Int) else hr τ z p - 48) = 4 := if_pos (by omega)
    refine k1 (by omega) _ (CP_k ht h1) (CL_tr (CL_cf ht (CF_tr (CF_rf t V) f1)) (CL_k ht)) ?_ ?_
    · rw [ek, v_up_ne (by omega), v_up_eq]
    · rw [v_up_eq]
  · refine y_nv ?_
    refine y_zeq rfl rfl rfl (by decide) (fun g3 => ?_) (fun g3 => absurd g3 (by decide))
    refine y_ld (x := .ref 115) rfl rfl (fun d => rfl) ?_
    refine y_ic rfl rfl ?_
    refine y_cV (as := [.ref 115, iv 3]) rfl rfl rfl rfl rfl hR ⟨rfl, (Nat.le_of_ble_eq_true rfl), (Nat.le_of_ble_eq_true rfl)⟩ (by decide) (cr_digit hC hR hX ht hT (by decide) h (by omega) (fun q6 V5 h5 f5 => ?_) (fun q7 => ?_))
    · have pl8 := hr_le (τ := τ) (z := z) (p := p) (by omega)
      refine y_nv ?_
      refine y_st (lv' := [(2, iv (hr τ z p - 48)), (0, .ref 115), (1, iv (n : Int))]) rfl rfl (fun d => rfl) ?_
      refine y_ld (x := iv (hr τ z p - 48)) rfl rfl (fun d => rfl) ?_
      refine y_zge rfl rfl rfl (by omega) (fun g4 => ?_) (fun g4 => absurd g4 (by omega))
      refine y_ld (x := .ref 115) rfl rfl (fun d => rfl) ?_
      refine y_gR (i := 3) rfl rfl rfl hR rfl ?_
      refine y_ld (x := iv (n : Int)) rfl rfl (fun d => rfl) ?_
      refine y_ic rfl rfl ?_
      refine y_add (z := ((n : Int) + 1)) rfl rfl rfl ?_
      refine y_pI (i := 0) rfl rfl rfl hX.1 rfl rfl ?_
      refine y_ld (x := .ref 115) rfl rfl (fun d => rfl) ?_
      refine y_gR (i := 3) rfl rfl rfl hR rfl ?_
      refine y_gR (i := 1) rfl rfl rfl hX.1 rfl ?_
      refine y_ld (x := iv (n : Int)) rfl rfl (fun d => rfl) ?_
      refine y_ld (x := iv (hr τ z p - 48)) rfl rfl (fun d => rfl) ?_
      refine y_ist (q := n) rfl rfl hX.2.1 (by omega) (by decide) (by omega) ?_
      refine y_ld (x := .ref 115) rfl rfl (fun d => rfl) ?_
      refine y_gR (i := 3) rfl rfl rfl hR rfl ?_
      refine y_gR (i := 2) rfl rfl rfl hX.1 rfl ?_
      refine y_ld (x := iv (n : Int)) rfl rfl (fun d => rfl) ?_
      refine y_ld (x := .ref 115) rfl rfl (fun d => rfl) ?_
      refine y_gR (i := 3) rfl rfl rfl hR rfl ?_
      refine y_gI (i := 6) (e := ((st).length : Int)) rfl rfl rfl hX.1 rfl (by rw [v_up_ne (by omega), v_up_ni (by omega)]; exact h5.2.2.2.2.1) ?_
      refine y_ist (q := n) rfl rfl hX.2.2.1 (by omega) (by decide) (by omega) ?_
      refine y_ic rfl rfl ?_
      refine y_rI rfl (by decide) ?_
      have ek : (if hr τ z p = 42 then (4 : Int) else hr τ z p - 48) = hr τ z p - 48 := if_neg (by omega)
      refine k1 (by omega) _ (CP_k ht h5) (CL_tr (CL_cf ht (CF_tr (CF_rf t V) f5)) (CL_k ht)) ?_ ?_
      · rw [ek, v_up_ne (by omega), v_up_eq]
      · rw [v_up_eq]
    · refine y_nv ?_
      refine y_st (lv' := [(2, iv (-1)), (0, .ref 115), (1, iv (n : Int))]) rfl rfl (fun d => rfl) ?_
      refine y_ld (x := iv (-1)) rfl rfl (fun d => rfl) ?_
      refine y_zge rfl rfl rfl (by decide) (fun g5 => absurd g5 (by decide)) (fun g5 => ?_)
      refine y_ic rfl rfl ?_
      refine y_rI rfl (by decide) ?_
      exact k2 (by omega)
end
end
section
theorem pAs_c {τ : Nat → Int} {z : Nat} : ∀ (k p : Nat) (acc l : List p_Ac) (q : Nat), p ≤ z → pAs τ z k p acc = (some l, q) → (encAc l).length + p ≤ (encAc acc).length + q
  | 0, p, acc, l, q, hp, h => by
    unfold pAs at h
    cases h
    omega
  | k + 1, p, acc, l, q, hp, h => by
    rw [pAs_s] at h
    split at h
    · rename_i x q1 ee
      have k1 := pA_ok hp ee
      have k2 := encAc_len hp ee
      have h0 : hr τ z q1 ≠ -1 → q1 < z := hr_le
      split at h
      · have := h0 (by omega)
        have kk := pAs_c k (q1 + 1) (acc ++ [x]) l q (by omega) h
        rw [encAc_app, List.length_append] at kk
        omega
      · cases h
        rw [encAc_app, List.length_append]
        omega
    · cases h
/-- what a reading leaves as it was -/
def CX (t : Nat) (V V' : v_V) : Prop := (∀ k, k ≠ 115 → k < t ∨ t + 6 < k → V' k = V k) ∧ ∀ i, i ≠ 2 → V' 115 i = V 115 i
theorem CX_tr {t : Nat} {V V' V'' : v_V} (h : CX t V V') (h2 : CX t V' V'') : CX t V V'' :=
  ⟨fun k q1 q2 => (h2.1 k q1 q2).trans (h.1 k q1 q2), fun i q => (h2.2 i q).trans (h.2 i q)⟩
theorem CX_cl {t n : Nat} {V V' : v_V} (h : CL t n V V') : CX t V V' := ⟨h.1, h.2.1⟩
theorem LN_mv {V V' : v_V} {t : Nat} {l : List p_Li} (ht : 193 ≤ t) (h : CF t V V') (hl : LN V t l) : LN V' t l := by
  intro i x hi
  have e : ∀ k, k ≠ 115 → k ≠ t → k ≠ t + 5 → k ≠ t + 6 → V' k = V k := h.1
  rw [e (t + 1) (by omega) (by omega) (by omega) (by omega), e (t + 2) (by omega) (by omega) (by omega) (by omega), e (t + 3) (by omega) (by omega) (by omega) (by omega), e (t + 4) (by omega) (by omega) (by omega) (by omega)]
  exact hl i x hi
theorem pL_c {τ : Nat → Int} {z p q : Nat} {x : p_Li} (hp : p ≤ z) (hz : z ≤ 160) (h : pL τ z p = (some x, q)) : (encTc x.2.2.1).length + (encAc x.2.2.2).length + p ≤ q := by
  have h0 : hr τ z p ≠ -1 → p < z := hr_le
  unfold pL at h
  split at h
  · have := h0 (by omega)
    split at h
    · rename_i e q1 e1
      have k := pE_ok (by omega) hz e1
      have kc : (encTc e.2).length + (p + 1) ≤ q1 := by
        unfold pE at e1
        have h3 : hr τ z (p + 1) ≠ -1 → p + 1 < z := hr_le
        split at e1
        · have := h3 (by omega)
          split at e1
          · rename_i l1 q2 e2
            have c := pX_c _ _ _ _ _ _ _ (by decide) (by omega) e2
            simp only [encTc, List.length_nil] at c
            split at e1
            · cases e1
              show (encTc l1).length + (p + 1) ≤ q2 + 1
              omega
            · cases e1
          · cases e1
        · cases e1
          show 0 + (p + 1) ≤ p + 1
          omega
      have h2 : hr τ z q1 ≠ -1 → q1 < z := hr_le
      split at h
      · have := h2 (by omega)
        split at h
        · rename_i l q2 e2
          have c := pAs_c _ _ _ _ _ (by omega) e2
          simp only [encAc, List.length_nil] at c
          cases h
          show (encTc e.2).length + (encAc l).length + p ≤ q
          omega
        · cases h
      · cases h
    · cases h
  · cases h
section
variable {X : Nat → List Int32} {u w : Nat} {S : m_H} {V : v_V} {K : v_K}
set_option maxRecDepth 100000 in
set_option maxHeartbeats 4000000 in
theorem cr_hands {t : Nat} (hR : RdS S t) (k : K u w (some (.ref t)) (S.set 115 (3, [.ref 2, .int 0, .int 0, .null])) V) : y_R X 1 18 u w [.ref 115] S V K := by
  refine y_ent (lv' := [(0, .ref 115)]) (Nat.le_of_ble_eq_true rfl) rfl ?_
  refine y_ld (x := .ref 115) rfl rfl (fun d => rfl) ?_
  refine y_gR (i := 3) rfl rfl rfl hR rfl ?_
  refine y_st (lv' := [(1, .ref t), (0, .ref 115)]) rfl rfl (fun d => rfl) ?_
  refine y_ld (x := .ref 115) rfl rfl (fun d => rfl) ?_
  refine y_ld rfl rfl (fun d => rfl) ?_
  refine y_pR (i := 3) rfl rfl rfl hR (show 3 < 4 by decide) ⟨rfl, fun x hx => by cases hx⟩ ?_
  refine y_ld (x := .ref t) rfl rfl (fun d => rfl) ?_
  refine y_ret rfl (fun d => rfl) ?_
  exact k
set_option maxRecDepth 100000 in
set_option maxHeartbeats 4000000 in
theorem lp_reads (hC : ClF S) {t z : Nat} {τ : Nat → Int} (hR : RdS S t) (hX : TxS S t) (ht : 193 ≤ t) (hT : Tp τ 0 z) : ∀ (m n : Nat) (V : v_V) (K : v_K) (u w p : Nat) (acc : List p_Li), n + m = 8 → 1 ≤ m → acc.length = n → p ≤ z → (encPc acc).length ≤ p → lsO acc → CP V t z τ p (n : Int) (encPc acc) (mkP 0 (fun _ => 0) acc) → LN V t acc → (∀ l V', pLs τ z (8 - n) p acc = (some l, z) → CT V' t l → CX t V V' → K u w (some (.ref t)) (S.set 115 (3, [.ref 2, .int 0, .int 0, .null])) V') → (∀ q V', (pLs τ z (8 - n) p acc = (none, q) ∨ ∃ l, pLs τ z (8 - n) p acc = (some l, q) ∧ q ≠ z) → V' 115 2 = (q : Int) → q ≤ z → CX t V V' → K u w (some .null) S V') → y_E X 22 17 (200 * m) u w 42 [(0, .ref 115), (1, .ref 2), (2, iv (z : Int)), (3, iv (n : Int))] [] S V K := by
  intro m
  induction m with
  | zero => intros; omega
  | succ m ih =>
    intro n V K u w p acc hnm hm1 hal hp hl hlo h hLN k1 k2
    have hz := hT.2.1
    have hq0 := hr_rg hT p
    have hgP := mkP_bd acc 0 (fun _ => 0) (by omega) (by omega) hlo (fun _ _ => ⟨Int.le_refl 0, (by decide : (0 : Int) ≤ 10)⟩)
    refine y_mono (F' := 200 * m + 200) ?_ (by omega)
    refine y_ld (x := iv (n : Int)) rfl rfl (fun d => rfl) ?_
    refine y_bi rfl rfl (by decide) ?_
    refine y_jge rfl rfl rfl (by omega) (fun g1 => absurd g1 (by omega)) (fun g1 => ?_)
    refine y_ld (x := .ref 115) rfl rfl (fun d => rfl) ?_
    refine y_ld (x := iv (n : Int)) rfl rfl (fun d => rfl) ?_
    refine y_cV (as := [.ref 115, iv (n : Int)]) rfl rfl rfl rfl rfl hR ⟨rfl, (Nat.le_of_ble_eq_true rfl), (Nat.le_of_ble_eq_true rfl)⟩ (by decide) (cr_kind hC hR hX ht hT (by omega) h (by omega) (fun q1 V1 h1 f1 ek1 ek2 => ?_) (fun q2 => ?_))
    · have plk := hr_le (τ := τ) (z := z) (p := p) (by omega)
      refine y_nv ?_
      refine y_zne rfl rfl rfl (by decide) (fun g2 => ?_) (fun g2 => absurd g2 (by decide))
      refine y_ld (x := .ref 115) rfl rfl (fun d => rfl) ?_
      refine y_bi rfl rfl (by decide) ?_
      refine y_cV (as := [.ref 115, iv 40]) rfl rfl rfl rfl rfl hR ⟨rfl, (Nat.le_of_ble_eq_true rfl), (Nat.le_of_ble_eq_true rfl)⟩ (by decide) (cr_takes hC hR hX ht hT (by decide) h1 (by omega) (fun q3 V3 h3 f3 => ?_) (fun q4 => ?_))
      · have pl3 := hr_le (τ := τ) (z := z) (p := (p + 1)) (by omega)
        refine y_nv ?_
        refine y_zeq rfl rfl rfl (by decide) (fun g3 => absurd g3 (by decide)) (fun g3 => ?_)
        refine y_ld (x := .ref 115) rfl rfl (fun d => rfl) ?_
        refine y_ic rfl rfl ?_
        refine y_cV (as := [.ref 115, iv 1]) rfl rfl rfl rfl rfl hR ⟨rfl, (Nat.le_of_ble_eq_true rfl), (Nat.le_of_ble_eq_true rfl)⟩ (by decide) ((sr_all (ln := (n : Int) + 1) (st0 := encPc acc) (g0 := mkP 0 (fun _ => 0) acc) hC hR hX ht hT (by omega) hgP 1000 (by decide)).2.2.2.1 _ _ _ _ ((p + 1) + 1) 1 21 [] (by decide) (by omega) (by omega) (by simp only [encTc, List.length_nil]; omega) (by decide) (fun t ht => by cases ht) (by have e := h3; rw [show encTc [] = [] from rfl, List.append_nil]; exact e) (fun l5 r5 V5 x5 h5 f5 => ?_) (fun r6 V6 s6 g_6 x6 h6 f6 => ?_))
        · have kk5 := pX_ok _ _ _ _ _ _ _ (by decide) (by omega) x5
          have mm5 := kk5.2.2 _ rfl
          have cc5 := pX_c _ _ _ _ _ _ _ (by decide) (by omega) x5
          have tt5 := pX_tk _ _ _ _ _ _ _ (by decide) (by omega) (fun t ht => by cases ht) x5
          simp only [encTc, List.length_nil] at cc5
          refine y_nv ?_
          refine y_zeq rfl rfl rfl (by decide) (fun g4 => absurd g4 (by decide)) (fun g4 => ?_)
          refine y_ld (x := .ref 115) rfl rfl (fun d => rfl) ?_
          refine y_bi rfl rfl (by decide) ?_
          refine y_cV (as := [.ref 115, iv 41]) rfl rfl rfl rfl rfl hR ⟨rfl, (Nat.le_of_ble_eq_true rfl), (Nat.le_of_ble_eq_true rfl)⟩ (by decide) (cr_takes hC hR hX ht hT (by decide) h5 (by omega) (fun q7 V7 h7 f7 => ?_) (fun q8 => ?_))
          · have pl7 := hr_le (τ := τ) (z := z) (p := r5) (by omega)
            refine y_nv ?_
            refine y_zne rfl rfl rfl (by decide) (fun g5 => ?_) (fun g5 => absurd g5 (by decide))
            refine y_ld (x := .ref 115) rfl rfl (fun d => rfl) ?_
            refine y_gR (i := 3) rfl rfl rfl hR rfl ?_
            refine y_gR (i := 3) rfl rfl rfl hX.1 rfl ?_
            refine y_ld (x := iv (n : Int)) rfl rfl (fun d => rfl) ?_
            refine y_ld (x := .ref 115) rfl rfl (fun d => rfl) ?_
            refine y_gR (i := 3) rfl rfl rfl hR rfl ?_
            refine y_gI (i := 6) (e := (((encPc acc ++ encTc l5)).length : Int)) rfl rfl rfl hX.1 rfl h7.2.2.2.2.1 ?_
            refine y_ist (q := n) rfl rfl hX.2.2.2.1 (by omega) (by decide) (by omega) ?_
            refine y_ld (x := .ref 115) rfl rfl (fun d => rfl) ?_
            refine y_bi rfl rfl (by decide) ?_
            refine y_cV (as := [.ref 115, iv 58]) rfl rfl rfl rfl rfl hR ⟨rfl, (Nat.le_of_ble_eq_true rfl), (Nat.le_of_ble_eq_true rfl)⟩ (by decide) (cr_takes hC hR hX ht hT (by decide) (CP_3 ht h7) (by omega) (fun q9 V9 h9 f9 => ?_) (fun q10 => ?_))
            · have pl9 := hr_le (τ := τ) (z := z) (p := (r5 + 1)) (by omega)
              refine y_nv ?_
              refine y_zeq rfl rfl rfl (by decide) (fun g6 => absurd g6 (by decide)) (fun g6 => ?_)
              refine y_ld (x := .ref 115) rfl rfl (fun d => rfl) ?_
              refine y_ld (x := iv (n : Int)) rfl rfl (fun d => rfl) ?_
              refine y_cV (as := [.ref 115, iv (n : Int)]) rfl rfl rfl rfl rfl hR ⟨rfl, (Nat.le_of_ble_eq_true rfl), (Nat.le_of_ble_eq_true rfl)⟩ (by decide) (cr_acts (st0 := (encPc acc ++ encTc l5)) (g0 := (mkT ((n : Int) + 1 - 1) (mkP 0 (fun _ => 0) acc) l5)) (lnn := n) hC hR hX ht hT (by omega) (mkT_bd (by omega) l5 _ tt5 hgP) (by omega) (by omega) (by first | omega | (simp only [List.length_append]; omega)) h9 (fun l11 r11 V11 x11 ec11 h11 f11 => ?_) (fun r12 V12 s12 g_12 x12 h12 f12 => ?_))
              · have pa11 := pAs_ok _ _ _ _ _ (by omega) (fun x hx => by cases hx) x11
                have pb11 := pa11.2.2 _ rfl
                have pd11 := pAs_c _ _ _ _ _ (by omega) x11
                simp only [encAc, List.length_nil] at pd11
                refine y_nv ?_
                refine y_zne rfl rfl rfl (by decide) (fun g7 => ?_) (fun g7 => absurd g7 (by decide))
                refine y_ld (x := .ref 115) rfl rfl (fun d => rfl) ?_
                refine y_gI (i := 2) (e := ((r11 : Nat) : Int)) rfl rfl rfl hR rfl h11.2.1 ?_
                refine y_ld (x := .ref 115) rfl rfl (fun d => rfl) ?_
                refine y_gI (i := 1) (e := (z : Int)) rfl rfl rfl hR rfl h11.1 ?_
                refine y_jne rfl rfl rfl (by omega) (fun g8 => ?_) (fun g8 => ?_)
                · refine y_ld (x := iv (n : Int)) rfl rfl (fun d => rfl) ?_
                  refine y_bi rfl rfl (by decide) ?_
                  refine y_jeq rfl rfl rfl (by omega) (fun g9 => ?_) (fun g9 => ?_)
                  · refine y_ld rfl rfl (fun d => rfl) ?_
                    refine y_ret rfl (fun d => rfl) ?_
                    have eL : pL τ z p = (some ((if hr τ z p = 42 then (4 : Int) else hr τ z p - 48), (true, l5).1, (true, l5).2, l11), r11) := pL_4 q1 (pE_1 q3 x5 q7) q9 x11
                    generalize hX1 : (((if hr τ z p = 42 then (4 : Int) else hr τ z p - 48), (true, l5).1, (true, l5).2, l11) : p_Li) = x at eL
                    have x1 : x.1 = (if hr τ z p = 42 then (4 : Int) else hr τ z p - 48) := by rw [← hX1]
                    have x3 : x.2.2.1 = l5 := by rw [← hX1]
                    have x4 : x.2.2.2 = l11 := by rw [← hX1]
                    have hcl := (CL_tr (CL_tr (CL_tr (CL_tr (CL_tr (CL_tr (CL_tr (CL_rf t n V) f1) (CL_cf ht f3)) (CL_cf ht f5)) (CL_cf ht f7)) (CL_3 ht)) (CL_cf ht f9)) (CL_ch ht f11))
                    have r1 : V11 (t + 1) n = x.1 := by rw [x1, ← ek1, f11.1 (t + 1) (by omega) (by omega) (by omega) (by omega) (by omega), f9.1 (t + 1) (by omega) (by omega) (by omega) (by omega), v_up_ne (by omega), f7.1 (t + 1) (by omega) (by omega) (by omega) (by omega), f5.1 (t + 1) (by omega) (by omega) (by omega) (by omega), f3.1 (t + 1) (by omega) (by omega) (by omega) (by omega)]
                    have r2 : V11 (t + 2) n = ((encPc acc).length : Int) := by rw [← ek2, f11.1 (t + 2) (by omega) (by omega) (by omega) (by omega) (by omega), f9.1 (t + 2) (by omega) (by omega) (by omega) (by omega), v_up_ne (by omega), f7.1 (t + 2) (by omega) (by omega) (by omega) (by omega), f5.1 (t + 2) (by omega) (by omega) (by omega) (by omega), f3.1 (t + 2) (by omega) (by omega) (by omega) (by omega)]
                    have r3 : V11 (t + 3) n = ((encPc acc).length : Int) + (encTc x.2.2.1).length := by rw [x3, f11.1 (t + 3) (by omega) (by omega) (by omega) (by omega) (by omega), f9.1 (t + 3) (by omega) (by omega) (by omega) (by omega), v_up_eq]; rw [List.length_append]; rfl
                    have r4 : V11 (t + 4) n = (x.2.2.2.length : Int) := by rw [x4]; exact ec11
                    have hln2 : LN V11 t (acc ++ [x]) := LN_app hLN (fun i hi => hcl.2.2 i (by rw [← hal]; exact hi)) (by rw [hal]; exact r1) (by rw [hal]; exact r2) (by rw [hal]; exact r3) (by rw [hal]; exact r4)
                    have hcp : CP V11 t z τ r11 ((n : Int) + 1) (encPc (acc ++ [x])) (mkP 0 (fun _ => 0) (acc ++ [x])) := by
                      rw [encPc_app, mkP_app, hal, show (0 : Int) + (n : Int) = (n : Int) + 1 - 1 by omega]
                      unfold mkL
                      rw [x3, x4]
                      have e := h11
                      exact e
                    have ePs : pLs τ z (8 - n) p acc = (if 8 - (n + 1) ≠ 0 ∧ hr τ z r11 = 59 then pLs τ z (8 - (n + 1)) (r11 + 1) (acc ++ [x]) else (some (acc ++ [x]), r11)) := by
                      rw [show 8 - n = (8 - (n + 1)) + 1 by omega, pLs_s]; simp only [eL]
                    exact k2 r11 _ (Or.inr ⟨_, ePs.trans (if_neg (by omega)), by omega⟩) (h11.2.1) (by omega) (CX_cl (CL_tr (CL_tr (CL_tr (CL_tr (CL_tr (CL_tr (CL_tr (CL_rf t n V) f1) (CL_cf ht f3)) (CL_cf ht f5)) (CL_cf ht f7)) (CL_3 ht)) (CL_cf ht f9)) (CL_ch ht f11)))
                  · refine y_ld (x := .ref 115) rfl rfl (fun d => rfl) ?_
                    refine y_bi rfl rfl (by decide) ?_
                    refine y_cV (as := [.ref 115, iv 59]) rfl rfl rfl rfl rfl hR ⟨rfl, (Nat.le_of_ble_eq_true rfl), (Nat.le_of_ble_eq_true rfl)⟩ (by decide) (cr_takes hC hR hX ht hT (by decide) h11 (by omega) (fun q13 V13 h13 f13 => ?_) (fun q14 => ?_))
                    · have pl13 := hr_le (τ := τ) (z := z) (p := r11) (by omega)
                      refine y_nv ?_
                      refine y_zne rfl rfl rfl (by decide) (fun g10 => ?_) (fun g10 => absurd g10 (by decide))
                      refine y_inc (z := ((n + 1 : Nat) : Int)) (lv' := [(3, iv ((n + 1 : Nat) : Int)), (0, .ref 115), (1, .ref 2), (2, iv (z : Int))]) rfl rfl rfl (by omega) rfl ?_
                      refine y_go rfl rfl ?_
                      refine y_lv (l' := [(0, .ref 115), (1, .ref 2), (2, iv (z : Int)), (3, iv ((n + 1 : Nat) : Int))]) rfl ⟨rfl, rfl, rfl, rfl, trivial⟩ ?_
                      have eL : pL τ z p = (some ((if hr τ z p = 42 then (4 : Int) else hr τ z p - 48), (true, l5).1, (true, l5).2, l11), r11) := pL_4 q1 (pE_1 q3 x5 q7) q9 x11
                      generalize hX1 : (((if hr τ z p = 42 then (4 : Int) else hr τ z p - 48), (true, l5).1, (true, l5).2, l11) : p_Li) = x at eL
                      have x1 : x.1 = (if hr τ z p = 42 then (4 : Int) else hr τ z p - 48) := by rw [← hX1]
                      have x3 : x.2.2.1 = l5 := by rw [← hX1]
                      have x4 : x.2.2.2 = l11 := by rw [← hX1]
                      have hcl := (CL_tr (CL_tr (CL_tr (CL_tr (CL_tr (CL_tr (CL_tr (CL_rf t n V) f1) (CL_cf ht f3)) (CL_cf ht f5)) (CL_cf ht f7)) (CL_3 ht)) (CL_cf ht f9)) (CL_ch ht f11))
                      have r1 : V11 (t + 1) n = x.1 := by rw [x1, ← ek1, f11.1 (t + 1) (by omega) (by omega) (by omega) (by omega) (by omega), f9.1 (t + 1) (by omega) (by omega) (by omega) (by omega), v_up_ne (by omega), f7.1 (t + 1) (by omega) (by omega) (by omega) (by omega), f5.1 (t + 1) (by omega) (by omega) (by omega) (by omega), f3.1 (t + 1) (by omega) (by omega) (by omega) (by omega)]
                      have r2 : V11 (t + 2) n = ((encPc acc).length : Int) := by rw [← ek2, f11.1 (t + 2) (by omega) (by omega) (by omega) (by omega) (by omega), f9.1 (t + 2) (by omega) (by omega) (by omega) (by omega), v_up_ne (by omega), f7.1 (t + 2) (by omega) (by omega) (by omega) (by omega), f5.1 (t + 2) (by omega) (by omega) (by omega) (by omega), f3.1 (t + 2) (by omega) (by omega) (by omega) (by omega)]
                      have r3 : V11 (t + 3) n = ((encPc acc).length : Int) + (encTc x.2.2.1).length := by rw [x3, f11.1 (t + 3) (by omega) (by omega) (by omega) (by omega) (by omega), f9.1 (t + 3) (by omega) (by omega) (by omega) (by omega), v_up_eq]; rw [List.length_append]; rfl
                      have r4 : V11 (t + 4) n = (x.2.2.2.length : Int) := by rw [x4]; exact ec11
                      have hln2 : LN V11 t (acc ++ [x]) := LN_app hLN (fun i hi => hcl.2.2 i (by rw [← hal]; exact hi)) (by rw [hal]; exact r1) (by rw [hal]; exact r2) (by rw [hal]; exact r3) (by rw [hal]; exact r4)
                      have hcp : CP V11 t z τ r11 ((n : Int) + 1) (encPc (acc ++ [x])) (mkP 0 (fun _ => 0) (acc ++ [x])) := by
                        rw [encPc_app, mkP_app, hal, show (0 : Int) + (n : Int) = (n : Int) + 1 - 1 by omega]
                        unfold mkL
                        rw [x3, x4]
                        have e := h11
                        exact e
                      have ePs : pLs τ z (8 - n) p acc = (if 8 - (n + 1) ≠ 0 ∧ hr τ z r11 = 59 then pLs τ z (8 - (n + 1)) (r11 + 1) (acc ++ [x]) else (some (acc ++ [x]), r11)) := by
                        rw [show 8 - n = (8 - (n + 1)) + 1 by omega, pLs_s]; simp only [eL]
                      have hO : liO x := ((pL_ok (by omega) hz eL).2.2 x rfl).2
                      have hLen : (encPc (acc ++ [x])).length ≤ r11 := by have e := pL_c (by omega) hz eL; rw [encPc_app, List.length_append, List.length_append]; omega
                      refine y_mono (ih (n + 1) _ _ _ _ (r11 + 1) (acc ++ [x]) (by omega) (by omega) (by simp; omega) (by omega) (by omega) (lsO_app hlo hO) ?_ ?_ ?_ ?_) (by omega)
                      · rw [encPc_app, mkP_app, hal, show (0 : Int) + (n : Int) = (n : Int) + 1 - 1 by omega]
                        unfold mkL
                        rw [x3, x4]
                        have e := h13
                        exact e
                      · exact LN_mv ht f13 hln2
                      · intro lz V' a1 a2 a3
                        exact k1 lz V' (ePs.trans ((if_pos ⟨by omega, q13⟩).trans a1)) a2 (CX_tr (CX_cl (CL_tr (CL_tr (CL_tr (CL_tr (CL_tr (CL_tr (CL_tr (CL_tr (CL_rf t n V) f1) (CL_cf ht f3)) (CL_cf ht f5)) (CL_cf ht f7)) (CL_3 ht)) (CL_cf ht f9)) (CL_ch ht f11)) (CL_cf ht f13))) a3)
                      · intro qz V' a1 a2 a3 a4
                        refine k2 qz V' ?_ a2 a3 (CX_tr (CX_cl (CL_tr (CL_tr (CL_tr (CL_tr (CL_tr (CL_tr (CL_tr (CL_tr (CL_rf t n V) f1) (CL_cf ht f3)) (CL_cf ht f5)) (CL_cf ht f7)) (CL_3 ht)) (CL_cf ht f9)) (CL_ch ht f11)) (CL_cf ht f13))) a4)
                        rw [ePs, if_pos ⟨by omega, q13⟩]; exact a1
                    · refine y_nv ?_
                      refine y_zne rfl rfl rfl (by decide) (fun g11 => absurd g11 (by decide)) (fun g11 => ?_)
                      refine y_ld rfl rfl (fun d => rfl) ?_
                      refine y_ret rfl (fun d => rfl) ?_
                      have eL : pL τ z p = (some ((if hr τ z p = 42 then (4 : Int) else hr τ z p - 48), (true, l5).1, (true, l5).2, l11), r11) := pL_4 q1 (pE_1 q3 x5 q7) q9 x11
                      generalize hX1 : (((if hr τ z p = 42 then (4 : Int) else hr τ z p - 48), (true, l5).1, (true, l5).2, l11) : p_Li) = x at eL
                      have x1 : x.1 = (if hr τ z p = 42 then (4 : Int) else hr τ z p - 48) := by rw [← hX1]
                      have x3 : x.2.2.1 = l5 := by rw [← hX1]
                      have x4 : x.2.2.2 = l11 := by rw [← hX1]
                      have hcl := (CL_tr (CL_tr (CL_tr (CL_tr (CL_tr (CL_tr (CL_tr (CL_rf t n V) f1) (CL_cf ht f3)) (CL_cf ht f5)) (CL_cf ht f7)) (CL_3 ht)) (CL_cf ht f9)) (CL_ch ht f11))
                      have r1 : V11 (t + 1) n = x.1 := by rw [x1, ← ek1, f11.1 (t + 1) (by omega) (by omega) (by omega) (by omega) (by omega), f9.1 (t + 1) (by omega) (by omega) (by omega) (by omega), v_up_ne (by omega), f7.1 (t + 1) (by omega) (by omega) (by omega) (by omega), f5.1 (t + 1) (by omega) (by omega) (by omega) (by omega), f3.1 (t + 1) (by omega) (by omega) (by omega) (by omega)]
                      have r2 : V11 (t + 2) n = ((encPc acc).length : Int) := by rw [← ek2, f11.1 (t + 2) (by omega) (by omega) (by omega) (by omega) (by omega), f9.1 (t + 2) (by omega) (by omega) (by omega) (by omega), v_up_ne (by omega), f7.1 (t + 2) (by omega) (by omega) (by omega) (by omega), f5.1 (t + 2) (by omega) (by omega) (by omega) (by omega), f3.1 (t + 2) (by omega) (by omega) (by omega) (by omega)]
                      have r3 : V11 (t + 3) n = ((encPc acc).length : Int) + (encTc x.2.2.1).length := by rw [x3, f11.1 (t + 3) (by omega) (by omega) (by omega) (by omega) (by omega), f9.1 (t + 3) (by omega) (by omega) (by omega) (by omega), v_up_eq]; rw [List.length_append]; rfl
                      have r4 : V11 (t + 4) n = (x.2.2.2.length : Int) := by rw [x4]; exact ec11
                      have hln2 : LN V11 t (acc ++ [x]) := LN_app hLN (fun i hi => hcl.2.2 i (by rw [← hal]; exact hi)) (by rw [hal]; exact r1) (by rw [hal]; exact r2) (by rw [hal]; exact r3) (by rw [hal]; exact r4)
                      have hcp : CP V11 t z τ r11 ((n : Int) + 1) (encPc (acc ++ [x])) (mkP 0 (fun _ => 0) (acc ++ [x])) := by
                        rw [encPc_app, mkP_app, hal, show (0 : Int) + (n : Int) = (n : Int) + 1 - 1 by omega]
                        unfold mkL
                        rw [x3, x4]
                        have e := h11
                        exact e
                      have ePs : pLs τ z (8 - n) p acc = (if 8 - (n + 1) ≠ 0 ∧ hr τ z r11 = 59 then pLs τ z (8 - (n + 1)) (r11 + 1) (acc ++ [x]) else (some (acc ++ [x]), r11)) := by
                        rw [show 8 - n = (8 - (n + 1)) + 1 by omega, pLs_s]; simp only [eL]
                      exact k2 r11 _ (Or.inr ⟨_, ePs.trans (if_neg (by omega)), by omega⟩) (h11.2.1) (by omega) (CX_cl (CL_tr (CL_tr (CL_tr (CL_tr (CL_tr (CL_tr (CL_tr (CL_rf t n V) f1) (CL_cf ht f3)) (CL_cf ht f5)) (CL_cf ht f7)) (CL_3 ht)) (CL_cf ht f9)) (CL_ch ht f11)))
                · refine y_ld (x := .ref 115) rfl rfl (fun d => rfl) ?_
                  refine y_cV (as := [.ref 115]) rfl rfl rfl rfl rfl hR ⟨rfl, (Nat.le_of_ble_eq_true rfl), (Nat.le_of_ble_eq_true rfl)⟩ (by decide) (cr_hands hR ?_)
                  refine y_nv ?_
                  refine y_ret rfl (fun d => rfl) ?_
                  have eL : pL τ z p = (some ((if hr τ z p = 42 then (4 : Int) else hr τ z p - 48), (true, l5).1, (true, l5).2, l11), r11) := pL_4 q1 (pE_1 q3 x5 q7) q9 x11
                  generalize hX1 : (((if hr τ z p = 42 then (4 : Int) else hr τ z p - 48), (true, l5).1, (true, l5).2, l11) : p_Li) = x at eL
                  have x1 : x.1 = (if hr τ z p = 42 then (4 : Int) else hr τ z p - 48) := by rw [← hX1]
                  have x3 : x.2.2.1 = l5 := by rw [← hX1]
                  have x4 : x.2.2.2 = l11 := by rw [← hX1]
                  have hcl := (CL_tr (CL_tr (CL_tr (CL_tr (CL_tr (CL_tr (CL_tr (CL_rf t n V) f1) (CL_cf ht f3)) (CL_cf ht f5)) (CL_cf ht f7)) (CL_3 ht)) (CL_cf ht f9)) (CL_ch ht f11))
                  have r1 : V11 (t + 1) n = x.1 := by rw [x1, ← ek1, f11.1 (t + 1) (by omega) (by omega) (by omega) (by omega) (by omega), f9.1 (t + 1) (by omega) (by omega) (by omega) (by omega), v_up_ne (by omega), f7.1 (t + 1) (by omega) (by omega) (by omega) (by omega), f5.1 (t + 1) (by omega) (by omega) (by omega) (by omega), f3.1 (t + 1) (by omega) (by omega) (by omega) (by omega)]
                  have r2 : V11 (t + 2) n = ((encPc acc).length : Int) := by rw [← ek2, f11.1 (t + 2) (by omega) (by omega) (by omega) (by omega) (by omega), f9.1 (t + 2) (by omega) (by omega) (by omega) (by omega), v_up_ne (by omega), f7.1 (t + 2) (by omega) (by omega) (by omega) (by omega), f5.1 (t + 2) (by omega) (by omega) (by omega) (by omega), f3.1 (t + 2) (by omega) (by omega) (by omega) (by omega)]
                  have r3 : V11 (t + 3) n = ((encPc acc).length : Int) + (encTc x.2.2.1).length := by rw [x3, f11.1 (t + 3) (by omega) (by omega) (by omega) (by omega) (by omega), f9.1 (t + 3) (by omega) (by omega) (by omega) (by omega), v_up_eq]; rw [List.length_append]; rfl
                  have r4 : V11 (t + 4) n = (x.2.2.2.length : Int) := by rw [x4]; exact ec11
                  have hln2 : LN V11 t (acc ++ [x]) := LN_app hLN (fun i hi => hcl.2.2 i (by rw [← hal]; exact hi)) (by rw [hal]; exact r1) (by rw [hal]; exact r2) (by rw [hal]; exact r3) (by rw [hal]; exact r4)
                  have hcp : CP V11 t z τ r11 ((n : Int) + 1) (encPc (acc ++ [x])) (mkP 0 (fun _ => 0) (acc ++ [x])) := by
                    rw [encPc_app, mkP_app, hal, show (0 : Int) + (n : Int) = (n : Int) + 1 - 1 by omega]
                    unfold mkL
                    rw [x3, x4]
                    have e := h11
                    exact e
                  have ePs : pLs τ z (8 - n) p acc = (if 8 - (n + 1) ≠ 0 ∧ hr τ z r11 = 59 then pLs τ z (8 - (n + 1)) (r11 + 1) (acc ++ [x]) else (some (acc ++ [x]), r11)) := by
                    rw [show 8 - n = (8 - (n + 1)) + 1 by omega, pLs_s]; simp only [eL]
                  have hqz : r11 = z := by omega
                  refine k1 (acc ++ [x]) _ (ePs.trans ((if_neg (by rw [hqz]; intro hh; have := hr_le (τ := τ) (z := z) (p := z) (by omega); omega)).trans (by rw [hqz]))) ?_ (CX_cl (CL_tr (CL_tr (CL_tr (CL_tr (CL_tr (CL_tr (CL_tr (CL_rf t n V) f1) (CL_cf ht f3)) (CL_cf ht f5)) (CL_cf ht f7)) (CL_3 ht)) (CL_cf ht f9)) (CL_ch ht f11)))
                  have hcp2 := hcp
                  obtain ⟨c1, c2, c3, c4, c5, c6, c7, c8⟩ := hcp
                  exact ⟨by rw [c4]; simp; omega, c5, c6, hln2, c7, c8⟩
              · refine y_nv ?_
                refine y_zne rfl rfl rfl (by decide) (fun g12 => absurd g12 (by decide)) (fun g12 => ?_)
                refine y_ld rfl rfl (fun d => rfl) ?_
                refine y_ret rfl (fun d => rfl) ?_
                rcases x12 with ea | ⟨la, ea, eb⟩
                · exact k2 r12 _ (Or.inl (by rw [show 8 - n = (8 - (n + 1)) + 1 by omega, pLs_s]; simp only [pL_3 q1 (pE_1 q3 x5 q7) q9 ea])) (h12.2.1) (by have := pAs_ok _ _ _ _ _ (by omega) (fun x hx => by cases hx) ea; omega) (CX_cl (CL_tr (CL_tr (CL_tr (CL_tr (CL_tr (CL_tr (CL_tr (CL_rf t n V) f1) (CL_cf ht f3)) (CL_cf ht f5)) (CL_cf ht f7)) (CL_3 ht)) (CL_cf ht f9)) (CL_ch ht f12)))
                · have hb : hr τ z r12 = 43 ∨ hr τ z r12 = 45 ∨ hr τ z r12 = 44 := eb
                  have hlt := hr_le (τ := τ) (z := z) (p := r12) (by omega)
                  refine k2 r12 _ (Or.inr ⟨_, (by rw [show 8 - n = (8 - (n + 1)) + 1 by omega, pLs_s]; simp only [pL_4 q1 (pE_1 q3 x5 q7) q9 ea]; exact if_neg (by omega)), by omega⟩) (h12.2.1) (by omega) (CX_cl (CL_tr (CL_tr (CL_tr (CL_tr (CL_tr (CL_tr (CL_tr (CL_rf t n V) f1) (CL_cf ht f3)) (CL_cf ht f5)) (CL_cf ht f7)) (CL_3 ht)) (CL_cf ht f9)) (CL_ch ht f12)))
            · refine y_nv ?_
              refine y_zeq rfl rfl rfl (by decide) (fun g13 => ?_) (fun g13 => absurd g13 (by decide))
              refine y_ld rfl rfl (fun d => rfl) ?_
              refine y_ret rfl (fun d => rfl) ?_
              exact k2 (r5 + 1) _ (Or.inl (by rw [show 8 - n = (8 - (n + 1)) + 1 by omega, pLs_s]; simp only [(pL_2 q1 (pE_1 q3 x5 q7) q10)])) ((CP_3 ht h7).2.1) (by omega) (CX_cl (CL_tr (CL_tr (CL_tr (CL_tr (CL_tr (CL_rf t n V) f1) (CL_cf ht f3)) (CL_cf ht f5)) (CL_cf ht f7)) (CL_3 ht)))
          · refine y_nv ?_
            refine y_zne rfl rfl rfl (by decide) (fun g14 => absurd g14 (by decide)) (fun g14 => ?_)
            refine y_ld rfl rfl (fun d => rfl) ?_
            refine y_ret rfl (fun d => rfl) ?_
            exact k2 r5 _ (Or.inl (by rw [show 8 - n = (8 - (n + 1)) + 1 by omega, pLs_s]; simp only [(pL_1 q1 (pE_2 q3 x5 q8))])) (h5.2.1) (by omega) (CX_cl (CL_tr (CL_tr (CL_tr (CL_rf t n V) f1) (CL_cf ht f3)) (CL_cf ht f5)))
        · have kk6 := pX_ok _ _ _ _ _ _ _ (by decide) (by omega) x6
          refine y_nv ?_
          refine y_zeq rfl rfl rfl (by decide) (fun g15 => ?_) (fun g15 => absurd g15 (by decide))
          refine y_ld rfl rfl (fun d => rfl) ?_
          refine y_ret rfl (fun d => rfl) ?_
          exact k2 r6 _ (Or.inl (by rw [show 8 - n = (8 - (n + 1)) + 1 by omega, pLs_s]; simp only [(pL_1 q1 (pE_3 q3 x6))])) (h6.2.1) (by omega) (CX_cl (CL_tr (CL_tr (CL_tr (CL_rf t n V) f1) (CL_cf ht f3)) (CL_cf ht f6)))
      · refine y_nv ?_
        refine y_zeq rfl rfl rfl (by decide) (fun g16 => ?_) (fun g16 => absurd g16 (by decide))
        refine y_ld (x := .ref 115) rfl rfl (fun d => rfl) ?_
        refine y_gR (i := 3) rfl rfl rfl hR rfl ?_
        refine y_gR (i := 3) rfl rfl rfl hX.1 rfl ?_
        refine y_ld (x := iv (n : Int)) rfl rfl (fun d => rfl) ?_
        refine y_ld (x := .ref 115) rfl rfl (fun d => rfl) ?_
        refine y_gR (i := 3) rfl rfl rfl hR rfl ?_
        refine y_gI (i := 6) (e := (((encPc acc)).length : Int)) rfl rfl rfl hX.1 rfl h1.2.2.2.2.1 ?_
        refine y_ist (q := n) rfl rfl hX.2.2.2.1 (by omega) (by decide) (by omega) ?_
        refine y_ld (x := .ref 115) rfl rfl (fun d => rfl) ?_
        refine y_bi rfl rfl (by decide) ?_
        refine y_cV (as := [.ref 115, iv 58]) rfl rfl rfl rfl rfl hR ⟨rfl, (Nat.le_of_ble_eq_true rfl), (Nat.le_of_ble_eq_true rfl)⟩ (by decide) (cr_takes hC hR hX ht hT (by decide) (CP_3 ht h1) (by omega) (fun q15 V15 h15 f15 => ?_) (fun q16 => ?_))
        · have pl15 := hr_le (τ := τ) (z := z) (p := (p + 1)) (by omega)
          refine y_nv ?_
          refine y_zeq rfl rfl rfl (by decide) (fun g17 => absurd g17 (by decide)) (fun g17 => ?_)
          refine y_ld (x := .ref 115) rfl rfl (fun d => rfl) ?_
          refine y_ld (x := iv (n : Int)) rfl rfl (fun d => rfl) ?_
          refine y_cV (as := [.ref 115, iv (n : Int)]) rfl rfl rfl rfl rfl hR ⟨rfl, (Nat.le_of_ble_eq_true rfl), (Nat.le_of_ble_eq_true rfl)⟩ (by decide) (cr_acts (st0 := (encPc acc)) (g0 := (mkP 0 (fun _ => 0) acc)) (lnn := n) hC hR hX ht hT (by omega) hgP (by omega) (by omega) (by first | omega | (simp only [List.length_append]; omega)) h15 (fun l17 r17 V17 x17 ec17 h17 f17 => ?_) (fun r18 V18 s18 g_18 x18 h18 f18 => ?_))
          · have pa17 := pAs_ok _ _ _ _ _ (by omega) (fun x hx => by cases hx) x17
            have pb17 := pa17.2.2 _ rfl
            have pd17 := pAs_c _ _ _ _ _ (by omega) x17
            simp only [encAc, List.length_nil] at pd17
            refine y_nv ?_
            refine y_zne rfl rfl rfl (by decide) (fun g18 => ?_) (fun g18 => absurd g18 (by decide))
            refine y_ld (x := .ref 115) rfl rfl (fun d => rfl) ?_
            refine y_gI (i := 2) (e := ((r17 : Nat) : Int)) rfl rfl rfl hR rfl h17.2.1 ?_
            refine y_ld (x := .ref 115) rfl rfl (fun d => rfl) ?_
            refine y_gI (i := 1) (e := (z : Int)) rfl rfl rfl hR rfl h17.1 ?_
            refine y_jne rfl rfl rfl (by omega) (fun g19 => ?_) (fun g19 => ?_)
            · refine y_ld (x := iv (n : Int)) rfl rfl (fun d => rfl) ?_
              refine y_bi rfl rfl (by decide) ?_
              refine y_jeq rfl rfl rfl (by omega) (fun g20 => ?_) (fun g20 => ?_)
              · refine y_ld rfl rfl (fun d => rfl) ?_
                refine y_ret rfl (fun d => rfl) ?_
                have eL : pL τ z p = (some ((if hr τ z p = 42 then (4 : Int) else hr τ z p - 48), ((false, []) : Bool × List p_Tk).1, ((false, []) : Bool × List p_Tk).2, l17), r17) := pL_4 q1 (pE_0 q4) q15 x17
                generalize hX1 : (((if hr τ z p = 42 then (4 : Int) else hr τ z p - 48), ((false, []) : Bool × List p_Tk).1, ((false, []) : Bool × List p_Tk).2, l17) : p_Li) = x at eL
                have x1 : x.1 = (if hr τ z p = 42 then (4 : Int) else hr τ z p - 48) := by rw [← hX1]
                have x3 : x.2.2.1 = ([] : List p_Tk) := by rw [← hX1]
                have x4 : x.2.2.2 = l17 := by rw [← hX1]
                have hcl := (CL_tr (CL_tr (CL_tr (CL_tr (CL_rf t n V) f1) (CL_3 ht)) (CL_cf ht f15)) (CL_ch ht f17))
                have r1 : V17 (t + 1) n = x.1 := by rw [x1, ← ek1, f17.1 (t + 1) (by omega) (by omega) (by omega) (by omega) (by omega), f15.1 (t + 1) (by omega) (by omega) (by omega) (by omega), v_up_ne (by omega)]
                have r2 : V17 (t + 2) n = ((encPc acc).length : Int) := by rw [← ek2, f17.1 (t + 2) (by omega) (by omega) (by omega) (by omega) (by omega), f15.1 (t + 2) (by omega) (by omega) (by omega) (by omega), v_up_ne (by omega)]
                have r3 : V17 (t + 3) n = ((encPc acc).length : Int) + (encTc x.2.2.1).length := by rw [x3, f17.1 (t + 3) (by omega) (by omega) (by omega) (by omega) (by omega), f15.1 (t + 3) (by omega) (by omega) (by omega) (by omega), v_up_eq]; simp [encTc]
                have r4 : V17 (t + 4) n = (x.2.2.2.length : Int) := by rw [x4]; exact ec17
                have hln2 : LN V17 t (acc ++ [x]) := LN_app hLN (fun i hi => hcl.2.2 i (by rw [← hal]; exact hi)) (by rw [hal]; exact r1) (by rw [hal]; exact r2) (by rw [hal]; exact r3) (by rw [hal]; exact r4)
                have hcp : CP V17 t z τ r17 ((n : Int) + 1) (encPc (acc ++ [x])) (mkP 0 (fun _ => 0) (acc ++ [x])) := by
                  rw [encPc_app, mkP_app, hal, show (0 : Int) + (n : Int) = (n : Int) + 1 - 1 by omega]
                  unfold mkL
                  rw [x3, x4]
                  have e := h17
                  rw [show encTc [] = [] from rfl, List.append_nil]
                  exact e
                have ePs : pLs τ z (8 - n) p acc = (if 8 - (n + 1) ≠ 0 ∧ hr τ z r17 = 59 then pLs τ z (8 - (n + 1)) (r17 + 1) (acc ++ [x]) else (some (acc ++ [x]), r17)) := by
                  rw [show 8 - n = (8 - (n + 1)) + 1 by omega, pLs_s]; simp only [eL]
                exact k2 r17 _ (Or.inr ⟨_, ePs.trans (if_neg (by omega)), by omega⟩) (h17.2.1) (by omega) (CX_cl (CL_tr (CL_tr (CL_tr (CL_tr (CL_rf t n V) f1) (CL_3 ht)) (CL_cf ht f15)) (CL_ch ht f17)))
              · refine y_ld (x := .ref 115) rfl rfl (fun d => rfl) ?_
                refine y_bi rfl rfl (by decide) ?_
                refine y_cV (as := [.ref 115, iv 59]) rfl rfl rfl rfl rfl hR ⟨rfl, (Nat.le_of_ble_eq_true rfl), (Nat.le_of_ble_eq_true rfl)⟩ (by decide) (cr_takes hC hR hX ht hT (by decide) h17 (by omega) (fun q19 V19 h19 f19 => ?_) (fun q20 => ?_))
                · have pl19 := hr_le (τ := τ) (z := z) (p := r17) (by omega)
                  refine y_nv ?_
                  refine y_zne rfl rfl rfl (by decide) (fun g21 => ?_) (fun g21 => absurd g21 (by decide))
                  refine y_inc (z := ((n + 1 : Nat) : Int)) (lv' := [(3, iv ((n + 1 : Nat) : Int)), (0, .ref 115), (1, .ref 2), (2, iv (z : Int))]) rfl rfl rfl (by omega) rfl ?_
                  refine y_go rfl rfl ?_
                  refine y_lv (l' := [(0, .ref 115), (1, .ref 2), (2, iv (z : Int)), (3, iv ((n + 1 : Nat) : Int))]) rfl ⟨rfl, rfl, rfl, rfl, trivial⟩ ?_
                  have eL : pL τ z p = (some ((if hr τ z p = 42 then (4 : Int) else hr τ z p - 48), ((false, []) : Bool × List p_Tk).1, ((false, []) : Bool × List p_Tk).2, l17), r17) := pL_4 q1 (pE_0 q4) q15 x17
                  generalize hX1 : (((if hr τ z p = 42 then (4 : Int) else hr τ z p - 48), ((false, []) : Bool × List p_Tk).1, ((false, []) : Bool × List p_Tk).2, l17) : p_Li) = x at eL
                  have x1 : x.1 = (if hr τ z p = 42 then (4 : Int) else hr τ z p - 48) := by rw [← hX1]
                  have x3 : x.2.2.1 = ([] : List p_Tk) := by rw [← hX1]
                  have x4 : x.2.2.2 = l17 := by rw [← hX1]
                  have hcl := (CL_tr (CL_tr (CL_tr (CL_tr (CL_rf t n V) f1) (CL_3 ht)) (CL_cf ht f15)) (CL_ch ht f17))
                  have r1 : V17 (t + 1) n = x.1 := by rw [x1, ← ek1, f17.1 (t + 1) (by omega) (by omega) (by omega) (by omega) (by omega), f15.1 (t + 1) (by omega) (by omega) (by omega) (by omega), v_up_ne (by omega)]
                  have r2 : V17 (t + 2) n = ((encPc acc).length : Int) := by rw [← ek2, f17.1 (t + 2) (by omega) (by omega) (by omega) (by omega) (by omega), f15.1 (t + 2) (by omega) (by omega) (by omega) (by omega), v_up_ne (by omega)]
                  have r3 : V17 (t + 3) n = ((encPc acc).length : Int) + (encTc x.2.2.1).length := by rw [x3, f17.1 (t + 3) (by omega) (by omega) (by omega) (by omega) (by omega), f15.1 (t + 3) (by omega) (by omega) (by omega) (by omega), v_up_eq]; simp [encTc]
                  have r4 : V17 (t + 4) n = (x.2.2.2.length : Int) := by rw [x4]; exact ec17
                  have hln2 : LN V17 t (acc ++ [x]) := LN_app hLN (fun i hi => hcl.2.2 i (by rw [← hal]; exact hi)) (by rw [hal]; exact r1) (by rw [hal]; exact r2) (by rw [hal]; exact r3) (by rw [hal]; exact r4)
                  have hcp : CP V17 t z τ r17 ((n : Int) + 1) (encPc (acc ++ [x])) (mkP 0 (fun _ => 0) (acc ++ [x])) := by
                    rw [encPc_app, mkP_app, hal, show (0 : Int) + (n : Int) = (n : Int) + 1 - 1 by omega]
                    unfold mkL
                    rw [x3, x4]
                    have e := h17
                    rw [show encTc [] = [] from rfl, List.append_nil]
                    exact e
                  have ePs : pLs τ z (8 - n) p acc = (if 8 - (n + 1) ≠ 0 ∧ hr τ z r17 = 59 then pLs τ z (8 - (n + 1)) (r17 + 1) (acc ++ [x]) else (some (acc ++ [x]), r17)) := by
                    rw [show 8 - n = (8 - (n + 1)) + 1 by omega, pLs_s]; simp only [eL]
                  have hO : liO x := ((pL_ok (by omega) hz eL).2.2 x rfl).2
                  have hLen : (encPc (acc ++ [x])).length ≤ r17 := by have e := pL_c (by omega) hz eL; rw [encPc_app, List.length_append, List.length_append]; omega
                  refine y_mono (ih (n + 1) _ _ _ _ (r17 + 1) (acc ++ [x]) (by omega) (by omega) (by simp; omega) (by omega) (by omega) (lsO_app hlo hO) ?_ ?_ ?_ ?_) (by omega)
                  · rw [encPc_app, mkP_app, hal, show (0 : Int) + (n : Int) = (n : Int) + 1 - 1 by omega]
                    unfold mkL
                    rw [x3, x4]
                    have e := h19
                    rw [show encTc [] = [] from rfl, List.append_nil]
                    exact e
                  · exact LN_mv ht f19 hln2
                  · intro lz V' a1 a2 a3
                    exact k1 lz V' (ePs.trans ((if_pos ⟨by omega, q19⟩).trans a1)) a2 (CX_tr (CX_cl (CL_tr (CL_tr (CL_tr (CL_tr (CL_tr (CL_rf t n V) f1) (CL_3 ht)) (CL_cf ht f15)) (CL_ch ht f17)) (CL_cf ht f19))) a3)
                  · intro qz V' a1 a2 a3 a4
                    refine k2 qz V' ?_ a2 a3 (CX_tr (CX_cl (CL_tr (CL_tr (CL_tr (CL_tr (CL_tr (CL_rf t n V) f1) (CL_3 ht)) (CL_cf ht f15)) (CL_ch ht f17)) (CL_cf ht f19))) a4)
                    rw [ePs, if_pos ⟨by omega, q19⟩]; exact a1
                · refine y_nv ?_
                  refine y_zne rfl rfl rfl (by decide) (fun g22 => absurd g22 (by decide)) (fun g22 => ?_)
                  refine y_ld rfl rfl (fun d => rfl) ?_
                  refine y_ret rfl (fun d => rfl) ?_
                  have eL : pL τ z p = (some ((if hr τ z p = 42 then (4 : Int) else hr τ z p - 48), ((false, []) : Bool × List p_Tk).1, ((false, []) : Bool × List p_Tk).2, l17), r17) := pL_4 q1 (pE_0 q4) q15 x17
                  generalize hX1 : (((if hr τ z p = 42 then (4 : Int) else hr τ z p - 48), ((false, []) : Bool × List p_Tk).1, ((false, []) : Bool × List p_Tk).2, l17) : p_Li) = x at eL
                  have x1 : x.1 = (if hr τ z p = 42 then (4 : Int) else hr τ z p - 48) := by rw [← hX1]
                  have x3 : x.2.2.1 = ([] : List p_Tk) := by rw [← hX1]
                  have x4 : x.2.2.2 = l17 := by rw [← hX1]
                  have hcl := (CL_tr (CL_tr (CL_tr (CL_tr (CL_rf t n V) f1) (CL_3 ht)) (CL_cf ht f15)) (CL_ch ht f17))
                  have r1 : V17 (t + 1) n = x.1 := by rw [x1, ← ek1, f17.1 (t + 1) (by omega) (by omega) (by omega) (by omega) (by omega), f15.1 (t + 1) (by omega) (by omega) (by omega) (by omega), v_up_ne (by omega)]
                  have r2 : V17 (t + 2) n = ((encPc acc).length : Int) := by rw [← ek2, f17.1 (t + 2) (by omega) (by omega) (by omega) (by omega) (by omega), f15.1 (t + 2) (by omega) (by omega) (by omega) (by omega), v_up_ne (by omega)]
                  have r3 : V17 (t + 3) n = ((encPc acc).length : Int) + (encTc x.2.2.1).length := by rw [x3, f17.1 (t + 3) (by omega) (by omega) (by omega) (by omega) (by omega), f15.1 (t + 3) (by omega) (by omega) (by omega) (by omega), v_up_eq]; simp [encTc]
                  have r4 : V17 (t + 4) n = (x.2.2.2.length : Int) := by rw [x4]; exact ec17
                  have hln2 : LN V17 t (acc ++ [x]) := LN_app hLN (fun i hi => hcl.2.2 i (by rw [← hal]; exact hi)) (by rw [hal]; exact r1) (by rw [hal]; exact r2) (by rw [hal]; exact r3) (by rw [hal]; exact r4)
                  have hcp : CP V17 t z τ r17 ((n : Int) + 1) (encPc (acc ++ [x])) (mkP 0 (fun _ => 0) (acc ++ [x])) := by
                    rw [encPc_app, mkP_app, hal, show (0 : Int) + (n : Int) = (n : Int) + 1 - 1 by omega]
                    unfold mkL
                    rw [x3, x4]
                    have e := h17
                    rw [show encTc [] = [] from rfl, List.append_nil]
                    exact e
                  have ePs : pLs τ z (8 - n) p acc = (if 8 - (n + 1) ≠ 0 ∧ hr τ z r17 = 59 then pLs τ z (8 - (n + 1)) (r17 + 1) (acc ++ [x]) else (some (acc ++ [x]), r17)) := by
                    rw [show 8 - n = (8 - (n + 1)) + 1 by omega, pLs_s]; simp only [eL]
                  exact k2 r17 _ (Or.inr ⟨_, ePs.trans (if_neg (by omega)), by omega⟩) (h17.2.1) (by omega) (CX_cl (CL_tr (CL_tr (CL_tr (CL_tr (CL_rf t n V) f1) (CL_3 ht)) (CL_cf ht f15)) (CL_ch ht f17)))
            · refine y_ld (x := .ref 115) rfl rfl (fun d => rfl) ?_
              refine y_cV (as := [.ref 115]) rfl rfl rfl rfl rfl hR ⟨rfl, (Nat.le_of_ble_eq_true rfl), (Nat.le_of_ble_eq_true rfl)⟩ (by decide) (cr_hands hR ?_)
              refine y_nv ?_
              refine y_ret rfl (fun d => rfl) ?_
              have eL : pL τ z p = (some ((if hr τ z p = 42 then (4 : Int) else hr τ z p - 48), ((false, []) : Bool × List p_Tk).1, ((false, []) : Bool × List p_Tk).2, l17), r17) := pL_4 q1 (pE_0 q4) q15 x17
              generalize hX1 : (((if hr τ z p = 42 then (4 : Int) else hr τ z p - 48), ((false, []) : Bool × List p_Tk).1, ((false, []) : Bool × List p_Tk).2, l17) : p_Li) = x at eL
              have x1 : x.1 = (if hr τ z p = 42 then (4 : Int) else hr τ z p - 48) := by rw [← hX1]
              have x3 : x.2.2.1 = ([] : List p_Tk) := by rw [← hX1]
              have x4 : x.2.2.2 = l17 := by rw [← hX1]
              have hcl := (CL_tr (CL_tr (CL_tr (CL_tr (CL_rf t n V) f1) (CL_3 ht)) (CL_cf ht f15)) (CL_ch ht f17))
              have r1 : V17 (t + 1) n = x.1 := by rw [x1, ← ek1, f17.1 (t + 1) (by omega) (by omega) (by omega) (by omega) (by omega), f15.1 (t + 1) (by omega) (by omega) (by omega) (by omega), v_up_ne (by omega)]
              have r2 : V17 (t + 2) n = ((encPc acc).length : Int) := by rw [← ek2, f17.1 (t + 2) (by omega) (by omega) (by omega) (by omega) (by omega), f15.1 (t + 2) (by omega) (by omega) (by omega) (by omega), v_up_ne (by omega)]
              have r3 : V17 (t + 3) n = ((encPc acc).length : Int) + (encTc x.2.2.1).length := by rw [x3, f17.1 (t + 3) (by omega) (by omega) (by omega) (by omega) (by omega), f15.1 (t + 3) (by omega) (by omega) (by omega) (by omega), v_up_eq]; simp [encTc]
              have r4 : V17 (t + 4) n = (x.2.2.2.length : Int) := by rw [x4]; exact ec17
              have hln2 : LN V17 t (acc ++ [x]) := LN_app hLN (fun i hi => hcl.2.2 i (by rw [← hal]; exact hi)) (by rw [hal]; exact r1) (by rw [hal]; exact r2) (by rw [hal]; exact r3) (by rw [hal]; exact r4)
              have hcp : CP V17 t z τ r17 ((n : Int) + 1) (encPc (acc ++ [x])) (mkP 0 (fun _ => 0) (acc ++ [x])) := by
                rw [encPc_app, mkP_app, hal, show (0 : Int) + (n : Int) = (n : Int) + 1 - 1 by omega]
                unfold mkL
                rw [x3, x4]
                have e := h17
                rw [show encTc [] = [] from rfl, List.append_nil]
                exact e
              have ePs : pLs τ z (8 - n) p acc = (if 8 - (n + 1) ≠ 0 ∧ hr τ z r17 = 59 then pLs τ z (8 - (n + 1)) (r17 + 1) (acc ++ [x]) else (some (acc ++ [x]), r17)) := by
                rw [show 8 - n = (8 - (n + 1)) + 1 by omega, pLs_s]; simp only [eL]
              have hqz : r17 = z := by omega
              refine k1 (acc ++ [x]) _ (ePs.trans ((if_neg (by rw [hqz]; intro hh; have := hr_le (τ := τ) (z := z) (p := z) (by omega); omega)).trans (by rw [hqz]))) ?_ (CX_cl (CL_tr (CL_tr (CL_tr (CL_tr (CL_rf t n V) f1) (CL_3 ht)) (CL_cf ht f15)) (CL_ch ht f17)))
              have hcp2 := hcp
              obtain ⟨c1, c2, c3, c4, c5, c6, c7, c8⟩ := hcp
              exact ⟨by rw [c4]; simp; omega, c5, c6, hln2, c7, c8⟩
          · refine y_nv ?_
            refine y_zne rfl rfl rfl (by decide) (fun g23 => absurd g23 (by decide)) (fun g23 => ?_)
            refine y_ld rfl rfl (fun d => rfl) ?_
            refine y_ret rfl (fun d => rfl) ?_
            rcases x18 with ea | ⟨la, ea, eb⟩
            · exact k2 r18 _ (Or.inl (by rw [show 8 - n = (8 - (n + 1)) + 1 by omega, pLs_s]; simp only [pL_3 q1 (pE_0 q4) q15 ea])) (h18.2.1) (by have := pAs_ok _ _ _ _ _ (by omega) (fun x hx => by cases hx) ea; omega) (CX_cl (CL_tr (CL_tr (CL_tr (CL_tr (CL_rf t n V) f1) (CL_3 ht)) (CL_cf ht f15)) (CL_ch ht f18)))
            · have hb : hr τ z r18 = 43 ∨ hr τ z r18 = 45 ∨ hr τ z r18 = 44 := eb
              have hlt := hr_le (τ := τ) (z := z) (p := r18) (by omega)
              refine k2 r18 _ (Or.inr ⟨_, (by rw [show 8 - n = (8 - (n + 1)) + 1 by omega, pLs_s]; simp only [pL_4 q1 (pE_0 q4) q15 ea]; exact if_neg (by omega)), by omega⟩) (h18.2.1) (by omega) (CX_cl (CL_tr (CL_tr (CL_tr (CL_tr (CL_rf t n V) f1) (CL_3 ht)) (CL_cf ht f15)) (CL_ch ht f18)))
        · refine y_nv ?_
          refine y_zeq rfl rfl rfl (by decide) (fun g24 => ?_) (fun g24 => absurd g24 (by decide))
          refine y_ld rfl rfl (fun d => rfl) ?_
          refine y_ret rfl (fun d => rfl) ?_
          exact k2 (p + 1) _ (Or.inl (by rw [show 8 - n = (8 - (n + 1)) + 1 by omega, pLs_s]; simp only [(pL_2 q1 (pE_0 q4) q16)])) ((CP_3 ht h1).2.1) (by omega) (CX_cl (CL_tr (CL_tr (CL_rf t n V) f1) (CL_3 ht)))
    · refine y_nv ?_
      refine y_zne rfl rfl rfl (by decide) (fun g25 => absurd g25 (by decide)) (fun g25 => ?_)
      refine y_ld rfl rfl (fun d => rfl) ?_
      refine y_ret rfl (fun d => rfl) ?_
      exact k2 p _ (Or.inl (by rw [show 8 - n = (8 - (n + 1)) + 1 by omega, pLs_s]; simp only [(pL_0 q2)])) (h.2.1) (by omega) (CX_cl (CL_rf t n V))
end
end
section
/-! a TEXT made, cleared; the class' text() -/
section NWF
variable {X : Nat → List Int32} {D j F u w pc : Nat} {lv : m_L} {st : List Value} {S : m_H} {V : v_V} {K : v_K}
theorem y_nwf {q1 : ArrayType} {q2 l1 l2 b2 N a f pc1 pc2 L : Nat} {a1 a2 e : Int} {vs r : List Value} (hc1 : m_nth (m_code j) pc = some (some (.newarray q1, l1, a1, 20))) (hp1 : pc + l1 = pc1) (hc2 : m_nth (m_code j) pc1 = some (some (.putfield q2, l2, a2, b2))) (hp2 : pc1 + l2 = pc2) (hf : a2.toNat % 100 = f) (hty : a2.toNat / 100 = 2)
    (hL : S.length = L) (hb : L < 1000000) (he : e = N) (hN : N ≤ 100000) (hs : ce S a b2 vs) (hv : f < vs.length)
    (k : ∀ S', ce S' a b2 (vs.set f (.ref L)) → v_ia S' L 20 N → S'.length = L + 1 → (∀ k, k < L → k ≠ a → m_nth S' k = m_nth S k) → y_E X D j F (u + 1) (w + N) pc2 lv r S' (v_zer V L) K) : y_E X D j (F + 2) u w pc lv (iv e :: .ref a :: r) S V K := by
  subst hL
  have haL : a < S.length := m_nth_lt hs.2
  refine y_nwi hc1 hp1 hb he hN ?_
  have h1 : ce (S ++ [(20, List.replicate N (.int 0))]) a b2 vs := ce_app hs
  refine y_pR hc2 hp2 hf h1 hv ⟨by rw [hty]; rfl, fun x hx => by cases hx⟩ ?_
  refine k _ (ce_eq h1) (ce_ne (ce_new hb) (by omega)) (by simp) (fun k hk hka => ?_)
  rw [m_nth_set, if_neg hka, m_nth_app, if_neg (by omega)]
end NWF
section
variable {X : Nat → List Int32} {u w : Nat} {S : m_H} {V : v_V} {K : v_K}
theorem v_fill_up (V : v_V) (a i : Nat) (x : Int) : v_up (v_ur V a (fun j => if j < i then x else V a j)) a i x = v_ur V a (fun j => if j < i + 1 then x else V a j) := by
  rw [v_up_ur, v_ur_ur, v_ur_eq]
  congr 1
  funext j
  unfold v_uf
  by_cases h : j = i
  · rw [if_pos h, if_pos (by omega)]
  · rw [if_neg h]
    show (if j < i then x else V a j) = _
    by_cases h2 : j < i
    · rw [if_pos h2, if_pos (by omega)]
    · rw [if_neg h2, if_neg (by omega)]
set_option maxRecDepth 100000 in
set_option maxHeartbeats 4000000 in
theorem lp_fill {a N : Nat} {x : Int} (hA : v_ia S a 20 N) (hN : N < 2147483648) {F : Nat} : ∀ (m : Nat) (i : Nat), N - i < m → (i ≤ N) → (y_E X 0 180 F u w 20 [(0, .ref a)] [] S (v_ur V a (fun j => if j < N then x else V a j)) K) → y_E X 0 180 (20 * m + F) u w 5 [(0, .ref a), (1, iv x), (2, iv (i : Int)), (3, iv (N : Int))] [] S (v_ur V a (fun j => if j < i then x else V a j)) K := by
  intro m
  induction m with
  | zero => intros; omega
  | succ m ih =>
    intro i hm hI hx
    refine y_mono (F' := (20 * m + F) + 20) ?_ (by omega)
    refine y_ld (x := iv (i : Int)) rfl rfl (fun d => rfl) ?_
    refine y_ld (x := iv (N : Int)) rfl rfl (fun d => rfl) ?_
    refine y_jge rfl rfl rfl (by omega) (fun g1 => ?_) (fun g1 => ?_)
    · obtain rfl : i = N := by omega
      refine y_lv (l' := [(0, .ref a)]) rfl ⟨rfl, trivial⟩ ?_
      exact y_mono hx (by omega)
    · refine y_ld (x := .ref a) rfl rfl (fun d => rfl) ?_
      refine y_ld (x := iv (i : Int)) rfl rfl (fun d => rfl) ?_
      refine y_ld (x := iv x) rfl rfl (fun d => rfl) ?_
      refine y_ist (q := i) rfl rfl hA (by omega) (by omega) (by omega) ?_
      refine y_inc (z := ((i + 1 : Nat) : Int)) (lv' := [(2, iv ((i + 1 : Nat) : Int)), (0, .ref a), (1, iv x), (3, iv (N : Int))]) rfl rfl rfl (by omega) rfl ?_
      refine y_go rfl rfl ?_
      refine y_lv (l' := [(0, .ref a), (1, iv x), (2, iv ((i + 1 : Nat) : Int)), (3, iv (N : Int))]) rfl ⟨rfl, rfl, rfl, rfl, trivial⟩ ?_
      refine y_V (V' := v_ur V a (fun j => if j < i + 1 then x else V a j)) (v_fill_up V a i x) ?_
      exact y_mono (ih (i + 1) (by omega) (by omega) hx) (by omega)
set_option maxRecDepth 100000 in
set_option maxHeartbeats 4000000 in
theorem cc_fill {a N : Nat} {x : Int} (hA : v_ia S a 20 N) (hN : N ≤ 40000) (k : K u w none S (v_ur V a (fun _ => x))) : y_R X 1 180 u w [.ref a, iv x] S V K := by
  refine y_ent (lv' := [(0, .ref a), (1, iv x)]) (Nat.le_of_ble_eq_true rfl) rfl ?_
  refine y_ic rfl rfl ?_
  refine y_st (lv' := [(2, iv 0), (0, .ref a), (1, iv x)]) rfl rfl (fun d => rfl) ?_
  refine y_ld (x := .ref a) rfl rfl (fun d => rfl) ?_
  refine y_al (q := 0) rfl rfl hA (by decide) (N := N) List.length_replicate ?_
  refine y_st (lv' := [(3, iv (N : Int)), (2, iv 0), (0, .ref a), (1, iv x)]) rfl rfl (fun d => rfl) ?_
  refine y_lv (l' := [(0, .ref a), (1, iv x), (2, iv 0), (3, iv (N : Int))]) rfl ⟨rfl, rfl, rfl, rfl, trivial⟩ ?_
  refine y_V (V' := v_ur V a (fun j => if j < 0 then x else V a j)) ?_ ?_
  · rw [show (fun j => if j < 0 then x else V a j) = V a from funext (fun j => if_neg (by omega)), v_ur_self]
  refine y_mono (lp_fill hA (by omega) (N + 1) 0 (by omega) (by omega) ?_) (show 20 * (N + 1) + 500 ≤ _ by omega)
  refine y_row (g := fun _ => x) hA (fun i y hy => if_pos (by have := v_repI hy; omega)) ?_
  refine y_ret rfl (fun d => rfl) ?_
  exact k
set_option maxRecDepth 100000 in
set_option maxHeartbeats 4000000 in
theorem cr_clear {t : Nat} (hX : TxS S t) (k : K u w none S (v_ur (v_up (v_up (v_up V t 0 0) t 6 0) t 7 0) (t + 6) (fun _ => -5))) : y_R X 2 49 u w [.ref t] S V K := by
  refine y_ent (lv' := [(0, .ref t)]) (Nat.le_of_ble_eq_true rfl) rfl ?_
  refine y_ld (x := .ref t) rfl rfl (fun d => rfl) ?_
  refine y_ic rfl rfl ?_
  refine y_pI (i := 0) rfl rfl rfl hX.1 rfl rfl ?_
  refine y_ld (x := .ref t) rfl rfl (fun d => rfl) ?_
  refine y_ic rfl rfl ?_
  refine y_pI (i := 6) rfl rfl rfl hX.1 rfl rfl ?_
  refine y_ld (x := .ref t) rfl rfl (fun d => rfl) ?_
  refine y_ic rfl rfl ?_
  refine y_pI (i := 7) rfl rfl rfl hX.1 rfl rfl ?_
  refine y_ld (x := .ref t) rfl rfl (fun d => rfl) ?_
  refine y_gR (i := 8) rfl rfl rfl hX.1 rfl ?_
  refine y_bi rfl rfl (by decide) ?_
  refine y_cS (as := [.ref (t + 6), iv (-5)]) rfl (by decide) rfl rfl rfl rfl ⟨(Nat.le_of_ble_eq_true rfl), (Nat.le_of_ble_eq_true rfl)⟩ (by decide) (cc_fill (x := (-5)) hX.2.2.2.2.2.2 (by decide) ?_)
  refine y_n0 ?_
  refine y_ret rfl (fun d => rfl) ?_
  exact k
set_option maxRecDepth 100000 in
set_option maxHeartbeats 4000000 in
theorem cr_init {a : Nat} (hs : ce S a 6 (m_dfl 6)) (hl : S.length = a + 1) (hb : a + 7 < 1000000) (k : ∀ S' V', TxS S' a → S'.length = a + 7 → (∀ q, q < a → m_nth S' q = m_nth S q) → (∀ q, q < a → V' q = V q) → K (u + 6) (w + 200) none S' V') : y_R X 1 48 u w [.ref a] S V K := by
  refine y_ent (lv' := [(0, .ref a)]) (Nat.le_of_ble_eq_true rfl) rfl ?_
  refine y_ld (x := .ref a) rfl rfl (fun d => rfl) ?_
  refine y_in rfl rfl (fun d => rfl) ?_
  refine y_ld (x := .ref a) rfl rfl (fun d => rfl) ?_
  refine y_bi rfl rfl (by decide) ?_
  refine y_nwf (N := 8) (f := 1) (L := a + 1) rfl rfl rfl rfl rfl rfl hl (by omega) rfl (by decide) hs (by simp [m_dfl]) (fun S1 hc1 hv1 hn1 hk1 => ?_)
  refine y_ld (x := .ref a) rfl rfl (fun d => rfl) ?_
  refine y_bi rfl rfl (by decide) ?_
  refine y_nwf (N := 8) (f := 2) (L := a + 2) rfl rfl rfl rfl rfl rfl hn1 (by omega) rfl (by decide) hc1 (by simp [m_dfl]) (fun S2 hc2 hv2 hn2 hk2 => ?_)
  refine y_ld (x := .ref a) rfl rfl (fun d => rfl) ?_
  refine y_bi rfl rfl (by decide) ?_
  refine y_nwf (N := 8) (f := 3) (L := a + 3) rfl rfl rfl rfl rfl rfl hn2 (by omega) rfl (by decide) hc2 (by simp [m_dfl]) (fun S3 hc3 hv3 hn3 hk3 => ?_)
  refine y_ld (x := .ref a) rfl rfl (fun d => rfl) ?_
  refine y_bi rfl rfl (by decide) ?_
  refine y_nwf (N := 8) (f := 4) (L := a + 4) rfl rfl rfl rfl rfl rfl hn3 (by omega) rfl (by decide) hc3 (by simp [m_dfl]) (fun S4 hc4 hv4 hn4 hk4 => ?_)
  refine y_ld (x := .ref a) rfl rfl (fun d => rfl) ?_
  refine y_si rfl rfl (by decide) ?_
  refine y_nwf (N := 160) (f := 5) (L := a + 5) rfl rfl rfl rfl rfl rfl hn4 (by omega) rfl (by decide) hc4 (by simp [m_dfl]) (fun S5 hc5 hv5 hn5 hk5 => ?_)
  refine y_ld (x := .ref a) rfl rfl (fun d => rfl) ?_
  refine y_bi rfl rfl (by decide) ?_
  refine y_nwf (N := 8) (f := 8) (L := a + 6) rfl rfl rfl rfl rfl rfl hn5 (by omega) rfl (by decide) hc5 (by simp [m_dfl]) (fun S6 hc6 hv6 hn6 hk6 => ?_)
  refine y_ret rfl (fun d => rfl) ?_
  refine k S6 _ ⟨hc6, ⟨by omega, ((hk6 (a + 1) (by omega) (by omega)).trans ((hk5 (a + 1) (by omega) (by omega)).trans ((hk4 (a + 1) (by omega) (by omega)).trans ((hk3 (a + 1) (by omega) (by omega)).trans ((hk2 (a + 1) (by omega) (by omega)).trans hv1.2)))))⟩, ⟨by omega, ((hk6 (a + 2) (by omega) (by omega)).trans ((hk5 (a + 2) (by omega) (by omega)).trans ((hk4 (a + 2) (by omega) (by omega)).trans ((hk3 (a + 2) (by omega) (by omega)).trans hv2.2))))⟩, ⟨by omega, ((hk6 (a + 3) (by omega) (by omega)).trans ((hk5 (a + 3) (by omega) (by omega)).trans ((hk4 (a + 3) (by omega) (by omega)).trans hv3.2)))⟩, ⟨by omega, ((hk6 (a + 4) (by omega) (by omega)).trans ((hk5 (a + 4) (by omega) (by omega)).trans hv4.2))⟩, ⟨by omega, ((hk6 (a + 5) (by omega) (by omega)).trans hv5.2)⟩, ⟨by omega, hv6.2⟩⟩ hn6 (fun q hq => ?_) (fun q hq => ?_)
  · rw [hk6 q (by omega) (by omega), hk5 q (by omega) (by omega), hk4 q (by omega) (by omega), hk3 q (by omega) (by omega), hk2 q (by omega) (by omega), hk1 q (by omega) (by omega)]
  · unfold v_zer
    rw [v_ur_ne (by omega), v_ur_ne (by omega), v_ur_ne (by omega), v_ur_ne (by omega), v_ur_ne (by omega), v_ur_ne (by omega)]
end
end
section
section
variable {X : Nat → List Int32} {u w : Nat} {S : m_H} {V : v_V} {K : v_K}
set_option maxRecDepth 100000 in
set_option maxHeartbeats 4000000 in
theorem rd33 (hC : ClF S) {t z : Nat} (hR : RdS S t) (hX : TxS S t) (ht : 193 ≤ t) (hz : z ≤ 160) (hb : ∀ i, i < z → 0 ≤ V 2 i ∧ V 2 i ≤ 255) (h1 : V 115 1 = (z : Int)) (h2 : V 115 2 = 0) (k1 : ∀ l V', pTx (V 2) z = (some l, z) → CT V' t l → lsO l ∧ l.length ≤ 8 → CX t V V' → K u w (some (.ref t)) (S.set 115 (3, [.ref 2, .int 0, .int 0, .null])) V') (k2 : ∀ q V', pTx (V 2) z = (none, q) → V' 115 2 = (q : Int) → q ≤ z → CX t V V' → K u w (some .null) S V') : y_E X 22 17 5000 u w 33 [(0, .ref 115), (1, .ref 2), (2, iv (z : Int))] [] S V K := by
  refine y_mono (F' := 3000) ?_ (by decide)
  refine y_ld (x := .ref 115) rfl rfl (fun d => rfl) ?_
  refine y_gR (i := 3) rfl rfl rfl hR rfl ?_
  refine y_cV (as := [.ref t]) rfl rfl rfl rfl rfl hX.1 ⟨rfl, (Nat.le_of_ble_eq_true rfl), (Nat.le_of_ble_eq_true rfl)⟩ (by decide) (cr_clear hX ?_)
  refine y_n0 ?_
  refine y_ic rfl rfl ?_
  refine y_st (lv' := [(3, iv 0), (0, .ref 115), (1, .ref 2), (2, iv (z : Int))]) rfl rfl (fun d => rfl) ?_
  refine y_lv (l' := [(0, .ref 115), (1, .ref 2), (2, iv (z : Int)), (3, iv 0)]) rfl ⟨rfl, rfl, rfl, rfl, trivial⟩ ?_
  have hW : CX t V (v_ur (v_up (v_up (v_up V t 0 0) t 6 0) t 7 0) (t + 6) (fun _ => -5)) := by
    refine ⟨fun k q1 q2 => ?_, fun i q => ?_⟩
    · rw [v_ur_ne (by omega), v_up_ne (by omega), v_up_ne (by omega), v_up_ne (by omega)]
    · rw [v_ur_ne (by omega), v_up_ne (by omega), v_up_ne (by omega), v_up_ne (by omega)]
  refine y_mono (lp_reads (τ := V 2) hC hR hX ht ⟨by decide, hz, hb⟩ 8 0 _ _ _ _ 0 [] rfl (by decide) rfl (by omega) (Nat.le_refl 0) (fun x hx => by cases hx) ⟨?_, ?_, ?_, ?_, ?_, fun i x hi => (by cases hi), ?_, ?_⟩ (fun i x hi => by cases hi) ?_ ?_) (by decide)
  · rw [v_ur_ne (by omega), v_up_ne (by omega), v_up_ne (by omega), v_up_ne (by omega)]; exact h1
  · rw [v_ur_ne (by omega), v_up_ne (by omega), v_up_ne (by omega), v_up_ne (by omega)]; exact h2
  · intro i hi; rw [v_ur_ne (by omega), v_up_ne (by omega), v_up_ne (by omega), v_up_ne (by omega)]
  · rw [v_ur_ne (by omega), v_up_ni (by decide), v_up_ni (by decide), v_up_eq]; rfl
  · rw [v_ur_ne (by omega), v_up_ni (by decide), v_up_eq]; rfl
  · intro c hc; rw [v_ur_eq]; rfl
  · rw [v_ur_ne (by omega), v_up_eq]; exact ⟨by decide, by decide, fun c hc => by rw [Int.zero_ediv]; rfl⟩
  · intro l V' a1 a2 a3
    have po := pLs_ok hz _ _ _ _ _ (by omega) (fun x hx => by cases hx) a1
    have pp := po.2.2 _ rfl
    exact k1 l V' ((pTx_eq a1).trans (if_pos rfl)) a2 ⟨pp.2.1, by have := pp.2.2; simpa using this⟩ (CX_tr hW a3)
  · intro q V' a1 a2 a3 a4
    refine k2 q V' ?_ a2 a3 (CX_tr hW a4)
    rcases a1 with a1 | ⟨l, a1, a5⟩
    · exact pTx_no a1
    · exact (pTx_eq a1).trans (if_neg a5)
theorem Tx_set {S : m_H} {t : Nat} {c : Nat × List Value} (hX : TxS S t) (ht : 193 ≤ t) : TxS (S.set 115 c) t :=
  ⟨ce_ne hX.1 (by omega), ce_ne hX.2.1 (by omega), ce_ne hX.2.2.1 (by omega), ce_ne hX.2.2.2.1 (by omega), ce_ne hX.2.2.2.2.1 (by omega), ce_ne hX.2.2.2.2.2.1 (by omega), ce_ne hX.2.2.2.2.2.2 (by omega)⟩
theorem dfl_ok {b : Nat} (h : ∀ v ∈ m_dfl b, v = iv 0 ∨ v = .null) : ∀ v ∈ m_dfl b, v = iv 0 ∨ ∀ x, v ≠ .int x :=
  fun v hv => (h v hv).imp id (fun e x q => by rw [e] at q; cases q)
def CY (t : Nat) (V V' : v_V) : Prop := ∀ k, k ≠ 115 → k < t ∨ t + 6 < k → V' k = V k
set_option maxRecDepth 100000 in
set_option maxHeartbeats 4000000 in
theorem cr_readsA (hC : ClF S) {t z : Nat} {tp : Value} (hRa : ce S 115 3 [tp, .int 0, .int 0, .ref t]) (hX : TxS S t) (ht : 193 ≤ t) (hz : z ≤ 160) (hb : ∀ i, i < z → 0 ≤ V 2 i ∧ V 2 i ≤ 255) (k1 : ∀ l S' V', pTx (V 2) z = (some l, z) → CT V' t l → lsO l ∧ l.length ≤ 8 → CY t V V' → TxS S' t → ce S' 115 3 [.ref 2, .int 0, .int 0, .null] → S'.length ≤ S.length + 7 → (∀ q, q < S.length → q ≠ 115 → m_nth S' q = m_nth S q) → K (u + 7) (w + 209) (some (.ref t)) S' V') (k2 : ∀ q S' V', pTx (V 2) z = (none, q) → V' 115 2 = (q : Int) → q ≤ z → CY t V V' → TxS S' t → ce S' 115 3 [.ref 2, .int 0, .int 0, .ref t] → S'.length ≤ S.length + 7 → (∀ q, q < S.length → q ≠ 115 → m_nth S' q = m_nth S q) → K (u + 7) (w + 209) (some .null) S' V') : y_R X 23 17 u w [.ref 115, .ref 2, iv (z : Int)] S V K := by
  refine y_ent (lv' := [(0, .ref 115), (1, .ref 2), (2, iv (z : Int))]) (Nat.le_of_ble_eq_true rfl) rfl ?_
  refine y_ld (x := .ref 115) rfl rfl (fun d => rfl) ?_
  refine y_ld (x := .ref 2) rfl rfl (fun d => rfl) ?_
  refine y_pR (i := 0) rfl rfl rfl hRa (by simp) ⟨rfl, fun x hx => by cases hx⟩ ?_
  have hR1 : ce (S.set 115 (3, [.ref 2, .int 0, .int 0, .ref t])) 115 3 [.ref 2, .int 0, .int 0, .ref t] := ce_eq hRa
  refine y_S (S' := S.set 115 (3, [.ref 2, .int 0, .int 0, .ref t])) rfl ?_
  refine y_ld (x := .ref 115) rfl rfl (fun d => rfl) ?_
  refine y_ld (x := iv (z : Int)) rfl rfl (fun d => rfl) ?_
  refine y_pI (i := 1) rfl rfl rfl hR1 rfl rfl ?_
  refine y_ld (x := .ref 115) rfl rfl (fun d => rfl) ?_
  refine y_ic rfl rfl ?_
  refine y_pI (i := 2) rfl rfl rfl hR1 rfl rfl ?_
  refine y_ld (x := .ref 115) rfl rfl (fun d => rfl) ?_
  refine y_gR (i := 3) rfl rfl rfl hR1 rfl ?_
  refine y_in (pc' := 33) rfl rfl (fun d => rfl) ?_
  refine y_lv (l' := [(0, .ref 115), (1, .ref 2), (2, iv (z : Int))]) rfl ⟨rfl, rfl, rfl, trivial⟩ ?_
  have hX1 := Tx_set hX ht (c := (3, [.ref 2, .int 0, .int 0, .ref t]))
  refine y_up (u' := u + 7) (w' := w + 209) (y_mono (rd33 (cl_set hC (by decide)) hR1 hX1 ht hz hb rfl rfl (fun l V' a1 a2 a3 a4 => ?_) (fun q V' a1 a2 a3 a4 => ?_)) (by decide)) (by omega) (by omega)
  · rw [List.set_set]
    exact k1 l _ V' a1 a2 a3 (fun k h5 h6 => (a4.1 k h5 h6).trans (by rw [v_up_ne h5, v_up_ne h5])) (Tx_set hX ht) (ce_eq hRa) (by rw [List.length_set]; omega) (fun q hq h5 => by rw [m_nth_set, if_neg h5])
  · exact k2 q _ V' a1 a2 a3 (fun k h5 h6 => (a4.1 k h5 h6).trans (by rw [v_up_ne h5, v_up_ne h5])) hX1 hR1 (by rw [List.length_set]; omega) (fun q hq h5 => by rw [m_nth_set, if_neg h5])
set_option maxRecDepth 100000 in
set_option maxHeartbeats 4000000 in
theorem cr_readsB (hC : ClF S) {z : Nat} {tp : Value} (hRa : ce S 115 3 [tp, .int 0, .int 0, .null]) (hSl : 193 ≤ S.length ∧ S.length + 7 < 1000000) (hz : z ≤ 160) (hb : ∀ i, i < z → 0 ≤ V 2 i ∧ V 2 i ≤ 255) (k1 : ∀ l S' V', pTx (V 2) z = (some l, z) → CT V' S.length l → lsO l ∧ l.length ≤ 8 → (∀ k, k ≠ 115 → k < S.length → V' k = V k) → TxS S' S.length → ce S' 115 3 [.ref 2, .int 0, .int 0, .null] → S'.length ≤ S.length + 7 → (∀ q, q < S.length → q ≠ 115 → m_nth S' q = m_nth S q) → K (u + 7) (w + 209) (some (.ref S.length)) S' V') (k2 : ∀ q S' V', pTx (V 2) z = (none, q) → V' 115 2 = (q : Int) → q ≤ z → (∀ k, k ≠ 115 → k < S.length → V' k = V k) → TxS S' S.length → ce S' 115 3 [.ref 2, .int 0, .int 0, .ref S.length] → S'.length ≤ S.length + 7 → (∀ q, q < S.length → q ≠ 115 → m_nth S' q = m_nth S q) → K (u + 7) (w + 209) (some .null) S' V') : y_R X 23 17 u w [.ref 115, .ref 2, iv (z : Int)] S V K := by
  refine y_ent (lv' := [(0, .ref 115), (1, .ref 2), (2, iv (z : Int))]) (Nat.le_of_ble_eq_true rfl) rfl ?_
  refine y_ld (x := .ref 115) rfl rfl (fun d => rfl) ?_
  refine y_ld (x := .ref 2) rfl rfl (fun d => rfl) ?_
  refine y_pR (i := 0) rfl rfl rfl hRa (by simp) ⟨rfl, fun x hx => by cases hx⟩ ?_
  have hR1 : ce (S.set 115 (3, [.ref 2, .int 0, .int 0, .null])) 115 3 [.ref 2, .int 0, .int 0, .null] := ce_eq hRa
  refine y_S (S' := S.set 115 (3, [.ref 2, .int 0, .int 0, .null])) rfl ?_
  refine y_ld (x := .ref 115) rfl rfl (fun d => rfl) ?_
  refine y_ld (x := iv (z : Int)) rfl rfl (fun d => rfl) ?_
  refine y_pI (i := 1) rfl rfl rfl hR1 rfl rfl ?_
  refine y_ld (x := .ref 115) rfl rfl (fun d => rfl) ?_
  refine y_ic rfl rfl ?_
  refine y_pI (i := 2) rfl rfl rfl hR1 rfl rfl ?_
  refine y_ld (x := .ref 115) rfl rfl (fun d => rfl) ?_
  refine y_gN (i := 3) rfl rfl rfl hR1 rfl ?_
  refine y_in (pc' := 22) rfl rfl (fun d => rfl) ?_
  refine y_ld (x := .ref 115) rfl rfl (fun d => rfl) ?_
  refine y_new (z := 9) rfl rfl (by rw [List.length_set]; omega) rfl (dfl_ok (by decide)) ?_
  rw [List.length_set]
  refine y_in rfl rfl (fun d => rfl) ?_
  have hnew : ce ((S.set 115 (3, [.ref 2, .int 0, .int 0, .null])) ++ [(6, m_dfl 6)]) S.length 6 (m_dfl 6) := by have e := ce_new (S := S.set 115 (3, [.ref 2, .int 0, .int 0, .null])) (t := 6) (vs := m_dfl 6) (by rw [List.length_set]; omega); rw [List.length_set] at e; exact e
  refine y_cI (as := [.ref S.length]) rfl (by decide) rfl rfl rfl rfl ⟨(Nat.le_of_ble_eq_true rfl), (Nat.le_of_ble_eq_true rfl), (by omega)⟩ (by decide) (cr_init (a := S.length) (hnew) (by simp) (by omega) (fun S1 V1 b1 b2 b3 b4 => ?_))
  have hRb : ce S1 115 3 [.ref 2, .int 0, .int 0, .null] := ⟨by decide, (b3 115 (by omega)).trans (by rw [m_nth_app, if_neg (by rw [List.length_set]; omega)]; exact hR1.2)⟩
  refine y_n0 ?_
  refine y_pR (i := 3) rfl rfl rfl hRb (by simp) ⟨rfl, fun x hx => by cases hx⟩ ?_
  refine y_lv (l' := [(0, .ref 115), (1, .ref 2), (2, iv (z : Int))]) rfl ⟨rfl, rfl, rfl, trivial⟩ ?_
  have hR2 : RdS (S1.set 115 (3, [.ref 2, .int 0, .int 0, .ref S.length])) S.length := ce_eq hRb
  refine y_S (S' := S1.set 115 (3, [.ref 2, .int 0, .int 0, .ref S.length])) rfl ?_
  have hX2 := Tx_set b1 (by omega) (c := (3, [.ref 2, .int 0, .int 0, .ref S.length]))
  have hold : ∀ q, q < S.length → q ≠ 115 → m_nth S1 q = m_nth S q := fun q hq h5 => (b3 q hq).trans (by rw [m_nth_app, if_neg (by rw [List.length_set]; omega), m_nth_set, if_neg h5])
  have hC1 : ClF (S1.set 115 (3, [.ref 2, .int 0, .int 0, .ref S.length])) := fun k t vs hk => by
    have e := hC k t vs hk
    have h5 : k ≠ 115 := fun q => by rw [q] at hk; cases hk
    refine ce_ne ⟨e.1, (hold k ?_ h5).trans e.2⟩ h5
    have := m_nth_lt e.2
    omega
  have e2 : V1 2 = V 2 := (b4 2 (by omega)).trans (by unfold v_zer; rw [v_ur_ne (by omega)]; rfl)
  have e15 : V1 115 1 = (z : Int) ∧ V1 115 2 = 0 := by rw [b4 115 (by omega)]; unfold v_zer; rw [v_ur_ne (by omega)]; exact ⟨rfl, rfl⟩
  have ev : ∀ k, k < S.length → k ≠ 115 → V1 k = V k := fun k h5 h6 => (b4 k h5).trans (by unfold v_zer; rw [v_ur_ne (by omega), v_up_ne h6, v_up_ne h6])
  refine y_mono (rd33 hC1 hR2 hX2 (by omega) hz (by rw [e2]; exact hb) e15.1 e15.2 (fun l V' a1 a2 a3 a4 => ?_) (fun q V' a1 a2 a3 a4 => ?_)) (by decide)
  · rw [List.set_set]
    rw [e2] at a1
    exact k1 l _ V' a1 a2 a3 (fun k h5 h6 => a4.1 k h5 (Or.inl h6) |>.trans (ev k h6 h5)) (Tx_set b1 (by omega)) (ce_eq hRb) (by rw [List.length_set]; omega) (fun q hq h5 => by rw [m_nth_set, if_neg h5]; exact hold q hq h5)
  · rw [e2] at a1
    exact k2 q _ V' a1 a2 a3 (fun k h5 h6 => a4.1 k h5 (Or.inl h6) |>.trans (ev k h6 h5)) hX2 hR2 (by rw [List.length_set]; omega) (fun q hq h5 => by rw [m_nth_set, if_neg h5]; exact hold q hq h5)
end
end
section
/-! the class' text() -/
section
variable {X : Nat → List Int32} {u w : Nat} {S : m_H} {V : v_V} {K : v_K}
set_option maxRecDepth 100000 in
set_option maxHeartbeats 4000000 in
theorem cr_reads (hC : ClF S) {z : Nat} {tp tv : Value} (hRa : ce S 115 3 [tp, .int 0, .int 0, tv]) (hSl : 193 ≤ S.length ∧ S.length + 7 < 1000000) (hv : tv = .null ∨ ∃ t, tv = .ref t ∧ 193 ≤ t ∧ TxS S t) (hz : z ≤ 160) (hb : ∀ i, i < z → 0 ≤ V 2 i ∧ V 2 i ≤ 255) (k1 : ∀ t l S' V', pTx (V 2) z = (some l, z) → CT V' t l → lsO l ∧ l.length ≤ 8 → 193 ≤ t ∧ (tv = .ref t ∨ t = S.length) → (∀ k, k ≠ 115 → k < S.length → (k < t ∨ t + 6 < k) → V' k = V k) → TxS S' t → ce S' 115 3 [.ref 2, .int 0, .int 0, .null] → S'.length ≤ S.length + 7 → (∀ q, q < S.length → q ≠ 115 → m_nth S' q = m_nth S q) → K (u + 7) (w + 209) (some (.ref t)) S' V') (k2 : ∀ t q S' V', pTx (V 2) z = (none, q) → V' 115 2 = (q : Int) → q ≤ z → 193 ≤ t ∧ (tv = .ref t ∨ t = S.length) → (∀ k, k ≠ 115 → k < S.length → (k < t ∨ t + 6 < k) → V' k = V k) → TxS S' t → ce S' 115 3 [.ref 2, .int 0, .int 0, .ref t] → S'.length ≤ S.length + 7 → (∀ q, q < S.length → q ≠ 115 → m_nth S' q = m_nth S q) → K (u + 7) (w + 209) (some .null) S' V') : y_R X 23 17 u w [.ref 115, .ref 2, iv (z : Int)] S V K := by
  rcases hv with rfl | ⟨t, rfl, h1, h2⟩
  · exact cr_readsB hC hRa hSl hz hb (fun l S' V' a1 a2 a3 a4 a5 a6 a7 a8 => k1 S.length l S' V' a1 a2 a3 ⟨hSl.1, Or.inr rfl⟩ (fun k b1 b2 _ => a4 k b1 b2) a5 a6 a7 a8)
      (fun q S' V' a1 a2 a3 a4 a5 a6 a7 a8 => k2 S.length q S' V' a1 a2 a3 ⟨hSl.1, Or.inr rfl⟩ (fun k b1 b2 _ => a4 k b1 b2) a5 a6 a7 a8)
  · exact cr_readsA hC hRa h2 h1 hz hb (fun l S' V' a1 a2 a3 a4 a5 a6 a7 a8 => k1 t l S' V' a1 a2 a3 ⟨h1, Or.inl rfl⟩ (fun k b1 _ b3 => a4 k b1 b3) a5 a6 a7 a8)
      (fun q S' V' a1 a2 a3 a4 a5 a6 a7 a8 => k2 t q S' V' a1 a2 a3 ⟨h1, Or.inl rfl⟩ (fun k b1 _ b3 => a4 k b1 b3) a5 a6 a7 a8)
theorem cl_fr {S S' : m_H} (hC : ClF S) (h : ∀ q, q < S.length → q ≠ 115 → m_nth S' q = m_nth S q) : ClF S' := fun k t vs hk => by
  have e := hC k t vs hk
  have h5 : k ≠ 115 := fun q => by rw [q] at hk; cases hk
  refine ⟨e.1, (h k ?_ h5).trans e.2⟩
  exact m_nth_lt e.2
set_option maxRecDepth 100000 in
set_option maxHeartbeats 4000000 in
theorem cc_text (hC : ClF S) {z tc : Nat} {tp tv : Value} {ta : List Value} (h3 : ce S 3 22 ta) (hl3 : ta.length = 8) (hc : V 1 3 = (tc : Int)) (hc8 : tc ≤ 8) (hf : V 1 1 = (z : Int)) (hRa : ce S 115 3 [tp, .int 0, .int 0, tv]) (hSl : 193 ≤ S.length ∧ S.length + 7 < 1000000) (hv : tv = .null ∨ ∃ t, tv = .ref t ∧ 193 ≤ t ∧ TxS S t) (hz : z ≤ 160) (hb : ∀ i, i < z → 0 ≤ V 2 i ∧ V 2 i ≤ 255) (k0 : 8 ≤ tc → K u w (some (iv (-4))) S V) (k1 : tc < 8 → ∀ t l S' V', pTx (V 2) z = (some l, z) → CT V' t l → lsO l ∧ l.length ≤ 8 → 193 ≤ t ∧ (tv = .ref t ∨ t = S.length) → (∀ k, k ≠ 115 → k < S.length → (k < t ∨ t + 6 < k) → V' k = v_up V 1 1 0 k) → TxS S' t → ce S' 115 3 [.ref 2, .int 0, .int 0, .null] → S'.length ≤ S.length + 7 → (∀ q, q < S.length → q ≠ 115 → m_nth S' q = m_nth S q) → K (u + 7) (w + 209) (some (iv (tc : Int))) (S'.set 3 (22, ta.set tc (.ref t))) (v_up V' 1 3 (tc + 1))) (k2 : tc < 8 → ∀ t q S' V', pTx (V 2) z = (none, q) → V' 115 2 = (q : Int) → q ≤ z → 193 ≤ t ∧ (tv = .ref t ∨ t = S.length) → (∀ k, k ≠ 115 → k < S.length → (k < t ∨ t + 6 < k) → V' k = v_up V 1 1 0 k) → TxS S' t → ce S' 115 3 [.ref 2, .int 0, .int 0, .ref t] → S'.length ≤ S.length + 7 → (∀ q, q < S.length → q ≠ 115 → m_nth S' q = m_nth S q) → K (u + 7) (w + 209) (some (iv (-10 - (q : Int)))) S' V') : y_R X 24 71 u w [.ref 0] S V K := by
  refine y_ent (lv' := [(0, .ref 0)]) (Nat.le_of_ble_eq_true rfl) rfl ?_
  refine y_ld (x := .ref 0) rfl rfl (fun d => rfl) ?_
  refine y_gR (i := 0) rfl rfl rfl (hC 0 _ _ rfl) rfl ?_
  refine y_gI (i := 3) (e := (tc : Int)) rfl rfl rfl (hC 1 _ _ rfl) rfl hc ?_
  refine y_bi rfl rfl (by decide) ?_
  refine y_jlt rfl rfl rfl (by omega) (fun g1 => ?_) (fun g1 => ?_)
  · refine y_ld (x := .ref 0) rfl rfl (fun d => rfl) ?_
    refine y_gR (i := 0) rfl rfl rfl (hC 0 _ _ rfl) rfl ?_
    refine y_gI (i := 1) (e := (z : Int)) rfl rfl rfl (hC 1 _ _ rfl) rfl hf ?_
    refine y_st (lv' := [(1, iv (z : Int)), (0, .ref 0)]) rfl rfl (fun d => rfl) ?_
    refine y_ld (x := .ref 0) rfl rfl (fun d => rfl) ?_
    refine y_gR (i := 0) rfl rfl rfl (hC 0 _ _ rfl) rfl ?_
    refine y_ic rfl rfl ?_
    refine y_pI (i := 1) rfl rfl rfl (hC 1 _ _ rfl) rfl rfl ?_
    refine y_ld (x := .ref 0) rfl rfl (fun d => rfl) ?_
    refine y_gR (i := 3) rfl rfl rfl (hC 0 _ _ rfl) rfl ?_
    refine y_ld (x := .ref 0) rfl rfl (fun d => rfl) ?_
    refine y_gR (i := 0) rfl rfl rfl (hC 0 _ _ rfl) rfl ?_
    refine y_gR (i := 0) rfl rfl rfl (hC 1 _ _ rfl) rfl ?_
    refine y_ld (x := iv (z : Int)) rfl rfl (fun d => rfl) ?_
    refine y_cV (as := [.ref 115, .ref 2, iv (z : Int)]) rfl rfl rfl rfl rfl hRa ⟨rfl, (Nat.le_of_ble_eq_true rfl), (Nat.le_of_ble_eq_true rfl)⟩ (by decide) (cr_reads (V := v_up V 1 1 0) hC hRa hSl hv hz (by rw [v_up_ne (by decide)]; exact hb) (fun t l S1 V1 q1 q2 q3 q4 q5 q6 q7 q8 q9 => ?_) (fun t q S1 V1 q1 q2 q3 q4 q5 q6 q7 q8 q9 => ?_))
    · have q4a : 193 ≤ t := q4.1
      have e1 : V1 1 = v_up V 1 1 0 1 := q5 1 (by decide) (by omega) (Or.inl (by exact Nat.lt_of_lt_of_le (by decide) q4a))
      have e13 : V1 1 3 = V 1 3 := by rw [e1, v_up_ni (by decide)]
      have hCn : ClF S1 := cl_fr hC q9
      have hS3 : ce S1 3 22 ta := ⟨h3.1, (q9 3 (by omega) (by decide)).trans h3.2⟩
      rw [v_up_ne (by decide)] at q1
      have e13 : V1 1 3 = (tc : Int) := e13.trans hc
      refine y_nv ?_
      refine y_st (lv' := [(2, .ref t), (1, iv (z : Int)), (0, .ref 0)]) rfl rfl (fun d => rfl) ?_
      refine y_ld (x := .ref t) rfl rfl (fun d => rfl) ?_
      refine y_in (pc' := 62) rfl rfl (fun d => rfl) ?_
      refine y_ld (x := .ref 0) rfl rfl (fun d => rfl) ?_
      refine y_gR (i := 0) rfl rfl rfl (hCn 0 _ _ rfl) rfl ?_
      refine y_gR (i := 2) rfl rfl rfl (hCn 1 _ _ rfl) rfl ?_
      refine y_ld (x := .ref 0) rfl rfl (fun d => rfl) ?_
      refine y_gR (i := 0) rfl rfl rfl (hCn 0 _ _ rfl) rfl ?_
      refine y_gI (i := 3) (e := (V1 1 3)) rfl rfl rfl (hCn 1 _ _ rfl) rfl rfl ?_
      refine y_ld (x := .ref t) rfl rfl (fun d => rfl) ?_
      refine y_S (S' := S1) rfl ?_
      refine y_rst (i := tc) (e := V1 1 3) rfl rfl hS3 (by decide) (by omega) (by omega) (by omega) (Or.inr ⟨t, _, rfl, q6.1⟩) ?_
      have hCm : ClF (S1.set 3 (22, ta.set tc (.ref t))) := cl_set hCn (by decide)
      refine y_ld (x := .ref 0) rfl rfl (fun d => rfl) ?_
      refine y_gR (i := 0) rfl rfl rfl (hCm 0 _ _ rfl) rfl ?_
      refine y_in rfl rfl (fun d => rfl) ?_
      refine y_gI (i := 3) (e := (V1 1 3)) rfl rfl rfl (hCm 1 _ _ rfl) rfl rfl ?_
      refine y_ic rfl rfl ?_
      refine y_add (z := ((V1 1 3) + 1)) rfl rfl rfl ?_
      refine y_pI (i := 3) rfl rfl rfl (hCm 1 _ _ rfl) rfl rfl ?_
      refine y_ld (x := .ref 0) rfl rfl (fun d => rfl) ?_
      refine y_gR (i := 0) rfl rfl rfl (hCm 0 _ _ rfl) rfl ?_
      refine y_gI (i := 3) (e := ((V1 1 3) + 1)) rfl rfl rfl (hCm 1 _ _ rfl) rfl rfl ?_
      refine y_ic rfl rfl ?_
      refine y_sub (z := (((V1 1 3) + 1) - 1)) rfl rfl rfl ?_
      refine y_rI rfl (Or.inl rfl) ?_
      have := k1 (by omega) t l S1 V1 q1 q2 q3 q4 q5 q6 q7 q8 q9
      rw [e13]
      rw [show (tc : Int) + 1 - 1 = (tc : Int) by omega]
      exact this
    · have q4a : 193 ≤ t := q4.1
      have e1 : V1 1 = v_up V 1 1 0 1 := q5 1 (by decide) (by omega) (Or.inl (by exact Nat.lt_of_lt_of_le (by decide) q4a))
      have e13 : V1 1 3 = V 1 3 := by rw [e1, v_up_ni (by decide)]
      have hCn : ClF S1 := cl_fr hC q9
      have hS3 : ce S1 3 22 ta := ⟨h3.1, (q9 3 (by omega) (by decide)).trans h3.2⟩
      rw [v_up_ne (by decide)] at q1
      refine y_nv ?_
      refine y_st (lv' := [(2, .null), (1, iv (z : Int)), (0, .ref 0)]) rfl rfl (fun d => rfl) ?_
      refine y_ld (x := .null) rfl rfl (fun d => rfl) ?_
      refine y_in (pc' := 51) rfl rfl (fun d => rfl) ?_
      refine y_bi rfl rfl (by decide) ?_
      refine y_ld (x := .ref 0) rfl rfl (fun d => rfl) ?_
      refine y_gR (i := 3) rfl rfl rfl (hCn 0 _ _ rfl) rfl ?_
      refine y_gI (i := 2) (e := (q : Int)) rfl rfl rfl q7 rfl q2 ?_
      refine y_sub (z := ((-10) - (q : Int))) rfl rfl rfl ?_
      refine y_rI rfl (Or.inl rfl) ?_
      exact k2 (by omega) t q S1 V1 q1 q2 q3 q4 q5 q6 q7 q8 q9
  · refine y_bi rfl rfl (by decide) ?_
    refine y_rI rfl (Or.inl rfl) ?_
    exact k0 (by omega)
end
end
section
/-! texts and boxes at their numbers; the plain questions, both sides -/
section
variable {X : Nat → List Int32} {u w : Nat} {S : m_H} {V : v_V} {K : v_K}
/-- the class' texts: the array, how many, each of them there -/
def TAx (S : m_H) (V : v_V) (ta : List Value) : Prop := ce S 3 22 ta ∧ ta.length = 8 ∧ 0 ≤ V 1 3 ∧ V 1 3 ≤ 8 ∧ ∀ i : Nat, (i : Int) < V 1 3 → ∃ t : Nat, m_nth ta i = some (.ref t) ∧ 193 ≤ t ∧ TxS S t
theorem bx_ref {S : m_H} (hC : ClF S) {i : Nat} (h : i < 8) : ∃ vs, ce S 4 23 vs ∧ m_nth vs i = some (.ref (10 + 6 * i)) :=
  match i, h with
  | 0, _ => ⟨_, hC 4 _ _ rfl, rfl⟩
  | 1, _ => ⟨_, hC 4 _ _ rfl, rfl⟩
  | 2, _ => ⟨_, hC 4 _ _ rfl, rfl⟩
  | 3, _ => ⟨_, hC 4 _ _ rfl, rfl⟩
  | 4, _ => ⟨_, hC 4 _ _ rfl, rfl⟩
  | 5, _ => ⟨_, hC 4 _ _ rfl, rfl⟩
  | 6, _ => ⟨_, hC 4 _ _ rfl, rfl⟩
  | 7, _ => ⟨_, hC 4 _ _ rfl, rfl⟩
  | n + 8, h => absurd h (by omega)
theorem bx_ob {S : m_H} (hC : ClF S) {i : Nat} (h : i < 8) : ce S (10 + 6 * i) 0 [.int 0, .int 0, .int 0, .int 0, .int 0, .ref (10 + 6 * i + 1), .ref (10 + 6 * i + 2), .ref (10 + 6 * i + 4)] :=
  match i, h with
  | 0, _ => hC 10 _ _ rfl
  | 1, _ => hC 16 _ _ rfl
  | 2, _ => hC 22 _ _ rfl
  | 3, _ => hC 28 _ _ rfl
  | 4, _ => hC 34 _ _ rfl
  | 5, _ => hC 40 _ _ rfl
  | 6, _ => hC 46 _ _ rfl
  | 7, _ => hC 52 _ _ rfl
  | n + 8, h => absurd h (by omega)
theorem bx_led {S : m_H} (hC : ClF S) {i : Nat} (h : i < 8) : v_ia S (10 + 6 * i + 1) 20 16 :=
  match i, h with
  | 0, _ => cl_ia hC rfl
  | 1, _ => cl_ia hC rfl
  | 2, _ => cl_ia hC rfl
  | 3, _ => cl_ia hC rfl
  | 4, _ => cl_ia hC rfl
  | 5, _ => cl_ia hC rfl
  | 6, _ => cl_ia hC rfl
  | 7, _ => cl_ia hC rfl
  | n + 8, h => absurd h (by omega)
theorem bx_mem {S : m_H} (hC : ClF S) {i : Nat} (h : i < 8) : ce S (10 + 6 * i + 2) 1 [.ref (10 + 6 * i + 3)] :=
  match i, h with
  | 0, _ => hC 12 _ _ rfl
  | 1, _ => hC 18 _ _ rfl
  | 2, _ => hC 24 _ _ rfl
  | 3, _ => hC 30 _ _ rfl
  | 4, _ => hC 36 _ _ rfl
  | 5, _ => hC 42 _ _ rfl
  | 6, _ => hC 48 _ _ rfl
  | 7, _ => hC 54 _ _ rfl
  | n + 8, h => absurd h (by omega)
theorem bx_mcl {S : m_H} (hC : ClF S) {i : Nat} (h : i < 8) : v_ia S (10 + 6 * i + 3) 20 84 :=
  match i, h with
  | 0, _ => cl_ia hC rfl
  | 1, _ => cl_ia hC rfl
  | 2, _ => cl_ia hC rfl
  | 3, _ => cl_ia hC rfl
  | 4, _ => cl_ia hC rfl
  | 5, _ => cl_ia hC rfl
  | 6, _ => cl_ia hC rfl
  | 7, _ => cl_ia hC rfl
  | n + 8, h => absurd h (by omega)
theorem bx_cop {S : m_H} (hC : ClF S) {i : Nat} (h : i < 8) : ce S (10 + 6 * i + 4) 1 [.ref (10 + 6 * i + 5)] :=
  match i, h with
  | 0, _ => hC 14 _ _ rfl
  | 1, _ => hC 20 _ _ rfl
  | 2, _ => hC 26 _ _ rfl
  | 3, _ => hC 32 _ _ rfl
  | 4, _ => hC 38 _ _ rfl
  | 5, _ => hC 44 _ _ rfl
  | 6, _ => hC 50 _ _ rfl
  | 7, _ => hC 56 _ _ rfl
  | n + 8, h => absurd h (by omega)
theorem bx_ccl {S : m_H} (hC : ClF S) {i : Nat} (h : i < 8) : v_ia S (10 + 6 * i + 5) 20 84 :=
  match i, h with
  | 0, _ => cl_ia hC rfl
  | 1, _ => cl_ia hC rfl
  | 2, _ => cl_ia hC rfl
  | 3, _ => cl_ia hC rfl
  | 4, _ => cl_ia hC rfl
  | 5, _ => cl_ia hC rfl
  | 6, _ => cl_ia hC rfl
  | 7, _ => cl_ia hC rfl
  | n + 8, h => absurd h (by omega)
set_option maxRecDepth 100000 in
set_option maxHeartbeats 4000000 in
theorem cb_textAt (hC : ClF S) {ta : List Value} {x : Int} (hT : TAx S V ta) (h : (-2147483648 ≤ x ∧ x < 2147483648)) (k0 : ¬ (0 ≤ x ∧ x < V 1 3) → K u w (some .null) S V) (k1 : ∀ t : Nat, 0 ≤ x ∧ x < V 1 3 → m_nth ta x.toNat = some (.ref t) → 193 ≤ t → TxS S t → K u w (some (.ref t)) S V) : y_R X 1 43 u w [.ref 1, iv x] S V K := by
  have hTa := hT.2.2.1
  have hTb := hT.2.2.2.1
  refine y_ent (lv' := [(0, .ref 1), (1, iv x)]) (Nat.le_of_ble_eq_true rfl) rfl ?_
  refine y_ld (x := iv x) rfl rfl (fun d => rfl) ?_
  refine y_zlt rfl rfl rfl (by omega) (fun g1 => ?_) (fun g1 => ?_)
  · refine y_ld rfl rfl (fun d => rfl) ?_
    refine y_ret rfl (fun d => rfl) ?_
    exact k0 (by omega)
  · refine y_ld (x := iv x) rfl rfl (fun d => rfl) ?_
    refine y_ld (x := .ref 1) rfl rfl (fun d => rfl) ?_
    refine y_gI (i := 3) (e := (V 1 3)) rfl rfl rfl (hC 1 _ _ rfl) rfl rfl ?_
    refine y_jge rfl rfl rfl (by omega) (fun g2 => ?_) (fun g2 => ?_)
    · refine y_ld rfl rfl (fun d => rfl) ?_
      refine y_ret rfl (fun d => rfl) ?_
      exact k0 (by omega)
    · refine y_ld (x := .ref 1) rfl rfl (fun d => rfl) ?_
      refine y_gR (i := 2) rfl rfl rfl (hC 1 _ _ rfl) rfl ?_
      refine y_ld (x := iv x) rfl rfl (fun d => rfl) ?_
      obtain ⟨t, ht1, ht2, ht3⟩ := hT.2.2.2.2 x.toNat (by omega)
      refine y_rld (i := x.toNat) (x := t) rfl rfl hT.1 (by decide) (by omega) rfl ht1 ?_
      refine y_go rfl rfl ?_
      refine y_ret rfl (fun d => rfl) ?_
      exact k1 t (by omega) ht1 ht2 ht3
set_option maxRecDepth 100000 in
set_option maxHeartbeats 4000000 in
theorem cb_boxAt (hC : ClF S) {x : Int} (hB : 0 ≤ V 1 5 ∧ V 1 5 ≤ 8) (h : (-2147483648 ≤ x ∧ x < 2147483648)) (k0 : ¬ (0 ≤ x ∧ x < V 1 5) → K u w (some .null) S V) (k1 : 0 ≤ x ∧ x < V 1 5 → K u w (some (.ref (10 + 6 * x.toNat))) S V) : y_R X 1 44 u w [.ref 1, iv x] S V K := by
  refine y_ent (lv' := [(0, .ref 1), (1, iv x)]) (Nat.le_of_ble_eq_true rfl) rfl ?_
  refine y_ld (x := iv x) rfl rfl (fun d => rfl) ?_
  refine y_zlt rfl rfl rfl (by omega) (fun g1 => ?_) (fun g1 => ?_)
  · refine y_ld rfl rfl (fun d => rfl) ?_
    refine y_ret rfl (fun d => rfl) ?_
    exact k0 (by omega)
  · refine y_ld (x := iv x) rfl rfl (fun d => rfl) ?_
    refine y_ld (x := .ref 1) rfl rfl (fun d => rfl) ?_
    refine y_gI (i := 5) (e := (V 1 5)) rfl rfl rfl (hC 1 _ _ rfl) rfl rfl ?_
    refine y_jge rfl rfl rfl (by omega) (fun g2 => ?_) (fun g2 => ?_)
    · refine y_ld rfl rfl (fun d => rfl) ?_
      refine y_ret rfl (fun d => rfl) ?_
      exact k0 (by omega)
    · refine y_ld (x := .ref 1) rfl rfl (fun d => rfl) ?_
      refine y_gR (i := 4) rfl rfl rfl (hC 1 _ _ rfl) rfl ?_
      refine y_ld (x := iv x) rfl rfl (fun d => rfl) ?_
      obtain ⟨vs, hb1, hb2⟩ := bx_ref hC (i := x.toNat) (by omega)
      refine y_rld (i := x.toNat) (x := 10 + 6 * x.toNat) rfl rfl hb1 (by decide) (by omega) rfl hb2 ?_
      refine y_go rfl rfl ?_
      refine y_ret rfl (fun d => rfl) ?_
      exact k1 (by omega)
set_option maxRecDepth 100000 in
set_option maxHeartbeats 4000000 in
theorem cs_lines (hC : ClF S) {ta : List Value} (hT : TAx S V ta) {x : Int} (hx : (-2147483648 ≤ x ∧ x < 2147483648)) {y : Int} (hy : (-2147483648 ≤ y ∧ y < 2147483648)) (hln : ∀ t, TxS S t → 0 ≤ V t 0 ∧ V t 0 ≤ 8) (k0 : ¬ (0 ≤ x ∧ x < V 1 3) → K u w (some (iv (-1))) S V) (k1 : ∀ t1 : Nat, 0 ≤ x ∧ x < V 1 3 → m_nth ta (x).toNat = some (.ref t1) → 193 ≤ t1 → TxS S t1 → (y : Int) < (-1) → K u w (some (iv (-1))) S V) (k2 : ∀ t1 : Nat, 0 ≤ x ∧ x < V 1 3 → m_nth ta (x).toNat = some (.ref t1) → 193 ≤ t1 → TxS S t1 → ¬ ((y : Int) < (-1)) → (y : Int) < (V t1 0) → (y : Int) ≠ (-1) → K u w (some (iv (V (t1 + 4) ((y).toNat)))) S V) (k3 : ∀ t1 : Nat, 0 ≤ x ∧ x < V 1 3 → m_nth ta (x).toNat = some (.ref t1) → 193 ≤ t1 → TxS S t1 → ¬ ((y : Int) < (-1)) → (y : Int) < (V t1 0) → ¬ ((y : Int) ≠ (-1)) → K u w (some (iv (V t1 0))) S V) (k4 : ∀ t1 : Nat, 0 ≤ x ∧ x < V 1 3 → m_nth ta (x).toNat = some (.ref t1) → 193 ≤ t1 → TxS S t1 → ¬ ((y : Int) < (-1)) → ¬ ((y : Int) < (V t1 0)) → K u w (some (iv (-1))) S V) : y_R X 2 72 u w [.ref 0, iv x, iv y] S V K := by
  have hTa := hT.2.2.1
  have hTb := hT.2.2.2.1
  refine y_ent (lv' := [(0, .ref 0), (1, iv x), (2, iv y)]) (Nat.le_of_ble_eq_true rfl) rfl ?_
  refine y_ld (x := .ref 0) rfl rfl (fun d => rfl) ?_
  refine y_gR (i := 0) rfl rfl rfl (hC 0 _ _ rfl) rfl ?_
  refine y_ld (x := iv x) rfl rfl (fun d => rfl) ?_
  refine y_cV (as := [.ref 1, iv x]) rfl rfl rfl rfl rfl (hC 1 _ _ rfl) ⟨rfl, (Nat.le_of_ble_eq_true rfl), (Nat.le_of_ble_eq_true rfl)⟩ (by decide) (cb_textAt (x := x) hC hT (by omega) (fun gt1 => ?_) (fun (t1 : Nat) gt1 ht11 ht21 ht31 => ?_))
  · refine y_nv ?_
    refine y_st (lv' := [(3, .null), (0, .ref 0), (1, iv x), (2, iv y)]) rfl rfl (fun d => rfl) ?_
    refine y_ld (x := .null) rfl rfl (fun d => rfl) ?_
    refine y_in (pc' := 26) rfl rfl (fun d => rfl) ?_
    refine y_ic rfl rfl ?_
    refine y_rI rfl (Or.inl rfl) ?_
    exact k0 gt1
  · refine y_nv ?_
    refine y_st (lv' := [(3, .ref t1), (0, .ref 0), (1, iv x), (2, iv y)]) rfl rfl (fun d => rfl) ?_
    refine y_ld (x := .ref t1) rfl rfl (fun d => rfl) ?_
    refine y_in (pc' := 13) rfl rfl (fun d => rfl) ?_
    refine y_ld (x := iv y) rfl rfl (fun d => rfl) ?_
    refine y_ic rfl rfl ?_
    refine y_jlt rfl rfl rfl (by omega) (fun g1 => ?_) (fun g1 => ?_)
    · refine y_ic rfl rfl ?_
      refine y_rI rfl (Or.inl rfl) ?_
      exact k1 t1 gt1 ht11 ht21 ht31 (by omega)
    · have hl8 := hln _ ht31
      refine y_ld (x := iv y) rfl rfl (fun d => rfl) ?_
      refine y_ld (x := .ref t1) rfl rfl (fun d => rfl) ?_
      refine y_gI (i := 0) (e := (V t1 0)) rfl rfl rfl ht31.1 rfl rfl ?_
      refine y_jlt rfl rfl rfl (by omega) (fun g2 => ?_) (fun g2 => ?_)
      · refine y_ld (x := iv y) rfl rfl (fun d => rfl) ?_
        refine y_ic rfl rfl ?_
        refine y_jne rfl rfl rfl (by omega) (fun g3 => ?_) (fun g3 => ?_)
        · refine y_ld (x := .ref t1) rfl rfl (fun d => rfl) ?_
          refine y_gR (i := 4) rfl rfl rfl ht31.1 rfl ?_
          refine y_ld (x := iv y) rfl rfl (fun d => rfl) ?_
          refine y_ild (x := (V (t1 + 4) ((y).toNat))) (q := ((y).toNat)) rfl rfl ht31.2.2.2.2.1 (by omega) (by decide) rfl rfl ?_
          refine y_rI rfl (Or.inl rfl) ?_
          exact k2 t1 gt1 ht11 ht21 ht31 (by omega) (by omega) (by omega)
        · refine y_ld (x := .ref t1) rfl rfl (fun d => rfl) ?_
          refine y_gI (i := 0) (e := (V t1 0)) rfl rfl rfl ht31.1 rfl rfl ?_
          refine y_go rfl rfl ?_
          refine y_rI rfl (Or.inl rfl) ?_
          exact k3 t1 gt1 ht11 ht21 ht31 (by omega) (by omega) (by omega)
      · refine y_ic rfl rfl ?_
        refine y_rI rfl (Or.inl rfl) ?_
        exact k4 t1 gt1 ht11 ht21 ht31 (by omega) (by omega)
set_option maxRecDepth 100000 in
set_option maxHeartbeats 4000000 in
theorem cs_latest (hC : ClF S) (hB : 0 ≤ V 1 5 ∧ V 1 5 ≤ 8) {x : Int} (hx : (-2147483648 ≤ x ∧ x < 2147483648)) (k0 : ¬ (0 ≤ x ∧ x < V 1 5) → K u w (some (iv (-1))) S V) (k1 : 0 ≤ x ∧ x < V 1 5 → K u w (some (iv (V (10 + 6 * x.toNat) 3))) S V) : y_R X 2 77 u w [.ref 0, iv x] S V K := by
  refine y_ent (lv' := [(0, .ref 0), (1, iv x)]) (Nat.le_of_ble_eq_true rfl) rfl ?_
  refine y_ld (x := .ref 0) rfl rfl (fun d => rfl) ?_
  refine y_gR (i := 0) rfl rfl rfl (hC 0 _ _ rfl) rfl ?_
  refine y_ld (x := iv x) rfl rfl (fun d => rfl) ?_
  refine y_cV (as := [.ref 1, iv x]) rfl rfl rfl rfl rfl (hC 1 _ _ rfl) ⟨rfl, (Nat.le_of_ble_eq_true rfl), (Nat.le_of_ble_eq_true rfl)⟩ (by decide) (cb_boxAt (x := x) hC hB (by omega) (fun gb1 => ?_) (fun gb1 => ?_))
  · refine y_nv ?_
    refine y_st (lv' := [(2, .null), (0, .ref 0), (1, iv x)]) rfl rfl (fun d => rfl) ?_
    refine y_ld (x := .null) rfl rfl (fun d => rfl) ?_
    refine y_in (pc' := 13) rfl rfl (fun d => rfl) ?_
    refine y_ic rfl rfl ?_
    refine y_go rfl rfl ?_
    refine y_rI rfl (Or.inl rfl) ?_
    exact k0 gb1
  · refine y_nv ?_
    refine y_st (lv' := [(2, .ref (10 + 6 * x.toNat)), (0, .ref 0), (1, iv x)]) rfl rfl (fun d => rfl) ?_
    refine y_ld (x := .ref (10 + 6 * x.toNat)) rfl rfl (fun d => rfl) ?_
    refine y_in (pc' := 17) rfl rfl (fun d => rfl) ?_
    refine y_ld (x := .ref (10 + 6 * x.toNat)) rfl rfl (fun d => rfl) ?_
    refine y_gI (i := 3) (e := (V (10 + 6 * x.toNat) 3)) rfl rfl rfl (bx_ob hC (i := x.toNat) (by omega)) rfl rfl ?_
    refine y_rI rfl (Or.inl rfl) ?_
    exact k1 gb1
set_option maxRecDepth 100000 in
set_option maxHeartbeats 4000000 in
theorem cs_led (hC : ClF S) (hB : 0 ≤ V 1 5 ∧ V 1 5 ≤ 8) {x : Int} (hx : (-2147483648 ≤ x ∧ x < 2147483648)) {y : Int} (hy : (-2147483648 ≤ y ∧ y < 2147483648)) (k0 : ¬ (0 ≤ x ∧ x < V 1 5) → K u w (some (iv (-1))) S V) (k1 : 0 ≤ x ∧ x < V 1 5 → (0 ≤ y ∧ y < 16) → K u w (some (iv (V (10 + 6 * x.toNat + 1) ((y).toNat)))) S V) (k2 : 0 ≤ x ∧ x < V 1 5 → ¬ (0 ≤ y ∧ y < 16) → K u w (some (iv (-1))) S V) : y_R X 2 81 u w [.ref 0, iv x, iv y] S V K := by
  refine y_ent (lv' := [(0, .ref 0), (1, iv x), (2, iv y)]) (Nat.le_of_ble_eq_true rfl) rfl ?_
  refine y_ld (x := .ref 0) rfl rfl (fun d => rfl) ?_
  refine y_gR (i := 0) rfl rfl rfl (hC 0 _ _ rfl) rfl ?_
  refine y_ld (x := iv x) rfl rfl (fun d => rfl) ?_
  refine y_cV (as := [.ref 1, iv x]) rfl rfl rfl rfl rfl (hC 1 _ _ rfl) ⟨rfl, (Nat.le_of_ble_eq_true rfl), (Nat.le_of_ble_eq_true rfl)⟩ (by decide) (cb_boxAt (x := x) hC hB (by omega) (fun gb1 => ?_) (fun gb1 => ?_))
  · refine y_nv ?_
    refine y_st (lv' := [(3, .null), (0, .ref 0), (1, iv x), (2, iv y)]) rfl rfl (fun d => rfl) ?_
    refine y_ld (x := .null) rfl rfl (fun d => rfl) ?_
    refine y_in (pc' := 20) rfl rfl (fun d => rfl) ?_
    refine y_ic rfl rfl ?_
    refine y_go rfl rfl ?_
    refine y_rI rfl (Or.inl rfl) ?_
    exact k0 gb1
  · refine y_nv ?_
    refine y_st (lv' := [(3, .ref (10 + 6 * x.toNat)), (0, .ref 0), (1, iv x), (2, iv y)]) rfl rfl (fun d => rfl) ?_
    refine y_ld (x := .ref (10 + 6 * x.toNat)) rfl rfl (fun d => rfl) ?_
    refine y_in (pc' := 13) rfl rfl (fun d => rfl) ?_
    refine y_ld (x := iv y) rfl rfl (fun d => rfl) ?_
    refine y_cS (as := [iv y]) rfl (by decide) rfl rfl rfl rfl ⟨(Nat.le_of_ble_eq_true rfl), (Nat.le_of_ble_eq_true rfl)⟩ (by decide) (cc_isTalk (by omega) ?_)
    refine y_nv ?_
    refine y_bne rfl rfl rfl (fun g1 => ?_) (fun g1 => ?_)
    · refine y_ld (x := .ref (10 + 6 * x.toNat)) rfl rfl (fun d => rfl) ?_
      refine y_gR (i := 5) rfl rfl rfl (bx_ob hC (i := x.toNat) (by omega)) rfl ?_
      refine y_ld (x := iv y) rfl rfl (fun d => rfl) ?_
      refine y_ild (x := (V (10 + 6 * x.toNat + 1) ((y).toNat))) (q := ((y).toNat)) rfl rfl (bx_led hC (i := x.toNat) (by omega)) (by omega) (by decide) rfl rfl ?_
      refine y_rI rfl (Or.inl rfl) ?_
      exact k1 gb1 g1
    · refine y_ic rfl rfl ?_
      refine y_go rfl rfl ?_
      refine y_rI rfl (Or.inl rfl) ?_
      exact k2 gb1 g1
end
end
section
/-! the plain questions, further: cells, packets refused -/
section
variable {X : Nat → List Int32} {u w : Nat} {S : m_H} {V : v_V} {K : v_K}
set_option maxRecDepth 100000 in
set_option maxHeartbeats 4000000 in
theorem cc_at {m c : Nat} (hm : MeS S m c) {x : Int} (h : 0 ≤ x ∧ x < 84) (k : K u w (some (iv (V c x.toNat))) S V) : y_R X 1 9 u w [.ref m, iv x] S V K := by
  refine y_ent (lv' := [(0, .ref m), (1, iv x)]) (Nat.le_of_ble_eq_true rfl) rfl ?_
  refine y_ld (x := iv x) rfl rfl (fun d => rfl) ?_
  refine y_zlt rfl rfl rfl (by omega) (fun g1 => absurd g1 (by omega)) (fun g1 => ?_)
  refine y_ld (x := iv x) rfl rfl (fun d => rfl) ?_
  refine y_bi rfl rfl (by decide) ?_
  refine y_jge rfl rfl rfl (by omega) (fun g2 => absurd g2 (by omega)) (fun g2 => ?_)
  refine y_ld (x := .ref m) rfl rfl (fun d => rfl) ?_
  refine y_gR (i := 0) rfl rfl rfl hm.1 rfl ?_
  refine y_ld (x := iv x) rfl rfl (fun d => rfl) ?_
  refine y_ild (x := (V c ((x).toNat))) (q := ((x).toNat)) rfl rfl hm.2 (by omega) (by decide) rfl rfl ?_
  refine y_go rfl rfl ?_
  refine y_rI rfl (Or.inl rfl) ?_
  exact k
def z_pl (c t h : Int) : Int := if c < 4 then t * 4 + c else if c < 8 then 64 + h * 4 + c - 4 else 80 + c - 8
theorem z_pl_lt {c t h : Int} (hc : 0 ≤ c ∧ c < 12) (h1 : c < 4 → 0 ≤ t ∧ t < 16) (h2 : 4 ≤ c → c < 8 → 0 ≤ h ∧ h < 4) : 0 ≤ z_pl c t h ∧ z_pl c t h < 84 := by
  unfold z_pl
  split
  · omega
  · split <;> omega
set_option maxRecDepth 100000 in
set_option maxHeartbeats 4000000 in
theorem cc_placeOf {x t h : Int} (hc : 0 ≤ x ∧ x < 12) (h1 : x < 4 → 0 ≤ t ∧ t < 16) (h2 : 4 ≤ x → x < 8 → 0 ≤ h ∧ h < 4) (k : K u w (some (iv (z_pl x t h))) S V) : y_R X 1 103 u w [iv x, iv t, iv h] S V K := by
  refine y_ent (lv' := [(0, iv x), (1, iv t), (2, iv h)]) (Nat.le_of_ble_eq_true rfl) rfl ?_
  refine y_ld (x := iv x) rfl rfl (fun d => rfl) ?_
  refine y_ic rfl rfl ?_
  refine y_jge rfl rfl rfl (by omega) (fun g1 => ?_) (fun g1 => ?_)
  · refine y_ld (x := iv x) rfl rfl (fun d => rfl) ?_
    refine y_bi rfl rfl (by decide) ?_
    refine y_jge rfl rfl rfl (by omega) (fun g2 => ?_) (fun g2 => ?_)
    · refine y_bi rfl rfl (by decide) ?_
      refine y_ld (x := iv x) rfl rfl (fun d => rfl) ?_
      refine y_add (z := (80 + x)) rfl rfl rfl ?_
      refine y_bi rfl rfl (by decide) ?_
      refine y_sub (z := ((80 + x) - 8)) rfl rfl rfl ?_
      refine y_rI rfl (Or.inl rfl) ?_
      have e : z_pl x t h = (80 + x) - 8 := by
        unfold z_pl
        split
        · omega
        · split <;> omega
      rwa [e] at k
    · refine y_bi rfl rfl (by decide) ?_
      refine y_ld (x := iv h) rfl rfl (fun d => rfl) ?_
      refine y_ic rfl rfl ?_
      refine y_mul (z := (h * 4)) rfl rfl rfl ?_
      refine y_add (z := (64 + (h * 4))) rfl rfl rfl ?_
      refine y_ld (x := iv x) rfl rfl (fun d => rfl) ?_
      refine y_add (z := ((64 + (h * 4)) + x)) rfl rfl rfl ?_
      refine y_ic rfl rfl ?_
      refine y_sub (z := (((64 + (h * 4)) + x) - 4)) rfl rfl rfl ?_
      refine y_rI rfl (Or.inl rfl) ?_
      have e : z_pl x t h = ((64 + (h * 4)) + x) - 4 := by
        unfold z_pl
        split
        · omega
        · split <;> omega
      rwa [e] at k
  · refine y_ld (x := iv t) rfl rfl (fun d => rfl) ?_
    refine y_ic rfl rfl ?_
    refine y_mul (z := (t * 4)) rfl rfl rfl ?_
    refine y_ld (x := iv x) rfl rfl (fun d => rfl) ?_
    refine y_add (z := ((t * 4) + x)) rfl rfl rfl ?_
    refine y_rI rfl (Or.inl rfl) ?_
    have e : z_pl x t h = (t * 4) + x := by
      unfold z_pl
      split
      · omega
      · split <;> omega
    rwa [e] at k
def z_rf (t h k n : Int) : Int := if (0 ≤ t ∧ t < 16) ∧ (0 ≤ h ∧ h < 4) ∧ (0 ≤ k ∧ k < 4) then (if 0 ≤ n ∧ n ≤ 99 then 0 else -2) else -1
set_option maxRecDepth 100000 in
set_option maxHeartbeats 4000000 in
theorem cc_refusalOf {t h y n : Int} (e : (-2147483648 ≤ t ∧ t < 2147483648) ∧ (-2147483648 ≤ h ∧ h < 2147483648) ∧ (-2147483648 ≤ y ∧ y < 2147483648) ∧ (-2147483648 ≤ n ∧ n < 2147483648)) (k : K u w (some (iv (z_rf t h y n))) S V) : y_R X 2 97 u w [iv t, iv h, iv y, iv n] S V K := by
  refine y_ent (lv' := [(0, iv t), (1, iv h), (2, iv y), (3, iv n)]) (Nat.le_of_ble_eq_true rfl) rfl ?_
  refine y_ld (x := iv t) rfl rfl (fun d => rfl) ?_
  refine y_cS (as := [iv t]) rfl (by decide) rfl rfl rfl rfl ⟨(Nat.le_of_ble_eq_true rfl), (Nat.le_of_ble_eq_true rfl)⟩ (by decide) (cc_isTalk (by omega) ?_)
  refine y_nv ?_
  refine y_beq rfl rfl rfl (fun g1 => ?_) (fun g1 => ?_)
  · refine y_ic rfl rfl ?_
    refine y_rI rfl (Or.inl rfl) ?_
    rwa [z_rf, if_neg (by omega)] at k
  · refine y_ld (x := iv h) rfl rfl (fun d => rfl) ?_
    refine y_zlt rfl rfl rfl (by omega) (fun g2 => ?_) (fun g2 => ?_)
    · refine y_ic rfl rfl ?_
      refine y_rI rfl (Or.inl rfl) ?_
      rwa [z_rf, if_neg (by omega)] at k
    · refine y_ld (x := iv h) rfl rfl (fun d => rfl) ?_
      refine y_ic rfl rfl ?_
      refine y_jge rfl rfl rfl (by omega) (fun g3 => ?_) (fun g3 => ?_)
      · refine y_ic rfl rfl ?_
        refine y_rI rfl (Or.inl rfl) ?_
        rwa [z_rf, if_neg (by omega)] at k
      · refine y_ld (x := iv y) rfl rfl (fun d => rfl) ?_
        refine y_zlt rfl rfl rfl (by omega) (fun g4 => ?_) (fun g4 => ?_)
        · refine y_ic rfl rfl ?_
          refine y_rI rfl (Or.inl rfl) ?_
          rwa [z_rf, if_neg (by omega)] at k
        · refine y_ld (x := iv y) rfl rfl (fun d => rfl) ?_
          refine y_ic rfl rfl ?_
          refine y_jlt rfl rfl rfl (by omega) (fun g5 => ?_) (fun g5 => ?_)
          · refine y_ld (x := iv n) rfl rfl (fun d => rfl) ?_
            refine y_cS (as := [iv n]) rfl (by decide) rfl rfl rfl rfl ⟨(Nat.le_of_ble_eq_true rfl), (Nat.le_of_ble_eq_true rfl)⟩ (by decide) (cc_isN (by omega) ?_)
            refine y_nv ?_
            refine y_beq rfl rfl rfl (fun g6 => ?_) (fun g6 => ?_)
            · refine y_bi rfl rfl (by decide) ?_
              refine y_rI rfl (Or.inl rfl) ?_
              rwa [z_rf, if_pos (by omega), if_neg (by omega)] at k
            · refine y_ic rfl rfl ?_
              refine y_go rfl rfl ?_
              refine y_rI rfl (Or.inl rfl) ?_
              rwa [z_rf, if_pos (by omega), if_pos (by omega)] at k
          · refine y_ic rfl rfl ?_
            refine y_rI rfl (Or.inl rfl) ?_
            rwa [z_rf, if_neg (by omega)] at k
set_option maxRecDepth 100000 in
set_option maxHeartbeats 4000000 in
theorem cs_cell (hC : ClF S) (hB : 0 ≤ V 1 5 ∧ V 1 5 ≤ 8) {x : Int} (hx : (-2147483648 ≤ x ∧ x < 2147483648)) {l : Int} (hl : (-2147483648 ≤ l ∧ l < 2147483648)) {d : Int} (hd : (-2147483648 ≤ d ∧ d < 2147483648)) {o : Int} (ho : (-2147483648 ≤ o ∧ o < 2147483648)) (k0 : ¬ (0 ≤ x ∧ x < V 1 5) → K u w (some (iv (-2147483648))) S V) (k1 : 0 ≤ x ∧ x < V 1 5 → (l : Int) < 0 → K u w (some (iv (-2147483648))) S V) (k2 : 0 ≤ x ∧ x < V 1 5 → ¬ ((l : Int) < 0) → (l : Int) < 3 → (d : Int) < 0 → K u w (some (iv (-2147483648))) S V) (k3 : 0 ≤ x ∧ x < V 1 5 → ¬ ((l : Int) < 0) → (l : Int) < 3 → ¬ ((d : Int) < 0) → (d : Int) < 4 → (l : Int) ≠ 0 → (l : Int) ≠ 1 → K u w (some (iv (V (10 + 6 * x.toNat + 3) (z_pl ((l * 4) + d) o o).toNat))) S V) (k4 : 0 ≤ x ∧ x < V 1 5 → ¬ ((l : Int) < 0) → (l : Int) < 3 → ¬ ((d : Int) < 0) → (d : Int) < 4 → (l : Int) ≠ 0 → ¬ ((l : Int) ≠ 1) → (o : Int) < 0 → K u w (some (iv (-2147483648))) S V) (k5 : 0 ≤ x ∧ x < V 1 5 → ¬ ((l : Int) < 0) → (l : Int) < 3 → ¬ ((d : Int) < 0) → (d : Int) < 4 → (l : Int) ≠ 0 → ¬ ((l : Int) ≠ 1) → ¬ ((o : Int) < 0) → (o : Int) < 4 → K u w (some (iv (V (10 + 6 * x.toNat + 3) (z_pl ((l * 4) + d) o o).toNat))) S V) (k6 : 0 ≤ x ∧ x < V 1 5 → ¬ ((l : Int) < 0) → (l : Int) < 3 → ¬ ((d : Int) < 0) → (d : Int) < 4 → (l : Int) ≠ 0 → ¬ ((l : Int) ≠ 1) → ¬ ((o : Int) < 0) → ¬ ((o : Int) < 4) → K u w (some (iv (-2147483648))) S V) (k7 : 0 ≤ x ∧ x < V 1 5 → ¬ ((l : Int) < 0) → (l : Int) < 3 → ¬ ((d : Int) < 0) → (d : Int) < 4 → ¬ ((l : Int) ≠ 0) → ¬ (0 ≤ o ∧ o < 16) → K u w (some (iv (-2147483648))) S V) (k8 : 0 ≤ x ∧ x < V 1 5 → ¬ ((l : Int) < 0) → (l : Int) < 3 → ¬ ((d : Int) < 0) → (d : Int) < 4 → ¬ ((l : Int) ≠ 0) → (0 ≤ o ∧ o < 16) → (l : Int) ≠ 1 → K u w (some (iv (V (10 + 6 * x.toNat + 3) (z_pl ((l * 4) + d) o o).toNat))) S V) (k9 : 0 ≤ x ∧ x < V 1 5 → ¬ ((l : Int) < 0) → (l : Int) < 3 → ¬ ((d : Int) < 0) → (d : Int) < 4 → ¬ ((l : Int) ≠ 0) → (0 ≤ o ∧ o < 16) → ¬ ((l : Int) ≠ 1) → (o : Int) < 0 → K u w (some (iv (-2147483648))) S V) (k10 : 0 ≤ x ∧ x < V 1 5 → ¬ ((l : Int) < 0) → (l : Int) < 3 → ¬ ((d : Int) < 0) → (d : Int) < 4 → ¬ ((l : Int) ≠ 0) → (0 ≤ o ∧ o < 16) → ¬ ((l : Int) ≠ 1) → ¬ ((o : Int) < 0) → (o : Int) < 4 → K u w (some (iv (V (10 + 6 * x.toNat + 3) (z_pl ((l * 4) + d) o o).toNat))) S V) (k11 : 0 ≤ x ∧ x < V 1 5 → ¬ ((l : Int) < 0) → (l : Int) < 3 → ¬ ((d : Int) < 0) → (d : Int) < 4 → ¬ ((l : Int) ≠ 0) → (0 ≤ o ∧ o < 16) → ¬ ((l : Int) ≠ 1) → ¬ ((o : Int) < 0) → ¬ ((o : Int) < 4) → K u w (some (iv (-2147483648))) S V) (k12 : 0 ≤ x ∧ x < V 1 5 → ¬ ((l : Int) < 0) → (l : Int) < 3 → ¬ ((d : Int) < 0) → ¬ ((d : Int) < 4) → K u w (some (iv (-2147483648))) S V) (k13 : 0 ≤ x ∧ x < V 1 5 → ¬ ((l : Int) < 0) → ¬ ((l : Int) < 3) → K u w (some (iv (-2147483648))) S V) : y_R X 2 76 u w [.ref 0, iv x, iv l, iv d, iv o] S V K := by
  refine y_ent (lv' := [(0, .ref 0), (1, iv x), (2, iv l), (3, iv d), (4, iv o)]) (Nat.le_of_ble_eq_true rfl) rfl ?_
  refine y_ld (x := .ref 0) rfl rfl (fun d => rfl) ?_
  refine y_gR (i := 0) rfl rfl rfl (hC 0 _ _ rfl) rfl ?_
  refine y_ld (x := iv x) rfl rfl (fun d => rfl) ?_
  refine y_cV (as := [.ref 1, iv x]) rfl rfl rfl rfl rfl (hC 1 _ _ rfl) ⟨rfl, (Nat.le_of_ble_eq_true rfl), (Nat.le_of_ble_eq_true rfl)⟩ (by decide) (cb_boxAt (x := x) hC hB (by omega) (fun gb1 => ?_) (fun gb1 => ?_))
  · refine y_nv ?_
    refine y_st (lv' := [(5, .null), (0, .ref 0), (1, iv x), (2, iv l), (3, iv d), (4, iv o)]) rfl rfl (fun d => rfl) ?_
    refine y_ld (x := .null) rfl rfl (fun d => rfl) ?_
    refine y_in (pc' := 24) rfl rfl (fun d => rfl) ?_
    refine y_ld (x := iv (-2147483648)) rfl rfl (fun d => rfl) ?_
    refine y_rI rfl (Or.inl rfl) ?_
    exact k0 gb1
  · refine y_nv ?_
    refine y_st (lv' := [(5, .ref (10 + 6 * x.toNat)), (0, .ref 0), (1, iv x), (2, iv l), (3, iv d), (4, iv o)]) rfl rfl (fun d => rfl) ?_
    refine y_ld (x := .ref (10 + 6 * x.toNat)) rfl rfl (fun d => rfl) ?_
    refine y_in (pc' := 15) rfl rfl (fun d => rfl) ?_
    refine y_ld (x := iv l) rfl rfl (fun d => rfl) ?_
    refine y_zlt rfl rfl rfl (by omega) (fun g1 => ?_) (fun g1 => ?_)
    · refine y_ld (x := iv (-2147483648)) rfl rfl (fun d => rfl) ?_
      refine y_rI rfl (Or.inl rfl) ?_
      exact k1 gb1 (by omega)
    · refine y_ld (x := iv l) rfl rfl (fun d => rfl) ?_
      refine y_ic rfl rfl ?_
      refine y_jlt rfl rfl rfl (by omega) (fun g2 => ?_) (fun g2 => ?_)
      · refine y_ld (x := iv d) rfl rfl (fun d => rfl) ?_
        refine y_zlt rfl rfl rfl (by omega) (fun g3 => ?_) (fun g3 => ?_)
        · refine y_ld (x := iv (-2147483648)) rfl rfl (fun d => rfl) ?_
          refine y_rI rfl (Or.inl rfl) ?_
          exact k2 gb1 (by omega) (by omega) (by omega)
        · refine y_ld (x := iv d) rfl rfl (fun d => rfl) ?_
          refine y_ic rfl rfl ?_
          refine y_jlt rfl rfl rfl (by omega) (fun g4 => ?_) (fun g4 => ?_)
          · refine y_ld (x := iv l) rfl rfl (fun d => rfl) ?_
            refine y_zne rfl rfl rfl (by omega) (fun g5 => ?_) (fun g5 => ?_)
            · refine y_ld (x := iv l) rfl rfl (fun d => rfl) ?_
              refine y_ic rfl rfl ?_
              refine y_jne rfl rfl rfl (by omega) (fun g6 => ?_) (fun g6 => ?_)
              · refine y_ld (x := .ref (10 + 6 * x.toNat)) rfl rfl (fun d => rfl) ?_
                refine y_gR (i := 6) rfl rfl rfl (bx_ob hC (i := x.toNat) (by omega)) rfl ?_
                refine y_ld (x := iv l) rfl rfl (fun d => rfl) ?_
                refine y_ic rfl rfl ?_
                refine y_mul (z := (l * 4)) rfl rfl rfl ?_
                refine y_ld (x := iv d) rfl rfl (fun d => rfl) ?_
                refine y_add (z := ((l * 4) + d)) rfl rfl rfl ?_
                refine y_ld (x := iv o) rfl rfl (fun d => rfl) ?_
                refine y_ld (x := iv o) rfl rfl (fun d => rfl) ?_
                have hz := z_pl_lt (c := (l * 4) + d) (t := o) (h := o) (by omega) (by omega) (by omega)
                refine y_cS (as := [iv ((l * 4) + d), iv o, iv o]) rfl (by decide) rfl rfl rfl rfl ⟨(Nat.le_of_ble_eq_true rfl), (Nat.le_of_ble_eq_true rfl)⟩ (by decide) (cc_placeOf (by omega) (by omega) (by omega) ?_)
                refine y_nv ?_
                refine y_cV (as := [.ref (10 + 6 * x.toNat + 2), iv (z_pl ((l * 4) + d) o o)]) rfl rfl rfl rfl rfl (bx_mem hC (i := x.toNat) (by omega)) ⟨rfl, (Nat.le_of_ble_eq_true rfl), (Nat.le_of_ble_eq_true rfl)⟩ (by decide) (cc_at ⟨(bx_mem hC (i := x.toNat) (by omega)), (bx_mcl hC (i := x.toNat) (by omega))⟩ (by omega) ?_)
                refine y_nv ?_
                refine y_rI rfl (Or.inl rfl) ?_
                exact k3 gb1 (by omega) (by omega) (by omega) (by omega) (by omega) (by omega)
              · refine y_ld (x := iv o) rfl rfl (fun d => rfl) ?_
                refine y_zlt rfl rfl rfl (by omega) (fun g7 => ?_) (fun g7 => ?_)
                · refine y_ld (x := iv (-2147483648)) rfl rfl (fun d => rfl) ?_
                  refine y_rI rfl (Or.inl rfl) ?_
                  exact k4 gb1 (by omega) (by omega) (by omega) (by omega) (by omega) (by omega) (by omega)
                · refine y_ld (x := iv o) rfl rfl (fun d => rfl) ?_
                  refine y_ic rfl rfl ?_
                  refine y_jlt rfl rfl rfl (by omega) (fun g8 => ?_) (fun g8 => ?_)
                  · refine y_ld (x := .ref (10 + 6 * x.toNat)) rfl rfl (fun d => rfl) ?_
                    refine y_gR (i := 6) rfl rfl rfl (bx_ob hC (i := x.toNat) (by omega)) rfl ?_
                    refine y_ld (x := iv l) rfl rfl (fun d => rfl) ?_
                    refine y_ic rfl rfl ?_
                    refine y_mul (z := (l * 4)) rfl rfl rfl ?_
                    refine y_ld (x := iv d) rfl rfl (fun d => rfl) ?_
                    refine y_add (z := ((l * 4) + d)) rfl rfl rfl ?_
                    refine y_ld (x := iv o) rfl rfl (fun d => rfl) ?_
                    refine y_ld (x := iv o) rfl rfl (fun d => rfl) ?_
                    have hz := z_pl_lt (c := (l * 4) + d) (t := o) (h := o) (by omega) (by omega) (by omega)
                    refine y_cS (as := [iv ((l * 4) + d), iv o, iv o]) rfl (by decide) rfl rfl rfl rfl ⟨(Nat.le_of_ble_eq_true rfl), (Nat.le_of_ble_eq_true rfl)⟩ (by decide) (cc_placeOf (by omega) (by omega) (by omega) ?_)
                    refine y_nv ?_
                    refine y_cV (as := [.ref (10 + 6 * x.toNat + 2), iv (z_pl ((l * 4) + d) o o)]) rfl rfl rfl rfl rfl (bx_mem hC (i := x.toNat) (by omega)) ⟨rfl, (Nat.le_of_ble_eq_true rfl), (Nat.le_of_ble_eq_true rfl)⟩ (by decide) (cc_at ⟨(bx_mem hC (i := x.toNat) (by omega)), (bx_mcl hC (i := x.toNat) (by omega))⟩ (by omega) ?_)
                    refine y_nv ?_
                    refine y_rI rfl (Or.inl rfl) ?_
                    exact k5 gb1 (by omega) (by omega) (by omega) (by omega) (by omega) (by omega) (by omega) (by omega)
                  · refine y_ld (x := iv (-2147483648)) rfl rfl (fun d => rfl) ?_
                    refine y_rI rfl (Or.inl rfl) ?_
                    exact k6 gb1 (by omega) (by omega) (by omega) (by omega) (by omega) (by omega) (by omega) (by omega)
            · refine y_ld (x := iv o) rfl rfl (fun d => rfl) ?_
              refine y_cS (as := [iv o]) rfl (by decide) rfl rfl rfl rfl ⟨(Nat.le_of_ble_eq_true rfl), (Nat.le_of_ble_eq_true rfl)⟩ (by decide) (cc_isTalk (by omega) ?_)
              refine y_nv ?_
              refine y_beq rfl rfl rfl (fun g9 => ?_) (fun g9 => ?_)
              · refine y_ld (x := iv (-2147483648)) rfl rfl (fun d => rfl) ?_
                refine y_rI rfl (Or.inl rfl) ?_
                exact k7 gb1 (by omega) (by omega) (by omega) (by omega) (by omega) g9
              · refine y_ld (x := iv l) rfl rfl (fun d => rfl) ?_
                refine y_ic rfl rfl ?_
                refine y_jne rfl rfl rfl (by omega) (fun g10 => ?_) (fun g10 => ?_)
                · refine y_ld (x := .ref (10 + 6 * x.toNat)) rfl rfl (fun d => rfl) ?_
                  refine y_gR (i := 6) rfl rfl rfl (bx_ob hC (i := x.toNat) (by omega)) rfl ?_
                  refine y_ld (x := iv l) rfl rfl (fun d => rfl) ?_
                  refine y_ic rfl rfl ?_
                  refine y_mul (z := (l * 4)) rfl rfl rfl ?_
                  refine y_ld (x := iv d) rfl rfl (fun d => rfl) ?_
                  refine y_add (z := ((l * 4) + d)) rfl rfl rfl ?_
                  refine y_ld (x := iv o) rfl rfl (fun d => rfl) ?_
                  refine y_ld (x := iv o) rfl rfl (fun d => rfl) ?_
                  have hz := z_pl_lt (c := (l * 4) + d) (t := o) (h := o) (by omega) (by omega) (by omega)
                  refine y_cS (as := [iv ((l * 4) + d), iv o, iv o]) rfl (by decide) rfl rfl rfl rfl ⟨(Nat.le_of_ble_eq_true rfl), (Nat.le_of_ble_eq_true rfl)⟩ (by decide) (cc_placeOf (by omega) (by omega) (by omega) ?_)
                  refine y_nv ?_
                  refine y_cV (as := [.ref (10 + 6 * x.toNat + 2), iv (z_pl ((l * 4) + d) o o)]) rfl rfl rfl rfl rfl (bx_mem hC (i := x.toNat) (by omega)) ⟨rfl, (Nat.le_of_ble_eq_true rfl), (Nat.le_of_ble_eq_true rfl)⟩ (by decide) (cc_at ⟨(bx_mem hC (i := x.toNat) (by omega)), (bx_mcl hC (i := x.toNat) (by omega))⟩ (by omega) ?_)
                  refine y_nv ?_
                  refine y_rI rfl (Or.inl rfl) ?_
                  exact k8 gb1 (by omega) (by omega) (by omega) (by omega) (by omega) g9 (by omega)
                · refine y_ld (x := iv o) rfl rfl (fun d => rfl) ?_
                  refine y_zlt rfl rfl rfl (by omega) (fun g11 => ?_) (fun g11 => ?_)
                  · refine y_ld (x := iv (-2147483648)) rfl rfl (fun d => rfl) ?_
                    refine y_rI rfl (Or.inl rfl) ?_
                    exact k9 gb1 (by omega) (by omega) (by omega) (by omega) (by omega) g9 (by omega) (by omega)
                  · refine y_ld (x := iv o) rfl rfl (fun d => rfl) ?_
                    refine y_ic rfl rfl ?_
                    refine y_jlt rfl rfl rfl (by omega) (fun g12 => ?_) (fun g12 => ?_)
                    · refine y_ld (x := .ref (10 + 6 * x.toNat)) rfl rfl (fun d => rfl) ?_
                      refine y_gR (i := 6) rfl rfl rfl (bx_ob hC (i := x.toNat) (by omega)) rfl ?_
                      refine y_ld (x := iv l) rfl rfl (fun d => rfl) ?_
                      refine y_ic rfl rfl ?_
                      refine y_mul (z := (l * 4)) rfl rfl rfl ?_
                      refine y_ld (x := iv d) rfl rfl (fun d => rfl) ?_
                      refine y_add (z := ((l * 4) + d)) rfl rfl rfl ?_
                      refine y_ld (x := iv o) rfl rfl (fun d => rfl) ?_
                      refine y_ld (x := iv o) rfl rfl (fun d => rfl) ?_
                      have hz := z_pl_lt (c := (l * 4) + d) (t := o) (h := o) (by omega) (by omega) (by omega)
                      refine y_cS (as := [iv ((l * 4) + d), iv o, iv o]) rfl (by decide) rfl rfl rfl rfl ⟨(Nat.le_of_ble_eq_true rfl), (Nat.le_of_ble_eq_true rfl)⟩ (by decide) (cc_placeOf (by omega) (by omega) (by omega) ?_)
                      refine y_nv ?_
                      refine y_cV (as := [.ref (10 + 6 * x.toNat + 2), iv (z_pl ((l * 4) + d) o o)]) rfl rfl rfl rfl rfl (bx_mem hC (i := x.toNat) (by omega)) ⟨rfl, (Nat.le_of_ble_eq_true rfl), (Nat.le_of_ble_eq_true rfl)⟩ (by decide) (cc_at ⟨(bx_mem hC (i := x.toNat) (by omega)), (bx_mcl hC (i := x.toNat) (by omega))⟩ (by omega) ?_)
                      refine y_nv ?_
                      refine y_rI rfl (Or.inl rfl) ?_
                      exact k10 gb1 (by omega) (by omega) (by omega) (by omega) (by omega) g9 (by omega) (by omega) (by omega)
                    · refine y_ld (x := iv (-2147483648)) rfl rfl (fun d => rfl) ?_
                      refine y_rI rfl (Or.inl rfl) ?_
                      exact k11 gb1 (by omega) (by omega) (by omega) (by omega) (by omega) g9 (by omega) (by omega) (by omega)
          · refine y_ld (x := iv (-2147483648)) rfl rfl (fun d => rfl) ?_
            refine y_rI rfl (Or.inl rfl) ?_
            exact k12 gb1 (by omega) (by omega) (by omega) (by omega)
      · refine y_ld (x := iv (-2147483648)) rfl rfl (fun d => rfl) ?_
        refine y_rI rfl (Or.inl rfl) ?_
        exact k13 gb1 (by omega) (by omega)
set_option maxRecDepth 100000 in
set_option maxHeartbeats 4000000 in
theorem cs_trace (hC : ClF S) {x : Int} (hx : (-2147483648 ≤ x ∧ x < 2147483648)) (hr : 0 ≤ V 8 1 ∧ V 8 1 < 2147483648) (k0 : (x : Int) < 0 → K u w (some (iv (-1))) S V) (k1 : ¬ ((x : Int) < 0) → (x : Int) ≥ (V 8 1) → K u w (some (iv (-1))) S V) (k2 : ¬ ((x : Int) < 0) → ¬ ((x : Int) ≥ (V 8 1)) → (x : Int) < 20 → K u w (some (iv (V 9 ((x).toNat)))) S V) (k3 : ¬ ((x : Int) < 0) → ¬ ((x : Int) ≥ (V 8 1)) → ¬ ((x : Int) < 20) → K u w (some (iv (-1))) S V) : y_R X 1 92 u w [.ref 0, iv x] S V K := by
  refine y_ent (lv' := [(0, .ref 0), (1, iv x)]) (Nat.le_of_ble_eq_true rfl) rfl ?_
  refine y_ld (x := iv x) rfl rfl (fun d => rfl) ?_
  refine y_zlt rfl rfl rfl (by omega) (fun g1 => ?_) (fun g1 => ?_)
  · refine y_ic rfl rfl ?_
    refine y_go rfl rfl ?_
    refine y_rI rfl (Or.inl rfl) ?_
    exact k0 (by omega)
  · refine y_ld (x := iv x) rfl rfl (fun d => rfl) ?_
    refine y_ld (x := .ref 0) rfl rfl (fun d => rfl) ?_
    refine y_gR (i := 0) rfl rfl rfl (hC 0 _ _ rfl) rfl ?_
    refine y_gR (i := 13) rfl rfl rfl (hC 1 _ _ rfl) rfl ?_
    refine y_gI (i := 1) (e := (V 8 1)) rfl rfl rfl (hC 8 _ _ rfl) rfl rfl ?_
    refine y_jge rfl rfl rfl (by omega) (fun g2 => ?_) (fun g2 => ?_)
    · refine y_ic rfl rfl ?_
      refine y_go rfl rfl ?_
      refine y_rI rfl (Or.inl rfl) ?_
      exact k1 (by omega) (by omega)
    · refine y_ld (x := iv x) rfl rfl (fun d => rfl) ?_
      refine y_bi rfl rfl (by decide) ?_
      refine y_jlt rfl rfl rfl (by omega) (fun g3 => ?_) (fun g3 => ?_)
      · refine y_ld (x := .ref 0) rfl rfl (fun d => rfl) ?_
        refine y_gR (i := 0) rfl rfl rfl (hC 0 _ _ rfl) rfl ?_
        refine y_gR (i := 13) rfl rfl rfl (hC 1 _ _ rfl) rfl ?_
        refine y_gR (i := 0) rfl rfl rfl (hC 8 _ _ rfl) rfl ?_
        refine y_ld (x := iv x) rfl rfl (fun d => rfl) ?_
        refine y_ild (x := (V 9 ((x).toNat))) (q := ((x).toNat)) rfl rfl (cl_ia hC (k := 9) (N := 20) rfl) (by omega) (by decide) rfl rfl ?_
        refine y_rI rfl (Or.inl rfl) ?_
        exact k2 (by omega) (by omega) (by omega)
      · refine y_ic rfl rfl ?_
        refine y_go rfl rfl ?_
        refine y_rI rfl (Or.inl rfl) ?_
        exact k3 (by omega) (by omega) (by omega)
set_option maxRecDepth 100000 in
set_option maxHeartbeats 4000000 in
theorem ms_latest (hM : MdS S) (hB : 0 ≤ V 171 1 ∧ V 171 1 ≤ 8) {x : Int} (hx : (-2147483648 ≤ x ∧ x < 2147483648)) (k0 : ¬ (0 ≤ x ∧ x ≤ V 171 1 - 1) → K u w (some (iv (-1))) S V) (k1 : (0 ≤ x ∧ x ≤ V 171 1 - 1) → K u w (some (iv (V 171 ((186 + x).toNat)))) S V) : y_R X 3 139 u w [.ref 170, iv x] S V K := by
  refine y_ent (lv' := [(0, .ref 170), (1, iv x)]) (Nat.le_of_ble_eq_true rfl) rfl ?_
  refine y_ld (x := .ref 170) rfl rfl (fun d => rfl) ?_
  refine y_ld (x := iv x) rfl rfl (fun d => rfl) ?_
  refine y_cV (as := [.ref 170, iv x]) rfl rfl rfl rfl rfl (md170 hM) ⟨rfl, (Nat.le_of_ble_eq_true rfl), (Nat.le_of_ble_eq_true rfl)⟩ (by decide) (ct_isBox hM (by omega) ⟨rfl, by omega⟩ ?_)
  refine y_nv ?_
  refine y_beq rfl rfl rfl (fun g1 => ?_) (fun g1 => ?_)
  · refine y_ic rfl rfl ?_
    refine y_rI rfl (Or.inl rfl) ?_
    exact k0 g1
  · refine y_ld (x := .ref 170) rfl rfl (fun d => rfl) ?_
    refine y_gR (i := 1) rfl rfl rfl (md170 hM) rfl ?_
    refine y_si rfl rfl (by decide) ?_
    refine y_ld (x := iv x) rfl rfl (fun d => rfl) ?_
    refine y_add (z := (186 + x)) rfl rfl rfl ?_
    refine y_ild (x := (V 171 ((186 + x).toNat))) (q := ((186 + x).toNat)) rfl rfl (md171 hM) (by omega) (by decide) rfl rfl ?_
    refine y_go rfl rfl ?_
    refine y_rI rfl (Or.inl rfl) ?_
    exact k1 g1
set_option maxRecDepth 100000 in
set_option maxHeartbeats 4000000 in
theorem ms_led (hM : MdS S) (hB : 0 ≤ V 171 1 ∧ V 171 1 ≤ 8) {x : Int} (hx : (-2147483648 ≤ x ∧ x < 2147483648)) {y : Int} (hy : (-2147483648 ≤ y ∧ y < 2147483648)) (k0 : ¬ (0 ≤ x ∧ x ≤ V 171 1 - 1) → K u w (some (iv (-1))) S V) (k1 : (0 ≤ x ∧ x ≤ V 171 1 - 1) → ¬ (0 ≤ y ∧ y ≤ 15) → K u w (some (iv (-1))) S V) (k2 : (0 ≤ x ∧ x ≤ V 171 1 - 1) → (0 ≤ y ∧ y ≤ 15) → K u w (some (iv (V 171 (((1552 + (16 * x)) + y).toNat)))) S V) : y_R X 3 147 u w [.ref 170, iv x, iv y] S V K := by
  refine y_ent (lv' := [(0, .ref 170), (1, iv x), (2, iv y)]) (Nat.le_of_ble_eq_true rfl) rfl ?_
  refine y_ld (x := .ref 170) rfl rfl (fun d => rfl) ?_
  refine y_ld (x := iv x) rfl rfl (fun d => rfl) ?_
  refine y_cV (as := [.ref 170, iv x]) rfl rfl rfl rfl rfl (md170 hM) ⟨rfl, (Nat.le_of_ble_eq_true rfl), (Nat.le_of_ble_eq_true rfl)⟩ (by decide) (ct_isBox hM (by omega) ⟨rfl, by omega⟩ ?_)
  refine y_nv ?_
  refine y_beq rfl rfl rfl (fun g1 => ?_) (fun g1 => ?_)
  · refine y_ic rfl rfl ?_
    refine y_rI rfl (Or.inl rfl) ?_
    exact k0 g1
  · refine y_ld (x := iv y) rfl rfl (fun d => rfl) ?_
    refine y_cS (as := [iv y]) rfl (by decide) rfl rfl rfl rfl ⟨(Nat.le_of_ble_eq_true rfl), (Nat.le_of_ble_eq_true rfl)⟩ (by decide) (ct_isTalk (by omega) ?_)
    refine y_nv ?_
    refine y_beq rfl rfl rfl (fun g2 => ?_) (fun g2 => ?_)
    · refine y_ic rfl rfl ?_
      refine y_rI rfl (Or.inl rfl) ?_
      exact k1 g1 g2
    · refine y_ld (x := .ref 170) rfl rfl (fun d => rfl) ?_
      refine y_gR (i := 1) rfl rfl rfl (md170 hM) rfl ?_
      refine y_si rfl rfl (by decide) ?_
      refine y_bi rfl rfl (by decide) ?_
      refine y_ld (x := iv x) rfl rfl (fun d => rfl) ?_
      refine y_mul (z := (16 * x)) rfl rfl rfl ?_
      refine y_add (z := (1552 + (16 * x))) rfl rfl rfl ?_
      refine y_ld (x := iv y) rfl rfl (fun d => rfl) ?_
      refine y_add (z := ((1552 + (16 * x)) + y)) rfl rfl rfl ?_
      refine y_ild (x := (V 171 (((1552 + (16 * x)) + y).toNat))) (q := (((1552 + (16 * x)) + y).toNat)) rfl rfl (md171 hM) (by omega) (by decide) rfl rfl ?_
      refine y_go rfl rfl ?_
      refine y_rI rfl (Or.inl rfl) ?_
      exact k2 g1 g2
set_option maxRecDepth 100000 in
set_option maxHeartbeats 4000000 in
theorem ms_cell (hM : MdS S) (hB : 0 ≤ V 171 1 ∧ V 171 1 ≤ 8) {x : Int} (hx : (-2147483648 ≤ x ∧ x < 2147483648)) {l : Int} (hl : (-2147483648 ≤ l ∧ l < 2147483648)) {d : Int} (hd : (-2147483648 ≤ d ∧ d < 2147483648)) {o : Int} (ho : (-2147483648 ≤ o ∧ o < 2147483648)) (k0 : ¬ (0 ≤ x ∧ x ≤ V 171 1 - 1) → K u w (some (iv (-2147483648))) S V) (k1 : (0 ≤ x ∧ x ≤ V 171 1 - 1) → ¬ (0 ≤ l ∧ l ≤ 2) → K u w (some (iv (-2147483648))) S V) (k2 : (0 ≤ x ∧ x ≤ V 171 1 - 1) → (0 ≤ l ∧ l ≤ 2) → ¬ (0 ≤ d ∧ d ≤ 3) → K u w (some (iv (-2147483648))) S V) (k3 : (0 ≤ x ∧ x ≤ V 171 1 - 1) → (0 ≤ l ∧ l ≤ 2) → (0 ≤ d ∧ d ≤ 3) → (l : Int) ≠ 0 → (l : Int) ≠ 1 → (l : Int) ≠ 0 → (l : Int) ≠ 1 → K u w (some (iv (V 171 ((((200 + (84 * x)) + d) + 80).toNat)))) S V) (k4 : (0 ≤ x ∧ x ≤ V 171 1 - 1) → (0 ≤ l ∧ l ≤ 2) → (0 ≤ d ∧ d ≤ 3) → (l : Int) ≠ 0 → (l : Int) ≠ 1 → (l : Int) ≠ 0 → ¬ ((l : Int) ≠ 1) → K u w (some (iv (V 171 (((((200 + (84 * x)) + d) + 64) + (4 * o)).toNat)))) S V) (k5 : (0 ≤ x ∧ x ≤ V 171 1 - 1) → (0 ≤ l ∧ l ≤ 2) → (0 ≤ d ∧ d ≤ 3) → (l : Int) ≠ 0 → (l : Int) ≠ 1 → ¬ ((l : Int) ≠ 0) → K u w (some (iv (V 171 ((((200 + (84 * x)) + d) + (4 * o)).toNat)))) S V) (k6 : (0 ≤ x ∧ x ≤ V 171 1 - 1) → (0 ≤ l ∧ l ≤ 2) → (0 ≤ d ∧ d ≤ 3) → (l : Int) ≠ 0 → ¬ ((l : Int) ≠ 1) → (0 ≤ o ∧ o ≤ 3) → (l : Int) ≠ 0 → (l : Int) ≠ 1 → K u w (some (iv (V 171 ((((200 + (84 * x)) + d) + 80).toNat)))) S V) (k7 : (0 ≤ x ∧ x ≤ V 171 1 - 1) → (0 ≤ l ∧ l ≤ 2) → (0 ≤ d ∧ d ≤ 3) → (l : Int) ≠ 0 → ¬ ((l : Int) ≠ 1) → (0 ≤ o ∧ o ≤ 3) → (l : Int) ≠ 0 → ¬ ((l : Int) ≠ 1) → K u w (some (iv (V 171 (((((200 + (84 * x)) + d) + 64) + (4 * o)).toNat)))) S V) (k8 : (0 ≤ x ∧ x ≤ V 171 1 - 1) → (0 ≤ l ∧ l ≤ 2) → (0 ≤ d ∧ d ≤ 3) → (l : Int) ≠ 0 → ¬ ((l : Int) ≠ 1) → (0 ≤ o ∧ o ≤ 3) → ¬ ((l : Int) ≠ 0) → K u w (some (iv (V 171 ((((200 + (84 * x)) + d) + (4 * o)).toNat)))) S V) (k9 : (0 ≤ x ∧ x ≤ V 171 1 - 1) → (0 ≤ l ∧ l ≤ 2) → (0 ≤ d ∧ d ≤ 3) → (l : Int) ≠ 0 → ¬ ((l : Int) ≠ 1) → ¬ (0 ≤ o ∧ o ≤ 3) → K u w (some (iv (-2147483648))) S V) (k10 : (0 ≤ x ∧ x ≤ V 171 1 - 1) → (0 ≤ l ∧ l ≤ 2) → (0 ≤ d ∧ d ≤ 3) → ¬ ((l : Int) ≠ 0) → ¬ (0 ≤ o ∧ o ≤ 15) → K u w (some (iv (-2147483648))) S V) (k11 : (0 ≤ x ∧ x ≤ V 171 1 - 1) → (0 ≤ l ∧ l ≤ 2) → (0 ≤ d ∧ d ≤ 3) → ¬ ((l : Int) ≠ 0) → (0 ≤ o ∧ o ≤ 15) → (l : Int) ≠ 1 → (l : Int) ≠ 0 → (l : Int) ≠ 1 → K u w (some (iv (V 171 ((((200 + (84 * x)) + d) + 80).toNat)))) S V) (k12 : (0 ≤ x ∧ x ≤ V 171 1 - 1) → (0 ≤ l ∧ l ≤ 2) → (0 ≤ d ∧ d ≤ 3) → ¬ ((l : Int) ≠ 0) → (0 ≤ o ∧ o ≤ 15) → (l : Int) ≠ 1 → (l : Int) ≠ 0 → ¬ ((l : Int) ≠ 1) → K u w (some (iv (V 171 (((((200 + (84 * x)) + d) + 64) + (4 * o)).toNat)))) S V) (k13 : (0 ≤ x ∧ x ≤ V 171 1 - 1) → (0 ≤ l ∧ l ≤ 2) → (0 ≤ d ∧ d ≤ 3) → ¬ ((l : Int) ≠ 0) → (0 ≤ o ∧ o ≤ 15) → (l : Int) ≠ 1 → ¬ ((l : Int) ≠ 0) → K u w (some (iv (V 171 ((((200 + (84 * x)) + d) + (4 * o)).toNat)))) S V) (k14 : (0 ≤ x ∧ x ≤ V 171 1 - 1) → (0 ≤ l ∧ l ≤ 2) → (0 ≤ d ∧ d ≤ 3) → ¬ ((l : Int) ≠ 0) → (0 ≤ o ∧ o ≤ 15) → ¬ ((l : Int) ≠ 1) → (0 ≤ o ∧ o ≤ 3) → (l : Int) ≠ 0 → (l : Int) ≠ 1 → K u w (some (iv (V 171 ((((200 + (84 * x)) + d) + 80).toNat)))) S V) (k15 : (0 ≤ x ∧ x ≤ V 171 1 - 1) → (0 ≤ l ∧ l ≤ 2) → (0 ≤ d ∧ d ≤ 3) → ¬ ((l : Int) ≠ 0) → (0 ≤ o ∧ o ≤ 15) → ¬ ((l : Int) ≠ 1) → (0 ≤ o ∧ o ≤ 3) → (l : Int) ≠ 0 → ¬ ((l : Int) ≠ 1) → K u w (some (iv (V 171 (((((200 + (84 * x)) + d) + 64) + (4 * o)).toNat)))) S V) (k16 : (0 ≤ x ∧ x ≤ V 171 1 - 1) → (0 ≤ l ∧ l ≤ 2) → (0 ≤ d ∧ d ≤ 3) → ¬ ((l : Int) ≠ 0) → (0 ≤ o ∧ o ≤ 15) → ¬ ((l : Int) ≠ 1) → (0 ≤ o ∧ o ≤ 3) → ¬ ((l : Int) ≠ 0) → K u w (some (iv (V 171 ((((200 + (84 * x)) + d) + (4 * o)).toNat)))) S V) (k17 : (0 ≤ x ∧ x ≤ V 171 1 - 1) → (0 ≤ l ∧ l ≤ 2) → (0 ≤ d ∧ d ≤ 3) → ¬ ((l : Int) ≠ 0) → (0 ≤ o ∧ o ≤ 15) → ¬ ((l : Int) ≠ 1) → ¬ (0 ≤ o ∧ o ≤ 3) → K u w (some (iv (-2147483648))) S V) : y_R X 3 138 u w [.ref 170, iv x, iv l, iv d, iv o] S V K := by
  refine y_ent (lv' := [(0, .ref 170), (1, iv x), (2, iv l), (3, iv d), (4, iv o)]) (Nat.le_of_ble_eq_true rfl) rfl ?_
  refine y_ld (x := .ref 170) rfl rfl (fun d => rfl) ?_
  refine y_ld (x := iv x) rfl rfl (fun d => rfl) ?_
  refine y_cV (as := [.ref 170, iv x]) rfl rfl rfl rfl rfl (md170 hM) ⟨rfl, (Nat.le_of_ble_eq_true rfl), (Nat.le_of_ble_eq_true rfl)⟩ (by decide) (ct_isBox hM (by omega) ⟨rfl, by omega⟩ ?_)
  refine y_nv ?_
  refine y_beq rfl rfl rfl (fun g1 => ?_) (fun g1 => ?_)
  · refine y_ld (x := iv (-2147483648)) rfl rfl (fun d => rfl) ?_
    refine y_rI rfl (Or.inl rfl) ?_
    exact k0 g1
  · refine y_ld (x := iv l) rfl rfl (fun d => rfl) ?_
    refine y_ic rfl rfl ?_
    refine y_ic rfl rfl ?_
    refine y_cS (as := [iv l, iv 0, iv 2]) rfl (by decide) rfl rfl rfl rfl ⟨(Nat.le_of_ble_eq_true rfl), (Nat.le_of_ble_eq_true rfl)⟩ (by decide) (ct_in (by omega) ?_)
    refine y_nv ?_
    refine y_beq rfl rfl rfl (fun g2 => ?_) (fun g2 => ?_)
    · refine y_ld (x := iv (-2147483648)) rfl rfl (fun d => rfl) ?_
      refine y_rI rfl (Or.inl rfl) ?_
      exact k1 g1 g2
    · refine y_ld (x := iv d) rfl rfl (fun d => rfl) ?_
      refine y_cS (as := [iv d]) rfl (by decide) rfl rfl rfl rfl ⟨(Nat.le_of_ble_eq_true rfl), (Nat.le_of_ble_eq_true rfl)⟩ (by decide) (ct_isFour (by omega) ?_)
      refine y_nv ?_
      refine y_beq rfl rfl rfl (fun g3 => ?_) (fun g3 => ?_)
      · refine y_ld (x := iv (-2147483648)) rfl rfl (fun d => rfl) ?_
        refine y_rI rfl (Or.inl rfl) ?_
        exact k2 g1 g2 g3
      · refine y_ld (x := iv l) rfl rfl (fun d => rfl) ?_
        refine y_zne rfl rfl rfl (by omega) (fun g4 => ?_) (fun g4 => ?_)
        · refine y_ld (x := iv l) rfl rfl (fun d => rfl) ?_
          refine y_ic rfl rfl ?_
          refine y_jne rfl rfl rfl (by omega) (fun g5 => ?_) (fun g5 => ?_)
          · refine y_si rfl rfl (by decide) ?_
            refine y_bi rfl rfl (by decide) ?_
            refine y_ld (x := iv x) rfl rfl (fun d => rfl) ?_
            refine y_mul (z := (84 * x)) rfl rfl rfl ?_
            refine y_add (z := (200 + (84 * x))) rfl rfl rfl ?_
            refine y_ld (x := iv d) rfl rfl (fun d => rfl) ?_
            refine y_add (z := ((200 + (84 * x)) + d)) rfl rfl rfl ?_
            refine y_st (lv' := [(5, iv ((200 + (84 * x)) + d)), (0, .ref 170), (1, iv x), (2, iv l), (3, iv d), (4, iv o)]) rfl rfl (fun d => rfl) ?_
            refine y_ld (x := .ref 170) rfl rfl (fun d => rfl) ?_
            refine y_gR (i := 1) rfl rfl rfl (md170 hM) rfl ?_
            refine y_ld (x := iv l) rfl rfl (fun d => rfl) ?_
            refine y_zne rfl rfl rfl (by omega) (fun g6 => ?_) (fun g6 => ?_)
            · refine y_ld (x := iv l) rfl rfl (fun d => rfl) ?_
              refine y_ic rfl rfl ?_
              refine y_jne rfl rfl rfl (by omega) (fun g7 => ?_) (fun g7 => ?_)
              · refine y_ld (x := iv ((200 + (84 * x)) + d)) rfl rfl (fun d => rfl) ?_
                refine y_bi rfl rfl (by decide) ?_
                refine y_add (z := (((200 + (84 * x)) + d) + 80)) rfl rfl rfl ?_
                refine y_ild (x := (V 171 ((((200 + (84 * x)) + d) + 80).toNat))) (q := ((((200 + (84 * x)) + d) + 80).toNat)) rfl rfl (md171 hM) (by omega) (by decide) rfl rfl ?_
                refine y_rI rfl (Or.inl rfl) ?_
                exact k3 g1 g2 g3 (by omega) (by omega) (by omega) (by omega)
              · refine y_ld (x := iv ((200 + (84 * x)) + d)) rfl rfl (fun d => rfl) ?_
                refine y_bi rfl rfl (by decide) ?_
                refine y_add (z := (((200 + (84 * x)) + d) + 64)) rfl rfl rfl ?_
                refine y_ic rfl rfl ?_
                refine y_ld (x := iv o) rfl rfl (fun d => rfl) ?_
                refine y_mul (z := (4 * o)) rfl rfl rfl ?_
                refine y_add (z := ((((200 + (84 * x)) + d) + 64) + (4 * o))) rfl rfl rfl ?_
                refine y_go rfl rfl ?_
                refine y_ild (x := (V 171 (((((200 + (84 * x)) + d) + 64) + (4 * o)).toNat))) (q := (((((200 + (84 * x)) + d) + 64) + (4 * o)).toNat)) rfl rfl (md171 hM) (by omega) (by decide) rfl rfl ?_
                refine y_rI rfl (Or.inl rfl) ?_
                exact k4 g1 g2 g3 (by omega) (by omega) (by omega) (by omega)
            · refine y_ld (x := iv ((200 + (84 * x)) + d)) rfl rfl (fun d => rfl) ?_
              refine y_ic rfl rfl ?_
              refine y_ld (x := iv o) rfl rfl (fun d => rfl) ?_
              refine y_mul (z := (4 * o)) rfl rfl rfl ?_
              refine y_add (z := (((200 + (84 * x)) + d) + (4 * o))) rfl rfl rfl ?_
              refine y_go rfl rfl ?_
              refine y_ild (x := (V 171 ((((200 + (84 * x)) + d) + (4 * o)).toNat))) (q := ((((200 + (84 * x)) + d) + (4 * o)).toNat)) rfl rfl (md171 hM) (by omega) (by decide) rfl rfl ?_
              refine y_rI rfl (Or.inl rfl) ?_
              exact k5 g1 g2 g3 (by omega) (by omega) (by omega)
          · refine y_ld (x := iv o) rfl rfl (fun d => rfl) ?_
            refine y_cS (as := [iv o]) rfl (by decide) rfl rfl rfl rfl ⟨(Nat.le_of_ble_eq_true rfl), (Nat.le_of_ble_eq_true rfl)⟩ (by decide) (ct_isFour (by omega) ?_)
            refine y_nv ?_
            refine y_bne rfl rfl rfl (fun g8 => ?_) (fun g8 => ?_)
            · refine y_si rfl rfl (by decide) ?_
              refine y_bi rfl rfl (by decide) ?_
              refine y_ld (x := iv x) rfl rfl (fun d => rfl) ?_
              refine y_mul (z := (84 * x)) rfl rfl rfl ?_
              refine y_add (z := (200 + (84 * x))) rfl rfl rfl ?_
              refine y_ld (x := iv d) rfl rfl (fun d => rfl) ?_
              refine y_add (z := ((200 + (84 * x)) + d)) rfl rfl rfl ?_
              refine y_st (lv' := [(5, iv ((200 + (84 * x)) + d)), (0, .ref 170), (1, iv x), (2, iv l), (3, iv d), (4, iv o)]) rfl rfl (fun d => rfl) ?_
              refine y_ld (x := .ref 170) rfl rfl (fun d => rfl) ?_
              refine y_gR (i := 1) rfl rfl rfl (md170 hM) rfl ?_
              refine y_ld (x := iv l) rfl rfl (fun d => rfl) ?_
              refine y_zne rfl rfl rfl (by omega) (fun g9 => ?_) (fun g9 => ?_)
              · refine y_ld (x := iv l) rfl rfl (fun d => rfl) ?_
                refine y_ic rfl rfl ?_
                refine y_jne rfl rfl rfl (by omega) (fun g10 => ?_) (fun g10 => ?_)
                · refine y_ld (x := iv ((200 + (84 * x)) + d)) rfl rfl (fun d => rfl) ?_
                  refine y_bi rfl rfl (by decide) ?_
                  refine y_add (z := (((200 + (84 * x)) + d) + 80)) rfl rfl rfl ?_
                  refine y_ild (x := (V 171 ((((200 + (84 * x)) + d) + 80).toNat))) (q := ((((200 + (84 * x)) + d) + 80).toNat)) rfl rfl (md171 hM) (by omega) (by decide) rfl rfl ?_
                  refine y_rI rfl (Or.inl rfl) ?_
                  exact k6 g1 g2 g3 (by omega) (by omega) g8 (by omega) (by omega)
                · refine y_ld (x := iv ((200 + (84 * x)) + d)) rfl rfl (fun d => rfl) ?_
                  refine y_bi rfl rfl (by decide) ?_
                  refine y_add (z := (((200 + (84 * x)) + d) + 64)) rfl rfl rfl ?_
                  refine y_ic rfl rfl ?_
                  refine y_ld (x := iv o) rfl rfl (fun d => rfl) ?_
                  refine y_mul (z := (4 * o)) rfl rfl rfl ?_
                  refine y_add (z := ((((200 + (84 * x)) + d) + 64) + (4 * o))) rfl rfl rfl ?_
                  refine y_go rfl rfl ?_
                  refine y_ild (x := (V 171 (((((200 + (84 * x)) + d) + 64) + (4 * o)).toNat))) (q := (((((200 + (84 * x)) + d) + 64) + (4 * o)).toNat)) rfl rfl (md171 hM) (by omega) (by decide) rfl rfl ?_
                  refine y_rI rfl (Or.inl rfl) ?_
                  exact k7 g1 g2 g3 (by omega) (by omega) g8 (by omega) (by omega)
              · refine y_ld (x := iv ((200 + (84 * x)) + d)) rfl rfl (fun d => rfl) ?_
                refine y_ic rfl rfl ?_
                refine y_ld (x := iv o) rfl rfl (fun d => rfl) ?_
                refine y_mul (z := (4 * o)) rfl rfl rfl ?_
                refine y_add (z := (((200 + (84 * x)) + d) + (4 * o))) rfl rfl rfl ?_
                refine y_go rfl rfl ?_
                refine y_ild (x := (V 171 ((((200 + (84 * x)) + d) + (4 * o)).toNat))) (q := ((((200 + (84 * x)) + d) + (4 * o)).toNat)) rfl rfl (md171 hM) (by omega) (by decide) rfl rfl ?_
                refine y_rI rfl (Or.inl rfl) ?_
                exact k8 g1 g2 g3 (by omega) (by omega) g8 (by omega)
            · refine y_ld (x := iv (-2147483648)) rfl rfl (fun d => rfl) ?_
              refine y_rI rfl (Or.inl rfl) ?_
              exact k9 g1 g2 g3 (by omega) (by omega) g8
        · refine y_ld (x := iv o) rfl rfl (fun d => rfl) ?_
          refine y_cS (as := [iv o]) rfl (by decide) rfl rfl rfl rfl ⟨(Nat.le_of_ble_eq_true rfl), (Nat.le_of_ble_eq_true rfl)⟩ (by decide) (ct_isTalk (by omega) ?_)
          refine y_nv ?_
          refine y_beq rfl rfl rfl (fun g11 => ?_) (fun g11 => ?_)
          · refine y_ld (x := iv (-2147483648)) rfl rfl (fun d => rfl) ?_
            refine y_rI rfl (Or.inl rfl) ?_
            exact k10 g1 g2 g3 (by omega) g11
          · refine y_ld (x := iv l) rfl rfl (fun d => rfl) ?_
            refine y_ic rfl rfl ?_
            refine y_jne rfl rfl rfl (by omega) (fun g12 => ?_) (fun g12 => ?_)
            · refine y_si rfl rfl (by decide) ?_
              refine y_bi rfl rfl (by decide) ?_
              refine y_ld (x := iv x) rfl rfl (fun d => rfl) ?_
              refine y_mul (z := (84 * x)) rfl rfl rfl ?_
              refine y_add (z := (200 + (84 * x))) rfl rfl rfl ?_
              refine y_ld (x := iv d) rfl rfl (fun d => rfl) ?_
              refine y_add (z := ((200 + (84 * x)) + d)) rfl rfl rfl ?_
              refine y_st (lv' := [(5, iv ((200 + (84 * x)) + d)), (0, .ref 170), (1, iv x), (2, iv l), (3, iv d), (4, iv o)]) rfl rfl (fun d => rfl) ?_
              refine y_ld (x := .ref 170) rfl rfl (fun d => rfl) ?_
              refine y_gR (i := 1) rfl rfl rfl (md170 hM) rfl ?_
              refine y_ld (x := iv l) rfl rfl (fun d => rfl) ?_
              refine y_zne rfl rfl rfl (by omega) (fun g13 => ?_) (fun g13 => ?_)
              · refine y_ld (x := iv l) rfl rfl (fun d => rfl) ?_
                refine y_ic rfl rfl ?_
                refine y_jne rfl rfl rfl (by omega) (fun g14 => ?_) (fun g14 => ?_)
                · refine y_ld (x := iv ((200 + (84 * x)) + d)) rfl rfl (fun d => rfl) ?_
                  refine y_bi rfl rfl (by decide) ?_
                  refine y_add (z := (((200 + (84 * x)) + d) + 80)) rfl rfl rfl ?_
                  refine y_ild (x := (V 171 ((((200 + (84 * x)) + d) + 80).toNat))) (q := ((((200 + (84 * x)) + d) + 80).toNat)) rfl rfl (md171 hM) (by omega) (by decide) rfl rfl ?_
                  refine y_rI rfl (Or.inl rfl) ?_
                  exact k11 g1 g2 g3 (by omega) g11 (by omega) (by omega) (by omega)
                · refine y_ld (x := iv ((200 + (84 * x)) + d)) rfl rfl (fun d => rfl) ?_
                  refine y_bi rfl rfl (by decide) ?_
                  refine y_add (z := (((200 + (84 * x)) + d) + 64)) rfl rfl rfl ?_
                  refine y_ic rfl rfl ?_
                  refine y_ld (x := iv o) rfl rfl (fun d => rfl) ?_
                  refine y_mul (z := (4 * o)) rfl rfl rfl ?_
                  refine y_add (z := ((((200 + (84 * x)) + d) + 64) + (4 * o))) rfl rfl rfl ?_
                  refine y_go rfl rfl ?_
                  refine y_ild (x := (V 171 (((((200 + (84 * x)) + d) + 64) + (4 * o)).toNat))) (q := (((((200 + (84 * x)) + d) + 64) + (4 * o)).toNat)) rfl rfl (md171 hM) (by omega) (by decide) rfl rfl ?_
                  refine y_rI rfl (Or.inl rfl) ?_
                  exact k12 g1 g2 g3 (by omega) g11 (by omega) (by omega) (by omega)
              · refine y_ld (x := iv ((200 + (84 * x)) + d)) rfl rfl (fun d => rfl) ?_
                refine y_ic rfl rfl ?_
                refine y_ld (x := iv o) rfl rfl (fun d => rfl) ?_
                refine y_mul (z := (4 * o)) rfl rfl rfl ?_
                refine y_add (z := (((200 + (84 * x)) + d) + (4 * o))) rfl rfl rfl ?_
                refine y_go rfl rfl ?_
                refine y_ild (x := (V 171 ((((200 + (84 * x)) + d) + (4 * o)).toNat))) (q := ((((200 + (84 * x)) + d) + (4 * o)).toNat)) rfl rfl (md171 hM) (by omega) (by decide) rfl rfl ?_
                refine y_rI rfl (Or.inl rfl) ?_
                exact k13 g1 g2 g3 (by omega) g11 (by omega) (by omega)
            · refine y_ld (x := iv o) rfl rfl (fun d => rfl) ?_
              refine y_cS (as := [iv o]) rfl (by decide) rfl rfl rfl rfl ⟨(Nat.le_of_ble_eq_true rfl), (Nat.le_of_ble_eq_true rfl)⟩ (by decide) (ct_isFour (by omega) ?_)
              refine y_nv ?_
              refine y_bne rfl rfl rfl (fun g15 => ?_) (fun g15 => ?_)
              · refine y_si rfl rfl (by decide) ?_
                refine y_bi rfl rfl (by decide) ?_
                refine y_ld (x := iv x) rfl rfl (fun d => rfl) ?_
                refine y_mul (z := (84 * x)) rfl rfl rfl ?_
                refine y_add (z := (200 + (84 * x))) rfl rfl rfl ?_
                refine y_ld (x := iv d) rfl rfl (fun d => rfl) ?_
                refine y_add (z := ((200 + (84 * x)) + d)) rfl rfl rfl ?_
                refine y_st (lv' := [(5, iv ((200 + (84 * x)) + d)), (0, .ref 170), (1, iv x), (2, iv l), (3, iv d), (4, iv o)]) rfl rfl (fun d => rfl) ?_
                refine y_ld (x := .ref 170) rfl rfl (fun d => rfl) ?_
                refine y_gR (i := 1) rfl rfl rfl (md170 hM) rfl ?_
                refine y_ld (x := iv l) rfl rfl (fun d => rfl) ?_
                refine y_zne rfl rfl rfl (by omega) (fun g16 => ?_) (fun g16 => ?_)
                · refine y_ld (x := iv l) rfl rfl (fun d => rfl) ?_
                  refine y_ic rfl rfl ?_
                  refine y_jne rfl rfl rfl (by omega) (fun g17 => ?_) (fun g17 => ?_)
                  · refine y_ld (x := iv ((200 + (84 * x)) + d)) rfl rfl (fun d => rfl) ?_
                    refine y_bi rfl rfl (by decide) ?_
                    refine y_add (z := (((200 + (84 * x)) + d) + 80)) rfl rfl rfl ?_
                    refine y_ild (x := (V 171 ((((200 + (84 * x)) + d) + 80).toNat))) (q := ((((200 + (84 * x)) + d) + 80).toNat)) rfl rfl (md171 hM) (by omega) (by decide) rfl rfl ?_
                    refine y_rI rfl (Or.inl rfl) ?_
                    exact k14 g1 g2 g3 (by omega) g11 (by omega) g15 (by omega) (by omega)
                  · refine y_ld (x := iv ((200 + (84 * x)) + d)) rfl rfl (fun d => rfl) ?_
                    refine y_bi rfl rfl (by decide) ?_
                    refine y_add (z := (((200 + (84 * x)) + d) + 64)) rfl rfl rfl ?_
                    refine y_ic rfl rfl ?_
                    refine y_ld (x := iv o) rfl rfl (fun d => rfl) ?_
                    refine y_mul (z := (4 * o)) rfl rfl rfl ?_
                    refine y_add (z := ((((200 + (84 * x)) + d) + 64) + (4 * o))) rfl rfl rfl ?_
                    refine y_go rfl rfl ?_
                    refine y_ild (x := (V 171 (((((200 + (84 * x)) + d) + 64) + (4 * o)).toNat))) (q := (((((200 + (84 * x)) + d) + 64) + (4 * o)).toNat)) rfl rfl (md171 hM) (by omega) (by decide) rfl rfl ?_
                    refine y_rI rfl (Or.inl rfl) ?_
                    exact k15 g1 g2 g3 (by omega) g11 (by omega) g15 (by omega) (by omega)
                · refine y_ld (x := iv ((200 + (84 * x)) + d)) rfl rfl (fun d => rfl) ?_
                  refine y_ic rfl rfl ?_
                  refine y_ld (x := iv o) rfl rfl (fun d => rfl) ?_
                  refine y_mul (z := (4 * o)) rfl rfl rfl ?_
                  refine y_add (z := (((200 + (84 * x)) + d) + (4 * o))) rfl rfl rfl ?_
                  refine y_go rfl rfl ?_
                  refine y_ild (x := (V 171 ((((200 + (84 * x)) + d) + (4 * o)).toNat))) (q := ((((200 + (84 * x)) + d) + (4 * o)).toNat)) rfl rfl (md171 hM) (by omega) (by decide) rfl rfl ?_
                  refine y_rI rfl (Or.inl rfl) ?_
                  exact k16 g1 g2 g3 (by omega) g11 (by omega) g15 (by omega)
              · refine y_ld (x := iv (-2147483648)) rfl rfl (fun d => rfl) ?_
                refine y_rI rfl (Or.inl rfl) ?_
                exact k17 g1 g2 g3 (by omega) g11 (by omega) g15
set_option maxRecDepth 100000 in
set_option maxHeartbeats 4000000 in
theorem ms_lines (hM : MdS S) (hT : 0 ≤ V 171 0 ∧ V 171 0 ≤ 8) (hl : ∀ i : Nat, i < 8 → 0 ≤ V 175 i ∧ V 175 i ≤ 8) {x : Int} (hx : (-2147483648 ≤ x ∧ x < 2147483648)) {y : Int} (hy : (-2147483648 ≤ y ∧ y < 2147483648)) (k0 : ¬ (0 ≤ x ∧ x ≤ V 171 0 - 1) → K u w (some (iv (-1))) S V) (k1 : (0 ≤ x ∧ x ≤ V 171 0 - 1) → ((-1) ≤ y ∧ y ≤ ((V 175 ((x).toNat)) - 1)) → (y : Int) ≠ (-1) → K u w (some (iv (V 176 (((8 * x) + y).toNat)))) S V) (k2 : (0 ≤ x ∧ x ≤ V 171 0 - 1) → ((-1) ≤ y ∧ y ≤ ((V 175 ((x).toNat)) - 1)) → ¬ ((y : Int) ≠ (-1)) → K u w (some (iv (V 175 ((x).toNat)))) S V) (k3 : (0 ≤ x ∧ x ≤ V 171 0 - 1) → ¬ ((-1) ≤ y ∧ y ≤ ((V 175 ((x).toNat)) - 1)) → K u w (some (iv (-1))) S V) : y_R X 3 125 u w [.ref 170, iv x, iv y] S V K := by
  refine y_ent (lv' := [(0, .ref 170), (1, iv x), (2, iv y)]) (Nat.le_of_ble_eq_true rfl) rfl ?_
  refine y_ld (x := .ref 170) rfl rfl (fun d => rfl) ?_
  refine y_ld (x := iv x) rfl rfl (fun d => rfl) ?_
  refine y_cV (as := [.ref 170, iv x]) rfl rfl rfl rfl rfl (md170 hM) ⟨rfl, (Nat.le_of_ble_eq_true rfl), (Nat.le_of_ble_eq_true rfl)⟩ (by decide) (ct_isText hM (by omega) ⟨rfl, by omega⟩ ?_)
  refine y_nv ?_
  refine y_beq rfl rfl rfl (fun g1 => ?_) (fun g1 => ?_)
  · refine y_ic rfl rfl ?_
    refine y_rI rfl (Or.inl rfl) ?_
    exact k0 g1
  · refine y_ld (x := iv y) rfl rfl (fun d => rfl) ?_
    refine y_ic rfl rfl ?_
    refine y_ld (x := .ref 170) rfl rfl (fun d => rfl) ?_
    refine y_gR (i := 6) rfl rfl rfl (md170 hM) rfl ?_
    refine y_ld (x := iv x) rfl rfl (fun d => rfl) ?_
    have hl8 := hl x.toNat (by omega)
    refine y_ild (x := (V 175 ((x).toNat))) (q := ((x).toNat)) rfl rfl (md175 hM) (by omega) (by decide) rfl rfl ?_
    refine y_ic rfl rfl ?_
    refine y_sub (z := ((V 175 ((x).toNat)) - 1)) rfl rfl rfl ?_
    refine y_cS (as := [iv y, iv (-1), iv ((V 175 ((x).toNat)) - 1)]) rfl (by decide) rfl rfl rfl rfl ⟨(Nat.le_of_ble_eq_true rfl), (Nat.le_of_ble_eq_true rfl)⟩ (by decide) (ct_in (by omega) ?_)
    refine y_nv ?_
    refine y_bne rfl rfl rfl (fun g2 => ?_) (fun g2 => ?_)
    · refine y_ld (x := iv y) rfl rfl (fun d => rfl) ?_
      refine y_ic rfl rfl ?_
      refine y_jne rfl rfl rfl (by omega) (fun g3 => ?_) (fun g3 => ?_)
      · refine y_ld (x := .ref 170) rfl rfl (fun d => rfl) ?_
        refine y_gR (i := 7) rfl rfl rfl (md170 hM) rfl ?_
        refine y_bi rfl rfl (by decide) ?_
        refine y_ld (x := iv x) rfl rfl (fun d => rfl) ?_
        refine y_mul (z := (8 * x)) rfl rfl rfl ?_
        refine y_ld (x := iv y) rfl rfl (fun d => rfl) ?_
        refine y_add (z := ((8 * x) + y)) rfl rfl rfl ?_
        refine y_ild (x := (V 176 (((8 * x) + y).toNat))) (q := (((8 * x) + y).toNat)) rfl rfl (md176 hM) (by omega) (by decide) rfl rfl ?_
        refine y_rI rfl (Or.inl rfl) ?_
        exact k1 g1 g2 (by omega)
      · refine y_ld (x := .ref 170) rfl rfl (fun d => rfl) ?_
        refine y_gR (i := 6) rfl rfl rfl (md170 hM) rfl ?_
        refine y_ld (x := iv x) rfl rfl (fun d => rfl) ?_
        refine y_ild (x := (V 175 ((x).toNat))) (q := ((x).toNat)) rfl rfl (md175 hM) (by omega) (by decide) rfl rfl ?_
        refine y_go rfl rfl ?_
        refine y_rI rfl (Or.inl rfl) ?_
        exact k2 g1 g2 (by omega)
    · refine y_ic rfl rfl ?_
      refine y_rI rfl (Or.inl rfl) ?_
      exact k3 g1 g2
end
end
section
/-! who leads what: the loops over boxes and talks -/
section
variable {X : Nat → List Int32} {u w : Nat} {S : m_H} {V : v_V} {K : v_K}
def z_na (f : Nat → Int) (x : Int) : Nat → Int
  | 0 => 0
  | n + 1 => z_na f x n + (if f n = x then 0 else 1)
theorem z_na_e {f : Nat → Int} {x : Int} {n : Nat} (h : f n = x) : z_na f x (n + 1) = z_na f x n := by
  show z_na f x n + (if f n = x then 0 else 1) = _
  rw [if_pos h]; omega
theorem z_na_n {f : Nat → Int} {x : Int} {n : Nat} (h : f n ≠ x) : z_na f x (n + 1) = z_na f x n + 1 := by
  show z_na f x n + (if f n = x then 0 else 1) = _
  rw [if_neg h]
theorem z_na_lt (f : Nat → Int) (x : Int) (n : Nat) : 0 ≤ z_na f x n ∧ z_na f x n ≤ n := by
  induction n with
  | zero => exact ⟨Int.le_refl 0, Int.le_refl 0⟩
  | succ n ih =>
    have e : z_na f x (n + 1) = z_na f x n + (if f n = x then 0 else 1) := rfl
    rw [e]
    split <;> omega
theorem z_na_c {f g : Nat → Int} {x : Int} {n : Nat} (h : ∀ i, i < n → f i = g i) : z_na f x n = z_na g x n := by
  induction n with
  | zero => rfl
  | succ n ih =>
    show z_na f x n + (if f n = x then 0 else 1) = z_na g x n + (if g n = x then 0 else 1)
    rw [ih (fun i hi => h i (by omega)), h n (by omega)]
set_option maxRecDepth 100000 in
set_option maxHeartbeats 4000000 in
theorem lp_leadsTo (hC : ClF S) {b : Nat} (hb : b < 8) {x : Int} (hx : (-2147483648 ≤ x ∧ x < 2147483648)) (hL : ∀ t : Nat, t < 16 → 0 ≤ V (10 + 6 * b + 1) t ∧ V (10 + 6 * b + 1) t ≤ 7) (k1 : (∃ t : Nat, t < 16 ∧ V (10 + 6 * b + 1) t = x) → K u w (some (iv 1)) S V) (k0 : (∀ t : Nat, t < 16 → V (10 + 6 * b + 1) t ≠ x) → K u w (some (iv 0)) S V) {F : Nat} : ∀ (m : Nat) (i : Nat), 16 - i < m → (i ≤ 16) → (∀ t : Nat, t < i → V (10 + 6 * b + 1) t ≠ x) → y_E X 0 5 (20 * m + F) u w 2 [(0, .ref (10 + 6 * b)), (1, iv x), (2, iv (i : Int))] [] S V K := by
  intro m
  induction m with
  | zero => intros; omega
  | succ m ih =>
    intro i hm hI hJ 
    refine y_mono (F' := (20 * m + F) + 20) ?_ (by omega)
    refine y_ld (x := iv (i : Int)) rfl rfl (fun d => rfl) ?_
    refine y_bi rfl rfl (by decide) ?_
    refine y_jge rfl rfl rfl (by omega) (fun g1 => ?_) (fun g1 => ?_)
    · refine y_ic rfl rfl ?_
      refine y_rI rfl (by decide) ?_
      exact k0 (fun t ht => hJ t (by omega))
    · have hq := hL i (by omega)
      refine y_ld (x := .ref (10 + 6 * b)) rfl rfl (fun d => rfl) ?_
      refine y_gR (i := 5) rfl rfl rfl (bx_ob hC (i := b) (by omega)) rfl ?_
      refine y_ld (x := iv (i : Int)) rfl rfl (fun d => rfl) ?_
      refine y_ild (x := (V (10 + 6 * b + 1) i)) (q := i) rfl rfl (bx_led hC (i := b) (by omega)) (by omega) (by decide) (by omega) rfl ?_
      refine y_ld (x := iv x) rfl rfl (fun d => rfl) ?_
      refine y_jne rfl rfl rfl (by omega) (fun g2 => ?_) (fun g2 => ?_)
      · refine y_inc (z := ((i + 1 : Nat) : Int)) (lv' := [(2, iv ((i + 1 : Nat) : Int)), (0, .ref (10 + 6 * b)), (1, iv x)]) rfl rfl rfl (by omega) rfl ?_
        refine y_go rfl rfl ?_
        refine y_lv (l' := [(0, .ref (10 + 6 * b)), (1, iv x), (2, iv ((i + 1 : Nat) : Int))]) rfl ⟨rfl, rfl, rfl, trivial⟩ ?_
        exact y_mono (ih (i + 1) (by omega) (by omega) (fun t ht => by rcases (show t < i ∨ t = i by omega) with h | h <;> first | exact hJ t h | (rw [h]; omega))) (by omega)
      · refine y_ic rfl rfl ?_
        refine y_rI rfl (by decide) ?_
        exact k1 ⟨i, by omega, by omega⟩
set_option maxRecDepth 100000 in
set_option maxHeartbeats 4000000 in
theorem cb_leadsTo (hC : ClF S) {b : Nat} (hb : b < 8) {x : Int} (hx : (-2147483648 ≤ x ∧ x < 2147483648)) (hL : ∀ t : Nat, t < 16 → 0 ≤ V (10 + 6 * b + 1) t ∧ V (10 + 6 * b + 1) t ≤ 7) (k1 : (∃ t : Nat, t < 16 ∧ V (10 + 6 * b + 1) t = x) → K u w (some (iv 1)) S V) (k0 : (∀ t : Nat, t < 16 → V (10 + 6 * b + 1) t ≠ x) → K u w (some (iv 0)) S V) : y_R X 1 5 u w [.ref (10 + 6 * b), iv x] S V K := by
  refine y_ent (lv' := [(0, .ref (10 + 6 * b)), (1, iv x)]) (Nat.le_of_ble_eq_true rfl) rfl ?_
  refine y_ic rfl rfl ?_
  refine y_st (lv' := [(2, iv 0), (0, .ref (10 + 6 * b)), (1, iv x)]) rfl rfl (fun d => rfl) ?_
  refine y_lv (l' := [(0, .ref (10 + 6 * b)), (1, iv x), (2, iv 0)]) rfl ⟨rfl, rfl, rfl, trivial⟩ ?_
  exact y_mono (lp_leadsTo (F := 100) hC hb hx hL k1 k0 17 0 (by omega) (by omega) (fun t ht => absurd ht (Nat.not_lt_zero t))) (by decide)
set_option maxRecDepth 100000 in
set_option maxHeartbeats 4000000 in
theorem lp_isInRow (hC : ClF S) {x : Int} (hx : (-2147483648 ≤ x ∧ x < 2147483648)) (hn : 0 ≤ V 1 7 ∧ V 1 7 ≤ 6) (hL : ∀ t : Nat, t < 6 → 0 ≤ V 5 t ∧ V 5 t ≤ 7) (k1 : (∃ t : Nat, (t : Int) < V 1 7 ∧ V 5 t = x) → K u w (some (iv 1)) S V) (k0 : (∀ t : Nat, (t : Int) < V 1 7 → V 5 t ≠ x) → K u w (some (iv 0)) S V) {F : Nat} : ∀ (m : Nat) (i : Nat), 6 - i < m → ((i : Int) ≤ V 1 7) → (∀ t : Nat, t < i → V 5 t ≠ x) → y_E X 0 45 (20 * m + F) u w 2 [(0, .ref 1), (1, iv x), (2, iv (i : Int))] [] S V K := by
  intro m
  induction m with
  | zero => intros; omega
  | succ m ih =>
    intro i hm hI hJ 
    refine y_mono (F' := (20 * m + F) + 20) ?_ (by omega)
    refine y_ld (x := iv (i : Int)) rfl rfl (fun d => rfl) ?_
    refine y_ld (x := .ref 1) rfl rfl (fun d => rfl) ?_
    refine y_gI (i := 7) (e := (V 1 7)) rfl rfl rfl (hC 1 _ _ rfl) rfl rfl ?_
    refine y_jge rfl rfl rfl (by omega) (fun g1 => ?_) (fun g1 => ?_)
    · refine y_ic rfl rfl ?_
      refine y_rI rfl (by decide) ?_
      exact k0 (fun t ht => hJ t (by omega))
    · have hq := hL i (by omega)
      refine y_ld (x := .ref 1) rfl rfl (fun d => rfl) ?_
      refine y_gR (i := 6) rfl rfl rfl (hC 1 _ _ rfl) rfl ?_
      refine y_ld (x := iv (i : Int)) rfl rfl (fun d => rfl) ?_
      refine y_ild (x := (V 5 i)) (q := i) rfl rfl (cl_ia hC (k := 5) (N := 6) rfl) (by omega) (by decide) (by omega) rfl ?_
      refine y_ld (x := iv x) rfl rfl (fun d => rfl) ?_
      refine y_jne rfl rfl rfl (by omega) (fun g2 => ?_) (fun g2 => ?_)
      · refine y_inc (z := ((i + 1 : Nat) : Int)) (lv' := [(2, iv ((i + 1 : Nat) : Int)), (0, .ref 1), (1, iv x)]) rfl rfl rfl (by omega) rfl ?_
        refine y_go rfl rfl ?_
        refine y_lv (l' := [(0, .ref 1), (1, iv x), (2, iv ((i + 1 : Nat) : Int))]) rfl ⟨rfl, rfl, rfl, trivial⟩ ?_
        exact y_mono (ih (i + 1) (by omega) (by omega) (fun t ht => by rcases (show t < i ∨ t = i by omega) with h | h <;> first | exact hJ t h | (rw [h]; omega))) (by omega)
      · refine y_ic rfl rfl ?_
        refine y_rI rfl (by decide) ?_
        exact k1 ⟨i, by omega, by omega⟩
set_option maxRecDepth 100000 in
set_option maxHeartbeats 4000000 in
theorem cb_isInRow (hC : ClF S) {x : Int} (hx : (-2147483648 ≤ x ∧ x < 2147483648)) (hn : 0 ≤ V 1 7 ∧ V 1 7 ≤ 6) (hL : ∀ t : Nat, t < 6 → 0 ≤ V 5 t ∧ V 5 t ≤ 7) (k1 : (∃ t : Nat, (t : Int) < V 1 7 ∧ V 5 t = x) → K u w (some (iv 1)) S V) (k0 : (∀ t : Nat, (t : Int) < V 1 7 → V 5 t ≠ x) → K u w (some (iv 0)) S V) : y_R X 1 45 u w [.ref 1, iv x] S V K := by
  refine y_ent (lv' := [(0, .ref 1), (1, iv x)]) (Nat.le_of_ble_eq_true rfl) rfl ?_
  refine y_ic rfl rfl ?_
  refine y_st (lv' := [(2, iv 0), (0, .ref 1), (1, iv x)]) rfl rfl (fun d => rfl) ?_
  refine y_lv (l' := [(0, .ref 1), (1, iv x), (2, iv 0)]) rfl ⟨rfl, rfl, rfl, trivial⟩ ?_
  exact y_mono (lp_isInRow (F := 100) hC hx hn hL k1 k0 7 0 (by omega) (by omega) (fun t ht => absurd ht (Nat.not_lt_zero t))) (by decide)
set_option maxRecDepth 100000 in
set_option maxHeartbeats 4000000 in
theorem lp_ledAway (hC : ClF S) {b : Nat} (hb : b < 8) (hx : 0 ≤ V (10 + 6 * b) 0 ∧ V (10 + 6 * b) 0 ≤ 7) (hL : ∀ t : Nat, t < 16 → 0 ≤ V (10 + 6 * b + 1) t ∧ V (10 + 6 * b + 1) t ≤ 7) (k : K u w (some (iv (z_na (V (10 + 6 * b + 1)) (V (10 + 6 * b) 0) 16))) S V) {F : Nat} : ∀ (m : Nat) (i : Nat), 16 - i < m → (i ≤ 16) → y_E X 0 4 (24 * m + F) u w 4 [(0, .ref (10 + 6 * b)), (1, iv (z_na (V (10 + 6 * b + 1)) (V (10 + 6 * b) 0) i)), (2, iv (i : Int))] [] S V K := by
  intro m
  induction m with
  | zero => intros; omega
  | succ m ih =>
    intro i hm hI 
    refine y_mono (F' := (24 * m + F) + 24) ?_ (by omega)
    refine y_ld (x := iv (i : Int)) rfl rfl (fun d => rfl) ?_
    refine y_bi rfl rfl (by decide) ?_
    refine y_jge rfl rfl rfl (by omega) (fun g1 => ?_) (fun g1 => ?_)
    · obtain rfl : i = 16 := by omega
      have hqz := z_na_lt (V (10 + 6 * b + 1)) (V (10 + 6 * b) 0) 16
      refine y_ld (x := iv (z_na (V (10 + 6 * b + 1)) (V (10 + 6 * b) 0) 16)) rfl rfl (fun d => rfl) ?_
      refine y_rI rfl (Or.inl rfl) ?_
      exact k
    · have hq := hL i (by omega)
      have hqz := z_na_lt (V (10 + 6 * b + 1)) (V (10 + 6 * b) 0) i
      refine y_ld (x := .ref (10 + 6 * b)) rfl rfl (fun d => rfl) ?_
      refine y_gR (i := 5) rfl rfl rfl (bx_ob hC (i := b) (by omega)) rfl ?_
      refine y_ld (x := iv (i : Int)) rfl rfl (fun d => rfl) ?_
      refine y_ild (x := (V (10 + 6 * b + 1) i)) (q := i) rfl rfl (bx_led hC (i := b) (by omega)) (by omega) (by decide) (by omega) rfl ?_
      refine y_ld (x := .ref (10 + 6 * b)) rfl rfl (fun d => rfl) ?_
      refine y_gI (i := 0) (e := (V (10 + 6 * b) 0)) rfl rfl rfl (bx_ob hC (i := b) (by omega)) rfl rfl ?_
      refine y_jeq rfl rfl rfl (by omega) (fun g2 => ?_) (fun g2 => ?_)
      · refine y_inc (z := ((i + 1 : Nat) : Int)) (lv' := [(2, iv ((i + 1 : Nat) : Int)), (0, .ref (10 + 6 * b)), (1, iv (z_na (V (10 + 6 * b + 1)) (V (10 + 6 * b) 0) i))]) rfl rfl rfl (by omega) rfl ?_
        refine y_go rfl rfl ?_
        have hz := z_na_e (f := (V (10 + 6 * b + 1))) (x := (V (10 + 6 * b) 0)) (n := i) (by omega)
        refine y_lv (l' := [(0, .ref (10 + 6 * b)), (1, iv (z_na (V (10 + 6 * b + 1)) (V (10 + 6 * b) 0) (i + 1))), (2, iv ((i + 1 : Nat) : Int))]) rfl ⟨rfl, congrArg (fun e => some (iv e)) hz.symm, rfl, trivial⟩ ?_
        exact y_mono (ih (i + 1) (by omega) (by omega)) (by omega)
      · have hz := z_na_n (f := (V (10 + 6 * b + 1))) (x := (V (10 + 6 * b) 0)) (n := i) (by omega)
        refine y_inc (z := (z_na (V (10 + 6 * b + 1)) (V (10 + 6 * b) 0) (i + 1))) (lv' := [(1, iv (z_na (V (10 + 6 * b + 1)) (V (10 + 6 * b) 0) (i + 1))), (0, .ref (10 + 6 * b)), (2, iv (i : Int))]) rfl rfl rfl (by omega) rfl ?_
        refine y_inc (z := ((i + 1 : Nat) : Int)) (lv' := [(2, iv ((i + 1 : Nat) : Int)), (1, iv (z_na (V (10 + 6 * b + 1)) (V (10 + 6 * b) 0) (i + 1))), (0, .ref (10 + 6 * b))]) rfl rfl rfl (by omega) rfl ?_
        refine y_go rfl rfl ?_
        refine y_lv (l' := [(0, .ref (10 + 6 * b)), (1, iv (z_na (V (10 + 6 * b + 1)) (V (10 + 6 * b) 0) (i + 1))), (2, iv ((i + 1 : Nat) : Int))]) rfl ⟨rfl, rfl, rfl, trivial⟩ ?_
        exact y_mono (ih (i + 1) (by omega) (by omega)) (by omega)
set_option maxRecDepth 100000 in
set_option maxHeartbeats 4000000 in
theorem cb_ledAway (hC : ClF S) {b : Nat} (hb : b < 8) (hx : 0 ≤ V (10 + 6 * b) 0 ∧ V (10 + 6 * b) 0 ≤ 7) (hL : ∀ t : Nat, t < 16 → 0 ≤ V (10 + 6 * b + 1) t ∧ V (10 + 6 * b + 1) t ≤ 7) (k : K u w (some (iv (z_na (V (10 + 6 * b + 1)) (V (10 + 6 * b) 0) 16))) S V) : y_R X 1 4 u w [.ref (10 + 6 * b)] S V K := by
  refine y_ent (lv' := [(0, .ref (10 + 6 * b))]) (Nat.le_of_ble_eq_true rfl) rfl ?_
  refine y_ic rfl rfl ?_
  refine y_st (lv' := [(1, iv 0), (0, .ref (10 + 6 * b))]) rfl rfl (fun d => rfl) ?_
  refine y_ic rfl rfl ?_
  refine y_st (lv' := [(2, iv 0), (1, iv 0), (0, .ref (10 + 6 * b))]) rfl rfl (fun d => rfl) ?_
  refine y_lv (l' := [(0, .ref (10 + 6 * b)), (1, iv (z_na (V (10 + 6 * b + 1)) (V (10 + 6 * b) 0) 0)), (2, iv ((0 : Nat) : Int))]) rfl ⟨rfl, rfl, rfl, trivial⟩ ?_
  exact y_mono (lp_ledAway (F := 100) hC hb hx hL k 17 0 (by omega) (by omega)) (by decide)
set_option maxRecDepth 100000 in
set_option maxHeartbeats 4000000 in
theorem lp_isLedTo (hC : ClF S) {x : Int} (hx : (-2147483648 ≤ x ∧ x < 2147483648)) (hB : 0 ≤ V 1 5 ∧ V 1 5 ≤ 8) (hL : ∀ b : Nat, (b : Int) < V 1 5 → ∀ t : Nat, t < 16 → 0 ≤ V (10 + 6 * b + 1) t ∧ V (10 + 6 * b + 1) t ≤ 7) (k1 : (∃ b : Nat, (b : Int) < V 1 5 ∧ (b : Int) ≠ x ∧ ∃ t : Nat, t < 16 ∧ V (10 + 6 * b + 1) t = x) → K u w (some (iv 1)) S V) (k0 : (∀ b : Nat, (b : Int) < V 1 5 → (b : Int) ≠ x → ∀ t : Nat, t < 16 → V (10 + 6 * b + 1) t ≠ x) → K u w (some (iv 0)) S V) {F : Nat} : ∀ (m : Nat) (i : Nat), 8 - i < m → ((i : Int) ≤ V 1 5) → (∀ b : Nat, b < i → (b : Int) ≠ x → ∀ t : Nat, t < 16 → V (10 + 6 * b + 1) t ≠ x) → y_E X 1 46 (600 * m + F) u w 2 [(0, .ref 1), (1, iv x), (2, iv (i : Int))] [] S V K := by
  intro m
  induction m with
  | zero => intros; omega
  | succ m ih =>
    intro i hm hI hJ 
    refine y_mono (F' := (600 * m + F) + 600) ?_ (by omega)
    refine y_ld (x := iv (i : Int)) rfl rfl (fun d => rfl) ?_
    refine y_ld (x := .ref 1) rfl rfl (fun d => rfl) ?_
    refine y_gI (i := 5) (e := (V 1 5)) rfl rfl rfl (hC 1 _ _ rfl) rfl rfl ?_
    refine y_jge rfl rfl rfl (by omega) (fun g1 => ?_) (fun g1 => ?_)
    · refine y_ic rfl rfl ?_
      refine y_rI rfl (by decide) ?_
      exact k0 (fun b hb => hJ b (by omega))
    · refine y_ld (x := iv (i : Int)) rfl rfl (fun d => rfl) ?_
      refine y_ld (x := iv x) rfl rfl (fun d => rfl) ?_
      refine y_jeq rfl rfl rfl (by omega) (fun g2 => ?_) (fun g2 => ?_)
      · refine y_inc (z := ((i + 1 : Nat) : Int)) (lv' := [(2, iv ((i + 1 : Nat) : Int)), (0, .ref 1), (1, iv x)]) rfl rfl rfl (by omega) rfl ?_
        refine y_go rfl rfl ?_
        refine y_lv (l' := [(0, .ref 1), (1, iv x), (2, iv ((i + 1 : Nat) : Int))]) rfl ⟨rfl, rfl, rfl, trivial⟩ ?_
        exact y_mono (ih (i + 1) (by omega) (by omega) (fun b hb hbx => by rcases (show b < i ∨ b = i by omega) with h | h <;> first | exact hJ b h hbx | (exfalso; omega))) (by omega)
      · obtain ⟨vs, hb1, hb2⟩ := bx_ref hC (i := i) (by omega)
        refine y_ld (x := .ref 1) rfl rfl (fun d => rfl) ?_
        refine y_gR (i := 4) rfl rfl rfl (hC 1 _ _ rfl) rfl ?_
        refine y_ld (x := iv (i : Int)) rfl rfl (fun d => rfl) ?_
        refine y_rld (i := i) (x := 10 + 6 * i) rfl rfl hb1 (by decide) (by omega) (by omega) hb2 ?_
        refine y_ld (x := iv x) rfl rfl (fun d => rfl) ?_
        refine y_cV (as := [.ref (10 + 6 * i), iv x]) rfl rfl rfl rfl rfl (bx_ob hC (i := i) (by omega)) ⟨rfl, (Nat.le_of_ble_eq_true rfl), (Nat.le_of_ble_eq_true rfl)⟩ (by decide) (cb_leadsTo (b := i) hC (by omega) hx (hL i (by omega)) (fun q1 => ?_) (fun q1 => ?_))
        · refine y_nv ?_
          refine y_zeq rfl rfl rfl (by decide) (fun g3 => absurd g3 (by decide)) (fun g3 => ?_)
          refine y_ic rfl rfl ?_
          refine y_rI rfl (by decide) ?_
          exact k1 ⟨i, by omega, by omega, q1⟩
        · refine y_nv ?_
          refine y_zeq rfl rfl rfl (by decide) (fun g4 => ?_) (fun g4 => absurd g4 (by decide))
          refine y_inc (z := ((i + 1 : Nat) : Int)) (lv' := [(2, iv ((i + 1 : Nat) : Int)), (0, .ref 1), (1, iv x)]) rfl rfl rfl (by omega) rfl ?_
          refine y_go rfl rfl ?_
          refine y_lv (l' := [(0, .ref 1), (1, iv x), (2, iv ((i + 1 : Nat) : Int))]) rfl ⟨rfl, rfl, rfl, trivial⟩ ?_
          exact y_mono (ih (i + 1) (by omega) (by omega) (fun b hb hbx => by rcases (show b < i ∨ b = i by omega) with h | h <;> first | exact hJ b h hbx | (rw [h]; exact q1))) (by omega)
set_option maxRecDepth 100000 in
set_option maxHeartbeats 4000000 in
theorem cb_isLedTo (hC : ClF S) {x : Int} (hx : (-2147483648 ≤ x ∧ x < 2147483648)) (hB : 0 ≤ V 1 5 ∧ V 1 5 ≤ 8) (hL : ∀ b : Nat, (b : Int) < V 1 5 → ∀ t : Nat, t < 16 → 0 ≤ V (10 + 6 * b + 1) t ∧ V (10 + 6 * b + 1) t ≤ 7) (k1 : (∃ b : Nat, (b : Int) < V 1 5 ∧ (b : Int) ≠ x ∧ ∃ t : Nat, t < 16 ∧ V (10 + 6 * b + 1) t = x) → K u w (some (iv 1)) S V) (k0 : (∀ b : Nat, (b : Int) < V 1 5 → (b : Int) ≠ x → ∀ t : Nat, t < 16 → V (10 + 6 * b + 1) t ≠ x) → K u w (some (iv 0)) S V) : y_R X 2 46 u w [.ref 1, iv x] S V K := by
  refine y_ent (lv' := [(0, .ref 1), (1, iv x)]) (Nat.le_of_ble_eq_true rfl) rfl ?_
  refine y_ic rfl rfl ?_
  refine y_st (lv' := [(2, iv 0), (0, .ref 1), (1, iv x)]) rfl rfl (fun d => rfl) ?_
  refine y_lv (l' := [(0, .ref 1), (1, iv x), (2, iv 0)]) rfl ⟨rfl, rfl, rfl, trivial⟩ ?_
  exact y_mono (lp_isLedTo (F := 100) hC hx hB hL k1 k0 9 0 (by omega) (by omega) (fun t ht => absurd ht (Nat.not_lt_zero t))) (by decide)
end
end
