/-! SUM, ACTS in the class -/
theorem mk_comm {ln : Int} {g : Nat → Int} {s t : Int} (h : s ≠ t) (hs : 0 ≤ s) (ht : 0 ≤ t) : mk ln (mk ln g s true) t true = mk ln (mk ln g t true) s true := by
  unfold mk
  by_cases h1 : 108 ≤ s
  · by_cases h2 : 108 ≤ t
    · simp only [if_pos h1, if_pos h2]
      rw [v_uf_ne (show (t - 108).toNat ≠ (s - 108).toNat by omega), v_uf_ne (show (s - 108).toNat ≠ (t - 108).toNat by omega), v_uf_comm _ _ _ (show (s - 108).toNat ≠ (t - 108).toNat by omega)]
    · simp only [if_pos h1, if_neg h2]
  · by_cases h2 : 108 ≤ t
    · simp only [if_neg h1, if_pos h2]
    · simp only [if_neg h1, if_neg h2]
theorem mk_idem {ln : Int} {g : Nat → Int} {t : Int} : mk ln (mk ln g t false) t false = mk ln g t false := by
  unfold mk
  by_cases h1 : 108 ≤ t
  · simp only [if_pos h1]
    rw [v_uf_eq, v_uf_uf]
    congr 1
    by_cases h2 : 1 < g (t - 108).toNat
    · simp only [if_pos h2]
    · simp [h2]
  · simp only [if_neg h1]
theorem pM_s {τ : Nat → Int} {z k p : Nat} {s : Int} {acc : List Int} : pM τ z (k + 1) s p acc = (if (pT τ z p).1 < 0 then (none, (pT τ z p).2)
    else if k ≠ 0 ∧ (hr τ z (pT τ z p).2 = 43 ∨ hr τ z (pT τ z p).2 = 45) then pM τ z k (if hr τ z (pT τ z p).2 = 45 then 256 else 0) ((pT τ z p).2 + 1) (acc ++ [(pT τ z p).1 + s])
    else (some (acc ++ [(pT τ z p).1 + s]), (pT τ z p).2)) := rfl
theorem set_mid {l r : List Int} {x y : Int} : (l ++ x :: r).set l.length y = l ++ y :: r := by
  induction l with
  | nil => rfl
  | cons a l ih =>
    show a :: (l ++ x :: r).set l.length y = a :: (l ++ y :: r)
    rw [ih]
section
variable {X : Nat → List Int32} {u w : Nat} {S : m_H} {V : v_V} {K : v_K}
set_option maxRecDepth 100000 in
set_option maxHeartbeats 4000000 in
theorem lp_rsum (hC : ClF S) {t z : Nat} {τ : Nat → Int} {ln : Int} {st0 : List Int} {g0 : Nat → Int} (hR : RdS S t) (hX : TxS S t) (ht : 193 ≤ t) (hT : Tp τ 0 z) (hln : 1 ≤ ln ∧ ln ≤ 8) (hg0 : ∀ c, c < 8 → 0 ≤ g0 c ∧ g0 c ≤ 10) {cell : Int} (hcell : tcd cell) : ∀ (m n : Nat) (V : v_V) (K : v_K) (u w p : Nat) (s : Int) (acc : List Int), n + m = 4 → 1 ≤ m → acc.length = n → (s = 0 ∨ s = 256) → (n = 0 → s = 0) → p ≤ z → st0.length + 1 + acc.length ≤ p → smO acc → CP V t z τ p ln (st0 ++ (n : Int) :: acc) (mkS (ln - 1) cell true g0 acc) → (∀ l q V', pM τ z (4 - n) s p acc = (some l, q) → ¬ (hr τ z q = 43 ∨ hr τ z q = 45) → CP V' t z τ q ln (st0 ++ (l.length : Int) :: l) (mkS (ln - 1) cell true g0 l) → CF t V V' → K u w (some (iv 1)) S V') → (∀ q V' st' g', (pM τ z (4 - n) s p acc = (none, q) ∨ ∃ l, pM τ z (4 - n) s p acc = (some l, q) ∧ (hr τ z q = 43 ∨ hr τ z q = 45)) → CP V' t z τ q ln st' g' → CF t V V' → K u w (some (iv 0)) S V') → y_E X 3 26 (200 * m) u w 21 [(0, .ref 115), (1, iv cell), (2, iv (st0.length : Int)), (3, iv s), (4, iv ((n + 1 : Nat) : Int))] [] S V K := by
  intro m
  induction m with
  | zero => intros; omega
  | succ m ih =>
    intro n V K u w p s acc hnm hm1 hal hs hs0 hp hl hsa h k1 k2
    have hz := hT.2.1
    have hc2 := tcd_le hcell
    have hc0 : 0 ≤ cell := by have := hcell; unfold tcd at this; omega
    refine y_mono (F' := 200 * m + 200) ?_ (by omega)
    refine y_ld (x := iv ((n + 1 : Nat) : Int)) rfl rfl (fun d => rfl) ?_
    refine y_ic rfl rfl ?_
    refine y_jgt rfl rfl rfl (by omega) (fun g1 => absurd g1 (by omega)) (fun g1 => ?_)
    refine y_ld (x := .ref 115) rfl rfl (fun d => rfl) ?_
    refine y_cV (as := [.ref 115]) rfl rfl rfl rfl rfl hR ⟨rfl, (Nat.le_of_ble_eq_true rfl), (Nat.le_of_ble_eq_true rfl)⟩ (by omega) (cr_term hC hR hX ht hT h (by omega) (fun V1 h1 f1 => ?_))
    have pl2 := pT_le τ z p (by omega)
    have cd3 := pT_cd τ z p
    have rg4 : -1 ≤ (pT τ z p).1 ∧ (pT τ z p).1 ≤ 115 := pT_rg τ z p
    refine y_nv ?_
    refine y_st (lv' := [(5, iv ((pT τ z p).1)), (0, .ref 115), (1, iv cell), (2, iv (st0.length : Int)), (3, iv s), (4, iv ((n + 1 : Nat) : Int))]) rfl rfl (fun d => rfl) ?_
    refine y_ld (x := iv ((pT τ z p).1)) rfl rfl (fun d => rfl) ?_
    refine y_zge rfl rfl rfl (by omega) (fun g2 => ?_) (fun g2 => ?_)
    · refine y_ld (x := iv ((n + 1 : Nat) : Int)) rfl rfl (fun d => rfl) ?_
      refine y_ic rfl rfl ?_
      refine y_jne rfl rfl rfl (by omega) (fun g3 => ?_) (fun g3 => ?_)
      · refine y_ic rfl rfl ?_
        refine y_st (lv' := [(6, iv 0), (5, iv ((pT τ z p).1)), (0, .ref 115), (1, iv cell), (2, iv (st0.length : Int)), (3, iv s), (4, iv ((n + 1 : Nat) : Int))]) rfl rfl (fun d => rfl) ?_
        refine y_ld (x := .ref 115) rfl rfl (fun d => rfl) ?_
        refine y_gR (i := 3) rfl rfl rfl hR rfl ?_
        refine y_ld (x := iv ((pT τ z p).1)) rfl rfl (fun d => rfl) ?_
        refine y_ld (x := iv s) rfl rfl (fun d => rfl) ?_
        refine y_add (z := (((pT τ z p).1) + s)) rfl rfl rfl ?_
        refine y_cV (as := [.ref t, iv (((pT τ z p).1) + s)]) rfl rfl rfl rfl rfl hX.1 ⟨rfl, (Nat.le_of_ble_eq_true rfl), (Nat.le_of_ble_eq_true rfl)⟩ (by omega) (cr_add hC hR hX ht hT h1 (by first | omega | (simp; omega)) (fun V5 h5 f5 => ?_))
        refine y_n0 ?_
        refine y_ld (x := .ref 115) rfl rfl (fun d => rfl) ?_
        refine y_gR (i := 3) rfl rfl rfl hR rfl ?_
        refine y_ld (x := iv ((pT τ z p).1)) rfl rfl (fun d => rfl) ?_
        refine y_ld (x := iv 0) rfl rfl (fun d => rfl) ?_
        refine y_cV (as := [.ref t, iv ((pT τ z p).1), iv 0]) rfl rfl rfl rfl rfl hX.1 ⟨rfl, (Nat.le_of_ble_eq_true rfl), (Nat.le_of_ble_eq_true rfl)⟩ (by omega) (cr_note (b := false) hC hR hX ht hT (pT_cd τ z p (by omega)) hln (mkS_bd (by omega) (tcd_le hcell) acc true g0 hsa hg0) h5 (fun V6 h6 f6 => ?_))
        refine y_n0 ?_
        refine y_ld (x := iv ((n + 1 : Nat) : Int)) rfl rfl (fun d => rfl) ?_
        refine y_ic rfl rfl ?_
        refine y_jne rfl rfl rfl (by omega) (fun g4 => ?_) (fun g4 => absurd g4 (by omega))
        refine y_ld (x := .ref 115) rfl rfl (fun d => rfl) ?_
        refine y_gR (i := 3) rfl rfl rfl hR rfl ?_
        refine y_ld (x := iv (st0.length : Int)) rfl rfl (fun d => rfl) ?_
        refine y_ld (x := iv ((n + 1 : Nat) : Int)) rfl rfl (fun d => rfl) ?_
        refine y_cV (as := [.ref t, iv (st0.length : Int), iv ((n + 1 : Nat) : Int)]) rfl rfl rfl rfl rfl hX.1 ⟨rfl, (Nat.le_of_ble_eq_true rfl), (Nat.le_of_ble_eq_true rfl)⟩ (by omega) (cr_count hC hR hX ht hT h6 (by simp) (by simp; omega) (fun V7 h7 f7 => ?_))
        refine y_n0 ?_
        refine y_ld (x := .ref 115) rfl rfl (fun d => rfl) ?_
        refine y_cV (as := [.ref 115]) rfl rfl rfl rfl rfl hR ⟨rfl, (Nat.le_of_ble_eq_true rfl), (Nat.le_of_ble_eq_true rfl)⟩ (by omega) (cr_next hC hR hX ht hT h7 (by omega) ?_)
        have hq108 := hr_rg hT ((pT τ z p).2)
        refine y_nv ?_
        refine y_bi rfl rfl (by decide) ?_
        refine y_jeq rfl rfl rfl (by omega) (fun g5 => ?_) (fun g5 => ?_)
        · refine y_ld (x := .ref 115) rfl rfl (fun d => rfl) ?_
          refine y_cV (as := [.ref 115]) rfl rfl rfl rfl rfl hR ⟨rfl, (Nat.le_of_ble_eq_true rfl), (Nat.le_of_ble_eq_true rfl)⟩ (by omega) (cr_next hC hR hX ht hT h7 (by omega) ?_)
          have hq128 := hr_rg hT ((pT τ z p).2)
          refine y_nv ?_
          refine y_bi rfl rfl (by decide) ?_
          refine y_jne rfl rfl rfl (by omega) (fun g6 => ?_) (fun g6 => ?_)
          · refine y_ic rfl rfl ?_
            refine y_st (lv' := [(3, iv 0), (6, iv 0), (5, iv ((pT τ z p).1)), (0, .ref 115), (1, iv cell), (2, iv (st0.length : Int)), (4, iv ((n + 1 : Nat) : Int))]) rfl rfl (fun d => rfl) ?_
            refine y_ld (x := iv ((n + 1 : Nat) : Int)) rfl rfl (fun d => rfl) ?_
            refine y_ic rfl rfl ?_
            refine y_jge rfl rfl rfl (by omega) (fun g7 => ?_) (fun g7 => ?_)
            · refine y_inc (z := ((n + 1 + 1 : Nat) : Int)) (lv' := [(4, iv ((n + 1 + 1 : Nat) : Int)), (3, iv 0), (6, iv 0), (5, iv ((pT τ z p).1)), (0, .ref 115), (1, iv cell), (2, iv (st0.length : Int))]) rfl rfl rfl (by omega) rfl ?_
              refine y_go rfl rfl ?_
              refine y_ld (x := iv ((n + 1 + 1 : Nat) : Int)) rfl rfl (fun d => rfl) ?_
              refine y_ic rfl rfl ?_
              refine y_jgt rfl rfl rfl (by omega) (fun g8 => ?_) (fun g8 => absurd g8 (by omega))
              refine y_ic rfl rfl ?_
              refine y_rI rfl (by decide) ?_
              exact k2 _ _ _ _ (Or.inr ⟨_, (by rw [show 4 - n = (4 - (n + 1)) + 1 by omega, pM_s, if_neg (by omega), if_neg (by omega)]), by omega⟩) h7 (CF_tr (CF_tr (CF_tr (CF_tr (CF_rf t V) f1) f5) f6) f7)
            · refine y_ld (x := .ref 115) rfl rfl (fun d => rfl) ?_
              refine y_in rfl rfl (fun d => rfl) ?_
              refine y_gI (i := 2) (e := (((pT τ z p).2 : Nat) : Int)) rfl rfl rfl hR rfl h7.2.1 ?_
              refine y_ic rfl rfl ?_
              refine y_add (z := ((((pT τ z p).2 : Nat) : Int) + 1)) rfl rfl rfl ?_
              refine y_pI (i := 2) rfl rfl rfl hR rfl rfl ?_
              have hr1 := raw_t (s := s) (pT_cd τ z p (by omega)) (by omega)
              have hsm : smO (acc ++ [(pT τ z p).1 + s]) := smO_app hsa (by rw [hr1]; exact (pT_cd τ z p (by omega)))
              have hmk : mkS1 (ln - 1) cell (true && acc.isEmpty) (mkS (ln - 1) cell true g0 acc) ((pT τ z p).1 + s) = mk (ln - 1) (mkS (ln - 1) cell true g0 acc) (pT τ z p).1 true := by
                rw [acc_cons hal (by omega)]; unfold mkS1; rw [if_neg (by decide), hr1]
              have hst : (st0 ++ (n : Int) :: acc ++ [(pT τ z p).1 + s]).set st0.length ((n + 1 : Nat) : Int) = st0 ++ ((acc ++ [(pT τ z p).1 + s]).length : Int) :: (acc ++ [(pT τ z p).1 + s]) := by
                rw [List.append_assoc, show ((n : Int) :: acc) ++ [(pT τ z p).1 + s] = (n : Int) :: (acc ++ [(pT τ z p).1 + s]) from rfl, set_mid, show ((acc ++ [(pT τ z p).1 + s]).length : Int) = ((n + 1 : Nat) : Int) by simp; omega]
              have hh : CP V7 t z τ (pT τ z p).2 ln (st0 ++ ((acc ++ [(pT τ z p).1 + s]).length : Int) :: (acc ++ [(pT τ z p).1 + s])) (mkS (ln - 1) cell true g0 (acc ++ [(pT τ z p).1 + s])) := by
                rw [mkS_app, hmk, ← hst]
                exact h7
              have pl9 := hr_le (τ := τ) (z := z) (p := (pT τ z p).2) (by omega)
              have hh2 := CP_at (p' := (pT τ z p).2 + 1) ht hh
              refine y_inc (z := ((n + 1 + 1 : Nat) : Int)) (lv' := [(4, iv ((n + 1 + 1 : Nat) : Int)), (3, iv 0), (6, iv 0), (5, iv ((pT τ z p).1)), (0, .ref 115), (1, iv cell), (2, iv (st0.length : Int))]) rfl rfl rfl (by omega) rfl ?_
              refine y_go rfl rfl ?_
              refine y_lv (l' := [(0, .ref 115), (1, iv cell), (2, iv (st0.length : Int)), (3, iv 0), (4, iv ((n + 1 + 1 : Nat) : Int))]) rfl ⟨rfl, rfl, rfl, rfl, rfl, trivial⟩ ?_
              refine y_mono (ih (n + 1) _ _ _ _ ((pT τ z p).2 + 1) 0 (acc ++ [(pT τ z p).1 + s]) (by omega) (by omega) (by simp; omega) (by decide) (fun q => absurd q (by omega)) (by omega) (by simp; omega) hsm (by have e := hh2; rw [show ((acc ++ [(pT τ z p).1 + s]).length : Int) = ((n + 1 : Nat) : Int) by simp; omega] at e; exact e) ?_ ?_) (by omega)
              · intro lz qz V' a1 a2 a3 a4
                exact k1 lz qz V' (by rw [show 4 - n = (4 - (n + 1)) + 1 by omega, pM_s, if_neg (by omega), if_pos ⟨by omega, by omega⟩, if_neg (by omega)]; exact a1) a2 a3 (CF_tr (CF_tr (CF_tr (CF_tr (CF_tr (CF_tr (CF_rf t V) f1) f5) f6) f7) (CF_at ht)) a4)
              · intro qz V' st' g' a1 a2 a3
                refine k2 qz V' st' g' ?_ a2 (CF_tr (CF_tr (CF_tr (CF_tr (CF_tr (CF_tr (CF_rf t V) f1) f5) f6) f7) (CF_at ht)) a3)
                have e : pM τ z (4 - n) s p acc = pM τ z (4 - (n + 1)) 0 ((pT τ z p).2 + 1) (acc ++ [(pT τ z p).1 + s]) := by rw [show 4 - n = (4 - (n + 1)) + 1 by omega, pM_s, if_neg (by omega), if_pos ⟨by omega, by omega⟩, if_neg (by omega)]
                rw [e]; exact a1
          · refine y_si rfl rfl (by decide) ?_
            refine y_go rfl rfl ?_
            refine y_st (lv' := [(3, iv 256), (6, iv 0), (5, iv ((pT τ z p).1)), (0, .ref 115), (1, iv cell), (2, iv (st0.length : Int)), (4, iv ((n + 1 : Nat) : Int))]) rfl rfl (fun d => rfl) ?_
            refine y_ld (x := iv ((n + 1 : Nat) : Int)) rfl rfl (fun d => rfl) ?_
            refine y_ic rfl rfl ?_
            refine y_jge rfl rfl rfl (by omega) (fun g9 => ?_) (fun g9 => ?_)
            · refine y_inc (z := ((n + 1 + 1 : Nat) : Int)) (lv' := [(4, iv ((n + 1 + 1 : Nat) : Int)), (3, iv 256), (6, iv 0), (5, iv ((pT τ z p).1)), (0, .ref 115), (1, iv cell), (2, iv (st0.length : Int))]) rfl rfl rfl (by omega) rfl ?_
              refine y_go rfl rfl ?_
              refine y_ld (x := iv ((n + 1 + 1 : Nat) : Int)) rfl rfl (fun d => rfl) ?_
              refine y_ic rfl rfl ?_
              refine y_jgt rfl rfl rfl (by omega) (fun g10 => ?_) (fun g10 => absurd g10 (by omega))
              refine y_ic rfl rfl ?_
              refine y_rI rfl (by decide) ?_
              exact k2 _ _ _ _ (Or.inr ⟨_, (by rw [show 4 - n = (4 - (n + 1)) + 1 by omega, pM_s, if_neg (by omega), if_neg (by omega)]), by omega⟩) h7 (CF_tr (CF_tr (CF_tr (CF_tr (CF_rf t V) f1) f5) f6) f7)
            · refine y_ld (x := .ref 115) rfl rfl (fun d => rfl) ?_
              refine y_in rfl rfl (fun d => rfl) ?_
              refine y_gI (i := 2) (e := (((pT τ z p).2 : Nat) : Int)) rfl rfl rfl hR rfl h7.2.1 ?_
              refine y_ic rfl rfl ?_
              refine y_add (z := ((((pT τ z p).2 : Nat) : Int) + 1)) rfl rfl rfl ?_
              refine y_pI (i := 2) rfl rfl rfl hR rfl rfl ?_
              have hr1 := raw_t (s := s) (pT_cd τ z p (by omega)) (by omega)
              have hsm : smO (acc ++ [(pT τ z p).1 + s]) := smO_app hsa (by rw [hr1]; exact (pT_cd τ z p (by omega)))
              have hmk : mkS1 (ln - 1) cell (true && acc.isEmpty) (mkS (ln - 1) cell true g0 acc) ((pT τ z p).1 + s) = mk (ln - 1) (mkS (ln - 1) cell true g0 acc) (pT τ z p).1 true := by
                rw [acc_cons hal (by omega)]; unfold mkS1; rw [if_neg (by decide), hr1]
              have hst : (st0 ++ (n : Int) :: acc ++ [(pT τ z p).1 + s]).set st0.length ((n + 1 : Nat) : Int) = st0 ++ ((acc ++ [(pT τ z p).1 + s]).length : Int) :: (acc ++ [(pT τ z p).1 + s]) := by
                rw [List.append_assoc, show ((n : Int) :: acc) ++ [(pT τ z p).1 + s] = (n : Int) :: (acc ++ [(pT τ z p).1 + s]) from rfl, set_mid, show ((acc ++ [(pT τ z p).1 + s]).length : Int) = ((n + 1 : Nat) : Int) by simp; omega]
              have hh : CP V7 t z τ (pT τ z p).2 ln (st0 ++ ((acc ++ [(pT τ z p).1 + s]).length : Int) :: (acc ++ [(pT τ z p).1 + s])) (mkS (ln - 1) cell true g0 (acc ++ [(pT τ z p).1 + s])) := by
                rw [mkS_app, hmk, ← hst]
                exact h7
              have pl9 := hr_le (τ := τ) (z := z) (p := (pT τ z p).2) (by omega)
              have hh2 := CP_at (p' := (pT τ z p).2 + 1) ht hh
              refine y_inc (z := ((n + 1 + 1 : Nat) : Int)) (lv' := [(4, iv ((n + 1 + 1 : Nat) : Int)), (3, iv 256), (6, iv 0), (5, iv ((pT τ z p).1)), (0, .ref 115), (1, iv cell), (2, iv (st0.length : Int))]) rfl rfl rfl (by omega) rfl ?_
              refine y_go rfl rfl ?_
              refine y_lv (l' := [(0, .ref 115), (1, iv cell), (2, iv (st0.length : Int)), (3, iv 256), (4, iv ((n + 1 + 1 : Nat) : Int))]) rfl ⟨rfl, rfl, rfl, rfl, rfl, trivial⟩ ?_
              refine y_mono (ih (n + 1) _ _ _ _ ((pT τ z p).2 + 1) 256 (acc ++ [(pT τ z p).1 + s]) (by omega) (by omega) (by simp; omega) (by decide) (fun q => absurd q (by omega)) (by omega) (by simp; omega) hsm (by have e := hh2; rw [show ((acc ++ [(pT τ z p).1 + s]).length : Int) = ((n + 1 : Nat) : Int) by simp; omega] at e; exact e) ?_ ?_) (by omega)
              · intro lz qz V' a1 a2 a3 a4
                exact k1 lz qz V' (by rw [show 4 - n = (4 - (n + 1)) + 1 by omega, pM_s, if_neg (by omega), if_pos ⟨by omega, by omega⟩, if_pos (by omega)]; exact a1) a2 a3 (CF_tr (CF_tr (CF_tr (CF_tr (CF_tr (CF_tr (CF_rf t V) f1) f5) f6) f7) (CF_at ht)) a4)
              · intro qz V' st' g' a1 a2 a3
                refine k2 qz V' st' g' ?_ a2 (CF_tr (CF_tr (CF_tr (CF_tr (CF_tr (CF_tr (CF_rf t V) f1) f5) f6) f7) (CF_at ht)) a3)
                have e : pM τ z (4 - n) s p acc = pM τ z (4 - (n + 1)) 256 ((pT τ z p).2 + 1) (acc ++ [(pT τ z p).1 + s]) := by rw [show 4 - n = (4 - (n + 1)) + 1 by omega, pM_s, if_neg (by omega), if_pos ⟨by omega, by omega⟩, if_pos (by omega)]
                rw [e]; exact a1
        · refine y_ld (x := .ref 115) rfl rfl (fun d => rfl) ?_
          refine y_cV (as := [.ref 115]) rfl rfl rfl rfl rfl hR ⟨rfl, (Nat.le_of_ble_eq_true rfl), (Nat.le_of_ble_eq_true rfl)⟩ (by omega) (cr_next hC hR hX ht hT h7 (by omega) ?_)
          have hq117 := hr_rg hT ((pT τ z p).2)
          refine y_nv ?_
          refine y_bi rfl rfl (by decide) ?_
          refine y_jeq rfl rfl rfl (by omega) (fun g11 => ?_) (fun g11 => ?_)
          · refine y_ld (x := .ref 115) rfl rfl (fun d => rfl) ?_
            refine y_cV (as := [.ref 115]) rfl rfl rfl rfl rfl hR ⟨rfl, (Nat.le_of_ble_eq_true rfl), (Nat.le_of_ble_eq_true rfl)⟩ (by omega) (cr_next hC hR hX ht hT h7 (by omega) ?_)
            have hq128 := hr_rg hT ((pT τ z p).2)
            refine y_nv ?_
            refine y_bi rfl rfl (by decide) ?_
            refine y_jne rfl rfl rfl (by omega) (fun g12 => ?_) (fun g12 => ?_)
            · refine y_ic rfl rfl ?_
              refine y_st (lv' := [(3, iv 0), (6, iv 0), (5, iv ((pT τ z p).1)), (0, .ref 115), (1, iv cell), (2, iv (st0.length : Int)), (4, iv ((n + 1 : Nat) : Int))]) rfl rfl (fun d => rfl) ?_
              refine y_ld (x := iv ((n + 1 : Nat) : Int)) rfl rfl (fun d => rfl) ?_
              refine y_ic rfl rfl ?_
              refine y_jge rfl rfl rfl (by omega) (fun g13 => ?_) (fun g13 => ?_)
              · refine y_inc (z := ((n + 1 + 1 : Nat) : Int)) (lv' := [(4, iv ((n + 1 + 1 : Nat) : Int)), (3, iv 0), (6, iv 0), (5, iv ((pT τ z p).1)), (0, .ref 115), (1, iv cell), (2, iv (st0.length : Int))]) rfl rfl rfl (by omega) rfl ?_
                refine y_go rfl rfl ?_
                refine y_ld (x := iv ((n + 1 + 1 : Nat) : Int)) rfl rfl (fun d => rfl) ?_
                refine y_ic rfl rfl ?_
                refine y_jgt rfl rfl rfl (by omega) (fun g14 => ?_) (fun g14 => absurd g14 (by omega))
                refine y_ic rfl rfl ?_
                refine y_rI rfl (by decide) ?_
                exact k2 _ _ _ _ (Or.inr ⟨_, (by rw [show 4 - n = (4 - (n + 1)) + 1 by omega, pM_s, if_neg (by omega), if_neg (by omega)]), by omega⟩) h7 (CF_tr (CF_tr (CF_tr (CF_tr (CF_rf t V) f1) f5) f6) f7)
              · refine y_ld (x := .ref 115) rfl rfl (fun d => rfl) ?_
                refine y_in rfl rfl (fun d => rfl) ?_
                refine y_gI (i := 2) (e := (((pT τ z p).2 : Nat) : Int)) rfl rfl rfl hR rfl h7.2.1 ?_
                refine y_ic rfl rfl ?_
                refine y_add (z := ((((pT τ z p).2 : Nat) : Int) + 1)) rfl rfl rfl ?_
                refine y_pI (i := 2) rfl rfl rfl hR rfl rfl ?_
                have hr1 := raw_t (s := s) (pT_cd τ z p (by omega)) (by omega)
                have hsm : smO (acc ++ [(pT τ z p).1 + s]) := smO_app hsa (by rw [hr1]; exact (pT_cd τ z p (by omega)))
                have hmk : mkS1 (ln - 1) cell (true && acc.isEmpty) (mkS (ln - 1) cell true g0 acc) ((pT τ z p).1 + s) = mk (ln - 1) (mkS (ln - 1) cell true g0 acc) (pT τ z p).1 true := by
                  rw [acc_cons hal (by omega)]; unfold mkS1; rw [if_neg (by decide), hr1]
                have hst : (st0 ++ (n : Int) :: acc ++ [(pT τ z p).1 + s]).set st0.length ((n + 1 : Nat) : Int) = st0 ++ ((acc ++ [(pT τ z p).1 + s]).length : Int) :: (acc ++ [(pT τ z p).1 + s]) := by
                  rw [List.append_assoc, show ((n : Int) :: acc) ++ [(pT τ z p).1 + s] = (n : Int) :: (acc ++ [(pT τ z p).1 + s]) from rfl, set_mid, show ((acc ++ [(pT τ z p).1 + s]).length : Int) = ((n + 1 : Nat) : Int) by simp; omega]
                have hh : CP V7 t z τ (pT τ z p).2 ln (st0 ++ ((acc ++ [(pT τ z p).1 + s]).length : Int) :: (acc ++ [(pT τ z p).1 + s])) (mkS (ln - 1) cell true g0 (acc ++ [(pT τ z p).1 + s])) := by
                  rw [mkS_app, hmk, ← hst]
                  exact h7
                have pl9 := hr_le (τ := τ) (z := z) (p := (pT τ z p).2) (by omega)
                have hh2 := CP_at (p' := (pT τ z p).2 + 1) ht hh
                refine y_inc (z := ((n + 1 + 1 : Nat) : Int)) (lv' := [(4, iv ((n + 1 + 1 : Nat) : Int)), (3, iv 0), (6, iv 0), (5, iv ((pT τ z p).1)), (0, .ref 115), (1, iv cell), (2, iv (st0.length : Int))]) rfl rfl rfl (by omega) rfl ?_
                refine y_go rfl rfl ?_
                refine y_lv (l' := [(0, .ref 115), (1, iv cell), (2, iv (st0.length : Int)), (3, iv 0), (4, iv ((n + 1 + 1 : Nat) : Int))]) rfl ⟨rfl, rfl, rfl, rfl, rfl, trivial⟩ ?_
                refine y_mono (ih (n + 1) _ _ _ _ ((pT τ z p).2 + 1) 0 (acc ++ [(pT τ z p).1 + s]) (by omega) (by omega) (by simp; omega) (by decide) (fun q => absurd q (by omega)) (by omega) (by simp; omega) hsm (by have e := hh2; rw [show ((acc ++ [(pT τ z p).1 + s]).length : Int) = ((n + 1 : Nat) : Int) by simp; omega] at e; exact e) ?_ ?_) (by omega)
                · intro lz qz V' a1 a2 a3 a4
                  exact k1 lz qz V' (by rw [show 4 - n = (4 - (n + 1)) + 1 by omega, pM_s, if_neg (by omega), if_pos ⟨by omega, by omega⟩, if_neg (by omega)]; exact a1) a2 a3 (CF_tr (CF_tr (CF_tr (CF_tr (CF_tr (CF_tr (CF_rf t V) f1) f5) f6) f7) (CF_at ht)) a4)
                · intro qz V' st' g' a1 a2 a3
                  refine k2 qz V' st' g' ?_ a2 (CF_tr (CF_tr (CF_tr (CF_tr (CF_tr (CF_tr (CF_rf t V) f1) f5) f6) f7) (CF_at ht)) a3)
                  have e : pM τ z (4 - n) s p acc = pM τ z (4 - (n + 1)) 0 ((pT τ z p).2 + 1) (acc ++ [(pT τ z p).1 + s]) := by rw [show 4 - n = (4 - (n + 1)) + 1 by omega, pM_s, if_neg (by omega), if_pos ⟨by omega, by omega⟩, if_neg (by omega)]
                  rw [e]; exact a1
            · refine y_si rfl rfl (by decide) ?_
              refine y_go rfl rfl ?_
              refine y_st (lv' := [(3, iv 256), (6, iv 0), (5, iv ((pT τ z p).1)), (0, .ref 115), (1, iv cell), (2, iv (st0.length : Int)), (4, iv ((n + 1 : Nat) : Int))]) rfl rfl (fun d => rfl) ?_
              refine y_ld (x := iv ((n + 1 : Nat) : Int)) rfl rfl (fun d => rfl) ?_
              refine y_ic rfl rfl ?_
              refine y_jge rfl rfl rfl (by omega) (fun g15 => ?_) (fun g15 => ?_)
              · refine y_inc (z := ((n + 1 + 1 : Nat) : Int)) (lv' := [(4, iv ((n + 1 + 1 : Nat) : Int)), (3, iv 256), (6, iv 0), (5, iv ((pT τ z p).1)), (0, .ref 115), (1, iv cell), (2, iv (st0.length : Int))]) rfl rfl rfl (by omega) rfl ?_
                refine y_go rfl rfl ?_
                refine y_ld (x := iv ((n + 1 + 1 : Nat) : Int)) rfl rfl (fun d => rfl) ?_
                refine y_ic rfl rfl ?_
                refine y_jgt rfl rfl rfl (by omega) (fun g16 => ?_) (fun g16 => absurd g16 (by omega))
                refine y_ic rfl rfl ?_
                refine y_rI rfl (by decide) ?_
                exact k2 _ _ _ _ (Or.inr ⟨_, (by rw [show 4 - n = (4 - (n + 1)) + 1 by omega, pM_s, if_neg (by omega), if_neg (by omega)]), by omega⟩) h7 (CF_tr (CF_tr (CF_tr (CF_tr (CF_rf t V) f1) f5) f6) f7)
              · refine y_ld (x := .ref 115) rfl rfl (fun d => rfl) ?_
                refine y_in rfl rfl (fun d => rfl) ?_
                refine y_gI (i := 2) (e := (((pT τ z p).2 : Nat) : Int)) rfl rfl rfl hR rfl h7.2.1 ?_
                refine y_ic rfl rfl ?_
                refine y_add (z := ((((pT τ z p).2 : Nat) : Int) + 1)) rfl rfl rfl ?_
                refine y_pI (i := 2) rfl rfl rfl hR rfl rfl ?_
                have hr1 := raw_t (s := s) (pT_cd τ z p (by omega)) (by omega)
                have hsm : smO (acc ++ [(pT τ z p).1 + s]) := smO_app hsa (by rw [hr1]; exact (pT_cd τ z p (by omega)))
                have hmk : mkS1 (ln - 1) cell (true && acc.isEmpty) (mkS (ln - 1) cell true g0 acc) ((pT τ z p).1 + s) = mk (ln - 1) (mkS (ln - 1) cell true g0 acc) (pT τ z p).1 true := by
                  rw [acc_cons hal (by omega)]; unfold mkS1; rw [if_neg (by decide), hr1]
                have hst : (st0 ++ (n : Int) :: acc ++ [(pT τ z p).1 + s]).set st0.length ((n + 1 : Nat) : Int) = st0 ++ ((acc ++ [(pT τ z p).1 + s]).length : Int) :: (acc ++ [(pT τ z p).1 + s]) := by
                  rw [List.append_assoc, show ((n : Int) :: acc) ++ [(pT τ z p).1 + s] = (n : Int) :: (acc ++ [(pT τ z p).1 + s]) from rfl, set_mid, show ((acc ++ [(pT τ z p).1 + s]).length : Int) = ((n + 1 : Nat) : Int) by simp; omega]
                have hh : CP V7 t z τ (pT τ z p).2 ln (st0 ++ ((acc ++ [(pT τ z p).1 + s]).length : Int) :: (acc ++ [(pT τ z p).1 + s])) (mkS (ln - 1) cell true g0 (acc ++ [(pT τ z p).1 + s])) := by
                  rw [mkS_app, hmk, ← hst]
                  exact h7
                have pl9 := hr_le (τ := τ) (z := z) (p := (pT τ z p).2) (by omega)
                have hh2 := CP_at (p' := (pT τ z p).2 + 1) ht hh
                refine y_inc (z := ((n + 1 + 1 : Nat) : Int)) (lv' := [(4, iv ((n + 1 + 1 : Nat) : Int)), (3, iv 256), (6, iv 0), (5, iv ((pT τ z p).1)), (0, .ref 115), (1, iv cell), (2, iv (st0.length : Int))]) rfl rfl rfl (by omega) rfl ?_
                refine y_go rfl rfl ?_
                refine y_lv (l' := [(0, .ref 115), (1, iv cell), (2, iv (st0.length : Int)), (3, iv 256), (4, iv ((n + 1 + 1 : Nat) : Int))]) rfl ⟨rfl, rfl, rfl, rfl, rfl, trivial⟩ ?_
                refine y_mono (ih (n + 1) _ _ _ _ ((pT τ z p).2 + 1) 256 (acc ++ [(pT τ z p).1 + s]) (by omega) (by omega) (by simp; omega) (by decide) (fun q => absurd q (by omega)) (by omega) (by simp; omega) hsm (by have e := hh2; rw [show ((acc ++ [(pT τ z p).1 + s]).length : Int) = ((n + 1 : Nat) : Int) by simp; omega] at e; exact e) ?_ ?_) (by omega)
                · intro lz qz V' a1 a2 a3 a4
                  exact k1 lz qz V' (by rw [show 4 - n = (4 - (n + 1)) + 1 by omega, pM_s, if_neg (by omega), if_pos ⟨by omega, by omega⟩, if_pos (by omega)]; exact a1) a2 a3 (CF_tr (CF_tr (CF_tr (CF_tr (CF_tr (CF_tr (CF_rf t V) f1) f5) f6) f7) (CF_at ht)) a4)
                · intro qz V' st' g' a1 a2 a3
                  refine k2 qz V' st' g' ?_ a2 (CF_tr (CF_tr (CF_tr (CF_tr (CF_tr (CF_tr (CF_rf t V) f1) f5) f6) f7) (CF_at ht)) a3)
                  have e : pM τ z (4 - n) s p acc = pM τ z (4 - (n + 1)) 256 ((pT τ z p).2 + 1) (acc ++ [(pT τ z p).1 + s]) := by rw [show 4 - n = (4 - (n + 1)) + 1 by omega, pM_s, if_neg (by omega), if_pos ⟨by omega, by omega⟩, if_pos (by omega)]
                  rw [e]; exact a1
          · refine y_ic rfl rfl ?_
            refine y_rI rfl (by decide) ?_
            have hr1 := raw_t (s := s) (pT_cd τ z p (by omega)) (by omega)
            have hsm : smO (acc ++ [(pT τ z p).1 + s]) := smO_app hsa (by rw [hr1]; exact (pT_cd τ z p (by omega)))
            have hmk : mkS1 (ln - 1) cell (true && acc.isEmpty) (mkS (ln - 1) cell true g0 acc) ((pT τ z p).1 + s) = mk (ln - 1) (mkS (ln - 1) cell true g0 acc) (pT τ z p).1 true := by
              rw [acc_cons hal (by omega)]; unfold mkS1; rw [if_neg (by decide), hr1]
            have hst : (st0 ++ (n : Int) :: acc ++ [(pT τ z p).1 + s]).set st0.length ((n + 1 : Nat) : Int) = st0 ++ ((acc ++ [(pT τ z p).1 + s]).length : Int) :: (acc ++ [(pT τ z p).1 + s]) := by
              rw [List.append_assoc, show ((n : Int) :: acc) ++ [(pT τ z p).1 + s] = (n : Int) :: (acc ++ [(pT τ z p).1 + s]) from rfl, set_mid, show ((acc ++ [(pT τ z p).1 + s]).length : Int) = ((n + 1 : Nat) : Int) by simp; omega]
            have hh : CP V7 t z τ (pT τ z p).2 ln (st0 ++ ((acc ++ [(pT τ z p).1 + s]).length : Int) :: (acc ++ [(pT τ z p).1 + s])) (mkS (ln - 1) cell true g0 (acc ++ [(pT τ z p).1 + s])) := by
              rw [mkS_app, hmk, ← hst]
              exact h7
            exact k1 _ _ _ (by rw [show 4 - n = (4 - (n + 1)) + 1 by omega, pM_s, if_neg (by omega), if_neg (by omega)]) (by omega) hh (CF_tr (CF_tr (CF_tr (CF_tr (CF_rf t V) f1) f5) f6) f7)
      · refine y_ld (x := iv ((pT τ z p).1)) rfl rfl (fun d => rfl) ?_
        refine y_ld (x := iv cell) rfl rfl (fun d => rfl) ?_
        refine y_jne rfl rfl rfl (by omega) (fun g17 => ?_) (fun g17 => ?_)
        · refine y_ic rfl rfl ?_
          refine y_st (lv' := [(6, iv 0), (5, iv ((pT τ z p).1)), (0, .ref 115), (1, iv cell), (2, iv (st0.length : Int)), (3, iv s), (4, iv ((n + 1 : Nat) : Int))]) rfl rfl (fun d => rfl) ?_
          refine y_ld (x := .ref 115) rfl rfl (fun d => rfl) ?_
          refine y_gR (i := 3) rfl rfl rfl hR rfl ?_
          refine y_ld (x := iv ((pT τ z p).1)) rfl rfl (fun d => rfl) ?_
          refine y_ld (x := iv s) rfl rfl (fun d => rfl) ?_
          refine y_add (z := (((pT τ z p).1) + s)) rfl rfl rfl ?_
          refine y_cV (as := [.ref t, iv (((pT τ z p).1) + s)]) rfl rfl rfl rfl rfl hX.1 ⟨rfl, (Nat.le_of_ble_eq_true rfl), (Nat.le_of_ble_eq_true rfl)⟩ (by omega) (cr_add hC hR hX ht hT h1 (by first | omega | (simp; omega)) (fun V8 h8 f8 => ?_))
          refine y_n0 ?_
          refine y_ld (x := .ref 115) rfl rfl (fun d => rfl) ?_
          refine y_gR (i := 3) rfl rfl rfl hR rfl ?_
          refine y_ld (x := iv ((pT τ z p).1)) rfl rfl (fun d => rfl) ?_
          refine y_ld (x := iv 0) rfl rfl (fun d => rfl) ?_
          refine y_cV (as := [.ref t, iv ((pT τ z p).1), iv 0]) rfl rfl rfl rfl rfl hX.1 ⟨rfl, (Nat.le_of_ble_eq_true rfl), (Nat.le_of_ble_eq_true rfl)⟩ (by omega) (cr_note (b := false) hC hR hX ht hT (pT_cd τ z p (by omega)) hln (mkS_bd (by omega) (tcd_le hcell) acc true g0 hsa hg0) h8 (fun V9 h9 f9 => ?_))
          refine y_n0 ?_
          refine y_ld (x := iv ((n + 1 : Nat) : Int)) rfl rfl (fun d => rfl) ?_
          refine y_ic rfl rfl ?_
          refine y_jne rfl rfl rfl (by omega) (fun g18 => absurd g18 (by omega)) (fun g18 => ?_)
          refine y_ld (x := .ref 115) rfl rfl (fun d => rfl) ?_
          refine y_gR (i := 3) rfl rfl rfl hR rfl ?_
          refine y_ld (x := iv cell) rfl rfl (fun d => rfl) ?_
          refine y_ld (x := iv 0) rfl rfl (fun d => rfl) ?_
          refine y_cV (as := [.ref t, iv cell, iv 0]) rfl rfl rfl rfl rfl hX.1 ⟨rfl, (Nat.le_of_ble_eq_true rfl), (Nat.le_of_ble_eq_true rfl)⟩ (by omega) (cr_note (b := false) hC hR hX ht hT hcell hln (mk_bd (by omega) (mkS_bd (by omega) (tcd_le hcell) acc true g0 hsa hg0) _ _ (tcd_le (pT_cd τ z p (by omega)))) h9 (fun V10 h10 f10 => ?_))
          refine y_n0 ?_
          refine y_ld (x := .ref 115) rfl rfl (fun d => rfl) ?_
          refine y_gR (i := 3) rfl rfl rfl hR rfl ?_
          refine y_ld (x := iv (st0.length : Int)) rfl rfl (fun d => rfl) ?_
          refine y_ld (x := iv ((n + 1 : Nat) : Int)) rfl rfl (fun d => rfl) ?_
          refine y_cV (as := [.ref t, iv (st0.length : Int), iv ((n + 1 : Nat) : Int)]) rfl rfl rfl rfl rfl hX.1 ⟨rfl, (Nat.le_of_ble_eq_true rfl), (Nat.le_of_ble_eq_true rfl)⟩ (by omega) (cr_count hC hR hX ht hT h10 (by simp) (by simp; omega) (fun V11 h11 f11 => ?_))
          refine y_n0 ?_
          refine y_ld (x := .ref 115) rfl rfl (fun d => rfl) ?_
          refine y_cV (as := [.ref 115]) rfl rfl rfl rfl rfl hR ⟨rfl, (Nat.le_of_ble_eq_true rfl), (Nat.le_of_ble_eq_true rfl)⟩ (by omega) (cr_next hC hR hX ht hT h11 (by omega) ?_)
          have hq108 := hr_rg hT ((pT τ z p).2)
          refine y_nv ?_
          refine y_bi rfl rfl (by decide) ?_
          refine y_jeq rfl rfl rfl (by omega) (fun g19 => ?_) (fun g19 => ?_)
          · refine y_ld (x := .ref 115) rfl rfl (fun d => rfl) ?_
            refine y_cV (as := [.ref 115]) rfl rfl rfl rfl rfl hR ⟨rfl, (Nat.le_of_ble_eq_true rfl), (Nat.le_of_ble_eq_true rfl)⟩ (by omega) (cr_next hC hR hX ht hT h11 (by omega) ?_)
            have hq128 := hr_rg hT ((pT τ z p).2)
            refine y_nv ?_
            refine y_bi rfl rfl (by decide) ?_
            refine y_jne rfl rfl rfl (by omega) (fun g20 => ?_) (fun g20 => ?_)
            · refine y_ic rfl rfl ?_
              refine y_st (lv' := [(3, iv 0), (6, iv 0), (5, iv ((pT τ z p).1)), (0, .ref 115), (1, iv cell), (2, iv (st0.length : Int)), (4, iv ((n + 1 : Nat) : Int))]) rfl rfl (fun d => rfl) ?_
              refine y_ld (x := iv ((n + 1 : Nat) : Int)) rfl rfl (fun d => rfl) ?_
              refine y_ic rfl rfl ?_
              refine y_jge rfl rfl rfl (by omega) (fun g21 => ?_) (fun g21 => ?_)
              · refine y_inc (z := ((n + 1 + 1 : Nat) : Int)) (lv' := [(4, iv ((n + 1 + 1 : Nat) : Int)), (3, iv 0), (6, iv 0), (5, iv ((pT τ z p).1)), (0, .ref 115), (1, iv cell), (2, iv (st0.length : Int))]) rfl rfl rfl (by omega) rfl ?_
                refine y_go rfl rfl ?_
                refine y_ld (x := iv ((n + 1 + 1 : Nat) : Int)) rfl rfl (fun d => rfl) ?_
                refine y_ic rfl rfl ?_
                refine y_jgt rfl rfl rfl (by omega) (fun g22 => ?_) (fun g22 => absurd g22 (by omega))
                refine y_ic rfl rfl ?_
                refine y_rI rfl (by decide) ?_
                exact k2 _ _ _ _ (Or.inr ⟨_, (by rw [show 4 - n = (4 - (n + 1)) + 1 by omega, pM_s, if_neg (by omega), if_neg (by omega)]), by omega⟩) h11 (CF_tr (CF_tr (CF_tr (CF_tr (CF_tr (CF_rf t V) f1) f8) f9) f10) f11)
              · refine y_ld (x := .ref 115) rfl rfl (fun d => rfl) ?_
                refine y_in rfl rfl (fun d => rfl) ?_
                refine y_gI (i := 2) (e := (((pT τ z p).2 : Nat) : Int)) rfl rfl rfl hR rfl h11.2.1 ?_
                refine y_ic rfl rfl ?_
                refine y_add (z := ((((pT τ z p).2 : Nat) : Int) + 1)) rfl rfl rfl ?_
                refine y_pI (i := 2) rfl rfl rfl hR rfl rfl ?_
                have hr1 := raw_t (s := s) (pT_cd τ z p (by omega)) (by omega)
                have hsm : smO (acc ++ [(pT τ z p).1 + s]) := smO_app hsa (by rw [hr1]; exact (pT_cd τ z p (by omega)))
                have hcc : (pT τ z p).1 ≠ cell := by omega
                have hmk : mkS1 (ln - 1) cell (true && acc.isEmpty) (mkS (ln - 1) cell true g0 acc) ((pT τ z p).1 + s) = mk (ln - 1) (mk (ln - 1) (mkS (ln - 1) cell true g0 acc) (pT τ z p).1 true) cell true := by
                  rw [acc_nil hal (by omega), mk_comm hcc (by omega) (by have := hcell; unfold tcd at this; omega)]; unfold mkS1; rw [if_pos rfl, if_neg (by omega), hr1]
                have hst : (st0 ++ (n : Int) :: acc ++ [(pT τ z p).1 + s]).set st0.length ((n + 1 : Nat) : Int) = st0 ++ ((acc ++ [(pT τ z p).1 + s]).length : Int) :: (acc ++ [(pT τ z p).1 + s]) := by
                  rw [List.append_assoc, show ((n : Int) :: acc) ++ [(pT τ z p).1 + s] = (n : Int) :: (acc ++ [(pT τ z p).1 + s]) from rfl, set_mid, show ((acc ++ [(pT τ z p).1 + s]).length : Int) = ((n + 1 : Nat) : Int) by simp; omega]
                have hh : CP V11 t z τ (pT τ z p).2 ln (st0 ++ ((acc ++ [(pT τ z p).1 + s]).length : Int) :: (acc ++ [(pT τ z p).1 + s])) (mkS (ln - 1) cell true g0 (acc ++ [(pT τ z p).1 + s])) := by
                  rw [mkS_app, hmk, ← hst]
                  exact h11
                have pl9 := hr_le (τ := τ) (z := z) (p := (pT τ z p).2) (by omega)
                have hh2 := CP_at (p' := (pT τ z p).2 + 1) ht hh
                refine y_inc (z := ((n + 1 + 1 : Nat) : Int)) (lv' := [(4, iv ((n + 1 + 1 : Nat) : Int)), (3, iv 0), (6, iv 0), (5, iv ((pT τ z p).1)), (0, .ref 115), (1, iv cell), (2, iv (st0.length : Int))]) rfl rfl rfl (by omega) rfl ?_
                refine y_go rfl rfl ?_
                refine y_lv (l' := [(0, .ref 115), (1, iv cell), (2, iv (st0.length : Int)), (3, iv 0), (4, iv ((n + 1 + 1 : Nat) : Int))]) rfl ⟨rfl, rfl, rfl, rfl, rfl, trivial⟩ ?_
                refine y_mono (ih (n + 1) _ _ _ _ ((pT τ z p).2 + 1) 0 (acc ++ [(pT τ z p).1 + s]) (by omega) (by omega) (by simp; omega) (by decide) (fun q => absurd q (by omega)) (by omega) (by simp; omega) hsm (by have e := hh2; rw [show ((acc ++ [(pT τ z p).1 + s]).length : Int) = ((n + 1 : Nat) : Int) by simp; omega] at e; exact e) ?_ ?_) (by omega)
                · intro lz qz V' a1 a2 a3 a4
                  exact k1 lz qz V' (by rw [show 4 - n = (4 - (n + 1)) + 1 by omega, pM_s, if_neg (by omega), if_pos ⟨by omega, by omega⟩, if_neg (by omega)]; exact a1) a2 a3 (CF_tr (CF_tr (CF_tr (CF_tr (CF_tr (CF_tr (CF_tr (CF_rf t V) f1) f8) f9) f10) f11) (CF_at ht)) a4)
                · intro qz V' st' g' a1 a2 a3
                  refine k2 qz V' st' g' ?_ a2 (CF_tr (CF_tr (CF_tr (CF_tr (CF_tr (CF_tr (CF_tr (CF_rf t V) f1) f8) f9) f10) f11) (CF_at ht)) a3)
                  have e : pM τ z (4 - n) s p acc = pM τ z (4 - (n + 1)) 0 ((pT τ z p).2 + 1) (acc ++ [(pT τ z p).1 + s]) := by rw [show 4 - n = (4 - (n + 1)) + 1 by omega, pM_s, if_neg (by omega), if_pos ⟨by omega, by omega⟩, if_neg (by omega)]
                  rw [e]; exact a1
            · refine y_si rfl rfl (by decide) ?_
              refine y_go rfl rfl ?_
              refine y_st (lv' := [(3, iv 256), (6, iv 0), (5, iv ((pT τ z p).1)), (0, .ref 115), (1, iv cell), (2, iv (st0.length : Int)), (4, iv ((n + 1 : Nat) : Int))]) rfl rfl (fun d => rfl) ?_
              refine y_ld (x := iv ((n + 1 : Nat) : Int)) rfl rfl (fun d => rfl) ?_
              refine y_ic rfl rfl ?_
              refine y_jge rfl rfl rfl (by omega) (fun g23 => ?_) (fun g23 => ?_)
              · refine y_inc (z := ((n + 1 + 1 : Nat) : Int)) (lv' := [(4, iv ((n + 1 + 1 : Nat) : Int)), (3, iv 256), (6, iv 0), (5, iv ((pT τ z p).1)), (0, .ref 115), (1, iv cell), (2, iv (st0.length : Int))]) rfl rfl rfl (by omega) rfl ?_
                refine y_go rfl rfl ?_
                refine y_ld (x := iv ((n + 1 + 1 : Nat) : Int)) rfl rfl (fun d => rfl) ?_
                refine y_ic rfl rfl ?_
                refine y_jgt rfl rfl rfl (by omega) (fun g24 => ?_) (fun g24 => absurd g24 (by omega))
                refine y_ic rfl rfl ?_
                refine y_rI rfl (by decide) ?_
                exact k2 _ _ _ _ (Or.inr ⟨_, (by rw [show 4 - n = (4 - (n + 1)) + 1 by omega, pM_s, if_neg (by omega), if_neg (by omega)]), by omega⟩) h11 (CF_tr (CF_tr (CF_tr (CF_tr (CF_tr (CF_rf t V) f1) f8) f9) f10) f11)
              · refine y_ld (x := .ref 115) rfl rfl (fun d => rfl) ?_
                refine y_in rfl rfl (fun d => rfl) ?_
                refine y_gI (i := 2) (e := (((pT τ z p).2 : Nat) : Int)) rfl rfl rfl hR rfl h11.2.1 ?_
                refine y_ic rfl rfl ?_
                refine y_add (z := ((((pT τ z p).2 : Nat) : Int) + 1)) rfl rfl rfl ?_
                refine y_pI (i := 2) rfl rfl rfl hR rfl rfl ?_
                have hr1 := raw_t (s := s) (pT_cd τ z p (by omega)) (by omega)
                have hsm : smO (acc ++ [(pT τ z p).1 + s]) := smO_app hsa (by rw [hr1]; exact (pT_cd τ z p (by omega)))
                have hcc : (pT τ z p).1 ≠ cell := by omega
                have hmk : mkS1 (ln - 1) cell (true && acc.isEmpty) (mkS (ln - 1) cell true g0 acc) ((pT τ z p).1 + s) = mk (ln - 1) (mk (ln - 1) (mkS (ln - 1) cell true g0 acc) (pT τ z p).1 true) cell true := by
                  rw [acc_nil hal (by omega), mk_comm hcc (by omega) (by have := hcell; unfold tcd at this; omega)]; unfold mkS1; rw [if_pos rfl, if_neg (by omega), hr1]
                have hst : (st0 ++ (n : Int) :: acc ++ [(pT τ z p).1 + s]).set st0.length ((n + 1 : Nat) : Int) = st0 ++ ((acc ++ [(pT τ z p).1 + s]).length : Int) :: (acc ++ [(pT τ z p).1 + s]) := by
                  rw [List.append_assoc, show ((n : Int) :: acc) ++ [(pT τ z p).1 + s] = (n : Int) :: (acc ++ [(pT τ z p).1 + s]) from rfl, set_mid, show ((acc ++ [(pT τ z p).1 + s]).length : Int) = ((n + 1 : Nat) : Int) by simp; omega]
                have hh : CP V11 t z τ (pT τ z p).2 ln (st0 ++ ((acc ++ [(pT τ z p).1 + s]).length : Int) :: (acc ++ [(pT τ z p).1 + s])) (mkS (ln - 1) cell true g0 (acc ++ [(pT τ z p).1 + s])) := by
                  rw [mkS_app, hmk, ← hst]
                  exact h11
                have pl9 := hr_le (τ := τ) (z := z) (p := (pT τ z p).2) (by omega)
                have hh2 := CP_at (p' := (pT τ z p).2 + 1) ht hh
                refine y_inc (z := ((n + 1 + 1 : Nat) : Int)) (lv' := [(4, iv ((n + 1 + 1 : Nat) : Int)), (3, iv 256), (6, iv 0), (5, iv ((pT τ z p).1)), (0, .ref 115), (1, iv cell), (2, iv (st0.length : Int))]) rfl rfl rfl (by omega) rfl ?_
                refine y_go rfl rfl ?_
                refine y_lv (l' := [(0, .ref 115), (1, iv cell), (2, iv (st0.length : Int)), (3, iv 256), (4, iv ((n + 1 + 1 : Nat) : Int))]) rfl ⟨rfl, rfl, rfl, rfl, rfl, trivial⟩ ?_
                refine y_mono (ih (n + 1) _ _ _ _ ((pT τ z p).2 + 1) 256 (acc ++ [(pT τ z p).1 + s]) (by omega) (by omega) (by simp; omega) (by decide) (fun q => absurd q (by omega)) (by omega) (by simp; omega) hsm (by have e := hh2; rw [show ((acc ++ [(pT τ z p).1 + s]).length : Int) = ((n + 1 : Nat) : Int) by simp; omega] at e; exact e) ?_ ?_) (by omega)
                · intro lz qz V' a1 a2 a3 a4
                  exact k1 lz qz V' (by rw [show 4 - n = (4 - (n + 1)) + 1 by omega, pM_s, if_neg (by omega), if_pos ⟨by omega, by omega⟩, if_pos (by omega)]; exact a1) a2 a3 (CF_tr (CF_tr (CF_tr (CF_tr (CF_tr (CF_tr (CF_tr (CF_rf t V) f1) f8) f9) f10) f11) (CF_at ht)) a4)
                · intro qz V' st' g' a1 a2 a3
                  refine k2 qz V' st' g' ?_ a2 (CF_tr (CF_tr (CF_tr (CF_tr (CF_tr (CF_tr (CF_tr (CF_rf t V) f1) f8) f9) f10) f11) (CF_at ht)) a3)
                  have e : pM τ z (4 - n) s p acc = pM τ z (4 - (n + 1)) 256 ((pT τ z p).2 + 1) (acc ++ [(pT τ z p).1 + s]) := by rw [show 4 - n = (4 - (n + 1)) + 1 by omega, pM_s, if_neg (by omega), if_pos ⟨by omega, by omega⟩, if_pos (by omega)]
                  rw [e]; exact a1
          · refine y_ld (x := .ref 115) rfl rfl (fun d => rfl) ?_
            refine y_cV (as := [.ref 115]) rfl rfl rfl rfl rfl hR ⟨rfl, (Nat.le_of_ble_eq_true rfl), (Nat.le_of_ble_eq_true rfl)⟩ (by omega) (cr_next hC hR hX ht hT h11 (by omega) ?_)
            have hq117 := hr_rg hT ((pT τ z p).2)
            refine y_nv ?_
            refine y_bi rfl rfl (by decide) ?_
            refine y_jeq rfl rfl rfl (by omega) (fun g25 => ?_) (fun g25 => ?_)
            · refine y_ld (x := .ref 115) rfl rfl (fun d => rfl) ?_
              refine y_cV (as := [.ref 115]) rfl rfl rfl rfl rfl hR ⟨rfl, (Nat.le_of_ble_eq_true rfl), (Nat.le_of_ble_eq_true rfl)⟩ (by omega) (cr_next hC hR hX ht hT h11 (by omega) ?_)
              have hq128 := hr_rg hT ((pT τ z p).2)
              refine y_nv ?_
              refine y_bi rfl rfl (by decide) ?_
              refine y_jne rfl rfl rfl (by omega) (fun g26 => ?_) (fun g26 => ?_)
              · refine y_ic rfl rfl ?_
                refine y_st (lv' := [(3, iv 0), (6, iv 0), (5, iv ((pT τ z p).1)), (0, .ref 115), (1, iv cell), (2, iv (st0.length : Int)), (4, iv ((n + 1 : Nat) : Int))]) rfl rfl (fun d => rfl) ?_
                refine y_ld (x := iv ((n + 1 : Nat) : Int)) rfl rfl (fun d => rfl) ?_
                refine y_ic rfl rfl ?_
                refine y_jge rfl rfl rfl (by omega) (fun g27 => ?_) (fun g27 => ?_)
                · refine y_inc (z := ((n + 1 + 1 : Nat) : Int)) (lv' := [(4, iv ((n + 1 + 1 : Nat) : Int)), (3, iv 0), (6, iv 0), (5, iv ((pT τ z p).1)), (0, .ref 115), (1, iv cell), (2, iv (st0.length : Int))]) rfl rfl rfl (by omega) rfl ?_
                  refine y_go rfl rfl ?_
                  refine y_ld (x := iv ((n + 1 + 1 : Nat) : Int)) rfl rfl (fun d => rfl) ?_
                  refine y_ic rfl rfl ?_
                  refine y_jgt rfl rfl rfl (by omega) (fun g28 => ?_) (fun g28 => absurd g28 (by omega))
                  refine y_ic rfl rfl ?_
                  refine y_rI rfl (by decide) ?_
                  exact k2 _ _ _ _ (Or.inr ⟨_, (by rw [show 4 - n = (4 - (n + 1)) + 1 by omega, pM_s, if_neg (by omega), if_neg (by omega)]), by omega⟩) h11 (CF_tr (CF_tr (CF_tr (CF_tr (CF_tr (CF_rf t V) f1) f8) f9) f10) f11)
                · refine y_ld (x := .ref 115) rfl rfl (fun d => rfl) ?_
                  refine y_in rfl rfl (fun d => rfl) ?_
                  refine y_gI (i := 2) (e := (((pT τ z p).2 : Nat) : Int)) rfl rfl rfl hR rfl h11.2.1 ?_
                  refine y_ic rfl rfl ?_
                  refine y_add (z := ((((pT τ z p).2 : Nat) : Int) + 1)) rfl rfl rfl ?_
                  refine y_pI (i := 2) rfl rfl rfl hR rfl rfl ?_
                  have hr1 := raw_t (s := s) (pT_cd τ z p (by omega)) (by omega)
                  have hsm : smO (acc ++ [(pT τ z p).1 + s]) := smO_app hsa (by rw [hr1]; exact (pT_cd τ z p (by omega)))
                  have hcc : (pT τ z p).1 ≠ cell := by omega
                  have hmk : mkS1 (ln - 1) cell (true && acc.isEmpty) (mkS (ln - 1) cell true g0 acc) ((pT τ z p).1 + s) = mk (ln - 1) (mk (ln - 1) (mkS (ln - 1) cell true g0 acc) (pT τ z p).1 true) cell true := by
                    rw [acc_nil hal (by omega), mk_comm hcc (by omega) (by have := hcell; unfold tcd at this; omega)]; unfold mkS1; rw [if_pos rfl, if_neg (by omega), hr1]
                  have hst : (st0 ++ (n : Int) :: acc ++ [(pT τ z p).1 + s]).set st0.length ((n + 1 : Nat) : Int) = st0 ++ ((acc ++ [(pT τ z p).1 + s]).length : Int) :: (acc ++ [(pT τ z p).1 + s]) := by
                    rw [List.append_assoc, show ((n : Int) :: acc) ++ [(pT τ z p).1 + s] = (n : Int) :: (acc ++ [(pT τ z p).1 + s]) from rfl, set_mid, show ((acc ++ [(pT τ z p).1 + s]).length : Int) = ((n + 1 : Nat) : Int) by simp; omega]
                  have hh : CP V11 t z τ (pT τ z p).2 ln (st0 ++ ((acc ++ [(pT τ z p).1 + s]).length : Int) :: (acc ++ [(pT τ z p).1 + s])) (mkS (ln - 1) cell true g0 (acc ++ [(pT τ z p).1 + s])) := by
                    rw [mkS_app, hmk, ← hst]
                    exact h11
                  have pl9 := hr_le (τ := τ) (z := z) (p := (pT τ z p).2) (by omega)
                  have hh2 := CP_at (p' := (pT τ z p).2 + 1) ht hh
                  refine y_inc (z := ((n + 1 + 1 : Nat) : Int)) (lv' := [(4, iv ((n + 1 + 1 : Nat) : Int)), (3, iv 0), (6, iv 0), (5, iv ((pT τ z p).1)), (0, .ref 115), (1, iv cell), (2, iv (st0.length : Int))]) rfl rfl rfl (by omega) rfl ?_
                  refine y_go rfl rfl ?_
                  refine y_lv (l' := [(0, .ref 115), (1, iv cell), (2, iv (st0.length : Int)), (3, iv 0), (4, iv ((n + 1 + 1 : Nat) : Int))]) rfl ⟨rfl, rfl, rfl, rfl, rfl, trivial⟩ ?_
                  refine y_mono (ih (n + 1) _ _ _ _ ((pT τ z p).2 + 1) 0 (acc ++ [(pT τ z p).1 + s]) (by omega) (by omega) (by simp; omega) (by decide) (fun q => absurd q (by omega)) (by omega) (by simp; omega) hsm (by have e := hh2; rw [show ((acc ++ [(pT τ z p).1 + s]).length : Int) = ((n + 1 : Nat) : Int) by simp; omega] at e; exact e) ?_ ?_) (by omega)
                  · intro lz qz V' a1 a2 a3 a4
                    exact k1 lz qz V' (by rw [show 4 - n = (4 - (n + 1)) + 1 by omega, pM_s, if_neg (by omega), if_pos ⟨by omega, by omega⟩, if_neg (by omega)]; exact a1) a2 a3 (CF_tr (CF_tr (CF_tr (CF_tr (CF_tr (CF_tr (CF_tr (CF_rf t V) f1) f8) f9) f10) f11) (CF_at ht)) a4)
                  · intro qz V' st' g' a1 a2 a3
                    refine k2 qz V' st' g' ?_ a2 (CF_tr (CF_tr (CF_tr (CF_tr (CF_tr (CF_tr (CF_tr (CF_rf t V) f1) f8) f9) f10) f11) (CF_at ht)) a3)
                    have e : pM τ z (4 - n) s p acc = pM τ z (4 - (n + 1)) 0 ((pT τ z p).2 + 1) (acc ++ [(pT τ z p).1 + s]) := by rw [show 4 - n = (4 - (n + 1)) + 1 by omega, pM_s, if_neg (by omega), if_pos ⟨by omega, by omega⟩, if_neg (by omega)]
                    rw [e]; exact a1
              · refine y_si rfl rfl (by decide) ?_
                refine y_go rfl rfl ?_
                refine y_st (lv' := [(3, iv 256), (6, iv 0), (5, iv ((pT τ z p).1)), (0, .ref 115), (1, iv cell), (2, iv (st0.length : Int)), (4, iv ((n + 1 : Nat) : Int))]) rfl rfl (fun d => rfl) ?_
                refine y_ld (x := iv ((n + 1 : Nat) : Int)) rfl rfl (fun d => rfl) ?_
                refine y_ic rfl rfl ?_
                refine y_jge rfl rfl rfl (by omega) (fun g29 => ?_) (fun g29 => ?_)
                · refine y_inc (z := ((n + 1 + 1 : Nat) : Int)) (lv' := [(4, iv ((n + 1 + 1 : Nat) : Int)), (3, iv 256), (6, iv 0), (5, iv ((pT τ z p).1)), (0, .ref 115), (1, iv cell), (2, iv (st0.length : Int))]) rfl rfl rfl (by omega) rfl ?_
                  refine y_go rfl rfl ?_
                  refine y_ld (x := iv ((n + 1 + 1 : Nat) : Int)) rfl rfl (fun d => rfl) ?_
                  refine y_ic rfl rfl ?_
                  refine y_jgt rfl rfl rfl (by omega) (fun g30 => ?_) (fun g30 => absurd g30 (by omega))
                  refine y_ic rfl rfl ?_
                  refine y_rI rfl (by decide) ?_
                  exact k2 _ _ _ _ (Or.inr ⟨_, (by rw [show 4 - n = (4 - (n + 1)) + 1 by omega, pM_s, if_neg (by omega), if_neg (by omega)]), by omega⟩) h11 (CF_tr (CF_tr (CF_tr (CF_tr (CF_tr (CF_rf t V) f1) f8) f9) f10) f11)
                · refine y_ld (x := .ref 115) rfl rfl (fun d => rfl) ?_
                  refine y_in rfl rfl (fun d => rfl) ?_
                  refine y_gI (i := 2) (e := (((pT τ z p).2 : Nat) : Int)) rfl rfl rfl hR rfl h11.2.1 ?_
                  refine y_ic rfl rfl ?_
                  refine y_add (z := ((((pT τ z p).2 : Nat) : Int) + 1)) rfl rfl rfl ?_
                  refine y_pI (i := 2) rfl rfl rfl hR rfl rfl ?_
                  have hr1 := raw_t (s := s) (pT_cd τ z p (by omega)) (by omega)
                  have hsm : smO (acc ++ [(pT τ z p).1 + s]) := smO_app hsa (by rw [hr1]; exact (pT_cd τ z p (by omega)))
                  have hcc : (pT τ z p).1 ≠ cell := by omega
                  have hmk : mkS1 (ln - 1) cell (true && acc.isEmpty) (mkS (ln - 1) cell true g0 acc) ((pT τ z p).1 + s) = mk (ln - 1) (mk (ln - 1) (mkS (ln - 1) cell true g0 acc) (pT τ z p).1 true) cell true := by
                    rw [acc_nil hal (by omega), mk_comm hcc (by omega) (by have := hcell; unfold tcd at this; omega)]; unfold mkS1; rw [if_pos rfl, if_neg (by omega), hr1]
                  have hst : (st0 ++ (n : Int) :: acc ++ [(pT τ z p).1 + s]).set st0.length ((n + 1 : Nat) : Int) = st0 ++ ((acc ++ [(pT τ z p).1 + s]).length : Int) :: (acc ++ [(pT τ z p).1 + s]) := by
                    rw [List.append_assoc, show ((n : Int) :: acc) ++ [(pT τ z p).1 + s] = (n : Int) :: (acc ++ [(pT τ z p).1 + s]) from rfl, set_mid, show ((acc ++ [(pT τ z p).1 + s]).length : Int) = ((n + 1 : Nat) : Int) by simp; omega]
                  have hh : CP V11 t z τ (pT τ z p).2 ln (st0 ++ ((acc ++ [(pT τ z p).1 + s]).length : Int) :: (acc ++ [(pT τ z p).1 + s])) (mkS (ln - 1) cell true g0 (acc ++ [(pT τ z p).1 + s])) := by
                    rw [mkS_app, hmk, ← hst]
                    exact h11
                  have pl9 := hr_le (τ := τ) (z := z) (p := (pT τ z p).2) (by omega)
                  have hh2 := CP_at (p' := (pT τ z p).2 + 1) ht hh
                  refine y_inc (z := ((n + 1 + 1 : Nat) : Int)) (lv' := [(4, iv ((n + 1 + 1 : Nat) : Int)), (3, iv 256), (6, iv 0), (5, iv ((pT τ z p).1)), (0, .ref 115), (1, iv cell), (2, iv (st0.length : Int))]) rfl rfl rfl (by omega) rfl ?_
                  refine y_go rfl rfl ?_
                  refine y_lv (l' := [(0, .ref 115), (1, iv cell), (2, iv (st0.length : Int)), (3, iv 256), (4, iv ((n + 1 + 1 : Nat) : Int))]) rfl ⟨rfl, rfl, rfl, rfl, rfl, trivial⟩ ?_
                  refine y_mono (ih (n + 1) _ _ _ _ ((pT τ z p).2 + 1) 256 (acc ++ [(pT τ z p).1 + s]) (by omega) (by omega) (by simp; omega) (by decide) (fun q => absurd q (by omega)) (by omega) (by simp; omega) hsm (by have e := hh2; rw [show ((acc ++ [(pT τ z p).1 + s]).length : Int) = ((n + 1 : Nat) : Int) by simp; omega] at e; exact e) ?_ ?_) (by omega)
                  · intro lz qz V' a1 a2 a3 a4
                    exact k1 lz qz V' (by rw [show 4 - n = (4 - (n + 1)) + 1 by omega, pM_s, if_neg (by omega), if_pos ⟨by omega, by omega⟩, if_pos (by omega)]; exact a1) a2 a3 (CF_tr (CF_tr (CF_tr (CF_tr (CF_tr (CF_tr (CF_tr (CF_rf t V) f1) f8) f9) f10) f11) (CF_at ht)) a4)
                  · intro qz V' st' g' a1 a2 a3
                    refine k2 qz V' st' g' ?_ a2 (CF_tr (CF_tr (CF_tr (CF_tr (CF_tr (CF_tr (CF_tr (CF_rf t V) f1) f8) f9) f10) f11) (CF_at ht)) a3)
                    have e : pM τ z (4 - n) s p acc = pM τ z (4 - (n + 1)) 256 ((pT τ z p).2 + 1) (acc ++ [(pT τ z p).1 + s]) := by rw [show 4 - n = (4 - (n + 1)) + 1 by omega, pM_s, if_neg (by omega), if_pos ⟨by omega, by omega⟩, if_pos (by omega)]
                    rw [e]; exact a1
            · refine y_ic rfl rfl ?_
              refine y_rI rfl (by decide) ?_
              have hr1 := raw_t (s := s) (pT_cd τ z p (by omega)) (by omega)
              have hsm : smO (acc ++ [(pT τ z p).1 + s]) := smO_app hsa (by rw [hr1]; exact (pT_cd τ z p (by omega)))
              have hcc : (pT τ z p).1 ≠ cell := by omega
              have hmk : mkS1 (ln - 1) cell (true && acc.isEmpty) (mkS (ln - 1) cell true g0 acc) ((pT τ z p).1 + s) = mk (ln - 1) (mk (ln - 1) (mkS (ln - 1) cell true g0 acc) (pT τ z p).1 true) cell true := by
                rw [acc_nil hal (by omega), mk_comm hcc (by omega) (by have := hcell; unfold tcd at this; omega)]; unfold mkS1; rw [if_pos rfl, if_neg (by omega), hr1]
              have hst : (st0 ++ (n : Int) :: acc ++ [(pT τ z p).1 + s]).set st0.length ((n + 1 : Nat) : Int) = st0 ++ ((acc ++ [(pT τ z p).1 + s]).length : Int) :: (acc ++ [(pT τ z p).1 + s]) := by
                rw [List.append_assoc, show ((n : Int) :: acc) ++ [(pT τ z p).1 + s] = (n : Int) :: (acc ++ [(pT τ z p).1 + s]) from rfl, set_mid, show ((acc ++ [(pT τ z p).1 + s]).length : Int) = ((n + 1 : Nat) : Int) by simp; omega]
              have hh : CP V11 t z τ (pT τ z p).2 ln (st0 ++ ((acc ++ [(pT τ z p).1 + s]).length : Int) :: (acc ++ [(pT τ z p).1 + s])) (mkS (ln - 1) cell true g0 (acc ++ [(pT τ z p).1 + s])) := by
                rw [mkS_app, hmk, ← hst]
                exact h11
              exact k1 _ _ _ (by rw [show 4 - n = (4 - (n + 1)) + 1 by omega, pM_s, if_neg (by omega), if_neg (by omega)]) (by omega) hh (CF_tr (CF_tr (CF_tr (CF_tr (CF_tr (CF_rf t V) f1) f8) f9) f10) f11)
        · refine y_ic rfl rfl ?_
          refine y_go rfl rfl ?_
          refine y_st (lv' := [(6, iv 1), (5, iv ((pT τ z p).1)), (0, .ref 115), (1, iv cell), (2, iv (st0.length : Int)), (3, iv s), (4, iv ((n + 1 : Nat) : Int))]) rfl rfl (fun d => rfl) ?_
          refine y_ld (x := .ref 115) rfl rfl (fun d => rfl) ?_
          refine y_gR (i := 3) rfl rfl rfl hR rfl ?_
          refine y_ld (x := iv ((pT τ z p).1)) rfl rfl (fun d => rfl) ?_
          refine y_ld (x := iv s) rfl rfl (fun d => rfl) ?_
          refine y_add (z := (((pT τ z p).1) + s)) rfl rfl rfl ?_
          refine y_cV (as := [.ref t, iv (((pT τ z p).1) + s)]) rfl rfl rfl rfl rfl hX.1 ⟨rfl, (Nat.le_of_ble_eq_true rfl), (Nat.le_of_ble_eq_true rfl)⟩ (by omega) (cr_add hC hR hX ht hT h1 (by first | omega | (simp; omega)) (fun V12 h12 f12 => ?_))
          refine y_n0 ?_
          refine y_ld (x := .ref 115) rfl rfl (fun d => rfl) ?_
          refine y_gR (i := 3) rfl rfl rfl hR rfl ?_
          refine y_ld (x := iv ((pT τ z p).1)) rfl rfl (fun d => rfl) ?_
          refine y_ld (x := iv 1) rfl rfl (fun d => rfl) ?_
          refine y_cV (as := [.ref t, iv ((pT τ z p).1), iv 1]) rfl rfl rfl rfl rfl hX.1 ⟨rfl, (Nat.le_of_ble_eq_true rfl), (Nat.le_of_ble_eq_true rfl)⟩ (by omega) (cr_note (b := true) hC hR hX ht hT (pT_cd τ z p (by omega)) hln (mkS_bd (by omega) (tcd_le hcell) acc true g0 hsa hg0) h12 (fun V13 h13 f13 => ?_))
          refine y_n0 ?_
          refine y_ld (x := iv ((n + 1 : Nat) : Int)) rfl rfl (fun d => rfl) ?_
          refine y_ic rfl rfl ?_
          refine y_jne rfl rfl rfl (by omega) (fun g31 => absurd g31 (by omega)) (fun g31 => ?_)
          refine y_ld (x := .ref 115) rfl rfl (fun d => rfl) ?_
          refine y_gR (i := 3) rfl rfl rfl hR rfl ?_
          refine y_ld (x := iv cell) rfl rfl (fun d => rfl) ?_
          refine y_ld (x := iv 1) rfl rfl (fun d => rfl) ?_
          refine y_cV (as := [.ref t, iv cell, iv 1]) rfl rfl rfl rfl rfl hX.1 ⟨rfl, (Nat.le_of_ble_eq_true rfl), (Nat.le_of_ble_eq_true rfl)⟩ (by omega) (cr_note (b := true) hC hR hX ht hT hcell hln (mk_bd (by omega) (mkS_bd (by omega) (tcd_le hcell) acc true g0 hsa hg0) _ _ (tcd_le (pT_cd τ z p (by omega)))) h13 (fun V14 h14 f14 => ?_))
          refine y_n0 ?_
          refine y_ld (x := .ref 115) rfl rfl (fun d => rfl) ?_
          refine y_gR (i := 3) rfl rfl rfl hR rfl ?_
          refine y_ld (x := iv (st0.length : Int)) rfl rfl (fun d => rfl) ?_
          refine y_ld (x := iv ((n + 1 : Nat) : Int)) rfl rfl (fun d => rfl) ?_
          refine y_cV (as := [.ref t, iv (st0.length : Int), iv ((n + 1 : Nat) : Int)]) rfl rfl rfl rfl rfl hX.1 ⟨rfl, (Nat.le_of_ble_eq_true rfl), (Nat.le_of_ble_eq_true rfl)⟩ (by omega) (cr_count hC hR hX ht hT h14 (by simp) (by simp; omega) (fun V15 h15 f15 => ?_))
          refine y_n0 ?_
          refine y_ld (x := .ref 115) rfl rfl (fun d => rfl) ?_
          refine y_cV (as := [.ref 115]) rfl rfl rfl rfl rfl hR ⟨rfl, (Nat.le_of_ble_eq_true rfl), (Nat.le_of_ble_eq_true rfl)⟩ (by omega) (cr_next hC hR hX ht hT h15 (by omega) ?_)
          have hq108 := hr_rg hT ((pT τ z p).2)
          refine y_nv ?_
          refine y_bi rfl rfl (by decide) ?_
          refine y_jeq rfl rfl rfl (by omega) (fun g32 => ?_) (fun g32 => ?_)
          · refine y_ld (x := .ref 115) rfl rfl (fun d => rfl) ?_
            refine y_cV (as := [.ref 115]) rfl rfl rfl rfl rfl hR ⟨rfl, (Nat.le_of_ble_eq_true rfl), (Nat.le_of_ble_eq_true rfl)⟩ (by omega) (cr_next hC hR hX ht hT h15 (by omega) ?_)
            have hq128 := hr_rg hT ((pT τ z p).2)
            refine y_nv ?_
            refine y_bi rfl rfl (by decide) ?_
            refine y_jne rfl rfl rfl (by omega) (fun g33 => ?_) (fun g33 => ?_)
            · refine y_ic rfl rfl ?_
              refine y_st (lv' := [(3, iv 0), (6, iv 1), (5, iv ((pT τ z p).1)), (0, .ref 115), (1, iv cell), (2, iv (st0.length : Int)), (4, iv ((n + 1 : Nat) : Int))]) rfl rfl (fun d => rfl) ?_
              refine y_ld (x := iv ((n + 1 : Nat) : Int)) rfl rfl (fun d => rfl) ?_
              refine y_ic rfl rfl ?_
              refine y_jge rfl rfl rfl (by omega) (fun g34 => ?_) (fun g34 => ?_)
              · refine y_inc (z := ((n + 1 + 1 : Nat) : Int)) (lv' := [(4, iv ((n + 1 + 1 : Nat) : Int)), (3, iv 0), (6, iv 1), (5, iv ((pT τ z p).1)), (0, .ref 115), (1, iv cell), (2, iv (st0.length : Int))]) rfl rfl rfl (by omega) rfl ?_
                refine y_go rfl rfl ?_
                refine y_ld (x := iv ((n + 1 + 1 : Nat) : Int)) rfl rfl (fun d => rfl) ?_
                refine y_ic rfl rfl ?_
                refine y_jgt rfl rfl rfl (by omega) (fun g35 => ?_) (fun g35 => absurd g35 (by omega))
                refine y_ic rfl rfl ?_
                refine y_rI rfl (by decide) ?_
                exact k2 _ _ _ _ (Or.inr ⟨_, (by rw [show 4 - n = (4 - (n + 1)) + 1 by omega, pM_s, if_neg (by omega), if_neg (by omega)]), by omega⟩) h15 (CF_tr (CF_tr (CF_tr (CF_tr (CF_tr (CF_rf t V) f1) f12) f13) f14) f15)
              · refine y_ld (x := .ref 115) rfl rfl (fun d => rfl) ?_
                refine y_in rfl rfl (fun d => rfl) ?_
                refine y_gI (i := 2) (e := (((pT τ z p).2 : Nat) : Int)) rfl rfl rfl hR rfl h15.2.1 ?_
                refine y_ic rfl rfl ?_
                refine y_add (z := ((((pT τ z p).2 : Nat) : Int) + 1)) rfl rfl rfl ?_
                refine y_pI (i := 2) rfl rfl rfl hR rfl rfl ?_
                have hr1 := raw_t (s := s) (pT_cd τ z p (by omega)) (by omega)
                have hsm : smO (acc ++ [(pT τ z p).1 + s]) := smO_app hsa (by rw [hr1]; exact (pT_cd τ z p (by omega)))
                have hcc : (pT τ z p).1 = cell := by omega
                have hmk : mkS1 (ln - 1) cell (true && acc.isEmpty) (mkS (ln - 1) cell true g0 acc) ((pT τ z p).1 + s) = mk (ln - 1) (mk (ln - 1) (mkS (ln - 1) cell true g0 acc) (pT τ z p).1 false) cell false := by
                  rw [acc_nil hal (by omega), hcc, mk_idem]; unfold mkS1; rw [if_pos rfl, if_pos (by rw [← hcc]; exact hr1)]
                have hst : (st0 ++ (n : Int) :: acc ++ [(pT τ z p).1 + s]).set st0.length ((n + 1 : Nat) : Int) = st0 ++ ((acc ++ [(pT τ z p).1 + s]).length : Int) :: (acc ++ [(pT τ z p).1 + s]) := by
                  rw [List.append_assoc, show ((n : Int) :: acc) ++ [(pT τ z p).1 + s] = (n : Int) :: (acc ++ [(pT τ z p).1 + s]) from rfl, set_mid, show ((acc ++ [(pT τ z p).1 + s]).length : Int) = ((n + 1 : Nat) : Int) by simp; omega]
                have hh : CP V15 t z τ (pT τ z p).2 ln (st0 ++ ((acc ++ [(pT τ z p).1 + s]).length : Int) :: (acc ++ [(pT τ z p).1 + s])) (mkS (ln - 1) cell true g0 (acc ++ [(pT τ z p).1 + s])) := by
                  rw [mkS_app, hmk, ← hst]
                  exact h15
                have pl9 := hr_le (τ := τ) (z := z) (p := (pT τ z p).2) (by omega)
                have hh2 := CP_at (p' := (pT τ z p).2 + 1) ht hh
                refine y_inc (z := ((n + 1 + 1 : Nat) : Int)) (lv' := [(4, iv ((n + 1 + 1 : Nat) : Int)), (3, iv 0), (6, iv 1), (5, iv ((pT τ z p).1)), (0, .ref 115), (1, iv cell), (2, iv (st0.length : Int))]) rfl rfl rfl (by omega) rfl ?_
                refine y_go rfl rfl ?_
                refine y_lv (l' := [(0, .ref 115), (1, iv cell), (2, iv (st0.length : Int)), (3, iv 0), (4, iv ((n + 1 + 1 : Nat) : Int))]) rfl ⟨rfl, rfl, rfl, rfl, rfl, trivial⟩ ?_
                refine y_mono (ih (n + 1) _ _ _ _ ((pT τ z p).2 + 1) 0 (acc ++ [(pT τ z p).1 + s]) (by omega) (by omega) (by simp; omega) (by decide) (fun q => absurd q (by omega)) (by omega) (by simp; omega) hsm (by have e := hh2; rw [show ((acc ++ [(pT τ z p).1 + s]).length : Int) = ((n + 1 : Nat) : Int) by simp; omega] at e; exact e) ?_ ?_) (by omega)
                · intro lz qz V' a1 a2 a3 a4
                  exact k1 lz qz V' (by rw [show 4 - n = (4 - (n + 1)) + 1 by omega, pM_s, if_neg (by omega), if_pos ⟨by omega, by omega⟩, if_neg (by omega)]; exact a1) a2 a3 (CF_tr (CF_tr (CF_tr (CF_tr (CF_tr (CF_tr (CF_tr (CF_rf t V) f1) f12) f13) f14) f15) (CF_at ht)) a4)
                · intro qz V' st' g' a1 a2 a3
                  refine k2 qz V' st' g' ?_ a2 (CF_tr (CF_tr (CF_tr (CF_tr (CF_tr (CF_tr (CF_tr (CF_rf t V) f1) f12) f13) f14) f15) (CF_at ht)) a3)
                  have e : pM τ z (4 - n) s p acc = pM τ z (4 - (n + 1)) 0 ((pT τ z p).2 + 1) (acc ++ [(pT τ z p).1 + s]) := by rw [show 4 - n = (4 - (n + 1)) + 1 by omega, pM_s, if_neg (by omega), if_pos ⟨by omega, by omega⟩, if_neg (by omega)]
                  rw [e]; exact a1
            · refine y_si rfl rfl (by decide) ?_
              refine y_go rfl rfl ?_
              refine y_st (lv' := [(3, iv 256), (6, iv 1), (5, iv ((pT τ z p).1)), (0, .ref 115), (1, iv cell), (2, iv (st0.length : Int)), (4, iv ((n + 1 : Nat) : Int))]) rfl rfl (fun d => rfl) ?_
              refine y_ld (x := iv ((n + 1 : Nat) : Int)) rfl rfl (fun d => rfl) ?_
              refine y_ic rfl rfl ?_
              refine y_jge rfl rfl rfl (by omega) (fun g36 => ?_) (fun g36 => ?_)
              · refine y_inc (z := ((n + 1 + 1 : Nat) : Int)) (lv' := [(4, iv ((n + 1 + 1 : Nat) : Int)), (3, iv 256), (6, iv 1), (5, iv ((pT τ z p).1)), (0, .ref 115), (1, iv cell), (2, iv (st0.length : Int))]) rfl rfl rfl (by omega) rfl ?_
                refine y_go rfl rfl ?_
                refine y_ld (x := iv ((n + 1 + 1 : Nat) : Int)) rfl rfl (fun d => rfl) ?_
                refine y_ic rfl rfl ?_
                refine y_jgt rfl rfl rfl (by omega) (fun g37 => ?_) (fun g37 => absurd g37 (by omega))
                refine y_ic rfl rfl ?_
                refine y_rI rfl (by decide) ?_
                exact k2 _ _ _ _ (Or.inr ⟨_, (by rw [show 4 - n = (4 - (n + 1)) + 1 by omega, pM_s, if_neg (by omega), if_neg (by omega)]), by omega⟩) h15 (CF_tr (CF_tr (CF_tr (CF_tr (CF_tr (CF_rf t V) f1) f12) f13) f14) f15)
              · refine y_ld (x := .ref 115) rfl rfl (fun d => rfl) ?_
                refine y_in rfl rfl (fun d => rfl) ?_
                refine y_gI (i := 2) (e := (((pT τ z p).2 : Nat) : Int)) rfl rfl rfl hR rfl h15.2.1 ?_
                refine y_ic rfl rfl ?_
                refine y_add (z := ((((pT τ z p).2 : Nat) : Int) + 1)) rfl rfl rfl ?_
                refine y_pI (i := 2) rfl rfl rfl hR rfl rfl ?_
                have hr1 := raw_t (s := s) (pT_cd τ z p (by omega)) (by omega)
                have hsm : smO (acc ++ [(pT τ z p).1 + s]) := smO_app hsa (by rw [hr1]; exact (pT_cd τ z p (by omega)))
                have hcc : (pT τ z p).1 = cell := by omega
                have hmk : mkS1 (ln - 1) cell (true && acc.isEmpty) (mkS (ln - 1) cell true g0 acc) ((pT τ z p).1 + s) = mk (ln - 1) (mk (ln - 1) (mkS (ln - 1) cell true g0 acc) (pT τ z p).1 false) cell false := by
                  rw [acc_nil hal (by omega), hcc, mk_idem]; unfold mkS1; rw [if_pos rfl, if_pos (by rw [← hcc]; exact hr1)]
                have hst : (st0 ++ (n : Int) :: acc ++ [(pT τ z p).1 + s]).set st0.length ((n + 1 : Nat) : Int) = st0 ++ ((acc ++ [(pT τ z p).1 + s]).length : Int) :: (acc ++ [(pT τ z p).1 + s]) := by
                  rw [List.append_assoc, show ((n : Int) :: acc) ++ [(pT τ z p).1 + s] = (n : Int) :: (acc ++ [(pT τ z p).1 + s]) from rfl, set_mid, show ((acc ++ [(pT τ z p).1 + s]).length : Int) = ((n + 1 : Nat) : Int) by simp; omega]
                have hh : CP V15 t z τ (pT τ z p).2 ln (st0 ++ ((acc ++ [(pT τ z p).1 + s]).length : Int) :: (acc ++ [(pT τ z p).1 + s])) (mkS (ln - 1) cell true g0 (acc ++ [(pT τ z p).1 + s])) := by
                  rw [mkS_app, hmk, ← hst]
                  exact h15
                have pl9 := hr_le (τ := τ) (z := z) (p := (pT τ z p).2) (by omega)
                have hh2 := CP_at (p' := (pT τ z p).2 + 1) ht hh
                refine y_inc (z := ((n + 1 + 1 : Nat) : Int)) (lv' := [(4, iv ((n + 1 + 1 : Nat) : Int)), (3, iv 256), (6, iv 1), (5, iv ((pT τ z p).1)), (0, .ref 115), (1, iv cell), (2, iv (st0.length : Int))]) rfl rfl rfl (by omega) rfl ?_
                refine y_go rfl rfl ?_
                refine y_lv (l' := [(0, .ref 115), (1, iv cell), (2, iv (st0.length : Int)), (3, iv 256), (4, iv ((n + 1 + 1 : Nat) : Int))]) rfl ⟨rfl, rfl, rfl, rfl, rfl, trivial⟩ ?_
                refine y_mono (ih (n + 1) _ _ _ _ ((pT τ z p).2 + 1) 256 (acc ++ [(pT τ z p).1 + s]) (by omega) (by omega) (by simp; omega) (by decide) (fun q => absurd q (by omega)) (by omega) (by simp; omega) hsm (by have e := hh2; rw [show ((acc ++ [(pT τ z p).1 + s]).length : Int) = ((n + 1 : Nat) : Int) by simp; omega] at e; exact e) ?_ ?_) (by omega)
                · intro lz qz V' a1 a2 a3 a4
                  exact k1 lz qz V' (by rw [show 4 - n = (4 - (n + 1)) + 1 by omega, pM_s, if_neg (by omega), if_pos ⟨by omega, by omega⟩, if_pos (by omega)]; exact a1) a2 a3 (CF_tr (CF_tr (CF_tr (CF_tr (CF_tr (CF_tr (CF_tr (CF_rf t V) f1) f12) f13) f14) f15) (CF_at ht)) a4)
                · intro qz V' st' g' a1 a2 a3
                  refine k2 qz V' st' g' ?_ a2 (CF_tr (CF_tr (CF_tr (CF_tr (CF_tr (CF_tr (CF_tr (CF_rf t V) f1) f12) f13) f14) f15) (CF_at ht)) a3)
                  have e : pM τ z (4 - n) s p acc = pM τ z (4 - (n + 1)) 256 ((pT τ z p).2 + 1) (acc ++ [(pT τ z p).1 + s]) := by rw [show 4 - n = (4 - (n + 1)) + 1 by omega, pM_s, if_neg (by omega), if_pos ⟨by omega, by omega⟩, if_pos (by omega)]
                  rw [e]; exact a1
          · refine y_ld (x := .ref 115) rfl rfl (fun d => rfl) ?_
            refine y_cV (as := [.ref 115]) rfl rfl rfl rfl rfl hR ⟨rfl, (Nat.le_of_ble_eq_true rfl), (Nat.le_of_ble_eq_true rfl)⟩ (by omega) (cr_next hC hR hX ht hT h15 (by omega) ?_)
            have hq117 := hr_rg hT ((pT τ z p).2)
            refine y_nv ?_
            refine y_bi rfl rfl (by decide) ?_
            refine y_jeq rfl rfl rfl (by omega) (fun g38 => ?_) (fun g38 => ?_)
            · refine y_ld (x := .ref 115) rfl rfl (fun d => rfl) ?_
              refine y_cV (as := [.ref 115]) rfl rfl rfl rfl rfl hR ⟨rfl, (Nat.le_of_ble_eq_true rfl), (Nat.le_of_ble_eq_true rfl)⟩ (by omega) (cr_next hC hR hX ht hT h15 (by omega) ?_)
              have hq128 := hr_rg hT ((pT τ z p).2)
              refine y_nv ?_
              refine y_bi rfl rfl (by decide) ?_
              refine y_jne rfl rfl rfl (by omega) (fun g39 => ?_) (fun g39 => ?_)
              · refine y_ic rfl rfl ?_
                refine y_st (lv' := [(3, iv 0), (6, iv 1), (5, iv ((pT τ z p).1)), (0, .ref 115), (1, iv cell), (2, iv (st0.length : Int)), (4, iv ((n + 1 : Nat) : Int))]) rfl rfl (fun d => rfl) ?_
                refine y_ld (x := iv ((n + 1 : Nat) : Int)) rfl rfl (fun d => rfl) ?_
                refine y_ic rfl rfl ?_
                refine y_jge rfl rfl rfl (by omega) (fun g40 => ?_) (fun g40 => ?_)
                · refine y_inc (z := ((n + 1 + 1 : Nat) : Int)) (lv' := [(4, iv ((n + 1 + 1 : Nat) : Int)), (3, iv 0), (6, iv 1), (5, iv ((pT τ z p).1)), (0, .ref 115), (1, iv cell), (2, iv (st0.length : Int))]) rfl rfl rfl (by omega) rfl ?_
                  refine y_go rfl rfl ?_
                  refine y_ld (x := iv ((n + 1 + 1 : Nat) : Int)) rfl rfl (fun d => rfl) ?_
                  refine y_ic rfl rfl ?_
                  refine y_jgt rfl rfl rfl (by omega) (fun g41 => ?_) (fun g41 => absurd g41 (by omega))
                  refine y_ic rfl rfl ?_
                  refine y_rI rfl (by decide) ?_
                  exact k2 _ _ _ _ (Or.inr ⟨_, (by rw [show 4 - n = (4 - (n + 1)) + 1 by omega, pM_s, if_neg (by omega), if_neg (by omega)]), by omega⟩) h15 (CF_tr (CF_tr (CF_tr (CF_tr (CF_tr (CF_rf t V) f1) f12) f13) f14) f15)
                · refine y_ld (x := .ref 115) rfl rfl (fun d => rfl) ?_
                  refine y_in rfl rfl (fun d => rfl) ?_
                  refine y_gI (i := 2) (e := (((pT τ z p).2 : Nat) : Int)) rfl rfl rfl hR rfl h15.2.1 ?_
                  refine y_ic rfl rfl ?_
                  refine y_add (z := ((((pT τ z p).2 : Nat) : Int) + 1)) rfl rfl rfl ?_
                  refine y_pI (i := 2) rfl rfl rfl hR rfl rfl ?_
                  have hr1 := raw_t (s := s) (pT_cd τ z p (by omega)) (by omega)
                  have hsm : smO (acc ++ [(pT τ z p).1 + s]) := smO_app hsa (by rw [hr1]; exact (pT_cd τ z p (by omega)))
                  have hcc : (pT τ z p).1 = cell := by omega
                  have hmk : mkS1 (ln - 1) cell (true && acc.isEmpty) (mkS (ln - 1) cell true g0 acc) ((pT τ z p).1 + s) = mk (ln - 1) (mk (ln - 1) (mkS (ln - 1) cell true g0 acc) (pT τ z p).1 false) cell false := by
                    rw [acc_nil hal (by omega), hcc, mk_idem]; unfold mkS1; rw [if_pos rfl, if_pos (by rw [← hcc]; exact hr1)]
                  have hst : (st0 ++ (n : Int) :: acc ++ [(pT τ z p).1 + s]).set st0.length ((n + 1 : Nat) : Int) = st0 ++ ((acc ++ [(pT τ z p).1 + s]).length : Int) :: (acc ++ [(pT τ z p).1 + s]) := by
                    rw [List.append_assoc, show ((n : Int) :: acc) ++ [(pT τ z p).1 + s] = (n : Int) :: (acc ++ [(pT τ z p).1 + s]) from rfl, set_mid, show ((acc ++ [(pT τ z p).1 + s]).length : Int) = ((n + 1 : Nat) : Int) by simp; omega]
                  have hh : CP V15 t z τ (pT τ z p).2 ln (st0 ++ ((acc ++ [(pT τ z p).1 + s]).length : Int) :: (acc ++ [(pT τ z p).1 + s])) (mkS (ln - 1) cell true g0 (acc ++ [(pT τ z p).1 + s])) := by
                    rw [mkS_app, hmk, ← hst]
                    exact h15
                  have pl9 := hr_le (τ := τ) (z := z) (p := (pT τ z p).2) (by omega)
                  have hh2 := CP_at (p' := (pT τ z p).2 + 1) ht hh
                  refine y_inc (z := ((n + 1 + 1 : Nat) : Int)) (lv' := [(4, iv ((n + 1 + 1 : Nat) : Int)), (3, iv 0), (6, iv 1), (5, iv ((pT τ z p).1)), (0, .ref 115), (1, iv cell), (2, iv (st0.length : Int))]) rfl rfl rfl (by omega) rfl ?_
                  refine y_go rfl rfl ?_
                  refine y_lv (l' := [(0, .ref 115), (1, iv cell), (2, iv (st0.length : Int)), (3, iv 0), (4, iv ((n + 1 + 1 : Nat) : Int))]) rfl ⟨rfl, rfl, rfl, rfl, rfl, trivial⟩ ?_
                  refine y_mono (ih (n + 1) _ _ _ _ ((pT τ z p).2 + 1) 0 (acc ++ [(pT τ z p).1 + s]) (by omega) (by omega) (by simp; omega) (by decide) (fun q => absurd q (by omega)) (by omega) (by simp; omega) hsm (by have e := hh2; rw [show ((acc ++ [(pT τ z p).1 + s]).length : Int) = ((n + 1 : Nat) : Int) by simp; omega] at e; exact e) ?_ ?_) (by omega)
                  · intro lz qz V' a1 a2 a3 a4
                    exact k1 lz qz V' (by rw [show 4 - n = (4 - (n + 1)) + 1 by omega, pM_s, if_neg (by omega), if_pos ⟨by omega, by omega⟩, if_neg (by omega)]; exact a1) a2 a3 (CF_tr (CF_tr (CF_tr (CF_tr (CF_tr (CF_tr (CF_tr (CF_rf t V) f1) f12) f13) f14) f15) (CF_at ht)) a4)
                  · intro qz V' st' g' a1 a2 a3
                    refine k2 qz V' st' g' ?_ a2 (CF_tr (CF_tr (CF_tr (CF_tr (CF_tr (CF_tr (CF_tr (CF_rf t V) f1) f12) f13) f14) f15) (CF_at ht)) a3)
                    have e : pM τ z (4 - n) s p acc = pM τ z (4 - (n + 1)) 0 ((pT τ z p).2 + 1) (acc ++ [(pT τ z p).1 + s]) := by rw [show 4 - n = (4 - (n + 1)) + 1 by omega, pM_s, if_neg (by omega), if_pos ⟨by omega, by omega⟩, if_neg (by omega)]
                    rw [e]; exact a1
              · refine y_si rfl rfl (by decide) ?_
                refine y_go rfl rfl ?_
                refine y_st (lv' := [(3, iv 256), (6, iv 1), (5, iv ((pT τ z p).1)), (0, .ref 115), (1, iv cell), (2, iv (st0.length : Int)), (4, iv ((n + 1 : Nat) : Int))]) rfl rfl (fun d => rfl) ?_
                refine y_ld (x := iv ((n + 1 : Nat) : Int)) rfl rfl (fun d => rfl) ?_
                refine y_ic rfl rfl ?_
                refine y_jge rfl rfl rfl (by omega) (fun g42 => ?_) (fun g42 => ?_)
                · refine y_inc (z := ((n + 1 + 1 : Nat) : Int)) (lv' := [(4, iv ((n + 1 + 1 : Nat) : Int)), (3, iv 256), (6, iv 1), (5, iv ((pT τ z p).1)), (0, .ref 115), (1, iv cell), (2, iv (st0.length : Int))]) rfl rfl rfl (by omega) rfl ?_
                  refine y_go rfl rfl ?_
                  refine y_ld (x := iv ((n + 1 + 1 : Nat) : Int)) rfl rfl (fun d => rfl) ?_
                  refine y_ic rfl rfl ?_
                  refine y_jgt rfl rfl rfl (by omega) (fun g43 => ?_) (fun g43 => absurd g43 (by omega))
                  refine y_ic rfl rfl ?_
                  refine y_rI rfl (by decide) ?_
                  exact k2 _ _ _ _ (Or.inr ⟨_, (by rw [show 4 - n = (4 - (n + 1)) + 1 by omega, pM_s, if_neg (by omega), if_neg (by omega)]), by omega⟩) h15 (CF_tr (CF_tr (CF_tr (CF_tr (CF_tr (CF_rf t V) f1) f12) f13) f14) f15)
                · refine y_ld (x := .ref 115) rfl rfl (fun d => rfl) ?_
                  refine y_in rfl rfl (fun d => rfl) ?_
                  refine y_gI (i := 2) (e := (((pT τ z p).2 : Nat) : Int)) rfl rfl rfl hR rfl h15.2.1 ?_
                  refine y_ic rfl rfl ?_
                  refine y_add (z := ((((pT τ z p).2 : Nat) : Int) + 1)) rfl rfl rfl ?_
                  refine y_pI (i := 2) rfl rfl rfl hR rfl rfl ?_
                  have hr1 := raw_t (s := s) (pT_cd τ z p (by omega)) (by omega)
                  have hsm : smO (acc ++ [(pT τ z p).1 + s]) := smO_app hsa (by rw [hr1]; exact (pT_cd τ z p (by omega)))
                  have hcc : (pT τ z p).1 = cell := by omega
                  have hmk : mkS1 (ln - 1) cell (true && acc.isEmpty) (mkS (ln - 1) cell true g0 acc) ((pT τ z p).1 + s) = mk (ln - 1) (mk (ln - 1) (mkS (ln - 1) cell true g0 acc) (pT τ z p).1 false) cell false := by
                    rw [acc_nil hal (by omega), hcc, mk_idem]; unfold mkS1; rw [if_pos rfl, if_pos (by rw [← hcc]; exact hr1)]
                  have hst : (st0 ++ (n : Int) :: acc ++ [(pT τ z p).1 + s]).set st0.length ((n + 1 : Nat) : Int) = st0 ++ ((acc ++ [(pT τ z p).1 + s]).length : Int) :: (acc ++ [(pT τ z p).1 + s]) := by
                    rw [List.append_assoc, show ((n : Int) :: acc) ++ [(pT τ z p).1 + s] = (n : Int) :: (acc ++ [(pT τ z p).1 + s]) from rfl, set_mid, show ((acc ++ [(pT τ z p).1 + s]).length : Int) = ((n + 1 : Nat) : Int) by simp; omega]
                  have hh : CP V15 t z τ (pT τ z p).2 ln (st0 ++ ((acc ++ [(pT τ z p).1 + s]).length : Int) :: (acc ++ [(pT τ z p).1 + s])) (mkS (ln - 1) cell true g0 (acc ++ [(pT τ z p).1 + s])) := by
                    rw [mkS_app, hmk, ← hst]
                    exact h15
                  have pl9 := hr_le (τ := τ) (z := z) (p := (pT τ z p).2) (by omega)
                  have hh2 := CP_at (p' := (pT τ z p).2 + 1) ht hh
                  refine y_inc (z := ((n + 1 + 1 : Nat) : Int)) (lv' := [(4, iv ((n + 1 + 1 : Nat) : Int)), (3, iv 256), (6, iv 1), (5, iv ((pT τ z p).1)), (0, .ref 115), (1, iv cell), (2, iv (st0.length : Int))]) rfl rfl rfl (by omega) rfl ?_
                  refine y_go rfl rfl ?_
                  refine y_lv (l' := [(0, .ref 115), (1, iv cell), (2, iv (st0.length : Int)), (3, iv 256), (4, iv ((n + 1 + 1 : Nat) : Int))]) rfl ⟨rfl, rfl, rfl, rfl, rfl, trivial⟩ ?_
                  refine y_mono (ih (n + 1) _ _ _ _ ((pT τ z p).2 + 1) 256 (acc ++ [(pT τ z p).1 + s]) (by omega) (by omega) (by simp; omega) (by decide) (fun q => absurd q (by omega)) (by omega) (by simp; omega) hsm (by have e := hh2; rw [show ((acc ++ [(pT τ z p).1 + s]).length : Int) = ((n + 1 : Nat) : Int) by simp; omega] at e; exact e) ?_ ?_) (by omega)
                  · intro lz qz V' a1 a2 a3 a4
                    exact k1 lz qz V' (by rw [show 4 - n = (4 - (n + 1)) + 1 by omega, pM_s, if_neg (by omega), if_pos ⟨by omega, by omega⟩, if_pos (by omega)]; exact a1) a2 a3 (CF_tr (CF_tr (CF_tr (CF_tr (CF_tr (CF_tr (CF_tr (CF_rf t V) f1) f12) f13) f14) f15) (CF_at ht)) a4)
                  · intro qz V' st' g' a1 a2 a3
                    refine k2 qz V' st' g' ?_ a2 (CF_tr (CF_tr (CF_tr (CF_tr (CF_tr (CF_tr (CF_tr (CF_rf t V) f1) f12) f13) f14) f15) (CF_at ht)) a3)
                    have e : pM τ z (4 - n) s p acc = pM τ z (4 - (n + 1)) 256 ((pT τ z p).2 + 1) (acc ++ [(pT τ z p).1 + s]) := by rw [show 4 - n = (4 - (n + 1)) + 1 by omega, pM_s, if_neg (by omega), if_pos ⟨by omega, by omega⟩, if_pos (by omega)]
                    rw [e]; exact a1
            · refine y_ic rfl rfl ?_
              refine y_rI rfl (by decide) ?_
              have hr1 := raw_t (s := s) (pT_cd τ z p (by omega)) (by omega)
              have hsm : smO (acc ++ [(pT τ z p).1 + s]) := smO_app hsa (by rw [hr1]; exact (pT_cd τ z p (by omega)))
              have hcc : (pT τ z p).1 = cell := by omega
              have hmk : mkS1 (ln - 1) cell (true && acc.isEmpty) (mkS (ln - 1) cell true g0 acc) ((pT τ z p).1 + s) = mk (ln - 1) (mk (ln - 1) (mkS (ln - 1) cell true g0 acc) (pT τ z p).1 false) cell false := by
                rw [acc_nil hal (by omega), hcc, mk_idem]; unfold mkS1; rw [if_pos rfl, if_pos (by rw [← hcc]; exact hr1)]
              have hst : (st0 ++ (n : Int) :: acc ++ [(pT τ z p).1 + s]).set st0.length ((n + 1 : Nat) : Int) = st0 ++ ((acc ++ [(pT τ z p).1 + s]).length : Int) :: (acc ++ [(pT τ z p).1 + s]) := by
                rw [List.append_assoc, show ((n : Int) :: acc) ++ [(pT τ z p).1 + s] = (n : Int) :: (acc ++ [(pT τ z p).1 + s]) from rfl, set_mid, show ((acc ++ [(pT τ z p).1 + s]).length : Int) = ((n + 1 : Nat) : Int) by simp; omega]
              have hh : CP V15 t z τ (pT τ z p).2 ln (st0 ++ ((acc ++ [(pT τ z p).1 + s]).length : Int) :: (acc ++ [(pT τ z p).1 + s])) (mkS (ln - 1) cell true g0 (acc ++ [(pT τ z p).1 + s])) := by
                rw [mkS_app, hmk, ← hst]
                exact h15
              exact k1 _ _ _ (by rw [show 4 - n = (4 - (n + 1)) + 1 by omega, pM_s, if_neg (by omega), if_neg (by omega)]) (by omega) hh (CF_tr (CF_tr (CF_tr (CF_tr (CF_tr (CF_rf t V) f1) f12) f13) f14) f15)
    · refine y_ic rfl rfl ?_
      refine y_rI rfl (by decide) ?_
      exact k2 _ _ _ _ (Or.inl (by rw [show 4 - n = (4 - (n + 1)) + 1 by omega, pM_s, if_pos (by omega)])) h1 (CF_tr (CF_rf t V) f1)
set_option maxRecDepth 100000 in
set_option maxHeartbeats 4000000 in
theorem cr_sum (hC : ClF S) {t z : Nat} {τ : Nat → Int} {ln : Int} {st0 : List Int} {g0 : Nat → Int} (hR : RdS S t) (hX : TxS S t) (ht : 193 ≤ t) (hT : Tp τ 0 z) (hln : 1 ≤ ln ∧ ln ≤ 8) (hg0 : ∀ c, c < 8 → 0 ≤ g0 c ∧ g0 c ≤ 10) {p : Nat} {cell : Int} (hcell : tcd cell) (hp : p ≤ z) (hl : st0.length + 1 ≤ p) (h : CP V t z τ p ln st0 g0) (k1 : ∀ l q V', pM τ z 4 0 p [] = (some l, q) → ¬ (hr τ z q = 43 ∨ hr τ z q = 45) → CP V' t z τ q ln (st0 ++ (l.length : Int) :: l) (mkS (ln - 1) cell true g0 l) → CF t V V' → K u w (some (iv 1)) S V') (k2 : ∀ q V' st' g', (pM τ z 4 0 p [] = (none, q) ∨ ∃ l, pM τ z 4 0 p [] = (some l, q) ∧ (hr τ z q = 43 ∨ hr τ z q = 45)) → CP V' t z τ q ln st' g' → CF t V V' → K u w (some (iv 0)) S V') : y_R X 4 26 u w [.ref 115, iv cell] S V K := by
  have hz := hT.2.1
  refine y_ent (lv' := [(0, .ref 115), (1, iv cell)]) (Nat.le_of_ble_eq_true rfl) rfl ?_
  refine y_ld (x := .ref 115) rfl rfl (fun d => rfl) ?_
  refine y_gR (i := 3) rfl rfl rfl hR rfl ?_
  refine y_gI (i := 6) (e := ((st0).length : Int)) rfl rfl rfl hX.1 rfl h.2.2.2.2.1 ?_
  refine y_st (lv' := [(2, iv ((st0).length : Int)), (0, .ref 115), (1, iv cell)]) rfl rfl (fun d => rfl) ?_
  refine y_ic rfl rfl ?_
  refine y_st (lv' := [(3, iv 0), (2, iv ((st0).length : Int)), (0, .ref 115), (1, iv cell)]) rfl rfl (fun d => rfl) ?_
  refine y_ld (x := .ref 115) rfl rfl (fun d => rfl) ?_
  refine y_gR (i := 3) rfl rfl rfl hR rfl ?_
  refine y_ic rfl rfl ?_
  refine y_cV (as := [.ref t, iv 0]) rfl rfl rfl rfl rfl hX.1 ⟨rfl, (Nat.le_of_ble_eq_true rfl), (Nat.le_of_ble_eq_true rfl)⟩ (by decide) (cr_add hC hR hX ht hT h (by first | omega | (simp; omega)) (fun V1 h1 f1 => ?_))
  refine y_n0 ?_
  refine y_ic rfl rfl ?_
  refine y_st (lv' := [(4, iv 1), (3, iv 0), (2, iv ((st0).length : Int)), (0, .ref 115), (1, iv cell)]) rfl rfl (fun d => rfl) ?_
  refine y_lv (l' := [(0, .ref 115), (1, iv cell), (2, iv ((st0).length : Int)), (3, iv 0), (4, iv 1)]) rfl ⟨rfl, rfl, rfl, rfl, rfl, trivial⟩ ?_
  exact y_mono (lp_rsum hC hR hX ht hT hln hg0 hcell 4 0 _ _ _ _ p 0 [] rfl (by decide) rfl (Or.inl rfl) (fun _ => rfl) hp (by simp; omega) (fun t ht => by cases ht) h1 (fun lz qz V' a1 a2 a3 a4 => k1 lz qz V' a1 a2 a3 (CF_tr (CF_tr (CF_rf t V) f1) a4)) (fun qz V' st' g' a1 a2 a3 => k2 qz V' st' g' a1 a2 (CF_tr (CF_tr (CF_rf t V) f1) a3))) (by decide)
end
