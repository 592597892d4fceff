/-! E in the class -/
theorem encTc_ops (c : Int) (hc : ¬ c ≤ 122) (k : Nat) : (encTc (List.replicate k (c, 0, 0))).length = k := by
  induction k with
  | zero => rfl
  | succ k ih =>
    rw [List.replicate_succ]
    show ((if c ≤ 122 then [c, 0, 0] else [c]) ++ encTc (List.replicate k (c, 0, 0))).length = k + 1
    rw [if_neg hc, List.length_append, ih]
    simp
    omega
theorem pX_c {τ : Nat → Int} {z : Nat} : ∀ (n md o p : Nat) (acc l : List p_Tk) (q : Nat), md ≤ 4 → p ≤ z → pX τ z n md o p acc = (some l, q) → (encTc l).length + p ≤ (encTc acc).length + q
  | 0, md, o, p, acc, l, q, hm, hp, h => by
    unfold pX at h
    cases h
  | n + 1, 0, o, p, acc, l, q, hm, hp, h => by
    have h0 : hr τ z p ≠ -1 → p < z := hr_le
    rw [pX_F] at h
    split at h
    · split at h
      · cases h
      · have hlt := h0 (by omega)
        split at h
        · rename_i l1 q1 e1
          have k := pX_c n 0 (o + 1) (p + 1) acc _ _ (by decide) (by omega) e1
          cases h
          rw [encTc_app, List.length_append]
          show (encTc l1).length + 1 + p ≤ _
          omega
        · cases h
    · split at h
      · split at h
        · cases h
        · have hlt := h0 (by omega)
          split at h
          · rename_i l1 q1 e1
            have k := pX_c n 3 (o + 1) (p + 1) acc _ _ (by decide) (by omega) e1
            split at h
            · cases h
              omega
            · cases h
          · cases h
      · split at h
        · rename_i t1 q1 e1
          have k := pS_ok hp e1
          have k2 := k.2.2 t1 rfl
          cases h
          obtain ⟨c1, a1, b1⟩ := t1
          rw [encTc_app, List.length_append]
          have e3 : (encTc [(c1, a1, b1)]).length = 3 := by
            unfold encTc
            rw [if_pos k2.2.2.1]
            rfl
          omega
        · cases h
  | n + 1, 1, o, p, acc, l, q, hm, hp, h => by
    rw [pX_T] at h
    split at h
    · rename_i l1 q1 e1
      have k := pX_c n 0 o p acc _ _ (by decide) hp e1
      have k2 := pX_c n 2 o q1 l1 _ _ (by decide) (pX_ok n 0 o p acc _ _ (by decide) hp e1).2.1 h
      omega
    · cases h
  | n + 1, 2, o, p, acc, l, q, hm, hp, h => by
    have h0 : hr τ z p ≠ -1 → p < z := hr_le
    rw [pX_Tl] at h
    split at h
    · have hlt := h0 (by omega)
      split at h
      · rename_i l1 q1 e1
        have k := pX_c n 0 o (p + 1) acc _ _ (by decide) (by omega) e1
        have k2 := pX_c n 2 o q1 _ _ _ (by decide) (pX_ok n 0 o (p + 1) acc _ _ (by decide) (by omega) e1).2.1 h
        rw [encTc_app, List.length_append] at k2
        have e3 : (encTc [((124 : Int), (0 : Int), (0 : Int))]).length = 1 := rfl
        omega
      · cases h
    · cases h
      omega
  | n + 1, 3, o, p, acc, l, q, hm, hp, h => by
    rw [pX_E] at h
    split at h
    · rename_i l1 q1 e1
      have k := pX_c n 1 o p acc _ _ (by decide) hp e1
      have k2 := pX_c n 4 o q1 l1 _ _ (by decide) (pX_ok n 1 o p acc _ _ (by decide) hp e1).2.1 h
      omega
    · cases h
  | n + 1, 4, o, p, acc, l, q, hm, hp, h => by
    have h0 : hr τ z p ≠ -1 → p < z := hr_le
    rw [pX_El] at h
    split at h
    · have hlt := h0 (by omega)
      split at h
      · rename_i l1 q1 e1
        have k := pX_c n 1 o (p + 1) acc _ _ (by decide) (by omega) e1
        have k2 := pX_c n 4 o q1 _ _ _ (by decide) (pX_ok n 1 o (p + 1) acc _ _ (by decide) (by omega) e1).2.1 h
        rw [encTc_app, List.length_append] at k2
        have e3 : (encTc [((125 : Int), (0 : Int), (0 : Int))]).length = 1 := rfl
        omega
      · cases h
    · cases h
      omega
  | n + 1, md + 5, o, p, acc, l, q, hm, hp, h => absurd hm (by omega)
/-- what a reading method of the class does, by pX -/
def qR (X : Nat → List Int32) (S : m_H) (t z : Nat) (τ : Nat → Int) (ln : Int) (st0 : List Int) (g0 : Nat → Int) (md j lev c n : Nat) : Prop :=
  ∀ (V : v_V) (K : v_K) (u w p o D : Nat) (acc : List p_Tk), o ≤ 5 → p ≤ z → 5 * (z - p) + c ≤ n → st0.length + (encTc acc).length ≤ p → 3 * (6 - o) + lev ≤ D → tkO acc →
    CP V t z τ p ln (st0 ++ encTc acc) (mkT (ln - 1) g0 acc) →
    (∀ l q V', pX τ z n md o p acc = (some l, q) → CP V' t z τ q ln (st0 ++ encTc l) (mkT (ln - 1) g0 l) → CF t V V' → K u w (some (iv 1)) S V') →
    (∀ q V' st' g', pX τ z n md o p acc = (none, q) → CP V' t z τ q ln st' g' → CF t V V' → K u w (some (iv 0)) S V') → y_R X D j u w [.ref 115, iv (o : Int)] S V K
def qRL (X : Nat → List Int32) (S : m_H) (t z : Nat) (τ : Nat → Int) (ln : Int) (st0 : List Int) (g0 : Nat → Int) (md j lev c n : Nat) : Prop :=
  ∀ (V : v_V) (K : v_K) (u w p o D : Nat) (acc : List p_Tk), o ≤ 5 → p ≤ z → 5 * (z - p) + c ≤ n → st0.length + (encTc acc).length ≤ p → 3 * (6 - o) + lev ≤ D → tkO acc →
    CP V t z τ p ln (st0 ++ encTc acc) (mkT (ln - 1) g0 acc) →
    (∀ l q V', pX τ z n md o p acc = (some l, q) → CP V' t z τ q ln (st0 ++ encTc l) (mkT (ln - 1) g0 l) → CF t V V' → K u w (some (iv 1)) S V') →
    (∀ q V' st' g', pX τ z n md o p acc = (none, q) → CP V' t z τ q ln st' g' → CF t V V' → K u w (some (iv 0)) S V') → y_E X D j (40 * n + 40) u w 10 [(0, .ref 115), (1, iv (o : Int))] [] S V K
/-- behind so many ! -/
def qRF (X : Nat → List Int32) (S : m_H) (t z : Nat) (τ : Nat → Int) (ln : Int) (st0 : List Int) (g0 : Nat → Int) (j n : Nat) : Prop :=
  ∀ (V : v_V) (K : v_K) (u w p o wi D : Nat) (acc : List p_Tk), o ≤ wi → wi ≤ 5 → p ≤ z → 5 * (z - p) + 1 ≤ n → st0.length + (encTc acc).length + (wi - o) ≤ p → 3 * (6 - wi) + 4 ≤ D + 1 → tkO acc →
    CP V t z τ p ln (st0 ++ encTc acc) (mkT (ln - 1) g0 acc) →
    (∀ l q V', pX τ z n 0 wi p acc = (some l, q) → CP V' t z τ q ln (st0 ++ encTc (l ++ List.replicate (wi - o) (123, 0, 0))) (mkT (ln - 1) g0 (l ++ List.replicate (wi - o) (123, 0, 0))) → CF t V V' → K u w (some (iv 1)) S V') →
    (∀ q V' st' g', pX τ z n 0 wi p acc = (none, q) → CP V' t z τ q ln st' g' → CF t V V' → K u w (some (iv 0)) S V') → y_E X D j (40 * n + 500) u w 2 [(0, .ref 115), (1, iv (o : Int)), (2, iv (wi : Int))] [] S V K
section
variable {X : Nat → List Int32} {u w : Nat} {S : m_H} {V : v_V} {K : v_K}
set_option maxRecDepth 100000 in
set_option maxHeartbeats 4000000 in
theorem sr_TL (hC : ClF S) {t z : Nat} {τ : Nat → Int} {ln : Int} {st0 : List Int} {g0 : Nat → Int} (hR : RdS S t) (hX : TxS S t) (ht : 193 ≤ t) (hT : Tp τ 0 z) (hln : 1 ≤ ln ∧ ln ≤ 8) (hg0 : ∀ c, c < 8 → 0 ≤ g0 c ∧ g0 c ≤ 10) {n : Nat} (hF : qR X S t z τ ln st0 g0 0 22 4 1 n) (hL : qRL X S t z τ ln st0 g0 2 21 4 1 n) : qRL X S t z τ ln st0 g0 2 21 4 1 (n + 1) := by
  intro V K u w p o D acc ho hp hn hl hD htk h k1 k2
  have hz := hT.2.1
  have hq0 := hr_rg hT p
  refine y_mono (F' := (40 * n + 40) + 40) ?_ (by omega)
  refine y_ld (x := .ref 115) rfl rfl (fun d => rfl) ?_
  refine y_gI (i := 2) (e := ((p : Nat) : Int)) rfl rfl rfl hR rfl h.2.1 ?_
  refine y_ld (x := .ref 115) rfl rfl (fun d => rfl) ?_
  refine y_gI (i := 1) (e := (z : Int)) rfl rfl rfl hR rfl h.1 ?_
  refine y_jge rfl rfl rfl (by omega) (fun g1 => ?_) (fun g1 => ?_)
  · refine y_ic rfl rfl ?_
    refine y_rI rfl (by decide) ?_
    exact k1 _ _ _ (by rw [pX_Tl]; exact if_neg (by unfold hr; rw [if_neg (by omega)]; decide)) h (CF_rf t V)
  · refine y_ld (x := .ref 115) rfl rfl (fun d => rfl) ?_
    refine y_bi rfl rfl (by decide) ?_
    refine y_cV (as := [.ref 115, iv 38]) rfl rfl rfl rfl rfl hR ⟨rfl, (Nat.le_of_ble_eq_true rfl), (Nat.le_of_ble_eq_true rfl)⟩ (by omega) (cr_takes hC hR hX ht hT (by decide) h (by omega) (fun q2 V1 h1 f1 => ?_) (fun q3 => ?_))
    · have pl4 := hr_le (τ := τ) (z := z) (p := p) (by omega)
      refine y_nv ?_
      refine y_zeq rfl rfl rfl (by decide) (fun g2 => absurd g2 (by decide)) (fun g2 => ?_)
      refine y_ld (x := .ref 115) rfl rfl (fun d => rfl) ?_
      refine y_ld (x := iv (o : Int)) rfl rfl (fun d => rfl) ?_
      refine y_cV (as := [.ref 115, iv (o : Int)]) rfl rfl rfl rfl rfl hR ⟨rfl, (Nat.le_of_ble_eq_true rfl), (Nat.le_of_ble_eq_true rfl)⟩ (by omega) (hF _ _ _ _ (p + 1) o D acc (by omega) (by omega) (by omega) (by omega) (by omega) htk h1 (fun l5 r5 V5 x5 h5 f5 => ?_) (fun r6 V6 s6 g_6 x6 h6 f6 => ?_))
      · have kk5 := pX_ok _ _ _ _ _ _ _ (by decide) (by omega) x5
        have mm5 := kk5.2.2 _ rfl
        have cc5 := pX_c _ _ _ _ _ _ _ (by decide) (by omega) x5
        have tt5 := pX_tk _ _ _ _ _ _ _ (by decide) (by omega) htk x5
        refine y_nv ?_
        refine y_zne rfl rfl rfl (by decide) (fun g3 => ?_) (fun g3 => absurd g3 (by decide))
        refine y_ld (x := .ref 115) rfl rfl (fun d => rfl) ?_
        refine y_gR (i := 3) rfl rfl rfl hR rfl ?_
        refine y_bi rfl rfl (by decide) ?_
        refine y_cV (as := [.ref t, iv 124]) rfl rfl rfl rfl rfl hX.1 ⟨rfl, (Nat.le_of_ble_eq_true rfl), (Nat.le_of_ble_eq_true rfl)⟩ (by omega) (cr_add hC hR hX ht hT h5 (by first | omega | (simp; omega)) (fun V7 h7 f7 => ?_))
        refine y_n0 ?_
        refine y_go rfl rfl ?_
        refine y_lv (l' := [(0, .ref 115), (1, iv (o : Int))]) rfl ⟨rfl, rfl, trivial⟩ ?_
        refine y_mono (hL _ _ _ _ r5 o D (l5 ++ [(124, 0, 0)]) (by omega) (by omega) (by omega) (by rw [encTc_app, List.length_append, show (encTc [((124 : Int), (0 : Int), (0 : Int))]).length = 1 from rfl]; omega) (by omega) (tkO_op tt5 (by decide)) ?_ ?_ ?_) (by omega)
        · rw [encTc_app, mkT_app, ← List.append_assoc]
          exact h7
        · intro lz qz V' a1 a2 a3
          exact k1 lz qz V' (by rw [pX_Tl, if_pos q2, x5]; exact a1) a2 (CF_tr (CF_tr (CF_tr (CF_tr (CF_rf t V) f1) f5) f7) a3)
        · intro qz V' st' g' a1 a2 a3
          exact k2 qz V' st' g' (by rw [pX_Tl, if_pos q2, x5]; exact a1) a2 (CF_tr (CF_tr (CF_tr (CF_tr (CF_rf t V) f1) f5) f7) a3)
      · have kk6 := pX_ok _ _ _ _ _ _ _ (by decide) (by omega) x6
        refine y_nv ?_
        refine y_zne rfl rfl rfl (by decide) (fun g4 => absurd g4 (by decide)) (fun g4 => ?_)
        refine y_ic rfl rfl ?_
        refine y_rI rfl (by decide) ?_
        exact k2 _ _ _ _ (by rw [pX_Tl, if_pos q2, x6]) h6 (CF_tr (CF_tr (CF_rf t V) f1) f6)
    · refine y_nv ?_
      refine y_zeq rfl rfl rfl (by decide) (fun g5 => ?_) (fun g5 => absurd g5 (by decide))
      refine y_ic rfl rfl ?_
      refine y_rI rfl (by decide) ?_
      exact k1 _ _ _ (by rw [pX_Tl, if_neg q3]) h (CF_rf t V)
set_option maxRecDepth 100000 in
set_option maxHeartbeats 4000000 in
theorem sr_T (hC : ClF S) {t z : Nat} {τ : Nat → Int} {ln : Int} {st0 : List Int} {g0 : Nat → Int} (hR : RdS S t) (hX : TxS S t) (ht : 193 ≤ t) (hT : Tp τ 0 z) (hln : 1 ≤ ln ∧ ln ≤ 8) (hg0 : ∀ c, c < 8 → 0 ≤ g0 c ∧ g0 c ≤ 10) {n : Nat} (hn1 : n ≤ 2000) (hF : qR X S t z τ ln st0 g0 0 22 4 1 n) (hL : qRL X S t z τ ln st0 g0 2 21 4 1 n) : qR X S t z τ ln st0 g0 1 21 5 2 (n + 1) := by
  intro V K u w p o D acc ho hp hn hl hD htk h k1 k2
  have hz := hT.2.1
  obtain ⟨D, rfl⟩ : ∃ q, D = q + 1 := ⟨D - 1, by omega⟩
  refine y_ent (lv' := [(0, .ref 115), (1, iv (o : Int))]) (Nat.le_of_ble_eq_true rfl) rfl ?_
  refine y_ld (x := .ref 115) rfl rfl (fun d => rfl) ?_
  refine y_ld (x := iv (o : Int)) rfl rfl (fun d => rfl) ?_
  refine y_cV (as := [.ref 115, iv (o : Int)]) rfl rfl rfl rfl rfl hR ⟨rfl, (Nat.le_of_ble_eq_true rfl), (Nat.le_of_ble_eq_true rfl)⟩ (by omega) (hF _ _ _ _ p o D acc (by omega) (by omega) (by omega) (by omega) (by omega) htk h (fun l1 r1 V1 x1 h1 f1 => ?_) (fun r2 V2 s2 g_2 x2 h2 f2 => ?_))
  · have kk1 := pX_ok _ _ _ _ _ _ _ (by decide) (by omega) x1
    have mm1 := kk1.2.2 _ rfl
    have cc1 := pX_c _ _ _ _ _ _ _ (by decide) (by omega) x1
    have tt1 := pX_tk _ _ _ _ _ _ _ (by decide) (by omega) htk x1
    refine y_nv ?_
    refine y_zne rfl rfl rfl (by decide) (fun g1 => ?_) (fun g1 => absurd g1 (by decide))
    refine y_mono (hL _ _ _ _ r1 o D l1 (by omega) (by omega) (by omega) (by omega) (by omega) tt1 h1 ?_ ?_) (by omega)
    · intro lz qz V' a1 a2 a3
      exact k1 lz qz V' (by rw [pX_T, x1]; exact a1) a2 (CF_tr (CF_tr (CF_rf t V) f1) a3)
    · intro qz V' st' g' a1 a2 a3
      exact k2 qz V' st' g' (by rw [pX_T, x1]; exact a1) a2 (CF_tr (CF_tr (CF_rf t V) f1) a3)
  · have kk2 := pX_ok _ _ _ _ _ _ _ (by decide) (by omega) x2
    refine y_nv ?_
    refine y_zne rfl rfl rfl (by decide) (fun g2 => absurd g2 (by decide)) (fun g2 => ?_)
    refine y_ic rfl rfl ?_
    refine y_rI rfl (by decide) ?_
    exact k2 _ _ _ _ (by rw [pX_T, x2]) h2 (CF_tr (CF_rf t V) f2)
set_option maxRecDepth 100000 in
set_option maxHeartbeats 4000000 in
theorem sr_EL (hC : ClF S) {t z : Nat} {τ : Nat → Int} {ln : Int} {st0 : List Int} {g0 : Nat → Int} (hR : RdS S t) (hX : TxS S t) (ht : 193 ≤ t) (hT : Tp τ 0 z) (hln : 1 ≤ ln ∧ ln ≤ 8) (hg0 : ∀ c, c < 8 → 0 ≤ g0 c ∧ g0 c ≤ 10) {n : Nat} (hF : qR X S t z τ ln st0 g0 1 21 5 2 n) (hL : qRL X S t z τ ln st0 g0 4 20 5 1 n) : qRL X S t z τ ln st0 g0 4 20 5 1 (n + 1) := by
  intro V K u w p o D acc ho hp hn hl hD htk h k1 k2
  have hz := hT.2.1
  have hq0 := hr_rg hT p
  refine y_mono (F' := (40 * n + 40) + 40) ?_ (by omega)
  refine y_ld (x := .ref 115) rfl rfl (fun d => rfl) ?_
  refine y_gI (i := 2) (e := ((p : Nat) : Int)) rfl rfl rfl hR rfl h.2.1 ?_
  refine y_ld (x := .ref 115) rfl rfl (fun d => rfl) ?_
  refine y_gI (i := 1) (e := (z : Int)) rfl rfl rfl hR rfl h.1 ?_
  refine y_jge rfl rfl rfl (by omega) (fun g1 => ?_) (fun g1 => ?_)
  · refine y_ic rfl rfl ?_
    refine y_rI rfl (by decide) ?_
    exact k1 _ _ _ (by rw [pX_El]; exact if_neg (by unfold hr; rw [if_neg (by omega)]; decide)) h (CF_rf t V)
  · refine y_ld (x := .ref 115) rfl rfl (fun d => rfl) ?_
    refine y_bi rfl rfl (by decide) ?_
    refine y_cV (as := [.ref 115, iv 124]) rfl rfl rfl rfl rfl hR ⟨rfl, (Nat.le_of_ble_eq_true rfl), (Nat.le_of_ble_eq_true rfl)⟩ (by omega) (cr_takes hC hR hX ht hT (by decide) h (by omega) (fun q2 V1 h1 f1 => ?_) (fun q3 => ?_))
    · have pl4 := hr_le (τ := τ) (z := z) (p := p) (by omega)
      refine y_nv ?_
      refine y_zeq rfl rfl rfl (by decide) (fun g2 => absurd g2 (by decide)) (fun g2 => ?_)
      refine y_ld (x := .ref 115) rfl rfl (fun d => rfl) ?_
      refine y_ld (x := iv (o : Int)) rfl rfl (fun d => rfl) ?_
      refine y_cV (as := [.ref 115, iv (o : Int)]) rfl rfl rfl rfl rfl hR ⟨rfl, (Nat.le_of_ble_eq_true rfl), (Nat.le_of_ble_eq_true rfl)⟩ (by omega) (hF _ _ _ _ (p + 1) o D acc (by omega) (by omega) (by omega) (by omega) (by omega) htk h1 (fun l5 r5 V5 x5 h5 f5 => ?_) (fun r6 V6 s6 g_6 x6 h6 f6 => ?_))
      · have kk5 := pX_ok _ _ _ _ _ _ _ (by decide) (by omega) x5
        have mm5 := kk5.2.2 _ rfl
        have cc5 := pX_c _ _ _ _ _ _ _ (by decide) (by omega) x5
        have tt5 := pX_tk _ _ _ _ _ _ _ (by decide) (by omega) htk x5
        refine y_nv ?_
        refine y_zne rfl rfl rfl (by decide) (fun g3 => ?_) (fun g3 => absurd g3 (by decide))
        refine y_ld (x := .ref 115) rfl rfl (fun d => rfl) ?_
        refine y_gR (i := 3) rfl rfl rfl hR rfl ?_
        refine y_bi rfl rfl (by decide) ?_
        refine y_cV (as := [.ref t, iv 125]) rfl rfl rfl rfl rfl hX.1 ⟨rfl, (Nat.le_of_ble_eq_true rfl), (Nat.le_of_ble_eq_true rfl)⟩ (by omega) (cr_add hC hR hX ht hT h5 (by first | omega | (simp; omega)) (fun V7 h7 f7 => ?_))
        refine y_n0 ?_
        refine y_go rfl rfl ?_
        refine y_lv (l' := [(0, .ref 115), (1, iv (o : Int))]) rfl ⟨rfl, rfl, trivial⟩ ?_
        refine y_mono (hL _ _ _ _ r5 o D (l5 ++ [(125, 0, 0)]) (by omega) (by omega) (by omega) (by rw [encTc_app, List.length_append, show (encTc [((125 : Int), (0 : Int), (0 : Int))]).length = 1 from rfl]; omega) (by omega) (tkO_op tt5 (by decide)) ?_ ?_ ?_) (by omega)
        · rw [encTc_app, mkT_app, ← List.append_assoc]
          exact h7
        · intro lz qz V' a1 a2 a3
          exact k1 lz qz V' (by rw [pX_El, if_pos q2, x5]; exact a1) a2 (CF_tr (CF_tr (CF_tr (CF_tr (CF_rf t V) f1) f5) f7) a3)
        · intro qz V' st' g' a1 a2 a3
          exact k2 qz V' st' g' (by rw [pX_El, if_pos q2, x5]; exact a1) a2 (CF_tr (CF_tr (CF_tr (CF_tr (CF_rf t V) f1) f5) f7) a3)
      · have kk6 := pX_ok _ _ _ _ _ _ _ (by decide) (by omega) x6
        refine y_nv ?_
        refine y_zne rfl rfl rfl (by decide) (fun g4 => absurd g4 (by decide)) (fun g4 => ?_)
        refine y_ic rfl rfl ?_
        refine y_rI rfl (by decide) ?_
        exact k2 _ _ _ _ (by rw [pX_El, if_pos q2, x6]) h6 (CF_tr (CF_tr (CF_rf t V) f1) f6)
    · refine y_nv ?_
      refine y_zeq rfl rfl rfl (by decide) (fun g5 => ?_) (fun g5 => absurd g5 (by decide))
      refine y_ic rfl rfl ?_
      refine y_rI rfl (by decide) ?_
      exact k1 _ _ _ (by rw [pX_El, if_neg q3]) h (CF_rf t V)
set_option maxRecDepth 100000 in
set_option maxHeartbeats 4000000 in
theorem sr_E (hC : ClF S) {t z : Nat} {τ : Nat → Int} {ln : Int} {st0 : List Int} {g0 : Nat → Int} (hR : RdS S t) (hX : TxS S t) (ht : 193 ≤ t) (hT : Tp τ 0 z) (hln : 1 ≤ ln ∧ ln ≤ 8) (hg0 : ∀ c, c < 8 → 0 ≤ g0 c ∧ g0 c ≤ 10) {n : Nat} (hn1 : n ≤ 2000) (hF : qR X S t z τ ln st0 g0 1 21 5 2 n) (hL : qRL X S t z τ ln st0 g0 4 20 5 1 n) : qR X S t z τ ln st0 g0 3 20 6 3 (n + 1) := by
  intro V K u w p o D acc ho hp hn hl hD htk h k1 k2
  have hz := hT.2.1
  obtain ⟨D, rfl⟩ : ∃ q, D = q + 1 := ⟨D - 1, by omega⟩
  refine y_ent (lv' := [(0, .ref 115), (1, iv (o : Int))]) (Nat.le_of_ble_eq_true rfl) rfl ?_
  refine y_ld (x := .ref 115) rfl rfl (fun d => rfl) ?_
  refine y_ld (x := iv (o : Int)) rfl rfl (fun d => rfl) ?_
  refine y_cV (as := [.ref 115, iv (o : Int)]) rfl rfl rfl rfl rfl hR ⟨rfl, (Nat.le_of_ble_eq_true rfl), (Nat.le_of_ble_eq_true rfl)⟩ (by omega) (hF _ _ _ _ p o D acc (by omega) (by omega) (by omega) (by omega) (by omega) htk h (fun l1 r1 V1 x1 h1 f1 => ?_) (fun r2 V2 s2 g_2 x2 h2 f2 => ?_))
  · have kk1 := pX_ok _ _ _ _ _ _ _ (by decide) (by omega) x1
    have mm1 := kk1.2.2 _ rfl
    have cc1 := pX_c _ _ _ _ _ _ _ (by decide) (by omega) x1
    have tt1 := pX_tk _ _ _ _ _ _ _ (by decide) (by omega) htk x1
    refine y_nv ?_
    refine y_zne rfl rfl rfl (by decide) (fun g1 => ?_) (fun g1 => absurd g1 (by decide))
    refine y_mono (hL _ _ _ _ r1 o D l1 (by omega) (by omega) (by omega) (by omega) (by omega) tt1 h1 ?_ ?_) (by omega)
    · intro lz qz V' a1 a2 a3
      exact k1 lz qz V' (by rw [pX_E, x1]; exact a1) a2 (CF_tr (CF_tr (CF_rf t V) f1) a3)
    · intro qz V' st' g' a1 a2 a3
      exact k2 qz V' st' g' (by rw [pX_E, x1]; exact a1) a2 (CF_tr (CF_tr (CF_rf t V) f1) a3)
  · have kk2 := pX_ok _ _ _ _ _ _ _ (by decide) (by omega) x2
    refine y_nv ?_
    refine y_zne rfl rfl rfl (by decide) (fun g2 => absurd g2 (by decide)) (fun g2 => ?_)
    refine y_ic rfl rfl ?_
    refine y_rI rfl (by decide) ?_
    exact k2 _ _ _ _ (by rw [pX_E, x2]) h2 (CF_tr (CF_rf t V) f2)
set_option maxRecDepth 100000 in
set_option maxHeartbeats 4000000 in
theorem lp_not (hC : ClF S) {t z : Nat} {τ : Nat → Int} {ln : Int} {st0 : List Int} {g0 : Nat → Int} (hR : RdS S t) (hX : TxS S t) (ht : 193 ≤ t) (hT : Tp τ 0 z) (hln : 1 ≤ ln ∧ ln ≤ 8) (hg0 : ∀ c, c < 8 → 0 ≤ g0 c ∧ g0 c ≤ 10) {p o wi D : Nat} {l : List p_Tk} (hD : 1 ≤ D) (howi : o ≤ wi ∧ wi ≤ 5) (hp : p ≤ z) (hl : st0.length + (encTc l).length + (wi - o) ≤ p) : ∀ (m i : Nat) (V : v_V), wi - i < m → o ≤ i → i ≤ wi → CP V t z τ p ln (st0 ++ encTc (l ++ List.replicate (i - o) (123, 0, 0))) (mkT (ln - 1) g0 (l ++ List.replicate (i - o) (123, 0, 0))) → (∀ V', CP V' t z τ p ln (st0 ++ encTc (l ++ List.replicate (wi - o) (123, 0, 0))) (mkT (ln - 1) g0 (l ++ List.replicate (wi - o) (123, 0, 0))) → CF t V V' → K u w (some (iv 1)) S V') → y_E X D 22 (30 * m) u w 80 [(0, .ref 115), (1, iv (o : Int)), (2, iv (wi : Int)), (3, iv (i : Int))] [] S V K := by
  intro m
  induction m with
  | zero => intros; omega
  | succ m ih =>
    intro i V hm hi1 hi2 h k
    have hz := hT.2.1
    have hop := encTc_ops 123 (by decide) (i - o)
    have hln2 : (encTc (l ++ List.replicate (i - o) (123, 0, 0))).length = (encTc l).length + (i - o) := by rw [encTc_app, List.length_append, hop]
    refine y_mono (F' := 30 * m + 30) ?_ (by omega)
    refine y_ld (x := iv (i : Int)) rfl rfl (fun d => rfl) ?_
    refine y_ld (x := iv (wi : Int)) rfl rfl (fun d => rfl) ?_
    refine y_jge rfl rfl rfl (by omega) (fun g1 => ?_) (fun g1 => ?_)
    · refine y_ic rfl rfl ?_
      refine y_rI rfl (by decide) ?_
      obtain rfl : i = wi := by omega
      exact k V h (CF_rf t V)
    · refine y_ld (x := .ref 115) rfl rfl (fun d => rfl) ?_
      refine y_gR (i := 3) rfl rfl rfl hR rfl ?_
      refine y_bi rfl rfl (by decide) ?_
      refine y_cV (as := [.ref t, iv 123]) rfl rfl rfl rfl rfl hX.1 ⟨rfl, (Nat.le_of_ble_eq_true rfl), (Nat.le_of_ble_eq_true rfl)⟩ (by omega) (cr_add hC hR hX ht hT h (by first | omega | (simp; omega)) (fun V1 h1 f1 => ?_))
      refine y_n0 ?_
      refine y_inc (z := ((i + 1 : Nat) : Int)) (lv' := [(3, iv ((i + 1 : Nat) : Int)), (0, .ref 115), (1, iv (o : Int)), (2, iv (wi : Int))]) rfl rfl rfl (by omega) rfl ?_
      refine y_go rfl rfl ?_
      refine y_lv (l' := [(0, .ref 115), (1, iv (o : Int)), (2, iv (wi : Int)), (3, iv ((i + 1 : Nat) : Int))]) rfl ⟨rfl, rfl, rfl, rfl, trivial⟩ ?_
      refine y_mono (ih (i + 1) _ (by omega) (by omega) (by omega) ?_ ?_) (by omega)
      · rw [show i + 1 - o = (i - o) + 1 by omega, List.replicate_succ', ← List.append_assoc l, encTc_app (l ++ _), mkT_app _ (l ++ _), ← List.append_assoc st0]
        exact h1
      · intro V' a1 a2
        exact k V' a1 (CF_tr (CF_tr (CF_rf t V) f1) a2)
end
