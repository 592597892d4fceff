/-- what a reading leaves as it was, behind its beginning -/
def TX (a : Nat) (V V' : v_V) : Prop :=
  (∀ k, k ≠ 170 → k ≠ 171 → k ≠ 173 → k ≠ 174 → k ≠ 175 → k ≠ 176 → k ≠ 177 → V' k = V k) ∧ (∀ i, i < 9 ∨ 14 < i → V' 170 i = V 170 i) ∧
  (∀ i, i < 200 * a ∨ 200 * a + 200 ≤ i → V' 173 i = V 173 i) ∧ (∀ i, i ≠ a → V' 174 i = V 174 i) ∧ (∀ i, i ≠ a → V' 175 i = V 175 i) ∧ (∀ i, i < 8 * a ∨ 8 * a + 8 ≤ i → V' 176 i = V 176 i ∧ V' 177 i = V 177 i)
theorem TX_tr {a : Nat} {V V' V'' : v_V} (h : TX a V V') (h2 : TX a V' V'') : TX a V V'' :=
  ⟨fun k q1 q2 q3 q4 q5 q6 q7 => (h2.1 k q1 q2 q3 q4 q5 q6 q7).trans (h.1 k q1 q2 q3 q4 q5 q6 q7), fun i q => (h2.2.1 i q).trans (h.2.1 i q), fun i q => (h2.2.2.1 i q).trans (h.2.2.1 i q), fun i q => (h2.2.2.2.1 i q).trans (h.2.2.2.1 i q), fun i q => (h2.2.2.2.2.1 i q).trans (h.2.2.2.2.1 i q), fun i q => ⟨(h2.2.2.2.2.2 i q).1.trans (h.2.2.2.2.2 i q).1, (h2.2.2.2.2.2 i q).2.trans (h.2.2.2.2.2 i q).2⟩⟩
theorem TX_mf {a : Nat} {V V' : v_V} (h : MF a V V') : TX a V V' :=
  ⟨fun k q1 q2 q3 q4 q5 q6 q7 => h.1 k q1 q3 q4 q6 q7, fun i q => h.2.1 i (by omega) (by omega) (by omega) (by omega), h.2.2.1, h.2.2.2.1, fun i _ => congrFun (h.1 175 (by decide) (by decide) (by decide) (by decide) (by decide)) i, h.2.2.2.2⟩
theorem TX_end (a : Nat) (V : v_V) (x y : Int) : TX a V (v_up (v_up V 175 a x) 171 0 y) := by
  refine ⟨fun k q1 q2 q3 q4 q5 q6 q7 => ?_, fun i q => rfl, fun i q => rfl, fun i q => rfl, fun i q => ?_, fun i q => ⟨rfl, rfl⟩⟩
  · rw [v_up_ne q2, v_up_ne q5]
  · rw [v_up_ne (by decide), v_up_ni q]
theorem pTx_eq {τ : Nat → Int} {z q : Nat} {l : List p_Li} (h : pLs τ z 8 0 [] = (some l, q)) : pTx τ z = if q = z then (some l, q) else (none, q) := by
  unfold pTx
  rw [h]
theorem pTx_no {τ : Nat → Int} {z q : Nat} (h : pLs τ z 8 0 [] = (none, q)) : pTx τ z = (none, q) := by
  unfold pTx
  rw [h]
section
variable {X : Nat → List Int32} {u w : Nat} {S : m_H} {V : v_V} {K : v_K}
set_option maxRecDepth 100000 in
set_option maxHeartbeats 4000000 in
theorem tx_102 (hM : MdS S) {a z : Nat} {τ : Nat → Int} (hT : Tp τ a z) (h : MP V a z τ 0 0 ((0 : Nat) : Int) ((0 : Nat) : Int) [] (fun _ => 0)) (h0 : V 171 0 = a) (k1 : ∀ l V', pTx τ z = (some l, z) → MT V' a l → lsO l ∧ l.length ≤ 8 → TX a V V' → V' 171 = v_uf (V 171) 0 ((a : Int) + 1) → K u w (some (iv a)) S V') (k2 : ∀ q V', pTx τ z = (none, q) → TX a V V' → V' 171 = V 171 → q ≤ z → K u w (some (iv (-10 - (q : Int)))) S V') : y_E X 22 124 5000 u w 102 [(0, .ref 170)] [] S V K := by
  refine y_mono (F' := 2000) ?_ (by decide)
  have hz := hT.2.1
  have ha8 := hT.1
  refine y_ld (x := .ref 170) rfl rfl (fun d => rfl) ?_
  refine y_cV (as := [.ref 170]) rfl rfl rfl rfl rfl (md170 hM) ⟨rfl, (Nat.le_of_ble_eq_true rfl), (Nat.le_of_ble_eq_true rfl)⟩ (by decide) (ct_lineHere (lnn := 0) hM hT (by omega) (fun _ _ => ⟨Int.le_refl 0, (by decide : (0 : Int) ≤ 10)⟩) ⟨rfl, by omega⟩ (by omega) (Nat.le_refl 0) h (fun y1 r1 V1 x1 h1 f1 e1 => ?_) (fun r2 V2 s2 g_2 o2 x2 h2 f2 e2 => ?_))
  · have po3 := pL_ok (by omega) hz x1
    have ppo3 := po3.2.2 _ rfl
    refine y_n0 ?_
    refine y_lv (l' := [(0, .ref 170)]) rfl ⟨rfl, trivial⟩ ?_
    have eR : pLs τ z 8 0 [] = (if 8 - 1 ≠ 0 ∧ hr τ z r1 = 59 then pLs τ z (8 - 1) (r1 + 1) [y1] else (some [y1], r1)) := by rw [pLs_s]; simp only [x1]; rfl
    have eQ : encP 0 [y1] = encL 0 y1 := List.append_nil _
    refine y_mono (lp_lines (F := 100) hM hT 8 1 _ _ _ _ r1 [y1] rfl (by decide) rfl (by decide) (by omega) (by rw [eQ, encL_len]; omega) (fun y hy => by rw [List.mem_singleton.mp hy]; exact ppo3.2) (by rw [eQ]; exact h1) (AM_app (l := []) (fun i x h => by cases h) e1) ?_ ?_) (by decide)
    · intro l5 r5 V5 x5 h5 am5 f5
      have eP : pLs τ z 8 0 [] = (some l5, r5) := by rw [eR]; exact x5
      have po := pLs_ok hz _ _ _ _ _ (by omega) (fun x hx => by cases hx) eP
      have pp := po.2.2 _ rfl
      simp only [List.length_nil] at pp
      refine y_ld (x := .ref 170) rfl rfl (fun d => rfl) ?_
      refine y_gI (i := 12) (e := 0) rfl rfl rfl (md170 hM) rfl h5.2.2.2.1 ?_
      refine y_zne rfl rfl rfl (by decide) (fun g1 => absurd g1 (by decide)) (fun g1 => ?_)
      refine y_ld (x := .ref 170) rfl rfl (fun d => rfl) ?_
      refine y_gI (i := 10) (e := ((r5 : Nat) : Int)) rfl rfl rfl (md170 hM) rfl h5.2.1 ?_
      refine y_ld (x := .ref 170) rfl rfl (fun d => rfl) ?_
      refine y_gI (i := 11) (e := (z : Int)) rfl rfl rfl (md170 hM) rfl h5.2.2.1 ?_
      refine y_jeq rfl rfl rfl (by omega) (fun g2 => ?_) (fun g2 => ?_)
      · refine y_ld (x := .ref 170) rfl rfl (fun d => rfl) ?_
        refine y_gR (i := 6) rfl rfl rfl (md170 hM) rfl ?_
        refine y_ld (x := .ref 170) rfl rfl (fun d => rfl) ?_
        refine y_gI (i := 9) (e := (a : Int)) rfl rfl rfl (md170 hM) rfl h5.1 ?_
        refine y_ld (x := .ref 170) rfl rfl (fun d => rfl) ?_
        refine y_gI (i := 14) (e := (l5.length : Int)) rfl rfl rfl (md170 hM) rfl h5.2.2.2.2.2.1 ?_
        refine y_ist (q := a) rfl rfl (md175 hM) (by omega) (by decide) (by omega) ?_
        have e171b := (MF_tr (MF_tr (MF_rf a V) f1) f5).1 171 (by decide) (by decide) (by decide) (by decide) (by decide)
        refine y_ld (x := .ref 170) rfl rfl (fun d => rfl) ?_
        refine y_gR (i := 1) rfl rfl rfl (md170 hM) rfl ?_
        refine y_ic rfl rfl ?_
        refine y_in rfl rfl (fun d => rfl) ?_
        refine y_ild (x := (a : Int)) (q := 0) rfl rfl (md171 hM) (by decide) (by decide) rfl (by rw [v_up_ne (by decide), e171b]; exact h0) ?_
        refine y_ic rfl rfl ?_
        refine y_add (z := ((a : Int) + 1)) rfl rfl rfl ?_
        refine y_ist (q := 0) rfl rfl (md171 hM) (by decide) (by decide) rfl ?_
        refine y_ld (x := .ref 170) rfl rfl (fun d => rfl) ?_
        refine y_gI (i := 9) (e := (a : Int)) rfl rfl rfl (md170 hM) rfl h5.1 ?_
        refine y_rI rfl (Or.inl rfl) ?_
        have hqz : r5 = z := by omega
        have hfr := (MF_tr (MF_tr (MF_rf a V) f1) f5)
        have e171 := hfr.1 171 (by decide) (by decide) (by decide) (by decide) (by decide)
        refine k1 l5 _ ((pTx_eq eP).trans ((if_pos hqz).trans (by rw [hqz]))) ⟨h5.2.2.2.2.2.2.2.1, h5.2.2.2.2.2.2.2.2.1, ?_, am5, h5.2.2.2.2.2.2.2.2.2⟩ ⟨pp.2.1, by omega⟩ (TX_tr (TX_mf hfr) (TX_end a _ _ _)) ?_
        · rw [v_up_ne (by decide), v_up_eq]
        · rw [v_up_row, v_up_ne (by decide), e171]
      · refine y_bi rfl rfl (by decide) ?_
        refine y_ld (x := .ref 170) rfl rfl (fun d => rfl) ?_
        refine y_gI (i := 10) (e := ((r5 : Nat) : Int)) rfl rfl rfl (md170 hM) rfl h5.2.1 ?_
        refine y_sub (z := ((-10) - ((r5 : Nat) : Int))) rfl rfl rfl ?_
        refine y_rI rfl (Or.inl rfl) ?_
        exact k2 _ _ ((pTx_eq eP).trans (if_neg (by omega))) (TX_mf (MF_tr (MF_tr (MF_rf a V) f1) f5)) ((MF_tr (MF_tr (MF_rf a V) f1) f5).1 171 (by decide) (by decide) (by decide) (by decide) (by decide)) (by omega)
    · intro r6 V6 st' g' o' ln' x6 h6 f6
      have eP : pLs τ z 8 0 [] = (none, r6) := by rw [eR]; exact x6
      have po := pLs_ok hz _ _ _ _ _ (by omega) (fun x hx => by cases hx) eP
      refine y_ld (x := .ref 170) rfl rfl (fun d => rfl) ?_
      refine y_gI (i := 12) (e := 1) rfl rfl rfl (md170 hM) rfl h6.2.2.2.1 ?_
      refine y_zne rfl rfl rfl (by decide) (fun g3 => ?_) (fun g3 => absurd g3 (by decide))
      refine y_bi rfl rfl (by decide) ?_
      refine y_ld (x := .ref 170) rfl rfl (fun d => rfl) ?_
      refine y_gI (i := 10) (e := ((r6 : Nat) : Int)) rfl rfl rfl (md170 hM) rfl h6.2.1 ?_
      refine y_sub (z := ((-10) - ((r6 : Nat) : Int))) rfl rfl rfl ?_
      refine y_rI rfl (Or.inl rfl) ?_
      exact k2 _ _ (pTx_no eP) (TX_mf (MF_tr (MF_tr (MF_rf a V) f1) f6)) ((MF_tr (MF_tr (MF_rf a V) f1) f6).1 171 (by decide) (by decide) (by decide) (by decide) (by decide)) (by omega)
  · have po4 := pL_ok (by omega) hz x2
    refine y_n0 ?_
    refine y_lv (l' := [(0, .ref 170)]) rfl ⟨rfl, trivial⟩ ?_
    have eP : pLs τ z 8 0 [] = (none, r2) := by rw [pLs_s]; simp only [x2]
    refine y_ld (x := .ref 170) rfl rfl (fun d => rfl) ?_
    refine y_gI (i := 12) (e := 1) rfl rfl rfl (md170 hM) rfl h2.2.2.2.1 ?_
    refine y_zne rfl rfl rfl (by decide) (fun g4 => ?_) (fun g4 => absurd g4 (by decide))
    refine y_ld (x := .ref 170) rfl rfl (fun d => rfl) ?_
    refine y_gI (i := 12) (e := 1) rfl rfl rfl (md170 hM) rfl h2.2.2.2.1 ?_
    refine y_zne rfl rfl rfl (by decide) (fun g5 => ?_) (fun g5 => absurd g5 (by decide))
    refine y_bi rfl rfl (by decide) ?_
    refine y_ld (x := .ref 170) rfl rfl (fun d => rfl) ?_
    refine y_gI (i := 10) (e := ((r2 : Nat) : Int)) rfl rfl rfl (md170 hM) rfl h2.2.1 ?_
    refine y_sub (z := ((-10) - ((r2 : Nat) : Int))) rfl rfl rfl ?_
    refine y_rI rfl (Or.inl rfl) ?_
    exact k2 _ _ (pTx_no eP) (TX_mf (MF_tr (MF_rf a V) f2)) ((MF_tr (MF_rf a V) f2).1 171 (by decide) (by decide) (by decide) (by decide) (by decide)) (by omega)
end
