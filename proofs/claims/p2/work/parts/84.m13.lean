section
variable {X : Nat → List Int32} {u w : Nat} {S : m_H} {V : v_V} {K : v_K}
set_option maxRecDepth 100000 in
set_option maxHeartbeats 4000000 in
theorem ct_text (hM : MdS S) {a z : Nat} (h0 : V 171 0 = a) (ha8 : a ≤ 8) (h6 : V 171 6 = z) (hz : z ≤ 160) (hb : ∀ i, i < z → 0 ≤ V 171 (10 + i) ∧ V 171 (10 + i) ≤ 255) (k0 : a = 8 → K u w (some (iv (-4))) S V) (k1 : ∀ l V', a < 8 → pTx (fun i => V 171 (10 + i)) z = (some l, z) → MT V' a l → lsO l ∧ l.length ≤ 8 → TX a V V' → V' 171 = v_uf (v_uf (V 171) 6 0) 0 ((a : Int) + 1) → K u w (some (iv a)) S V') (k2 : ∀ q V', a < 8 → pTx (fun i => V 171 (10 + i)) z = (none, q) → TX a V V' → V' 171 = v_uf (V 171) 6 0 → q ≤ z → K u w (some (iv (-10 - (q : Int)))) S V') : y_R X 23 124 u w [.ref 170] S V K := by
  refine y_ent (lv' := [(0, .ref 170)]) (Nat.le_of_ble_eq_true rfl) rfl ?_
  refine y_ld (x := .ref 170) rfl rfl (fun d => rfl) ?_
  refine y_gR (i := 1) rfl rfl rfl (md170 hM) rfl ?_
  refine y_ic rfl rfl ?_
  refine y_ild (x := (a : Int)) (q := 0) rfl rfl (md171 hM) (by decide) (by decide) rfl h0 ?_
  refine y_bi rfl rfl (by decide) ?_
  refine y_jne rfl rfl rfl (by omega) (fun g1 => ?_) (fun g1 => ?_)
  · have ha : a < 8 := by omega
    refine y_ld (x := .ref 170) rfl rfl (fun d => rfl) ?_
    refine y_ld (x := .ref 170) rfl rfl (fun d => rfl) ?_
    refine y_gR (i := 1) rfl rfl rfl (md170 hM) rfl ?_
    refine y_ic rfl rfl ?_
    refine y_ild (x := (a : Int)) (q := 0) rfl rfl (md171 hM) (by decide) (by decide) rfl h0 ?_
    refine y_pI (i := 9) rfl rfl rfl (md170 hM) rfl rfl ?_
    refine y_ld (x := .ref 170) rfl rfl (fun d => rfl) ?_
    refine y_ld (x := .ref 170) rfl rfl (fun d => rfl) ?_
    refine y_gR (i := 1) rfl rfl rfl (md170 hM) rfl ?_
    refine y_bi rfl rfl (by decide) ?_
    refine y_ild (x := (z : Int)) (q := 6) rfl rfl (md171 hM) (by decide) (by decide) rfl h6 ?_
    refine y_pI (i := 11) rfl rfl rfl (md170 hM) rfl rfl ?_
    refine y_ld (x := .ref 170) rfl rfl (fun d => rfl) ?_
    refine y_gR (i := 1) rfl rfl rfl (md170 hM) rfl ?_
    refine y_bi rfl rfl (by decide) ?_
    refine y_ic rfl rfl ?_
    refine y_ist (q := 6) rfl rfl (md171 hM) (by decide) (by decide) rfl ?_
    refine y_ld (x := .ref 170) rfl rfl (fun d => rfl) ?_
    refine y_gR (i := 5) rfl rfl rfl (md170 hM) rfl ?_
    refine y_ld (x := .ref 170) rfl rfl (fun d => rfl) ?_
    refine y_gI (i := 9) (e := (a : Int)) rfl rfl rfl (md170 hM) rfl rfl ?_
    refine y_ic rfl rfl ?_
    refine y_ist (q := a) rfl rfl (md174 hM) (by omega) (by decide) (by omega) ?_
    refine y_ld (x := .ref 170) rfl rfl (fun d => rfl) ?_
    refine y_ic rfl rfl ?_
    refine y_pI (i := 10) rfl rfl rfl (md170 hM) rfl rfl ?_
    refine y_ld (x := .ref 170) rfl rfl (fun d => rfl) ?_
    refine y_ic rfl rfl ?_
    refine y_pZ (i := 12) rfl rfl rfl (md170 hM) rfl rfl (by decide) ?_
    refine y_ld (x := .ref 170) rfl rfl (fun d => rfl) ?_
    refine y_ic rfl rfl ?_
    refine y_pI (i := 13) rfl rfl rfl (md170 hM) rfl rfl ?_
    refine y_ld (x := .ref 170) rfl rfl (fun d => rfl) ?_
    refine y_ic rfl rfl ?_
    refine y_pI (i := 14) rfl rfl rfl (md170 hM) rfl rfl ?_
    refine y_ic rfl rfl ?_
    refine y_st (lv' := [(1, iv 0), (0, .ref 170)]) rfl rfl (fun d => rfl) ?_
    refine y_lv (l' := [(0, .ref 170), (1, iv 0)]) rfl ⟨rfl, rfl, trivial⟩ ?_
    refine y_V (V' := v_ur (v_up (v_up (v_up (v_up (v_up (v_up (v_up (v_up V 170 9 (a : Int)) 170 11 (z : Int)) 171 6 0) 174 a 0) 170 10 0) 170 12 0) 170 13 0) 170 14 0) 177 (fun i => if 8 * a ≤ i ∧ i < 8 * a + 0 then 0 else (v_up (v_up (v_up (v_up (v_up (v_up (v_up (v_up V 170 9 (a : Int)) 170 11 (z : Int)) 171 6 0) 174 a 0) 170 10 0) 170 12 0) 170 13 0) 170 14 0) 177 i)) ?_ ?_
    · rw [show (fun i => if 8 * a ≤ i ∧ i < 8 * a + 0 then 0 else (v_up (v_up (v_up (v_up (v_up (v_up (v_up (v_up V 170 9 (a : Int)) 170 11 (z : Int)) 171 6 0) 174 a 0) 170 10 0) 170 12 0) 170 13 0) 170 14 0) 177 i) = (v_up (v_up (v_up (v_up (v_up (v_up (v_up (v_up V 170 9 (a : Int)) 170 11 (z : Int)) 171 6 0) 174 a 0) 170 10 0) 170 12 0) 170 13 0) 170 14 0) 177 from funext (fun i => if_neg (by omega)), v_ur_self]
    refine y_mono (lp_text0 hM ha rfl 9 0 (by omega) (by omega) ?_) (by decide : 20 * 9 + 6000 ≤ _)
    refine y_lv (l' := [(0, .ref 170)]) rfl ⟨rfl, trivial⟩ ?_
    refine y_mono (tx_102 hM ⟨ha, hz, hb⟩ ⟨rfl, rfl, rfl, rfl, rfl, rfl, ?_, ?_, fun i x h => (by cases h), ?_⟩ h0 (fun l V' a1 a2 a3 a4 a5 => k1 l V' ha a1 a2 a3 (TX_tr ?_ a4) a5) (fun q V' a1 a2 a3 a4 => k2 q V' ha a1 (TX_tr ?_ a2) a3 a4)) (by decide)
    · intro i hi
      show v_uf (V 171) 6 0 (10 + i) = V 171 (10 + i)
      exact v_uf_ne (by omega)
    · show v_uf (V 174) a 0 a = 0
      exact v_uf_eq _ _ _
    · intro c hc
      show (if 8 * a ≤ 8 * a + c ∧ 8 * a + c < 8 * a + 8 then (0 : Int) else V 177 (8 * a + c)) = 0
      exact if_pos (by omega)
    · refine ⟨fun k q1 q2 q3 q4 q5 q6 q7 => ?_, fun i q => ?_, fun i q => rfl, fun i q => ?_, fun i q => rfl, fun i q => ⟨rfl, ?_⟩⟩
      · rw [v_ur_ne q7, v_up_ne q1, v_up_ne q1, v_up_ne q1, v_up_ne q1, v_up_ne q4, v_up_ne q2, v_up_ne q1, v_up_ne q1]
      · show v_uf (v_uf (v_uf (v_uf (v_uf (v_uf (V 170) 9 a) 11 z) 10 0) 12 0) 13 0) 14 0 i = V 170 i
        rw [v_uf_ne (by omega), v_uf_ne (by omega), v_uf_ne (by omega), v_uf_ne (by omega), v_uf_ne (by omega), v_uf_ne (by omega)]
      · show v_uf (V 174) a 0 i = V 174 i
        exact v_uf_ne q
      · show (if 8 * a ≤ i ∧ i < 8 * a + 8 then (0 : Int) else V 177 i) = V 177 i
        exact if_neg (by omega)
    · refine ⟨fun k q1 q2 q3 q4 q5 q6 q7 => ?_, fun i q => ?_, fun i q => rfl, fun i q => ?_, fun i q => rfl, fun i q => ⟨rfl, ?_⟩⟩
      · rw [v_ur_ne q7, v_up_ne q1, v_up_ne q1, v_up_ne q1, v_up_ne q1, v_up_ne q4, v_up_ne q2, v_up_ne q1, v_up_ne q1]
      · show v_uf (v_uf (v_uf (v_uf (v_uf (v_uf (V 170) 9 a) 11 z) 10 0) 12 0) 13 0) 14 0 i = V 170 i
        rw [v_uf_ne (by omega), v_uf_ne (by omega), v_uf_ne (by omega), v_uf_ne (by omega), v_uf_ne (by omega), v_uf_ne (by omega)]
      · show v_uf (V 174) a 0 i = V 174 i
        exact v_uf_ne q
      · show (if 8 * a ≤ i ∧ i < 8 * a + 8 then (0 : Int) else V 177 i) = V 177 i
        exact if_neg (by omega)
  · refine y_bi rfl rfl (by decide) ?_
    refine y_rI rfl (Or.inl rfl) ?_
    exact k0 (by omega)
end
