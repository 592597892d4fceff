section
variable {X : Nat → List Int32} {u w : Nat} {S : m_H} {V : v_V} {K : v_K}
set_option maxRecDepth 100000 in
set_option maxHeartbeats 4000000 in
theorem ct_here (hM : MdS S) {a z p : Nat} {τ : Nat → Int} {wr o ln : Int} {st : List Int} {g : Nat → Int} (h : MP V a z τ p wr o ln st g) (hp : p ≤ z ∧ z ≤ 160) (k : K u w (some (iv (hr τ z p))) S V) : y_R X 1 112 u w [.ref 170] S V K := by
  refine y_ent (lv' := [(0, .ref 170)]) (Nat.le_of_ble_eq_true rfl) rfl ?_
  refine y_ld (x := .ref 170) rfl rfl (fun d => rfl) ?_
  refine y_gI (i := 10) (e := (p : Int)) rfl rfl rfl (md170 hM) rfl h.2.1 ?_
  refine y_ld (x := .ref 170) rfl rfl (fun d => rfl) ?_
  refine y_gI (i := 11) (e := (z : Int)) rfl rfl rfl (md170 hM) rfl h.2.2.1 ?_
  refine y_jge rfl rfl rfl (by omega) (fun g1 => ?_) (fun g1 => ?_)
  · refine y_ic rfl rfl ?_
    refine y_rI rfl (Or.inl rfl) ?_
    rwa [show hr τ z p = -1 from if_neg (by omega)] at k
  · refine y_ld (x := .ref 170) rfl rfl (fun d => rfl) ?_
    refine y_gR (i := 1) rfl rfl rfl (md170 hM) rfl ?_
    refine y_bi rfl rfl (by decide) ?_
    refine y_ld (x := .ref 170) rfl rfl (fun d => rfl) ?_
    refine y_gI (i := 10) (e := (p : Int)) rfl rfl rfl (md170 hM) rfl h.2.1 ?_
    refine y_add (z := (10 + (p : Int))) rfl rfl rfl ?_
    refine y_ild (x := (τ p)) (q := (10 + p)) rfl rfl (md171 hM) (by omega) (by decide) (by omega) (h.2.2.2.2.2.2.1 p (by omega)) ?_
    refine y_go rfl rfl ?_
    refine y_rI rfl (Or.inl rfl) ?_
    rwa [show hr τ z p = τ p from if_pos (by omega)] at k
set_option maxRecDepth 100000 in
set_option maxHeartbeats 4000000 in
theorem ct_emits (hM : MdS S) {a z p : Nat} {τ : Nat → Int} {o ln : Int} {st : List Int} {g : Nat → Int} {x : Int} (h : MP V a z τ p 0 o ln st g) (ha : a < 8) (hl : st.length < 200) (k : ∀ V', MP V' a z τ p 0 o ln (st ++ [x]) g → MF a V V' → V' 176 = V 176 → K u w none S V') : y_R X 1 114 u w [.ref 170, iv x] S V K := by
  refine y_ent (lv' := [(0, .ref 170), (1, iv x)]) (Nat.le_of_ble_eq_true rfl) rfl ?_
  refine y_ld (x := .ref 170) rfl rfl (fun d => rfl) ?_
  refine y_gI (i := 12) (e := 0) rfl rfl rfl (md170 hM) rfl h.2.2.2.1 ?_
  refine y_zne rfl rfl rfl (by decide) (fun g1 => absurd g1 (by decide)) (fun g1 => ?_)
  refine y_ld (x := .ref 170) rfl rfl (fun d => rfl) ?_
  refine y_gR (i := 4) rfl rfl rfl (md170 hM) rfl ?_
  refine y_si rfl rfl (by decide) ?_
  refine y_ld (x := .ref 170) rfl rfl (fun d => rfl) ?_
  refine y_gI (i := 9) (e := (a : Int)) rfl rfl rfl (md170 hM) rfl h.1 ?_
  refine y_mul (z := (200 * (a : Int))) rfl rfl rfl ?_
  refine y_ld (x := .ref 170) rfl rfl (fun d => rfl) ?_
  refine y_gR (i := 5) rfl rfl rfl (md170 hM) rfl ?_
  refine y_ld (x := .ref 170) rfl rfl (fun d => rfl) ?_
  refine y_gI (i := 9) (e := (a : Int)) rfl rfl rfl (md170 hM) rfl h.1 ?_
  refine y_ild (x := (st.length : Int)) (q := a) rfl rfl (md174 hM) (by omega) (by decide) (by omega) h.2.2.2.2.2.2.2.1 ?_
  refine y_add (z := ((200 * (a : Int)) + (st.length : Int))) rfl rfl rfl ?_
  refine y_ld (x := iv x) rfl rfl (fun d => rfl) ?_
  refine y_ist (q := (200 * a + st.length)) rfl rfl (md173 hM) (by omega) (by decide) (by omega) ?_
  refine y_ld (x := .ref 170) rfl rfl (fun d => rfl) ?_
  refine y_gR (i := 5) rfl rfl rfl (md170 hM) rfl ?_
  refine y_ld (x := .ref 170) rfl rfl (fun d => rfl) ?_
  refine y_gI (i := 9) (e := (a : Int)) rfl rfl rfl (md170 hM) rfl h.1 ?_
  refine y_in rfl rfl (fun d => rfl) ?_
  refine y_ild (x := (st.length : Int)) (q := a) rfl rfl (md174 hM) (by omega) (by decide) (by omega) h.2.2.2.2.2.2.2.1 ?_
  refine y_ic rfl rfl ?_
  refine y_add (z := ((st.length : Int) + 1)) rfl rfl rfl ?_
  refine y_ist (q := a) rfl rfl (md174 hM) (by omega) (by decide) (by omega) ?_
  refine y_ret rfl (fun d => rfl) ?_
  exact k _ (MP_em h) (MF_u4 (MF_u3 (by omega) (MF_rf a V))) rfl
set_option maxRecDepth 100000 in
set_option maxHeartbeats 4000000 in
theorem ct_emits1 (hM : MdS S) {a z p : Nat} {τ : Nat → Int} {o ln : Int} {st : List Int} {g : Nat → Int} {x : Int} (h : MP V a z τ p 1 o ln st g) (k : K u w none S V) : y_R X 1 114 u w [.ref 170, iv x] S V K := by
  refine y_ent (lv' := [(0, .ref 170), (1, iv x)]) (Nat.le_of_ble_eq_true rfl) rfl ?_
  refine y_ld (x := .ref 170) rfl rfl (fun d => rfl) ?_
  refine y_gI (i := 12) (e := 1) rfl rfl rfl (md170 hM) rfl h.2.2.2.1 ?_
  refine y_zne rfl rfl rfl (by decide) (fun g1 => ?_) (fun g1 => absurd g1 (by decide))
  refine y_ret rfl (fun d => rfl) ?_
  exact k
set_option maxRecDepth 100000 in
set_option maxHeartbeats 4000000 in
theorem ct_marks (hM : MdS S) {a z p : Nat} {τ : Nat → Int} {o ln : Int} {st : List Int} {g : Nat → Int} {t : Int} {b : Bool} (ht : tcd t) (h : MP V a z τ p 0 o ln st g) (ha : a < 8) (hln : 0 ≤ ln ∧ ln ≤ 8) (hgr : ∀ c, c < 8 → 0 ≤ g c ∧ g c ≤ 10) (k : ∀ V', MP V' a z τ p 0 o ln st (mk ln g t b) → MF a V V' → V' 176 = V 176 → K u w none S V') : y_R X 1 115 u w [.ref 170, iv (mcd t), iv (v_b (b = true))] S V K := by
  refine y_ent (lv' := [(0, .ref 170), (1, iv (mcd t)), (2, iv (v_b (b = true)))]) (Nat.le_of_ble_eq_true rfl) rfl ?_
  refine y_ld (x := .ref 170) rfl rfl (fun d => rfl) ?_
  refine y_gI (i := 12) (e := 0) rfl rfl rfl (md170 hM) rfl h.2.2.2.1 ?_
  refine y_zne rfl rfl rfl (by decide) (fun g1 => absurd g1 (by decide)) (fun g1 => ?_)
  have hq := mcd_rg ht
  have hr2 := mcd_hi ht
  refine y_ld (x := iv (mcd t)) rfl rfl (fun d => rfl) ?_
  refine y_bi rfl rfl (by decide) ?_
  refine y_jlt rfl rfl rfl (by omega) (fun g2 => ?_) (fun g2 => ?_)
  · refine y_ret rfl (fun d => rfl) ?_
    have e : mk ln g t b = g := if_neg (by have := mcd_rg ht; omega)
    rw [e] at k
    exact k V h (MF_rf a V) rfl
  · refine y_bi rfl rfl (by decide) ?_
    refine y_ld (x := .ref 170) rfl rfl (fun d => rfl) ?_
    refine y_gI (i := 9) (e := (a : Int)) rfl rfl rfl (md170 hM) rfl h.1 ?_
    refine y_mul (z := (8 * (a : Int))) rfl rfl rfl ?_
    refine y_ld (x := iv (mcd t)) rfl rfl (fun d => rfl) ?_
    refine y_si rfl rfl (by decide) ?_
    refine y_jlt rfl rfl rfl (by omega) (fun g3 => ?_) (fun g3 => ?_)
    · refine y_ld (x := iv (mcd t)) rfl rfl (fun d => rfl) ?_
      refine y_bi rfl rfl (by decide) ?_
      refine y_sub (z := ((mcd t) - 120)) rfl rfl rfl ?_
      refine y_add (z := ((8 * (a : Int)) + ((mcd t) - 120))) rfl rfl rfl ?_
      refine y_st (lv' := [(3, iv ((8 * (a : Int)) + ((mcd t) - 120))), (0, .ref 170), (1, iv (mcd t)), (2, iv (v_b (b = true)))]) rfl rfl (fun d => rfl) ?_
      refine y_ld (x := .ref 170) rfl rfl (fun d => rfl) ?_
      refine y_gR (i := 8) rfl rfl rfl (md170 hM) rfl ?_
      refine y_ld (x := iv ((8 * (a : Int)) + ((mcd t) - 120))) rfl rfl (fun d => rfl) ?_
      refine y_ld (x := .ref 170) rfl rfl (fun d => rfl) ?_
      refine y_gR (i := 8) rfl rfl rfl (md170 hM) rfl ?_
      refine y_ld (x := iv ((8 * (a : Int)) + ((mcd t) - 120))) rfl rfl (fun d => rfl) ?_
      have hg := hgr (t - 108).toNat (by omega)
      refine y_ild (x := (g (t - 108).toNat)) (q := (8 * a + (t - 108).toNat)) rfl rfl (md177 hM) (by omega) (by decide) (by omega) (h.2.2.2.2.2.2.2.2.2 _ (by omega)) ?_
      refine y_ic rfl rfl ?_
      refine y_jle rfl rfl rfl (by omega) (fun g4 => ?_) (fun g4 => ?_)
      · refine y_ld (x := iv (v_b (b = true))) rfl rfl (fun d => rfl) ?_
        refine y_beq rfl rfl rfl (fun g5 => ?_) (fun g5 => ?_)
        · refine y_ic rfl rfl ?_
          refine y_ist (q := (8 * a + (t - 108).toNat)) rfl rfl (md177 hM) (by omega) (by decide) (by omega) ?_
          refine y_ret rfl (fun d => rfl) ?_
          have e : mk ln g t b = v_uf g (t - 108).toNat 1 := by
            unfold mk
            rw [if_pos (by omega)]
            rw [if_neg (by omega)]
            cases b
            · rfl
            · exact absurd rfl g5
          rw [e] at k
          exact k _ (MP_mk h (by omega)) (MF_u7 (by omega) (MF_rf a V)) rfl
        · refine y_ic rfl rfl ?_
          refine y_ld (x := .ref 170) rfl rfl (fun d => rfl) ?_
          refine y_gI (i := 14) (e := ln) rfl rfl rfl (md170 hM) rfl h.2.2.2.2.2.1 ?_
          refine y_add (z := (2 + ln)) rfl rfl rfl ?_
          refine y_go rfl rfl ?_
          refine y_ist (q := (8 * a + (t - 108).toNat)) rfl rfl (md177 hM) (by omega) (by decide) (by omega) ?_
          refine y_ret rfl (fun d => rfl) ?_
          have e : mk ln g t b = v_uf g (t - 108).toNat (2 + ln) := by
            unfold mk
            rw [if_pos (by omega)]
            rw [if_neg (by omega)]
            cases b
            · cases g5
            · rfl
          rw [e] at k
          exact k _ (MP_mk h (by omega)) (MF_u7 (by omega) (MF_rf a V)) rfl
      · refine y_ld (x := .ref 170) rfl rfl (fun d => rfl) ?_
        refine y_gR (i := 8) rfl rfl rfl (md170 hM) rfl ?_
        refine y_ld (x := iv ((8 * (a : Int)) + ((mcd t) - 120))) rfl rfl (fun d => rfl) ?_
        refine y_ild (x := (g (t - 108).toNat)) (q := (8 * a + (t - 108).toNat)) rfl rfl (md177 hM) (by omega) (by decide) (by omega) (h.2.2.2.2.2.2.2.2.2 _ (by omega)) ?_
        refine y_go rfl rfl ?_
        refine y_ist (q := (8 * a + (t - 108).toNat)) rfl rfl (md177 hM) (by omega) (by decide) (by omega) ?_
        refine y_ret rfl (fun d => rfl) ?_
        have e : mk ln g t b = v_uf g (t - 108).toNat (g (t - 108).toNat) := by
          unfold mk
          rw [if_pos (by omega)]
          rw [if_pos (by omega)]
        rw [e] at k
        exact k _ (MP_mk h (by omega)) (MF_u7 (by omega) (MF_rf a V)) rfl
    · refine y_ic rfl rfl ?_
      refine y_ld (x := iv (mcd t)) rfl rfl (fun d => rfl) ?_
      refine y_add (z := (4 + (mcd t))) rfl rfl rfl ?_
      refine y_si rfl rfl (by decide) ?_
      refine y_sub (z := ((4 + (mcd t)) - 130)) rfl rfl rfl ?_
      refine y_go rfl rfl ?_
      refine y_add (z := ((8 * (a : Int)) + ((4 + (mcd t)) - 130))) rfl rfl rfl ?_
      refine y_st (lv' := [(3, iv ((8 * (a : Int)) + ((4 + (mcd t)) - 130))), (0, .ref 170), (1, iv (mcd t)), (2, iv (v_b (b = true)))]) rfl rfl (fun d => rfl) ?_
      refine y_ld (x := .ref 170) rfl rfl (fun d => rfl) ?_
      refine y_gR (i := 8) rfl rfl rfl (md170 hM) rfl ?_
      refine y_ld (x := iv ((8 * (a : Int)) + ((4 + (mcd t)) - 130))) rfl rfl (fun d => rfl) ?_
      refine y_ld (x := .ref 170) rfl rfl (fun d => rfl) ?_
      refine y_gR (i := 8) rfl rfl rfl (md170 hM) rfl ?_
      refine y_ld (x := iv ((8 * (a : Int)) + ((4 + (mcd t)) - 130))) rfl rfl (fun d => rfl) ?_
      have hg := hgr (t - 108).toNat (by omega)
      refine y_ild (x := (g (t - 108).toNat)) (q := (8 * a + (t - 108).toNat)) rfl rfl (md177 hM) (by omega) (by decide) (by omega) (h.2.2.2.2.2.2.2.2.2 _ (by omega)) ?_
      refine y_ic rfl rfl ?_
      refine y_jle rfl rfl rfl (by omega) (fun g6 => ?_) (fun g6 => ?_)
      · refine y_ld (x := iv (v_b (b = true))) rfl rfl (fun d => rfl) ?_
        refine y_beq rfl rfl rfl (fun g7 => ?_) (fun g7 => ?_)
        · refine y_ic rfl rfl ?_
          refine y_ist (q := (8 * a + (t - 108).toNat)) rfl rfl (md177 hM) (by omega) (by decide) (by omega) ?_
          refine y_ret rfl (fun d => rfl) ?_
          have e : mk ln g t b = v_uf g (t - 108).toNat 1 := by
            unfold mk
            rw [if_pos (by omega)]
            rw [if_neg (by omega)]
            cases b
            · rfl
            · exact absurd rfl g7
          rw [e] at k
          exact k _ (MP_mk h (by omega)) (MF_u7 (by omega) (MF_rf a V)) rfl
        · refine y_ic rfl rfl ?_
          refine y_ld (x := .ref 170) rfl rfl (fun d => rfl) ?_
          refine y_gI (i := 14) (e := ln) rfl rfl rfl (md170 hM) rfl h.2.2.2.2.2.1 ?_
          refine y_add (z := (2 + ln)) rfl rfl rfl ?_
          refine y_go rfl rfl ?_
          refine y_ist (q := (8 * a + (t - 108).toNat)) rfl rfl (md177 hM) (by omega) (by decide) (by omega) ?_
          refine y_ret rfl (fun d => rfl) ?_
          have e : mk ln g t b = v_uf g (t - 108).toNat (2 + ln) := by
            unfold mk
            rw [if_pos (by omega)]
            rw [if_neg (by omega)]
            cases b
            · cases g7
            · rfl
          rw [e] at k
          exact k _ (MP_mk h (by omega)) (MF_u7 (by omega) (MF_rf a V)) rfl
      · refine y_ld (x := .ref 170) rfl rfl (fun d => rfl) ?_
        refine y_gR (i := 8) rfl rfl rfl (md170 hM) rfl ?_
        refine y_ld (x := iv ((8 * (a : Int)) + ((4 + (mcd t)) - 130))) rfl rfl (fun d => rfl) ?_
        refine y_ild (x := (g (t - 108).toNat)) (q := (8 * a + (t - 108).toNat)) rfl rfl (md177 hM) (by omega) (by decide) (by omega) (h.2.2.2.2.2.2.2.2.2 _ (by omega)) ?_
        refine y_go rfl rfl ?_
        refine y_ist (q := (8 * a + (t - 108).toNat)) rfl rfl (md177 hM) (by omega) (by decide) (by omega) ?_
        refine y_ret rfl (fun d => rfl) ?_
        have e : mk ln g t b = v_uf g (t - 108).toNat (g (t - 108).toNat) := by
          unfold mk
          rw [if_pos (by omega)]
          rw [if_pos (by omega)]
        rw [e] at k
        exact k _ (MP_mk h (by omega)) (MF_u7 (by omega) (MF_rf a V)) rfl
set_option maxRecDepth 100000 in
set_option maxHeartbeats 4000000 in
theorem ct_marks1 (hM : MdS S) {a z p : Nat} {τ : Nat → Int} {o ln : Int} {st : List Int} {g : Nat → Int} {x : Int} {y : Int} (h : MP V a z τ p 1 o ln st g) (k : K u w none S V) : y_R X 1 115 u w [.ref 170, iv x, iv y] S V K := by
  refine y_ent (lv' := [(0, .ref 170), (1, iv x), (2, iv y)]) (Nat.le_of_ble_eq_true rfl) rfl ?_
  refine y_ld (x := .ref 170) rfl rfl (fun d => rfl) ?_
  refine y_gI (i := 12) (e := 1) rfl rfl rfl (md170 hM) rfl h.2.2.2.1 ?_
  refine y_zne rfl rfl rfl (by decide) (fun g1 => ?_) (fun g1 => absurd g1 (by decide))
  refine y_ret rfl (fun d => rfl) ?_
  exact k
end
