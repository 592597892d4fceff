section
variable {X : Nat → List Int32} {u w : Nat} {S : m_H} {V : v_V} {K : v_K}
set_option maxRecDepth 100000 in
set_option maxHeartbeats 4000000 in
theorem ct_must (hM : MdS S) {a z p : Nat} {τ : Nat → Int} {o ln : Int} {st : List Int} {g : Nat → Int} {c : Int} (hT : Tp τ a z) (hc : (-2147483648 ≤ c ∧ c < 2147483648)) (h : MP V a z τ p 0 o ln st g) (hp : p ≤ z ∧ z ≤ 160) (k : ∀ V', MP V' a z τ (if hr τ z p = c then p + 1 else p) (if hr τ z p = c then 0 else 1) o ln st g → MF a V V' → V' 176 = V 176 → K u w none S V') : y_R X 2 113 u w [.ref 170, iv c] S V K := by
  refine y_ent (lv' := [(0, .ref 170), (1, iv c)]) (Nat.le_of_ble_eq_true rfl) rfl ?_
  refine y_ld (x := .ref 170) rfl rfl (fun d => rfl) ?_
  refine y_ld (x := .ref 170) rfl rfl (fun d => rfl) ?_
  refine y_gI (i := 12) (e := 0) rfl rfl rfl (md170 hM) rfl h.2.2.2.1 ?_
  refine y_zne rfl rfl rfl (by decide) (fun g1 => absurd g1 (by decide)) (fun g1 => ?_)
  refine y_ld (x := .ref 170) rfl rfl (fun d => rfl) ?_
  refine y_cV (as := [.ref 170]) rfl rfl rfl rfl rfl (md170 hM) ⟨rfl, (Nat.le_of_ble_eq_true rfl), (Nat.le_of_ble_eq_true rfl)⟩ (by decide) (ct_here hM h (by omega) ?_)
  have hq9 := hr_rg hT (p)
  refine y_nv ?_
  refine y_ld (x := iv c) rfl rfl (fun d => rfl) ?_
  refine y_jeq rfl rfl rfl (by omega) (fun g2 => ?_) (fun g2 => ?_)
  · refine y_ic rfl rfl ?_
    refine y_pZ (i := 12) rfl rfl rfl (md170 hM) rfl rfl (by decide) ?_
    refine y_ld (x := .ref 170) rfl rfl (fun d => rfl) ?_
    refine y_in rfl rfl (fun d => rfl) ?_
    refine y_gI (i := 10) (e := (p : Int)) rfl rfl rfl (md170 hM) rfl h.2.1 ?_
    refine y_ld (x := .ref 170) rfl rfl (fun d => rfl) ?_
    refine y_gI (i := 12) (e := 0) rfl rfl rfl (md170 hM) rfl rfl ?_
    refine y_zeq rfl rfl rfl (by decide) (fun g3 => ?_) (fun g3 => absurd g3 (by decide))
    refine y_ic rfl rfl ?_
    refine y_add (z := ((p : Int) + 1)) rfl rfl rfl ?_
    refine y_pI (i := 10) rfl rfl rfl (md170 hM) rfl rfl ?_
    refine y_ret rfl (fun d => rfl) ?_
    have e1 : (if hr τ z p = c then p + 1 else p) = p + 1 := if_pos (by omega)
    have e2 : (if hr τ z p = c then (0 : Int) else 1) = 0 := if_pos (by omega)
    rw [e1, e2] at k
    exact k _ (MP_f (p' := p + 1) (wr' := 0) (o' := o) (ln' := ln) h ⟨rfl, rfl, rfl, rfl, rfl, rfl⟩ rfl rfl h.2.2.2.2.1 h.2.2.2.2.2.1) (MF_u0 (by decide) (MF_u0 (by decide) (MF_rf a V))) rfl
  · refine y_ic rfl rfl ?_
    refine y_go rfl rfl ?_
    refine y_pZ (i := 12) rfl rfl rfl (md170 hM) rfl rfl (by decide) ?_
    refine y_ld (x := .ref 170) rfl rfl (fun d => rfl) ?_
    refine y_in rfl rfl (fun d => rfl) ?_
    refine y_gI (i := 10) (e := (p : Int)) rfl rfl rfl (md170 hM) rfl h.2.1 ?_
    refine y_ld (x := .ref 170) rfl rfl (fun d => rfl) ?_
    refine y_gI (i := 12) (e := 1) rfl rfl rfl (md170 hM) rfl rfl ?_
    refine y_zeq rfl rfl rfl (by decide) (fun g4 => absurd g4 (by decide)) (fun g4 => ?_)
    refine y_ic rfl rfl ?_
    refine y_go rfl rfl ?_
    refine y_add (z := ((p : Int) + 0)) rfl rfl rfl ?_
    refine y_pI (i := 10) rfl rfl rfl (md170 hM) rfl rfl ?_
    refine y_ret rfl (fun d => rfl) ?_
    have e1 : (if hr τ z p = c then p + 1 else p) = p := if_neg (by omega)
    have e2 : (if hr τ z p = c then (0 : Int) else 1) = 1 := if_neg (by omega)
    rw [e1, e2] at k
    exact k _ (MP_f (p' := p) (wr' := 1) (o' := o) (ln' := ln) h ⟨rfl, rfl, rfl, rfl, rfl, rfl⟩ rfl rfl h.2.2.2.2.1 h.2.2.2.2.2.1) (MF_u0 (by decide) (MF_u0 (by decide) (MF_rf a V))) rfl
set_option maxRecDepth 100000 in
set_option maxHeartbeats 4000000 in
theorem ct_must1 (hM : MdS S) {a z p : Nat} {τ : Nat → Int} {o ln : Int} {st : List Int} {g : Nat → Int} {c : Int} (h : MP V a z τ p 1 o ln st g) (k : ∀ V', MP V' a z τ p 1 o ln st g → MF a V V' → V' 176 = V 176 → K u w none S V') : y_R X 2 113 u w [.ref 170, iv c] S V K := by
  refine y_ent (lv' := [(0, .ref 170), (1, iv c)]) (Nat.le_of_ble_eq_true rfl) rfl ?_
  refine y_ld (x := .ref 170) rfl rfl (fun d => rfl) ?_
  refine y_ld (x := .ref 170) rfl rfl (fun d => rfl) ?_
  refine y_gI (i := 12) (e := 1) rfl rfl rfl (md170 hM) rfl h.2.2.2.1 ?_
  refine y_zne rfl rfl rfl (by decide) (fun g1 => ?_) (fun g1 => absurd g1 (by decide))
  refine y_ic rfl rfl ?_
  refine y_go rfl rfl ?_
  refine y_pZ (i := 12) rfl rfl rfl (md170 hM) rfl rfl (by decide) ?_
  refine y_ld (x := .ref 170) rfl rfl (fun d => rfl) ?_
  refine y_in rfl rfl (fun d => rfl) ?_
  refine y_gI (i := 10) (e := (p : Int)) rfl rfl rfl (md170 hM) rfl h.2.1 ?_
  refine y_ld (x := .ref 170) rfl rfl (fun d => rfl) ?_
  refine y_gI (i := 12) (e := 1) rfl rfl rfl (md170 hM) rfl rfl ?_
  refine y_zeq rfl rfl rfl (by decide) (fun g2 => absurd g2 (by decide)) (fun g2 => ?_)
  refine y_ic rfl rfl ?_
  refine y_go rfl rfl ?_
  refine y_add (z := ((p : Int) + 0)) rfl rfl rfl ?_
  refine y_pI (i := 10) rfl rfl rfl (md170 hM) rfl rfl ?_
  refine y_ret rfl (fun d => rfl) ?_
  exact k _ (MP_f (p' := p) (wr' := 1) (o' := o) (ln' := ln) h ⟨rfl, rfl, rfl, rfl, rfl, rfl⟩ rfl rfl h.2.2.2.2.1 h.2.2.2.2.2.1) (MF_u0 (by decide) (MF_u0 (by decide) (MF_rf a V))) rfl
set_option maxRecDepth 100000 in
set_option maxHeartbeats 4000000 in
theorem ct_cellHere (hM : MdS S) {a z p : Nat} {τ : Nat → Int} {o ln : Int} {st : List Int} {g : Nat → Int} (hT : Tp τ a z) (hc : hr τ z p = 116 ∨ hr τ z p = 115 ∨ hr τ z p = 103) (h : MP V a z τ p 0 o ln st g) (hp : p ≤ z ∧ z ≤ 160) (hp2 : p < z) (k1 : ∀ V', 0 ≤ (pT τ z p).1 → MP V' a z τ (pT τ z p).2 0 o ln st g → MF a V V' → V' 176 = V 176 → K u w (some (iv (mcd (pT τ z p).1))) S V') (k2 : ∀ V' x, (pT τ z p).1 < 0 → MP V' a z τ (pT τ z p).2 1 o ln st g → MF a V V' → V' 176 = V 176 → (0 ≤ x ∧ x ≤ 200) → K u w (some (iv x)) S V') : y_R X 2 116 u w [.ref 170] S V K := by
  refine y_ent (lv' := [(0, .ref 170)]) (Nat.le_of_ble_eq_true rfl) rfl ?_
  refine y_ld (x := .ref 170) rfl rfl (fun d => rfl) ?_
  refine y_cV (as := [.ref 170]) rfl rfl rfl rfl rfl (md170 hM) ⟨rfl, (Nat.le_of_ble_eq_true rfl), (Nat.le_of_ble_eq_true rfl)⟩ (by decide) (ct_here hM h (by omega) ?_)
  have hq1 := hr_rg hT (p)
  refine y_nv ?_
  refine y_st (lv' := [(1, iv (hr τ z p)), (0, .ref 170)]) rfl rfl (fun d => rfl) ?_
  refine y_ld (x := .ref 170) rfl rfl (fun d => rfl) ?_
  refine y_in rfl rfl (fun d => rfl) ?_
  refine y_gI (i := 10) (e := (p : Int)) rfl rfl rfl (md170 hM) rfl h.2.1 ?_
  refine y_ic rfl rfl ?_
  refine y_add (z := ((p : Int) + 1)) rfl rfl rfl ?_
  refine y_pI (i := 10) rfl rfl rfl (md170 hM) rfl rfl ?_
  refine y_ld (x := .ref 170) rfl rfl (fun d => rfl) ?_
  refine y_ld (x := .ref 170) rfl rfl (fun d => rfl) ?_
  refine y_cV (as := [.ref 170]) rfl rfl rfl rfl rfl (md170 hM) ⟨rfl, (Nat.le_of_ble_eq_true rfl), (Nat.le_of_ble_eq_true rfl)⟩ (by decide) (ct_here hM (MP_f (p' := p + 1) (wr' := 0) (o' := o) (ln' := ln) h ⟨rfl, rfl, rfl, rfl, rfl, rfl⟩ rfl h.2.2.2.1 h.2.2.2.2.1 h.2.2.2.2.2.1) (by omega) ?_)
  have hq17 := hr_rg hT (p + 1)
  refine y_nv ?_
  refine y_bi rfl rfl (by decide) ?_
  refine y_bi rfl rfl (by decide) ?_
  refine y_cS (as := [iv (hr τ z (p + 1)), iv 48, iv 51]) rfl (by decide) rfl rfl rfl rfl ⟨(Nat.le_of_ble_eq_true rfl), (Nat.le_of_ble_eq_true rfl)⟩ (by decide) (ct_in (by omega) ?_)
  refine y_nv ?_
  refine y_bne rfl rfl rfl (fun g1 => ?_) (fun g1 => ?_)
  · refine y_ic rfl rfl ?_
    refine y_pZ (i := 12) rfl rfl rfl (md170 hM) rfl rfl (by decide) ?_
    refine y_ld (x := .ref 170) rfl rfl (fun d => rfl) ?_
    refine y_gI (i := 12) (e := 0) rfl rfl rfl (md170 hM) rfl rfl ?_
    refine y_zeq rfl rfl rfl (by decide) (fun g2 => ?_) (fun g2 => absurd g2 (by decide))
    refine y_ld (x := .ref 170) rfl rfl (fun d => rfl) ?_
    refine y_cV (as := [.ref 170]) rfl rfl rfl rfl rfl (md170 hM) ⟨rfl, (Nat.le_of_ble_eq_true rfl), (Nat.le_of_ble_eq_true rfl)⟩ (by decide) (ct_here hM (MP_f (p' := p + 1) (wr' := 0) (o' := o) (ln' := ln) h ⟨rfl, rfl, rfl, rfl, rfl, rfl⟩ rfl rfl h.2.2.2.2.1 h.2.2.2.2.2.1) (by omega) ?_)
    have hq50 := hr_rg hT (p + 1)
    refine y_nv ?_
    refine y_bi rfl rfl (by decide) ?_
    refine y_sub (z := ((hr τ z (p + 1)) - 48)) rfl rfl rfl ?_
    refine y_st (lv' := [(2, iv ((hr τ z (p + 1)) - 48)), (1, iv (hr τ z p)), (0, .ref 170)]) rfl rfl (fun d => rfl) ?_
    refine y_ld (x := .ref 170) rfl rfl (fun d => rfl) ?_
    refine y_in rfl rfl (fun d => rfl) ?_
    refine y_gI (i := 10) (e := ((p : Int) + 1)) rfl rfl rfl (md170 hM) rfl rfl ?_
    refine y_ld (x := .ref 170) rfl rfl (fun d => rfl) ?_
    refine y_gI (i := 12) (e := 0) rfl rfl rfl (md170 hM) rfl rfl ?_
    refine y_zeq rfl rfl rfl (by decide) (fun g3 => ?_) (fun g3 => absurd g3 (by decide))
    refine y_ic rfl rfl ?_
    refine y_add (z := (((p : Int) + 1) + 1)) rfl rfl rfl ?_
    refine y_pI (i := 10) rfl rfl rfl (md170 hM) rfl rfl ?_
    refine y_ld (x := iv (hr τ z p)) rfl rfl (fun d => rfl) ?_
    refine y_bi rfl rfl (by decide) ?_
    refine y_jne rfl rfl rfl (by omega) (fun g4 => ?_) (fun g4 => ?_)
    · refine y_ld (x := iv (hr τ z p)) rfl rfl (fun d => rfl) ?_
      refine y_bi rfl rfl (by decide) ?_
      refine y_jne rfl rfl rfl (by omega) (fun g5 => ?_) (fun g5 => ?_)
      · refine y_si rfl rfl (by decide) ?_
        refine y_ld (x := iv ((hr τ z (p + 1)) - 48)) rfl rfl (fun d => rfl) ?_
        refine y_add (z := (130 + ((hr τ z (p + 1)) - 48))) rfl rfl rfl ?_
        refine y_rI rfl (Or.inl rfl) ?_
        have e := pT_c1 hc (by omega)
        rw [e] at k1
        have e2 : mcd ((if hr τ z p = 116 then 104 else if hr τ z p = 115 then 108 else 112) + (hr τ z (p + 1) - 48)) = 130 + ((hr τ z (p + 1)) - 48) := by
          first
          | (rw [if_pos (by omega)]; unfold mcd; rw [if_neg (by omega), if_pos (by omega)]; omega)
          | (rw [if_neg (by omega), if_pos (by omega)]; unfold mcd; rw [if_neg (by omega), if_neg (by omega), if_pos (by omega)]; omega)
          | (rw [if_neg (by omega), if_neg (by omega)]; unfold mcd; rw [if_neg (by omega), if_neg (by omega), if_neg (by omega)]; omega)
        rw [← e2]
        exact k1 _ (by simp only; split <;> (try split) <;> omega) (MP_f (p' := p + 2) (wr' := 0) (o' := o) (ln' := ln) h ⟨rfl, rfl, rfl, rfl, rfl, rfl⟩ rfl rfl h.2.2.2.2.1 h.2.2.2.2.2.1) (MF_u0 (by decide) (MF_u0 (by decide) (MF_u0 (by decide) (MF_rf a V)))) rfl
      · refine y_bi rfl rfl (by decide) ?_
        refine y_go rfl rfl ?_
        refine y_ld (x := iv ((hr τ z (p + 1)) - 48)) rfl rfl (fun d => rfl) ?_
        refine y_add (z := (120 + ((hr τ z (p + 1)) - 48))) rfl rfl rfl ?_
        refine y_rI rfl (Or.inl rfl) ?_
        have e := pT_c1 hc (by omega)
        rw [e] at k1
        have e2 : mcd ((if hr τ z p = 116 then 104 else if hr τ z p = 115 then 108 else 112) + (hr τ z (p + 1) - 48)) = 120 + ((hr τ z (p + 1)) - 48) := by
          first
          | (rw [if_pos (by omega)]; unfold mcd; rw [if_neg (by omega), if_pos (by omega)]; omega)
          | (rw [if_neg (by omega), if_pos (by omega)]; unfold mcd; rw [if_neg (by omega), if_neg (by omega), if_pos (by omega)]; omega)
          | (rw [if_neg (by omega), if_neg (by omega)]; unfold mcd; rw [if_neg (by omega), if_neg (by omega), if_neg (by omega)]; omega)
        rw [← e2]
        exact k1 _ (by simp only; split <;> (try split) <;> omega) (MP_f (p' := p + 2) (wr' := 0) (o' := o) (ln' := ln) h ⟨rfl, rfl, rfl, rfl, rfl, rfl⟩ rfl rfl h.2.2.2.2.1 h.2.2.2.2.2.1) (MF_u0 (by decide) (MF_u0 (by decide) (MF_u0 (by decide) (MF_rf a V)))) rfl
    · refine y_bi rfl rfl (by decide) ?_
      refine y_go rfl rfl ?_
      refine y_ld (x := iv ((hr τ z (p + 1)) - 48)) rfl rfl (fun d => rfl) ?_
      refine y_add (z := (110 + ((hr τ z (p + 1)) - 48))) rfl rfl rfl ?_
      refine y_rI rfl (Or.inl rfl) ?_
      have e := pT_c1 hc (by omega)
      rw [e] at k1
      have e2 : mcd ((if hr τ z p = 116 then 104 else if hr τ z p = 115 then 108 else 112) + (hr τ z (p + 1) - 48)) = 110 + ((hr τ z (p + 1)) - 48) := by
        first
        | (rw [if_pos (by omega)]; unfold mcd; rw [if_neg (by omega), if_pos (by omega)]; omega)
        | (rw [if_neg (by omega), if_pos (by omega)]; unfold mcd; rw [if_neg (by omega), if_neg (by omega), if_pos (by omega)]; omega)
        | (rw [if_neg (by omega), if_neg (by omega)]; unfold mcd; rw [if_neg (by omega), if_neg (by omega), if_neg (by omega)]; omega)
      rw [← e2]
      exact k1 _ (by simp only; split <;> (try split) <;> omega) (MP_f (p' := p + 2) (wr' := 0) (o' := o) (ln' := ln) h ⟨rfl, rfl, rfl, rfl, rfl, rfl⟩ rfl rfl h.2.2.2.2.1 h.2.2.2.2.2.1) (MF_u0 (by decide) (MF_u0 (by decide) (MF_u0 (by decide) (MF_rf a V)))) rfl
  · refine y_ic rfl rfl ?_
    refine y_go rfl rfl ?_
    refine y_pZ (i := 12) rfl rfl rfl (md170 hM) rfl rfl (by decide) ?_
    refine y_ld (x := .ref 170) rfl rfl (fun d => rfl) ?_
    refine y_gI (i := 12) (e := 1) rfl rfl rfl (md170 hM) rfl rfl ?_
    refine y_zeq rfl rfl rfl (by decide) (fun g6 => absurd g6 (by decide)) (fun g6 => ?_)
    refine y_ic rfl rfl ?_
    refine y_go rfl rfl ?_
    refine y_st (lv' := [(2, iv 0), (1, iv (hr τ z p)), (0, .ref 170)]) rfl rfl (fun d => rfl) ?_
    refine y_ld (x := .ref 170) rfl rfl (fun d => rfl) ?_
    refine y_in rfl rfl (fun d => rfl) ?_
    refine y_gI (i := 10) (e := ((p : Int) + 1)) rfl rfl rfl (md170 hM) rfl rfl ?_
    refine y_ld (x := .ref 170) rfl rfl (fun d => rfl) ?_
    refine y_gI (i := 12) (e := 1) rfl rfl rfl (md170 hM) rfl rfl ?_
    refine y_zeq rfl rfl rfl (by decide) (fun g7 => absurd g7 (by decide)) (fun g7 => ?_)
    refine y_ic rfl rfl ?_
    refine y_go rfl rfl ?_
    refine y_add (z := (((p : Int) + 1) + 0)) rfl rfl rfl ?_
    refine y_pI (i := 10) rfl rfl rfl (md170 hM) rfl rfl ?_
    refine y_ld (x := iv (hr τ z p)) rfl rfl (fun d => rfl) ?_
    refine y_bi rfl rfl (by decide) ?_
    refine y_jne rfl rfl rfl (by omega) (fun g8 => ?_) (fun g8 => ?_)
    · refine y_ld (x := iv (hr τ z p)) rfl rfl (fun d => rfl) ?_
      refine y_bi rfl rfl (by decide) ?_
      refine y_jne rfl rfl rfl (by omega) (fun g9 => ?_) (fun g9 => ?_)
      · refine y_si rfl rfl (by decide) ?_
        refine y_ld (x := iv 0) rfl rfl (fun d => rfl) ?_
        refine y_add (z := 130) rfl rfl rfl ?_
        refine y_rI rfl (Or.inl rfl) ?_
        have e := pT_c0 hc (by omega)
        rw [e] at k2
        exact k2 _ _ (show (-1 : Int) < 0 by decide) (MP_f (p' := p + 1) (wr' := 1) (o' := o) (ln' := ln) h ⟨rfl, rfl, rfl, rfl, rfl, rfl⟩ rfl rfl h.2.2.2.2.1 h.2.2.2.2.2.1) (MF_u0 (by decide) (MF_u0 (by decide) (MF_u0 (by decide) (MF_rf a V)))) rfl (by omega)
      · refine y_bi rfl rfl (by decide) ?_
        refine y_go rfl rfl ?_
        refine y_ld (x := iv 0) rfl rfl (fun d => rfl) ?_
        refine y_add (z := 120) rfl rfl rfl ?_
        refine y_rI rfl (Or.inl rfl) ?_
        have e := pT_c0 hc (by omega)
        rw [e] at k2
        exact k2 _ _ (show (-1 : Int) < 0 by decide) (MP_f (p' := p + 1) (wr' := 1) (o' := o) (ln' := ln) h ⟨rfl, rfl, rfl, rfl, rfl, rfl⟩ rfl rfl h.2.2.2.2.1 h.2.2.2.2.2.1) (MF_u0 (by decide) (MF_u0 (by decide) (MF_u0 (by decide) (MF_rf a V)))) rfl (by omega)
    · refine y_bi rfl rfl (by decide) ?_
      refine y_go rfl rfl ?_
      refine y_ld (x := iv 0) rfl rfl (fun d => rfl) ?_
      refine y_add (z := 110) rfl rfl rfl ?_
      refine y_rI rfl (Or.inl rfl) ?_
      have e := pT_c0 hc (by omega)
      rw [e] at k2
      exact k2 _ _ (show (-1 : Int) < 0 by decide) (MP_f (p' := p + 1) (wr' := 1) (o' := o) (ln' := ln) h ⟨rfl, rfl, rfl, rfl, rfl, rfl⟩ rfl rfl h.2.2.2.2.1 h.2.2.2.2.2.1) (MF_u0 (by decide) (MF_u0 (by decide) (MF_u0 (by decide) (MF_rf a V)))) rfl (by omega)
set_option maxRecDepth 100000 in
set_option maxHeartbeats 4000000 in
theorem ct_term (hM : MdS S) {a z p : Nat} {τ : Nat → Int} {o ln : Int} {st : List Int} {g : Nat → Int} (hT : Tp τ a z) (h : MP V a z τ p 0 o ln st g) (hp : p ≤ z ∧ z ≤ 160) (k1 : ∀ V', 0 ≤ (pT τ z p).1 → MP V' a z τ (pT τ z p).2 0 o ln st g → MF a V V' → V' 176 = V 176 → K u w (some (iv (mcd (pT τ z p).1))) S V') (k2 : ∀ V' x, (pT τ z p).1 < 0 → MP V' a z τ (pT τ z p).2 1 o ln st g → MF a V V' → V' 176 = V 176 → (0 ≤ x ∧ x ≤ 200) → K u w (some (iv x)) S V') : y_R X 3 117 u w [.ref 170] S V K := by
  refine y_ent (lv' := [(0, .ref 170)]) (Nat.le_of_ble_eq_true rfl) rfl ?_
  have z0 : hr τ z p ≠ -1 → p < z := hr_le
  have z1 : hr τ z (p + 1) ≠ -1 → p + 1 < z := hr_le
  refine y_ld (x := .ref 170) rfl rfl (fun d => rfl) ?_
  refine y_gI (i := 12) (e := 0) rfl rfl rfl (md170 hM) rfl h.2.2.2.1 ?_
  refine y_zeq rfl rfl rfl (by decide) (fun g1 => ?_) (fun g1 => absurd g1 (by decide))
  refine y_ld (x := .ref 170) rfl rfl (fun d => rfl) ?_
  refine y_cV (as := [.ref 170]) rfl rfl rfl rfl rfl (md170 hM) ⟨rfl, (Nat.le_of_ble_eq_true rfl), (Nat.le_of_ble_eq_true rfl)⟩ (by decide) (ct_here hM h (by omega) ?_)
  have hq10 := hr_rg hT (p)
  refine y_nv ?_
  refine y_st (lv' := [(1, iv (hr τ z p)), (0, .ref 170)]) rfl rfl (fun d => rfl) ?_
  refine y_ld (x := iv (hr τ z p)) rfl rfl (fun d => rfl) ?_
  refine y_bi rfl rfl (by decide) ?_
  refine y_jeq rfl rfl rfl (by omega) (fun g2 => ?_) (fun g2 => ?_)
  · refine y_ld (x := .ref 170) rfl rfl (fun d => rfl) ?_
    refine y_cV (as := [.ref 170]) rfl rfl rfl rfl rfl (md170 hM) ⟨rfl, (Nat.le_of_ble_eq_true rfl), (Nat.le_of_ble_eq_true rfl)⟩ (by decide) (ct_cellHere hM hT (by omega) h (by omega) (hr_le (τ := τ) (z := z) (p := p) (by omega)) (fun V1 q1 q2 q3 q4 => ?_) (fun V1 x q1 q2 q3 q4 q5 => ?_))
    · refine y_nv ?_
      refine y_rI rfl (Or.inl rfl) ?_
      exact k1 V1 q1 q2 q3 q4
    · refine y_nv ?_
      refine y_rI rfl (Or.inl rfl) ?_
      exact k2 V1 x q1 q2 q3 q4 q5
  · refine y_ld (x := iv (hr τ z p)) rfl rfl (fun d => rfl) ?_
    refine y_bi rfl rfl (by decide) ?_
    refine y_jeq rfl rfl rfl (by omega) (fun g3 => ?_) (fun g3 => ?_)
    · refine y_ld (x := .ref 170) rfl rfl (fun d => rfl) ?_
      refine y_cV (as := [.ref 170]) rfl rfl rfl rfl rfl (md170 hM) ⟨rfl, (Nat.le_of_ble_eq_true rfl), (Nat.le_of_ble_eq_true rfl)⟩ (by decide) (ct_cellHere hM hT (by omega) h (by omega) (hr_le (τ := τ) (z := z) (p := p) (by omega)) (fun V1 q1 q2 q3 q4 => ?_) (fun V1 x q1 q2 q3 q4 q5 => ?_))
      · refine y_nv ?_
        refine y_rI rfl (Or.inl rfl) ?_
        exact k1 V1 q1 q2 q3 q4
      · refine y_nv ?_
        refine y_rI rfl (Or.inl rfl) ?_
        exact k2 V1 x q1 q2 q3 q4 q5
    · refine y_ld (x := iv (hr τ z p)) rfl rfl (fun d => rfl) ?_
      refine y_bi rfl rfl (by decide) ?_
      refine y_jne rfl rfl rfl (by omega) (fun g4 => ?_) (fun g4 => ?_)
      · refine y_ld (x := iv (hr τ z p)) rfl rfl (fun d => rfl) ?_
        refine y_bi rfl rfl (by decide) ?_
        refine y_jeq rfl rfl rfl (by omega) (fun g5 => ?_) (fun g5 => ?_)
        · refine y_ld (x := .ref 170) rfl rfl (fun d => rfl) ?_
          refine y_in rfl rfl (fun d => rfl) ?_
          refine y_gI (i := 10) (e := (p : Int)) rfl rfl rfl (md170 hM) rfl h.2.1 ?_
          refine y_ic rfl rfl ?_
          refine y_add (z := ((p : Int) + 1)) rfl rfl rfl ?_
          refine y_pI (i := 10) rfl rfl rfl (md170 hM) rfl rfl ?_
          refine y_ld (x := iv (hr τ z p)) rfl rfl (fun d => rfl) ?_
          refine y_bi rfl rfl (by decide) ?_
          refine y_jne rfl rfl rfl (by omega) (fun g6 => ?_) (fun g6 => ?_)
          · refine y_ld (x := iv (hr τ z p)) rfl rfl (fun d => rfl) ?_
            refine y_bi rfl rfl (by decide) ?_
            refine y_jne rfl rfl rfl (by omega) (fun g7 => ?_) (fun g7 => ?_)
            · refine y_bi rfl rfl (by decide) ?_
              refine y_rI rfl (Or.inl rfl) ?_
              rw [pT_n (by omega)] at k1
              exact k1 _ (show (0 : Int) ≤ 102 by decide) (MP_f (p' := p + 1) (wr' := 0) (o' := o) (ln' := ln) h ⟨rfl, rfl, rfl, rfl, rfl, rfl⟩ rfl h.2.2.2.1 h.2.2.2.2.1 h.2.2.2.2.2.1) (MF_u0 (by decide) (MF_rf a V)) rfl
            · refine y_bi rfl rfl (by decide) ?_
              refine y_go rfl rfl ?_
              refine y_rI rfl (Or.inl rfl) ?_
              rw [pT_h (by omega)] at k1
              exact k1 _ (show (0 : Int) ≤ 101 by decide) (MP_f (p' := p + 1) (wr' := 0) (o' := o) (ln' := ln) h ⟨rfl, rfl, rfl, rfl, rfl, rfl⟩ rfl h.2.2.2.1 h.2.2.2.2.1 h.2.2.2.2.2.1) (MF_u0 (by decide) (MF_rf a V)) rfl
          · refine y_bi rfl rfl (by decide) ?_
            refine y_go rfl rfl ?_
            refine y_rI rfl (Or.inl rfl) ?_
            rw [pT_k (by omega)] at k1
            exact k1 _ (show (0 : Int) ≤ 100 by decide) (MP_f (p' := p + 1) (wr' := 0) (o' := o) (ln' := ln) h ⟨rfl, rfl, rfl, rfl, rfl, rfl⟩ rfl h.2.2.2.1 h.2.2.2.2.1 h.2.2.2.2.2.1) (MF_u0 (by decide) (MF_rf a V)) rfl
        · refine y_ld (x := iv (hr τ z p)) rfl rfl (fun d => rfl) ?_
          refine y_bi rfl rfl (by decide) ?_
          refine y_jeq rfl rfl rfl (by omega) (fun g8 => ?_) (fun g8 => ?_)
          · refine y_ld (x := .ref 170) rfl rfl (fun d => rfl) ?_
            refine y_in rfl rfl (fun d => rfl) ?_
            refine y_gI (i := 10) (e := (p : Int)) rfl rfl rfl (md170 hM) rfl h.2.1 ?_
            refine y_ic rfl rfl ?_
            refine y_add (z := ((p : Int) + 1)) rfl rfl rfl ?_
            refine y_pI (i := 10) rfl rfl rfl (md170 hM) rfl rfl ?_
            refine y_ld (x := iv (hr τ z p)) rfl rfl (fun d => rfl) ?_
            refine y_bi rfl rfl (by decide) ?_
            refine y_jne rfl rfl rfl (by omega) (fun g9 => ?_) (fun g9 => ?_)
            · refine y_ld (x := iv (hr τ z p)) rfl rfl (fun d => rfl) ?_
              refine y_bi rfl rfl (by decide) ?_
              refine y_jne rfl rfl rfl (by omega) (fun g10 => ?_) (fun g10 => ?_)
              · refine y_bi rfl rfl (by decide) ?_
                refine y_rI rfl (Or.inl rfl) ?_
                rw [pT_n (by omega)] at k1
                exact k1 _ (show (0 : Int) ≤ 102 by decide) (MP_f (p' := p + 1) (wr' := 0) (o' := o) (ln' := ln) h ⟨rfl, rfl, rfl, rfl, rfl, rfl⟩ rfl h.2.2.2.1 h.2.2.2.2.1 h.2.2.2.2.2.1) (MF_u0 (by decide) (MF_rf a V)) rfl
              · refine y_bi rfl rfl (by decide) ?_
                refine y_go rfl rfl ?_
                refine y_rI rfl (Or.inl rfl) ?_
                rw [pT_h (by omega)] at k1
                exact k1 _ (show (0 : Int) ≤ 101 by decide) (MP_f (p' := p + 1) (wr' := 0) (o' := o) (ln' := ln) h ⟨rfl, rfl, rfl, rfl, rfl, rfl⟩ rfl h.2.2.2.1 h.2.2.2.2.1 h.2.2.2.2.2.1) (MF_u0 (by decide) (MF_rf a V)) rfl
            · refine y_bi rfl rfl (by decide) ?_
              refine y_go rfl rfl ?_
              refine y_rI rfl (Or.inl rfl) ?_
              rw [pT_k (by omega)] at k1
              exact k1 _ (show (0 : Int) ≤ 100 by decide) (MP_f (p' := p + 1) (wr' := 0) (o' := o) (ln' := ln) h ⟨rfl, rfl, rfl, rfl, rfl, rfl⟩ rfl h.2.2.2.1 h.2.2.2.2.1 h.2.2.2.2.2.1) (MF_u0 (by decide) (MF_rf a V)) rfl
          · refine y_ld (x := iv (hr τ z p)) rfl rfl (fun d => rfl) ?_
            refine y_bi rfl rfl (by decide) ?_
            refine y_jne rfl rfl rfl (by omega) (fun g11 => ?_) (fun g11 => ?_)
            · refine y_ld (x := .ref 170) rfl rfl (fun d => rfl) ?_
              refine y_ld (x := iv (hr τ z p)) rfl rfl (fun d => rfl) ?_
              refine y_bi rfl rfl (by decide) ?_
              refine y_bi rfl rfl (by decide) ?_
              refine y_cS (as := [iv (hr τ z p), iv 48, iv 57]) rfl (by decide) rfl rfl rfl rfl ⟨(Nat.le_of_ble_eq_true rfl), (Nat.le_of_ble_eq_true rfl)⟩ (by decide) (ct_in (by omega) ?_)
              refine y_nv ?_
              refine y_bne rfl rfl rfl (fun g12 => ?_) (fun g12 => ?_)
              · refine y_ic rfl rfl ?_
                refine y_pZ (i := 12) rfl rfl rfl (md170 hM) rfl rfl (by decide) ?_
                refine y_ic rfl rfl ?_
                refine y_st (lv' := [(2, iv 0), (1, iv (hr τ z p)), (0, .ref 170)]) rfl rfl (fun d => rfl) ?_
                refine y_ic rfl rfl ?_
                refine y_st (lv' := [(3, iv 0), (2, iv 0), (1, iv (hr τ z p)), (0, .ref 170)]) rfl rfl (fun d => rfl) ?_
                refine y_ld (x := iv 0) rfl rfl (fun d => rfl) ?_
                refine y_ic rfl rfl ?_
                refine y_jge rfl rfl rfl (by decide) (fun g13 => absurd g13 (by decide)) (fun g13 => ?_)
                refine y_ld (x := .ref 170) rfl rfl (fun d => rfl) ?_
                refine y_gI (i := 12) (e := 0) rfl rfl rfl (md170 hM) rfl rfl ?_
                refine y_zne rfl rfl rfl (by decide) (fun g14 => absurd g14 (by decide)) (fun g14 => ?_)
                refine y_ld (x := .ref 170) rfl rfl (fun d => rfl) ?_
                refine y_cV (as := [.ref 170]) rfl rfl rfl rfl rfl (md170 hM) ⟨rfl, (Nat.le_of_ble_eq_true rfl), (Nat.le_of_ble_eq_true rfl)⟩ (by decide) (ct_here hM (MP_f (p' := p) (wr' := 0) (o' := o) (ln' := ln) h ⟨rfl, rfl, rfl, rfl, rfl, rfl⟩ h.2.1 rfl h.2.2.2.2.1 h.2.2.2.2.2.1) (by omega) ?_)
                have hq127 := hr_rg hT (p)
                refine y_nv ?_
                refine y_bi rfl rfl (by decide) ?_
                refine y_bi rfl rfl (by decide) ?_
                refine y_cS (as := [iv (hr τ z p), iv 48, iv 57]) rfl (by decide) rfl rfl rfl rfl ⟨(Nat.le_of_ble_eq_true rfl), (Nat.le_of_ble_eq_true rfl)⟩ (by decide) (ct_in (by omega) ?_)
                refine y_nv ?_
                refine y_beq rfl rfl rfl (fun g15 => ?_) (fun g15 => ?_)
                · refine y_ld (x := iv 0) rfl rfl (fun d => rfl) ?_
                  refine y_rI rfl (Or.inl rfl) ?_
                  exfalso
                  omega
                · refine y_ld (x := iv 0) rfl rfl (fun d => rfl) ?_
                  refine y_zeq rfl rfl rfl (by decide) (fun g16 => ?_) (fun g16 => absurd g16 (by decide))
                  refine y_bi rfl rfl (by decide) ?_
                  refine y_ld (x := iv 0) rfl rfl (fun d => rfl) ?_
                  refine y_mul (z := 0) rfl rfl rfl ?_
                  refine y_ld (x := .ref 170) rfl rfl (fun d => rfl) ?_
                  refine y_cV (as := [.ref 170]) rfl rfl rfl rfl rfl (md170 hM) ⟨rfl, (Nat.le_of_ble_eq_true rfl), (Nat.le_of_ble_eq_true rfl)⟩ (by decide) (ct_here hM (MP_f (p' := p) (wr' := 0) (o' := o) (ln' := ln) h ⟨rfl, rfl, rfl, rfl, rfl, rfl⟩ h.2.1 rfl h.2.2.2.2.1 h.2.2.2.2.2.1) (by omega) ?_)
                  have hq153 := hr_rg hT (p)
                  refine y_nv ?_
                  refine y_add (z := (0 + (hr τ z p))) rfl rfl rfl ?_
                  refine y_bi rfl rfl (by decide) ?_
                  refine y_sub (z := ((0 + (hr τ z p)) - 48)) rfl rfl rfl ?_
                  refine y_st (lv' := [(2, iv ((0 + (hr τ z p)) - 48)), (3, iv 0), (1, iv (hr τ z p)), (0, .ref 170)]) rfl rfl (fun d => rfl) ?_
                  refine y_ld (x := .ref 170) rfl rfl (fun d => rfl) ?_
                  refine y_in rfl rfl (fun d => rfl) ?_
                  refine y_gI (i := 10) (e := (p : Int)) rfl rfl rfl (md170 hM) rfl h.2.1 ?_
                  refine y_ic rfl rfl ?_
                  refine y_add (z := ((p : Int) + 1)) rfl rfl rfl ?_
                  refine y_pI (i := 10) rfl rfl rfl (md170 hM) rfl rfl ?_
                  refine y_inc (z := 1) (lv' := [(3, iv 1), (2, iv ((0 + (hr τ z p)) - 48)), (1, iv (hr τ z p)), (0, .ref 170)]) rfl rfl rfl rfl rfl ?_
                  refine y_go rfl rfl ?_
                  refine y_ld (x := iv 1) rfl rfl (fun d => rfl) ?_
                  refine y_ic rfl rfl ?_
                  refine y_jge rfl rfl rfl (by decide) (fun g17 => absurd g17 (by decide)) (fun g17 => ?_)
                  refine y_ld (x := .ref 170) rfl rfl (fun d => rfl) ?_
                  refine y_gI (i := 12) (e := 0) rfl rfl rfl (md170 hM) rfl rfl ?_
                  refine y_zne rfl rfl rfl (by decide) (fun g18 => absurd g18 (by decide)) (fun g18 => ?_)
                  refine y_ld (x := .ref 170) rfl rfl (fun d => rfl) ?_
                  refine y_cV (as := [.ref 170]) rfl rfl rfl rfl rfl (md170 hM) ⟨rfl, (Nat.le_of_ble_eq_true rfl), (Nat.le_of_ble_eq_true rfl)⟩ (by decide) (ct_here hM (MP_f (p' := p + 1) (wr' := 0) (o' := o) (ln' := ln) h ⟨rfl, rfl, rfl, rfl, rfl, rfl⟩ rfl rfl h.2.2.2.2.1 h.2.2.2.2.2.1) (by omega) ?_)
                  have hq127 := hr_rg hT (p + 1)
                  refine y_nv ?_
                  refine y_bi rfl rfl (by decide) ?_
                  refine y_bi rfl rfl (by decide) ?_
                  refine y_cS (as := [iv (hr τ z (p + 1)), iv 48, iv 57]) rfl (by decide) rfl rfl rfl rfl ⟨(Nat.le_of_ble_eq_true rfl), (Nat.le_of_ble_eq_true rfl)⟩ (by decide) (ct_in (by omega) ?_)
                  refine y_nv ?_
                  refine y_beq rfl rfl rfl (fun g19 => ?_) (fun g19 => ?_)
                  · refine y_ld (x := iv ((0 + (hr τ z p)) - 48)) rfl rfl (fun d => rfl) ?_
                    refine y_rI rfl (Or.inl rfl) ?_
                    by_cases h0 : hr τ z p = 48
                    · rw [pT_0 (by omega)] at k1
                      have e3 : (0 + (hr τ z p)) - 48 = mcd 0 := by
                        unfold mcd
                        rw [if_pos (by omega)]
                        omega
                      rw [e3]
                      exact k1 _ (by simp only; omega) (MP_f (p' := p + 1) (wr' := 0) (o' := o) (ln' := ln) h ⟨rfl, rfl, rfl, rfl, rfl, rfl⟩ rfl rfl h.2.2.2.2.1 h.2.2.2.2.2.1) (MF_u0 (by decide) (MF_u0 (by decide) (MF_rf a V))) rfl
                    · rw [pT_1 (by omega) (by omega)] at k1
                      have e3 : (0 + (hr τ z p)) - 48 = mcd (hr τ z p - 48) := by
                        unfold mcd
                        rw [if_pos (by omega)]
                        omega
                      rw [e3]
                      exact k1 _ (by simp only; omega) (MP_f (p' := p + 1) (wr' := 0) (o' := o) (ln' := ln) h ⟨rfl, rfl, rfl, rfl, rfl, rfl⟩ rfl rfl h.2.2.2.2.1 h.2.2.2.2.2.1) (MF_u0 (by decide) (MF_u0 (by decide) (MF_rf a V))) rfl
                  · refine y_ld (x := iv 1) rfl rfl (fun d => rfl) ?_
                    refine y_zeq rfl rfl rfl (by decide) (fun g20 => absurd g20 (by decide)) (fun g20 => ?_)
                    refine y_ld (x := iv ((0 + (hr τ z p)) - 48)) rfl rfl (fun d => rfl) ?_
                    refine y_zle rfl rfl rfl (by omega) (fun g21 => ?_) (fun g21 => ?_)
                    · refine y_ld (x := iv ((0 + (hr τ z p)) - 48)) rfl rfl (fun d => rfl) ?_
                      refine y_rI rfl (Or.inl rfl) ?_
                      by_cases h0 : hr τ z p = 48
                      · rw [pT_0 (by omega)] at k1
                        have e3 : (0 + (hr τ z p)) - 48 = mcd 0 := by
                          unfold mcd
                          rw [if_pos (by omega)]
                          omega
                        rw [e3]
                        exact k1 _ (by simp only; omega) (MP_f (p' := p + 1) (wr' := 0) (o' := o) (ln' := ln) h ⟨rfl, rfl, rfl, rfl, rfl, rfl⟩ rfl rfl h.2.2.2.2.1 h.2.2.2.2.2.1) (MF_u0 (by decide) (MF_u0 (by decide) (MF_rf a V))) rfl
                      · rw [pT_1 (by omega) (by omega)] at k1
                        have e3 : (0 + (hr τ z p)) - 48 = mcd (hr τ z p - 48) := by
                          unfold mcd
                          rw [if_pos (by omega)]
                          omega
                        rw [e3]
                        exact k1 _ (by simp only; omega) (MP_f (p' := p + 1) (wr' := 0) (o' := o) (ln' := ln) h ⟨rfl, rfl, rfl, rfl, rfl, rfl⟩ rfl rfl h.2.2.2.2.1 h.2.2.2.2.2.1) (MF_u0 (by decide) (MF_u0 (by decide) (MF_rf a V))) rfl
                    · refine y_bi rfl rfl (by decide) ?_
                      refine y_ld (x := iv ((0 + (hr τ z p)) - 48)) rfl rfl (fun d => rfl) ?_
                      refine y_mul (z := (10 * ((0 + (hr τ z p)) - 48))) rfl rfl rfl ?_
                      refine y_ld (x := .ref 170) rfl rfl (fun d => rfl) ?_
                      refine y_cV (as := [.ref 170]) rfl rfl rfl rfl rfl (md170 hM) ⟨rfl, (Nat.le_of_ble_eq_true rfl), (Nat.le_of_ble_eq_true rfl)⟩ (by decide) (ct_here hM (MP_f (p' := p + 1) (wr' := 0) (o' := o) (ln' := ln) h ⟨rfl, rfl, rfl, rfl, rfl, rfl⟩ rfl rfl h.2.2.2.2.1 h.2.2.2.2.2.1) (by omega) ?_)
                      have hq153 := hr_rg hT (p + 1)
                      refine y_nv ?_
                      refine y_add (z := ((10 * ((0 + (hr τ z p)) - 48)) + (hr τ z (p + 1)))) rfl rfl rfl ?_
                      refine y_bi rfl rfl (by decide) ?_
                      refine y_sub (z := (((10 * ((0 + (hr τ z p)) - 48)) + (hr τ z (p + 1))) - 48)) rfl rfl rfl ?_
                      refine y_st (lv' := [(2, iv (((10 * ((0 + (hr τ z p)) - 48)) + (hr τ z (p + 1))) - 48)), (3, iv 1), (1, iv (hr τ z p)), (0, .ref 170)]) rfl rfl (fun d => rfl) ?_
                      refine y_ld (x := .ref 170) rfl rfl (fun d => rfl) ?_
                      refine y_in rfl rfl (fun d => rfl) ?_
                      refine y_gI (i := 10) (e := ((p : Int) + 1)) rfl rfl rfl (md170 hM) rfl rfl ?_
                      refine y_ic rfl rfl ?_
                      refine y_add (z := (((p : Int) + 1) + 1)) rfl rfl rfl ?_
                      refine y_pI (i := 10) rfl rfl rfl (md170 hM) rfl rfl ?_
                      refine y_inc (z := 2) (lv' := [(3, iv 2), (2, iv (((10 * ((0 + (hr τ z p)) - 48)) + (hr τ z (p + 1))) - 48)), (1, iv (hr τ z p)), (0, .ref 170)]) rfl rfl rfl rfl rfl ?_
                      refine y_go rfl rfl ?_
                      refine y_ld (x := iv 2) rfl rfl (fun d => rfl) ?_
                      refine y_ic rfl rfl ?_
                      refine y_jge rfl rfl rfl (by decide) (fun g22 => ?_) (fun g22 => absurd g22 (by decide))
                      refine y_ld (x := iv (((10 * ((0 + (hr τ z p)) - 48)) + (hr τ z (p + 1))) - 48)) rfl rfl (fun d => rfl) ?_
                      refine y_rI rfl (Or.inl rfl) ?_
                      rw [pT_2 (by omega) (by omega)] at k1
                      have e3 : ((10 * ((0 + (hr τ z p)) - 48)) + (hr τ z (p + 1))) - 48 = mcd ((hr τ z p - 48) * 10 + (hr τ z (p + 1) - 48)) := by
                        unfold mcd
                        rw [if_pos (by omega)]
                        omega
                      rw [e3]
                      exact k1 _ (by simp only; omega) (MP_f (p' := p + 2) (wr' := 0) (o' := o) (ln' := ln) h ⟨rfl, rfl, rfl, rfl, rfl, rfl⟩ rfl rfl h.2.2.2.2.1 h.2.2.2.2.2.1) (MF_u0 (by decide) (MF_u0 (by decide) (MF_u0 (by decide) (MF_rf a V)))) rfl
              · refine y_ic rfl rfl ?_
                refine y_go rfl rfl ?_
                refine y_pZ (i := 12) rfl rfl rfl (md170 hM) rfl rfl (by decide) ?_
                refine y_ic rfl rfl ?_
                refine y_st (lv' := [(2, iv 0), (1, iv (hr τ z p)), (0, .ref 170)]) rfl rfl (fun d => rfl) ?_
                refine y_ic rfl rfl ?_
                refine y_st (lv' := [(3, iv 0), (2, iv 0), (1, iv (hr τ z p)), (0, .ref 170)]) rfl rfl (fun d => rfl) ?_
                refine y_ld (x := iv 0) rfl rfl (fun d => rfl) ?_
                refine y_ic rfl rfl ?_
                refine y_jge rfl rfl rfl (by decide) (fun g23 => absurd g23 (by decide)) (fun g23 => ?_)
                refine y_ld (x := .ref 170) rfl rfl (fun d => rfl) ?_
                refine y_gI (i := 12) (e := 1) rfl rfl rfl (md170 hM) rfl rfl ?_
                refine y_zne rfl rfl rfl (by decide) (fun g24 => ?_) (fun g24 => absurd g24 (by decide))
                refine y_ld (x := iv 0) rfl rfl (fun d => rfl) ?_
                refine y_rI rfl (Or.inl rfl) ?_
                rw [pT_x (by omega)] at k2
                exact k2 _ _ (show (-1 : Int) < 0 by decide) (MP_f (p' := p) (wr' := 1) (o' := o) (ln' := ln) h ⟨rfl, rfl, rfl, rfl, rfl, rfl⟩ h.2.1 rfl h.2.2.2.2.1 h.2.2.2.2.2.1) (MF_u0 (by decide) (MF_rf a V)) rfl (by decide)
            · refine y_ld (x := .ref 170) rfl rfl (fun d => rfl) ?_
              refine y_in rfl rfl (fun d => rfl) ?_
              refine y_gI (i := 10) (e := (p : Int)) rfl rfl rfl (md170 hM) rfl h.2.1 ?_
              refine y_ic rfl rfl ?_
              refine y_add (z := ((p : Int) + 1)) rfl rfl rfl ?_
              refine y_pI (i := 10) rfl rfl rfl (md170 hM) rfl rfl ?_
              refine y_ld (x := iv (hr τ z p)) rfl rfl (fun d => rfl) ?_
              refine y_bi rfl rfl (by decide) ?_
              refine y_jne rfl rfl rfl (by omega) (fun g25 => ?_) (fun g25 => ?_)
              · refine y_ld (x := iv (hr τ z p)) rfl rfl (fun d => rfl) ?_
                refine y_bi rfl rfl (by decide) ?_
                refine y_jne rfl rfl rfl (by omega) (fun g26 => ?_) (fun g26 => ?_)
                · refine y_bi rfl rfl (by decide) ?_
                  refine y_rI rfl (Or.inl rfl) ?_
                  rw [pT_n (by omega)] at k1
                  exact k1 _ (show (0 : Int) ≤ 102 by decide) (MP_f (p' := p + 1) (wr' := 0) (o' := o) (ln' := ln) h ⟨rfl, rfl, rfl, rfl, rfl, rfl⟩ rfl h.2.2.2.1 h.2.2.2.2.1 h.2.2.2.2.2.1) (MF_u0 (by decide) (MF_rf a V)) rfl
                · refine y_bi rfl rfl (by decide) ?_
                  refine y_go rfl rfl ?_
                  refine y_rI rfl (Or.inl rfl) ?_
                  rw [pT_h (by omega)] at k1
                  exact k1 _ (show (0 : Int) ≤ 101 by decide) (MP_f (p' := p + 1) (wr' := 0) (o' := o) (ln' := ln) h ⟨rfl, rfl, rfl, rfl, rfl, rfl⟩ rfl h.2.2.2.1 h.2.2.2.2.1 h.2.2.2.2.2.1) (MF_u0 (by decide) (MF_rf a V)) rfl
              · refine y_bi rfl rfl (by decide) ?_
                refine y_go rfl rfl ?_
                refine y_rI rfl (Or.inl rfl) ?_
                rw [pT_k (by omega)] at k1
                exact k1 _ (show (0 : Int) ≤ 100 by decide) (MP_f (p' := p + 1) (wr' := 0) (o' := o) (ln' := ln) h ⟨rfl, rfl, rfl, rfl, rfl, rfl⟩ rfl h.2.2.2.1 h.2.2.2.2.1 h.2.2.2.2.2.1) (MF_u0 (by decide) (MF_rf a V)) rfl
      · refine y_ld (x := .ref 170) rfl rfl (fun d => rfl) ?_
        refine y_cV (as := [.ref 170]) rfl rfl rfl rfl rfl (md170 hM) ⟨rfl, (Nat.le_of_ble_eq_true rfl), (Nat.le_of_ble_eq_true rfl)⟩ (by decide) (ct_cellHere hM hT (by omega) h (by omega) (hr_le (τ := τ) (z := z) (p := p) (by omega)) (fun V1 q1 q2 q3 q4 => ?_) (fun V1 x q1 q2 q3 q4 q5 => ?_))
        · refine y_nv ?_
          refine y_rI rfl (Or.inl rfl) ?_
          exact k1 V1 q1 q2 q3 q4
        · refine y_nv ?_
          refine y_rI rfl (Or.inl rfl) ?_
          exact k2 V1 x q1 q2 q3 q4 q5
set_option maxRecDepth 100000 in
set_option maxHeartbeats 4000000 in
theorem ct_term1 (hM : MdS S) {a z p : Nat} {τ : Nat → Int} {o ln : Int} {st : List Int} {g : Nat → Int} (h : MP V a z τ p 1 o ln st g) (k : K u w (some (iv 0)) S V) : y_R X 3 117 u w [.ref 170] S V K := by
  refine y_ent (lv' := [(0, .ref 170)]) (Nat.le_of_ble_eq_true rfl) rfl ?_
  refine y_ld (x := .ref 170) rfl rfl (fun d => rfl) ?_
  refine y_gI (i := 12) (e := 1) rfl rfl rfl (md170 hM) rfl h.2.2.2.1 ?_
  refine y_zeq rfl rfl rfl (by decide) (fun g1 => absurd g1 (by decide)) (fun g1 => ?_)
  refine y_ic rfl rfl ?_
  refine y_rI rfl (Or.inl rfl) ?_
  exact k
end
