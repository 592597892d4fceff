section
variable {X : Nat → List Int32} {u w : Nat} {S : m_H} {V : v_V} {K : v_K}
theorem tcd_le {t : Int} (h : tcd t) : t ≤ 115 := by unfold tcd at h; omega
theorem ct_mustA (hM : MdS S) {a z p : Nat} {τ : Nat → Int} {o ln : Int} {st : List Int} {g : Nat → Int} {c : Int} (hT : Tp τ a z) (hc : -2147483648 ≤ c ∧ c < 2147483648) (h : MP V a z τ p 0 o ln st g) (hp : p ≤ z ∧ z ≤ 160) (k1 : hr τ z p = c → ∀ V', MP V' a z τ (p + 1) 0 o ln st g → MF a V V' → V' 176 = V 176 → K u w none S V') (k2 : ¬ hr τ z p = c → ∀ V', MP V' a z τ p 1 o ln st g → MF a V V' → V' 176 = V 176 → K u w none S V') : y_R X 2 113 u w [.ref 170, iv c] S V K := by
  refine ct_must hM hT hc h hp (fun V' h2 f e => ?_)
  by_cases hcc : hr τ z p = c
  · rw [if_pos hcc, if_pos hcc] at h2
    exact k1 hcc V' h2 f e
  · rw [if_neg hcc, if_neg hcc] at h2
    exact k2 hcc V' h2 f e
set_option maxRecDepth 100000 in
set_option maxHeartbeats 4000000 in
theorem ct_factor1 (hM : MdS S) {a z p : Nat} {τ : Nat → Int} {o ln : Int} {st : List Int} {g : Nat → Int} (h : MP V a z τ p 1 o ln st g) (k : K u w none S V) : y_R X 1 118 u w [.ref 170] S V K := by
  refine y_ent (lv' := [(0, .ref 170)]) (Nat.le_of_ble_eq_true rfl) rfl ?_
  refine y_ld (x := .ref 170) rfl rfl (fun d => rfl) ?_
  refine y_gI (i := 12) (e := 1) rfl rfl rfl (md170 hM) rfl h.2.2.2.1 ?_
  refine y_zeq rfl rfl rfl (by decide) (fun g1 => absurd g1 (by decide)) (fun g1 => ?_)
  refine y_ret rfl (fun d => rfl) ?_
  exact k
set_option maxRecDepth 100000 in
set_option maxHeartbeats 4000000 in
theorem ct_every1 (hM : MdS S) {a z p : Nat} {τ : Nat → Int} {o ln : Int} {st : List Int} {g : Nat → Int} (h : MP V a z τ p 1 o ln st g) (k : K u w none S V) : y_R X 2 119 u w [.ref 170] S V K := by
  refine y_ent (lv' := [(0, .ref 170)]) (Nat.le_of_ble_eq_true rfl) rfl ?_
  refine y_ld (x := .ref 170) rfl rfl (fun d => rfl) ?_
  refine y_cV (as := [.ref 170]) rfl rfl rfl rfl rfl (md170 hM) ⟨rfl, (Nat.le_of_ble_eq_true rfl), (Nat.le_of_ble_eq_true rfl)⟩ (by decide) (ct_factor1 hM h ?_)
  refine y_n0 ?_
  refine y_ld (x := .ref 170) rfl rfl (fun d => rfl) ?_
  refine y_gI (i := 12) (e := 1) rfl rfl rfl (md170 hM) rfl h.2.2.2.1 ?_
  refine y_zne rfl rfl rfl (by decide) (fun g1 => ?_) (fun g1 => absurd g1 (by decide))
  refine y_ret rfl (fun d => rfl) ?_
  exact k
set_option maxRecDepth 100000 in
set_option maxHeartbeats 4000000 in
theorem ct_some1 (hM : MdS S) {a z p : Nat} {τ : Nat → Int} {o ln : Int} {st : List Int} {g : Nat → Int} (h : MP V a z τ p 1 o ln st g) (k : K u w none S V) : y_R X 3 120 u w [.ref 170] S V K := by
  refine y_ent (lv' := [(0, .ref 170)]) (Nat.le_of_ble_eq_true rfl) rfl ?_
  refine y_ld (x := .ref 170) rfl rfl (fun d => rfl) ?_
  refine y_cV (as := [.ref 170]) rfl rfl rfl rfl rfl (md170 hM) ⟨rfl, (Nat.le_of_ble_eq_true rfl), (Nat.le_of_ble_eq_true rfl)⟩ (by decide) (ct_every1 hM h ?_)
  refine y_n0 ?_
  refine y_ld (x := .ref 170) rfl rfl (fun d => rfl) ?_
  refine y_gI (i := 12) (e := 1) rfl rfl rfl (md170 hM) rfl h.2.2.2.1 ?_
  refine y_zne rfl rfl rfl (by decide) (fun g1 => ?_) (fun g1 => absurd g1 (by decide))
  refine y_ret rfl (fun d => rfl) ?_
  exact k
set_option maxRecDepth 100000 in
set_option maxHeartbeats 4000000 in
theorem st_factor (hM : MdS S) {a z : Nat} {τ : Nat → Int} {ln : Int} {st0 : List Int} {g0 : Nat → Int} (hT : Tp τ a z) (hln : 0 ≤ ln ∧ ln ≤ 8) (hg0 : ∀ c, c < 8 → 0 ≤ g0 c ∧ g0 c ≤ 10) {n : Nat} (hF : qX X S a z τ ln st0 g0 0 118 4 1 n) (hE : qX X S a z τ ln st0 g0 3 120 6 3 n) : qX X S a z τ ln st0 g0 0 118 4 1 (n + 1) := by
  intro V K u w p o D acc ho hp hn hl hD htk h k1 k2
  have hz := hT.2.1
  have hq0 := hr_rg hT p
  obtain ⟨D, rfl⟩ : ∃ q, D = q + 1 := ⟨D - 1, by omega⟩
  refine y_ent (lv' := [(0, .ref 170)]) (Nat.le_of_ble_eq_true rfl) rfl ?_
  refine y_ld (x := .ref 170) rfl rfl (fun d => rfl) ?_
  refine y_gI (i := 12) (e := 0) rfl rfl rfl (md170 hM) rfl h.2.2.2.1 ?_
  refine y_zeq rfl rfl rfl (by decide) (fun g1 => ?_) (fun g1 => absurd g1 (by decide))
  refine y_ld (x := .ref 170) rfl rfl (fun d => rfl) ?_
  refine y_cV (as := [.ref 170]) rfl rfl rfl rfl rfl (md170 hM) ⟨rfl, (Nat.le_of_ble_eq_true rfl), (Nat.le_of_ble_eq_true rfl)⟩ (by omega) (ct_here hM h (by omega) ?_)
  have hq9 := hr_rg hT (p)
  refine y_nv ?_
  refine y_st (lv' := [(1, iv (hr τ z p)), (0, .ref 170)]) rfl rfl (fun d => rfl) ?_
  refine y_ld (x := iv (hr τ z p)) rfl rfl (fun d => rfl) ?_
  refine y_bi rfl rfl (by decide) ?_
  refine y_jeq rfl rfl rfl (by omega) (fun g2 => ?_) (fun g2 => ?_)
  · refine y_ld (x := .ref 170) rfl rfl (fun d => rfl) ?_
    refine y_ld (x := .ref 170) rfl rfl (fun d => rfl) ?_
    refine y_gI (i := 13) (e := (o : Int)) rfl rfl rfl (md170 hM) rfl h.2.2.2.2.1 ?_
    refine y_ic rfl rfl ?_
    refine y_jne rfl rfl rfl (by omega) (fun g3 => ?_) (fun g3 => ?_)
    · refine y_ic rfl rfl ?_
      refine y_pZ (i := 12) rfl rfl rfl (md170 hM) rfl rfl (by decide) ?_
      refine y_ld (x := .ref 170) rfl rfl (fun d => rfl) ?_
      refine y_in rfl rfl (fun d => rfl) ?_
      refine y_gI (i := 13) (e := (o : Int)) rfl rfl rfl (md170 hM) rfl h.2.2.2.2.1 ?_
      refine y_ic rfl rfl ?_
      refine y_add (z := ((o : Int) + 1)) rfl rfl rfl ?_
      refine y_pI (i := 13) rfl rfl rfl (md170 hM) rfl rfl ?_
      refine y_ld (x := .ref 170) rfl rfl (fun d => rfl) ?_
      refine y_in rfl rfl (fun d => rfl) ?_
      refine y_gI (i := 10) (e := (p : Int)) rfl rfl rfl (md170 hM) rfl h.2.1 ?_
      refine y_ld (x := .ref 170) rfl rfl (fun d => rfl) ?_
      refine y_gI (i := 12) (e := 0) rfl rfl rfl (md170 hM) rfl rfl ?_
      refine y_zeq rfl rfl rfl (by decide) (fun g4 => ?_) (fun g4 => absurd g4 (by decide))
      refine y_ic rfl rfl ?_
      refine y_add (z := ((p : Int) + 1)) rfl rfl rfl ?_
      refine y_pI (i := 10) rfl rfl rfl (md170 hM) rfl rfl ?_
      have pl0 := hr_le (τ := τ) (z := z) (p := p) (by omega)
      refine y_ld (x := iv (hr τ z p)) rfl rfl (fun d => rfl) ?_
      refine y_bi rfl rfl (by decide) ?_
      refine y_jne rfl rfl rfl (by omega) (fun g5 => absurd g5 (by omega)) (fun g5 => ?_)
      refine y_ld (x := .ref 170) rfl rfl (fun d => rfl) ?_
      refine y_cV (as := [.ref 170]) rfl rfl rfl rfl rfl (md170 hM) ⟨rfl, (Nat.le_of_ble_eq_true rfl), (Nat.le_of_ble_eq_true rfl)⟩ (by omega) (hF _ _ _ _ (p + 1) (o + 1) D acc (by omega) (by omega) (by omega) (by omega) (by omega) htk (MP_f (p' := (p + 1)) (wr' := 0) (o' := ((o + 1 : Nat) : Int)) (ln' := ln) h ⟨rfl, rfl, rfl, rfl, rfl, rfl⟩ rfl rfl rfl h.2.2.2.2.2.1) (fun l1 r1 V1 x1 h1 f1 e1 => ?_) (fun r2 V2 s2 g_2 x2 h2 f2 e2 => ?_))
      · have kk1 := pX_ok _ _ _ _ _ _ _ (by decide) (by omega) x1
        have mm1 := (kk1.2.2 _ rfl)
        have tt1 := pX_tk _ _ _ _ _ _ _ (by decide) (by omega) htk x1
        refine y_n0 ?_
        refine y_ld (x := .ref 170) rfl rfl (fun d => rfl) ?_
        refine y_ic rfl rfl ?_
        refine y_cV (as := [.ref 170, iv (-1)]) rfl rfl rfl rfl rfl (md170 hM) ⟨rfl, (Nat.le_of_ble_eq_true rfl), (Nat.le_of_ble_eq_true rfl)⟩ (by omega) (ct_emits hM h1 hT.1 (by simp [encT_len]; omega) (fun V3 h3 f3 e3 => ?_))
        refine y_n0 ?_
        refine y_go rfl rfl ?_
        refine y_ld (x := .ref 170) rfl rfl (fun d => rfl) ?_
        refine y_in rfl rfl (fun d => rfl) ?_
        refine y_gI (i := 13) (e := ((o + 1 : Nat) : Int)) rfl rfl rfl (md170 hM) rfl h3.2.2.2.2.1 ?_
        refine y_ic rfl rfl ?_
        refine y_sub (z := (((o + 1 : Nat) : Int) - 1)) rfl rfl rfl ?_
        refine y_pI (i := 13) rfl rfl rfl (md170 hM) rfl rfl ?_
        refine y_ret rfl (fun d => rfl) ?_
        exact k1 _ _ _ (by rw [pX_F, if_pos g2, if_neg (by omega), x1]) (by have hh := (MP_f (V' := (v_up V3 170 13 (((o + 1 : Nat) : Int) - 1))) (p' := r1) (wr' := 0) (o' := (o : Int)) (ln' := ln) h3 ⟨rfl, rfl, rfl, rfl, rfl, rfl⟩ h3.2.1 h3.2.2.2.1 (by show ((o : Int) + 1) - 1 = o; omega) h3.2.2.2.2.2.1); rw [List.append_assoc] at hh; rw [encT_app, mkT_app]; exact hh) (MF_u0 (by decide) (MF_tr (MF_tr (MF_u0 (by decide) (MF_u0 (by decide) (MF_u0 (by decide) (MF_rf a V)))) f1) f3)) (e3.trans (e1.trans rfl))
      · have kk2 := pX_ok _ _ _ _ _ _ _ (by decide) (by omega) x2
        refine y_n0 ?_
        refine y_ld (x := .ref 170) rfl rfl (fun d => rfl) ?_
        refine y_ic rfl rfl ?_
        refine y_cV (as := [.ref 170, iv (-1)]) rfl rfl rfl rfl rfl (md170 hM) ⟨rfl, (Nat.le_of_ble_eq_true rfl), (Nat.le_of_ble_eq_true rfl)⟩ (by omega) (ct_emits1 hM h2 ?_)
        refine y_n0 ?_
        refine y_go rfl rfl ?_
        refine y_ld (x := .ref 170) rfl rfl (fun d => rfl) ?_
        refine y_in rfl rfl (fun d => rfl) ?_
        refine y_gI (i := 13) (e := ((o + 1 : Nat) : Int)) rfl rfl rfl (md170 hM) rfl h2.2.2.2.2.1 ?_
        refine y_ic rfl rfl ?_
        refine y_sub (z := (((o + 1 : Nat) : Int) - 1)) rfl rfl rfl ?_
        refine y_pI (i := 13) rfl rfl rfl (md170 hM) rfl rfl ?_
        refine y_ret rfl (fun d => rfl) ?_
        exact k2 _ _ _ _ (by rw [pX_F, if_pos g2, if_neg (by omega), x2]) (MP_f (V' := (v_up V2 170 13 (((o + 1 : Nat) : Int) - 1))) (p' := r2) (wr' := 1) (o' := (o : Int)) (ln' := ln) h2 ⟨rfl, rfl, rfl, rfl, rfl, rfl⟩ h2.2.1 h2.2.2.2.1 (by show ((o : Int) + 1) - 1 = o; omega) h2.2.2.2.2.2.1) (MF_u0 (by decide) (MF_tr (MF_u0 (by decide) (MF_u0 (by decide) (MF_u0 (by decide) (MF_rf a V)))) f2)) (e2.trans rfl)
    · refine y_ic rfl rfl ?_
      refine y_go rfl rfl ?_
      refine y_pZ (i := 12) rfl rfl rfl (md170 hM) rfl rfl (by decide) ?_
      refine y_ld (x := .ref 170) rfl rfl (fun d => rfl) ?_
      refine y_in rfl rfl (fun d => rfl) ?_
      refine y_gI (i := 13) (e := (o : Int)) rfl rfl rfl (md170 hM) rfl h.2.2.2.2.1 ?_
      refine y_ic rfl rfl ?_
      refine y_add (z := ((o : Int) + 1)) rfl rfl rfl ?_
      refine y_pI (i := 13) rfl rfl rfl (md170 hM) rfl rfl ?_
      refine y_ld (x := .ref 170) rfl rfl (fun d => rfl) ?_
      refine y_in rfl rfl (fun d => rfl) ?_
      refine y_gI (i := 10) (e := (p : Int)) rfl rfl rfl (md170 hM) rfl h.2.1 ?_
      refine y_ld (x := .ref 170) rfl rfl (fun d => rfl) ?_
      refine y_gI (i := 12) (e := 1) rfl rfl rfl (md170 hM) rfl rfl ?_
      refine y_zeq rfl rfl rfl (by decide) (fun g6 => absurd g6 (by decide)) (fun g6 => ?_)
      refine y_ic rfl rfl ?_
      refine y_go rfl rfl ?_
      refine y_add (z := ((p : Int) + 0)) rfl rfl rfl ?_
      refine y_pI (i := 10) rfl rfl rfl (md170 hM) rfl rfl ?_
      refine y_ld (x := iv (hr τ z p)) rfl rfl (fun d => rfl) ?_
      refine y_bi rfl rfl (by decide) ?_
      refine y_jne rfl rfl rfl (by omega) (fun g7 => absurd g7 (by omega)) (fun g7 => ?_)
      refine y_ld (x := .ref 170) rfl rfl (fun d => rfl) ?_
      refine y_cV (as := [.ref 170]) rfl rfl rfl rfl rfl (md170 hM) ⟨rfl, (Nat.le_of_ble_eq_true rfl), (Nat.le_of_ble_eq_true rfl)⟩ (by omega) (ct_factor1 hM (MP_f (p' := p) (wr' := 1) (o' := ((o + 1 : Nat) : Int)) (ln' := ln) h ⟨rfl, rfl, rfl, rfl, rfl, rfl⟩ rfl rfl rfl h.2.2.2.2.2.1) ?_)
      refine y_n0 ?_
      refine y_ld (x := .ref 170) rfl rfl (fun d => rfl) ?_
      refine y_ic rfl rfl ?_
      refine y_cV (as := [.ref 170, iv (-1)]) rfl rfl rfl rfl rfl (md170 hM) ⟨rfl, (Nat.le_of_ble_eq_true rfl), (Nat.le_of_ble_eq_true rfl)⟩ (by omega) (ct_emits1 hM (MP_f (p' := p) (wr' := 1) (o' := ((o + 1 : Nat) : Int)) (ln' := ln) h ⟨rfl, rfl, rfl, rfl, rfl, rfl⟩ rfl rfl rfl h.2.2.2.2.2.1) ?_)
      refine y_n0 ?_
      refine y_go rfl rfl ?_
      refine y_ld (x := .ref 170) rfl rfl (fun d => rfl) ?_
      refine y_in rfl rfl (fun d => rfl) ?_
      refine y_gI (i := 13) (e := ((o : Int) + 1)) rfl rfl rfl (md170 hM) rfl rfl ?_
      refine y_ic rfl rfl ?_
      refine y_sub (z := (((o : Int) + 1) - 1)) rfl rfl rfl ?_
      refine y_pI (i := 13) rfl rfl rfl (md170 hM) rfl rfl ?_
      refine y_ret rfl (fun d => rfl) ?_
      exact k2 _ _ _ _ (by rw [pX_F, if_pos g2, if_pos (by omega)]) (MP_f (V' := (v_up (v_up (v_up (v_up V 170 12 1) 170 13 ((o : Int) + 1)) 170 10 ((p : Int) + 0)) 170 13 (((o : Int) + 1) - 1))) (p' := p) (wr' := 1) (o' := (o : Int)) (ln' := ln) h ⟨rfl, rfl, rfl, rfl, rfl, rfl⟩ rfl rfl (by show ((o : Int) + 1) - 1 = o; omega) h.2.2.2.2.2.1) (MF_u0 (by decide) (MF_u0 (by decide) (MF_u0 (by decide) (MF_u0 (by decide) (MF_rf a V))))) rfl
  · refine y_ld (x := iv (hr τ z p)) rfl rfl (fun d => rfl) ?_
    refine y_bi rfl rfl (by decide) ?_
    refine y_jne rfl rfl rfl (by omega) (fun g8 => ?_) (fun g8 => ?_)
    · refine y_ld (x := .ref 170) rfl rfl (fun d => rfl) ?_
      refine y_cV (as := [.ref 170]) rfl rfl rfl rfl rfl (md170 hM) ⟨rfl, (Nat.le_of_ble_eq_true rfl), (Nat.le_of_ble_eq_true rfl)⟩ (by omega) (ct_term hM hT h (by omega) (fun V4 q5 h4 f4 e4 => ?_) (fun V6 x8 q7 h6 f6 e6 b9 => ?_))
      · have pl10 := pT_le τ z p (by omega)
        refine y_nv ?_
        refine y_st (lv' := [(2, iv (mcd (pT τ z p).1)), (1, iv (hr τ z p)), (0, .ref 170)]) rfl rfl (fun d => rfl) ?_
        refine y_ld (x := .ref 170) rfl rfl (fun d => rfl) ?_
        refine y_ld (x := iv (mcd (pT τ z p).1)) rfl rfl (fun d => rfl) ?_
        refine y_ic rfl rfl ?_
        refine y_cV (as := [.ref 170, iv (mcd (pT τ z p).1), iv 1]) rfl rfl rfl rfl rfl (md170 hM) ⟨rfl, (Nat.le_of_ble_eq_true rfl), (Nat.le_of_ble_eq_true rfl)⟩ (by omega) (ct_marks (b := true) hM (pT_cd τ z p q5) h4 hT.1 hln (mkT_bd hln acc g0 htk hg0) (fun V11 h11 f11 e11 => ?_))
        refine y_n0 ?_
        refine y_ld (x := .ref 170) rfl rfl (fun d => rfl) ?_
        refine y_cV (as := [.ref 170]) rfl rfl rfl rfl rfl (md170 hM) ⟨rfl, (Nat.le_of_ble_eq_true rfl), (Nat.le_of_ble_eq_true rfl)⟩ (by omega) (ct_here hM h11 (by omega) ?_)
        have hq124 := hr_rg hT ((pT τ z p).2)
        refine y_nv ?_
        refine y_st (lv' := [(3, iv (hr τ z ((pT τ z p).2))), (2, iv (mcd (pT τ z p).1)), (1, iv (hr τ z p)), (0, .ref 170)]) rfl rfl (fun d => rfl) ?_
        refine y_ld (x := .ref 170) rfl rfl (fun d => rfl) ?_
        refine y_ld (x := .ref 170) rfl rfl (fun d => rfl) ?_
        refine y_gI (i := 12) (e := 0) rfl rfl rfl (md170 hM) rfl h11.2.2.2.1 ?_
        refine y_zne rfl rfl rfl (by decide) (fun g9 => absurd g9 (by decide)) (fun g9 => ?_)
        refine y_ld (x := iv (hr τ z ((pT τ z p).2))) rfl rfl (fun d => rfl) ?_
        refine y_bi rfl rfl (by decide) ?_
        refine y_jeq rfl rfl rfl (by omega) (fun g10 => ?_) (fun g10 => ?_)
        · refine y_ic rfl rfl ?_
          refine y_pZ (i := 12) rfl rfl rfl (md170 hM) rfl rfl (by decide) ?_
          refine y_ld (x := .ref 170) rfl rfl (fun d => rfl) ?_
          refine y_in rfl rfl (fun d => rfl) ?_
          refine y_gI (i := 10) (e := ((pT τ z p).2 : Int)) rfl rfl rfl (md170 hM) rfl h11.2.1 ?_
          refine y_ld (x := .ref 170) rfl rfl (fun d => rfl) ?_
          refine y_gI (i := 12) (e := 0) rfl rfl rfl (md170 hM) rfl rfl ?_
          refine y_zeq rfl rfl rfl (by decide) (fun g11 => ?_) (fun g11 => absurd g11 (by decide))
          refine y_ic rfl rfl ?_
          refine y_add (z := (((pT τ z p).2 : Int) + 1)) rfl rfl rfl ?_
          refine y_pI (i := 10) rfl rfl rfl (md170 hM) rfl rfl ?_
          have pl9 := hr_le (τ := τ) (z := z) (p := (pT τ z p).2) (by omega)
          refine y_ld (x := .ref 170) rfl rfl (fun d => rfl) ?_
          refine y_cV (as := [.ref 170]) rfl rfl rfl rfl rfl (md170 hM) ⟨rfl, (Nat.le_of_ble_eq_true rfl), (Nat.le_of_ble_eq_true rfl)⟩ (by omega) (ct_term hM hT (MP_f (p' := ((pT τ z p).2 + 1)) (wr' := 0) (o' := (o : Int)) (ln' := ln) h11 ⟨rfl, rfl, rfl, rfl, rfl, rfl⟩ rfl rfl h11.2.2.2.2.1 h11.2.2.2.2.2.1) (by omega) (fun V12 q13 h12 f12 e12 => ?_) (fun V14 x16 q15 h14 f14 e14 b17 => ?_))
          · have pl18 := pT_le τ z ((pT τ z p).2 + 1) (by omega)
            refine y_nv ?_
            refine y_st (lv' := [(4, iv (mcd (pT τ z ((pT τ z p).2 + 1)).1)), (3, iv (hr τ z ((pT τ z p).2))), (2, iv (mcd (pT τ z p).1)), (1, iv (hr τ z p)), (0, .ref 170)]) rfl rfl (fun d => rfl) ?_
            refine y_ld (x := .ref 170) rfl rfl (fun d => rfl) ?_
            refine y_ld (x := iv (mcd (pT τ z ((pT τ z p).2 + 1)).1)) rfl rfl (fun d => rfl) ?_
            refine y_ic rfl rfl ?_
            refine y_cV (as := [.ref 170, iv (mcd (pT τ z ((pT τ z p).2 + 1)).1), iv 1]) rfl rfl rfl rfl rfl (md170 hM) ⟨rfl, (Nat.le_of_ble_eq_true rfl), (Nat.le_of_ble_eq_true rfl)⟩ (by omega) (ct_marks (b := true) hM (pT_cd τ z ((pT τ z p).2 + 1) q13) h12 hT.1 hln (mk_bd hln (mkT_bd hln acc g0 htk hg0) _ true (tcd_le (pT_cd τ z p q5))) (fun V19 h19 f19 e19 => ?_))
            refine y_n0 ?_
            refine y_ld (x := .ref 170) rfl rfl (fun d => rfl) ?_
            refine y_ld (x := iv 100000) rfl rfl (fun d => rfl) ?_
            refine y_ic rfl rfl ?_
            refine y_si rfl rfl (by decide) ?_
            refine y_ld (x := iv (mcd (pT τ z p).1)) rfl rfl (fun d => rfl) ?_
            refine y_mul (z := (200 * (mcd (pT τ z p).1))) rfl rfl rfl ?_
            refine y_ld (x := iv (mcd (pT τ z ((pT τ z p).2 + 1)).1)) rfl rfl (fun d => rfl) ?_
            refine y_add (z := ((200 * (mcd (pT τ z p).1)) + (mcd (pT τ z ((pT τ z p).2 + 1)).1))) rfl rfl rfl ?_
            refine y_mul (z := (4 * ((200 * (mcd (pT τ z p).1)) + (mcd (pT τ z ((pT τ z p).2 + 1)).1)))) rfl rfl rfl ?_
            refine y_add (z := (100000 + (4 * ((200 * (mcd (pT τ z p).1)) + (mcd (pT τ z ((pT τ z p).2 + 1)).1))))) rfl rfl rfl ?_
            refine y_ld (x := iv (hr τ z ((pT τ z p).2))) rfl rfl (fun d => rfl) ?_
            refine y_bi rfl rfl (by decide) ?_
            refine y_jne rfl rfl rfl (by omega) (fun g12 => ?_) (fun g12 => ?_)
            · refine y_ld (x := iv (hr τ z ((pT τ z p).2))) rfl rfl (fun d => rfl) ?_
              refine y_bi rfl rfl (by decide) ?_
              refine y_jne rfl rfl rfl (by omega) (fun g13 => ?_) (fun g13 => ?_)
              · refine y_ic rfl rfl ?_
                refine y_add (z := ((100000 + (4 * ((200 * (mcd (pT τ z p).1)) + (mcd (pT τ z ((pT τ z p).2 + 1)).1)))) + 2)) rfl rfl rfl ?_
                refine y_cV (as := [.ref 170, iv ((100000 + (4 * ((200 * (mcd (pT τ z p).1)) + (mcd (pT τ z ((pT τ z p).2 + 1)).1)))) + 2)]) rfl rfl rfl rfl rfl (md170 hM) ⟨rfl, (Nat.le_of_ble_eq_true rfl), (Nat.le_of_ble_eq_true rfl)⟩ (by omega) (ct_emits hM h19 hT.1 (by simp [encT_len]; omega) (fun V20 h20 f20 e20 => ?_))
                refine y_n0 ?_
                refine y_ret rfl (fun d => rfl) ?_
                have eS : pS τ z p = (some (hr τ z (pT τ z p).2 + 60, (pT τ z p).1, (pT τ z ((pT τ z p).2 + 1)).1), (pT τ z ((pT τ z p).2 + 1)).2) := (if_neg (by omega)).trans ((if_pos (by omega)).trans (if_neg (by omega)))
                refine k1 _ _ _ (by rw [pX_F, if_neg g2, if_neg g8, eS]) ?_ (MF_tr (MF_tr (MF_tr (MF_u0 (by decide) (MF_u0 (by decide) (MF_tr (MF_tr (MF_rf a V) f4) f11))) f12) f19) f20) (e20.trans (e19.trans (e12.trans (e11.trans (e4.trans rfl)))))
                have hh := h20
                rw [List.append_assoc] at hh
                rw [encT_app, mkT_app]
                show MP _ _ _ _ _ _ _ _ (st0 ++ (encT acc ++ [if hr τ z (pT τ z p).2 + 60 ≤ 122 then _ else _])) (if hr τ z (pT τ z p).2 + 60 ≤ 122 then _ else _)
                rw [if_pos (by omega), if_pos (by omega)]
                have ev : 100000 + 4 * (200 * mcd (pT τ z p).1 + mcd (pT τ z ((pT τ z p).2 + 1)).1) + (hr τ z (pT τ z p).2 + 60 - 120) = (100000 + (4 * ((200 * (mcd (pT τ z p).1)) + (mcd (pT τ z ((pT τ z p).2 + 1)).1)))) + 2 := by omega
                rw [ev]
                exact hh
              · refine y_ic rfl rfl ?_
                refine y_go rfl rfl ?_
                refine y_add (z := ((100000 + (4 * ((200 * (mcd (pT τ z p).1)) + (mcd (pT τ z ((pT τ z p).2 + 1)).1)))) + 1)) rfl rfl rfl ?_
                refine y_cV (as := [.ref 170, iv ((100000 + (4 * ((200 * (mcd (pT τ z p).1)) + (mcd (pT τ z ((pT τ z p).2 + 1)).1)))) + 1)]) rfl rfl rfl rfl rfl (md170 hM) ⟨rfl, (Nat.le_of_ble_eq_true rfl), (Nat.le_of_ble_eq_true rfl)⟩ (by omega) (ct_emits hM h19 hT.1 (by simp [encT_len]; omega) (fun V21 h21 f21 e21 => ?_))
                refine y_n0 ?_
                refine y_ret rfl (fun d => rfl) ?_
                have eS : pS τ z p = (some (hr τ z (pT τ z p).2 + 60, (pT τ z p).1, (pT τ z ((pT τ z p).2 + 1)).1), (pT τ z ((pT τ z p).2 + 1)).2) := (if_neg (by omega)).trans ((if_pos (by omega)).trans (if_neg (by omega)))
                refine k1 _ _ _ (by rw [pX_F, if_neg g2, if_neg g8, eS]) ?_ (MF_tr (MF_tr (MF_tr (MF_u0 (by decide) (MF_u0 (by decide) (MF_tr (MF_tr (MF_rf a V) f4) f11))) f12) f19) f21) (e21.trans (e19.trans (e12.trans (e11.trans (e4.trans rfl)))))
                have hh := h21
                rw [List.append_assoc] at hh
                rw [encT_app, mkT_app]
                show MP _ _ _ _ _ _ _ _ (st0 ++ (encT acc ++ [if hr τ z (pT τ z p).2 + 60 ≤ 122 then _ else _])) (if hr τ z (pT τ z p).2 + 60 ≤ 122 then _ else _)
                rw [if_pos (by omega), if_pos (by omega)]
                have ev : 100000 + 4 * (200 * mcd (pT τ z p).1 + mcd (pT τ z ((pT τ z p).2 + 1)).1) + (hr τ z (pT τ z p).2 + 60 - 120) = (100000 + (4 * ((200 * (mcd (pT τ z p).1)) + (mcd (pT τ z ((pT τ z p).2 + 1)).1)))) + 1 := by omega
                rw [ev]
                exact hh
            · refine y_ic rfl rfl ?_
              refine y_go rfl rfl ?_
              refine y_add (z := ((100000 + (4 * ((200 * (mcd (pT τ z p).1)) + (mcd (pT τ z ((pT τ z p).2 + 1)).1)))) + 0)) rfl rfl rfl ?_
              refine y_cV (as := [.ref 170, iv ((100000 + (4 * ((200 * (mcd (pT τ z p).1)) + (mcd (pT τ z ((pT τ z p).2 + 1)).1)))) + 0)]) rfl rfl rfl rfl rfl (md170 hM) ⟨rfl, (Nat.le_of_ble_eq_true rfl), (Nat.le_of_ble_eq_true rfl)⟩ (by omega) (ct_emits hM h19 hT.1 (by simp [encT_len]; omega) (fun V22 h22 f22 e22 => ?_))
              refine y_n0 ?_
              refine y_ret rfl (fun d => rfl) ?_
              have eS : pS τ z p = (some (hr τ z (pT τ z p).2 + 60, (pT τ z p).1, (pT τ z ((pT τ z p).2 + 1)).1), (pT τ z ((pT τ z p).2 + 1)).2) := (if_neg (by omega)).trans ((if_pos (by omega)).trans (if_neg (by omega)))
              refine k1 _ _ _ (by rw [pX_F, if_neg g2, if_neg g8, eS]) ?_ (MF_tr (MF_tr (MF_tr (MF_u0 (by decide) (MF_u0 (by decide) (MF_tr (MF_tr (MF_rf a V) f4) f11))) f12) f19) f22) (e22.trans (e19.trans (e12.trans (e11.trans (e4.trans rfl)))))
              have hh := h22
              rw [List.append_assoc] at hh
              rw [encT_app, mkT_app]
              show MP _ _ _ _ _ _ _ _ (st0 ++ (encT acc ++ [if hr τ z (pT τ z p).2 + 60 ≤ 122 then _ else _])) (if hr τ z (pT τ z p).2 + 60 ≤ 122 then _ else _)
              rw [if_pos (by omega), if_pos (by omega)]
              have ev : 100000 + 4 * (200 * mcd (pT τ z p).1 + mcd (pT τ z ((pT τ z p).2 + 1)).1) + (hr τ z (pT τ z p).2 + 60 - 120) = (100000 + (4 * ((200 * (mcd (pT τ z p).1)) + (mcd (pT τ z ((pT τ z p).2 + 1)).1)))) + 0 := by omega
              rw [ev]
              exact hh
          · have pl18 := pT_le τ z ((pT τ z p).2 + 1) (by omega)
            refine y_nv ?_
            refine y_st (lv' := [(4, iv x16), (3, iv (hr τ z ((pT τ z p).2))), (2, iv (mcd (pT τ z p).1)), (1, iv (hr τ z p)), (0, .ref 170)]) rfl rfl (fun d => rfl) ?_
            refine y_ld (x := .ref 170) rfl rfl (fun d => rfl) ?_
            refine y_ld (x := iv x16) rfl rfl (fun d => rfl) ?_
            refine y_ic rfl rfl ?_
            refine y_cV (as := [.ref 170, iv x16, iv 1]) rfl rfl rfl rfl rfl (md170 hM) ⟨rfl, (Nat.le_of_ble_eq_true rfl), (Nat.le_of_ble_eq_true rfl)⟩ (by omega) (ct_marks1 hM h14 ?_)
            refine y_n0 ?_
            refine y_ld (x := .ref 170) rfl rfl (fun d => rfl) ?_
            refine y_ld (x := iv 100000) rfl rfl (fun d => rfl) ?_
            refine y_ic rfl rfl ?_
            refine y_si rfl rfl (by decide) ?_
            refine y_ld (x := iv (mcd (pT τ z p).1)) rfl rfl (fun d => rfl) ?_
            refine y_mul (z := (200 * (mcd (pT τ z p).1))) rfl rfl rfl ?_
            refine y_ld (x := iv x16) rfl rfl (fun d => rfl) ?_
            refine y_add (z := ((200 * (mcd (pT τ z p).1)) + x16)) rfl rfl rfl ?_
            refine y_mul (z := (4 * ((200 * (mcd (pT τ z p).1)) + x16))) rfl rfl rfl ?_
            refine y_add (z := (100000 + (4 * ((200 * (mcd (pT τ z p).1)) + x16)))) rfl rfl rfl ?_
            refine y_ld (x := iv (hr τ z ((pT τ z p).2))) rfl rfl (fun d => rfl) ?_
            refine y_bi rfl rfl (by decide) ?_
            refine y_jne rfl rfl rfl (by omega) (fun g14 => ?_) (fun g14 => ?_)
            · refine y_ld (x := iv (hr τ z ((pT τ z p).2))) rfl rfl (fun d => rfl) ?_
              refine y_bi rfl rfl (by decide) ?_
              refine y_jne rfl rfl rfl (by omega) (fun g15 => ?_) (fun g15 => ?_)
              · refine y_ic rfl rfl ?_
                refine y_add (z := ((100000 + (4 * ((200 * (mcd (pT τ z p).1)) + x16))) + 2)) rfl rfl rfl ?_
                refine y_cV (as := [.ref 170, iv ((100000 + (4 * ((200 * (mcd (pT τ z p).1)) + x16))) + 2)]) rfl rfl rfl rfl rfl (md170 hM) ⟨rfl, (Nat.le_of_ble_eq_true rfl), (Nat.le_of_ble_eq_true rfl)⟩ (by omega) (ct_emits1 hM h14 ?_)
                refine y_n0 ?_
                refine y_ret rfl (fun d => rfl) ?_
                have eS : pS τ z p = (none, (pT τ z ((pT τ z p).2 + 1)).2) := (if_neg (by omega)).trans ((if_pos (by omega)).trans (if_pos q15))
                exact k2 _ _ _ _ (by rw [pX_F, if_neg g2, if_neg g8, eS]) (MP_f (V' := V14) (p' := (pT τ z ((pT τ z p).2 + 1)).2) (wr' := 1) (o' := (o : Int)) (ln' := ln) h14 ⟨rfl, rfl, rfl, rfl, rfl, rfl⟩ h14.2.1 h14.2.2.2.1 h14.2.2.2.2.1 h14.2.2.2.2.2.1) (MF_tr (MF_u0 (by decide) (MF_u0 (by decide) (MF_tr (MF_tr (MF_rf a V) f4) f11))) f14) (e14.trans (e11.trans (e4.trans rfl)))
              · refine y_ic rfl rfl ?_
                refine y_go rfl rfl ?_
                refine y_add (z := ((100000 + (4 * ((200 * (mcd (pT τ z p).1)) + x16))) + 1)) rfl rfl rfl ?_
                refine y_cV (as := [.ref 170, iv ((100000 + (4 * ((200 * (mcd (pT τ z p).1)) + x16))) + 1)]) rfl rfl rfl rfl rfl (md170 hM) ⟨rfl, (Nat.le_of_ble_eq_true rfl), (Nat.le_of_ble_eq_true rfl)⟩ (by omega) (ct_emits1 hM h14 ?_)
                refine y_n0 ?_
                refine y_ret rfl (fun d => rfl) ?_
                have eS : pS τ z p = (none, (pT τ z ((pT τ z p).2 + 1)).2) := (if_neg (by omega)).trans ((if_pos (by omega)).trans (if_pos q15))
                exact k2 _ _ _ _ (by rw [pX_F, if_neg g2, if_neg g8, eS]) (MP_f (V' := V14) (p' := (pT τ z ((pT τ z p).2 + 1)).2) (wr' := 1) (o' := (o : Int)) (ln' := ln) h14 ⟨rfl, rfl, rfl, rfl, rfl, rfl⟩ h14.2.1 h14.2.2.2.1 h14.2.2.2.2.1 h14.2.2.2.2.2.1) (MF_tr (MF_u0 (by decide) (MF_u0 (by decide) (MF_tr (MF_tr (MF_rf a V) f4) f11))) f14) (e14.trans (e11.trans (e4.trans rfl)))
            · refine y_ic rfl rfl ?_
              refine y_go rfl rfl ?_
              refine y_add (z := ((100000 + (4 * ((200 * (mcd (pT τ z p).1)) + x16))) + 0)) rfl rfl rfl ?_
              refine y_cV (as := [.ref 170, iv ((100000 + (4 * ((200 * (mcd (pT τ z p).1)) + x16))) + 0)]) rfl rfl rfl rfl rfl (md170 hM) ⟨rfl, (Nat.le_of_ble_eq_true rfl), (Nat.le_of_ble_eq_true rfl)⟩ (by omega) (ct_emits1 hM h14 ?_)
              refine y_n0 ?_
              refine y_ret rfl (fun d => rfl) ?_
              have eS : pS τ z p = (none, (pT τ z ((pT τ z p).2 + 1)).2) := (if_neg (by omega)).trans ((if_pos (by omega)).trans (if_pos q15))
              exact k2 _ _ _ _ (by rw [pX_F, if_neg g2, if_neg g8, eS]) (MP_f (V' := V14) (p' := (pT τ z ((pT τ z p).2 + 1)).2) (wr' := 1) (o' := (o : Int)) (ln' := ln) h14 ⟨rfl, rfl, rfl, rfl, rfl, rfl⟩ h14.2.1 h14.2.2.2.1 h14.2.2.2.2.1 h14.2.2.2.2.2.1) (MF_tr (MF_u0 (by decide) (MF_u0 (by decide) (MF_tr (MF_tr (MF_rf a V) f4) f11))) f14) (e14.trans (e11.trans (e4.trans rfl)))
        · refine y_ld (x := iv (hr τ z ((pT τ z p).2))) rfl rfl (fun d => rfl) ?_
          refine y_bi rfl rfl (by decide) ?_
          refine y_jeq rfl rfl rfl (by omega) (fun g16 => ?_) (fun g16 => ?_)
          · refine y_ic rfl rfl ?_
            refine y_pZ (i := 12) rfl rfl rfl (md170 hM) rfl rfl (by decide) ?_
            refine y_ld (x := .ref 170) rfl rfl (fun d => rfl) ?_
            refine y_in rfl rfl (fun d => rfl) ?_
            refine y_gI (i := 10) (e := ((pT τ z p).2 : Int)) rfl rfl rfl (md170 hM) rfl h11.2.1 ?_
            refine y_ld (x := .ref 170) rfl rfl (fun d => rfl) ?_
            refine y_gI (i := 12) (e := 0) rfl rfl rfl (md170 hM) rfl rfl ?_
            refine y_zeq rfl rfl rfl (by decide) (fun g17 => ?_) (fun g17 => absurd g17 (by decide))
            refine y_ic rfl rfl ?_
            refine y_add (z := (((pT τ z p).2 : Int) + 1)) rfl rfl rfl ?_
            refine y_pI (i := 10) rfl rfl rfl (md170 hM) rfl rfl ?_
            have pl9 := hr_le (τ := τ) (z := z) (p := (pT τ z p).2) (by omega)
            refine y_ld (x := .ref 170) rfl rfl (fun d => rfl) ?_
            refine y_cV (as := [.ref 170]) rfl rfl rfl rfl rfl (md170 hM) ⟨rfl, (Nat.le_of_ble_eq_true rfl), (Nat.le_of_ble_eq_true rfl)⟩ (by omega) (ct_term hM hT (MP_f (p' := ((pT τ z p).2 + 1)) (wr' := 0) (o' := (o : Int)) (ln' := ln) h11 ⟨rfl, rfl, rfl, rfl, rfl, rfl⟩ rfl rfl h11.2.2.2.2.1 h11.2.2.2.2.2.1) (by omega) (fun V23 q24 h23 f23 e23 => ?_) (fun V25 x27 q26 h25 f25 e25 b28 => ?_))
            · have pl29 := pT_le τ z ((pT τ z p).2 + 1) (by omega)
              refine y_nv ?_
              refine y_st (lv' := [(4, iv (mcd (pT τ z ((pT τ z p).2 + 1)).1)), (3, iv (hr τ z ((pT τ z p).2))), (2, iv (mcd (pT τ z p).1)), (1, iv (hr τ z p)), (0, .ref 170)]) rfl rfl (fun d => rfl) ?_
              refine y_ld (x := .ref 170) rfl rfl (fun d => rfl) ?_
              refine y_ld (x := iv (mcd (pT τ z ((pT τ z p).2 + 1)).1)) rfl rfl (fun d => rfl) ?_
              refine y_ic rfl rfl ?_
              refine y_cV (as := [.ref 170, iv (mcd (pT τ z ((pT τ z p).2 + 1)).1), iv 1]) rfl rfl rfl rfl rfl (md170 hM) ⟨rfl, (Nat.le_of_ble_eq_true rfl), (Nat.le_of_ble_eq_true rfl)⟩ (by omega) (ct_marks (b := true) hM (pT_cd τ z ((pT τ z p).2 + 1) q24) h23 hT.1 hln (mk_bd hln (mkT_bd hln acc g0 htk hg0) _ true (tcd_le (pT_cd τ z p q5))) (fun V30 h30 f30 e30 => ?_))
              refine y_n0 ?_
              refine y_ld (x := .ref 170) rfl rfl (fun d => rfl) ?_
              refine y_ld (x := iv 100000) rfl rfl (fun d => rfl) ?_
              refine y_ic rfl rfl ?_
              refine y_si rfl rfl (by decide) ?_
              refine y_ld (x := iv (mcd (pT τ z p).1)) rfl rfl (fun d => rfl) ?_
              refine y_mul (z := (200 * (mcd (pT τ z p).1))) rfl rfl rfl ?_
              refine y_ld (x := iv (mcd (pT τ z ((pT τ z p).2 + 1)).1)) rfl rfl (fun d => rfl) ?_
              refine y_add (z := ((200 * (mcd (pT τ z p).1)) + (mcd (pT τ z ((pT τ z p).2 + 1)).1))) rfl rfl rfl ?_
              refine y_mul (z := (4 * ((200 * (mcd (pT τ z p).1)) + (mcd (pT τ z ((pT τ z p).2 + 1)).1)))) rfl rfl rfl ?_
              refine y_add (z := (100000 + (4 * ((200 * (mcd (pT τ z p).1)) + (mcd (pT τ z ((pT τ z p).2 + 1)).1))))) rfl rfl rfl ?_
              refine y_ld (x := iv (hr τ z ((pT τ z p).2))) rfl rfl (fun d => rfl) ?_
              refine y_bi rfl rfl (by decide) ?_
              refine y_jne rfl rfl rfl (by omega) (fun g18 => ?_) (fun g18 => ?_)
              · refine y_ld (x := iv (hr τ z ((pT τ z p).2))) rfl rfl (fun d => rfl) ?_
                refine y_bi rfl rfl (by decide) ?_
                refine y_jne rfl rfl rfl (by omega) (fun g19 => ?_) (fun g19 => ?_)
                · refine y_ic rfl rfl ?_
                  refine y_add (z := ((100000 + (4 * ((200 * (mcd (pT τ z p).1)) + (mcd (pT τ z ((pT τ z p).2 + 1)).1)))) + 2)) rfl rfl rfl ?_
                  refine y_cV (as := [.ref 170, iv ((100000 + (4 * ((200 * (mcd (pT τ z p).1)) + (mcd (pT τ z ((pT τ z p).2 + 1)).1)))) + 2)]) rfl rfl rfl rfl rfl (md170 hM) ⟨rfl, (Nat.le_of_ble_eq_true rfl), (Nat.le_of_ble_eq_true rfl)⟩ (by omega) (ct_emits hM h30 hT.1 (by simp [encT_len]; omega) (fun V31 h31 f31 e31 => ?_))
                  refine y_n0 ?_
                  refine y_ret rfl (fun d => rfl) ?_
                  have eS : pS τ z p = (some (hr τ z (pT τ z p).2 + 60, (pT τ z p).1, (pT τ z ((pT τ z p).2 + 1)).1), (pT τ z ((pT τ z p).2 + 1)).2) := (if_neg (by omega)).trans ((if_pos (by omega)).trans (if_neg (by omega)))
                  refine k1 _ _ _ (by rw [pX_F, if_neg g2, if_neg g8, eS]) ?_ (MF_tr (MF_tr (MF_tr (MF_u0 (by decide) (MF_u0 (by decide) (MF_tr (MF_tr (MF_rf a V) f4) f11))) f23) f30) f31) (e31.trans (e30.trans (e23.trans (e11.trans (e4.trans rfl)))))
                  have hh := h31
                  rw [List.append_assoc] at hh
                  rw [encT_app, mkT_app]
                  show MP _ _ _ _ _ _ _ _ (st0 ++ (encT acc ++ [if hr τ z (pT τ z p).2 + 60 ≤ 122 then _ else _])) (if hr τ z (pT τ z p).2 + 60 ≤ 122 then _ else _)
                  rw [if_pos (by omega), if_pos (by omega)]
                  have ev : 100000 + 4 * (200 * mcd (pT τ z p).1 + mcd (pT τ z ((pT τ z p).2 + 1)).1) + (hr τ z (pT τ z p).2 + 60 - 120) = (100000 + (4 * ((200 * (mcd (pT τ z p).1)) + (mcd (pT τ z ((pT τ z p).2 + 1)).1)))) + 2 := by omega
                  rw [ev]
                  exact hh
                · refine y_ic rfl rfl ?_
                  refine y_go rfl rfl ?_
                  refine y_add (z := ((100000 + (4 * ((200 * (mcd (pT τ z p).1)) + (mcd (pT τ z ((pT τ z p).2 + 1)).1)))) + 1)) rfl rfl rfl ?_
                  refine y_cV (as := [.ref 170, iv ((100000 + (4 * ((200 * (mcd (pT τ z p).1)) + (mcd (pT τ z ((pT τ z p).2 + 1)).1)))) + 1)]) rfl rfl rfl rfl rfl (md170 hM) ⟨rfl, (Nat.le_of_ble_eq_true rfl), (Nat.le_of_ble_eq_true rfl)⟩ (by omega) (ct_emits hM h30 hT.1 (by simp [encT_len]; omega) (fun V32 h32 f32 e32 => ?_))
                  refine y_n0 ?_
                  refine y_ret rfl (fun d => rfl) ?_
                  have eS : pS τ z p = (some (hr τ z (pT τ z p).2 + 60, (pT τ z p).1, (pT τ z ((pT τ z p).2 + 1)).1), (pT τ z ((pT τ z p).2 + 1)).2) := (if_neg (by omega)).trans ((if_pos (by omega)).trans (if_neg (by omega)))
                  refine k1 _ _ _ (by rw [pX_F, if_neg g2, if_neg g8, eS]) ?_ (MF_tr (MF_tr (MF_tr (MF_u0 (by decide) (MF_u0 (by decide) (MF_tr (MF_tr (MF_rf a V) f4) f11))) f23) f30) f32) (e32.trans (e30.trans (e23.trans (e11.trans (e4.trans rfl)))))
                  have hh := h32
                  rw [List.append_assoc] at hh
                  rw [encT_app, mkT_app]
                  show MP _ _ _ _ _ _ _ _ (st0 ++ (encT acc ++ [if hr τ z (pT τ z p).2 + 60 ≤ 122 then _ else _])) (if hr τ z (pT τ z p).2 + 60 ≤ 122 then _ else _)
                  rw [if_pos (by omega), if_pos (by omega)]
                  have ev : 100000 + 4 * (200 * mcd (pT τ z p).1 + mcd (pT τ z ((pT τ z p).2 + 1)).1) + (hr τ z (pT τ z p).2 + 60 - 120) = (100000 + (4 * ((200 * (mcd (pT τ z p).1)) + (mcd (pT τ z ((pT τ z p).2 + 1)).1)))) + 1 := by omega
                  rw [ev]
                  exact hh
              · refine y_ic rfl rfl ?_
                refine y_go rfl rfl ?_
                refine y_add (z := ((100000 + (4 * ((200 * (mcd (pT τ z p).1)) + (mcd (pT τ z ((pT τ z p).2 + 1)).1)))) + 0)) rfl rfl rfl ?_
                refine y_cV (as := [.ref 170, iv ((100000 + (4 * ((200 * (mcd (pT τ z p).1)) + (mcd (pT τ z ((pT τ z p).2 + 1)).1)))) + 0)]) rfl rfl rfl rfl rfl (md170 hM) ⟨rfl, (Nat.le_of_ble_eq_true rfl), (Nat.le_of_ble_eq_true rfl)⟩ (by omega) (ct_emits hM h30 hT.1 (by simp [encT_len]; omega) (fun V33 h33 f33 e33 => ?_))
                refine y_n0 ?_
                refine y_ret rfl (fun d => rfl) ?_
                have eS : pS τ z p = (some (hr τ z (pT τ z p).2 + 60, (pT τ z p).1, (pT τ z ((pT τ z p).2 + 1)).1), (pT τ z ((pT τ z p).2 + 1)).2) := (if_neg (by omega)).trans ((if_pos (by omega)).trans (if_neg (by omega)))
                refine k1 _ _ _ (by rw [pX_F, if_neg g2, if_neg g8, eS]) ?_ (MF_tr (MF_tr (MF_tr (MF_u0 (by decide) (MF_u0 (by decide) (MF_tr (MF_tr (MF_rf a V) f4) f11))) f23) f30) f33) (e33.trans (e30.trans (e23.trans (e11.trans (e4.trans rfl)))))
                have hh := h33
                rw [List.append_assoc] at hh
                rw [encT_app, mkT_app]
                show MP _ _ _ _ _ _ _ _ (st0 ++ (encT acc ++ [if hr τ z (pT τ z p).2 + 60 ≤ 122 then _ else _])) (if hr τ z (pT τ z p).2 + 60 ≤ 122 then _ else _)
                rw [if_pos (by omega), if_pos (by omega)]
                have ev : 100000 + 4 * (200 * mcd (pT τ z p).1 + mcd (pT τ z ((pT τ z p).2 + 1)).1) + (hr τ z (pT τ z p).2 + 60 - 120) = (100000 + (4 * ((200 * (mcd (pT τ z p).1)) + (mcd (pT τ z ((pT τ z p).2 + 1)).1)))) + 0 := by omega
                rw [ev]
                exact hh
            · have pl29 := pT_le τ z ((pT τ z p).2 + 1) (by omega)
              refine y_nv ?_
              refine y_st (lv' := [(4, iv x27), (3, iv (hr τ z ((pT τ z p).2))), (2, iv (mcd (pT τ z p).1)), (1, iv (hr τ z p)), (0, .ref 170)]) rfl rfl (fun d => rfl) ?_
              refine y_ld (x := .ref 170) rfl rfl (fun d => rfl) ?_
              refine y_ld (x := iv x27) rfl rfl (fun d => rfl) ?_
              refine y_ic rfl rfl ?_
              refine y_cV (as := [.ref 170, iv x27, iv 1]) rfl rfl rfl rfl rfl (md170 hM) ⟨rfl, (Nat.le_of_ble_eq_true rfl), (Nat.le_of_ble_eq_true rfl)⟩ (by omega) (ct_marks1 hM h25 ?_)
              refine y_n0 ?_
              refine y_ld (x := .ref 170) rfl rfl (fun d => rfl) ?_
              refine y_ld (x := iv 100000) rfl rfl (fun d => rfl) ?_
              refine y_ic rfl rfl ?_
              refine y_si rfl rfl (by decide) ?_
              refine y_ld (x := iv (mcd (pT τ z p).1)) rfl rfl (fun d => rfl) ?_
              refine y_mul (z := (200 * (mcd (pT τ z p).1))) rfl rfl rfl ?_
              refine y_ld (x := iv x27) rfl rfl (fun d => rfl) ?_
              refine y_add (z := ((200 * (mcd (pT τ z p).1)) + x27)) rfl rfl rfl ?_
              refine y_mul (z := (4 * ((200 * (mcd (pT τ z p).1)) + x27))) rfl rfl rfl ?_
              refine y_add (z := (100000 + (4 * ((200 * (mcd (pT τ z p).1)) + x27)))) rfl rfl rfl ?_
              refine y_ld (x := iv (hr τ z ((pT τ z p).2))) rfl rfl (fun d => rfl) ?_
              refine y_bi rfl rfl (by decide) ?_
              refine y_jne rfl rfl rfl (by omega) (fun g20 => ?_) (fun g20 => ?_)
              · refine y_ld (x := iv (hr τ z ((pT τ z p).2))) rfl rfl (fun d => rfl) ?_
                refine y_bi rfl rfl (by decide) ?_
                refine y_jne rfl rfl rfl (by omega) (fun g21 => ?_) (fun g21 => ?_)
                · refine y_ic rfl rfl ?_
                  refine y_add (z := ((100000 + (4 * ((200 * (mcd (pT τ z p).1)) + x27))) + 2)) rfl rfl rfl ?_
                  refine y_cV (as := [.ref 170, iv ((100000 + (4 * ((200 * (mcd (pT τ z p).1)) + x27))) + 2)]) rfl rfl rfl rfl rfl (md170 hM) ⟨rfl, (Nat.le_of_ble_eq_true rfl), (Nat.le_of_ble_eq_true rfl)⟩ (by omega) (ct_emits1 hM h25 ?_)
                  refine y_n0 ?_
                  refine y_ret rfl (fun d => rfl) ?_
                  have eS : pS τ z p = (none, (pT τ z ((pT τ z p).2 + 1)).2) := (if_neg (by omega)).trans ((if_pos (by omega)).trans (if_pos q26))
                  exact k2 _ _ _ _ (by rw [pX_F, if_neg g2, if_neg g8, eS]) (MP_f (V' := V25) (p' := (pT τ z ((pT τ z p).2 + 1)).2) (wr' := 1) (o' := (o : Int)) (ln' := ln) h25 ⟨rfl, rfl, rfl, rfl, rfl, rfl⟩ h25.2.1 h25.2.2.2.1 h25.2.2.2.2.1 h25.2.2.2.2.2.1) (MF_tr (MF_u0 (by decide) (MF_u0 (by decide) (MF_tr (MF_tr (MF_rf a V) f4) f11))) f25) (e25.trans (e11.trans (e4.trans rfl)))
                · refine y_ic rfl rfl ?_
                  refine y_go rfl rfl ?_
                  refine y_add (z := ((100000 + (4 * ((200 * (mcd (pT τ z p).1)) + x27))) + 1)) rfl rfl rfl ?_
                  refine y_cV (as := [.ref 170, iv ((100000 + (4 * ((200 * (mcd (pT τ z p).1)) + x27))) + 1)]) rfl rfl rfl rfl rfl (md170 hM) ⟨rfl, (Nat.le_of_ble_eq_true rfl), (Nat.le_of_ble_eq_true rfl)⟩ (by omega) (ct_emits1 hM h25 ?_)
                  refine y_n0 ?_
                  refine y_ret rfl (fun d => rfl) ?_
                  have eS : pS τ z p = (none, (pT τ z ((pT τ z p).2 + 1)).2) := (if_neg (by omega)).trans ((if_pos (by omega)).trans (if_pos q26))
                  exact k2 _ _ _ _ (by rw [pX_F, if_neg g2, if_neg g8, eS]) (MP_f (V' := V25) (p' := (pT τ z ((pT τ z p).2 + 1)).2) (wr' := 1) (o' := (o : Int)) (ln' := ln) h25 ⟨rfl, rfl, rfl, rfl, rfl, rfl⟩ h25.2.1 h25.2.2.2.1 h25.2.2.2.2.1 h25.2.2.2.2.2.1) (MF_tr (MF_u0 (by decide) (MF_u0 (by decide) (MF_tr (MF_tr (MF_rf a V) f4) f11))) f25) (e25.trans (e11.trans (e4.trans rfl)))
              · refine y_ic rfl rfl ?_
                refine y_go rfl rfl ?_
                refine y_add (z := ((100000 + (4 * ((200 * (mcd (pT τ z p).1)) + x27))) + 0)) rfl rfl rfl ?_
                refine y_cV (as := [.ref 170, iv ((100000 + (4 * ((200 * (mcd (pT τ z p).1)) + x27))) + 0)]) rfl rfl rfl rfl rfl (md170 hM) ⟨rfl, (Nat.le_of_ble_eq_true rfl), (Nat.le_of_ble_eq_true rfl)⟩ (by omega) (ct_emits1 hM h25 ?_)
                refine y_n0 ?_
                refine y_ret rfl (fun d => rfl) ?_
                have eS : pS τ z p = (none, (pT τ z ((pT τ z p).2 + 1)).2) := (if_neg (by omega)).trans ((if_pos (by omega)).trans (if_pos q26))
                exact k2 _ _ _ _ (by rw [pX_F, if_neg g2, if_neg g8, eS]) (MP_f (V' := V25) (p' := (pT τ z ((pT τ z p).2 + 1)).2) (wr' := 1) (o' := (o : Int)) (ln' := ln) h25 ⟨rfl, rfl, rfl, rfl, rfl, rfl⟩ h25.2.1 h25.2.2.2.1 h25.2.2.2.2.1 h25.2.2.2.2.2.1) (MF_tr (MF_u0 (by decide) (MF_u0 (by decide) (MF_tr (MF_tr (MF_rf a V) f4) f11))) f25) (e25.trans (e11.trans (e4.trans rfl)))
          · refine y_ld (x := iv (hr τ z ((pT τ z p).2))) rfl rfl (fun d => rfl) ?_
            refine y_bi rfl rfl (by decide) ?_
            refine y_jeq rfl rfl rfl (by omega) (fun g22 => ?_) (fun g22 => ?_)
            · refine y_ic rfl rfl ?_
              refine y_pZ (i := 12) rfl rfl rfl (md170 hM) rfl rfl (by decide) ?_
              refine y_ld (x := .ref 170) rfl rfl (fun d => rfl) ?_
              refine y_in rfl rfl (fun d => rfl) ?_
              refine y_gI (i := 10) (e := ((pT τ z p).2 : Int)) rfl rfl rfl (md170 hM) rfl h11.2.1 ?_
              refine y_ld (x := .ref 170) rfl rfl (fun d => rfl) ?_
              refine y_gI (i := 12) (e := 0) rfl rfl rfl (md170 hM) rfl rfl ?_
              refine y_zeq rfl rfl rfl (by decide) (fun g23 => ?_) (fun g23 => absurd g23 (by decide))
              refine y_ic rfl rfl ?_
              refine y_add (z := (((pT τ z p).2 : Int) + 1)) rfl rfl rfl ?_
              refine y_pI (i := 10) rfl rfl rfl (md170 hM) rfl rfl ?_
              have pl9 := hr_le (τ := τ) (z := z) (p := (pT τ z p).2) (by omega)
              refine y_ld (x := .ref 170) rfl rfl (fun d => rfl) ?_
              refine y_cV (as := [.ref 170]) rfl rfl rfl rfl rfl (md170 hM) ⟨rfl, (Nat.le_of_ble_eq_true rfl), (Nat.le_of_ble_eq_true rfl)⟩ (by omega) (ct_term hM hT (MP_f (p' := ((pT τ z p).2 + 1)) (wr' := 0) (o' := (o : Int)) (ln' := ln) h11 ⟨rfl, rfl, rfl, rfl, rfl, rfl⟩ rfl rfl h11.2.2.2.2.1 h11.2.2.2.2.2.1) (by omega) (fun V34 q35 h34 f34 e34 => ?_) (fun V36 x38 q37 h36 f36 e36 b39 => ?_))
              · have pl40 := pT_le τ z ((pT τ z p).2 + 1) (by omega)
                refine y_nv ?_
                refine y_st (lv' := [(4, iv (mcd (pT τ z ((pT τ z p).2 + 1)).1)), (3, iv (hr τ z ((pT τ z p).2))), (2, iv (mcd (pT τ z p).1)), (1, iv (hr τ z p)), (0, .ref 170)]) rfl rfl (fun d => rfl) ?_
                refine y_ld (x := .ref 170) rfl rfl (fun d => rfl) ?_
                refine y_ld (x := iv (mcd (pT τ z ((pT τ z p).2 + 1)).1)) rfl rfl (fun d => rfl) ?_
                refine y_ic rfl rfl ?_
                refine y_cV (as := [.ref 170, iv (mcd (pT τ z ((pT τ z p).2 + 1)).1), iv 1]) rfl rfl rfl rfl rfl (md170 hM) ⟨rfl, (Nat.le_of_ble_eq_true rfl), (Nat.le_of_ble_eq_true rfl)⟩ (by omega) (ct_marks (b := true) hM (pT_cd τ z ((pT τ z p).2 + 1) q35) h34 hT.1 hln (mk_bd hln (mkT_bd hln acc g0 htk hg0) _ true (tcd_le (pT_cd τ z p q5))) (fun V41 h41 f41 e41 => ?_))
                refine y_n0 ?_
                refine y_ld (x := .ref 170) rfl rfl (fun d => rfl) ?_
                refine y_ld (x := iv 100000) rfl rfl (fun d => rfl) ?_
                refine y_ic rfl rfl ?_
                refine y_si rfl rfl (by decide) ?_
                refine y_ld (x := iv (mcd (pT τ z p).1)) rfl rfl (fun d => rfl) ?_
                refine y_mul (z := (200 * (mcd (pT τ z p).1))) rfl rfl rfl ?_
                refine y_ld (x := iv (mcd (pT τ z ((pT τ z p).2 + 1)).1)) rfl rfl (fun d => rfl) ?_
                refine y_add (z := ((200 * (mcd (pT τ z p).1)) + (mcd (pT τ z ((pT τ z p).2 + 1)).1))) rfl rfl rfl ?_
                refine y_mul (z := (4 * ((200 * (mcd (pT τ z p).1)) + (mcd (pT τ z ((pT τ z p).2 + 1)).1)))) rfl rfl rfl ?_
                refine y_add (z := (100000 + (4 * ((200 * (mcd (pT τ z p).1)) + (mcd (pT τ z ((pT τ z p).2 + 1)).1))))) rfl rfl rfl ?_
                refine y_ld (x := iv (hr τ z ((pT τ z p).2))) rfl rfl (fun d => rfl) ?_
                refine y_bi rfl rfl (by decide) ?_
                refine y_jne rfl rfl rfl (by omega) (fun g24 => ?_) (fun g24 => ?_)
                · refine y_ld (x := iv (hr τ z ((pT τ z p).2))) rfl rfl (fun d => rfl) ?_
                  refine y_bi rfl rfl (by decide) ?_
                  refine y_jne rfl rfl rfl (by omega) (fun g25 => ?_) (fun g25 => ?_)
                  · refine y_ic rfl rfl ?_
                    refine y_add (z := ((100000 + (4 * ((200 * (mcd (pT τ z p).1)) + (mcd (pT τ z ((pT τ z p).2 + 1)).1)))) + 2)) rfl rfl rfl ?_
                    refine y_cV (as := [.ref 170, iv ((100000 + (4 * ((200 * (mcd (pT τ z p).1)) + (mcd (pT τ z ((pT τ z p).2 + 1)).1)))) + 2)]) rfl rfl rfl rfl rfl (md170 hM) ⟨rfl, (Nat.le_of_ble_eq_true rfl), (Nat.le_of_ble_eq_true rfl)⟩ (by omega) (ct_emits hM h41 hT.1 (by simp [encT_len]; omega) (fun V42 h42 f42 e42 => ?_))
                    refine y_n0 ?_
                    refine y_ret rfl (fun d => rfl) ?_
                    have eS : pS τ z p = (some (hr τ z (pT τ z p).2 + 60, (pT τ z p).1, (pT τ z ((pT τ z p).2 + 1)).1), (pT τ z ((pT τ z p).2 + 1)).2) := (if_neg (by omega)).trans ((if_pos (by omega)).trans (if_neg (by omega)))
                    refine k1 _ _ _ (by rw [pX_F, if_neg g2, if_neg g8, eS]) ?_ (MF_tr (MF_tr (MF_tr (MF_u0 (by decide) (MF_u0 (by decide) (MF_tr (MF_tr (MF_rf a V) f4) f11))) f34) f41) f42) (e42.trans (e41.trans (e34.trans (e11.trans (e4.trans rfl)))))
                    have hh := h42
                    rw [List.append_assoc] at hh
                    rw [encT_app, mkT_app]
                    show MP _ _ _ _ _ _ _ _ (st0 ++ (encT acc ++ [if hr τ z (pT τ z p).2 + 60 ≤ 122 then _ else _])) (if hr τ z (pT τ z p).2 + 60 ≤ 122 then _ else _)
                    rw [if_pos (by omega), if_pos (by omega)]
                    have ev : 100000 + 4 * (200 * mcd (pT τ z p).1 + mcd (pT τ z ((pT τ z p).2 + 1)).1) + (hr τ z (pT τ z p).2 + 60 - 120) = (100000 + (4 * ((200 * (mcd (pT τ z p).1)) + (mcd (pT τ z ((pT τ z p).2 + 1)).1)))) + 2 := by omega
                    rw [ev]
                    exact hh
                  · refine y_ic rfl rfl ?_
                    refine y_go rfl rfl ?_
                    refine y_add (z := ((100000 + (4 * ((200 * (mcd (pT τ z p).1)) + (mcd (pT τ z ((pT τ z p).2 + 1)).1)))) + 1)) rfl rfl rfl ?_
                    refine y_cV (as := [.ref 170, iv ((100000 + (4 * ((200 * (mcd (pT τ z p).1)) + (mcd (pT τ z ((pT τ z p).2 + 1)).1)))) + 1)]) rfl rfl rfl rfl rfl (md170 hM) ⟨rfl, (Nat.le_of_ble_eq_true rfl), (Nat.le_of_ble_eq_true rfl)⟩ (by omega) (ct_emits hM h41 hT.1 (by simp [encT_len]; omega) (fun V43 h43 f43 e43 => ?_))
                    refine y_n0 ?_
                    refine y_ret rfl (fun d => rfl) ?_
                    have eS : pS τ z p = (some (hr τ z (pT τ z p).2 + 60, (pT τ z p).1, (pT τ z ((pT τ z p).2 + 1)).1), (pT τ z ((pT τ z p).2 + 1)).2) := (if_neg (by omega)).trans ((if_pos (by omega)).trans (if_neg (by omega)))
                    refine k1 _ _ _ (by rw [pX_F, if_neg g2, if_neg g8, eS]) ?_ (MF_tr (MF_tr (MF_tr (MF_u0 (by decide) (MF_u0 (by decide) (MF_tr (MF_tr (MF_rf a V) f4) f11))) f34) f41) f43) (e43.trans (e41.trans (e34.trans (e11.trans (e4.trans rfl)))))
                    have hh := h43
                    rw [List.append_assoc] at hh
                    rw [encT_app, mkT_app]
                    show MP _ _ _ _ _ _ _ _ (st0 ++ (encT acc ++ [if hr τ z (pT τ z p).2 + 60 ≤ 122 then _ else _])) (if hr τ z (pT τ z p).2 + 60 ≤ 122 then _ else _)
                    rw [if_pos (by omega), if_pos (by omega)]
                    have ev : 100000 + 4 * (200 * mcd (pT τ z p).1 + mcd (pT τ z ((pT τ z p).2 + 1)).1) + (hr τ z (pT τ z p).2 + 60 - 120) = (100000 + (4 * ((200 * (mcd (pT τ z p).1)) + (mcd (pT τ z ((pT τ z p).2 + 1)).1)))) + 1 := by omega
                    rw [ev]
                    exact hh
                · refine y_ic rfl rfl ?_
                  refine y_go rfl rfl ?_
                  refine y_add (z := ((100000 + (4 * ((200 * (mcd (pT τ z p).1)) + (mcd (pT τ z ((pT τ z p).2 + 1)).1)))) + 0)) rfl rfl rfl ?_
                  refine y_cV (as := [.ref 170, iv ((100000 + (4 * ((200 * (mcd (pT τ z p).1)) + (mcd (pT τ z ((pT τ z p).2 + 1)).1)))) + 0)]) rfl rfl rfl rfl rfl (md170 hM) ⟨rfl, (Nat.le_of_ble_eq_true rfl), (Nat.le_of_ble_eq_true rfl)⟩ (by omega) (ct_emits hM h41 hT.1 (by simp [encT_len]; omega) (fun V44 h44 f44 e44 => ?_))
                  refine y_n0 ?_
                  refine y_ret rfl (fun d => rfl) ?_
                  have eS : pS τ z p = (some (hr τ z (pT τ z p).2 + 60, (pT τ z p).1, (pT τ z ((pT τ z p).2 + 1)).1), (pT τ z ((pT τ z p).2 + 1)).2) := (if_neg (by omega)).trans ((if_pos (by omega)).trans (if_neg (by omega)))
                  refine k1 _ _ _ (by rw [pX_F, if_neg g2, if_neg g8, eS]) ?_ (MF_tr (MF_tr (MF_tr (MF_u0 (by decide) (MF_u0 (by decide) (MF_tr (MF_tr (MF_rf a V) f4) f11))) f34) f41) f44) (e44.trans (e41.trans (e34.trans (e11.trans (e4.trans rfl)))))
                  have hh := h44
                  rw [List.append_assoc] at hh
                  rw [encT_app, mkT_app]
                  show MP _ _ _ _ _ _ _ _ (st0 ++ (encT acc ++ [if hr τ z (pT τ z p).2 + 60 ≤ 122 then _ else _])) (if hr τ z (pT τ z p).2 + 60 ≤ 122 then _ else _)
                  rw [if_pos (by omega), if_pos (by omega)]
                  have ev : 100000 + 4 * (200 * mcd (pT τ z p).1 + mcd (pT τ z ((pT τ z p).2 + 1)).1) + (hr τ z (pT τ z p).2 + 60 - 120) = (100000 + (4 * ((200 * (mcd (pT τ z p).1)) + (mcd (pT τ z ((pT τ z p).2 + 1)).1)))) + 0 := by omega
                  rw [ev]
                  exact hh
              · have pl40 := pT_le τ z ((pT τ z p).2 + 1) (by omega)
                refine y_nv ?_
                refine y_st (lv' := [(4, iv x38), (3, iv (hr τ z ((pT τ z p).2))), (2, iv (mcd (pT τ z p).1)), (1, iv (hr τ z p)), (0, .ref 170)]) rfl rfl (fun d => rfl) ?_
                refine y_ld (x := .ref 170) rfl rfl (fun d => rfl) ?_
                refine y_ld (x := iv x38) rfl rfl (fun d => rfl) ?_
                refine y_ic rfl rfl ?_
                refine y_cV (as := [.ref 170, iv x38, iv 1]) rfl rfl rfl rfl rfl (md170 hM) ⟨rfl, (Nat.le_of_ble_eq_true rfl), (Nat.le_of_ble_eq_true rfl)⟩ (by omega) (ct_marks1 hM h36 ?_)
                refine y_n0 ?_
                refine y_ld (x := .ref 170) rfl rfl (fun d => rfl) ?_
                refine y_ld (x := iv 100000) rfl rfl (fun d => rfl) ?_
                refine y_ic rfl rfl ?_
                refine y_si rfl rfl (by decide) ?_
                refine y_ld (x := iv (mcd (pT τ z p).1)) rfl rfl (fun d => rfl) ?_
                refine y_mul (z := (200 * (mcd (pT τ z p).1))) rfl rfl rfl ?_
                refine y_ld (x := iv x38) rfl rfl (fun d => rfl) ?_
                refine y_add (z := ((200 * (mcd (pT τ z p).1)) + x38)) rfl rfl rfl ?_
                refine y_mul (z := (4 * ((200 * (mcd (pT τ z p).1)) + x38))) rfl rfl rfl ?_
                refine y_add (z := (100000 + (4 * ((200 * (mcd (pT τ z p).1)) + x38)))) rfl rfl rfl ?_
                refine y_ld (x := iv (hr τ z ((pT τ z p).2))) rfl rfl (fun d => rfl) ?_
                refine y_bi rfl rfl (by decide) ?_
                refine y_jne rfl rfl rfl (by omega) (fun g26 => ?_) (fun g26 => ?_)
                · refine y_ld (x := iv (hr τ z ((pT τ z p).2))) rfl rfl (fun d => rfl) ?_
                  refine y_bi rfl rfl (by decide) ?_
                  refine y_jne rfl rfl rfl (by omega) (fun g27 => ?_) (fun g27 => ?_)
                  · refine y_ic rfl rfl ?_
                    refine y_add (z := ((100000 + (4 * ((200 * (mcd (pT τ z p).1)) + x38))) + 2)) rfl rfl rfl ?_
                    refine y_cV (as := [.ref 170, iv ((100000 + (4 * ((200 * (mcd (pT τ z p).1)) + x38))) + 2)]) rfl rfl rfl rfl rfl (md170 hM) ⟨rfl, (Nat.le_of_ble_eq_true rfl), (Nat.le_of_ble_eq_true rfl)⟩ (by omega) (ct_emits1 hM h36 ?_)
                    refine y_n0 ?_
                    refine y_ret rfl (fun d => rfl) ?_
                    have eS : pS τ z p = (none, (pT τ z ((pT τ z p).2 + 1)).2) := (if_neg (by omega)).trans ((if_pos (by omega)).trans (if_pos q37))
                    exact k2 _ _ _ _ (by rw [pX_F, if_neg g2, if_neg g8, eS]) (MP_f (V' := V36) (p' := (pT τ z ((pT τ z p).2 + 1)).2) (wr' := 1) (o' := (o : Int)) (ln' := ln) h36 ⟨rfl, rfl, rfl, rfl, rfl, rfl⟩ h36.2.1 h36.2.2.2.1 h36.2.2.2.2.1 h36.2.2.2.2.2.1) (MF_tr (MF_u0 (by decide) (MF_u0 (by decide) (MF_tr (MF_tr (MF_rf a V) f4) f11))) f36) (e36.trans (e11.trans (e4.trans rfl)))
                  · refine y_ic rfl rfl ?_
                    refine y_go rfl rfl ?_
                    refine y_add (z := ((100000 + (4 * ((200 * (mcd (pT τ z p).1)) + x38))) + 1)) rfl rfl rfl ?_
                    refine y_cV (as := [.ref 170, iv ((100000 + (4 * ((200 * (mcd (pT τ z p).1)) + x38))) + 1)]) rfl rfl rfl rfl rfl (md170 hM) ⟨rfl, (Nat.le_of_ble_eq_true rfl), (Nat.le_of_ble_eq_true rfl)⟩ (by omega) (ct_emits1 hM h36 ?_)
                    refine y_n0 ?_
                    refine y_ret rfl (fun d => rfl) ?_
                    have eS : pS τ z p = (none, (pT τ z ((pT τ z p).2 + 1)).2) := (if_neg (by omega)).trans ((if_pos (by omega)).trans (if_pos q37))
                    exact k2 _ _ _ _ (by rw [pX_F, if_neg g2, if_neg g8, eS]) (MP_f (V' := V36) (p' := (pT τ z ((pT τ z p).2 + 1)).2) (wr' := 1) (o' := (o : Int)) (ln' := ln) h36 ⟨rfl, rfl, rfl, rfl, rfl, rfl⟩ h36.2.1 h36.2.2.2.1 h36.2.2.2.2.1 h36.2.2.2.2.2.1) (MF_tr (MF_u0 (by decide) (MF_u0 (by decide) (MF_tr (MF_tr (MF_rf a V) f4) f11))) f36) (e36.trans (e11.trans (e4.trans rfl)))
                · refine y_ic rfl rfl ?_
                  refine y_go rfl rfl ?_
                  refine y_add (z := ((100000 + (4 * ((200 * (mcd (pT τ z p).1)) + x38))) + 0)) rfl rfl rfl ?_
                  refine y_cV (as := [.ref 170, iv ((100000 + (4 * ((200 * (mcd (pT τ z p).1)) + x38))) + 0)]) rfl rfl rfl rfl rfl (md170 hM) ⟨rfl, (Nat.le_of_ble_eq_true rfl), (Nat.le_of_ble_eq_true rfl)⟩ (by omega) (ct_emits1 hM h36 ?_)
                  refine y_n0 ?_
                  refine y_ret rfl (fun d => rfl) ?_
                  have eS : pS τ z p = (none, (pT τ z ((pT τ z p).2 + 1)).2) := (if_neg (by omega)).trans ((if_pos (by omega)).trans (if_pos q37))
                  exact k2 _ _ _ _ (by rw [pX_F, if_neg g2, if_neg g8, eS]) (MP_f (V' := V36) (p' := (pT τ z ((pT τ z p).2 + 1)).2) (wr' := 1) (o' := (o : Int)) (ln' := ln) h36 ⟨rfl, rfl, rfl, rfl, rfl, rfl⟩ h36.2.1 h36.2.2.2.1 h36.2.2.2.2.1 h36.2.2.2.2.2.1) (MF_tr (MF_u0 (by decide) (MF_u0 (by decide) (MF_tr (MF_tr (MF_rf a V) f4) f11))) f36) (e36.trans (e11.trans (e4.trans rfl)))
            · refine y_ic rfl rfl ?_
              refine y_go rfl rfl ?_
              refine y_pZ (i := 12) rfl rfl rfl (md170 hM) rfl rfl (by decide) ?_
              refine y_ld (x := .ref 170) rfl rfl (fun d => rfl) ?_
              refine y_in rfl rfl (fun d => rfl) ?_
              refine y_gI (i := 10) (e := ((pT τ z p).2 : Int)) rfl rfl rfl (md170 hM) rfl h11.2.1 ?_
              refine y_ld (x := .ref 170) rfl rfl (fun d => rfl) ?_
              refine y_gI (i := 12) (e := 1) rfl rfl rfl (md170 hM) rfl rfl ?_
              refine y_zeq rfl rfl rfl (by decide) (fun g28 => absurd g28 (by decide)) (fun g28 => ?_)
              refine y_ic rfl rfl ?_
              refine y_go rfl rfl ?_
              refine y_add (z := (((pT τ z p).2 : Int) + 0)) rfl rfl rfl ?_
              refine y_pI (i := 10) rfl rfl rfl (md170 hM) rfl rfl ?_
              refine y_ld (x := .ref 170) rfl rfl (fun d => rfl) ?_
              refine y_cV (as := [.ref 170]) rfl rfl rfl rfl rfl (md170 hM) ⟨rfl, (Nat.le_of_ble_eq_true rfl), (Nat.le_of_ble_eq_true rfl)⟩ (by omega) (ct_term1 hM (MP_f (p' := (pT τ z p).2) (wr' := 1) (o' := (o : Int)) (ln' := ln) h11 ⟨rfl, rfl, rfl, rfl, rfl, rfl⟩ rfl rfl h11.2.2.2.2.1 h11.2.2.2.2.2.1) ?_)
              refine y_nv ?_
              refine y_st (lv' := [(4, iv 0), (3, iv (hr τ z ((pT τ z p).2))), (2, iv (mcd (pT τ z p).1)), (1, iv (hr τ z p)), (0, .ref 170)]) rfl rfl (fun d => rfl) ?_
              refine y_ld (x := .ref 170) rfl rfl (fun d => rfl) ?_
              refine y_ld (x := iv 0) rfl rfl (fun d => rfl) ?_
              refine y_ic rfl rfl ?_
              refine y_cV (as := [.ref 170, iv 0, iv 1]) rfl rfl rfl rfl rfl (md170 hM) ⟨rfl, (Nat.le_of_ble_eq_true rfl), (Nat.le_of_ble_eq_true rfl)⟩ (by omega) (ct_marks1 hM (MP_f (p' := (pT τ z p).2) (wr' := 1) (o' := (o : Int)) (ln' := ln) h11 ⟨rfl, rfl, rfl, rfl, rfl, rfl⟩ rfl rfl h11.2.2.2.2.1 h11.2.2.2.2.2.1) ?_)
              refine y_n0 ?_
              refine y_ld (x := .ref 170) rfl rfl (fun d => rfl) ?_
              refine y_ld (x := iv 100000) rfl rfl (fun d => rfl) ?_
              refine y_ic rfl rfl ?_
              refine y_si rfl rfl (by decide) ?_
              refine y_ld (x := iv (mcd (pT τ z p).1)) rfl rfl (fun d => rfl) ?_
              refine y_mul (z := (200 * (mcd (pT τ z p).1))) rfl rfl rfl ?_
              refine y_ld (x := iv 0) rfl rfl (fun d => rfl) ?_
              refine y_add (z := ((200 * (mcd (pT τ z p).1)) + 0)) rfl rfl rfl ?_
              refine y_mul (z := (4 * ((200 * (mcd (pT τ z p).1)) + 0))) rfl rfl rfl ?_
              refine y_add (z := (100000 + (4 * ((200 * (mcd (pT τ z p).1)) + 0)))) rfl rfl rfl ?_
              refine y_ld (x := iv (hr τ z ((pT τ z p).2))) rfl rfl (fun d => rfl) ?_
              refine y_bi rfl rfl (by decide) ?_
              refine y_jne rfl rfl rfl (by omega) (fun g29 => ?_) (fun g29 => ?_)
              · refine y_ld (x := iv (hr τ z ((pT τ z p).2))) rfl rfl (fun d => rfl) ?_
                refine y_bi rfl rfl (by decide) ?_
                refine y_jne rfl rfl rfl (by omega) (fun g30 => ?_) (fun g30 => ?_)
                · refine y_ic rfl rfl ?_
                  refine y_add (z := ((100000 + (4 * ((200 * (mcd (pT τ z p).1)) + 0))) + 2)) rfl rfl rfl ?_
                  refine y_cV (as := [.ref 170, iv ((100000 + (4 * ((200 * (mcd (pT τ z p).1)) + 0))) + 2)]) rfl rfl rfl rfl rfl (md170 hM) ⟨rfl, (Nat.le_of_ble_eq_true rfl), (Nat.le_of_ble_eq_true rfl)⟩ (by omega) (ct_emits1 hM (MP_f (p' := (pT τ z p).2) (wr' := 1) (o' := (o : Int)) (ln' := ln) h11 ⟨rfl, rfl, rfl, rfl, rfl, rfl⟩ rfl rfl h11.2.2.2.2.1 h11.2.2.2.2.2.1) ?_)
                  refine y_n0 ?_
                  refine y_ret rfl (fun d => rfl) ?_
                  have eS : pS τ z p = (none, (pT τ z p).2) := (if_neg (by omega)).trans (if_neg (by omega))
                  exact k2 _ _ _ _ (by rw [pX_F, if_neg g2, if_neg g8, eS]) (MP_f (V' := (v_up (v_up V11 170 12 1) 170 10 (((pT τ z p).2 : Int) + 0))) (p' := (pT τ z p).2) (wr' := 1) (o' := (o : Int)) (ln' := ln) h11 ⟨rfl, rfl, rfl, rfl, rfl, rfl⟩ rfl rfl h11.2.2.2.2.1 h11.2.2.2.2.2.1) (MF_u0 (by decide) (MF_u0 (by decide) (MF_tr (MF_tr (MF_rf a V) f4) f11))) (e11.trans (e4.trans rfl))
                · refine y_ic rfl rfl ?_
                  refine y_go rfl rfl ?_
                  refine y_add (z := ((100000 + (4 * ((200 * (mcd (pT τ z p).1)) + 0))) + 1)) rfl rfl rfl ?_
                  refine y_cV (as := [.ref 170, iv ((100000 + (4 * ((200 * (mcd (pT τ z p).1)) + 0))) + 1)]) rfl rfl rfl rfl rfl (md170 hM) ⟨rfl, (Nat.le_of_ble_eq_true rfl), (Nat.le_of_ble_eq_true rfl)⟩ (by omega) (ct_emits1 hM (MP_f (p' := (pT τ z p).2) (wr' := 1) (o' := (o : Int)) (ln' := ln) h11 ⟨rfl, rfl, rfl, rfl, rfl, rfl⟩ rfl rfl h11.2.2.2.2.1 h11.2.2.2.2.2.1) ?_)
                  refine y_n0 ?_
                  refine y_ret rfl (fun d => rfl) ?_
                  have eS : pS τ z p = (none, (pT τ z p).2) := (if_neg (by omega)).trans (if_neg (by omega))
                  exact k2 _ _ _ _ (by rw [pX_F, if_neg g2, if_neg g8, eS]) (MP_f (V' := (v_up (v_up V11 170 12 1) 170 10 (((pT τ z p).2 : Int) + 0))) (p' := (pT τ z p).2) (wr' := 1) (o' := (o : Int)) (ln' := ln) h11 ⟨rfl, rfl, rfl, rfl, rfl, rfl⟩ rfl rfl h11.2.2.2.2.1 h11.2.2.2.2.2.1) (MF_u0 (by decide) (MF_u0 (by decide) (MF_tr (MF_tr (MF_rf a V) f4) f11))) (e11.trans (e4.trans rfl))
              · refine y_ic rfl rfl ?_
                refine y_go rfl rfl ?_
                refine y_add (z := ((100000 + (4 * ((200 * (mcd (pT τ z p).1)) + 0))) + 0)) rfl rfl rfl ?_
                refine y_cV (as := [.ref 170, iv ((100000 + (4 * ((200 * (mcd (pT τ z p).1)) + 0))) + 0)]) rfl rfl rfl rfl rfl (md170 hM) ⟨rfl, (Nat.le_of_ble_eq_true rfl), (Nat.le_of_ble_eq_true rfl)⟩ (by omega) (ct_emits1 hM (MP_f (p' := (pT τ z p).2) (wr' := 1) (o' := (o : Int)) (ln' := ln) h11 ⟨rfl, rfl, rfl, rfl, rfl, rfl⟩ rfl rfl h11.2.2.2.2.1 h11.2.2.2.2.2.1) ?_)
                refine y_n0 ?_
                refine y_ret rfl (fun d => rfl) ?_
                have eS : pS τ z p = (none, (pT τ z p).2) := (if_neg (by omega)).trans (if_neg (by omega))
                exact k2 _ _ _ _ (by rw [pX_F, if_neg g2, if_neg g8, eS]) (MP_f (V' := (v_up (v_up V11 170 12 1) 170 10 (((pT τ z p).2 : Int) + 0))) (p' := (pT τ z p).2) (wr' := 1) (o' := (o : Int)) (ln' := ln) h11 ⟨rfl, rfl, rfl, rfl, rfl, rfl⟩ rfl rfl h11.2.2.2.2.1 h11.2.2.2.2.2.1) (MF_u0 (by decide) (MF_u0 (by decide) (MF_tr (MF_tr (MF_rf a V) f4) f11))) (e11.trans (e4.trans rfl))
      · have pl10 := pT_le τ z p (by omega)
        refine y_nv ?_
        refine y_st (lv' := [(2, iv x8), (1, iv (hr τ z p)), (0, .ref 170)]) rfl rfl (fun d => rfl) ?_
        refine y_ld (x := .ref 170) rfl rfl (fun d => rfl) ?_
        refine y_ld (x := iv x8) rfl rfl (fun d => rfl) ?_
        refine y_ic rfl rfl ?_
        refine y_cV (as := [.ref 170, iv x8, iv 1]) rfl rfl rfl rfl rfl (md170 hM) ⟨rfl, (Nat.le_of_ble_eq_true rfl), (Nat.le_of_ble_eq_true rfl)⟩ (by omega) (ct_marks1 hM h6 ?_)
        refine y_n0 ?_
        refine y_ld (x := .ref 170) rfl rfl (fun d => rfl) ?_
        refine y_cV (as := [.ref 170]) rfl rfl rfl rfl rfl (md170 hM) ⟨rfl, (Nat.le_of_ble_eq_true rfl), (Nat.le_of_ble_eq_true rfl)⟩ (by omega) (ct_here hM h6 (by omega) ?_)
        have hq124 := hr_rg hT ((pT τ z p).2)
        refine y_nv ?_
        refine y_st (lv' := [(3, iv (hr τ z ((pT τ z p).2))), (2, iv x8), (1, iv (hr τ z p)), (0, .ref 170)]) rfl rfl (fun d => rfl) ?_
        refine y_ld (x := .ref 170) rfl rfl (fun d => rfl) ?_
        refine y_ld (x := .ref 170) rfl rfl (fun d => rfl) ?_
        refine y_gI (i := 12) (e := 1) rfl rfl rfl (md170 hM) rfl h6.2.2.2.1 ?_
        refine y_zne rfl rfl rfl (by decide) (fun g31 => ?_) (fun g31 => absurd g31 (by decide))
        refine y_ic rfl rfl ?_
        refine y_go rfl rfl ?_
        refine y_pZ (i := 12) rfl rfl rfl (md170 hM) rfl rfl (by decide) ?_
        refine y_ld (x := .ref 170) rfl rfl (fun d => rfl) ?_
        refine y_in rfl rfl (fun d => rfl) ?_
        refine y_gI (i := 10) (e := ((pT τ z p).2 : Int)) rfl rfl rfl (md170 hM) rfl h6.2.1 ?_
        refine y_ld (x := .ref 170) rfl rfl (fun d => rfl) ?_
        refine y_gI (i := 12) (e := 1) rfl rfl rfl (md170 hM) rfl rfl ?_
        refine y_zeq rfl rfl rfl (by decide) (fun g32 => absurd g32 (by decide)) (fun g32 => ?_)
        refine y_ic rfl rfl ?_
        refine y_go rfl rfl ?_
        refine y_add (z := (((pT τ z p).2 : Int) + 0)) rfl rfl rfl ?_
        refine y_pI (i := 10) rfl rfl rfl (md170 hM) rfl rfl ?_
        refine y_ld (x := .ref 170) rfl rfl (fun d => rfl) ?_
        refine y_cV (as := [.ref 170]) rfl rfl rfl rfl rfl (md170 hM) ⟨rfl, (Nat.le_of_ble_eq_true rfl), (Nat.le_of_ble_eq_true rfl)⟩ (by omega) (ct_term1 hM (MP_f (p' := (pT τ z p).2) (wr' := 1) (o' := (o : Int)) (ln' := ln) h6 ⟨rfl, rfl, rfl, rfl, rfl, rfl⟩ rfl rfl h6.2.2.2.2.1 h6.2.2.2.2.2.1) ?_)
        refine y_nv ?_
        refine y_st (lv' := [(4, iv 0), (3, iv (hr τ z ((pT τ z p).2))), (2, iv x8), (1, iv (hr τ z p)), (0, .ref 170)]) rfl rfl (fun d => rfl) ?_
        refine y_ld (x := .ref 170) rfl rfl (fun d => rfl) ?_
        refine y_ld (x := iv 0) rfl rfl (fun d => rfl) ?_
        refine y_ic rfl rfl ?_
        refine y_cV (as := [.ref 170, iv 0, iv 1]) rfl rfl rfl rfl rfl (md170 hM) ⟨rfl, (Nat.le_of_ble_eq_true rfl), (Nat.le_of_ble_eq_true rfl)⟩ (by omega) (ct_marks1 hM (MP_f (p' := (pT τ z p).2) (wr' := 1) (o' := (o : Int)) (ln' := ln) h6 ⟨rfl, rfl, rfl, rfl, rfl, rfl⟩ rfl rfl h6.2.2.2.2.1 h6.2.2.2.2.2.1) ?_)
        refine y_n0 ?_
        refine y_ld (x := .ref 170) rfl rfl (fun d => rfl) ?_
        refine y_ld (x := iv 100000) rfl rfl (fun d => rfl) ?_
        refine y_ic rfl rfl ?_
        refine y_si rfl rfl (by decide) ?_
        refine y_ld (x := iv x8) rfl rfl (fun d => rfl) ?_
        refine y_mul (z := (200 * x8)) rfl rfl rfl ?_
        refine y_ld (x := iv 0) rfl rfl (fun d => rfl) ?_
        refine y_add (z := ((200 * x8) + 0)) rfl rfl rfl ?_
        refine y_mul (z := (4 * ((200 * x8) + 0))) rfl rfl rfl ?_
        refine y_add (z := (100000 + (4 * ((200 * x8) + 0)))) rfl rfl rfl ?_
        refine y_ld (x := iv (hr τ z ((pT τ z p).2))) rfl rfl (fun d => rfl) ?_
        refine y_bi rfl rfl (by decide) ?_
        refine y_jne rfl rfl rfl (by omega) (fun g33 => ?_) (fun g33 => ?_)
        · refine y_ld (x := iv (hr τ z ((pT τ z p).2))) rfl rfl (fun d => rfl) ?_
          refine y_bi rfl rfl (by decide) ?_
          refine y_jne rfl rfl rfl (by omega) (fun g34 => ?_) (fun g34 => ?_)
          · refine y_ic rfl rfl ?_
            refine y_add (z := ((100000 + (4 * ((200 * x8) + 0))) + 2)) rfl rfl rfl ?_
            refine y_cV (as := [.ref 170, iv ((100000 + (4 * ((200 * x8) + 0))) + 2)]) rfl rfl rfl rfl rfl (md170 hM) ⟨rfl, (Nat.le_of_ble_eq_true rfl), (Nat.le_of_ble_eq_true rfl)⟩ (by omega) (ct_emits1 hM (MP_f (p' := (pT τ z p).2) (wr' := 1) (o' := (o : Int)) (ln' := ln) h6 ⟨rfl, rfl, rfl, rfl, rfl, rfl⟩ rfl rfl h6.2.2.2.2.1 h6.2.2.2.2.2.1) ?_)
            refine y_n0 ?_
            refine y_ret rfl (fun d => rfl) ?_
            have eS : pS τ z p = (none, (pT τ z p).2) := if_pos q7
            exact k2 _ _ _ _ (by rw [pX_F, if_neg g2, if_neg g8, eS]) (MP_f (V' := (v_up (v_up V6 170 12 1) 170 10 (((pT τ z p).2 : Int) + 0))) (p' := (pT τ z p).2) (wr' := 1) (o' := (o : Int)) (ln' := ln) h6 ⟨rfl, rfl, rfl, rfl, rfl, rfl⟩ rfl rfl h6.2.2.2.2.1 h6.2.2.2.2.2.1) (MF_u0 (by decide) (MF_u0 (by decide) (MF_tr (MF_rf a V) f6))) (e6.trans rfl)
          · refine y_ic rfl rfl ?_
            refine y_go rfl rfl ?_
            refine y_add (z := ((100000 + (4 * ((200 * x8) + 0))) + 1)) rfl rfl rfl ?_
            refine y_cV (as := [.ref 170, iv ((100000 + (4 * ((200 * x8) + 0))) + 1)]) rfl rfl rfl rfl rfl (md170 hM) ⟨rfl, (Nat.le_of_ble_eq_true rfl), (Nat.le_of_ble_eq_true rfl)⟩ (by omega) (ct_emits1 hM (MP_f (p' := (pT τ z p).2) (wr' := 1) (o' := (o : Int)) (ln' := ln) h6 ⟨rfl, rfl, rfl, rfl, rfl, rfl⟩ rfl rfl h6.2.2.2.2.1 h6.2.2.2.2.2.1) ?_)
            refine y_n0 ?_
            refine y_ret rfl (fun d => rfl) ?_
            have eS : pS τ z p = (none, (pT τ z p).2) := if_pos q7
            exact k2 _ _ _ _ (by rw [pX_F, if_neg g2, if_neg g8, eS]) (MP_f (V' := (v_up (v_up V6 170 12 1) 170 10 (((pT τ z p).2 : Int) + 0))) (p' := (pT τ z p).2) (wr' := 1) (o' := (o : Int)) (ln' := ln) h6 ⟨rfl, rfl, rfl, rfl, rfl, rfl⟩ rfl rfl h6.2.2.2.2.1 h6.2.2.2.2.2.1) (MF_u0 (by decide) (MF_u0 (by decide) (MF_tr (MF_rf a V) f6))) (e6.trans rfl)
        · refine y_ic rfl rfl ?_
          refine y_go rfl rfl ?_
          refine y_add (z := ((100000 + (4 * ((200 * x8) + 0))) + 0)) rfl rfl rfl ?_
          refine y_cV (as := [.ref 170, iv ((100000 + (4 * ((200 * x8) + 0))) + 0)]) rfl rfl rfl rfl rfl (md170 hM) ⟨rfl, (Nat.le_of_ble_eq_true rfl), (Nat.le_of_ble_eq_true rfl)⟩ (by omega) (ct_emits1 hM (MP_f (p' := (pT τ z p).2) (wr' := 1) (o' := (o : Int)) (ln' := ln) h6 ⟨rfl, rfl, rfl, rfl, rfl, rfl⟩ rfl rfl h6.2.2.2.2.1 h6.2.2.2.2.2.1) ?_)
          refine y_n0 ?_
          refine y_ret rfl (fun d => rfl) ?_
          have eS : pS τ z p = (none, (pT τ z p).2) := if_pos q7
          exact k2 _ _ _ _ (by rw [pX_F, if_neg g2, if_neg g8, eS]) (MP_f (V' := (v_up (v_up V6 170 12 1) 170 10 (((pT τ z p).2 : Int) + 0))) (p' := (pT τ z p).2) (wr' := 1) (o' := (o : Int)) (ln' := ln) h6 ⟨rfl, rfl, rfl, rfl, rfl, rfl⟩ rfl rfl h6.2.2.2.2.1 h6.2.2.2.2.2.1) (MF_u0 (by decide) (MF_u0 (by decide) (MF_tr (MF_rf a V) f6))) (e6.trans rfl)
    · refine y_ld (x := .ref 170) rfl rfl (fun d => rfl) ?_
      refine y_ld (x := .ref 170) rfl rfl (fun d => rfl) ?_
      refine y_gI (i := 13) (e := (o : Int)) rfl rfl rfl (md170 hM) rfl h.2.2.2.2.1 ?_
      refine y_ic rfl rfl ?_
      refine y_jne rfl rfl rfl (by omega) (fun g35 => ?_) (fun g35 => ?_)
      · refine y_ic rfl rfl ?_
        refine y_pZ (i := 12) rfl rfl rfl (md170 hM) rfl rfl (by decide) ?_
        refine y_ld (x := .ref 170) rfl rfl (fun d => rfl) ?_
        refine y_in rfl rfl (fun d => rfl) ?_
        refine y_gI (i := 13) (e := (o : Int)) rfl rfl rfl (md170 hM) rfl h.2.2.2.2.1 ?_
        refine y_ic rfl rfl ?_
        refine y_add (z := ((o : Int) + 1)) rfl rfl rfl ?_
        refine y_pI (i := 13) rfl rfl rfl (md170 hM) rfl rfl ?_
        refine y_ld (x := .ref 170) rfl rfl (fun d => rfl) ?_
        refine y_in rfl rfl (fun d => rfl) ?_
        refine y_gI (i := 10) (e := (p : Int)) rfl rfl rfl (md170 hM) rfl h.2.1 ?_
        refine y_ld (x := .ref 170) rfl rfl (fun d => rfl) ?_
        refine y_gI (i := 12) (e := 0) rfl rfl rfl (md170 hM) rfl rfl ?_
        refine y_zeq rfl rfl rfl (by decide) (fun g36 => ?_) (fun g36 => absurd g36 (by decide))
        refine y_ic rfl rfl ?_
        refine y_add (z := ((p : Int) + 1)) rfl rfl rfl ?_
        refine y_pI (i := 10) rfl rfl rfl (md170 hM) rfl rfl ?_
        have pl0 := hr_le (τ := τ) (z := z) (p := p) (by omega)
        refine y_ld (x := iv (hr τ z p)) rfl rfl (fun d => rfl) ?_
        refine y_bi rfl rfl (by decide) ?_
        refine y_jne rfl rfl rfl (by omega) (fun g37 => ?_) (fun g37 => absurd g37 (by omega))
        refine y_ld (x := .ref 170) rfl rfl (fun d => rfl) ?_
        refine y_cV (as := [.ref 170]) rfl rfl rfl rfl rfl (md170 hM) ⟨rfl, (Nat.le_of_ble_eq_true rfl), (Nat.le_of_ble_eq_true rfl)⟩ (by omega) (hE _ _ _ _ (p + 1) (o + 1) D acc (by omega) (by omega) (by omega) (by omega) (by omega) htk (MP_f (p' := (p + 1)) (wr' := 0) (o' := ((o + 1 : Nat) : Int)) (ln' := ln) h ⟨rfl, rfl, rfl, rfl, rfl, rfl⟩ rfl rfl rfl h.2.2.2.2.2.1) (fun l45 r45 V45 x45 h45 f45 e45 => ?_) (fun r46 V46 s46 g_46 x46 h46 f46 e46 => ?_))
        · have kk45 := pX_ok _ _ _ _ _ _ _ (by decide) (by omega) x45
          have mm45 := (kk45.2.2 _ rfl)
          have tt45 := pX_tk _ _ _ _ _ _ _ (by decide) (by omega) htk x45
          refine y_n0 ?_
          refine y_ld (x := .ref 170) rfl rfl (fun d => rfl) ?_
          refine y_bi rfl rfl (by decide) ?_
          refine y_cV (as := [.ref 170, iv 41]) rfl rfl rfl rfl rfl (md170 hM) ⟨rfl, (Nat.le_of_ble_eq_true rfl), (Nat.le_of_ble_eq_true rfl)⟩ (by omega) (ct_mustA hM hT (by decide) h45 (by omega) (fun q48 V47 h47 f47 e47 => ?_) (fun q50 V49 h49 f49 e49 => ?_))
          · have pl51 := (hr_le (τ := τ) (z := z) (p := r45) (by omega))
            refine y_n0 ?_
            refine y_ld (x := .ref 170) rfl rfl (fun d => rfl) ?_
            refine y_in rfl rfl (fun d => rfl) ?_
            refine y_gI (i := 13) (e := ((o + 1 : Nat) : Int)) rfl rfl rfl (md170 hM) rfl h47.2.2.2.2.1 ?_
            refine y_ic rfl rfl ?_
            refine y_sub (z := (((o + 1 : Nat) : Int) - 1)) rfl rfl rfl ?_
            refine y_pI (i := 13) rfl rfl rfl (md170 hM) rfl rfl ?_
            refine y_ret rfl (fun d => rfl) ?_
            exact k1 _ _ _ (by rw [pX_F, if_neg g2, if_pos (by omega), if_neg (by omega), x45]; exact if_pos q48) (MP_f (V' := (v_up V47 170 13 (((o + 1 : Nat) : Int) - 1))) (p' := (r45 + 1)) (wr' := 0) (o' := (o : Int)) (ln' := ln) h47 ⟨rfl, rfl, rfl, rfl, rfl, rfl⟩ h47.2.1 h47.2.2.2.1 (by show ((o : Int) + 1) - 1 = o; omega) h47.2.2.2.2.2.1) (MF_u0 (by decide) (MF_tr (MF_tr (MF_u0 (by decide) (MF_u0 (by decide) (MF_u0 (by decide) (MF_rf a V)))) f45) f47)) (e47.trans (e45.trans rfl))
          · refine y_n0 ?_
            refine y_ld (x := .ref 170) rfl rfl (fun d => rfl) ?_
            refine y_in rfl rfl (fun d => rfl) ?_
            refine y_gI (i := 13) (e := ((o + 1 : Nat) : Int)) rfl rfl rfl (md170 hM) rfl h49.2.2.2.2.1 ?_
            refine y_ic rfl rfl ?_
            refine y_sub (z := (((o + 1 : Nat) : Int) - 1)) rfl rfl rfl ?_
            refine y_pI (i := 13) rfl rfl rfl (md170 hM) rfl rfl ?_
            refine y_ret rfl (fun d => rfl) ?_
            exact k2 _ _ _ _ (by rw [pX_F, if_neg g2, if_pos (by omega), if_neg (by omega), x45]; exact if_neg q50) (MP_f (V' := (v_up V49 170 13 (((o + 1 : Nat) : Int) - 1))) (p' := r45) (wr' := 1) (o' := (o : Int)) (ln' := ln) h49 ⟨rfl, rfl, rfl, rfl, rfl, rfl⟩ h49.2.1 h49.2.2.2.1 (by show ((o : Int) + 1) - 1 = o; omega) h49.2.2.2.2.2.1) (MF_u0 (by decide) (MF_tr (MF_tr (MF_u0 (by decide) (MF_u0 (by decide) (MF_u0 (by decide) (MF_rf a V)))) f45) f49)) (e49.trans (e45.trans rfl))
        · have kk46 := pX_ok _ _ _ _ _ _ _ (by decide) (by omega) x46
          refine y_n0 ?_
          refine y_ld (x := .ref 170) rfl rfl (fun d => rfl) ?_
          refine y_bi rfl rfl (by decide) ?_
          refine y_cV (as := [.ref 170, iv 41]) rfl rfl rfl rfl rfl (md170 hM) ⟨rfl, (Nat.le_of_ble_eq_true rfl), (Nat.le_of_ble_eq_true rfl)⟩ (by omega) (ct_must1 hM h46 (fun V52 h52 f52 e52 => ?_))
          refine y_n0 ?_
          refine y_ld (x := .ref 170) rfl rfl (fun d => rfl) ?_
          refine y_in rfl rfl (fun d => rfl) ?_
          refine y_gI (i := 13) (e := ((o + 1 : Nat) : Int)) rfl rfl rfl (md170 hM) rfl h52.2.2.2.2.1 ?_
          refine y_ic rfl rfl ?_
          refine y_sub (z := (((o + 1 : Nat) : Int) - 1)) rfl rfl rfl ?_
          refine y_pI (i := 13) rfl rfl rfl (md170 hM) rfl rfl ?_
          refine y_ret rfl (fun d => rfl) ?_
          exact k2 _ _ _ _ (by rw [pX_F, if_neg g2, if_pos (by omega), if_neg (by omega), x46]) (MP_f (V' := (v_up V52 170 13 (((o + 1 : Nat) : Int) - 1))) (p' := r46) (wr' := 1) (o' := (o : Int)) (ln' := ln) h52 ⟨rfl, rfl, rfl, rfl, rfl, rfl⟩ h52.2.1 h52.2.2.2.1 (by show ((o : Int) + 1) - 1 = o; omega) h52.2.2.2.2.2.1) (MF_u0 (by decide) (MF_tr (MF_tr (MF_u0 (by decide) (MF_u0 (by decide) (MF_u0 (by decide) (MF_rf a V)))) f46) f52)) (e52.trans (e46.trans rfl))
      · refine y_ic rfl rfl ?_
        refine y_go rfl rfl ?_
        refine y_pZ (i := 12) rfl rfl rfl (md170 hM) rfl rfl (by decide) ?_
        refine y_ld (x := .ref 170) rfl rfl (fun d => rfl) ?_
        refine y_in rfl rfl (fun d => rfl) ?_
        refine y_gI (i := 13) (e := (o : Int)) rfl rfl rfl (md170 hM) rfl h.2.2.2.2.1 ?_
        refine y_ic rfl rfl ?_
        refine y_add (z := ((o : Int) + 1)) rfl rfl rfl ?_
        refine y_pI (i := 13) rfl rfl rfl (md170 hM) rfl rfl ?_
        refine y_ld (x := .ref 170) rfl rfl (fun d => rfl) ?_
        refine y_in rfl rfl (fun d => rfl) ?_
        refine y_gI (i := 10) (e := (p : Int)) rfl rfl rfl (md170 hM) rfl h.2.1 ?_
        refine y_ld (x := .ref 170) rfl rfl (fun d => rfl) ?_
        refine y_gI (i := 12) (e := 1) rfl rfl rfl (md170 hM) rfl rfl ?_
        refine y_zeq rfl rfl rfl (by decide) (fun g38 => absurd g38 (by decide)) (fun g38 => ?_)
        refine y_ic rfl rfl ?_
        refine y_go rfl rfl ?_
        refine y_add (z := ((p : Int) + 0)) rfl rfl rfl ?_
        refine y_pI (i := 10) rfl rfl rfl (md170 hM) rfl rfl ?_
        refine y_ld (x := iv (hr τ z p)) rfl rfl (fun d => rfl) ?_
        refine y_bi rfl rfl (by decide) ?_
        refine y_jne rfl rfl rfl (by omega) (fun g39 => ?_) (fun g39 => absurd g39 (by omega))
        refine y_ld (x := .ref 170) rfl rfl (fun d => rfl) ?_
        refine y_cV (as := [.ref 170]) rfl rfl rfl rfl rfl (md170 hM) ⟨rfl, (Nat.le_of_ble_eq_true rfl), (Nat.le_of_ble_eq_true rfl)⟩ (by omega) (ct_some1 hM (MP_f (p' := p) (wr' := 1) (o' := ((o + 1 : Nat) : Int)) (ln' := ln) h ⟨rfl, rfl, rfl, rfl, rfl, rfl⟩ rfl rfl rfl h.2.2.2.2.2.1) ?_)
        refine y_n0 ?_
        refine y_ld (x := .ref 170) rfl rfl (fun d => rfl) ?_
        refine y_bi rfl rfl (by decide) ?_
        refine y_cV (as := [.ref 170, iv 41]) rfl rfl rfl rfl rfl (md170 hM) ⟨rfl, (Nat.le_of_ble_eq_true rfl), (Nat.le_of_ble_eq_true rfl)⟩ (by omega) (ct_must1 hM (MP_f (p' := p) (wr' := 1) (o' := ((o + 1 : Nat) : Int)) (ln' := ln) h ⟨rfl, rfl, rfl, rfl, rfl, rfl⟩ rfl rfl rfl h.2.2.2.2.2.1) (fun V53 h53 f53 e53 => ?_))
        refine y_n0 ?_
        refine y_ld (x := .ref 170) rfl rfl (fun d => rfl) ?_
        refine y_in rfl rfl (fun d => rfl) ?_
        refine y_gI (i := 13) (e := ((o + 1 : Nat) : Int)) rfl rfl rfl (md170 hM) rfl h53.2.2.2.2.1 ?_
        refine y_ic rfl rfl ?_
        refine y_sub (z := (((o + 1 : Nat) : Int) - 1)) rfl rfl rfl ?_
        refine y_pI (i := 13) rfl rfl rfl (md170 hM) rfl rfl ?_
        refine y_ret rfl (fun d => rfl) ?_
        exact k2 _ _ _ _ (by rw [pX_F, if_neg g2, if_pos (by omega), if_pos (by omega)]) (MP_f (V' := (v_up V53 170 13 (((o + 1 : Nat) : Int) - 1))) (p' := p) (wr' := 1) (o' := (o : Int)) (ln' := ln) h53 ⟨rfl, rfl, rfl, rfl, rfl, rfl⟩ h53.2.1 h53.2.2.2.1 (by show ((o : Int) + 1) - 1 = o; omega) h53.2.2.2.2.2.1) (MF_u0 (by decide) (MF_tr (MF_u0 (by decide) (MF_u0 (by decide) (MF_u0 (by decide) (MF_rf a V)))) f53)) (e53.trans rfl)
end
