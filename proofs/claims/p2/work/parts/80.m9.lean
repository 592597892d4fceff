section
variable {X : Nat → List Int32} {u w : Nat} {S : m_H} {V : v_V} {K : v_K}
set_option maxRecDepth 100000 in
set_option maxHeartbeats 4000000 in
theorem ct_lineHere (hM : MdS S) {a z p lnn : Nat} {τ : Nat → Int} {ln : Int} {st0 : List Int} {g0 : Nat → Int} (hT : Tp τ a z) (hln : 0 ≤ ln ∧ ln ≤ 8) (hg0 : ∀ c, c < 8 → 0 ≤ g0 c ∧ g0 c ≤ 10) (hlnn : ln = lnn ∧ lnn < 8) (hp : p ≤ z) (hl : st0.length ≤ p) (h : MP V a z τ p 0 ((0 : Nat) : Int) ln st0 g0) (k1 : ∀ x q V', pL τ z p = (some x, q) → MP V' a z τ q 0 ((0 : Nat) : Int) (ln + 1) (st0 ++ encL st0.length x) (mkL ln g0 x) → MF a V V' → V' 176 = v_uf (V 176) (8 * a + lnn) (x.2.2.2.length : Int) → K u w none S V') (k2 : ∀ q V' st' g' o', pL τ z p = (none, q) → MP V' a z τ q 1 o' ln st' g' → MF a V V' → V' 176 = V 176 → K u w none S V') : y_R X 22 123 u w [.ref 170] S V K := by
  have hz := hT.2.1
  have ha8 := hT.1
  refine y_ent (lv' := [(0, .ref 170)]) (Nat.le_of_ble_eq_true rfl) rfl ?_
  refine y_ld (x := .ref 170) rfl rfl (fun d => rfl) ?_
  refine y_cV (as := [.ref 170]) rfl rfl rfl rfl rfl (md170 hM) ⟨rfl, (Nat.le_of_ble_eq_true rfl), (Nat.le_of_ble_eq_true rfl)⟩ (by decide) (ct_here hM h (by omega) ?_)
  have hq1 := hr_rg hT (p)
  refine y_nv ?_
  refine y_st (lv' := [(1, iv (hr τ z p)), (0, .ref 170)]) rfl rfl (fun d => rfl) ?_
  refine y_ld (x := .ref 170) rfl rfl (fun d => rfl) ?_
  refine y_ld (x := iv (hr τ z p)) rfl rfl (fun d => rfl) ?_
  refine y_bi rfl rfl (by decide) ?_
  refine y_jeq rfl rfl rfl (by omega) (fun g1 => ?_) (fun g1 => ?_)
  · refine y_ic rfl rfl ?_
    refine y_pZ (i := 12) rfl rfl rfl (md170 hM) rfl rfl (by decide) ?_
    refine y_ld (x := .ref 170) rfl rfl (fun d => rfl) ?_
    refine y_in rfl rfl (fun d => rfl) ?_
    refine y_gI (i := 10) (e := ((p : Nat) : Int)) rfl rfl rfl (md170 hM) rfl h.2.1 ?_
    refine y_ld (x := .ref 170) rfl rfl (fun d => rfl) ?_
    refine y_gI (i := 12) (e := 0) rfl rfl rfl (md170 hM) rfl rfl ?_
    refine y_zeq rfl rfl rfl (by decide) (fun g2 => ?_) (fun g2 => absurd g2 (by decide))
    refine y_ic rfl rfl ?_
    refine y_add (z := (((p : Nat) : Int) + 1)) rfl rfl rfl ?_
    refine y_pI (i := 10) rfl rfl rfl (md170 hM) rfl rfl ?_
    have pl0 := hr_le (τ := τ) (z := z) (p := p) (by omega)
    refine y_si rfl rfl (by decide) ?_
    refine y_ld (x := .ref 170) rfl rfl (fun d => rfl) ?_
    refine y_gI (i := 9) (e := (a : Int)) rfl rfl rfl (md170 hM) rfl h.1 ?_
    refine y_mul (z := (200 * (a : Int))) rfl rfl rfl ?_
    refine y_ld (x := .ref 170) rfl rfl (fun d => rfl) ?_
    refine y_gR (i := 5) rfl rfl rfl (md170 hM) rfl ?_
    refine y_ld (x := .ref 170) rfl rfl (fun d => rfl) ?_
    refine y_gI (i := 9) (e := (a : Int)) rfl rfl rfl (md170 hM) rfl h.1 ?_
    refine y_ild (x := ((st0).length : Int)) (q := a) rfl rfl (md174 hM) (by omega) (by decide) (by omega) h.2.2.2.2.2.2.2.1 ?_
    refine y_add (z := (200 * a + st0.length : Nat)) rfl rfl (by omega) ?_
    refine y_st (lv' := [(2, iv (200 * a + st0.length : Nat)), (1, iv (hr τ z p)), (0, .ref 170)]) rfl rfl (fun d => rfl) ?_
    refine y_ld (x := .ref 170) rfl rfl (fun d => rfl) ?_
    refine y_si rfl rfl (by decide) ?_
    refine y_ld (x := iv (hr τ z p)) rfl rfl (fun d => rfl) ?_
    refine y_bi rfl rfl (by decide) ?_
    refine y_jne rfl rfl rfl (by omega) (fun g3 => absurd g3 (by omega)) (fun g3 => ?_)
    refine y_ic rfl rfl ?_
    refine y_go rfl rfl ?_
    refine y_add (z := 1004) rfl rfl rfl ?_
    refine y_cV (as := [.ref 170, iv 1004]) rfl rfl rfl rfl rfl (md170 hM) ⟨rfl, (Nat.le_of_ble_eq_true rfl), (Nat.le_of_ble_eq_true rfl)⟩ (by decide) (ct_emits hM (MP_f (p' := (p + 1)) (wr' := 0) (o' := ((0 : Nat) : Int)) (ln' := ln) h ⟨rfl, rfl, rfl, rfl, rfl, rfl⟩ rfl rfl h.2.2.2.2.1 h.2.2.2.2.2.1) hT.1 (by first | omega | (simp [encT_len]; omega)) (fun V1 h1 f1 e1 => ?_))
    refine y_n0 ?_
    refine y_ld (x := .ref 170) rfl rfl (fun d => rfl) ?_
    refine y_ic rfl rfl ?_
    refine y_cV (as := [.ref 170, iv 0]) rfl rfl rfl rfl rfl (md170 hM) ⟨rfl, (Nat.le_of_ble_eq_true rfl), (Nat.le_of_ble_eq_true rfl)⟩ (by decide) (ct_emits hM h1 hT.1 (by first | omega | (simp [encT_len]; omega)) (fun V2 h2 f2 e2 => ?_))
    refine y_n0 ?_
    refine y_ld (x := .ref 170) rfl rfl (fun d => rfl) ?_
    refine y_gI (i := 12) (e := 0) rfl rfl rfl (md170 hM) rfl h2.2.2.2.1 ?_
    refine y_zne rfl rfl rfl (by decide) (fun g4 => absurd g4 (by decide)) (fun g4 => ?_)
    refine y_ld (x := .ref 170) rfl rfl (fun d => rfl) ?_
    refine y_cV (as := [.ref 170]) rfl rfl rfl rfl rfl (md170 hM) ⟨rfl, (Nat.le_of_ble_eq_true rfl), (Nat.le_of_ble_eq_true rfl)⟩ (by decide) (ct_here hM h2 (by omega) ?_)
    have hq106 := hr_rg hT ((p + 1))
    refine y_nv ?_
    refine y_bi rfl rfl (by decide) ?_
    refine y_jne rfl rfl rfl (by omega) (fun g5 => ?_) (fun g5 => ?_)
    · refine y_ld (x := .ref 170) rfl rfl (fun d => rfl) ?_
      refine y_bi rfl rfl (by decide) ?_
      refine y_cV (as := [.ref 170, iv 58]) rfl rfl rfl rfl rfl (md170 hM) ⟨rfl, (Nat.le_of_ble_eq_true rfl), (Nat.le_of_ble_eq_true rfl)⟩ (by decide) (ct_mustA hM hT (by decide) h2 (by omega) (fun q4 V3 h3 f3 e3 => ?_) (fun q6 V5 h5 f5 e5 => ?_))
      · have pl7 := (hr_le (τ := τ) (z := z) (p := (p + 1)) (by omega))
        refine y_n0 ?_
        refine y_ic rfl rfl ?_
        refine y_st (lv' := [(3, iv 0), (2, iv (200 * a + st0.length : Nat)), (1, iv (hr τ z p)), (0, .ref 170)]) rfl rfl (fun d => rfl) ?_
        refine y_ld (x := .ref 170) rfl rfl (fun d => rfl) ?_
        refine y_gI (i := 12) (e := 0) rfl rfl rfl (md170 hM) rfl h3.2.2.2.1 ?_
        refine y_zne rfl rfl rfl (by decide) (fun g6 => absurd g6 (by decide)) (fun g6 => ?_)
        refine y_ic rfl rfl ?_
        refine y_go rfl rfl ?_
        refine y_st (lv' := [(4, iv 1), (3, iv 0), (2, iv (200 * a + st0.length : Nat)), (1, iv (hr τ z p)), (0, .ref 170)]) rfl rfl (fun d => rfl) ?_
        refine y_lv (l' := [(0, .ref 170), (2, iv (200 * a + st0.length : Nat)), (3, iv 0), (4, iv 1)]) rfl ⟨rfl, rfl, rfl, rfl, trivial⟩ ?_
        refine y_mono (lp_acts (D := 21) (F := 500) (atv := (200 * a + st0.length : Nat)) (st0 := ((st0 ++ [1004]) ++ [0])) (g0 := g0) hM (by decide) hT hln hg0 5 0 _ _ _ _ ((p + 1) + 1) [] rfl (by decide) rfl (by omega) (by simp [encA, encT_len]; omega) (fun x hx => by cases hx) (by have hh := h3; rw [show encA [] = [] from rfl, List.append_nil]; exact hh) ?_ ?_) (by decide)
        · intro l8 r8 V8 x8 h8 f8 e8
          have ka := pAs_ok _ _ _ _ _ (by omega) (fun x hx => by cases hx) x8
          have kb := ka.2.2 _ rfl
          simp only [encA, List.length_nil] at kb
          refine y_ld (x := .ref 170) rfl rfl (fun d => rfl) ?_
          refine y_gI (i := 12) (e := 0) rfl rfl rfl (md170 hM) rfl h8.2.2.2.1 ?_
          refine y_zne rfl rfl rfl (by decide) (fun g7 => absurd g7 (by decide)) (fun g7 => ?_)
          refine y_ld (x := .ref 170) rfl rfl (fun d => rfl) ?_
          refine y_gR (i := 4) rfl rfl rfl (md170 hM) rfl ?_
          refine y_ld (x := iv (200 * a + st0.length : Nat)) rfl rfl (fun d => rfl) ?_
          refine y_ic rfl rfl ?_
          refine y_add (z := ((200 * a + st0.length : Nat) + 1)) rfl rfl rfl ?_
          refine y_ld (x := .ref 170) rfl rfl (fun d => rfl) ?_
          refine y_gR (i := 5) rfl rfl rfl (md170 hM) rfl ?_
          refine y_ld (x := .ref 170) rfl rfl (fun d => rfl) ?_
          refine y_gI (i := 9) (e := (a : Int)) rfl rfl rfl (md170 hM) rfl h8.1 ?_
          refine y_ild (x := (((((st0 ++ [1004]) ++ [0]) ++ encA l8)).length : Int)) (q := a) rfl rfl (md174 hM) (by omega) (by decide) (by omega) h8.2.2.2.2.2.2.2.1 ?_
          refine y_ist (q := (200 * a + (st0.length + 1))) rfl rfl (md173 hM) (by omega) (by decide) (by simp; omega) ?_
          refine y_ld (x := .ref 170) rfl rfl (fun d => rfl) ?_
          refine y_gR (i := 7) rfl rfl rfl (md170 hM) rfl ?_
          refine y_bi rfl rfl (by decide) ?_
          refine y_ld (x := .ref 170) rfl rfl (fun d => rfl) ?_
          refine y_gI (i := 9) (e := (a : Int)) rfl rfl rfl (md170 hM) rfl h8.1 ?_
          refine y_mul (z := (8 * (a : Int))) rfl rfl rfl ?_
          refine y_ld (x := .ref 170) rfl rfl (fun d => rfl) ?_
          refine y_gI (i := 14) (e := ln) rfl rfl rfl (md170 hM) rfl h8.2.2.2.2.2.1 ?_
          refine y_add (z := ((8 * (a : Int)) + ln)) rfl rfl rfl ?_
          refine y_ld (x := iv (l8.length : Int)) rfl rfl (fun d => rfl) ?_
          refine y_ist (q := (8 * a + lnn)) rfl rfl (md176 hM) (by omega) (by decide) (by omega) ?_
          refine y_ld (x := .ref 170) rfl rfl (fun d => rfl) ?_
          refine y_in rfl rfl (fun d => rfl) ?_
          refine y_gI (i := 14) (e := ln) rfl rfl rfl (md170 hM) rfl h8.2.2.2.2.2.1 ?_
          refine y_ic rfl rfl ?_
          refine y_add (z := (ln + 1)) rfl rfl rfl ?_
          refine y_pI (i := 14) rfl rfl rfl (md170 hM) rfl rfl ?_
          refine y_ret rfl (fun d => rfl) ?_
          refine k1 _ _ _ (pL_4 (Or.inl g1) (pE_0 g5) q4 x8) ?_ (MF_u0 (by decide) (MF_u6 (by omega) (MF_u3 (by omega) (MF_tr (MF_tr (MF_tr (MF_tr (MF_u0 (by decide) (MF_u0 (by decide) (MF_rf a V))) f1) f2) f3) f8)))) (by show v_uf (V8 176) _ _ = _; rw [show V8 176 = V 176 from (e8.trans (e3.trans (e2.trans (e1.trans rfl))))])
          have hh := h8
          have ek : 1000 + (if hr τ z p = 42 then (4 : Int) else hr τ z p - 48) = 1004 := by rw [if_pos (by omega)]; rfl
          have eb : bodyL ((if hr τ z p = 42 then (4 : Int) else hr τ z p - 48), ((false, []) : Bool × List p_Tk).1, ((false, []) : Bool × List p_Tk).2, l8) = encA l8 := by unfold bodyL; simp [encT]
          have el : encL st0.length ((if hr τ z p = 42 then (4 : Int) else hr τ z p - 48), ((false, []) : Bool × List p_Tk).1, ((false, []) : Bool × List p_Tk).2, l8) = (1004) :: ((st0.length + 2 + (encA l8).length : Nat) : Int) :: (encA l8) := by
            unfold encL
            rw [eb]
            show (1000 + (if hr τ z p = 42 then (4 : Int) else hr τ z p - 48)) :: _ = _
            rw [ek]
          have ev : ((((st0 ++ [1004]) ++ [0]) ++ encA l8).length : Int) = ((st0.length + 2 + (encA l8).length : Nat) : Int) := by simp; omega
          rw [el, ← ev]
          have hs := MP_set (i := st0.length + 1) (x := ((((st0 ++ [1004]) ++ [0]) ++ encA l8).length : Int)) hh (by simp)
          have ea : ((st0 ++ [1004]) ++ [0]) ++ encA l8 = (st0 ++ [1004]) ++ ([0] ++ (encA l8)) := by simp only [List.append_assoc]
          have eq2 : (((st0 ++ [1004]) ++ [0]) ++ encA l8).set (st0.length + 1) ((((st0 ++ [1004]) ++ [0]) ++ encA l8).length : Int) = st0 ++ ((1004) :: ((((st0 ++ [1004]) ++ [0]) ++ encA l8).length : Int) :: (encA l8)) := (congrArg (fun l => List.set l (st0.length + 1) ((((st0 ++ [1004]) ++ [0]) ++ encA l8).length : Int)) ea).trans (v_set2 _ _ _ _ _)
          rw [eq2] at hs
          exact MP_f (MP_6 (i := 8 * a + lnn) (x := (l8.length : Int)) hs) ⟨rfl, rfl, rfl, rfl, rfl, rfl⟩ h8.2.1 h8.2.2.2.1 h8.2.2.2.2.1 rfl
        · intro r9 V9 s9 g_9 x9 h9 f9 e9
          refine y_ld (x := .ref 170) rfl rfl (fun d => rfl) ?_
          refine y_gI (i := 12) (e := 1) rfl rfl rfl (md170 hM) rfl h9.2.2.2.1 ?_
          refine y_zne rfl rfl rfl (by decide) (fun g8 => ?_) (fun g8 => absurd g8 (by decide))
          refine y_ret rfl (fun d => rfl) ?_
          exact k2 _ _ _ _ _ (pL_3 (Or.inl g1) (pE_0 g5) q4 x9) h9 (MF_tr (MF_tr (MF_tr (MF_tr (MF_u0 (by decide) (MF_u0 (by decide) (MF_rf a V))) f1) f2) f3) f9) (e9.trans (e3.trans (e2.trans (e1.trans rfl))))
      · refine y_n0 ?_
        refine y_ic rfl rfl ?_
        refine y_st (lv' := [(3, iv 0), (2, iv (200 * a + st0.length : Nat)), (1, iv (hr τ z p)), (0, .ref 170)]) rfl rfl (fun d => rfl) ?_
        refine y_ld (x := .ref 170) rfl rfl (fun d => rfl) ?_
        refine y_gI (i := 12) (e := 1) rfl rfl rfl (md170 hM) rfl h5.2.2.2.1 ?_
        refine y_zne rfl rfl rfl (by decide) (fun g9 => ?_) (fun g9 => absurd g9 (by decide))
        refine y_ic rfl rfl ?_
        refine y_st (lv' := [(4, iv 0), (3, iv 0), (2, iv (200 * a + st0.length : Nat)), (1, iv (hr τ z p)), (0, .ref 170)]) rfl rfl (fun d => rfl) ?_
        refine y_ld (x := iv 0) rfl rfl (fun d => rfl) ?_
        refine y_zeq rfl rfl rfl (by decide) (fun g10 => ?_) (fun g10 => absurd g10 (by decide))
        refine y_ld (x := .ref 170) rfl rfl (fun d => rfl) ?_
        refine y_gI (i := 12) (e := 1) rfl rfl rfl (md170 hM) rfl h5.2.2.2.1 ?_
        refine y_zne rfl rfl rfl (by decide) (fun g11 => ?_) (fun g11 => absurd g11 (by decide))
        refine y_ret rfl (fun d => rfl) ?_
        exact k2 _ _ _ _ _ (pL_2 (Or.inl g1) (pE_0 g5) q6) h5 (MF_tr (MF_tr (MF_tr (MF_u0 (by decide) (MF_u0 (by decide) (MF_rf a V))) f1) f2) f5) (e5.trans (e2.trans (e1.trans rfl)))
    · refine y_ld (x := .ref 170) rfl rfl (fun d => rfl) ?_
      refine y_in rfl rfl (fun d => rfl) ?_
      refine y_gI (i := 10) (e := (((p + 1) : Nat) : Int)) rfl rfl rfl (md170 hM) rfl h2.2.1 ?_
      refine y_ic rfl rfl ?_
      refine y_add (z := ((((p + 1) : Nat) : Int) + 1)) rfl rfl rfl ?_
      refine y_pI (i := 10) rfl rfl rfl (md170 hM) rfl rfl ?_
      have pl1 := hr_le (τ := τ) (z := z) (p := p + 1) (by omega)
      refine y_ld (x := .ref 170) rfl rfl (fun d => rfl) ?_
      refine y_ic rfl rfl ?_
      refine y_pI (i := 13) rfl rfl rfl (md170 hM) rfl rfl ?_
      refine y_ld (x := .ref 170) rfl rfl (fun d => rfl) ?_
      refine y_cV (as := [.ref 170]) rfl rfl rfl rfl rfl (md170 hM) ⟨rfl, (Nat.le_of_ble_eq_true rfl), (Nat.le_of_ble_eq_true rfl)⟩ (by decide) ((st_all (st0 := ((st0 ++ [1004]) ++ [0])) (g0 := g0) hM hT hln hg0 1000 (by decide)).2.2.2.1 _ _ _ _ (p + 1 + 1) 1 _ [] (by decide) (by omega) (by omega) (by simp; omega) (by decide : 3 * (6 - 1) + 6 ≤ 21) (fun t ht => by cases ht) (by have hh := (MP_f (V' := (v_up (v_up V2 170 10 ((((p + 1) : Nat) : Int) + 1)) 170 13 1)) (p' := (p + 1 + 1)) (wr' := 0) (o' := ((1 : Nat) : Int)) (ln' := ln) h2 ⟨rfl, rfl, rfl, rfl, rfl, rfl⟩ rfl h2.2.2.2.1 rfl h2.2.2.2.2.2.1); rw [show encT [] = [] from rfl, List.append_nil]; exact hh) (fun l10 r10 V10 x10 h10 f10 e10 => ?_) (fun r11 V11 s11 g_11 y10 h11 f11 e11 => ?_))
      · have kk10 := pX_ok _ _ _ _ _ _ _ (by decide) (by omega) x10
        have mm10 := (kk10.2.2 _ rfl)
        have tt10 := pX_tk _ _ _ _ _ _ _ (by decide) (by omega) (fun t ht => by cases ht) x10
        simp only [List.length_nil] at mm10
        refine y_n0 ?_
        refine y_ld (x := .ref 170) rfl rfl (fun d => rfl) ?_
        refine y_bi rfl rfl (by decide) ?_
        refine y_cV (as := [.ref 170, iv 41]) rfl rfl rfl rfl rfl (md170 hM) ⟨rfl, (Nat.le_of_ble_eq_true rfl), (Nat.le_of_ble_eq_true rfl)⟩ (by decide) (ct_mustA hM hT (by decide) h10 (by omega) (fun q13 V12 h12 f12 e12 => ?_) (fun q15 V14 h14 f14 e14 => ?_))
        · have pl16 := (hr_le (τ := τ) (z := z) (p := r10) (by omega))
          refine y_n0 ?_
          refine y_ld (x := .ref 170) rfl rfl (fun d => rfl) ?_
          refine y_ic rfl rfl ?_
          refine y_pI (i := 13) rfl rfl rfl (md170 hM) rfl rfl ?_
          refine y_ld (x := .ref 170) rfl rfl (fun d => rfl) ?_
          refine y_bi rfl rfl (by decide) ?_
          refine y_cV (as := [.ref 170, iv (-4)]) rfl rfl rfl rfl rfl (md170 hM) ⟨rfl, (Nat.le_of_ble_eq_true rfl), (Nat.le_of_ble_eq_true rfl)⟩ (by decide) (ct_emits hM (MP_f (p' := (r10 + 1)) (wr' := 0) (o' := ((0 : Nat) : Int)) (ln' := ln) h12 ⟨rfl, rfl, rfl, rfl, rfl, rfl⟩ h12.2.1 h12.2.2.2.1 rfl h12.2.2.2.2.2.1) hT.1 (by first | omega | (simp [encT_len]; omega)) (fun V17 h17 f17 e17 => ?_))
          refine y_n0 ?_
          refine y_ld (x := .ref 170) rfl rfl (fun d => rfl) ?_
          refine y_bi rfl rfl (by decide) ?_
          refine y_cV (as := [.ref 170, iv 58]) rfl rfl rfl rfl rfl (md170 hM) ⟨rfl, (Nat.le_of_ble_eq_true rfl), (Nat.le_of_ble_eq_true rfl)⟩ (by decide) (ct_mustA hM hT (by decide) h17 (by omega) (fun q19 V18 h18 f18 e18 => ?_) (fun q21 V20 h20 f20 e20 => ?_))
          · have pl22 := (hr_le (τ := τ) (z := z) (p := (r10 + 1)) (by omega))
            refine y_n0 ?_
            refine y_ic rfl rfl ?_
            refine y_st (lv' := [(3, iv 0), (2, iv (200 * a + st0.length : Nat)), (1, iv (hr τ z p)), (0, .ref 170)]) rfl rfl (fun d => rfl) ?_
            refine y_ld (x := .ref 170) rfl rfl (fun d => rfl) ?_
            refine y_gI (i := 12) (e := 0) rfl rfl rfl (md170 hM) rfl h18.2.2.2.1 ?_
            refine y_zne rfl rfl rfl (by decide) (fun g12 => absurd g12 (by decide)) (fun g12 => ?_)
            refine y_ic rfl rfl ?_
            refine y_go rfl rfl ?_
            refine y_st (lv' := [(4, iv 1), (3, iv 0), (2, iv (200 * a + st0.length : Nat)), (1, iv (hr τ z p)), (0, .ref 170)]) rfl rfl (fun d => rfl) ?_
            refine y_lv (l' := [(0, .ref 170), (2, iv (200 * a + st0.length : Nat)), (3, iv 0), (4, iv 1)]) rfl ⟨rfl, rfl, rfl, rfl, trivial⟩ ?_
            refine y_mono (lp_acts (D := 21) (F := 500) (atv := (200 * a + st0.length : Nat)) (st0 := ((((st0 ++ [1004]) ++ [0]) ++ encT l10) ++ [-4])) (g0 := (mkT ln g0 l10)) hM (by decide) hT hln (mkT_bd hln l10 g0 tt10 hg0) 5 0 _ _ _ _ ((r10 + 1) + 1) [] rfl (by decide) rfl (by omega) (by simp [encA, encT_len]; omega) (fun x hx => by cases hx) (by have hh := h18; rw [show encA [] = [] from rfl, List.append_nil]; exact hh) ?_ ?_) (by decide)
            · intro l23 r23 V23 x23 h23 f23 e23
              have ka := pAs_ok _ _ _ _ _ (by omega) (fun x hx => by cases hx) x23
              have kb := ka.2.2 _ rfl
              simp only [encA, List.length_nil] at kb
              refine y_ld (x := .ref 170) rfl rfl (fun d => rfl) ?_
              refine y_gI (i := 12) (e := 0) rfl rfl rfl (md170 hM) rfl h23.2.2.2.1 ?_
              refine y_zne rfl rfl rfl (by decide) (fun g13 => absurd g13 (by decide)) (fun g13 => ?_)
              refine y_ld (x := .ref 170) rfl rfl (fun d => rfl) ?_
              refine y_gR (i := 4) rfl rfl rfl (md170 hM) rfl ?_
              refine y_ld (x := iv (200 * a + st0.length : Nat)) rfl rfl (fun d => rfl) ?_
              refine y_ic rfl rfl ?_
              refine y_add (z := ((200 * a + st0.length : Nat) + 1)) rfl rfl rfl ?_
              refine y_ld (x := .ref 170) rfl rfl (fun d => rfl) ?_
              refine y_gR (i := 5) rfl rfl rfl (md170 hM) rfl ?_
              refine y_ld (x := .ref 170) rfl rfl (fun d => rfl) ?_
              refine y_gI (i := 9) (e := (a : Int)) rfl rfl rfl (md170 hM) rfl h23.1 ?_
              refine y_ild (x := (((((((st0 ++ [1004]) ++ [0]) ++ encT l10) ++ [-4]) ++ encA l23)).length : Int)) (q := a) rfl rfl (md174 hM) (by omega) (by decide) (by omega) h23.2.2.2.2.2.2.2.1 ?_
              refine y_ist (q := (200 * a + (st0.length + 1))) rfl rfl (md173 hM) (by omega) (by decide) (by simp; omega) ?_
              refine y_ld (x := .ref 170) rfl rfl (fun d => rfl) ?_
              refine y_gR (i := 7) rfl rfl rfl (md170 hM) rfl ?_
              refine y_bi rfl rfl (by decide) ?_
              refine y_ld (x := .ref 170) rfl rfl (fun d => rfl) ?_
              refine y_gI (i := 9) (e := (a : Int)) rfl rfl rfl (md170 hM) rfl h23.1 ?_
              refine y_mul (z := (8 * (a : Int))) rfl rfl rfl ?_
              refine y_ld (x := .ref 170) rfl rfl (fun d => rfl) ?_
              refine y_gI (i := 14) (e := ln) rfl rfl rfl (md170 hM) rfl h23.2.2.2.2.2.1 ?_
              refine y_add (z := ((8 * (a : Int)) + ln)) rfl rfl rfl ?_
              refine y_ld (x := iv (l23.length : Int)) rfl rfl (fun d => rfl) ?_
              refine y_ist (q := (8 * a + lnn)) rfl rfl (md176 hM) (by omega) (by decide) (by omega) ?_
              refine y_ld (x := .ref 170) rfl rfl (fun d => rfl) ?_
              refine y_in rfl rfl (fun d => rfl) ?_
              refine y_gI (i := 14) (e := ln) rfl rfl rfl (md170 hM) rfl h23.2.2.2.2.2.1 ?_
              refine y_ic rfl rfl ?_
              refine y_add (z := (ln + 1)) rfl rfl rfl ?_
              refine y_pI (i := 14) rfl rfl rfl (md170 hM) rfl rfl ?_
              refine y_ret rfl (fun d => rfl) ?_
              refine k1 _ _ _ (pL_4 (Or.inl g1) (pE_1 g5 x10 q13) q19 x23) ?_ (MF_u0 (by decide) (MF_u6 (by omega) (MF_u3 (by omega) (MF_tr (MF_tr (MF_tr (MF_u0 (by decide) (MF_tr (MF_tr (MF_u0 (by decide) (MF_u0 (by decide) (MF_tr (MF_tr (MF_u0 (by decide) (MF_u0 (by decide) (MF_rf a V))) f1) f2))) f10) f12)) f17) f18) f23)))) (by show v_uf (V23 176) _ _ = _; rw [show V23 176 = V 176 from (e23.trans (e18.trans (e17.trans (e12.trans (e10.trans (e2.trans (e1.trans rfl)))))))])
              have hh := h23
              have ek : 1000 + (if hr τ z p = 42 then (4 : Int) else hr τ z p - 48) = 1004 := by rw [if_pos (by omega)]; rfl
              have eb : bodyL ((if hr τ z p = 42 then (4 : Int) else hr τ z p - 48), (true, l10).1, (true, l10).2, l23) = encT l10 ++ ([-4] ++ encA l23) := by unfold bodyL; simp
              have el : encL st0.length ((if hr τ z p = 42 then (4 : Int) else hr τ z p - 48), (true, l10).1, (true, l10).2, l23) = (1004) :: ((st0.length + 2 + (encT l10 ++ ([-4] ++ encA l23)).length : Nat) : Int) :: (encT l10 ++ ([-4] ++ encA l23)) := by
                unfold encL
                rw [eb]
                show (1000 + (if hr τ z p = 42 then (4 : Int) else hr τ z p - 48)) :: _ = _
                rw [ek]
              have ev : ((((((st0 ++ [1004]) ++ [0]) ++ encT l10) ++ [-4]) ++ encA l23).length : Int) = ((st0.length + 2 + (encT l10 ++ ([-4] ++ encA l23)).length : Nat) : Int) := by simp; omega
              rw [el, ← ev]
              have hs := MP_set (i := st0.length + 1) (x := ((((((st0 ++ [1004]) ++ [0]) ++ encT l10) ++ [-4]) ++ encA l23).length : Int)) hh (by simp)
              have ea : ((((st0 ++ [1004]) ++ [0]) ++ encT l10) ++ [-4]) ++ encA l23 = (st0 ++ [1004]) ++ ([0] ++ (encT l10 ++ ([-4] ++ encA l23))) := by simp only [List.append_assoc]
              have eq2 : (((((st0 ++ [1004]) ++ [0]) ++ encT l10) ++ [-4]) ++ encA l23).set (st0.length + 1) ((((((st0 ++ [1004]) ++ [0]) ++ encT l10) ++ [-4]) ++ encA l23).length : Int) = st0 ++ ((1004) :: ((((((st0 ++ [1004]) ++ [0]) ++ encT l10) ++ [-4]) ++ encA l23).length : Int) :: (encT l10 ++ ([-4] ++ encA l23))) := (congrArg (fun l => List.set l (st0.length + 1) ((((((st0 ++ [1004]) ++ [0]) ++ encT l10) ++ [-4]) ++ encA l23).length : Int)) ea).trans (v_set2 _ _ _ _ _)
              rw [eq2] at hs
              exact MP_f (MP_6 (i := 8 * a + lnn) (x := (l23.length : Int)) hs) ⟨rfl, rfl, rfl, rfl, rfl, rfl⟩ h23.2.1 h23.2.2.2.1 h23.2.2.2.2.1 rfl
            · intro r24 V24 s24 g_24 x24 h24 f24 e24
              refine y_ld (x := .ref 170) rfl rfl (fun d => rfl) ?_
              refine y_gI (i := 12) (e := 1) rfl rfl rfl (md170 hM) rfl h24.2.2.2.1 ?_
              refine y_zne rfl rfl rfl (by decide) (fun g14 => ?_) (fun g14 => absurd g14 (by decide))
              refine y_ret rfl (fun d => rfl) ?_
              exact k2 _ _ _ _ _ (pL_3 (Or.inl g1) (pE_1 g5 x10 q13) q19 x24) h24 (MF_tr (MF_tr (MF_tr (MF_u0 (by decide) (MF_tr (MF_tr (MF_u0 (by decide) (MF_u0 (by decide) (MF_tr (MF_tr (MF_u0 (by decide) (MF_u0 (by decide) (MF_rf a V))) f1) f2))) f10) f12)) f17) f18) f24) (e24.trans (e18.trans (e17.trans (e12.trans (e10.trans (e2.trans (e1.trans rfl)))))))
          · refine y_n0 ?_
            refine y_ic rfl rfl ?_
            refine y_st (lv' := [(3, iv 0), (2, iv (200 * a + st0.length : Nat)), (1, iv (hr τ z p)), (0, .ref 170)]) rfl rfl (fun d => rfl) ?_
            refine y_ld (x := .ref 170) rfl rfl (fun d => rfl) ?_
            refine y_gI (i := 12) (e := 1) rfl rfl rfl (md170 hM) rfl h20.2.2.2.1 ?_
            refine y_zne rfl rfl rfl (by decide) (fun g15 => ?_) (fun g15 => absurd g15 (by decide))
            refine y_ic rfl rfl ?_
            refine y_st (lv' := [(4, iv 0), (3, iv 0), (2, iv (200 * a + st0.length : Nat)), (1, iv (hr τ z p)), (0, .ref 170)]) rfl rfl (fun d => rfl) ?_
            refine y_ld (x := iv 0) rfl rfl (fun d => rfl) ?_
            refine y_zeq rfl rfl rfl (by decide) (fun g16 => ?_) (fun g16 => absurd g16 (by decide))
            refine y_ld (x := .ref 170) rfl rfl (fun d => rfl) ?_
            refine y_gI (i := 12) (e := 1) rfl rfl rfl (md170 hM) rfl h20.2.2.2.1 ?_
            refine y_zne rfl rfl rfl (by decide) (fun g17 => ?_) (fun g17 => absurd g17 (by decide))
            refine y_ret rfl (fun d => rfl) ?_
            exact k2 _ _ _ _ _ (pL_2 (Or.inl g1) (pE_1 g5 x10 q13) q21) h20 (MF_tr (MF_tr (MF_u0 (by decide) (MF_tr (MF_tr (MF_u0 (by decide) (MF_u0 (by decide) (MF_tr (MF_tr (MF_u0 (by decide) (MF_u0 (by decide) (MF_rf a V))) f1) f2))) f10) f12)) f17) f20) (e20.trans (e17.trans (e12.trans (e10.trans (e2.trans (e1.trans rfl))))))
        · refine y_n0 ?_
          refine y_ld (x := .ref 170) rfl rfl (fun d => rfl) ?_
          refine y_ic rfl rfl ?_
          refine y_pI (i := 13) rfl rfl rfl (md170 hM) rfl rfl ?_
          refine y_ld (x := .ref 170) rfl rfl (fun d => rfl) ?_
          refine y_bi rfl rfl (by decide) ?_
          refine y_cV (as := [.ref 170, iv (-4)]) rfl rfl rfl rfl rfl (md170 hM) ⟨rfl, (Nat.le_of_ble_eq_true rfl), (Nat.le_of_ble_eq_true rfl)⟩ (by decide) (ct_emits1 hM (MP_f (p' := r10) (wr' := 1) (o' := ((0 : Nat) : Int)) (ln' := ln) h14 ⟨rfl, rfl, rfl, rfl, rfl, rfl⟩ h14.2.1 h14.2.2.2.1 rfl h14.2.2.2.2.2.1) ?_)
          refine y_n0 ?_
          refine y_ld (x := .ref 170) rfl rfl (fun d => rfl) ?_
          refine y_bi rfl rfl (by decide) ?_
          refine y_cV (as := [.ref 170, iv 58]) rfl rfl rfl rfl rfl (md170 hM) ⟨rfl, (Nat.le_of_ble_eq_true rfl), (Nat.le_of_ble_eq_true rfl)⟩ (by decide) (ct_must1 hM (MP_f (p' := r10) (wr' := 1) (o' := ((0 : Nat) : Int)) (ln' := ln) h14 ⟨rfl, rfl, rfl, rfl, rfl, rfl⟩ h14.2.1 h14.2.2.2.1 rfl h14.2.2.2.2.2.1) (fun V25 h25 f25 e25 => ?_))
          refine y_n0 ?_
          refine y_ic rfl rfl ?_
          refine y_st (lv' := [(3, iv 0), (2, iv (200 * a + st0.length : Nat)), (1, iv (hr τ z p)), (0, .ref 170)]) rfl rfl (fun d => rfl) ?_
          refine y_ld (x := .ref 170) rfl rfl (fun d => rfl) ?_
          refine y_gI (i := 12) (e := 1) rfl rfl rfl (md170 hM) rfl h25.2.2.2.1 ?_
          refine y_zne rfl rfl rfl (by decide) (fun g18 => ?_) (fun g18 => absurd g18 (by decide))
          refine y_ic rfl rfl ?_
          refine y_st (lv' := [(4, iv 0), (3, iv 0), (2, iv (200 * a + st0.length : Nat)), (1, iv (hr τ z p)), (0, .ref 170)]) rfl rfl (fun d => rfl) ?_
          refine y_ld (x := iv 0) rfl rfl (fun d => rfl) ?_
          refine y_zeq rfl rfl rfl (by decide) (fun g19 => ?_) (fun g19 => absurd g19 (by decide))
          refine y_ld (x := .ref 170) rfl rfl (fun d => rfl) ?_
          refine y_gI (i := 12) (e := 1) rfl rfl rfl (md170 hM) rfl h25.2.2.2.1 ?_
          refine y_zne rfl rfl rfl (by decide) (fun g20 => ?_) (fun g20 => absurd g20 (by decide))
          refine y_ret rfl (fun d => rfl) ?_
          exact k2 _ _ _ _ _ (pL_1 (Or.inl g1) (pE_2 g5 x10 q15)) h25 (MF_tr (MF_u0 (by decide) (MF_tr (MF_tr (MF_u0 (by decide) (MF_u0 (by decide) (MF_tr (MF_tr (MF_u0 (by decide) (MF_u0 (by decide) (MF_rf a V))) f1) f2))) f10) f14)) f25) (e25.trans (e14.trans (e10.trans (e2.trans (e1.trans rfl)))))
      · have kk11 := pX_ok _ _ _ _ _ _ _ (by decide) (by omega) y10
        refine y_n0 ?_
        refine y_ld (x := .ref 170) rfl rfl (fun d => rfl) ?_
        refine y_bi rfl rfl (by decide) ?_
        refine y_cV (as := [.ref 170, iv 41]) rfl rfl rfl rfl rfl (md170 hM) ⟨rfl, (Nat.le_of_ble_eq_true rfl), (Nat.le_of_ble_eq_true rfl)⟩ (by decide) (ct_must1 hM h11 (fun V26 h26 f26 e26 => ?_))
        refine y_n0 ?_
        refine y_ld (x := .ref 170) rfl rfl (fun d => rfl) ?_
        refine y_ic rfl rfl ?_
        refine y_pI (i := 13) rfl rfl rfl (md170 hM) rfl rfl ?_
        refine y_ld (x := .ref 170) rfl rfl (fun d => rfl) ?_
        refine y_bi rfl rfl (by decide) ?_
        refine y_cV (as := [.ref 170, iv (-4)]) rfl rfl rfl rfl rfl (md170 hM) ⟨rfl, (Nat.le_of_ble_eq_true rfl), (Nat.le_of_ble_eq_true rfl)⟩ (by decide) (ct_emits1 hM (MP_f (p' := r11) (wr' := 1) (o' := ((0 : Nat) : Int)) (ln' := ln) h26 ⟨rfl, rfl, rfl, rfl, rfl, rfl⟩ h26.2.1 h26.2.2.2.1 rfl h26.2.2.2.2.2.1) ?_)
        refine y_n0 ?_
        refine y_ld (x := .ref 170) rfl rfl (fun d => rfl) ?_
        refine y_bi rfl rfl (by decide) ?_
        refine y_cV (as := [.ref 170, iv 58]) rfl rfl rfl rfl rfl (md170 hM) ⟨rfl, (Nat.le_of_ble_eq_true rfl), (Nat.le_of_ble_eq_true rfl)⟩ (by decide) (ct_must1 hM (MP_f (p' := r11) (wr' := 1) (o' := ((0 : Nat) : Int)) (ln' := ln) h26 ⟨rfl, rfl, rfl, rfl, rfl, rfl⟩ h26.2.1 h26.2.2.2.1 rfl h26.2.2.2.2.2.1) (fun V27 h27 f27 e27 => ?_))
        refine y_n0 ?_
        refine y_ic rfl rfl ?_
        refine y_st (lv' := [(3, iv 0), (2, iv (200 * a + st0.length : Nat)), (1, iv (hr τ z p)), (0, .ref 170)]) rfl rfl (fun d => rfl) ?_
        refine y_ld (x := .ref 170) rfl rfl (fun d => rfl) ?_
        refine y_gI (i := 12) (e := 1) rfl rfl rfl (md170 hM) rfl h27.2.2.2.1 ?_
        refine y_zne rfl rfl rfl (by decide) (fun g21 => ?_) (fun g21 => absurd g21 (by decide))
        refine y_ic rfl rfl ?_
        refine y_st (lv' := [(4, iv 0), (3, iv 0), (2, iv (200 * a + st0.length : Nat)), (1, iv (hr τ z p)), (0, .ref 170)]) rfl rfl (fun d => rfl) ?_
        refine y_ld (x := iv 0) rfl rfl (fun d => rfl) ?_
        refine y_zeq rfl rfl rfl (by decide) (fun g22 => ?_) (fun g22 => absurd g22 (by decide))
        refine y_ld (x := .ref 170) rfl rfl (fun d => rfl) ?_
        refine y_gI (i := 12) (e := 1) rfl rfl rfl (md170 hM) rfl h27.2.2.2.1 ?_
        refine y_zne rfl rfl rfl (by decide) (fun g23 => ?_) (fun g23 => absurd g23 (by decide))
        refine y_ret rfl (fun d => rfl) ?_
        exact k2 _ _ _ _ _ (pL_1 (Or.inl g1) (pE_3 g5 y10)) h27 (MF_tr (MF_u0 (by decide) (MF_tr (MF_tr (MF_u0 (by decide) (MF_u0 (by decide) (MF_tr (MF_tr (MF_u0 (by decide) (MF_u0 (by decide) (MF_rf a V))) f1) f2))) f11) f26)) f27) (e27.trans (e26.trans (e11.trans (e2.trans (e1.trans rfl)))))
  · refine y_ld (x := iv (hr τ z p)) rfl rfl (fun d => rfl) ?_
    refine y_bi rfl rfl (by decide) ?_
    refine y_bi rfl rfl (by decide) ?_
    refine y_cS (as := [iv (hr τ z p), iv 48, iv 51]) rfl (by decide) rfl rfl rfl rfl ⟨(Nat.le_of_ble_eq_true rfl), (Nat.le_of_ble_eq_true rfl)⟩ (by decide) (ct_in (by omega) ?_)
    refine y_nv ?_
    refine y_bne rfl rfl rfl (fun g24 => ?_) (fun g24 => ?_)
    · refine y_ic rfl rfl ?_
      refine y_pZ (i := 12) rfl rfl rfl (md170 hM) rfl rfl (by decide) ?_
      refine y_ld (x := .ref 170) rfl rfl (fun d => rfl) ?_
      refine y_in rfl rfl (fun d => rfl) ?_
      refine y_gI (i := 10) (e := ((p : Nat) : Int)) rfl rfl rfl (md170 hM) rfl h.2.1 ?_
      refine y_ld (x := .ref 170) rfl rfl (fun d => rfl) ?_
      refine y_gI (i := 12) (e := 0) rfl rfl rfl (md170 hM) rfl rfl ?_
      refine y_zeq rfl rfl rfl (by decide) (fun g25 => ?_) (fun g25 => absurd g25 (by decide))
      refine y_ic rfl rfl ?_
      refine y_add (z := (((p : Nat) : Int) + 1)) rfl rfl rfl ?_
      refine y_pI (i := 10) rfl rfl rfl (md170 hM) rfl rfl ?_
      have pl0 := hr_le (τ := τ) (z := z) (p := p) (by omega)
      refine y_si rfl rfl (by decide) ?_
      refine y_ld (x := .ref 170) rfl rfl (fun d => rfl) ?_
      refine y_gI (i := 9) (e := (a : Int)) rfl rfl rfl (md170 hM) rfl h.1 ?_
      refine y_mul (z := (200 * (a : Int))) rfl rfl rfl ?_
      refine y_ld (x := .ref 170) rfl rfl (fun d => rfl) ?_
      refine y_gR (i := 5) rfl rfl rfl (md170 hM) rfl ?_
      refine y_ld (x := .ref 170) rfl rfl (fun d => rfl) ?_
      refine y_gI (i := 9) (e := (a : Int)) rfl rfl rfl (md170 hM) rfl h.1 ?_
      refine y_ild (x := ((st0).length : Int)) (q := a) rfl rfl (md174 hM) (by omega) (by decide) (by omega) h.2.2.2.2.2.2.2.1 ?_
      refine y_add (z := (200 * a + st0.length : Nat)) rfl rfl (by omega) ?_
      refine y_st (lv' := [(2, iv (200 * a + st0.length : Nat)), (1, iv (hr τ z p)), (0, .ref 170)]) rfl rfl (fun d => rfl) ?_
      refine y_ld (x := .ref 170) rfl rfl (fun d => rfl) ?_
      refine y_si rfl rfl (by decide) ?_
      refine y_ld (x := iv (hr τ z p)) rfl rfl (fun d => rfl) ?_
      refine y_bi rfl rfl (by decide) ?_
      refine y_jne rfl rfl rfl (by omega) (fun g26 => ?_) (fun g26 => absurd g26 (by omega))
      refine y_ld (x := iv (hr τ z p)) rfl rfl (fun d => rfl) ?_
      refine y_bi rfl rfl (by decide) ?_
      refine y_sub (z := ((hr τ z p) - 48)) rfl rfl rfl ?_
      refine y_add (z := (1000 + ((hr τ z p) - 48))) rfl rfl rfl ?_
      refine y_cV (as := [.ref 170, iv (1000 + ((hr τ z p) - 48))]) rfl rfl rfl rfl rfl (md170 hM) ⟨rfl, (Nat.le_of_ble_eq_true rfl), (Nat.le_of_ble_eq_true rfl)⟩ (by decide) (ct_emits hM (MP_f (p' := (p + 1)) (wr' := 0) (o' := ((0 : Nat) : Int)) (ln' := ln) h ⟨rfl, rfl, rfl, rfl, rfl, rfl⟩ rfl rfl h.2.2.2.2.1 h.2.2.2.2.2.1) hT.1 (by first | omega | (simp [encT_len]; omega)) (fun V28 h28 f28 e28 => ?_))
      refine y_n0 ?_
      refine y_ld (x := .ref 170) rfl rfl (fun d => rfl) ?_
      refine y_ic rfl rfl ?_
      refine y_cV (as := [.ref 170, iv 0]) rfl rfl rfl rfl rfl (md170 hM) ⟨rfl, (Nat.le_of_ble_eq_true rfl), (Nat.le_of_ble_eq_true rfl)⟩ (by decide) (ct_emits hM h28 hT.1 (by first | omega | (simp [encT_len]; omega)) (fun V29 h29 f29 e29 => ?_))
      refine y_n0 ?_
      refine y_ld (x := .ref 170) rfl rfl (fun d => rfl) ?_
      refine y_gI (i := 12) (e := 0) rfl rfl rfl (md170 hM) rfl h29.2.2.2.1 ?_
      refine y_zne rfl rfl rfl (by decide) (fun g27 => absurd g27 (by decide)) (fun g27 => ?_)
      refine y_ld (x := .ref 170) rfl rfl (fun d => rfl) ?_
      refine y_cV (as := [.ref 170]) rfl rfl rfl rfl rfl (md170 hM) ⟨rfl, (Nat.le_of_ble_eq_true rfl), (Nat.le_of_ble_eq_true rfl)⟩ (by decide) (ct_here hM h29 (by omega) ?_)
      have hq106 := hr_rg hT ((p + 1))
      refine y_nv ?_
      refine y_bi rfl rfl (by decide) ?_
      refine y_jne rfl rfl rfl (by omega) (fun g28 => ?_) (fun g28 => ?_)
      · refine y_ld (x := .ref 170) rfl rfl (fun d => rfl) ?_
        refine y_bi rfl rfl (by decide) ?_
        refine y_cV (as := [.ref 170, iv 58]) rfl rfl rfl rfl rfl (md170 hM) ⟨rfl, (Nat.le_of_ble_eq_true rfl), (Nat.le_of_ble_eq_true rfl)⟩ (by decide) (ct_mustA hM hT (by decide) h29 (by omega) (fun q31 V30 h30 f30 e30 => ?_) (fun q33 V32 h32 f32 e32 => ?_))
        · have pl34 := (hr_le (τ := τ) (z := z) (p := (p + 1)) (by omega))
          refine y_n0 ?_
          refine y_ic rfl rfl ?_
          refine y_st (lv' := [(3, iv 0), (2, iv (200 * a + st0.length : Nat)), (1, iv (hr τ z p)), (0, .ref 170)]) rfl rfl (fun d => rfl) ?_
          refine y_ld (x := .ref 170) rfl rfl (fun d => rfl) ?_
          refine y_gI (i := 12) (e := 0) rfl rfl rfl (md170 hM) rfl h30.2.2.2.1 ?_
          refine y_zne rfl rfl rfl (by decide) (fun g29 => absurd g29 (by decide)) (fun g29 => ?_)
          refine y_ic rfl rfl ?_
          refine y_go rfl rfl ?_
          refine y_st (lv' := [(4, iv 1), (3, iv 0), (2, iv (200 * a + st0.length : Nat)), (1, iv (hr τ z p)), (0, .ref 170)]) rfl rfl (fun d => rfl) ?_
          refine y_lv (l' := [(0, .ref 170), (2, iv (200 * a + st0.length : Nat)), (3, iv 0), (4, iv 1)]) rfl ⟨rfl, rfl, rfl, rfl, trivial⟩ ?_
          refine y_mono (lp_acts (D := 21) (F := 500) (atv := (200 * a + st0.length : Nat)) (st0 := ((st0 ++ [1000 + ((hr τ z p) - 48)]) ++ [0])) (g0 := g0) hM (by decide) hT hln hg0 5 0 _ _ _ _ ((p + 1) + 1) [] rfl (by decide) rfl (by omega) (by simp [encA, encT_len]; omega) (fun x hx => by cases hx) (by have hh := h30; rw [show encA [] = [] from rfl, List.append_nil]; exact hh) ?_ ?_) (by decide)
          · intro l35 r35 V35 x35 h35 f35 e35
            have ka := pAs_ok _ _ _ _ _ (by omega) (fun x hx => by cases hx) x35
            have kb := ka.2.2 _ rfl
            simp only [encA, List.length_nil] at kb
            refine y_ld (x := .ref 170) rfl rfl (fun d => rfl) ?_
            refine y_gI (i := 12) (e := 0) rfl rfl rfl (md170 hM) rfl h35.2.2.2.1 ?_
            refine y_zne rfl rfl rfl (by decide) (fun g30 => absurd g30 (by decide)) (fun g30 => ?_)
            refine y_ld (x := .ref 170) rfl rfl (fun d => rfl) ?_
            refine y_gR (i := 4) rfl rfl rfl (md170 hM) rfl ?_
            refine y_ld (x := iv (200 * a + st0.length : Nat)) rfl rfl (fun d => rfl) ?_
            refine y_ic rfl rfl ?_
            refine y_add (z := ((200 * a + st0.length : Nat) + 1)) rfl rfl rfl ?_
            refine y_ld (x := .ref 170) rfl rfl (fun d => rfl) ?_
            refine y_gR (i := 5) rfl rfl rfl (md170 hM) rfl ?_
            refine y_ld (x := .ref 170) rfl rfl (fun d => rfl) ?_
            refine y_gI (i := 9) (e := (a : Int)) rfl rfl rfl (md170 hM) rfl h35.1 ?_
            refine y_ild (x := (((((st0 ++ [1000 + ((hr τ z p) - 48)]) ++ [0]) ++ encA l35)).length : Int)) (q := a) rfl rfl (md174 hM) (by omega) (by decide) (by omega) h35.2.2.2.2.2.2.2.1 ?_
            refine y_ist (q := (200 * a + (st0.length + 1))) rfl rfl (md173 hM) (by omega) (by decide) (by simp; omega) ?_
            refine y_ld (x := .ref 170) rfl rfl (fun d => rfl) ?_
            refine y_gR (i := 7) rfl rfl rfl (md170 hM) rfl ?_
            refine y_bi rfl rfl (by decide) ?_
            refine y_ld (x := .ref 170) rfl rfl (fun d => rfl) ?_
            refine y_gI (i := 9) (e := (a : Int)) rfl rfl rfl (md170 hM) rfl h35.1 ?_
            refine y_mul (z := (8 * (a : Int))) rfl rfl rfl ?_
            refine y_ld (x := .ref 170) rfl rfl (fun d => rfl) ?_
            refine y_gI (i := 14) (e := ln) rfl rfl rfl (md170 hM) rfl h35.2.2.2.2.2.1 ?_
            refine y_add (z := ((8 * (a : Int)) + ln)) rfl rfl rfl ?_
            refine y_ld (x := iv (l35.length : Int)) rfl rfl (fun d => rfl) ?_
            refine y_ist (q := (8 * a + lnn)) rfl rfl (md176 hM) (by omega) (by decide) (by omega) ?_
            refine y_ld (x := .ref 170) rfl rfl (fun d => rfl) ?_
            refine y_in rfl rfl (fun d => rfl) ?_
            refine y_gI (i := 14) (e := ln) rfl rfl rfl (md170 hM) rfl h35.2.2.2.2.2.1 ?_
            refine y_ic rfl rfl ?_
            refine y_add (z := (ln + 1)) rfl rfl rfl ?_
            refine y_pI (i := 14) rfl rfl rfl (md170 hM) rfl rfl ?_
            refine y_ret rfl (fun d => rfl) ?_
            refine k1 _ _ _ (pL_4 (Or.inr (by omega)) (pE_0 g28) q31 x35) ?_ (MF_u0 (by decide) (MF_u6 (by omega) (MF_u3 (by omega) (MF_tr (MF_tr (MF_tr (MF_tr (MF_u0 (by decide) (MF_u0 (by decide) (MF_rf a V))) f28) f29) f30) f35)))) (by show v_uf (V35 176) _ _ = _; rw [show V35 176 = V 176 from (e35.trans (e30.trans (e29.trans (e28.trans rfl))))])
            have hh := h35
            have ek : 1000 + (if hr τ z p = 42 then (4 : Int) else hr τ z p - 48) = 1000 + ((hr τ z p) - 48) := by rw [if_neg (by omega)]
            have eb : bodyL ((if hr τ z p = 42 then (4 : Int) else hr τ z p - 48), ((false, []) : Bool × List p_Tk).1, ((false, []) : Bool × List p_Tk).2, l35) = encA l35 := by unfold bodyL; simp [encT]
            have el : encL st0.length ((if hr τ z p = 42 then (4 : Int) else hr τ z p - 48), ((false, []) : Bool × List p_Tk).1, ((false, []) : Bool × List p_Tk).2, l35) = (1000 + ((hr τ z p) - 48)) :: ((st0.length + 2 + (encA l35).length : Nat) : Int) :: (encA l35) := by
              unfold encL
              rw [eb]
              show (1000 + (if hr τ z p = 42 then (4 : Int) else hr τ z p - 48)) :: _ = _
              rw [ek]
            have ev : ((((st0 ++ [1000 + ((hr τ z p) - 48)]) ++ [0]) ++ encA l35).length : Int) = ((st0.length + 2 + (encA l35).length : Nat) : Int) := by simp; omega
            rw [el, ← ev]
            have hs := MP_set (i := st0.length + 1) (x := ((((st0 ++ [1000 + ((hr τ z p) - 48)]) ++ [0]) ++ encA l35).length : Int)) hh (by simp)
            have ea : ((st0 ++ [1000 + ((hr τ z p) - 48)]) ++ [0]) ++ encA l35 = (st0 ++ [1000 + ((hr τ z p) - 48)]) ++ ([0] ++ (encA l35)) := by simp only [List.append_assoc]
            have eq2 : (((st0 ++ [1000 + ((hr τ z p) - 48)]) ++ [0]) ++ encA l35).set (st0.length + 1) ((((st0 ++ [1000 + ((hr τ z p) - 48)]) ++ [0]) ++ encA l35).length : Int) = st0 ++ ((1000 + ((hr τ z p) - 48)) :: ((((st0 ++ [1000 + ((hr τ z p) - 48)]) ++ [0]) ++ encA l35).length : Int) :: (encA l35)) := (congrArg (fun l => List.set l (st0.length + 1) ((((st0 ++ [1000 + ((hr τ z p) - 48)]) ++ [0]) ++ encA l35).length : Int)) ea).trans (v_set2 _ _ _ _ _)
            rw [eq2] at hs
            exact MP_f (MP_6 (i := 8 * a + lnn) (x := (l35.length : Int)) hs) ⟨rfl, rfl, rfl, rfl, rfl, rfl⟩ h35.2.1 h35.2.2.2.1 h35.2.2.2.2.1 rfl
          · intro r36 V36 s36 g_36 x36 h36 f36 e36
            refine y_ld (x := .ref 170) rfl rfl (fun d => rfl) ?_
            refine y_gI (i := 12) (e := 1) rfl rfl rfl (md170 hM) rfl h36.2.2.2.1 ?_
            refine y_zne rfl rfl rfl (by decide) (fun g31 => ?_) (fun g31 => absurd g31 (by decide))
            refine y_ret rfl (fun d => rfl) ?_
            exact k2 _ _ _ _ _ (pL_3 (Or.inr (by omega)) (pE_0 g28) q31 x36) h36 (MF_tr (MF_tr (MF_tr (MF_tr (MF_u0 (by decide) (MF_u0 (by decide) (MF_rf a V))) f28) f29) f30) f36) (e36.trans (e30.trans (e29.trans (e28.trans rfl))))
        · refine y_n0 ?_
          refine y_ic rfl rfl ?_
          refine y_st (lv' := [(3, iv 0), (2, iv (200 * a + st0.length : Nat)), (1, iv (hr τ z p)), (0, .ref 170)]) rfl rfl (fun d => rfl) ?_
          refine y_ld (x := .ref 170) rfl rfl (fun d => rfl) ?_
          refine y_gI (i := 12) (e := 1) rfl rfl rfl (md170 hM) rfl h32.2.2.2.1 ?_
          refine y_zne rfl rfl rfl (by decide) (fun g32 => ?_) (fun g32 => absurd g32 (by decide))
          refine y_ic rfl rfl ?_
          refine y_st (lv' := [(4, iv 0), (3, iv 0), (2, iv (200 * a + st0.length : Nat)), (1, iv (hr τ z p)), (0, .ref 170)]) rfl rfl (fun d => rfl) ?_
          refine y_ld (x := iv 0) rfl rfl (fun d => rfl) ?_
          refine y_zeq rfl rfl rfl (by decide) (fun g33 => ?_) (fun g33 => absurd g33 (by decide))
          refine y_ld (x := .ref 170) rfl rfl (fun d => rfl) ?_
          refine y_gI (i := 12) (e := 1) rfl rfl rfl (md170 hM) rfl h32.2.2.2.1 ?_
          refine y_zne rfl rfl rfl (by decide) (fun g34 => ?_) (fun g34 => absurd g34 (by decide))
          refine y_ret rfl (fun d => rfl) ?_
          exact k2 _ _ _ _ _ (pL_2 (Or.inr (by omega)) (pE_0 g28) q33) h32 (MF_tr (MF_tr (MF_tr (MF_u0 (by decide) (MF_u0 (by decide) (MF_rf a V))) f28) f29) f32) (e32.trans (e29.trans (e28.trans rfl)))
      · refine y_ld (x := .ref 170) rfl rfl (fun d => rfl) ?_
        refine y_in rfl rfl (fun d => rfl) ?_
        refine y_gI (i := 10) (e := (((p + 1) : Nat) : Int)) rfl rfl rfl (md170 hM) rfl h29.2.1 ?_
        refine y_ic rfl rfl ?_
        refine y_add (z := ((((p + 1) : Nat) : Int) + 1)) rfl rfl rfl ?_
        refine y_pI (i := 10) rfl rfl rfl (md170 hM) rfl rfl ?_
        have pl1 := hr_le (τ := τ) (z := z) (p := p + 1) (by omega)
        refine y_ld (x := .ref 170) rfl rfl (fun d => rfl) ?_
        refine y_ic rfl rfl ?_
        refine y_pI (i := 13) rfl rfl rfl (md170 hM) rfl rfl ?_
        refine y_ld (x := .ref 170) rfl rfl (fun d => rfl) ?_
        refine y_cV (as := [.ref 170]) rfl rfl rfl rfl rfl (md170 hM) ⟨rfl, (Nat.le_of_ble_eq_true rfl), (Nat.le_of_ble_eq_true rfl)⟩ (by decide) ((st_all (st0 := ((st0 ++ [1000 + ((hr τ z p) - 48)]) ++ [0])) (g0 := g0) hM hT hln hg0 1000 (by decide)).2.2.2.1 _ _ _ _ (p + 1 + 1) 1 _ [] (by decide) (by omega) (by omega) (by simp; omega) (by decide : 3 * (6 - 1) + 6 ≤ 21) (fun t ht => by cases ht) (by have hh := (MP_f (V' := (v_up (v_up V29 170 10 ((((p + 1) : Nat) : Int) + 1)) 170 13 1)) (p' := (p + 1 + 1)) (wr' := 0) (o' := ((1 : Nat) : Int)) (ln' := ln) h29 ⟨rfl, rfl, rfl, rfl, rfl, rfl⟩ rfl h29.2.2.2.1 rfl h29.2.2.2.2.2.1); rw [show encT [] = [] from rfl, List.append_nil]; exact hh) (fun l37 r37 V37 x37 h37 f37 e37 => ?_) (fun r38 V38 s38 g_38 y37 h38 f38 e38 => ?_))
        · have kk37 := pX_ok _ _ _ _ _ _ _ (by decide) (by omega) x37
          have mm37 := (kk37.2.2 _ rfl)
          have tt37 := pX_tk _ _ _ _ _ _ _ (by decide) (by omega) (fun t ht => by cases ht) x37
          simp only [List.length_nil] at mm37
          refine y_n0 ?_
          refine y_ld (x := .ref 170) rfl rfl (fun d => rfl) ?_
          refine y_bi rfl rfl (by decide) ?_
          refine y_cV (as := [.ref 170, iv 41]) rfl rfl rfl rfl rfl (md170 hM) ⟨rfl, (Nat.le_of_ble_eq_true rfl), (Nat.le_of_ble_eq_true rfl)⟩ (by decide) (ct_mustA hM hT (by decide) h37 (by omega) (fun q40 V39 h39 f39 e39 => ?_) (fun q42 V41 h41 f41 e41 => ?_))
          · have pl43 := (hr_le (τ := τ) (z := z) (p := r37) (by omega))
            refine y_n0 ?_
            refine y_ld (x := .ref 170) rfl rfl (fun d => rfl) ?_
            refine y_ic rfl rfl ?_
            refine y_pI (i := 13) rfl rfl rfl (md170 hM) rfl rfl ?_
            refine y_ld (x := .ref 170) rfl rfl (fun d => rfl) ?_
            refine y_bi rfl rfl (by decide) ?_
            refine y_cV (as := [.ref 170, iv (-4)]) rfl rfl rfl rfl rfl (md170 hM) ⟨rfl, (Nat.le_of_ble_eq_true rfl), (Nat.le_of_ble_eq_true rfl)⟩ (by decide) (ct_emits hM (MP_f (p' := (r37 + 1)) (wr' := 0) (o' := ((0 : Nat) : Int)) (ln' := ln) h39 ⟨rfl, rfl, rfl, rfl, rfl, rfl⟩ h39.2.1 h39.2.2.2.1 rfl h39.2.2.2.2.2.1) hT.1 (by first | omega | (simp [encT_len]; omega)) (fun V44 h44 f44 e44 => ?_))
            refine y_n0 ?_
            refine y_ld (x := .ref 170) rfl rfl (fun d => rfl) ?_
            refine y_bi rfl rfl (by decide) ?_
            refine y_cV (as := [.ref 170, iv 58]) rfl rfl rfl rfl rfl (md170 hM) ⟨rfl, (Nat.le_of_ble_eq_true rfl), (Nat.le_of_ble_eq_true rfl)⟩ (by decide) (ct_mustA hM hT (by decide) h44 (by omega) (fun q46 V45 h45 f45 e45 => ?_) (fun q48 V47 h47 f47 e47 => ?_))
            · have pl49 := (hr_le (τ := τ) (z := z) (p := (r37 + 1)) (by omega))
              refine y_n0 ?_
              refine y_ic rfl rfl ?_
              refine y_st (lv' := [(3, iv 0), (2, iv (200 * a + st0.length : Nat)), (1, iv (hr τ z p)), (0, .ref 170)]) rfl rfl (fun d => rfl) ?_
              refine y_ld (x := .ref 170) rfl rfl (fun d => rfl) ?_
              refine y_gI (i := 12) (e := 0) rfl rfl rfl (md170 hM) rfl h45.2.2.2.1 ?_
              refine y_zne rfl rfl rfl (by decide) (fun g35 => absurd g35 (by decide)) (fun g35 => ?_)
              refine y_ic rfl rfl ?_
              refine y_go rfl rfl ?_
              refine y_st (lv' := [(4, iv 1), (3, iv 0), (2, iv (200 * a + st0.length : Nat)), (1, iv (hr τ z p)), (0, .ref 170)]) rfl rfl (fun d => rfl) ?_
              refine y_lv (l' := [(0, .ref 170), (2, iv (200 * a + st0.length : Nat)), (3, iv 0), (4, iv 1)]) rfl ⟨rfl, rfl, rfl, rfl, trivial⟩ ?_
              refine y_mono (lp_acts (D := 21) (F := 500) (atv := (200 * a + st0.length : Nat)) (st0 := ((((st0 ++ [1000 + ((hr τ z p) - 48)]) ++ [0]) ++ encT l37) ++ [-4])) (g0 := (mkT ln g0 l37)) hM (by decide) hT hln (mkT_bd hln l37 g0 tt37 hg0) 5 0 _ _ _ _ ((r37 + 1) + 1) [] rfl (by decide) rfl (by omega) (by simp [encA, encT_len]; omega) (fun x hx => by cases hx) (by have hh := h45; rw [show encA [] = [] from rfl, List.append_nil]; exact hh) ?_ ?_) (by decide)
              · intro l50 r50 V50 x50 h50 f50 e50
                have ka := pAs_ok _ _ _ _ _ (by omega) (fun x hx => by cases hx) x50
                have kb := ka.2.2 _ rfl
                simp only [encA, List.length_nil] at kb
                refine y_ld (x := .ref 170) rfl rfl (fun d => rfl) ?_
                refine y_gI (i := 12) (e := 0) rfl rfl rfl (md170 hM) rfl h50.2.2.2.1 ?_
                refine y_zne rfl rfl rfl (by decide) (fun g36 => absurd g36 (by decide)) (fun g36 => ?_)
                refine y_ld (x := .ref 170) rfl rfl (fun d => rfl) ?_
                refine y_gR (i := 4) rfl rfl rfl (md170 hM) rfl ?_
                refine y_ld (x := iv (200 * a + st0.length : Nat)) rfl rfl (fun d => rfl) ?_
                refine y_ic rfl rfl ?_
                refine y_add (z := ((200 * a + st0.length : Nat) + 1)) rfl rfl rfl ?_
                refine y_ld (x := .ref 170) rfl rfl (fun d => rfl) ?_
                refine y_gR (i := 5) rfl rfl rfl (md170 hM) rfl ?_
                refine y_ld (x := .ref 170) rfl rfl (fun d => rfl) ?_
                refine y_gI (i := 9) (e := (a : Int)) rfl rfl rfl (md170 hM) rfl h50.1 ?_
                refine y_ild (x := (((((((st0 ++ [1000 + ((hr τ z p) - 48)]) ++ [0]) ++ encT l37) ++ [-4]) ++ encA l50)).length : Int)) (q := a) rfl rfl (md174 hM) (by omega) (by decide) (by omega) h50.2.2.2.2.2.2.2.1 ?_
                refine y_ist (q := (200 * a + (st0.length + 1))) rfl rfl (md173 hM) (by omega) (by decide) (by simp; omega) ?_
                refine y_ld (x := .ref 170) rfl rfl (fun d => rfl) ?_
                refine y_gR (i := 7) rfl rfl rfl (md170 hM) rfl ?_
                refine y_bi rfl rfl (by decide) ?_
                refine y_ld (x := .ref 170) rfl rfl (fun d => rfl) ?_
                refine y_gI (i := 9) (e := (a : Int)) rfl rfl rfl (md170 hM) rfl h50.1 ?_
                refine y_mul (z := (8 * (a : Int))) rfl rfl rfl ?_
                refine y_ld (x := .ref 170) rfl rfl (fun d => rfl) ?_
                refine y_gI (i := 14) (e := ln) rfl rfl rfl (md170 hM) rfl h50.2.2.2.2.2.1 ?_
                refine y_add (z := ((8 * (a : Int)) + ln)) rfl rfl rfl ?_
                refine y_ld (x := iv (l50.length : Int)) rfl rfl (fun d => rfl) ?_
                refine y_ist (q := (8 * a + lnn)) rfl rfl (md176 hM) (by omega) (by decide) (by omega) ?_
                refine y_ld (x := .ref 170) rfl rfl (fun d => rfl) ?_
                refine y_in rfl rfl (fun d => rfl) ?_
                refine y_gI (i := 14) (e := ln) rfl rfl rfl (md170 hM) rfl h50.2.2.2.2.2.1 ?_
                refine y_ic rfl rfl ?_
                refine y_add (z := (ln + 1)) rfl rfl rfl ?_
                refine y_pI (i := 14) rfl rfl rfl (md170 hM) rfl rfl ?_
                refine y_ret rfl (fun d => rfl) ?_
                refine k1 _ _ _ (pL_4 (Or.inr (by omega)) (pE_1 g28 x37 q40) q46 x50) ?_ (MF_u0 (by decide) (MF_u6 (by omega) (MF_u3 (by omega) (MF_tr (MF_tr (MF_tr (MF_u0 (by decide) (MF_tr (MF_tr (MF_u0 (by decide) (MF_u0 (by decide) (MF_tr (MF_tr (MF_u0 (by decide) (MF_u0 (by decide) (MF_rf a V))) f28) f29))) f37) f39)) f44) f45) f50)))) (by show v_uf (V50 176) _ _ = _; rw [show V50 176 = V 176 from (e50.trans (e45.trans (e44.trans (e39.trans (e37.trans (e29.trans (e28.trans rfl)))))))])
                have hh := h50
                have ek : 1000 + (if hr τ z p = 42 then (4 : Int) else hr τ z p - 48) = 1000 + ((hr τ z p) - 48) := by rw [if_neg (by omega)]
                have eb : bodyL ((if hr τ z p = 42 then (4 : Int) else hr τ z p - 48), (true, l37).1, (true, l37).2, l50) = encT l37 ++ ([-4] ++ encA l50) := by unfold bodyL; simp
                have el : encL st0.length ((if hr τ z p = 42 then (4 : Int) else hr τ z p - 48), (true, l37).1, (true, l37).2, l50) = (1000 + ((hr τ z p) - 48)) :: ((st0.length + 2 + (encT l37 ++ ([-4] ++ encA l50)).length : Nat) : Int) :: (encT l37 ++ ([-4] ++ encA l50)) := by
                  unfold encL
                  rw [eb]
                  show (1000 + (if hr τ z p = 42 then (4 : Int) else hr τ z p - 48)) :: _ = _
                  rw [ek]
                have ev : ((((((st0 ++ [1000 + ((hr τ z p) - 48)]) ++ [0]) ++ encT l37) ++ [-4]) ++ encA l50).length : Int) = ((st0.length + 2 + (encT l37 ++ ([-4] ++ encA l50)).length : Nat) : Int) := by simp; omega
                rw [el, ← ev]
                have hs := MP_set (i := st0.length + 1) (x := ((((((st0 ++ [1000 + ((hr τ z p) - 48)]) ++ [0]) ++ encT l37) ++ [-4]) ++ encA l50).length : Int)) hh (by simp)
                have ea : ((((st0 ++ [1000 + ((hr τ z p) - 48)]) ++ [0]) ++ encT l37) ++ [-4]) ++ encA l50 = (st0 ++ [1000 + ((hr τ z p) - 48)]) ++ ([0] ++ (encT l37 ++ ([-4] ++ encA l50))) := by simp only [List.append_assoc]
                have eq2 : (((((st0 ++ [1000 + ((hr τ z p) - 48)]) ++ [0]) ++ encT l37) ++ [-4]) ++ encA l50).set (st0.length + 1) ((((((st0 ++ [1000 + ((hr τ z p) - 48)]) ++ [0]) ++ encT l37) ++ [-4]) ++ encA l50).length : Int) = st0 ++ ((1000 + ((hr τ z p) - 48)) :: ((((((st0 ++ [1000 + ((hr τ z p) - 48)]) ++ [0]) ++ encT l37) ++ [-4]) ++ encA l50).length : Int) :: (encT l37 ++ ([-4] ++ encA l50))) := (congrArg (fun l => List.set l (st0.length + 1) ((((((st0 ++ [1000 + ((hr τ z p) - 48)]) ++ [0]) ++ encT l37) ++ [-4]) ++ encA l50).length : Int)) ea).trans (v_set2 _ _ _ _ _)
                rw [eq2] at hs
                exact MP_f (MP_6 (i := 8 * a + lnn) (x := (l50.length : Int)) hs) ⟨rfl, rfl, rfl, rfl, rfl, rfl⟩ h50.2.1 h50.2.2.2.1 h50.2.2.2.2.1 rfl
              · intro r51 V51 s51 g_51 x51 h51 f51 e51
                refine y_ld (x := .ref 170) rfl rfl (fun d => rfl) ?_
                refine y_gI (i := 12) (e := 1) rfl rfl rfl (md170 hM) rfl h51.2.2.2.1 ?_
                refine y_zne rfl rfl rfl (by decide) (fun g37 => ?_) (fun g37 => absurd g37 (by decide))
                refine y_ret rfl (fun d => rfl) ?_
                exact k2 _ _ _ _ _ (pL_3 (Or.inr (by omega)) (pE_1 g28 x37 q40) q46 x51) h51 (MF_tr (MF_tr (MF_tr (MF_u0 (by decide) (MF_tr (MF_tr (MF_u0 (by decide) (MF_u0 (by decide) (MF_tr (MF_tr (MF_u0 (by decide) (MF_u0 (by decide) (MF_rf a V))) f28) f29))) f37) f39)) f44) f45) f51) (e51.trans (e45.trans (e44.trans (e39.trans (e37.trans (e29.trans (e28.trans rfl)))))))
            · refine y_n0 ?_
              refine y_ic rfl rfl ?_
              refine y_st (lv' := [(3, iv 0), (2, iv (200 * a + st0.length : Nat)), (1, iv (hr τ z p)), (0, .ref 170)]) rfl rfl (fun d => rfl) ?_
              refine y_ld (x := .ref 170) rfl rfl (fun d => rfl) ?_
              refine y_gI (i := 12) (e := 1) rfl rfl rfl (md170 hM) rfl h47.2.2.2.1 ?_
              refine y_zne rfl rfl rfl (by decide) (fun g38 => ?_) (fun g38 => absurd g38 (by decide))
              refine y_ic rfl rfl ?_
              refine y_st (lv' := [(4, iv 0), (3, iv 0), (2, iv (200 * a + st0.length : Nat)), (1, iv (hr τ z p)), (0, .ref 170)]) rfl rfl (fun d => rfl) ?_
              refine y_ld (x := iv 0) rfl rfl (fun d => rfl) ?_
              refine y_zeq rfl rfl rfl (by decide) (fun g39 => ?_) (fun g39 => absurd g39 (by decide))
              refine y_ld (x := .ref 170) rfl rfl (fun d => rfl) ?_
              refine y_gI (i := 12) (e := 1) rfl rfl rfl (md170 hM) rfl h47.2.2.2.1 ?_
              refine y_zne rfl rfl rfl (by decide) (fun g40 => ?_) (fun g40 => absurd g40 (by decide))
              refine y_ret rfl (fun d => rfl) ?_
              exact k2 _ _ _ _ _ (pL_2 (Or.inr (by omega)) (pE_1 g28 x37 q40) q48) h47 (MF_tr (MF_tr (MF_u0 (by decide) (MF_tr (MF_tr (MF_u0 (by decide) (MF_u0 (by decide) (MF_tr (MF_tr (MF_u0 (by decide) (MF_u0 (by decide) (MF_rf a V))) f28) f29))) f37) f39)) f44) f47) (e47.trans (e44.trans (e39.trans (e37.trans (e29.trans (e28.trans rfl))))))
          · refine y_n0 ?_
            refine y_ld (x := .ref 170) rfl rfl (fun d => rfl) ?_
            refine y_ic rfl rfl ?_
            refine y_pI (i := 13) rfl rfl rfl (md170 hM) rfl rfl ?_
            refine y_ld (x := .ref 170) rfl rfl (fun d => rfl) ?_
            refine y_bi rfl rfl (by decide) ?_
            refine y_cV (as := [.ref 170, iv (-4)]) rfl rfl rfl rfl rfl (md170 hM) ⟨rfl, (Nat.le_of_ble_eq_true rfl), (Nat.le_of_ble_eq_true rfl)⟩ (by decide) (ct_emits1 hM (MP_f (p' := r37) (wr' := 1) (o' := ((0 : Nat) : Int)) (ln' := ln) h41 ⟨rfl, rfl, rfl, rfl, rfl, rfl⟩ h41.2.1 h41.2.2.2.1 rfl h41.2.2.2.2.2.1) ?_)
            refine y_n0 ?_
            refine y_ld (x := .ref 170) rfl rfl (fun d => rfl) ?_
            refine y_bi rfl rfl (by decide) ?_
            refine y_cV (as := [.ref 170, iv 58]) rfl rfl rfl rfl rfl (md170 hM) ⟨rfl, (Nat.le_of_ble_eq_true rfl), (Nat.le_of_ble_eq_true rfl)⟩ (by decide) (ct_must1 hM (MP_f (p' := r37) (wr' := 1) (o' := ((0 : Nat) : Int)) (ln' := ln) h41 ⟨rfl, rfl, rfl, rfl, rfl, rfl⟩ h41.2.1 h41.2.2.2.1 rfl h41.2.2.2.2.2.1) (fun V52 h52 f52 e52 => ?_))
            refine y_n0 ?_
            refine y_ic rfl rfl ?_
            refine y_st (lv' := [(3, iv 0), (2, iv (200 * a + st0.length : Nat)), (1, iv (hr τ z p)), (0, .ref 170)]) rfl rfl (fun d => rfl) ?_
            refine y_ld (x := .ref 170) rfl rfl (fun d => rfl) ?_
            refine y_gI (i := 12) (e := 1) rfl rfl rfl (md170 hM) rfl h52.2.2.2.1 ?_
            refine y_zne rfl rfl rfl (by decide) (fun g41 => ?_) (fun g41 => absurd g41 (by decide))
            refine y_ic rfl rfl ?_
            refine y_st (lv' := [(4, iv 0), (3, iv 0), (2, iv (200 * a + st0.length : Nat)), (1, iv (hr τ z p)), (0, .ref 170)]) rfl rfl (fun d => rfl) ?_
            refine y_ld (x := iv 0) rfl rfl (fun d => rfl) ?_
            refine y_zeq rfl rfl rfl (by decide) (fun g42 => ?_) (fun g42 => absurd g42 (by decide))
            refine y_ld (x := .ref 170) rfl rfl (fun d => rfl) ?_
            refine y_gI (i := 12) (e := 1) rfl rfl rfl (md170 hM) rfl h52.2.2.2.1 ?_
            refine y_zne rfl rfl rfl (by decide) (fun g43 => ?_) (fun g43 => absurd g43 (by decide))
            refine y_ret rfl (fun d => rfl) ?_
            exact k2 _ _ _ _ _ (pL_1 (Or.inr (by omega)) (pE_2 g28 x37 q42)) h52 (MF_tr (MF_u0 (by decide) (MF_tr (MF_tr (MF_u0 (by decide) (MF_u0 (by decide) (MF_tr (MF_tr (MF_u0 (by decide) (MF_u0 (by decide) (MF_rf a V))) f28) f29))) f37) f41)) f52) (e52.trans (e41.trans (e37.trans (e29.trans (e28.trans rfl)))))
        · have kk38 := pX_ok _ _ _ _ _ _ _ (by decide) (by omega) y37
          refine y_n0 ?_
          refine y_ld (x := .ref 170) rfl rfl (fun d => rfl) ?_
          refine y_bi rfl rfl (by decide) ?_
          refine y_cV (as := [.ref 170, iv 41]) rfl rfl rfl rfl rfl (md170 hM) ⟨rfl, (Nat.le_of_ble_eq_true rfl), (Nat.le_of_ble_eq_true rfl)⟩ (by decide) (ct_must1 hM h38 (fun V53 h53 f53 e53 => ?_))
          refine y_n0 ?_
          refine y_ld (x := .ref 170) rfl rfl (fun d => rfl) ?_
          refine y_ic rfl rfl ?_
          refine y_pI (i := 13) rfl rfl rfl (md170 hM) rfl rfl ?_
          refine y_ld (x := .ref 170) rfl rfl (fun d => rfl) ?_
          refine y_bi rfl rfl (by decide) ?_
          refine y_cV (as := [.ref 170, iv (-4)]) rfl rfl rfl rfl rfl (md170 hM) ⟨rfl, (Nat.le_of_ble_eq_true rfl), (Nat.le_of_ble_eq_true rfl)⟩ (by decide) (ct_emits1 hM (MP_f (p' := r38) (wr' := 1) (o' := ((0 : Nat) : Int)) (ln' := ln) h53 ⟨rfl, rfl, rfl, rfl, rfl, rfl⟩ h53.2.1 h53.2.2.2.1 rfl h53.2.2.2.2.2.1) ?_)
          refine y_n0 ?_
          refine y_ld (x := .ref 170) rfl rfl (fun d => rfl) ?_
          refine y_bi rfl rfl (by decide) ?_
          refine y_cV (as := [.ref 170, iv 58]) rfl rfl rfl rfl rfl (md170 hM) ⟨rfl, (Nat.le_of_ble_eq_true rfl), (Nat.le_of_ble_eq_true rfl)⟩ (by decide) (ct_must1 hM (MP_f (p' := r38) (wr' := 1) (o' := ((0 : Nat) : Int)) (ln' := ln) h53 ⟨rfl, rfl, rfl, rfl, rfl, rfl⟩ h53.2.1 h53.2.2.2.1 rfl h53.2.2.2.2.2.1) (fun V54 h54 f54 e54 => ?_))
          refine y_n0 ?_
          refine y_ic rfl rfl ?_
          refine y_st (lv' := [(3, iv 0), (2, iv (200 * a + st0.length : Nat)), (1, iv (hr τ z p)), (0, .ref 170)]) rfl rfl (fun d => rfl) ?_
          refine y_ld (x := .ref 170) rfl rfl (fun d => rfl) ?_
          refine y_gI (i := 12) (e := 1) rfl rfl rfl (md170 hM) rfl h54.2.2.2.1 ?_
          refine y_zne rfl rfl rfl (by decide) (fun g44 => ?_) (fun g44 => absurd g44 (by decide))
          refine y_ic rfl rfl ?_
          refine y_st (lv' := [(4, iv 0), (3, iv 0), (2, iv (200 * a + st0.length : Nat)), (1, iv (hr τ z p)), (0, .ref 170)]) rfl rfl (fun d => rfl) ?_
          refine y_ld (x := iv 0) rfl rfl (fun d => rfl) ?_
          refine y_zeq rfl rfl rfl (by decide) (fun g45 => ?_) (fun g45 => absurd g45 (by decide))
          refine y_ld (x := .ref 170) rfl rfl (fun d => rfl) ?_
          refine y_gI (i := 12) (e := 1) rfl rfl rfl (md170 hM) rfl h54.2.2.2.1 ?_
          refine y_zne rfl rfl rfl (by decide) (fun g46 => ?_) (fun g46 => absurd g46 (by decide))
          refine y_ret rfl (fun d => rfl) ?_
          exact k2 _ _ _ _ _ (pL_1 (Or.inr (by omega)) (pE_3 g28 y37)) h54 (MF_tr (MF_u0 (by decide) (MF_tr (MF_tr (MF_u0 (by decide) (MF_u0 (by decide) (MF_tr (MF_tr (MF_u0 (by decide) (MF_u0 (by decide) (MF_rf a V))) f28) f29))) f38) f53)) f54) (e54.trans (e53.trans (e38.trans (e29.trans (e28.trans rfl)))))
    · refine y_ic rfl rfl ?_
      refine y_go rfl rfl ?_
      refine y_pZ (i := 12) rfl rfl rfl (md170 hM) rfl rfl (by decide) ?_
      refine y_ld (x := .ref 170) rfl rfl (fun d => rfl) ?_
      refine y_in rfl rfl (fun d => rfl) ?_
      refine y_gI (i := 10) (e := ((p : Nat) : Int)) rfl rfl rfl (md170 hM) rfl h.2.1 ?_
      refine y_ld (x := .ref 170) rfl rfl (fun d => rfl) ?_
      refine y_gI (i := 12) (e := 1) rfl rfl rfl (md170 hM) rfl rfl ?_
      refine y_zeq rfl rfl rfl (by decide) (fun g47 => absurd g47 (by decide)) (fun g47 => ?_)
      refine y_ic rfl rfl ?_
      refine y_go rfl rfl ?_
      refine y_add (z := (((p : Nat) : Int) + 0)) rfl rfl rfl ?_
      refine y_pI (i := 10) rfl rfl rfl (md170 hM) rfl rfl ?_
      refine y_si rfl rfl (by decide) ?_
      refine y_ld (x := .ref 170) rfl rfl (fun d => rfl) ?_
      refine y_gI (i := 9) (e := (a : Int)) rfl rfl rfl (md170 hM) rfl h.1 ?_
      refine y_mul (z := (200 * (a : Int))) rfl rfl rfl ?_
      refine y_ld (x := .ref 170) rfl rfl (fun d => rfl) ?_
      refine y_gR (i := 5) rfl rfl rfl (md170 hM) rfl ?_
      refine y_ld (x := .ref 170) rfl rfl (fun d => rfl) ?_
      refine y_gI (i := 9) (e := (a : Int)) rfl rfl rfl (md170 hM) rfl h.1 ?_
      refine y_ild (x := ((st0).length : Int)) (q := a) rfl rfl (md174 hM) (by omega) (by decide) (by omega) h.2.2.2.2.2.2.2.1 ?_
      refine y_add (z := (200 * a + st0.length : Nat)) rfl rfl (by omega) ?_
      refine y_st (lv' := [(2, iv (200 * a + st0.length : Nat)), (1, iv (hr τ z p)), (0, .ref 170)]) rfl rfl (fun d => rfl) ?_
      refine y_ld (x := .ref 170) rfl rfl (fun d => rfl) ?_
      refine y_si rfl rfl (by decide) ?_
      refine y_ld (x := iv (hr τ z p)) rfl rfl (fun d => rfl) ?_
      refine y_bi rfl rfl (by decide) ?_
      refine y_jne rfl rfl rfl (by omega) (fun g48 => ?_) (fun g48 => absurd g48 (by omega))
      refine y_ld (x := iv (hr τ z p)) rfl rfl (fun d => rfl) ?_
      refine y_bi rfl rfl (by decide) ?_
      refine y_sub (z := ((hr τ z p) - 48)) rfl rfl rfl ?_
      refine y_add (z := (1000 + ((hr τ z p) - 48))) rfl rfl rfl ?_
      refine y_cV (as := [.ref 170, iv (1000 + ((hr τ z p) - 48))]) rfl rfl rfl rfl rfl (md170 hM) ⟨rfl, (Nat.le_of_ble_eq_true rfl), (Nat.le_of_ble_eq_true rfl)⟩ (by decide) (ct_emits1 hM (MP_f (p' := p) (wr' := 1) (o' := ((0 : Nat) : Int)) (ln' := ln) h ⟨rfl, rfl, rfl, rfl, rfl, rfl⟩ rfl rfl h.2.2.2.2.1 h.2.2.2.2.2.1) ?_)
      refine y_n0 ?_
      refine y_ld (x := .ref 170) rfl rfl (fun d => rfl) ?_
      refine y_ic rfl rfl ?_
      refine y_cV (as := [.ref 170, iv 0]) rfl rfl rfl rfl rfl (md170 hM) ⟨rfl, (Nat.le_of_ble_eq_true rfl), (Nat.le_of_ble_eq_true rfl)⟩ (by decide) (ct_emits1 hM (MP_f (p' := p) (wr' := 1) (o' := ((0 : Nat) : Int)) (ln' := ln) h ⟨rfl, rfl, rfl, rfl, rfl, rfl⟩ rfl rfl h.2.2.2.2.1 h.2.2.2.2.2.1) ?_)
      refine y_n0 ?_
      refine y_ld (x := .ref 170) rfl rfl (fun d => rfl) ?_
      refine y_gI (i := 12) (e := 1) rfl rfl rfl (md170 hM) rfl rfl ?_
      refine y_zne rfl rfl rfl (by decide) (fun g49 => ?_) (fun g49 => absurd g49 (by decide))
      refine y_ld (x := .ref 170) rfl rfl (fun d => rfl) ?_
      refine y_bi rfl rfl (by decide) ?_
      refine y_cV (as := [.ref 170, iv 58]) rfl rfl rfl rfl rfl (md170 hM) ⟨rfl, (Nat.le_of_ble_eq_true rfl), (Nat.le_of_ble_eq_true rfl)⟩ (by decide) (ct_must1 hM (MP_f (p' := p) (wr' := 1) (o' := ((0 : Nat) : Int)) (ln' := ln) h ⟨rfl, rfl, rfl, rfl, rfl, rfl⟩ rfl rfl h.2.2.2.2.1 h.2.2.2.2.2.1) (fun V55 h55 f55 e55 => ?_))
      refine y_n0 ?_
      refine y_ic rfl rfl ?_
      refine y_st (lv' := [(3, iv 0), (2, iv (200 * a + st0.length : Nat)), (1, iv (hr τ z p)), (0, .ref 170)]) rfl rfl (fun d => rfl) ?_
      refine y_ld (x := .ref 170) rfl rfl (fun d => rfl) ?_
      refine y_gI (i := 12) (e := 1) rfl rfl rfl (md170 hM) rfl h55.2.2.2.1 ?_
      refine y_zne rfl rfl rfl (by decide) (fun g50 => ?_) (fun g50 => absurd g50 (by decide))
      refine y_ic rfl rfl ?_
      refine y_st (lv' := [(4, iv 0), (3, iv 0), (2, iv (200 * a + st0.length : Nat)), (1, iv (hr τ z p)), (0, .ref 170)]) rfl rfl (fun d => rfl) ?_
      refine y_ld (x := iv 0) rfl rfl (fun d => rfl) ?_
      refine y_zeq rfl rfl rfl (by decide) (fun g51 => ?_) (fun g51 => absurd g51 (by decide))
      refine y_ld (x := .ref 170) rfl rfl (fun d => rfl) ?_
      refine y_gI (i := 12) (e := 1) rfl rfl rfl (md170 hM) rfl h55.2.2.2.1 ?_
      refine y_zne rfl rfl rfl (by decide) (fun g52 => ?_) (fun g52 => absurd g52 (by decide))
      refine y_ret rfl (fun d => rfl) ?_
      exact k2 _ _ _ _ _ (pL_0 (by omega)) h55 (MF_tr (MF_u0 (by decide) (MF_u0 (by decide) (MF_rf a V))) f55) (e55.trans rfl)
end
