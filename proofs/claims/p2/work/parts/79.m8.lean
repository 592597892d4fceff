/-! LINES in the reference -/
def bodyL (x : p_Li) : List Int := encT x.2.2.1 ++ ((if x.2.1 = true then [-4] else []) ++ encA x.2.2.2)
def encL (n0 : Nat) (x : p_Li) : List Int := (1000 + x.1) :: ((n0 + 2 + (bodyL x).length : Nat) : Int) :: bodyL x
def mkL (ln : Int) (g : Nat → Int) (x : p_Li) : Nat → Int := mkA ln (mkT ln g x.2.2.1) x.2.2.2
section PL
variable {τ : Nat → Int} {z p q q' : Nat} {e : Bool × List p_Tk} {l : List p_Ac}
theorem pE_0 (h : ¬ hr τ z p = 40) : pE τ z p = (some (false, []), p) := if_neg h
theorem pE_1 {l : List p_Tk} (h : hr τ z p = 40) (h1 : pX τ z 1000 3 1 (p + 1) [] = (some l, q)) (h2 : hr τ z q = 41) : pE τ z p = (some (true, l), q + 1) := by
  unfold pE
  rw [if_pos h, h1]
  exact if_pos h2
theorem pE_2 {l : List p_Tk} (h : hr τ z p = 40) (h1 : pX τ z 1000 3 1 (p + 1) [] = (some l, q)) (h2 : ¬ hr τ z q = 41) : pE τ z p = (none, q) := by
  unfold pE
  rw [if_pos h, h1]
  exact if_neg h2
theorem pE_3 (h : hr τ z p = 40) (h1 : pX τ z 1000 3 1 (p + 1) [] = (none, q)) : pE τ z p = (none, q) := by
  unfold pE
  rw [if_pos h, h1]
theorem pL_0 (h : ¬ (hr τ z p = 42 ∨ (48 ≤ hr τ z p ∧ hr τ z p ≤ 51))) : pL τ z p = (none, p) := if_neg h
theorem pL_1 (h : hr τ z p = 42 ∨ (48 ≤ hr τ z p ∧ hr τ z p ≤ 51)) (h1 : pE τ z (p + 1) = (none, q)) : pL τ z p = (none, q) := by
  unfold pL
  rw [if_pos h, h1]
theorem pL_2 (h : hr τ z p = 42 ∨ (48 ≤ hr τ z p ∧ hr τ z p ≤ 51)) (h1 : pE τ z (p + 1) = (some e, q)) (h2 : ¬ hr τ z q = 58) : pL τ z p = (none, q) := by
  unfold pL
  rw [if_pos h, h1]
  exact if_neg h2
theorem pL_3 (h : hr τ z p = 42 ∨ (48 ≤ hr τ z p ∧ hr τ z p ≤ 51)) (h1 : pE τ z (p + 1) = (some e, q)) (h2 : hr τ z q = 58) (h3 : pAs τ z 5 (q + 1) [] = (none, q')) : pL τ z p = (none, q') := by
  unfold pL
  rw [if_pos h, h1]
  refine (if_pos h2).trans ?_
  rw [h3]
theorem pL_4 (h : hr τ z p = 42 ∨ (48 ≤ hr τ z p ∧ hr τ z p ≤ 51)) (h1 : pE τ z (p + 1) = (some e, q)) (h2 : hr τ z q = 58) (h3 : pAs τ z 5 (q + 1) [] = (some l, q')) : pL τ z p = (some (if hr τ z p = 42 then 4 else hr τ z p - 48, e.1, e.2, l), q') := by
  unfold pL
  rw [if_pos h, h1]
  refine (if_pos h2).trans ?_
  rw [h3]
end PL
theorem MP_set {V : v_V} {a z : Nat} {τ : Nat → Int} {p : Nat} {wr o ln x : Int} {st : List Int} {g : Nat → Int} {i : Nat} (h : MP V a z τ p wr o ln st g) (hi : i < st.length) : MP (v_up V 173 (200 * a + i) x) a z τ p wr o ln (st.set i x) g := by
  obtain ⟨a1, a2, a3, a4, a5, a6, a7, a8, a9, a10⟩ := h
  refine ⟨a1, a2, a3, a4, a5, a6, a7, ?_, ?_, a10⟩
  · rw [List.length_set]
    exact a8
  · intro j y hj
    rw [m_nth_set] at hj
    by_cases h2 : j = i
    · subst h2
      rw [if_pos rfl] at hj
      rw [v_up_eq]
      cases hm : m_nth st j with
      | none => rw [hm] at hj; cases hj
      | some w => rw [hm] at hj; cases hj; rfl
    · rw [if_neg h2] at hj
      rw [v_up_ni (by omega)]
      exact a9 j y hj
theorem MP_6 {V : v_V} {a z : Nat} {τ : Nat → Int} {p : Nat} {wr o ln x : Int} {st : List Int} {g : Nat → Int} {i : Nat} (h : MP V a z τ p wr o ln st g) : MP (v_up V 176 i x) a z τ p wr o ln st g := h
theorem v_set2 (x y w : Int) (r : List Int) : ∀ l : List Int, ((l ++ [x]) ++ ([y] ++ r)).set (l.length + 1) w = l ++ (x :: w :: r)
  | [] => rfl
  | b :: l => by
    show b :: (((l ++ [x]) ++ ([y] ++ r)).set (l.length + 1) w) = b :: (l ++ (x :: w :: r))
    rw [v_set2 x y w r l]
section
variable {X : Nat → List Int32} {u w : Nat} {S : m_H} {V : v_V} {K : v_K}
set_option maxRecDepth 100000 in
set_option maxHeartbeats 4000000 in
theorem lp_acts (hM : MdS S) {a z D F : Nat} (hDD : 5 ≤ D) {τ : Nat → Int} {o atv : Int} {ln : Int} {st0 : List Int} {g0 : Nat → Int} (hT : Tp τ a z) (hln : 0 ≤ ln ∧ ln ≤ 8) (hg0 : ∀ c, c < 8 → 0 ≤ g0 c ∧ g0 c ≤ 10) : ∀ (m n : Nat) (V : v_V) (K : v_K) (u w p : Nat) (acc : List p_Ac), n + m = 5 → 1 ≤ m → acc.length = n → p ≤ z → st0.length + (encA acc).length ≤ p + 2 → acO acc → MP V a z τ p 0 o ln (st0 ++ encA acc) (mkA ln g0 acc) → (∀ l q V', pAs τ z (5 - n) p acc = (some l, q) → MP V' a z τ q 0 o ln (st0 ++ encA l) (mkA ln g0 l) → MF a V V' → V' 176 = V 176 → y_E X D 123 F u w 234 [(0, .ref 170), (2, iv atv), (3, iv (l.length : Nat))] [] S V' K) → (∀ q V' st' g', pAs τ z (5 - n) p acc = (none, q) → MP V' a z τ q 1 o ln st' g' → MF a V V' → V' 176 = V 176 → y_E X D 123 F u w 234 [(0, .ref 170)] [] S V' K) → y_E X D 123 (100 * m + F) u w 172 [(0, .ref 170), (2, iv atv), (3, iv (n : Int)), (4, iv 1)] [] S V K := by
  intro m
  induction m with
  | zero => intros; omega
  | succ m ih =>
    intro n V K u w p acc hnm hm1 hal hp hl hac h k1 k2
    have hz := hT.2.1
    refine y_mono (F' := (100 * m + F) + 100) ?_ (by omega)
    refine y_ld (x := iv 1) rfl rfl (fun d => rfl) ?_
    refine y_zeq rfl rfl rfl (by decide) (fun g1 => absurd g1 (by decide)) (fun g1 => ?_)
    refine y_ld (x := .ref 170) rfl rfl (fun d => rfl) ?_
    refine y_cV (as := [.ref 170]) rfl rfl rfl rfl rfl (md170 hM) ⟨rfl, (Nat.le_of_ble_eq_true rfl), (Nat.le_of_ble_eq_true rfl)⟩ (by omega) (ct_actHere hM hT hln (mkA_bd hln acc g0 hac hg0) (by omega) (by simp; omega) h (fun y1 r1 V1 x1 h1 f1 e1 => ?_) (fun r2 V2 s2 g_2 x2 h2 f2 e2 => ?_))
    · have pa3 := pA_ok (by omega) x1
      have ppa3 := pa3.2.2 _ rfl
      refine y_n0 ?_
      refine y_inc (z := ((n + 1 : Nat) : Int)) (lv' := [(3, iv ((n + 1 : Nat) : Int)), (0, .ref 170), (2, iv atv), (4, iv 1)]) rfl rfl rfl (by omega) rfl ?_
      refine y_ld (x := .ref 170) rfl rfl (fun d => rfl) ?_
      refine y_gI (i := 12) (e := 0) rfl rfl rfl (md170 hM) rfl h1.2.2.2.1 ?_
      refine y_zne rfl rfl rfl (by decide) (fun g2 => absurd g2 (by decide)) (fun g2 => ?_)
      refine y_ld (x := iv ((n + 1 : Nat) : Int)) rfl rfl (fun d => rfl) ?_
      refine y_ic rfl rfl ?_
      refine y_jge rfl rfl rfl (by omega) (fun g3 => ?_) (fun g3 => ?_)
      · refine y_ic rfl rfl ?_
        refine y_st (lv' := [(4, iv 0), (3, iv ((n + 1 : Nat) : Int)), (0, .ref 170), (2, iv atv)]) rfl rfl (fun d => rfl) ?_
        refine y_ld (x := .ref 170) rfl rfl (fun d => rfl) ?_
        refine y_in rfl rfl (fun d => rfl) ?_
        refine y_gI (i := 10) (e := (r1 : Int)) rfl rfl rfl (md170 hM) rfl h1.2.1 ?_
        refine y_ld (x := iv 0) rfl rfl (fun d => rfl) ?_
        refine y_zeq rfl rfl rfl (by decide) (fun g4 => ?_) (fun g4 => absurd g4 (by decide))
        refine y_ic rfl rfl ?_
        refine y_add (z := ((r1 : Int) + 0)) rfl rfl rfl ?_
        refine y_pI (i := 10) rfl rfl rfl (md170 hM) rfl rfl ?_
        refine y_go rfl rfl ?_
        refine y_ld (x := iv 0) rfl rfl (fun d => rfl) ?_
        refine y_zeq rfl rfl rfl (by decide) (fun g5 => ?_) (fun g5 => absurd g5 (by decide))
        refine y_lv (l' := [(0, .ref 170), (2, iv atv), (3, iv ((n + 1 : Nat) : Int))]) rfl ⟨rfl, rfl, rfl, trivial⟩ ?_
        rw [show ((n + 1 : Nat) : Int) = ((acc ++ [y1]).length : Nat) by simp; omega]
        refine y_mono (k1 (acc ++ [y1]) _ _ (by rw [show 5 - n = (5 - (n + 1)) + 1 by omega]; unfold pAs; rw [x1]; exact if_neg (by omega)) ?_ (MF_u0 (by decide) (MF_tr (MF_rf a V) f1)) (e1.trans rfl)) (by omega)
        rw [encA_app, mkA_app, ← List.append_assoc]
        exact (MP_f (p' := r1) (wr' := 0) (o' := o) (ln' := ln) h1 ⟨rfl, rfl, rfl, rfl, rfl, rfl⟩ rfl h1.2.2.2.1 h1.2.2.2.2.1 h1.2.2.2.2.2.1)
      · refine y_ld (x := .ref 170) rfl rfl (fun d => rfl) ?_
        refine y_cV (as := [.ref 170]) rfl rfl rfl rfl rfl (md170 hM) ⟨rfl, (Nat.le_of_ble_eq_true rfl), (Nat.le_of_ble_eq_true rfl)⟩ (by omega) (ct_here hM h1 (by omega) ?_)
        have hq197 := hr_rg hT (r1)
        refine y_nv ?_
        refine y_bi rfl rfl (by decide) ?_
        refine y_jne rfl rfl rfl (by omega) (fun g6 => ?_) (fun g6 => ?_)
        · refine y_ic rfl rfl ?_
          refine y_st (lv' := [(4, iv 0), (3, iv ((n + 1 : Nat) : Int)), (0, .ref 170), (2, iv atv)]) rfl rfl (fun d => rfl) ?_
          refine y_ld (x := .ref 170) rfl rfl (fun d => rfl) ?_
          refine y_in rfl rfl (fun d => rfl) ?_
          refine y_gI (i := 10) (e := (r1 : Int)) rfl rfl rfl (md170 hM) rfl h1.2.1 ?_
          refine y_ld (x := iv 0) rfl rfl (fun d => rfl) ?_
          refine y_zeq rfl rfl rfl (by decide) (fun g7 => ?_) (fun g7 => absurd g7 (by decide))
          refine y_ic rfl rfl ?_
          refine y_add (z := ((r1 : Int) + 0)) rfl rfl rfl ?_
          refine y_pI (i := 10) rfl rfl rfl (md170 hM) rfl rfl ?_
          refine y_go rfl rfl ?_
          refine y_ld (x := iv 0) rfl rfl (fun d => rfl) ?_
          refine y_zeq rfl rfl rfl (by decide) (fun g8 => ?_) (fun g8 => absurd g8 (by decide))
          refine y_lv (l' := [(0, .ref 170), (2, iv atv), (3, iv ((n + 1 : Nat) : Int))]) rfl ⟨rfl, rfl, rfl, trivial⟩ ?_
          rw [show ((n + 1 : Nat) : Int) = ((acc ++ [y1]).length : Nat) by simp; omega]
          refine y_mono (k1 (acc ++ [y1]) _ _ (by rw [show 5 - n = (5 - (n + 1)) + 1 by omega]; unfold pAs; rw [x1]; exact if_neg (by omega)) ?_ (MF_u0 (by decide) (MF_tr (MF_rf a V) f1)) (e1.trans rfl)) (by omega)
          rw [encA_app, mkA_app, ← List.append_assoc]
          exact (MP_f (p' := r1) (wr' := 0) (o' := o) (ln' := ln) h1 ⟨rfl, rfl, rfl, rfl, rfl, rfl⟩ rfl h1.2.2.2.1 h1.2.2.2.2.1 h1.2.2.2.2.2.1)
        · refine y_ic rfl rfl ?_
          refine y_go rfl rfl ?_
          refine y_st (lv' := [(4, iv 1), (3, iv ((n + 1 : Nat) : Int)), (0, .ref 170), (2, iv atv)]) rfl rfl (fun d => rfl) ?_
          refine y_ld (x := .ref 170) rfl rfl (fun d => rfl) ?_
          refine y_in rfl rfl (fun d => rfl) ?_
          refine y_gI (i := 10) (e := (r1 : Int)) rfl rfl rfl (md170 hM) rfl h1.2.1 ?_
          refine y_ld (x := iv 1) rfl rfl (fun d => rfl) ?_
          refine y_zeq rfl rfl rfl (by decide) (fun g9 => absurd g9 (by decide)) (fun g9 => ?_)
          refine y_ic rfl rfl ?_
          refine y_go rfl rfl ?_
          refine y_add (z := ((r1 : Int) + 1)) rfl rfl rfl ?_
          refine y_pI (i := 10) rfl rfl rfl (md170 hM) rfl rfl ?_
          have pl7 := hr_le (τ := τ) (z := z) (p := r1) (by omega)
          refine y_go rfl rfl ?_
          refine y_lv (l' := [(0, .ref 170), (2, iv atv), (3, iv ((n + 1 : Nat) : Int)), (4, iv 1)]) rfl ⟨rfl, rfl, rfl, rfl, trivial⟩ ?_
          refine y_mono (ih (n + 1) _ _ _ _ ((r1 + 1)) (acc ++ [y1]) (by omega) (by omega) (by simp; omega) (by omega) (by rw [encA_app, List.length_append]; omega) (acO_app hac ppa3.2) ?_ ?_ ?_) (by omega)
          · rw [encA_app, mkA_app, ← List.append_assoc]
            exact (MP_f (p' := (r1 + 1)) (wr' := 0) (o' := o) (ln' := ln) h1 ⟨rfl, rfl, rfl, rfl, rfl, rfl⟩ rfl h1.2.2.2.1 h1.2.2.2.2.1 h1.2.2.2.2.2.1)
          · intro l2 q2 V' a1 a2 a3 a4
            exact k1 l2 q2 V' (by rw [show 5 - n = (5 - (n + 1)) + 1 by omega]; unfold pAs; rw [x1]; exact (if_pos ⟨by omega, by omega⟩).trans a1) a2 (MF_tr (MF_u0 (by decide) (MF_tr (MF_rf a V) f1)) a3) (a4.trans (e1.trans rfl))
          · intro q2 V' st' g' a1 a2 a3 a4
            exact k2 q2 V' st' g' (by rw [show 5 - n = (5 - (n + 1)) + 1 by omega]; unfold pAs; rw [x1]; exact (if_pos ⟨by omega, by omega⟩).trans a1) a2 (MF_tr (MF_u0 (by decide) (MF_tr (MF_rf a V) f1)) a3) (a4.trans (e1.trans rfl))
    · have pa4 := pA_ok (by omega) x2
      refine y_n0 ?_
      refine y_inc (z := ((n + 1 : Nat) : Int)) (lv' := [(3, iv ((n + 1 : Nat) : Int)), (0, .ref 170), (2, iv atv), (4, iv 1)]) rfl rfl rfl (by omega) rfl ?_
      refine y_ld (x := .ref 170) rfl rfl (fun d => rfl) ?_
      refine y_gI (i := 12) (e := 1) rfl rfl rfl (md170 hM) rfl h2.2.2.2.1 ?_
      refine y_zne rfl rfl rfl (by decide) (fun g10 => ?_) (fun g10 => absurd g10 (by decide))
      refine y_ic rfl rfl ?_
      refine y_st (lv' := [(4, iv 0), (3, iv ((n + 1 : Nat) : Int)), (0, .ref 170), (2, iv atv)]) rfl rfl (fun d => rfl) ?_
      refine y_ld (x := .ref 170) rfl rfl (fun d => rfl) ?_
      refine y_in rfl rfl (fun d => rfl) ?_
      refine y_gI (i := 10) (e := (r2 : Int)) rfl rfl rfl (md170 hM) rfl h2.2.1 ?_
      refine y_ld (x := iv 0) rfl rfl (fun d => rfl) ?_
      refine y_zeq rfl rfl rfl (by decide) (fun g11 => ?_) (fun g11 => absurd g11 (by decide))
      refine y_ic rfl rfl ?_
      refine y_add (z := ((r2 : Int) + 0)) rfl rfl rfl ?_
      refine y_pI (i := 10) rfl rfl rfl (md170 hM) rfl rfl ?_
      refine y_go rfl rfl ?_
      refine y_ld (x := iv 0) rfl rfl (fun d => rfl) ?_
      refine y_zeq rfl rfl rfl (by decide) (fun g12 => ?_) (fun g12 => absurd g12 (by decide))
      refine y_lv (l' := [(0, .ref 170)]) rfl ⟨rfl, trivial⟩ ?_
      exact y_mono (k2 _ _ _ _ (by rw [show 5 - n = (5 - (n + 1)) + 1 by omega]; unfold pAs; rw [x2]) (MP_f (p' := r2) (wr' := 1) (o' := o) (ln' := ln) h2 ⟨rfl, rfl, rfl, rfl, rfl, rfl⟩ rfl h2.2.2.2.1 h2.2.2.2.2.1 h2.2.2.2.2.2.1) (MF_u0 (by decide) (MF_tr (MF_rf a V) f2)) (e2.trans rfl)) (by omega)
end
