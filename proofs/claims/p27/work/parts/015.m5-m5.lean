/-- the loops of every and some -/
def qL (X : Nat → List Int32) (S : m_H) (a z : Nat) (τ : Nat → Int) (ln : Int) (st0 : List Int) (g0 : Nat → Int) (md j lev c n : Nat) : Prop :=
  ∀ (V : v_V) (K : v_K) (u w p o D : Nat) (acc : List p_Tk), o ≤ 5 → p ≤ z → 5 * (z - p) + c ≤ n → st0.length + acc.length ≤ p + 2 → 3 * (6 - o) + lev ≤ D → tkO acc →
    MP V a z τ p 0 o ln (st0 ++ encT acc) (mkT ln g0 acc) →
    (∀ l q V', pX τ z n md o p acc = (some l, q) → MP V' a z τ q 0 o ln (st0 ++ encT l) (mkT ln g0 l) → MF a V V' → V' 176 = V 176 → K u w none S V') →
    (∀ q V' st' g', pX τ z n md o p acc = (none, q) → MP V' a z τ q 1 o ln st' g' → MF a V V' → V' 176 = V 176 → K u w none S V') → y_E X D j (30 * n + 30) u w 4 [(0, .ref 170)] [] S V K
section
variable {X : Nat → List Int32} {u w : Nat} {S : m_H} {V : v_V} {K : v_K}
theorem tkO_op {l : List p_Tk} (h : tkO l) {c : Int} (hc : ¬ c ≤ 122) : tkO (l ++ [(c, 0, 0)]) := by
  intro t ht
  rcases List.mem_append.mp ht with h2 | h2
  · exact h t h2
  · intro h3
    rw [List.mem_singleton.mp h2] at h3
    exact absurd h3 hc
set_option maxRecDepth 100000 in
set_option maxHeartbeats 4000000 in
theorem st_everyL (hM : MdS S) {a z : Nat} {τ : Nat → Int} {ln : Int} {st0 : List Int} {g0 : Nat → Int} (hT : Tp τ a z) (hln : 0 ≤ ln ∧ ln ≤ 8) (hg0 : ∀ c, c < 8 → 0 ≤ g0 c ∧ g0 c ≤ 10) {n : Nat} (hF : qX X S a z τ ln st0 g0 0 118 4 1 n) (hL : qL X S a z τ ln st0 g0 2 119 4 1 n) : qL X S a z τ ln st0 g0 2 119 4 1 (n + 1) := by
  intro V K u w p o D acc ho hp hn hl hD htk h k1 k2
  have hz := hT.2.1
  have hq0 := hr_rg hT p
  refine y_mono (F' := (30 * n + 30) + 30) ?_ (by omega)
  refine y_ld (x := .ref 170) rfl rfl (fun d => rfl) ?_
  refine y_gI (i := 12) (e := 0) rfl rfl rfl (md170 hM) rfl h.2.2.2.1 ?_
  refine y_zne rfl rfl rfl (by decide) (fun g1 => absurd g1 (by decide)) (fun g1 => ?_)
  refine y_ld (x := .ref 170) rfl rfl (fun d => rfl) ?_
  refine y_cV (as := [.ref 170]) rfl rfl rfl rfl rfl (md170 hM) ⟨rfl, (Nat.le_of_ble_eq_true rfl), (Nat.le_of_ble_eq_true rfl)⟩ (by omega) (ct_here hM h (by omega) ?_)
  have hq12 := hr_rg hT (p)
  refine y_nv ?_
  refine y_bi rfl rfl (by decide) ?_
  refine y_jne rfl rfl rfl (by omega) (fun g2 => ?_) (fun g2 => ?_)
  · refine y_ret rfl (fun d => rfl) ?_
    exact k1 _ _ _ (by rw [pX_Tl, if_neg g2]) h (MF_rf a V) rfl
  · refine y_ld (x := .ref 170) rfl rfl (fun d => rfl) ?_
    refine y_in rfl rfl (fun d => rfl) ?_
    refine y_gI (i := 10) (e := (p : Int)) rfl rfl rfl (md170 hM) rfl h.2.1 ?_
    refine y_ic rfl rfl ?_
    refine y_add (z := ((p : Int) + 1)) rfl rfl rfl ?_
    refine y_pI (i := 10) rfl rfl rfl (md170 hM) rfl rfl ?_
    refine y_ld (x := .ref 170) rfl rfl (fun d => rfl) ?_
    have pl0 := hr_le (τ := τ) (z := z) (p := p) (by omega)
    refine y_cV (as := [.ref 170]) rfl rfl rfl rfl rfl (md170 hM) ⟨rfl, (Nat.le_of_ble_eq_true rfl), (Nat.le_of_ble_eq_true rfl)⟩ (by omega) (hF _ _ _ _ (p + 1) o D acc (by omega) (by omega) (by omega) (by omega) (by omega) htk (MP_f (p' := (p + 1)) (wr' := 0) (o' := (o : Int)) (ln' := ln) h ⟨rfl, rfl, rfl, rfl, rfl, rfl⟩ rfl h.2.2.2.1 h.2.2.2.2.1 h.2.2.2.2.2.1) (fun l1 r1 V1 x1 h1 f1 e1 => ?_) (fun r2 V2 s2 g_2 x2 h2 f2 e2 => ?_))
    · have kk1 := pX_ok _ _ _ _ _ _ _ (by decide) (by omega) x1
      have mm1 := (kk1.2.2 _ rfl)
      have tt1 := pX_tk _ _ _ _ _ _ _ (by decide) (by omega) htk x1
      refine y_n0 ?_
      refine y_ld (x := .ref 170) rfl rfl (fun d => rfl) ?_
      refine y_bi rfl rfl (by decide) ?_
      refine y_cV (as := [.ref 170, iv (-2)]) rfl rfl rfl rfl rfl (md170 hM) ⟨rfl, (Nat.le_of_ble_eq_true rfl), (Nat.le_of_ble_eq_true rfl)⟩ (by omega) (ct_emits hM h1 hT.1 (by simp [encT_len]; omega) (fun V3 h3 f3 e3 => ?_))
      refine y_n0 ?_
      refine y_go rfl rfl ?_
      refine y_lv (l' := [(0, .ref 170)]) rfl ⟨rfl, trivial⟩ ?_
      refine y_mono (hL _ _ _ _ r1 o D (l1 ++ [(124, 0, 0)]) (by omega) (by omega) (by omega) (by simp; omega) (by omega) (tkO_op tt1 (by decide)) ?_ ?_ ?_) (by omega)
      · rw [encT_app, mkT_app, ← List.append_assoc]
        exact h3
      · intro l2 q2 V' a1 a2 a3 a4
        exact k1 l2 q2 V' (by rw [pX_Tl, if_pos g2, x1]; exact a1) a2 (MF_tr (MF_tr (MF_tr (MF_u0 (by decide) (MF_rf a V)) f1) f3) a3) (a4.trans (e3.trans (e1.trans rfl)))
      · intro q2 V' st' g' a1 a2 a3 a4
        exact k2 q2 V' st' g' (by rw [pX_Tl, if_pos g2, x1]; exact a1) a2 (MF_tr (MF_tr (MF_tr (MF_u0 (by decide) (MF_rf a V)) f1) f3) a3) (a4.trans (e3.trans (e1.trans rfl)))
    · have kk2 := pX_ok _ _ _ _ _ _ _ (by decide) (by omega) x2
      refine y_n0 ?_
      refine y_ld (x := .ref 170) rfl rfl (fun d => rfl) ?_
      refine y_bi rfl rfl (by decide) ?_
      refine y_cV (as := [.ref 170, iv (-2)]) rfl rfl rfl rfl rfl (md170 hM) ⟨rfl, (Nat.le_of_ble_eq_true rfl), (Nat.le_of_ble_eq_true rfl)⟩ (by omega) (ct_emits1 hM h2 ?_)
      refine y_n0 ?_
      refine y_go rfl rfl ?_
      refine y_ld (x := .ref 170) rfl rfl (fun d => rfl) ?_
      refine y_gI (i := 12) (e := 1) rfl rfl rfl (md170 hM) rfl h2.2.2.2.1 ?_
      refine y_zne rfl rfl rfl (by decide) (fun g3 => ?_) (fun g3 => absurd g3 (by decide))
      refine y_ret rfl (fun d => rfl) ?_
      exact k2 _ _ _ _ (by rw [pX_Tl, if_pos g2, x2]) h2 (MF_tr (MF_u0 (by decide) (MF_rf a V)) f2) (e2.trans rfl)
set_option maxRecDepth 100000 in
set_option maxHeartbeats 4000000 in
theorem st_every (hM : MdS S) {a z : Nat} {τ : Nat → Int} {ln : Int} {st0 : List Int} {g0 : Nat → Int} (hT : Tp τ a z) (hln : 0 ≤ ln ∧ ln ≤ 8) (hg0 : ∀ c, c < 8 → 0 ≤ g0 c ∧ g0 c ≤ 10) {n : Nat} (hn1 : n ≤ 2000) (hF : qX X S a z τ ln st0 g0 0 118 4 1 n) (hL : qL X S a z τ ln st0 g0 2 119 4 1 n) : qX X S a z τ ln st0 g0 1 119 5 2 (n + 1) := by
  intro V K u w p o D acc ho hp hn hl hD htk h k1 k2
  have hz := hT.2.1
  obtain ⟨D, rfl⟩ : ∃ q, D = q + 1 := ⟨D - 1, by omega⟩
  refine y_ent (lv' := [(0, .ref 170)]) (Nat.le_of_ble_eq_true rfl) rfl ?_
  refine y_ld (x := .ref 170) rfl rfl (fun d => rfl) ?_
  refine y_cV (as := [.ref 170]) rfl rfl rfl rfl rfl (md170 hM) ⟨rfl, (Nat.le_of_ble_eq_true rfl), (Nat.le_of_ble_eq_true rfl)⟩ (by omega) (hF _ _ _ _ p o D acc (by omega) (by omega) (by omega) (by omega) (by omega) htk h (fun l1 r1 V1 x1 h1 f1 e1 => ?_) (fun r2 V2 s2 g_2 x2 h2 f2 e2 => ?_))
  · have kk1 := pX_ok _ _ _ _ _ _ _ (by decide) (by omega) x1
    have mm1 := (kk1.2.2 _ rfl)
    have tt1 := pX_tk _ _ _ _ _ _ _ (by decide) (by omega) htk x1
    refine y_n0 ?_
    refine y_mono (hL _ _ _ _ r1 o D l1 (by omega) (by omega) (by omega) (by omega) (by omega) tt1 h1 ?_ ?_) (by omega)
    · intro l2 q2 V' a1 a2 a3 a4
      exact k1 l2 q2 V' (by rw [pX_T, x1]; exact a1) a2 (MF_tr (MF_tr (MF_rf a V) f1) a3) (a4.trans (e1.trans rfl))
    · intro q2 V' st' g' a1 a2 a3 a4
      exact k2 q2 V' st' g' (by rw [pX_T, x1]; exact a1) a2 (MF_tr (MF_tr (MF_rf a V) f1) a3) (a4.trans (e1.trans rfl))
  · have kk2 := pX_ok _ _ _ _ _ _ _ (by decide) (by omega) x2
    refine y_n0 ?_
    refine y_ld (x := .ref 170) rfl rfl (fun d => rfl) ?_
    refine y_gI (i := 12) (e := 1) rfl rfl rfl (md170 hM) rfl h2.2.2.2.1 ?_
    refine y_zne rfl rfl rfl (by decide) (fun g1 => ?_) (fun g1 => absurd g1 (by decide))
    refine y_ret rfl (fun d => rfl) ?_
    exact k2 _ _ _ _ (by rw [pX_T, x2]) h2 (MF_tr (MF_rf a V) f2) (e2.trans rfl)
set_option maxRecDepth 100000 in
set_option maxHeartbeats 4000000 in
theorem st_someL (hM : MdS S) {a z : Nat} {τ : Nat → Int} {ln : Int} {st0 : List Int} {g0 : Nat → Int} (hT : Tp τ a z) (hln : 0 ≤ ln ∧ ln ≤ 8) (hg0 : ∀ c, c < 8 → 0 ≤ g0 c ∧ g0 c ≤ 10) {n : Nat} (hF : qX X S a z τ ln st0 g0 1 119 5 2 n) (hL : qL X S a z τ ln st0 g0 4 120 5 1 n) : qL X S a z τ ln st0 g0 4 120 5 1 (n + 1) := by
  intro V K u w p o D acc ho hp hn hl hD htk h k1 k2
  have hz := hT.2.1
  have hq0 := hr_rg hT p
  refine y_mono (F' := (30 * n + 30) + 30) ?_ (by omega)
  refine y_ld (x := .ref 170) rfl rfl (fun d => rfl) ?_
  refine y_gI (i := 12) (e := 0) rfl rfl rfl (md170 hM) rfl h.2.2.2.1 ?_
  refine y_zne rfl rfl rfl (by decide) (fun g1 => absurd g1 (by decide)) (fun g1 => ?_)
  refine y_ld (x := .ref 170) rfl rfl (fun d => rfl) ?_
  refine y_cV (as := [.ref 170]) rfl rfl rfl rfl rfl (md170 hM) ⟨rfl, (Nat.le_of_ble_eq_true rfl), (Nat.le_of_ble_eq_true rfl)⟩ (by omega) (ct_here hM h (by omega) ?_)
  have hq12 := hr_rg hT (p)
  refine y_nv ?_
  refine y_bi rfl rfl (by decide) ?_
  refine y_jne rfl rfl rfl (by omega) (fun g2 => ?_) (fun g2 => ?_)
  · refine y_ret rfl (fun d => rfl) ?_
    exact k1 _ _ _ (by rw [pX_El, if_neg g2]) h (MF_rf a V) rfl
  · refine y_ld (x := .ref 170) rfl rfl (fun d => rfl) ?_
    refine y_in rfl rfl (fun d => rfl) ?_
    refine y_gI (i := 10) (e := (p : Int)) rfl rfl rfl (md170 hM) rfl h.2.1 ?_
    refine y_ic rfl rfl ?_
    refine y_add (z := ((p : Int) + 1)) rfl rfl rfl ?_
    refine y_pI (i := 10) rfl rfl rfl (md170 hM) rfl rfl ?_
    refine y_ld (x := .ref 170) rfl rfl (fun d => rfl) ?_
    have pl0 := hr_le (τ := τ) (z := z) (p := p) (by omega)
    refine y_cV (as := [.ref 170]) rfl rfl rfl rfl rfl (md170 hM) ⟨rfl, (Nat.le_of_ble_eq_true rfl), (Nat.le_of_ble_eq_true rfl)⟩ (by omega) (hF _ _ _ _ (p + 1) o D acc (by omega) (by omega) (by omega) (by omega) (by omega) htk (MP_f (p' := (p + 1)) (wr' := 0) (o' := (o : Int)) (ln' := ln) h ⟨rfl, rfl, rfl, rfl, rfl, rfl⟩ rfl h.2.2.2.1 h.2.2.2.2.1 h.2.2.2.2.2.1) (fun l1 r1 V1 x1 h1 f1 e1 => ?_) (fun r2 V2 s2 g_2 x2 h2 f2 e2 => ?_))
    · have kk1 := pX_ok _ _ _ _ _ _ _ (by decide) (by omega) x1
      have mm1 := (kk1.2.2 _ rfl)
      have tt1 := pX_tk _ _ _ _ _ _ _ (by decide) (by omega) htk x1
      refine y_n0 ?_
      refine y_ld (x := .ref 170) rfl rfl (fun d => rfl) ?_
      refine y_bi rfl rfl (by decide) ?_
      refine y_cV (as := [.ref 170, iv (-3)]) rfl rfl rfl rfl rfl (md170 hM) ⟨rfl, (Nat.le_of_ble_eq_true rfl), (Nat.le_of_ble_eq_true rfl)⟩ (by omega) (ct_emits hM h1 hT.1 (by simp [encT_len]; omega) (fun V3 h3 f3 e3 => ?_))
      refine y_n0 ?_
      refine y_go rfl rfl ?_
      refine y_lv (l' := [(0, .ref 170)]) rfl ⟨rfl, trivial⟩ ?_
      refine y_mono (hL _ _ _ _ r1 o D (l1 ++ [(125, 0, 0)]) (by omega) (by omega) (by omega) (by simp; omega) (by omega) (tkO_op tt1 (by decide)) ?_ ?_ ?_) (by omega)
      · rw [encT_app, mkT_app, ← List.append_assoc]
        exact h3
      · intro l2 q2 V' a1 a2 a3 a4
        exact k1 l2 q2 V' (by rw [pX_El, if_pos g2, x1]; exact a1) a2 (MF_tr (MF_tr (MF_tr (MF_u0 (by decide) (MF_rf a V)) f1) f3) a3) (a4.trans (e3.trans (e1.trans rfl)))
      · intro q2 V' st' g' a1 a2 a3 a4
        exact k2 q2 V' st' g' (by rw [pX_El, if_pos g2, x1]; exact a1) a2 (MF_tr (MF_tr (MF_tr (MF_u0 (by decide) (MF_rf a V)) f1) f3) a3) (a4.trans (e3.trans (e1.trans rfl)))
    · have kk2 := pX_ok _ _ _ _ _ _ _ (by decide) (by omega) x2
      refine y_n0 ?_
      refine y_ld (x := .ref 170) rfl rfl (fun d => rfl) ?_
      refine y_bi rfl rfl (by decide) ?_
      refine y_cV (as := [.ref 170, iv (-3)]) rfl rfl rfl rfl rfl (md170 hM) ⟨rfl, (Nat.le_of_ble_eq_true rfl), (Nat.le_of_ble_eq_true rfl)⟩ (by omega) (ct_emits1 hM h2 ?_)
      refine y_n0 ?_
      refine y_go rfl rfl ?_
      refine y_ld (x := .ref 170) rfl rfl (fun d => rfl) ?_
      refine y_gI (i := 12) (e := 1) rfl rfl rfl (md170 hM) rfl h2.2.2.2.1 ?_
      refine y_zne rfl rfl rfl (by decide) (fun g3 => ?_) (fun g3 => absurd g3 (by decide))
      refine y_ret rfl (fun d => rfl) ?_
      exact k2 _ _ _ _ (by rw [pX_El, if_pos g2, x2]) h2 (MF_tr (MF_u0 (by decide) (MF_rf a V)) f2) (e2.trans rfl)
set_option maxRecDepth 100000 in
set_option maxHeartbeats 4000000 in
theorem st_some (hM : MdS S) {a z : Nat} {τ : Nat → Int} {ln : Int} {st0 : List Int} {g0 : Nat → Int} (hT : Tp τ a z) (hln : 0 ≤ ln ∧ ln ≤ 8) (hg0 : ∀ c, c < 8 → 0 ≤ g0 c ∧ g0 c ≤ 10) {n : Nat} (hn1 : n ≤ 2000) (hF : qX X S a z τ ln st0 g0 1 119 5 2 n) (hL : qL X S a z τ ln st0 g0 4 120 5 1 n) : qX X S a z τ ln st0 g0 3 120 6 3 (n + 1) := by
  intro V K u w p o D acc ho hp hn hl hD htk h k1 k2
  have hz := hT.2.1
  obtain ⟨D, rfl⟩ : ∃ q, D = q + 1 := ⟨D - 1, by omega⟩
  refine y_ent (lv' := [(0, .ref 170)]) (Nat.le_of_ble_eq_true rfl) rfl ?_
  refine y_ld (x := .ref 170) rfl rfl (fun d => rfl) ?_
  refine y_cV (as := [.ref 170]) rfl rfl rfl rfl rfl (md170 hM) ⟨rfl, (Nat.le_of_ble_eq_true rfl), (Nat.le_of_ble_eq_true rfl)⟩ (by omega) (hF _ _ _ _ p o D acc (by omega) (by omega) (by omega) (by omega) (by omega) htk h (fun l1 r1 V1 x1 h1 f1 e1 => ?_) (fun r2 V2 s2 g_2 x2 h2 f2 e2 => ?_))
  · have kk1 := pX_ok _ _ _ _ _ _ _ (by decide) (by omega) x1
    have mm1 := (kk1.2.2 _ rfl)
    have tt1 := pX_tk _ _ _ _ _ _ _ (by decide) (by omega) htk x1
    refine y_n0 ?_
    refine y_mono (hL _ _ _ _ r1 o D l1 (by omega) (by omega) (by omega) (by omega) (by omega) tt1 h1 ?_ ?_) (by omega)
    · intro l2 q2 V' a1 a2 a3 a4
      exact k1 l2 q2 V' (by rw [pX_E, x1]; exact a1) a2 (MF_tr (MF_tr (MF_rf a V) f1) a3) (a4.trans (e1.trans rfl))
    · intro q2 V' st' g' a1 a2 a3 a4
      exact k2 q2 V' st' g' (by rw [pX_E, x1]; exact a1) a2 (MF_tr (MF_tr (MF_rf a V) f1) a3) (a4.trans (e1.trans rfl))
  · have kk2 := pX_ok _ _ _ _ _ _ _ (by decide) (by omega) x2
    refine y_n0 ?_
    refine y_ld (x := .ref 170) rfl rfl (fun d => rfl) ?_
    refine y_gI (i := 12) (e := 1) rfl rfl rfl (md170 hM) rfl h2.2.2.2.1 ?_
    refine y_zne rfl rfl rfl (by decide) (fun g1 => ?_) (fun g1 => absurd g1 (by decide))
    refine y_ret rfl (fun d => rfl) ?_
    exact k2 _ _ _ _ (by rw [pX_E, x2]) h2 (MF_tr (MF_rf a V) f2) (e2.trans rfl)
theorem st_all (hM : MdS S) {a z : Nat} {τ : Nat → Int} {ln : Int} {st0 : List Int} {g0 : Nat → Int} (hT : Tp τ a z) (hln : 0 ≤ ln ∧ ln ≤ 8) (hg0 : ∀ c, c < 8 → 0 ≤ g0 c ∧ g0 c ≤ 10) : ∀ n, n ≤ 2000 → qX X S a z τ ln st0 g0 0 118 4 1 n ∧ qX X S a z τ ln st0 g0 1 119 5 2 n ∧ qL X S a z τ ln st0 g0 2 119 4 1 n ∧ qX X S a z τ ln st0 g0 3 120 6 3 n ∧ qL X S a z τ ln st0 g0 4 120 5 1 n
  | 0, _ => ⟨fun _ _ _ _ _ _ _ _ _ _ h => absurd h (by omega), fun _ _ _ _ _ _ _ _ _ _ h => absurd h (by omega), fun _ _ _ _ _ _ _ _ _ _ h => absurd h (by omega), fun _ _ _ _ _ _ _ _ _ _ h => absurd h (by omega), fun _ _ _ _ _ _ _ _ _ _ h => absurd h (by omega)⟩
  | n + 1, hn => by
    obtain ⟨a1, a2, a3, a4, a5⟩ := st_all hM hT hln hg0 n (by omega)
    exact ⟨st_factor hM hT hln hg0 a1 a4, st_every hM hT hln hg0 (by omega) a1 a3, st_everyL hM hT hln hg0 a1 a3, st_some hM hT hln hg0 (by omega) a2 a5, st_someL hM hT hln hg0 a2 a5⟩
end
